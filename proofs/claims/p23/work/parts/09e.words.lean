/-! the words that every method of the law takes along: all of the tables that keep -/
def gT : List Cond := lw_tbl.filter goodWord
theorem word_good {w : Cond} (h : (w.onTables && w.keeps) = true ∨ ∃ ty, w = .arrayClass ty) : goodWord w = true := by
  rcases h with h | ⟨ty, rfl⟩
  · cases w <;> first | exact h | rfl
  · rfl
theorem gT_in {w : Cond} (h : w ∈ gT) : w ∈ lw_tbl := (List.mem_filter.mp h).1
theorem gT_good : GoodIn gT gT := fun w h => ⟨h, good_of_word (List.mem_filter.mp h).2⟩
theorem gT_of {ws : List Cond} (h : GoodIn lw_tbl ws) : GoodIn gT ws := fun w hw => ⟨List.mem_filter.mpr ⟨(h w hw).1, word_good (h w hw).2⟩, (h w hw).2⟩
theorem gT_w {w : Cond} (h : w ∈ lw_tbl) (hg : goodWord w = true) : w ∈ gT := List.mem_filter.mpr ⟨h, hg⟩
theorem gT_one {w : Cond} (h : w ∈ lw_tbl) (hg : goodWord w = true) : GoodIn gT [w] := fun u hu => by
  rw [List.mem_singleton.mp hu]
  exact ⟨gT_w h hg, good_of_word hg⟩
/-- the words of a method of the law: its code, and all -/
def lwS (y : MethodName) (c : ByteArray) (n : Nat) (ret : Option FieldType) : List Cond := .code y c n ret :: gT
theorem lwS_in {y : MethodName} {c : ByteArray} {n : Nat} {ret : Option FieldType} {w : Cond} (h : w ∈ gT) : w ∈ lwS y c n ret := List.mem_cons_of_mem _ h
theorem tgL_of {y : MethodName} {c : ByteArray} {n : Nat} {ret : Option FieldType} (h : Cond.code y c n ret ∈ lw_tbl) : GoodIn gT (lwS y c n ret) := fun w hw => (List.mem_cons.mp hw).elim (fun e => by rw [e]; exact ⟨gT_w h rfl, good_of_word rfl⟩) (gT_good w)
theorem gIn_to {ws big big2 : List Cond} (h : GoodIn big ws) (hs : ∀ w ∈ big, w ∈ big2) : GoodIn big2 ws := fun w hw => ⟨hs w (h w hw).1, (h w hw).2⟩
abbrev sL_cell : List Cond := lwS yL_cell cL_cell 2 (some .int)
theorem tgL_cell : GoodIn gT sL_cell := tgL_of wm_446
abbrev sL_seen : List Cond := lwS yL_seen cL_seen 4 (some .long)
theorem tgL_seen : GoodIn gT sL_seen := tgL_of wm_152
abbrev sL_isWhole : List Cond := lwS yL_isWhole cL_isWhole 14 (some .boolean)
theorem tgL_isWhole : GoodIn gT sL_isWhole := tgL_of wm_466
abbrev sL_refusesAny : List Cond := lwS yL_refusesAny cL_refusesAny 4 (some .boolean)
theorem tgL_refusesAny : GoodIn gT sL_refusesAny := tgL_of wm_212
abbrev sL_refuses : List Cond := lwS yL_refuses cL_refuses 5 (some .boolean)
theorem tgL_refuses : GoodIn gT sL_refuses := tgL_of wm_149
abbrev sL_step : List Cond := lwS yL_step cL_step 12 (some .int)
theorem tgL_step : GoodIn gT sL_step := tgL_of wm_454
abbrev sL_go : List Cond := lwS yL_go cL_go 7 (some .int)
theorem tgL_go : GoodIn gT sL_go := tgL_of wm_457
abbrev sL_draw : List Cond := lwS yL_draw cL_draw 8 (some .int)
theorem tgL_draw : GoodIn gT sL_draw := tgL_of wm_460
abbrev sL_finish : List Cond := lwS yL_finish cL_finish 7 (some .int)
theorem tgL_finish : GoodIn gT sL_finish := tgL_of wm_463
abbrev sL_act : List Cond := lwS yL_act cL_act 7 (some .int)
theorem tgL_act : GoodIn gT sL_act := tgL_of wm_451
theorem glL_88 : Cond.methodLink RL 88 yX4_init ∈ gT := gT_w wm_3 (by decide +kernel)
theorem glL_init_i : Cond.instanceMethod yX4_init ∈ gT := gT_w wm_4 (by decide +kernel)
theorem glL_init_n : Cond.initialized RX4 ∈ gT := gT_w wm_2 (by decide +kernel)
theorem glL_89 : GoodIn gT (wsV RL 89 RX4 yX4_undo wsX4_undo) := goodIn_app (gT_of (goodIn_sub (wq wm_71 (wq wm_72 (wq wm_73 (wq wm_2 wz)))) (by decide +kernel))) (gT_of tgX4_undo)
theorem glL_92 : GoodIn gT (wsV RL 92 RX4 yX4_restore wsX4_restore) := goodIn_app (gT_of (goodIn_sub (wq wm_88 (wq wm_89 (wq wm_90 (wq wm_2 wz)))) (by decide +kernel))) (gT_of tgX4_restore)
theorem glL_13 : GoodIn gT (wsV RL 13 RX4 yX4_total wsX4_total) := goodIn_app (gT_of (goodIn_sub (wq wm_112 (wq wm_113 (wq wm_114 (wq wm_2 wz)))) (by decide +kernel))) (gT_of tgX4_total)
theorem glL_95 : GoodIn gT (wsS RL 95 yL_refuses sL_refuses) := goodIn_app (gT_of (goodIn_sub (wq wm_146 (wq wm_147 (wq wm_148 wz))) (by decide +kernel))) tgL_refuses
theorem glL_69 : GoodIn gT (wsS RL 69 yL_seen sL_seen) := goodIn_app (gT_of (goodIn_sub (wq wm_150 (wq wm_151 (wq wm_148 wz))) (by decide +kernel))) tgL_seen
theorem glL_19 : GoodIn gT (wsV RL 19 RX4 yX4_visitor wsX4_visitor) := goodIn_app (gT_of (goodIn_sub (wq wm_155 (wq wm_156 (wq wm_157 (wq wm_2 wz)))) (by decide +kernel))) (gT_of tgX4_visitor)
theorem glL_23 : GoodIn gT (wsV RL 23 RX4 yX4_inLine wsX4_inLine) := goodIn_app (gT_of (goodIn_sub (wq wm_191 (wq wm_192 (wq wm_193 (wq wm_2 wz)))) (by decide +kernel))) (gT_of tgX4_inLine)
theorem glL_26 : GoodIn gT (wsV RL 26 RX4 yX4_card wsX4_card) := goodIn_app (gT_of (goodIn_sub (wq wm_199 (wq wm_200 (wq wm_201 (wq wm_2 wz)))) (by decide +kernel))) (gT_of tgX4_card)
theorem glL_73 : GoodIn gT (wsS RL 73 yL_refusesAny sL_refusesAny) := goodIn_app (gT_of (goodIn_sub (wq wm_210 (wq wm_211 (wq wm_148 wz))) (by decide +kernel))) tgL_refusesAny
theorem glL_31 : GoodIn gT (wsV RL 31 RX4 yX4_build wsX4_build) := goodIn_app (gT_of (goodIn_sub (wq wm_213 (wq wm_214 (wq wm_215 (wq wm_2 wz)))) (by decide +kernel))) (gT_of tgX4_build)
theorem glL_34 : GoodIn gT (wsV RL 34 RX4 yX4_step wsX4_step) := goodIn_app (gT_of (goodIn_sub (wq wm_218 (wq wm_219 (wq wm_220 (wq wm_2 wz)))) (by decide +kernel))) (gT_of tgX4_step)
theorem glL_37 : GoodIn gT (wsV RL 37 RX4 yX4_go wsX4_go) := goodIn_app (gT_of (goodIn_sub (wq wm_294 (wq wm_295 (wq wm_296 (wq wm_2 wz)))) (by decide +kernel))) (gT_of tgX4_go)
theorem glL_40 : GoodIn gT (wsV RL 40 RX4 yX4_draw wsX4_draw) := goodIn_app (gT_of (goodIn_sub (wq wm_308 (wq wm_309 (wq wm_310 (wq wm_2 wz)))) (by decide +kernel))) (gT_of tgX4_draw)
theorem glL_43 : GoodIn gT (wsV RL 43 RX4 yX4_shuffle wsX4_shuffle) := goodIn_app (gT_of (goodIn_sub (wq wm_327 (wq wm_328 (wq wm_329 (wq wm_2 wz)))) (by decide +kernel))) (gT_of tgX4_shuffle)
theorem glL_46 : GoodIn gT (wsV RL 46 RX4 yX4_finish wsX4_finish) := goodIn_app (gT_of (goodIn_sub (wq wm_331 (wq wm_332 (wq wm_333 (wq wm_2 wz)))) (by decide +kernel))) (gT_of tgX4_finish)
theorem glL_50 : GoodIn gT (wsV RL 50 RX4 yX4_stepsToFinish wsX4_stepsToFinish) := goodIn_app (gT_of (goodIn_sub (wq wm_341 (wq wm_342 (wq wm_343 (wq wm_2 wz)))) (by decide +kernel))) (gT_of tgX4_stepsToFinish)
theorem glL_53 : GoodIn gT (wsV RL 53 RX4 yX4_wouldLook wsX4_wouldLook) := goodIn_app (gT_of (goodIn_sub (wq wm_345 (wq wm_346 (wq wm_347 (wq wm_2 wz)))) (by decide +kernel))) (gT_of tgX4_wouldLook)
theorem glL_56 : GoodIn gT (wsV RL 56 RX4 yX4_wouldTouch wsX4_wouldTouch) := goodIn_app (gT_of (goodIn_sub (wq wm_349 (wq wm_350 (wq wm_351 (wq wm_2 wz)))) (by decide +kernel))) (gT_of tgX4_wouldTouch)
theorem glL_59 : GoodIn gT (wsV RL 59 RX4 yX4_orders wsX4_orders) := goodIn_app (gT_of (goodIn_sub (wq wm_354 (wq wm_355 (wq wm_356 (wq wm_2 wz)))) (by decide +kernel))) (gT_of tgX4_orders)
theorem glL_63 : GoodIn gT (wsV RL 63 RX4 yX4_clearText wsX4_clearText) := goodIn_app (gT_of (goodIn_sub (wq wm_398 (wq wm_399 (wq wm_400 (wq wm_2 wz)))) (by decide +kernel))) (gT_of tgX4_clearText)
theorem glL_66 : GoodIn gT (wsV RL 66 RX4 yX4_perform wsX4_perform) := goodIn_app (gT_of (goodIn_sub (wq wm_402 (wq wm_403 (wq wm_404 (wq wm_2 wz)))) (by decide +kernel))) (gT_of tgX4_perform)
theorem glL_98 : GoodIn gT (wsV RL 98 RX4 yX4_keep wsX4_keep) := goodIn_app (gT_of (goodIn_sub (wq wm_440 (wq wm_441 (wq wm_442 (wq wm_2 wz)))) (by decide +kernel))) (gT_of tgX4_keep)
theorem glL_101 : GoodIn gT (wsS RL 101 yL_cell sL_cell) := goodIn_app (gT_of (goodIn_sub (wq wm_444 (wq wm_445 (wq wm_148 wz))) (by decide +kernel))) tgL_cell
theorem glL_105 : GoodIn gT (wsS RL 105 yL_act sL_act) := goodIn_app (gT_of (goodIn_sub (wq wm_449 (wq wm_450 (wq wm_148 wz))) (by decide +kernel))) tgL_act
theorem glL_77 : GoodIn gT (wsS RL 77 yL_step sL_step) := goodIn_app (gT_of (goodIn_sub (wq wm_452 (wq wm_453 (wq wm_148 wz))) (by decide +kernel))) tgL_step
theorem glL_80 : GoodIn gT (wsS RL 80 yL_go sL_go) := goodIn_app (gT_of (goodIn_sub (wq wm_455 (wq wm_456 (wq wm_148 wz))) (by decide +kernel))) tgL_go
theorem glL_82 : GoodIn gT (wsS RL 82 yL_draw sL_draw) := goodIn_app (gT_of (goodIn_sub (wq wm_458 (wq wm_459 (wq wm_148 wz))) (by decide +kernel))) tgL_draw
theorem glL_85 : GoodIn gT (wsS RL 85 yL_finish sL_finish) := goodIn_app (gT_of (goodIn_sub (wq wm_461 (wq wm_462 (wq wm_148 wz))) (by decide +kernel))) tgL_finish
theorem glL_108 : GoodIn gT (wsS RL 108 yL_isWhole sL_isWhole) := goodIn_app (gT_of (goodIn_sub (wq wm_464 (wq wm_465 (wq wm_148 wz))) (by decide +kernel))) tgL_isWhole
theorem gk_wm_0 : Cond.classLink RL 14 RX4 ∈ gT := gT_w wm_0 (by decide +kernel)
theorem gk_wm_153 : Cond.constantLong RL 9 (53) ∈ gT := gT_w wm_153 (by decide +kernel)
theorem gk_wm_154 : Cond.constantLong RL 11 (31) ∈ gT := gT_w wm_154 (by decide +kernel)
theorem gk_wm_447 : Cond.constant RL 7 (1664525) ∈ gT := gT_w wm_447 (by decide +kernel)
theorem gk_wm_448 : Cond.constant RL 8 (2147483647) ∈ gT := gT_w wm_448 (by decide +kernel)
