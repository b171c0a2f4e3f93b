section
-- ===== PART A: goes FIRST, ahead of the names: the tables' words, and 'selects' of the private methods out of them =====
/-- a private method of a class that the tables say can be made, by its rows of tables_1 -/
def lw_okq (q : MethodName × Nat) : Prop := (q.1.cls ≠ "java/lang/invoke/MethodHandle" ∧ q.1.cls ≠ "java/lang/invoke/VarHandle") ∧ Cond.instantiable q.1.cls q.2 ∈ tables_1 ∧ Cond.privateMethod q.1 ∈ tables_1 ∧ Cond.instanceMethod q.1 ∈ tables_1
theorem lw_p0 : lw_okq (⟨"NudgeLocks", "remember", "()V"⟩, 10) := ⟨⟨by decide +kernel, by decide +kernel⟩, List.mem_of_getElem? (i := 10) (by decide +kernel), List.mem_of_getElem? (i := 151) (by decide +kernel), List.mem_of_getElem? (i := 152) (by decide +kernel)⟩
theorem lw_p1 : lw_okq (⟨"NudgeLocks", "dropOldest", "()V"⟩, 10) := ⟨⟨by decide +kernel, by decide +kernel⟩, List.mem_of_getElem? (i := 10) (by decide +kernel), List.mem_of_getElem? (i := 155) (by decide +kernel), List.mem_of_getElem? (i := 156) (by decide +kernel)⟩
theorem lw_p2 : lw_okq (⟨"NudgeLocks$Lock", "mayEnter", "(I)Z"⟩, 1) := ⟨⟨by decide +kernel, by decide +kernel⟩, List.mem_of_getElem? (i := 24) (by decide +kernel), List.mem_of_getElem? (i := 202) (by decide +kernel), List.mem_of_getElem? (i := 203) (by decide +kernel)⟩
theorem lw_p3 : lw_okq (⟨"NudgeLocks$Lock", "advanceNudges", "(I)V"⟩, 1) := ⟨⟨by decide +kernel, by decide +kernel⟩, List.mem_of_getElem? (i := 24) (by decide +kernel), List.mem_of_getElem? (i := 218) (by decide +kernel), List.mem_of_getElem? (i := 219) (by decide +kernel)⟩
theorem lw_p4 : lw_okq (⟨"NudgeLocks$Lock", "moveTo", "(II)V"⟩, 1) := ⟨⟨by decide +kernel, by decide +kernel⟩, List.mem_of_getElem? (i := 24) (by decide +kernel), List.mem_of_getElem? (i := 222) (by decide +kernel), List.mem_of_getElem? (i := 223) (by decide +kernel)⟩
theorem lw_p5 : lw_okq (⟨"NudgeLocks$Lock", "setNext", "(II)V"⟩, 1) := ⟨⟨by decide +kernel, by decide +kernel⟩, List.mem_of_getElem? (i := 24) (by decide +kernel), List.mem_of_getElem? (i := 226) (by decide +kernel), List.mem_of_getElem? (i := 227) (by decide +kernel)⟩
theorem lw_p6 : lw_okq (⟨"NudgeLocks$Lock", "leaveTail", "(I)V"⟩, 1) := ⟨⟨by decide +kernel, by decide +kernel⟩, List.mem_of_getElem? (i := 24) (by decide +kernel), List.mem_of_getElem? (i := 231) (by decide +kernel), List.mem_of_getElem? (i := 232) (by decide +kernel)⟩
theorem lw_p7 : lw_okq (⟨"NudgeLocks$Lock", "lowerFlag", "(I)V"⟩, 1) := ⟨⟨by decide +kernel, by decide +kernel⟩, List.mem_of_getElem? (i := 24) (by decide +kernel), List.mem_of_getElem? (i := 235) (by decide +kernel), List.mem_of_getElem? (i := 236) (by decide +kernel)⟩
theorem lw_p8 : lw_okq (⟨"NudgeLocks$Lock", "advanceWatching", "(I)V"⟩, 1) := ⟨⟨by decide +kernel, by decide +kernel⟩, List.mem_of_getElem? (i := 24) (by decide +kernel), List.mem_of_getElem? (i := 239) (by decide +kernel), List.mem_of_getElem? (i := 240) (by decide +kernel)⟩
theorem lw_p9 : lw_okq (⟨"NudgeLocks$Lock", "setCardFlag", "(II)V"⟩, 1) := ⟨⟨by decide +kernel, by decide +kernel⟩, List.mem_of_getElem? (i := 24) (by decide +kernel), List.mem_of_getElem? (i := 243) (by decide +kernel), List.mem_of_getElem? (i := 244) (by decide +kernel)⟩
theorem lw_p10 : lw_okq (⟨"NudgeLocks$Lock", "advanceTickets", "(I)V"⟩, 1) := ⟨⟨by decide +kernel, by decide +kernel⟩, List.mem_of_getElem? (i := 24) (by decide +kernel), List.mem_of_getElem? (i := 247) (by decide +kernel), List.mem_of_getElem? (i := 248) (by decide +kernel)⟩
theorem lw_p11 : lw_okq (⟨"NudgeLocks$Lock", "advanceGrabbing", "(I)V"⟩, 1) := ⟨⟨by decide +kernel, by decide +kernel⟩, List.mem_of_getElem? (i := 24) (by decide +kernel), List.mem_of_getElem? (i := 251) (by decide +kernel), List.mem_of_getElem? (i := 252) (by decide +kernel)⟩
theorem lw_p12 : lw_okq (⟨"NudgeLocks$State", "joinLine", "(I)V"⟩, 5) := ⟨⟨by decide +kernel, by decide +kernel⟩, List.mem_of_getElem? (i := 18) (by decide +kernel), List.mem_of_getElem? (i := 256) (by decide +kernel), List.mem_of_getElem? (i := 257) (by decide +kernel)⟩
theorem lw_p13 : lw_okq (⟨"NudgeLocks$State", "leaveLine", "(I)V"⟩, 5) := ⟨⟨by decide +kernel, by decide +kernel⟩, List.mem_of_getElem? (i := 18) (by decide +kernel), List.mem_of_getElem? (i := 260) (by decide +kernel), List.mem_of_getElem? (i := 261) (by decide +kernel)⟩
theorem lw_p14 : lw_okq (⟨"NudgeLocks$State", "pauses", "(I)Z"⟩, 5) := ⟨⟨by decide +kernel, by decide +kernel⟩, List.mem_of_getElem? (i := 18) (by decide +kernel), List.mem_of_getElem? (i := 275) (by decide +kernel), List.mem_of_getElem? (i := 276) (by decide +kernel)⟩
theorem lw_p15 : lw_okq (⟨"NudgeLocks$Schedule", "openBracket", "(I)V"⟩, 5) := ⟨⟨by decide +kernel, by decide +kernel⟩, List.mem_of_getElem? (i := 58) (by decide +kernel), List.mem_of_getElem? (i := 322) (by decide +kernel), List.mem_of_getElem? (i := 323) (by decide +kernel)⟩
def lw_privs_1 : List (MethodName × Nat) := [(⟨"NudgeLocks", "remember", "()V"⟩, 10), (⟨"NudgeLocks", "dropOldest", "()V"⟩, 10), (⟨"NudgeLocks$Lock", "mayEnter", "(I)Z"⟩, 1), (⟨"NudgeLocks$Lock", "advanceNudges", "(I)V"⟩, 1), (⟨"NudgeLocks$Lock", "moveTo", "(II)V"⟩, 1), (⟨"NudgeLocks$Lock", "setNext", "(II)V"⟩, 1), (⟨"NudgeLocks$Lock", "leaveTail", "(I)V"⟩, 1), (⟨"NudgeLocks$Lock", "lowerFlag", "(I)V"⟩, 1), (⟨"NudgeLocks$Lock", "advanceWatching", "(I)V"⟩, 1), (⟨"NudgeLocks$Lock", "setCardFlag", "(II)V"⟩, 1), (⟨"NudgeLocks$Lock", "advanceTickets", "(I)V"⟩, 1), (⟨"NudgeLocks$Lock", "advanceGrabbing", "(I)V"⟩, 1), (⟨"NudgeLocks$State", "joinLine", "(I)V"⟩, 5), (⟨"NudgeLocks$State", "leaveLine", "(I)V"⟩, 5), (⟨"NudgeLocks$State", "pauses", "(I)Z"⟩, 5), (⟨"NudgeLocks$Schedule", "openBracket", "(I)V"⟩, 5)]
theorem lw_r1 : ∀ q ∈ lw_privs_1, lw_okq q := List.forall_mem_cons.mpr ⟨lw_p0, List.forall_mem_cons.mpr ⟨lw_p1, List.forall_mem_cons.mpr ⟨lw_p2, List.forall_mem_cons.mpr ⟨lw_p3, List.forall_mem_cons.mpr ⟨lw_p4, List.forall_mem_cons.mpr ⟨lw_p5, List.forall_mem_cons.mpr ⟨lw_p6, List.forall_mem_cons.mpr ⟨lw_p7, List.forall_mem_cons.mpr ⟨lw_p8, List.forall_mem_cons.mpr ⟨lw_p9, List.forall_mem_cons.mpr ⟨lw_p10, List.forall_mem_cons.mpr ⟨lw_p11, List.forall_mem_cons.mpr ⟨lw_p12, List.forall_mem_cons.mpr ⟨lw_p13, List.forall_mem_cons.mpr ⟨lw_p14, List.forall_mem_cons.mpr ⟨lw_p15, fun _ h => absurd h List.not_mem_nil⟩⟩⟩⟩⟩⟩⟩⟩⟩⟩⟩⟩⟩⟩⟩⟩
theorem lw_p16 : lw_okq (⟨"NudgeLocks$Schedule", "closeBracket", "()Z"⟩, 5) := ⟨⟨by decide +kernel, by decide +kernel⟩, List.mem_of_getElem? (i := 58) (by decide +kernel), List.mem_of_getElem? (i := 326) (by decide +kernel), List.mem_of_getElem? (i := 327) (by decide +kernel)⟩
theorem lw_p17 : lw_okq (⟨"NudgeLocks$Schedule", "repeat", "(II)Z"⟩, 5) := ⟨⟨by decide +kernel, by decide +kernel⟩, List.mem_of_getElem? (i := 58) (by decide +kernel), List.mem_of_getElem? (i := 330) (by decide +kernel), List.mem_of_getElem? (i := 331) (by decide +kernel)⟩
theorem lw_p18 : lw_okq (⟨"NudgeLocks$Schedule", "append", "(C)Z"⟩, 5) := ⟨⟨by decide +kernel, by decide +kernel⟩, List.mem_of_getElem? (i := 58) (by decide +kernel), List.mem_of_getElem? (i := 335) (by decide +kernel), List.mem_of_getElem? (i := 336) (by decide +kernel)⟩
theorem lw_p19 : lw_okq (⟨"NudgeLocks$Explorer", "append", "(I)Z"⟩, 4) := ⟨⟨by decide +kernel, by decide +kernel⟩, List.mem_of_getElem? (i := 82) (by decide +kernel), List.mem_of_getElem? (i := 466) (by decide +kernel), List.mem_of_getElem? (i := 467) (by decide +kernel)⟩
theorem lw_p20 : lw_okq (⟨"NudgeLocks$Explorer", "follow", "(III)Z"⟩, 4) := ⟨⟨by decide +kernel, by decide +kernel⟩, List.mem_of_getElem? (i := 82) (by decide +kernel), List.mem_of_getElem? (i := 470) (by decide +kernel), List.mem_of_getElem? (i := 471) (by decide +kernel)⟩
theorem lw_p21 : lw_okq (⟨"NudgeLocks$Explorer", "isKnown", "(I)Z"⟩, 4) := ⟨⟨by decide +kernel, by decide +kernel⟩, List.mem_of_getElem? (i := 82) (by decide +kernel), List.mem_of_getElem? (i := 476) (by decide +kernel), List.mem_of_getElem? (i := 477) (by decide +kernel)⟩
theorem lw_p22 : lw_okq (⟨"NudgeLocks$Explorer", "isStuck", "(III)Z"⟩, 4) := ⟨⟨by decide +kernel, by decide +kernel⟩, List.mem_of_getElem? (i := 82) (by decide +kernel), List.mem_of_getElem? (i := 496) (by decide +kernel), List.mem_of_getElem? (i := 497) (by decide +kernel)⟩
theorem lw_p23 : lw_okq (⟨"NudgeLocksModel", "clearLock", "(I)V"⟩, 18) := ⟨⟨by decide +kernel, by decide +kernel⟩, List.mem_of_getElem? (i := 501) (by decide +kernel), List.mem_of_getElem? (i := 507) (by decide +kernel), List.mem_of_getElem? (i := 508) (by decide +kernel)⟩
theorem lw_p24 : lw_okq (⟨"NudgeLocksModel", "notAway", "()I"⟩, 18) := ⟨⟨by decide +kernel, by decide +kernel⟩, List.mem_of_getElem? (i := 501) (by decide +kernel), List.mem_of_getElem? (i := 577) (by decide +kernel), List.mem_of_getElem? (i := 578) (by decide +kernel)⟩
theorem lw_p25 : lw_okq (⟨"NudgeLocksModel", "record", "()V"⟩, 18) := ⟨⟨by decide +kernel, by decide +kernel⟩, List.mem_of_getElem? (i := 501) (by decide +kernel), List.mem_of_getElem? (i := 585) (by decide +kernel), List.mem_of_getElem? (i := 586) (by decide +kernel)⟩
theorem lw_p26 : lw_okq (⟨"NudgeLocksModel", "makeStep", "(I)V"⟩, 18) := ⟨⟨by decide +kernel, by decide +kernel⟩, List.mem_of_getElem? (i := 501) (by decide +kernel), List.mem_of_getElem? (i := 603) (by decide +kernel), List.mem_of_getElem? (i := 604) (by decide +kernel)⟩
theorem lw_p27 : lw_okq (⟨"NudgeLocksModel", "isLook", "(I)Z"⟩, 18) := ⟨⟨by decide +kernel, by decide +kernel⟩, List.mem_of_getElem? (i := 501) (by decide +kernel), List.mem_of_getElem? (i := 607) (by decide +kernel), List.mem_of_getElem? (i := 608) (by decide +kernel)⟩
theorem lw_p28 : lw_okq (⟨"NudgeLocksModel", "change", "(I)V"⟩, 18) := ⟨⟨by decide +kernel, by decide +kernel⟩, List.mem_of_getElem? (i := 501) (by decide +kernel), List.mem_of_getElem? (i := 614) (by decide +kernel), List.mem_of_getElem? (i := 615) (by decide +kernel)⟩
theorem lw_p29 : lw_okq (⟨"NudgeLocksModel", "changeNudges", "(I)V"⟩, 18) := ⟨⟨by decide +kernel, by decide +kernel⟩, List.mem_of_getElem? (i := 501) (by decide +kernel), List.mem_of_getElem? (i := 618) (by decide +kernel), List.mem_of_getElem? (i := 619) (by decide +kernel)⟩
theorem lw_p30 : lw_okq (⟨"NudgeLocksModel", "changeWatching", "(I)V"⟩, 18) := ⟨⟨by decide +kernel, by decide +kernel⟩, List.mem_of_getElem? (i := 501) (by decide +kernel), List.mem_of_getElem? (i := 622) (by decide +kernel), List.mem_of_getElem? (i := 623) (by decide +kernel)⟩
theorem lw_p31 : lw_okq (⟨"NudgeLocksModel", "changeTickets", "(I)V"⟩, 18) := ⟨⟨by decide +kernel, by decide +kernel⟩, List.mem_of_getElem? (i := 501) (by decide +kernel), List.mem_of_getElem? (i := 626) (by decide +kernel), List.mem_of_getElem? (i := 627) (by decide +kernel)⟩
def lw_privs_2 : List (MethodName × Nat) := [(⟨"NudgeLocks$Schedule", "closeBracket", "()Z"⟩, 5), (⟨"NudgeLocks$Schedule", "repeat", "(II)Z"⟩, 5), (⟨"NudgeLocks$Schedule", "append", "(C)Z"⟩, 5), (⟨"NudgeLocks$Explorer", "append", "(I)Z"⟩, 4), (⟨"NudgeLocks$Explorer", "follow", "(III)Z"⟩, 4), (⟨"NudgeLocks$Explorer", "isKnown", "(I)Z"⟩, 4), (⟨"NudgeLocks$Explorer", "isStuck", "(III)Z"⟩, 4), (⟨"NudgeLocksModel", "clearLock", "(I)V"⟩, 18), (⟨"NudgeLocksModel", "notAway", "()I"⟩, 18), (⟨"NudgeLocksModel", "record", "()V"⟩, 18), (⟨"NudgeLocksModel", "makeStep", "(I)V"⟩, 18), (⟨"NudgeLocksModel", "isLook", "(I)Z"⟩, 18), (⟨"NudgeLocksModel", "change", "(I)V"⟩, 18), (⟨"NudgeLocksModel", "changeNudges", "(I)V"⟩, 18), (⟨"NudgeLocksModel", "changeWatching", "(I)V"⟩, 18), (⟨"NudgeLocksModel", "changeTickets", "(I)V"⟩, 18)]
theorem lw_r2 : ∀ q ∈ lw_privs_2, lw_okq q := List.forall_mem_cons.mpr ⟨lw_p16, List.forall_mem_cons.mpr ⟨lw_p17, List.forall_mem_cons.mpr ⟨lw_p18, List.forall_mem_cons.mpr ⟨lw_p19, List.forall_mem_cons.mpr ⟨lw_p20, List.forall_mem_cons.mpr ⟨lw_p21, List.forall_mem_cons.mpr ⟨lw_p22, List.forall_mem_cons.mpr ⟨lw_p23, List.forall_mem_cons.mpr ⟨lw_p24, List.forall_mem_cons.mpr ⟨lw_p25, List.forall_mem_cons.mpr ⟨lw_p26, List.forall_mem_cons.mpr ⟨lw_p27, List.forall_mem_cons.mpr ⟨lw_p28, List.forall_mem_cons.mpr ⟨lw_p29, List.forall_mem_cons.mpr ⟨lw_p30, List.forall_mem_cons.mpr ⟨lw_p31, fun _ h => absurd h List.not_mem_nil⟩⟩⟩⟩⟩⟩⟩⟩⟩⟩⟩⟩⟩⟩⟩⟩
theorem lw_p32 : lw_okq (⟨"NudgeLocksModel", "changeGrabbing", "(I)V"⟩, 18) := ⟨⟨by decide +kernel, by decide +kernel⟩, List.mem_of_getElem? (i := 501) (by decide +kernel), List.mem_of_getElem? (i := 630) (by decide +kernel), List.mem_of_getElem? (i := 631) (by decide +kernel)⟩
theorem lw_p33 : lw_okq (⟨"NudgeLocksModel", "leaveLine", "(I)V"⟩, 18) := ⟨⟨by decide +kernel, by decide +kernel⟩, List.mem_of_getElem? (i := 501) (by decide +kernel), List.mem_of_getElem? (i := 634) (by decide +kernel), List.mem_of_getElem? (i := 635) (by decide +kernel)⟩
theorem lw_p34 : lw_okq (⟨"NudgeLocksModel", "placeOf", "(I)I"⟩, 18) := ⟨⟨by decide +kernel, by decide +kernel⟩, List.mem_of_getElem? (i := 501) (by decide +kernel), List.mem_of_getElem? (i := 638) (by decide +kernel), List.mem_of_getElem? (i := 639) (by decide +kernel)⟩
theorem lw_p35 : lw_okq (⟨"NudgeLocksModel", "sum", "(I)I"⟩, 18) := ⟨⟨by decide +kernel, by decide +kernel⟩, List.mem_of_getElem? (i := 501) (by decide +kernel), List.mem_of_getElem? (i := 650) (by decide +kernel), List.mem_of_getElem? (i := 651) (by decide +kernel)⟩
theorem lw_p36 : lw_okq (⟨"NudgeLocksModel", "finishAll", "()I"⟩, 18) := ⟨⟨by decide +kernel, by decide +kernel⟩, List.mem_of_getElem? (i := 501) (by decide +kernel), List.mem_of_getElem? (i := 672) (by decide +kernel), List.mem_of_getElem? (i := 673) (by decide +kernel)⟩
theorem lw_p37 : lw_okq (⟨"NudgeLocksModel", "read", "()I"⟩, 18) := ⟨⟨by decide +kernel, by decide +kernel⟩, List.mem_of_getElem? (i := 501) (by decide +kernel), List.mem_of_getElem? (i := 692) (by decide +kernel), List.mem_of_getElem? (i := 693) (by decide +kernel)⟩
theorem lw_p38 : lw_okq (⟨"NudgeLocksModel", "inside", "()I"⟩, 18) := ⟨⟨by decide +kernel, by decide +kernel⟩, List.mem_of_getElem? (i := 501) (by decide +kernel), List.mem_of_getElem? (i := 715) (by decide +kernel), List.mem_of_getElem? (i := 716) (by decide +kernel)⟩
theorem lw_p39 : lw_okq (⟨"NudgeLocksModel", "atStage", "(I)I"⟩, 18) := ⟨⟨by decide +kernel, by decide +kernel⟩, List.mem_of_getElem? (i := 501) (by decide +kernel), List.mem_of_getElem? (i := 719) (by decide +kernel), List.mem_of_getElem? (i := 720) (by decide +kernel)⟩
theorem lw_p40 : lw_okq (⟨"NudgeLocksModel", "collect", "()Z"⟩, 18) := ⟨⟨by decide +kernel, by decide +kernel⟩, List.mem_of_getElem? (i := 501) (by decide +kernel), List.mem_of_getElem? (i := 735) (by decide +kernel), List.mem_of_getElem? (i := 736) (by decide +kernel)⟩
theorem lw_p41 : lw_okq (⟨"NudgeLocksModel", "follow", "(III)Z"⟩, 18) := ⟨⟨by decide +kernel, by decide +kernel⟩, List.mem_of_getElem? (i := 501) (by decide +kernel), List.mem_of_getElem? (i := 739) (by decide +kernel), List.mem_of_getElem? (i := 740) (by decide +kernel)⟩
theorem lw_p42 : lw_okq (⟨"NudgeLocksModel", "takeFound", "(I)V"⟩, 18) := ⟨⟨by decide +kernel, by decide +kernel⟩, List.mem_of_getElem? (i := 501) (by decide +kernel), List.mem_of_getElem? (i := 743) (by decide +kernel), List.mem_of_getElem? (i := 744) (by decide +kernel)⟩
theorem lw_p43 : lw_okq (⟨"NudgeLocksModel", "countFound", "(IIZ)I"⟩, 18) := ⟨⟨by decide +kernel, by decide +kernel⟩, List.mem_of_getElem? (i := 501) (by decide +kernel), List.mem_of_getElem? (i := 747) (by decide +kernel), List.mem_of_getElem? (i := 748) (by decide +kernel)⟩
def lw_privs_3 : List (MethodName × Nat) := [(⟨"NudgeLocksModel", "changeGrabbing", "(I)V"⟩, 18), (⟨"NudgeLocksModel", "leaveLine", "(I)V"⟩, 18), (⟨"NudgeLocksModel", "placeOf", "(I)I"⟩, 18), (⟨"NudgeLocksModel", "sum", "(I)I"⟩, 18), (⟨"NudgeLocksModel", "finishAll", "()I"⟩, 18), (⟨"NudgeLocksModel", "read", "()I"⟩, 18), (⟨"NudgeLocksModel", "inside", "()I"⟩, 18), (⟨"NudgeLocksModel", "atStage", "(I)I"⟩, 18), (⟨"NudgeLocksModel", "collect", "()Z"⟩, 18), (⟨"NudgeLocksModel", "follow", "(III)Z"⟩, 18), (⟨"NudgeLocksModel", "takeFound", "(I)V"⟩, 18), (⟨"NudgeLocksModel", "countFound", "(IIZ)I"⟩, 18)]
theorem lw_r3 : ∀ q ∈ lw_privs_3, lw_okq q := List.forall_mem_cons.mpr ⟨lw_p32, List.forall_mem_cons.mpr ⟨lw_p33, List.forall_mem_cons.mpr ⟨lw_p34, List.forall_mem_cons.mpr ⟨lw_p35, List.forall_mem_cons.mpr ⟨lw_p36, List.forall_mem_cons.mpr ⟨lw_p37, List.forall_mem_cons.mpr ⟨lw_p38, List.forall_mem_cons.mpr ⟨lw_p39, List.forall_mem_cons.mpr ⟨lw_p40, List.forall_mem_cons.mpr ⟨lw_p41, List.forall_mem_cons.mpr ⟨lw_p42, List.forall_mem_cons.mpr ⟨lw_p43, fun _ h => absurd h List.not_mem_nil⟩⟩⟩⟩⟩⟩⟩⟩⟩⟩⟩⟩
def lw_privs : List (MethodName × Nat) := lw_privs_1 ++ (lw_privs_2 ++ (lw_privs_3))
def lw_tbl : List Cond := k2_sels lw_privs ++ tables_1
theorem lw_privs_ok : ∀ q ∈ lw_privs, lw_okq q := by
  show ∀ q ∈ lw_privs_1 ++ (lw_privs_2 ++ (lw_privs_3)), lw_okq q
  exact List.forall_mem_append.mpr ⟨lw_r1, List.forall_mem_append.mpr ⟨lw_r2, lw_r3⟩⟩
-- ===== end of PART A; then your names; then what follows =====
end
section
/-! ===== BEGIN words of one list among another's, by their places ===== -/
theorem goodIn_r {big : List Cond} (ws : List Cond) (ps : List Nat) (hp : ws = ps.filterMap (fun i => big[i]?)) (h : ws.all goodWord = true) : GoodIn big ws := by
  intro w hw
  have h1 := List.all_eq_true.mp h w hw
  rw [hp] at hw
  obtain ⟨i, -, hi⟩ := List.mem_filterMap.mp hw
  have hm : w ∈ big := by first | exact List.mem_of_getElem? hi | exact List.getElem?_mem hi
  exact ⟨hm, good_of_word h1⟩
theorem goodIn_app {big a b : List Cond} (ha : GoodIn big a) (hb : GoodIn big b) : GoodIn big (a ++ b) := fun w h => (List.mem_append.mp h).elim (ha w) (hb w)
theorem goodIn_ca {big a b : List Cond} {c : Cond} (ha : GoodIn big (c :: a)) (hb : GoodIn big b) : GoodIn big (c :: (a ++ b)) := fun w h => (List.mem_cons.mp h).elim (fun e => ha w (List.mem_cons.mpr (Or.inl e))) (fun h => (List.mem_append.mp h).elim (fun h => ha w (List.mem_cons.mpr (Or.inr h))) (hb w))
theorem goodIn_sub {big ws : List Cond} (hm : ∀ w ∈ ws, w ∈ big) (h : ws.all goodWord = true) : GoodIn big ws := fun w hw => ⟨hm w hw, good_of_word (List.all_eq_true.mp h w hw)⟩
/-! ===== END ===== -/

/-! ===== BEGIN printed: names, fields, word lists, decode rows ===== -/
def RX0 : String := "NudgeLocks$Explorer"
def TX0 : u_T := fun k => match k with
  | 0 => ("NudgeLocks$Explorer", "locks", "[LNudgeLocks$Lock;", true)
  | 1 => ("NudgeLocks$Explorer", "back", "[I", true)
  | 2 => ("NudgeLocks$Explorer", "trial", "LNudgeLocks$Lock;", true)
  | _ => ("NudgeLocks$Explorer", "found", "I", false)
def tyX0 : Nat → FieldType := fun k => match k with
  | 0 => .array (.object "NudgeLocks$Lock")
  | 1 => .array .int
  | 2 => .object "NudgeLocks$Lock"
  | _ => .int
abbrev wsX00 : List Cond := u_ws RX0 TX0 4
theorem nmX0 : ∀ a, a < 4 → ∀ b, b < 4 → a ≠ b → (TX0 a).2.1 ≠ (TX0 b).2.1 := by decide +kernel
theorem tyX0_ok : ∀ k, k < 4 → parseFieldDescriptor (TX0 k).2.2.1 = some (tyX0 k) := by decide +kernel
abbrev cX0_init : ByteArray := prog_2_method_1_code
def yX0_init : MethodName := ⟨RX0, "<init>", "()V"⟩
abbrev cX0_found : ByteArray := prog_2_method_2_code
def yX0_found : MethodName := ⟨RX0, "found", "()I"⟩
abbrev cX0_explore : ByteArray := prog_2_method_3_code
def yX0_explore : MethodName := ⟨RX0, "explore", "(LNudgeLocks$Lock;II)Z"⟩
abbrev cX0_follow : ByteArray := prog_2_method_4_code
def yX0_follow : MethodName := ⟨RX0, "follow", "(III)Z"⟩
abbrev cX0_isKnown : ByteArray := prog_2_method_5_code
def yX0_isKnown : MethodName := ⟨RX0, "isKnown", "(I)Z"⟩
abbrev cX0_append : ByteArray := prog_2_method_6_code
def yX0_append : MethodName := ⟨RX0, "append", "(I)Z"⟩
abbrev cX0_countBothInside : ByteArray := prog_2_method_7_code
def yX0_countBothInside : MethodName := ⟨RX0, "countBothInside", "(II)I"⟩
abbrev cX0_countStuck : ByteArray := prog_2_method_8_code
def yX0_countStuck : MethodName := ⟨RX0, "countStuck", "(II)I"⟩
abbrev cX0_isStuck : ByteArray := prog_2_method_9_code
def yX0_isStuck : MethodName := ⟨RX0, "isStuck", "(III)Z"⟩
def RX1 : String := "NudgeLocks$Lock"
def TX1 : u_T := fun k => match k with
  | _ => ("NudgeLocks$Lock", "cells", "[I", true)
def tyX1 : Nat → FieldType := fun k => match k with
  | _ => .array .int
abbrev wsX10 : List Cond := u_ws RX1 TX1 1
theorem nmX1 : ∀ a, a < 1 → ∀ b, b < 1 → a ≠ b → (TX1 a).2.1 ≠ (TX1 b).2.1 := by decide +kernel
theorem tyX1_ok : ∀ k, k < 1 → parseFieldDescriptor (TX1 k).2.2.1 = some (tyX1 k) := by decide +kernel
abbrev cX1_init : ByteArray := prog_3_method_1_code
def yX1_init : MethodName := ⟨RX1, "<init>", "()V"⟩
abbrev cX1_reset : ByteArray := prog_3_method_2_code
def yX1_reset : MethodName := ⟨RX1, "reset", "(I)V"⟩
abbrev cX1_copyFrom : ByteArray := prog_3_method_3_code
def yX1_copyFrom : MethodName := ⟨RX1, "copyFrom", "(LNudgeLocks$Lock;)V"⟩
abbrev cX1_sameAs : ByteArray := prog_3_method_4_code
def yX1_sameAs : MethodName := ⟨RX1, "sameAs", "(LNudgeLocks$Lock;)Z"⟩
abbrev cX1_kind : ByteArray := prog_3_method_5_code
def yX1_kind : MethodName := ⟨RX1, "kind", "()I"⟩
abbrev cX1_stage : ByteArray := prog_3_method_6_code
def yX1_stage : MethodName := ⟨RX1, "stage", "(I)I"⟩
abbrev cX1_nextOf : ByteArray := prog_3_method_7_code
def yX1_nextOf : MethodName := ⟨RX1, "nextOf", "(I)I"⟩
abbrev cX1_aheadOf : ByteArray := prog_3_method_8_code
def yX1_aheadOf : MethodName := ⟨RX1, "aheadOf", "(I)I"⟩
abbrev cX1_ownCard : ByteArray := prog_3_method_9_code
def yX1_ownCard : MethodName := ⟨RX1, "ownCard", "(I)I"⟩
abbrev cX1_ticket : ByteArray := prog_3_method_10_code
def yX1_ticket : MethodName := ⟨RX1, "ticket", "(I)I"⟩
abbrev cX1_flagOf : ByteArray := prog_3_method_11_code
def yX1_flagOf : MethodName := ⟨RX1, "flagOf", "(I)I"⟩
abbrev cX1_cardFlag : ByteArray := prog_3_method_12_code
def yX1_cardFlag : MethodName := ⟨RX1, "cardFlag", "(I)I"⟩
abbrev cX1_tail : ByteArray := prog_3_method_13_code
def yX1_tail : MethodName := ⟨RX1, "tail", "()I"⟩
abbrev cX1_given : ByteArray := prog_3_method_14_code
def yX1_given : MethodName := ⟨RX1, "given", "()I"⟩
abbrev cX1_served : ByteArray := prog_3_method_15_code
def yX1_served : MethodName := ⟨RX1, "served", "()I"⟩
abbrev cX1_grabFlag : ByteArray := prog_3_method_16_code
def yX1_grabFlag : MethodName := ⟨RX1, "grabFlag", "()I"⟩
abbrev cX1_countAt : ByteArray := prog_3_method_17_code
def yX1_countAt : MethodName := ⟨RX1, "countAt", "(I)I"⟩
abbrev cX1_whoIsInside : ByteArray := prog_3_method_18_code
def yX1_whoIsInside : MethodName := ⟨RX1, "whoIsInside", "()I"⟩
abbrev cX1_queues : ByteArray := prog_3_method_19_code
def yX1_queues : MethodName := ⟨RX1, "queues", "(I)Z"⟩
abbrev cX1_touches : ByteArray := prog_3_method_20_code
def yX1_touches : MethodName := ⟨RX1, "touches", "(I)I"⟩
abbrev cX1_waits : ByteArray := prog_3_method_21_code
def yX1_waits : MethodName := ⟨RX1, "waits", "(I)Z"⟩
abbrev cX1_mayEnter : ByteArray := prog_3_method_22_code
def yX1_mayEnter : MethodName := ⟨RX1, "mayEnter", "(I)Z"⟩
abbrev cX1_advance : ByteArray := prog_3_method_23_code
def yX1_advance : MethodName := ⟨RX1, "advance", "(I)V"⟩
abbrev cX1_advanceNudges : ByteArray := prog_3_method_24_code
def yX1_advanceNudges : MethodName := ⟨RX1, "advanceNudges", "(I)V"⟩
abbrev cX1_setNext : ByteArray := prog_3_method_25_code
def yX1_setNext : MethodName := ⟨RX1, "setNext", "(II)V"⟩
abbrev cX1_lowerFlag : ByteArray := prog_3_method_26_code
def yX1_lowerFlag : MethodName := ⟨RX1, "lowerFlag", "(I)V"⟩
abbrev cX1_leaveTail : ByteArray := prog_3_method_27_code
def yX1_leaveTail : MethodName := ⟨RX1, "leaveTail", "(I)V"⟩
abbrev cX1_advanceWatching : ByteArray := prog_3_method_28_code
def yX1_advanceWatching : MethodName := ⟨RX1, "advanceWatching", "(I)V"⟩
abbrev cX1_setCardFlag : ByteArray := prog_3_method_29_code
def yX1_setCardFlag : MethodName := ⟨RX1, "setCardFlag", "(II)V"⟩
abbrev cX1_advanceTickets : ByteArray := prog_3_method_30_code
def yX1_advanceTickets : MethodName := ⟨RX1, "advanceTickets", "(I)V"⟩
abbrev cX1_advanceGrabbing : ByteArray := prog_3_method_31_code
def yX1_advanceGrabbing : MethodName := ⟨RX1, "advanceGrabbing", "(I)V"⟩
abbrev cX1_moveTo : ByteArray := prog_3_method_32_code
def yX1_moveTo : MethodName := ⟨RX1, "moveTo", "(II)V"⟩
def RX2 : String := "NudgeLocks$Schedule"
def TX2 : u_T := fun k => match k with
  | 0 => ("NudgeLocks$Schedule", "plan", "[B", true)
  | 1 => ("NudgeLocks$Schedule", "starts", "[I", true)
  | 2 => ("NudgeLocks$Schedule", "repeats", "[I", true)
  | 3 => ("NudgeLocks$Schedule", "planned", "I", false)
  | _ => ("NudgeLocks$Schedule", "depth", "I", false)
def tyX2 : Nat → FieldType := fun k => match k with
  | 0 => .array .byte
  | 1 => .array .int
  | 2 => .array .int
  | 3 => .int
  | _ => .int
abbrev wsX20 : List Cond := u_ws RX2 TX2 5
theorem nmX2 : ∀ a, a < 5 → ∀ b, b < 5 → a ≠ b → (TX2 a).2.1 ≠ (TX2 b).2.1 := by decide +kernel
theorem tyX2_ok : ∀ k, k < 5 → parseFieldDescriptor (TX2 k).2.2.1 = some (tyX2 k) := by decide +kernel
abbrev cX2_init : ByteArray := prog_4_method_1_code
def yX2_init : MethodName := ⟨RX2, "<init>", "()V"⟩
abbrev cX2_fault : ByteArray := prog_4_method_2_code
def yX2_fault : MethodName := ⟨RX2, "fault", "([CI)I"⟩
abbrev cX2_isLetter : ByteArray := prog_4_method_3_code
def yX2_isLetter : MethodName := ⟨RX2, "isLetter", "(C)Z"⟩
abbrev cX2_isDigit : ByteArray := prog_4_method_4_code
def yX2_isDigit : MethodName := ⟨RX2, "isDigit", "(C)Z"⟩
abbrev cX2_visitorAt : ByteArray := prog_4_method_5_code
def yX2_visitorAt : MethodName := ⟨RX2, "visitorAt", "(I)I"⟩
abbrev cX2_expand : ByteArray := prog_4_method_6_code
def yX2_expand : MethodName := ⟨RX2, "expand", "([CI)I"⟩
abbrev cX2_openBracket : ByteArray := prog_4_method_7_code
def yX2_openBracket : MethodName := ⟨RX2, "openBracket", "(I)V"⟩
abbrev cX2_closeBracket : ByteArray := prog_4_method_8_code
def yX2_closeBracket : MethodName := ⟨RX2, "closeBracket", "()Z"⟩
abbrev cX2_append : ByteArray := prog_4_method_9_code
def yX2_append : MethodName := ⟨RX2, "append", "(C)Z"⟩
abbrev cX2_repeat : ByteArray := prog_4_method_10_code
def yX2_repeat : MethodName := ⟨RX2, "repeat", "(II)Z"⟩
def RX3 : String := "NudgeLocks$State"
def TX3 : u_T := fun k => match k with
  | 0 => ("NudgeLocks$State", "lock", "LNudgeLocks$Lock;", true)
  | 1 => ("NudgeLocks$State", "counts", "[I", true)
  | 2 => ("NudgeLocks$State", "line", "[I", true)
  | 3 => ("NudgeLocks$State", "lineLength", "I", false)
  | _ => ("NudgeLocks$State", "x", "I", false)
def tyX3 : Nat → FieldType := fun k => match k with
  | 0 => .object "NudgeLocks$Lock"
  | 1 => .array .int
  | 2 => .array .int
  | 3 => .int
  | _ => .int
abbrev wsX30 : List Cond := u_ws RX3 TX3 5
theorem nmX3 : ∀ a, a < 5 → ∀ b, b < 5 → a ≠ b → (TX3 a).2.1 ≠ (TX3 b).2.1 := by decide +kernel
theorem tyX3_ok : ∀ k, k < 5 → parseFieldDescriptor (TX3 k).2.2.1 = some (tyX3 k) := by decide +kernel
abbrev cX3_init : ByteArray := prog_5_method_1_code
def yX3_init : MethodName := ⟨RX3, "<init>", "()V"⟩
abbrev cX3_copyFrom : ByteArray := prog_5_method_2_code
def yX3_copyFrom : MethodName := ⟨RX3, "copyFrom", "(LNudgeLocks$State;)V"⟩
abbrev cX3_count : ByteArray := prog_5_method_3_code
def yX3_count : MethodName := ⟨RX3, "count", "(II)I"⟩
abbrev cX3_sum : ByteArray := prog_5_method_4_code
def yX3_sum : MethodName := ⟨RX3, "sum", "(I)I"⟩
abbrev cX3_present : ByteArray := prog_5_method_5_code
def yX3_present : MethodName := ⟨RX3, "present", "()I"⟩
abbrev cX3_visitorAt : ByteArray := prog_5_method_6_code
def yX3_visitorAt : MethodName := ⟨RX3, "visitorAt", "(I)I"⟩
abbrev cX3_placeOf : ByteArray := prog_5_method_7_code
def yX3_placeOf : MethodName := ⟨RX3, "placeOf", "(I)I"⟩
abbrev cX3_advance : ByteArray := prog_5_method_8_code
def yX3_advance : MethodName := ⟨RX3, "advance", "(I)V"⟩
abbrev cX3_joinLine : ByteArray := prog_5_method_9_code
def yX3_joinLine : MethodName := ⟨RX3, "joinLine", "(I)V"⟩
abbrev cX3_leaveLine : ByteArray := prog_5_method_10_code
def yX3_leaveLine : MethodName := ⟨RX3, "leaveLine", "(I)V"⟩
abbrev cX3_advanceFreely : ByteArray := prog_5_method_11_code
def yX3_advanceFreely : MethodName := ⟨RX3, "advanceFreely", "(I)I"⟩
abbrev cX3_pauses : ByteArray := prog_5_method_12_code
def yX3_pauses : MethodName := ⟨RX3, "pauses", "(I)Z"⟩
abbrev cX3_advanceAll : ByteArray := prog_5_method_13_code
def yX3_advanceAll : MethodName := ⟨RX3, "advanceAll", "()I"⟩
abbrev cX3_lot : ByteArray := prog_5_method_14_code
def yX3_lot : MethodName := ⟨RX3, "lot", "(I)I"⟩
def RX4 : String := "NudgeLocks"
def TX4 : u_T := fun k => match k with
  | 0 => ("NudgeLocks", "state", "LNudgeLocks$State;", true)
  | 1 => ("NudgeLocks", "trial", "LNudgeLocks$State;", true)
  | 2 => ("NudgeLocks", "snapshot", "LNudgeLocks$State;", true)
  | 3 => ("NudgeLocks", "hasSnapshot", "Z", false)
  | 4 => ("NudgeLocks", "history", "[LNudgeLocks$State;", true)
  | 5 => ("NudgeLocks", "remembered", "I", false)
  | 6 => ("NudgeLocks", "text", "[C", true)
  | 7 => ("NudgeLocks", "length", "I", false)
  | 8 => ("NudgeLocks", "schedule", "LNudgeLocks$Schedule;", true)
  | _ => ("NudgeLocks", "explorer", "LNudgeLocks$Explorer;", true)
def tyX4 : Nat → FieldType := fun k => match k with
  | 0 => .object "NudgeLocks$State"
  | 1 => .object "NudgeLocks$State"
  | 2 => .object "NudgeLocks$State"
  | 3 => .boolean
  | 4 => .array (.object "NudgeLocks$State")
  | 5 => .int
  | 6 => .array .char
  | 7 => .int
  | 8 => .object "NudgeLocks$Schedule"
  | _ => .object "NudgeLocks$Explorer"
abbrev wsX40 : List Cond := u_ws RX4 TX4 10
theorem nmX4 : ∀ a, a < 10 → ∀ b, b < 10 → a ≠ b → (TX4 a).2.1 ≠ (TX4 b).2.1 := by decide +kernel
theorem tyX4_ok : ∀ k, k < 10 → parseFieldDescriptor (TX4 k).2.2.1 = some (tyX4 k) := by decide +kernel
abbrev cX4_init : ByteArray := prog_1_method_1_code
def yX4_init : MethodName := ⟨RX4, "<init>", "()V"⟩
abbrev cX4_build : ByteArray := prog_1_method_2_code
def yX4_build : MethodName := ⟨RX4, "build", "(I)I"⟩
abbrev cX4_step : ByteArray := prog_1_method_3_code
def yX4_step : MethodName := ⟨RX4, "step", "(I)I"⟩
abbrev cX4_go : ByteArray := prog_1_method_4_code
def yX4_go : MethodName := ⟨RX4, "go", "(I)I"⟩
abbrev cX4_draw : ByteArray := prog_1_method_5_code
def yX4_draw : MethodName := ⟨RX4, "draw", "(II)I"⟩
abbrev cX4_shuffle : ByteArray := prog_1_method_6_code
def yX4_shuffle : MethodName := ⟨RX4, "shuffle", "(I)I"⟩
abbrev cX4_perform : ByteArray := prog_1_method_7_code
def yX4_perform : MethodName := ⟨RX4, "perform", "()I"⟩
abbrev cX4_finish : ByteArray := prog_1_method_8_code
def yX4_finish : MethodName := ⟨RX4, "finish", "()I"⟩
abbrev cX4_type : ByteArray := prog_1_method_9_code
def yX4_type : MethodName := ⟨RX4, "type", "(C)I"⟩
abbrev cX4_clearText : ByteArray := prog_1_method_10_code
def yX4_clearText : MethodName := ⟨RX4, "clearText", "()I"⟩
abbrev cX4_undo : ByteArray := prog_1_method_11_code
def yX4_undo : MethodName := ⟨RX4, "undo", "()I"⟩
abbrev cX4_keep : ByteArray := prog_1_method_12_code
def yX4_keep : MethodName := ⟨RX4, "keep", "()I"⟩
abbrev cX4_restore : ByteArray := prog_1_method_13_code
def yX4_restore : MethodName := ⟨RX4, "restore", "()I"⟩
abbrev cX4_visitor : ByteArray := prog_1_method_14_code
def yX4_visitor : MethodName := ⟨RX4, "visitor", "(II)I"⟩
abbrev cX4_inLine : ByteArray := prog_1_method_15_code
def yX4_inLine : MethodName := ⟨RX4, "inLine", "(I)I"⟩
abbrev cX4_card : ByteArray := prog_1_method_16_code
def yX4_card : MethodName := ⟨RX4, "card", "(I)I"⟩
abbrev cX4_total : ByteArray := prog_1_method_17_code
def yX4_total : MethodName := ⟨RX4, "total", "(I)I"⟩
abbrev cX4_wouldLook : ByteArray := prog_1_method_18_code
def yX4_wouldLook : MethodName := ⟨RX4, "wouldLook", "(I)I"⟩
abbrev cX4_wouldTouch : ByteArray := prog_1_method_19_code
def yX4_wouldTouch : MethodName := ⟨RX4, "wouldTouch", "(I)I"⟩
abbrev cX4_stepsToFinish : ByteArray := prog_1_method_20_code
def yX4_stepsToFinish : MethodName := ⟨RX4, "stepsToFinish", "()I"⟩
abbrev cX4_orders : ByteArray := prog_1_method_21_code
def yX4_orders : MethodName := ⟨RX4, "orders", "(III)I"⟩
abbrev cX4_isVisitor : ByteArray := prog_1_method_22_code
def yX4_isVisitor : MethodName := ⟨RX4, "isVisitor", "(I)Z"⟩
abbrev cX4_isCard : ByteArray := prog_1_method_23_code
def yX4_isCard : MethodName := ⟨RX4, "isCard", "(I)Z"⟩
abbrev cX4_remember : ByteArray := prog_1_method_24_code
def yX4_remember : MethodName := ⟨RX4, "remember", "()V"⟩
abbrev cX4_dropOldest : ByteArray := prog_1_method_25_code
def yX4_dropOldest : MethodName := ⟨RX4, "dropOldest", "()V"⟩
def RX5 : String := "NudgeLocksModel"
def TX5 : u_T := fun k => match k with
  | 0 => ("NudgeLocksModel", "z", "[I", true)
  | 1 => ("NudgeLocksModel", "spare", "[I", true)
  | 2 => ("NudgeLocksModel", "past", "[I", true)
  | 3 => ("NudgeLocksModel", "states", "I", false)
  | 4 => ("NudgeLocksModel", "kept", "[I", true)
  | 5 => ("NudgeLocksModel", "isKept", "Z", false)
  | 6 => ("NudgeLocksModel", "text", "[I", true)
  | 7 => ("NudgeLocksModel", "length", "I", false)
  | 8 => ("NudgeLocksModel", "sums", "[I", true)
  | 9 => ("NudgeLocksModel", "items", "[I", true)
  | 10 => ("NudgeLocksModel", "times", "[I", true)
  | 11 => ("NudgeLocksModel", "begins", "[I", true)
  | 12 => ("NudgeLocksModel", "left", "[I", true)
  | 13 => ("NudgeLocksModel", "stepsTold", "I", false)
  | 14 => ("NudgeLocksModel", "found", "[I", true)
  | 15 => ("NudgeLocksModel", "foundMany", "I", false)
  | 16 => ("NudgeLocksModel", "backOne", "I", false)
  | _ => ("NudgeLocksModel", "backOther", "I", false)
def tyX5 : Nat → FieldType := fun k => match k with
  | 0 => .array .int
  | 1 => .array .int
  | 2 => .array .int
  | 3 => .int
  | 4 => .array .int
  | 5 => .boolean
  | 6 => .array .int
  | 7 => .int
  | 8 => .array .int
  | 9 => .array .int
  | 10 => .array .int
  | 11 => .array .int
  | 12 => .array .int
  | 13 => .int
  | 14 => .array .int
  | 15 => .int
  | 16 => .int
  | _ => .int
abbrev wsX50 : List Cond := u_ws RX5 TX5 18
theorem nmX5 : ∀ a, a < 18 → ∀ b, b < 18 → a ≠ b → (TX5 a).2.1 ≠ (TX5 b).2.1 := by decide +kernel
theorem tyX5_ok : ∀ k, k < 18 → parseFieldDescriptor (TX5 k).2.2.1 = some (tyX5 k) := by decide +kernel
abbrev cX5_init : ByteArray := prog_7_method_1_code
def yX5_init : MethodName := ⟨RX5, "<init>", "()V"⟩
abbrev cX5_in : ByteArray := prog_7_method_2_code
def yX5_in : MethodName := ⟨RX5, "in", "(III)Z"⟩
abbrev cX5_isVisitor : ByteArray := prog_7_method_3_code
def yX5_isVisitor : MethodName := ⟨RX5, "isVisitor", "(I)Z"⟩
abbrev cX5_clearLock : ByteArray := prog_7_method_4_code
def yX5_clearLock : MethodName := ⟨RX5, "clearLock", "(I)V"⟩
abbrev cX5_copyRow : ByteArray := prog_7_method_5_code
def yX5_copyRow : MethodName := ⟨RX5, "copyRow", "([II[III)V"⟩
abbrev cX5_record : ByteArray := prog_7_method_6_code
def yX5_record : MethodName := ⟨RX5, "record", "()V"⟩
abbrev cX5_notAway : ByteArray := prog_7_method_7_code
def yX5_notAway : MethodName := ⟨RX5, "notAway", "()I"⟩
abbrev cX5_undo : ByteArray := prog_7_method_8_code
def yX5_undo : MethodName := ⟨RX5, "undo", "()I"⟩
abbrev cX5_keep : ByteArray := prog_7_method_9_code
def yX5_keep : MethodName := ⟨RX5, "keep", "()I"⟩
abbrev cX5_restore : ByteArray := prog_7_method_10_code
def yX5_restore : MethodName := ⟨RX5, "restore", "()I"⟩
abbrev cX5_isLook : ByteArray := prog_7_method_11_code
def yX5_isLook : MethodName := ⟨RX5, "isLook", "(I)Z"⟩
abbrev cX5_cost : ByteArray := prog_7_method_12_code
def yX5_cost : MethodName := ⟨RX5, "cost", "(II)I"⟩
abbrev cX5_changeNudges : ByteArray := prog_7_method_13_code
def yX5_changeNudges : MethodName := ⟨RX5, "changeNudges", "(I)V"⟩
abbrev cX5_changeWatching : ByteArray := prog_7_method_14_code
def yX5_changeWatching : MethodName := ⟨RX5, "changeWatching", "(I)V"⟩
abbrev cX5_changeTickets : ByteArray := prog_7_method_15_code
def yX5_changeTickets : MethodName := ⟨RX5, "changeTickets", "(I)V"⟩
abbrev cX5_changeGrabbing : ByteArray := prog_7_method_16_code
def yX5_changeGrabbing : MethodName := ⟨RX5, "changeGrabbing", "(I)V"⟩
abbrev cX5_change : ByteArray := prog_7_method_17_code
def yX5_change : MethodName := ⟨RX5, "change", "(I)V"⟩
abbrev cX5_placeOf : ByteArray := prog_7_method_18_code
def yX5_placeOf : MethodName := ⟨RX5, "placeOf", "(I)I"⟩
abbrev cX5_leaveLine : ByteArray := prog_7_method_19_code
def yX5_leaveLine : MethodName := ⟨RX5, "leaveLine", "(I)V"⟩
abbrev cX5_makeStep : ByteArray := prog_7_method_20_code
def yX5_makeStep : MethodName := ⟨RX5, "makeStep", "(I)V"⟩
abbrev cX5_build : ByteArray := prog_7_method_21_code
def yX5_build : MethodName := ⟨RX5, "build", "(I)I"⟩
abbrev cX5_step : ByteArray := prog_7_method_22_code
def yX5_step : MethodName := ⟨RX5, "step", "(I)I"⟩
abbrev cX5_go : ByteArray := prog_7_method_23_code
def yX5_go : MethodName := ⟨RX5, "go", "(I)I"⟩
abbrev cX5_bits : ByteArray := prog_7_method_24_code
def yX5_bits : MethodName := ⟨RX5, "bits", "(I)I"⟩
abbrev cX5_pick : ByteArray := prog_7_method_25_code
def yX5_pick : MethodName := ⟨RX5, "pick", "(II)I"⟩
abbrev cX5_sum : ByteArray := prog_7_method_26_code
def yX5_sum : MethodName := ⟨RX5, "sum", "(I)I"⟩
abbrev cX5_draw : ByteArray := prog_7_method_27_code
def yX5_draw : MethodName := ⟨RX5, "draw", "(II)I"⟩
abbrev cX5_shuffle : ByteArray := prog_7_method_28_code
def yX5_shuffle : MethodName := ⟨RX5, "shuffle", "(I)I"⟩
abbrev cX5_finishAll : ByteArray := prog_7_method_29_code
def yX5_finishAll : MethodName := ⟨RX5, "finishAll", "()I"⟩
abbrev cX5_finish : ByteArray := prog_7_method_30_code
def yX5_finish : MethodName := ⟨RX5, "finish", "()I"⟩
abbrev cX5_stepsToFinish : ByteArray := prog_7_method_31_code
def yX5_stepsToFinish : MethodName := ⟨RX5, "stepsToFinish", "()I"⟩
abbrev cX5_type : ByteArray := prog_7_method_32_code
def yX5_type : MethodName := ⟨RX5, "type", "(C)I"⟩
abbrev cX5_clearText : ByteArray := prog_7_method_33_code
def yX5_clearText : MethodName := ⟨RX5, "clearText", "()I"⟩
abbrev cX5_atMost : ByteArray := prog_7_method_34_code
def yX5_atMost : MethodName := ⟨RX5, "atMost", "(I)I"⟩
abbrev cX5_read : ByteArray := prog_7_method_35_code
def yX5_read : MethodName := ⟨RX5, "read", "()I"⟩
abbrev cX5_perform : ByteArray := prog_7_method_36_code
def yX5_perform : MethodName := ⟨RX5, "perform", "()I"⟩
abbrev cX5_visitor : ByteArray := prog_7_method_37_code
def yX5_visitor : MethodName := ⟨RX5, "visitor", "(II)I"⟩
abbrev cX5_inLine : ByteArray := prog_7_method_38_code
def yX5_inLine : MethodName := ⟨RX5, "inLine", "(I)I"⟩
abbrev cX5_card : ByteArray := prog_7_method_39_code
def yX5_card : MethodName := ⟨RX5, "card", "(I)I"⟩
abbrev cX5_inside : ByteArray := prog_7_method_40_code
def yX5_inside : MethodName := ⟨RX5, "inside", "()I"⟩
abbrev cX5_atStage : ByteArray := prog_7_method_41_code
def yX5_atStage : MethodName := ⟨RX5, "atStage", "(I)I"⟩
abbrev cX5_total : ByteArray := prog_7_method_42_code
def yX5_total : MethodName := ⟨RX5, "total", "(I)I"⟩
abbrev cX5_wouldLook : ByteArray := prog_7_method_43_code
def yX5_wouldLook : MethodName := ⟨RX5, "wouldLook", "(I)I"⟩
abbrev cX5_wouldTouch : ByteArray := prog_7_method_44_code
def yX5_wouldTouch : MethodName := ⟨RX5, "wouldTouch", "(I)I"⟩
abbrev cX5_collect : ByteArray := prog_7_method_45_code
def yX5_collect : MethodName := ⟨RX5, "collect", "()Z"⟩
abbrev cX5_takeFound : ByteArray := prog_7_method_46_code
def yX5_takeFound : MethodName := ⟨RX5, "takeFound", "(I)V"⟩
abbrev cX5_follow : ByteArray := prog_7_method_47_code
def yX5_follow : MethodName := ⟨RX5, "follow", "(III)Z"⟩
abbrev cX5_countFound : ByteArray := prog_7_method_48_code
def yX5_countFound : MethodName := ⟨RX5, "countFound", "(IIZ)I"⟩
abbrev cX5_orders : ByteArray := prog_7_method_49_code
def yX5_orders : MethodName := ⟨RX5, "orders", "(III)I"⟩
def RJ6 : String := "java/lang/Integer"
def TJ6 : u_T := fun k => match k with
  | _ => ("", "", "", false)
def tyJ6 : Nat → FieldType := fun k => match k with
  | _ => .int
abbrev wsJ60 : List Cond := u_ws RJ6 TJ6 0
theorem nmJ6 : ∀ a, a < 0 → ∀ b, b < 0 → a ≠ b → (TJ6 a).2.1 ≠ (TJ6 b).2.1 := by decide +kernel
theorem tyJ6_ok : ∀ k, k < 0 → parseFieldDescriptor (TJ6 k).2.2.1 = some (tyJ6 k) := by decide +kernel
abbrev cJ6_bitCount_0f7a4 : ByteArray := prog_8_method_49_code
def yJ6_bitCount_0f7a4 : MethodName := ⟨RJ6, "bitCount", "(I)I"⟩
def RJ10 : String := "java/lang/System"
def TJ10 : u_T := fun k => match k with
  | _ => ("", "", "", false)
def tyJ10 : Nat → FieldType := fun k => match k with
  | _ => .int
abbrev wsJ100 : List Cond := u_ws RJ10 TJ10 0
theorem nmJ10 : ∀ a, a < 0 → ∀ b, b < 0 → a ≠ b → (TJ10 a).2.1 ≠ (TJ10 b).2.1 := by decide +kernel
theorem tyJ10_ok : ∀ k, k < 0 → parseFieldDescriptor (TJ10 k).2.2.1 = some (tyJ10 k) := by decide +kernel
def RL : String := "NudgeLocksLaw"
abbrev cL_law : ByteArray := code
def yL_law : MethodName := ⟨RL, "law", "([I)Z"⟩
def wsX1_reset : List Cond := .code yX1_reset cX1_reset 3 none :: ([.fieldLink RX1 11 "NudgeLocks$Lock" "cells" "[I"] ++ wsX10)
def wsX1_init : List Cond := .code yX1_init cX1_init 1 none :: ([.methodLink RX1 5 objectInit, .instanceMethod objectInit, .code objectInit ⟨#[0xb1]⟩ 1 none, .arrayClass .int, .fieldLink RX1 11 "NudgeLocks$Lock" "cells" "[I", .methodLink RX1 15 yX1_reset, .instanceMethod yX1_reset, .selects RX1 yX1_reset yX1_reset, .initialized RX1, .code yX1_reset cX1_reset 3 none] ++ wsX10)
def wsX0_init : List Cond := .code yX0_init cX0_init 1 none :: ([.methodLink RX0 5 objectInit, .instanceMethod objectInit, .code objectInit ⟨#[0xb1]⟩ 1 none, .classLink RX0 11 RX1, .fieldLink RX0 13 "NudgeLocks$Explorer" "locks" "[LNudgeLocks$Lock;", .arrayClass .int, .fieldLink RX0 17 "NudgeLocks$Explorer" "back" "[I", .instantiable RX1 1, .initialized RX1, .fieldLink RX0 22 "NudgeLocks$Explorer" "trial" "LNudgeLocks$Lock;", .fieldLink RX0 26 "NudgeLocks$Explorer" "found" "I", .methodLink RX0 21 yX1_init, .instanceMethod yX1_init, .code yX1_init cX1_init 1 none, .methodLink RX1 5 objectInit, .fieldLink RX1 11 "NudgeLocks$Lock" "cells" "[I", .methodLink RX1 15 yX1_reset, .instanceMethod yX1_reset, .selects RX1 yX1_reset yX1_reset, .code yX1_reset cX1_reset 3 none] ++ wsX00 ++ wsX10)
def wsX0_found : List Cond := .code yX0_found cX0_found 1 (some .int) :: ([.fieldLink RX0 26 "NudgeLocks$Explorer" "found" "I"] ++ wsX00)
def wsX1_copyFrom : List Cond := .code yX1_copyFrom cX1_copyFrom 2 none :: ([.fieldLink RX1 11 "NudgeLocks$Lock" "cells" "[I", .methodLink RX1 19 arraycopyName, .native arraycopyName, .static arraycopyName, .initialized "java/lang/System"] ++ wsX10)
def wsX0_append_r1 : List Cond := [Cond.fieldLink RX0 26 "NudgeLocks$Explorer" "found" "I", Cond.fieldLink RX0 13 "NudgeLocks$Explorer" "locks" "[LNudgeLocks$Lock;", Cond.classLink RX0 11 RX1, Cond.instantiable RX1 1, Cond.initialized RX1, Cond.fieldLink RX0 22 "NudgeLocks$Explorer" "trial" "LNudgeLocks$Lock;", Cond.fieldLink RX0 17 "NudgeLocks$Explorer" "back" "[I", Cond.methodLink RX0 21 yX1_init, Cond.instanceMethod yX1_init, Cond.code yX1_init cX1_init 1 none, Cond.methodLink RX1 5 objectInit, Cond.instanceMethod objectInit, Cond.code objectInit ⟨#[0xb1]⟩ 1 none, Cond.arrayClass .int, Cond.fieldLink RX1 11 "NudgeLocks$Lock" "cells" "[I", Cond.methodLink RX1 15 yX1_reset, Cond.instanceMethod yX1_reset, Cond.selects RX1 yX1_reset yX1_reset, Cond.code yX1_reset cX1_reset 3 none, Cond.methodLink RX0 30 yX1_copyFrom, Cond.instanceMethod yX1_copyFrom, Cond.selects RX1 yX1_copyFrom yX1_copyFrom, Cond.code yX1_copyFrom cX1_copyFrom 2 none, Cond.methodLink RX1 19 arraycopyName]
def wsX0_append_r2 : List Cond := [Cond.native arraycopyName, Cond.static arraycopyName, Cond.initialized "java/lang/System"]
def wsX0_append : List Cond := .code yX0_append cX0_append 2 (some .boolean) :: ((wsX0_append_r1 ++ wsX0_append_r2) ++ wsX00 ++ wsX10)
def wsX1_stage : List Cond := .code yX1_stage cX1_stage 2 (some .int) :: ([.fieldLink RX1 11 "NudgeLocks$Lock" "cells" "[I"] ++ wsX10)
def wsX1_kind : List Cond := .code yX1_kind cX1_kind 1 (some .int) :: ([.fieldLink RX1 11 "NudgeLocks$Lock" "cells" "[I"] ++ wsX10)
def wsX4_isCard : List Cond := .code yX4_isCard cX4_isCard 1 (some .boolean) :: ([])
def wsX1_cardFlag : List Cond := .code yX1_cardFlag cX1_cardFlag 2 (some .int) :: ([.fieldLink RX1 11 "NudgeLocks$Lock" "cells" "[I", .static yX4_isCard, .initialized RX4, .code yX4_isCard cX4_isCard 1 (some .boolean)] ++ wsX10)
def wsX1_mayEnter : List Cond := .code yX1_mayEnter cX1_mayEnter 2 (some .boolean) :: ([.fieldLink RX1 11 "NudgeLocks$Lock" "cells" "[I", .methodLink RX1 25 yX1_kind, .instanceMethod yX1_kind, .selects RX1 yX1_kind yX1_kind, .initialized RX1, .code yX1_kind cX1_kind 1 (some .int), .methodLink RX1 43 yX1_cardFlag, .instanceMethod yX1_cardFlag, .selects RX1 yX1_cardFlag yX1_cardFlag, .code yX1_cardFlag cX1_cardFlag 2 (some .int), .static yX4_isCard, .initialized RX4, .code yX4_isCard cX4_isCard 1 (some .boolean)] ++ wsX10)
def wsX1_waits : List Cond := .code yX1_waits cX1_waits 3 (some .boolean) :: ([.fieldLink RX1 11 "NudgeLocks$Lock" "cells" "[I", .methodLink RX1 33 yX1_stage, .instanceMethod yX1_stage, .selects RX1 yX1_stage yX1_stage, .initialized RX1, .code yX1_stage cX1_stage 2 (some .int), .methodLink RX1 40 yX1_mayEnter, .instanceMethod yX1_mayEnter, .selects RX1 yX1_mayEnter yX1_mayEnter, .code yX1_mayEnter cX1_mayEnter 2 (some .boolean), .methodLink RX1 25 yX1_kind, .instanceMethod yX1_kind, .selects RX1 yX1_kind yX1_kind, .code yX1_kind cX1_kind 1 (some .int), .methodLink RX1 43 yX1_cardFlag, .instanceMethod yX1_cardFlag, .selects RX1 yX1_cardFlag yX1_cardFlag, .code yX1_cardFlag cX1_cardFlag 2 (some .int), .static yX4_isCard, .initialized RX4, .code yX4_isCard cX4_isCard 1 (some .boolean)] ++ wsX10)
def wsX1_moveTo : List Cond := .code yX1_moveTo cX1_moveTo 3 none :: ([.fieldLink RX1 11 "NudgeLocks$Lock" "cells" "[I"] ++ wsX10)
def wsX4_isVisitor : List Cond := .code yX4_isVisitor cX4_isVisitor 1 (some .boolean) :: ([])
def wsX1_setNext : List Cond := .code yX1_setNext cX1_setNext 3 none :: ([.fieldLink RX1 11 "NudgeLocks$Lock" "cells" "[I", .static yX4_isVisitor, .initialized RX4, .code yX4_isVisitor cX4_isVisitor 1 (some .boolean)] ++ wsX10)
def wsX1_leaveTail : List Cond := .code yX1_leaveTail cX1_leaveTail 2 none :: ([.fieldLink RX1 11 "NudgeLocks$Lock" "cells" "[I", .methodLink RX1 61 yX1_moveTo, .instanceMethod yX1_moveTo, .selects RX1 yX1_moveTo yX1_moveTo, .initialized RX1, .code yX1_moveTo cX1_moveTo 3 none] ++ wsX10)
def wsX1_lowerFlag : List Cond := .code yX1_lowerFlag cX1_lowerFlag 2 none :: ([.fieldLink RX1 11 "NudgeLocks$Lock" "cells" "[I", .static yX4_isVisitor, .initialized RX4, .code yX4_isVisitor cX4_isVisitor 1 (some .boolean)] ++ wsX10)
def wsX1_advanceNudges_r1 : List Cond := [Cond.fieldLink RX1 11 "NudgeLocks$Lock" "cells" "[I", Cond.methodLink RX1 33 yX1_stage, Cond.instanceMethod yX1_stage, Cond.selects RX1 yX1_stage yX1_stage, Cond.initialized RX1, Cond.code yX1_stage cX1_stage 2 (some .int), Cond.methodLink RX1 61 yX1_moveTo, Cond.instanceMethod yX1_moveTo, Cond.selects RX1 yX1_moveTo yX1_moveTo, Cond.code yX1_moveTo cX1_moveTo 3 none, Cond.methodLink RX1 65 yX1_setNext, Cond.instanceMethod yX1_setNext, Cond.selects RX1 yX1_setNext yX1_setNext, Cond.code yX1_setNext cX1_setNext 3 none, Cond.static yX4_isVisitor, Cond.initialized RX4, Cond.code yX4_isVisitor cX4_isVisitor 1 (some .boolean), Cond.methodLink RX1 68 yX1_leaveTail, Cond.instanceMethod yX1_leaveTail, Cond.selects RX1 yX1_leaveTail yX1_leaveTail, Cond.code yX1_leaveTail cX1_leaveTail 2 none, Cond.methodLink RX1 71 yX1_lowerFlag, Cond.instanceMethod yX1_lowerFlag, Cond.selects RX1 yX1_lowerFlag yX1_lowerFlag]
def wsX1_advanceNudges_r2 : List Cond := [Cond.code yX1_lowerFlag cX1_lowerFlag 2 none]
def wsX1_advanceNudges : List Cond := .code yX1_advanceNudges cX1_advanceNudges 2 none :: ((wsX1_advanceNudges_r1 ++ wsX1_advanceNudges_r2) ++ wsX10)
def wsX1_setCardFlag : List Cond := .code yX1_setCardFlag cX1_setCardFlag 3 none :: ([.fieldLink RX1 11 "NudgeLocks$Lock" "cells" "[I", .static yX4_isCard, .initialized RX4, .code yX4_isCard cX4_isCard 1 (some .boolean)] ++ wsX10)
def wsX1_advanceWatching : List Cond := .code yX1_advanceWatching cX1_advanceWatching 2 none :: ([.fieldLink RX1 11 "NudgeLocks$Lock" "cells" "[I", .methodLink RX1 33 yX1_stage, .instanceMethod yX1_stage, .selects RX1 yX1_stage yX1_stage, .initialized RX1, .code yX1_stage cX1_stage 2 (some .int), .methodLink RX1 77 yX1_setCardFlag, .instanceMethod yX1_setCardFlag, .selects RX1 yX1_setCardFlag yX1_setCardFlag, .code yX1_setCardFlag cX1_setCardFlag 3 none, .static yX4_isCard, .initialized RX4, .code yX4_isCard cX4_isCard 1 (some .boolean), .methodLink RX1 61 yX1_moveTo, .instanceMethod yX1_moveTo, .selects RX1 yX1_moveTo yX1_moveTo, .code yX1_moveTo cX1_moveTo 3 none] ++ wsX10)
def wsX1_advanceTickets : List Cond := .code yX1_advanceTickets cX1_advanceTickets 2 none :: ([.fieldLink RX1 11 "NudgeLocks$Lock" "cells" "[I", .methodLink RX1 33 yX1_stage, .instanceMethod yX1_stage, .selects RX1 yX1_stage yX1_stage, .initialized RX1, .code yX1_stage cX1_stage 2 (some .int), .methodLink RX1 61 yX1_moveTo, .instanceMethod yX1_moveTo, .selects RX1 yX1_moveTo yX1_moveTo, .code yX1_moveTo cX1_moveTo 3 none] ++ wsX10)
def wsX1_advanceGrabbing : List Cond := .code yX1_advanceGrabbing cX1_advanceGrabbing 2 none :: ([.fieldLink RX1 11 "NudgeLocks$Lock" "cells" "[I", .methodLink RX1 33 yX1_stage, .instanceMethod yX1_stage, .selects RX1 yX1_stage yX1_stage, .initialized RX1, .code yX1_stage cX1_stage 2 (some .int), .methodLink RX1 61 yX1_moveTo, .instanceMethod yX1_moveTo, .selects RX1 yX1_moveTo yX1_moveTo, .code yX1_moveTo cX1_moveTo 3 none] ++ wsX10)
def wsX1_advance_r1 : List Cond := [Cond.methodLink RX1 46 yX1_waits, Cond.instanceMethod yX1_waits, Cond.selects RX1 yX1_waits yX1_waits, Cond.initialized RX1, Cond.code yX1_waits cX1_waits 3 (some .boolean), Cond.fieldLink RX1 11 "NudgeLocks$Lock" "cells" "[I", Cond.methodLink RX1 33 yX1_stage, Cond.instanceMethod yX1_stage, Cond.selects RX1 yX1_stage yX1_stage, Cond.code yX1_stage cX1_stage 2 (some .int), Cond.methodLink RX1 40 yX1_mayEnter, Cond.instanceMethod yX1_mayEnter, Cond.selects RX1 yX1_mayEnter yX1_mayEnter, Cond.code yX1_mayEnter cX1_mayEnter 2 (some .boolean), Cond.methodLink RX1 25 yX1_kind, Cond.instanceMethod yX1_kind, Cond.selects RX1 yX1_kind yX1_kind, Cond.code yX1_kind cX1_kind 1 (some .int), Cond.methodLink RX1 43 yX1_cardFlag, Cond.instanceMethod yX1_cardFlag, Cond.selects RX1 yX1_cardFlag yX1_cardFlag, Cond.code yX1_cardFlag cX1_cardFlag 2 (some .int), Cond.static yX4_isCard, Cond.initialized RX4]
def wsX1_advance_r2 : List Cond := [Cond.code yX4_isCard cX4_isCard 1 (some .boolean), Cond.methodLink RX1 49 yX1_advanceNudges, Cond.instanceMethod yX1_advanceNudges, Cond.selects RX1 yX1_advanceNudges yX1_advanceNudges, Cond.code yX1_advanceNudges cX1_advanceNudges 2 none, Cond.methodLink RX1 61 yX1_moveTo, Cond.instanceMethod yX1_moveTo, Cond.selects RX1 yX1_moveTo yX1_moveTo, Cond.code yX1_moveTo cX1_moveTo 3 none, Cond.methodLink RX1 65 yX1_setNext, Cond.instanceMethod yX1_setNext, Cond.selects RX1 yX1_setNext yX1_setNext, Cond.code yX1_setNext cX1_setNext 3 none, Cond.static yX4_isVisitor, Cond.code yX4_isVisitor cX4_isVisitor 1 (some .boolean), Cond.methodLink RX1 68 yX1_leaveTail, Cond.instanceMethod yX1_leaveTail, Cond.selects RX1 yX1_leaveTail yX1_leaveTail, Cond.code yX1_leaveTail cX1_leaveTail 2 none, Cond.methodLink RX1 71 yX1_lowerFlag, Cond.instanceMethod yX1_lowerFlag, Cond.selects RX1 yX1_lowerFlag yX1_lowerFlag, Cond.code yX1_lowerFlag cX1_lowerFlag 2 none, Cond.methodLink RX1 52 yX1_advanceWatching]
def wsX1_advance_r3 : List Cond := [Cond.instanceMethod yX1_advanceWatching, Cond.selects RX1 yX1_advanceWatching yX1_advanceWatching, Cond.code yX1_advanceWatching cX1_advanceWatching 2 none, Cond.methodLink RX1 77 yX1_setCardFlag, Cond.instanceMethod yX1_setCardFlag, Cond.selects RX1 yX1_setCardFlag yX1_setCardFlag, Cond.code yX1_setCardFlag cX1_setCardFlag 3 none, Cond.methodLink RX1 55 yX1_advanceTickets, Cond.instanceMethod yX1_advanceTickets, Cond.selects RX1 yX1_advanceTickets yX1_advanceTickets, Cond.code yX1_advanceTickets cX1_advanceTickets 2 none, Cond.methodLink RX1 58 yX1_advanceGrabbing, Cond.instanceMethod yX1_advanceGrabbing, Cond.selects RX1 yX1_advanceGrabbing yX1_advanceGrabbing, Cond.code yX1_advanceGrabbing cX1_advanceGrabbing 2 none]
def wsX1_advance : List Cond := .code yX1_advance cX1_advance 2 none :: ((wsX1_advance_r1 ++ (wsX1_advance_r2 ++ wsX1_advance_r3)) ++ wsX10)
def wsX1_sameAs : List Cond := .code yX1_sameAs cX1_sameAs 3 (some .boolean) :: ([.fieldLink RX1 11 "NudgeLocks$Lock" "cells" "[I"] ++ wsX10)
def wsX0_isKnown : List Cond := .code yX0_isKnown cX0_isKnown 3 (some .boolean) :: ([.fieldLink RX0 26 "NudgeLocks$Explorer" "found" "I", .fieldLink RX0 17 "NudgeLocks$Explorer" "back" "[I", .fieldLink RX0 13 "NudgeLocks$Explorer" "locks" "[LNudgeLocks$Lock;", .fieldLink RX0 22 "NudgeLocks$Explorer" "trial" "LNudgeLocks$Lock;", .methodLink RX0 53 yX1_sameAs, .instanceMethod yX1_sameAs, .selects RX1 yX1_sameAs yX1_sameAs, .initialized RX1, .code yX1_sameAs cX1_sameAs 3 (some .boolean), .fieldLink RX1 11 "NudgeLocks$Lock" "cells" "[I"] ++ wsX00 ++ wsX10)
def wsX0_follow_r1 : List Cond := [Cond.fieldLink RX0 13 "NudgeLocks$Explorer" "locks" "[LNudgeLocks$Lock;", Cond.fieldLink RX0 17 "NudgeLocks$Explorer" "back" "[I", Cond.fieldLink RX0 22 "NudgeLocks$Explorer" "trial" "LNudgeLocks$Lock;", Cond.methodLink RX0 30 yX1_copyFrom, Cond.instanceMethod yX1_copyFrom, Cond.selects RX1 yX1_copyFrom yX1_copyFrom, Cond.initialized RX1, Cond.code yX1_copyFrom cX1_copyFrom 2 none, Cond.fieldLink RX1 11 "NudgeLocks$Lock" "cells" "[I", Cond.methodLink RX1 19 arraycopyName, Cond.native arraycopyName, Cond.static arraycopyName, Cond.initialized "java/lang/System", Cond.methodLink RX0 42 yX1_advance, Cond.instanceMethod yX1_advance, Cond.selects RX1 yX1_advance yX1_advance, Cond.code yX1_advance cX1_advance 2 none, Cond.methodLink RX1 46 yX1_waits, Cond.instanceMethod yX1_waits, Cond.selects RX1 yX1_waits yX1_waits, Cond.code yX1_waits cX1_waits 3 (some .boolean), Cond.methodLink RX1 33 yX1_stage, Cond.instanceMethod yX1_stage, Cond.selects RX1 yX1_stage yX1_stage]
def wsX0_follow_r2 : List Cond := [Cond.code yX1_stage cX1_stage 2 (some .int), Cond.methodLink RX1 40 yX1_mayEnter, Cond.instanceMethod yX1_mayEnter, Cond.selects RX1 yX1_mayEnter yX1_mayEnter, Cond.code yX1_mayEnter cX1_mayEnter 2 (some .boolean), Cond.methodLink RX1 25 yX1_kind, Cond.instanceMethod yX1_kind, Cond.selects RX1 yX1_kind yX1_kind, Cond.code yX1_kind cX1_kind 1 (some .int), Cond.methodLink RX1 43 yX1_cardFlag, Cond.instanceMethod yX1_cardFlag, Cond.selects RX1 yX1_cardFlag yX1_cardFlag, Cond.code yX1_cardFlag cX1_cardFlag 2 (some .int), Cond.static yX4_isCard, Cond.initialized RX4, Cond.code yX4_isCard cX4_isCard 1 (some .boolean), Cond.methodLink RX1 49 yX1_advanceNudges, Cond.instanceMethod yX1_advanceNudges, Cond.selects RX1 yX1_advanceNudges yX1_advanceNudges, Cond.code yX1_advanceNudges cX1_advanceNudges 2 none, Cond.methodLink RX1 61 yX1_moveTo, Cond.instanceMethod yX1_moveTo, Cond.selects RX1 yX1_moveTo yX1_moveTo, Cond.code yX1_moveTo cX1_moveTo 3 none]
def wsX0_follow_r3 : List Cond := [Cond.methodLink RX1 65 yX1_setNext, Cond.instanceMethod yX1_setNext, Cond.selects RX1 yX1_setNext yX1_setNext, Cond.code yX1_setNext cX1_setNext 3 none, Cond.static yX4_isVisitor, Cond.code yX4_isVisitor cX4_isVisitor 1 (some .boolean), Cond.methodLink RX1 68 yX1_leaveTail, Cond.instanceMethod yX1_leaveTail, Cond.selects RX1 yX1_leaveTail yX1_leaveTail, Cond.code yX1_leaveTail cX1_leaveTail 2 none, Cond.methodLink RX1 71 yX1_lowerFlag, Cond.instanceMethod yX1_lowerFlag, Cond.selects RX1 yX1_lowerFlag yX1_lowerFlag, Cond.code yX1_lowerFlag cX1_lowerFlag 2 none, Cond.methodLink RX1 52 yX1_advanceWatching, Cond.instanceMethod yX1_advanceWatching, Cond.selects RX1 yX1_advanceWatching yX1_advanceWatching, Cond.code yX1_advanceWatching cX1_advanceWatching 2 none, Cond.methodLink RX1 77 yX1_setCardFlag, Cond.instanceMethod yX1_setCardFlag, Cond.selects RX1 yX1_setCardFlag yX1_setCardFlag, Cond.code yX1_setCardFlag cX1_setCardFlag 3 none, Cond.methodLink RX1 55 yX1_advanceTickets, Cond.instanceMethod yX1_advanceTickets]
def wsX0_follow_r4 : List Cond := [Cond.selects RX1 yX1_advanceTickets yX1_advanceTickets, Cond.code yX1_advanceTickets cX1_advanceTickets 2 none, Cond.methodLink RX1 58 yX1_advanceGrabbing, Cond.instanceMethod yX1_advanceGrabbing, Cond.selects RX1 yX1_advanceGrabbing yX1_advanceGrabbing, Cond.code yX1_advanceGrabbing cX1_advanceGrabbing 2 none, Cond.methodLink RX0 46 yX1_stage, Cond.methodLink RX0 50 yX0_isKnown, Cond.instanceMethod yX0_isKnown, Cond.selects RX0 yX0_isKnown yX0_isKnown, Cond.initialized RX0, Cond.code yX0_isKnown cX0_isKnown 3 (some .boolean), Cond.fieldLink RX0 26 "NudgeLocks$Explorer" "found" "I", Cond.methodLink RX0 53 yX1_sameAs, Cond.instanceMethod yX1_sameAs, Cond.selects RX1 yX1_sameAs yX1_sameAs, Cond.code yX1_sameAs cX1_sameAs 3 (some .boolean), Cond.methodLink RX0 34 yX0_append, Cond.instanceMethod yX0_append, Cond.selects RX0 yX0_append yX0_append, Cond.code yX0_append cX0_append 2 (some .boolean), Cond.classLink RX0 11 RX1, Cond.instantiable RX1 1, Cond.methodLink RX0 21 yX1_init]
def wsX0_follow_r5 : List Cond := [Cond.instanceMethod yX1_init, Cond.code yX1_init cX1_init 1 none, Cond.methodLink RX1 5 objectInit, Cond.instanceMethod objectInit, Cond.code objectInit ⟨#[0xb1]⟩ 1 none, Cond.arrayClass .int, Cond.methodLink RX1 15 yX1_reset, Cond.instanceMethod yX1_reset, Cond.selects RX1 yX1_reset yX1_reset, Cond.code yX1_reset cX1_reset 3 none]
def wsX0_follow : List Cond := .code yX0_follow cX0_follow 6 (some .boolean) :: ((wsX0_follow_r1 ++ (wsX0_follow_r2 ++ (wsX0_follow_r3 ++ (wsX0_follow_r4 ++ wsX0_follow_r5)))) ++ wsX00 ++ wsX10)
def wsX0_explore_r1 : List Cond := [Cond.fieldLink RX0 26 "NudgeLocks$Explorer" "found" "I", Cond.fieldLink RX0 22 "NudgeLocks$Explorer" "trial" "LNudgeLocks$Lock;", Cond.methodLink RX0 30 yX1_copyFrom, Cond.instanceMethod yX1_copyFrom, Cond.selects RX1 yX1_copyFrom yX1_copyFrom, Cond.initialized RX1, Cond.code yX1_copyFrom cX1_copyFrom 2 none, Cond.fieldLink RX1 11 "NudgeLocks$Lock" "cells" "[I", Cond.methodLink RX1 19 arraycopyName, Cond.native arraycopyName, Cond.static arraycopyName, Cond.initialized "java/lang/System", Cond.methodLink RX0 34 yX0_append, Cond.instanceMethod yX0_append, Cond.selects RX0 yX0_append yX0_append, Cond.initialized RX0, Cond.code yX0_append cX0_append 2 (some .boolean), Cond.fieldLink RX0 13 "NudgeLocks$Explorer" "locks" "[LNudgeLocks$Lock;", Cond.classLink RX0 11 RX1, Cond.instantiable RX1 1, Cond.fieldLink RX0 17 "NudgeLocks$Explorer" "back" "[I", Cond.methodLink RX0 21 yX1_init, Cond.instanceMethod yX1_init, Cond.code yX1_init cX1_init 1 none]
def wsX0_explore_r2 : List Cond := [Cond.methodLink RX1 5 objectInit, Cond.instanceMethod objectInit, Cond.code objectInit ⟨#[0xb1]⟩ 1 none, Cond.arrayClass .int, Cond.methodLink RX1 15 yX1_reset, Cond.instanceMethod yX1_reset, Cond.selects RX1 yX1_reset yX1_reset, Cond.code yX1_reset cX1_reset 3 none, Cond.methodLink RX0 38 yX0_follow, Cond.instanceMethod yX0_follow, Cond.selects RX0 yX0_follow yX0_follow, Cond.code yX0_follow cX0_follow 6 (some .boolean), Cond.methodLink RX0 42 yX1_advance, Cond.instanceMethod yX1_advance, Cond.selects RX1 yX1_advance yX1_advance, Cond.code yX1_advance cX1_advance 2 none, Cond.methodLink RX1 46 yX1_waits, Cond.instanceMethod yX1_waits, Cond.selects RX1 yX1_waits yX1_waits, Cond.code yX1_waits cX1_waits 3 (some .boolean), Cond.methodLink RX1 33 yX1_stage, Cond.instanceMethod yX1_stage, Cond.selects RX1 yX1_stage yX1_stage, Cond.code yX1_stage cX1_stage 2 (some .int)]
def wsX0_explore_r3 : List Cond := [Cond.methodLink RX1 40 yX1_mayEnter, Cond.instanceMethod yX1_mayEnter, Cond.selects RX1 yX1_mayEnter yX1_mayEnter, Cond.code yX1_mayEnter cX1_mayEnter 2 (some .boolean), Cond.methodLink RX1 25 yX1_kind, Cond.instanceMethod yX1_kind, Cond.selects RX1 yX1_kind yX1_kind, Cond.code yX1_kind cX1_kind 1 (some .int), Cond.methodLink RX1 43 yX1_cardFlag, Cond.instanceMethod yX1_cardFlag, Cond.selects RX1 yX1_cardFlag yX1_cardFlag, Cond.code yX1_cardFlag cX1_cardFlag 2 (some .int), Cond.static yX4_isCard, Cond.initialized RX4, Cond.code yX4_isCard cX4_isCard 1 (some .boolean), Cond.methodLink RX1 49 yX1_advanceNudges, Cond.instanceMethod yX1_advanceNudges, Cond.selects RX1 yX1_advanceNudges yX1_advanceNudges, Cond.code yX1_advanceNudges cX1_advanceNudges 2 none, Cond.methodLink RX1 61 yX1_moveTo, Cond.instanceMethod yX1_moveTo, Cond.selects RX1 yX1_moveTo yX1_moveTo, Cond.code yX1_moveTo cX1_moveTo 3 none, Cond.methodLink RX1 65 yX1_setNext]
def wsX0_explore_r4 : List Cond := [Cond.instanceMethod yX1_setNext, Cond.selects RX1 yX1_setNext yX1_setNext, Cond.code yX1_setNext cX1_setNext 3 none, Cond.static yX4_isVisitor, Cond.code yX4_isVisitor cX4_isVisitor 1 (some .boolean), Cond.methodLink RX1 68 yX1_leaveTail, Cond.instanceMethod yX1_leaveTail, Cond.selects RX1 yX1_leaveTail yX1_leaveTail, Cond.code yX1_leaveTail cX1_leaveTail 2 none, Cond.methodLink RX1 71 yX1_lowerFlag, Cond.instanceMethod yX1_lowerFlag, Cond.selects RX1 yX1_lowerFlag yX1_lowerFlag, Cond.code yX1_lowerFlag cX1_lowerFlag 2 none, Cond.methodLink RX1 52 yX1_advanceWatching, Cond.instanceMethod yX1_advanceWatching, Cond.selects RX1 yX1_advanceWatching yX1_advanceWatching, Cond.code yX1_advanceWatching cX1_advanceWatching 2 none, Cond.methodLink RX1 77 yX1_setCardFlag, Cond.instanceMethod yX1_setCardFlag, Cond.selects RX1 yX1_setCardFlag yX1_setCardFlag, Cond.code yX1_setCardFlag cX1_setCardFlag 3 none, Cond.methodLink RX1 55 yX1_advanceTickets, Cond.instanceMethod yX1_advanceTickets, Cond.selects RX1 yX1_advanceTickets yX1_advanceTickets]
def wsX0_explore_r5 : List Cond := [Cond.code yX1_advanceTickets cX1_advanceTickets 2 none, Cond.methodLink RX1 58 yX1_advanceGrabbing, Cond.instanceMethod yX1_advanceGrabbing, Cond.selects RX1 yX1_advanceGrabbing yX1_advanceGrabbing, Cond.code yX1_advanceGrabbing cX1_advanceGrabbing 2 none, Cond.methodLink RX0 46 yX1_stage, Cond.methodLink RX0 50 yX0_isKnown, Cond.instanceMethod yX0_isKnown, Cond.selects RX0 yX0_isKnown yX0_isKnown, Cond.code yX0_isKnown cX0_isKnown 3 (some .boolean), Cond.methodLink RX0 53 yX1_sameAs, Cond.instanceMethod yX1_sameAs, Cond.selects RX1 yX1_sameAs yX1_sameAs, Cond.code yX1_sameAs cX1_sameAs 3 (some .boolean)]
def wsX0_explore : List Cond := .code yX0_explore cX0_explore 5 (some .boolean) :: ((wsX0_explore_r1 ++ (wsX0_explore_r2 ++ (wsX0_explore_r3 ++ (wsX0_explore_r4 ++ wsX0_explore_r5)))) ++ wsX00 ++ wsX10)
def wsX0_countBothInside : List Cond := .code yX0_countBothInside cX0_countBothInside 6 (some .int) :: ([.fieldLink RX0 26 "NudgeLocks$Explorer" "found" "I", .fieldLink RX0 13 "NudgeLocks$Explorer" "locks" "[LNudgeLocks$Lock;", .methodLink RX0 46 yX1_stage, .instanceMethod yX1_stage, .selects RX1 yX1_stage yX1_stage, .initialized RX1, .code yX1_stage cX1_stage 2 (some .int), .fieldLink RX1 11 "NudgeLocks$Lock" "cells" "[I"] ++ wsX00 ++ wsX10)
def wsX0_isStuck_r1 : List Cond := [Cond.fieldLink RX0 13 "NudgeLocks$Explorer" "locks" "[LNudgeLocks$Lock;", Cond.fieldLink RX0 17 "NudgeLocks$Explorer" "back" "[I", Cond.methodLink RX0 60 yX1_waits, Cond.instanceMethod yX1_waits, Cond.selects RX1 yX1_waits yX1_waits, Cond.initialized RX1, Cond.code yX1_waits cX1_waits 3 (some .boolean), Cond.fieldLink RX1 11 "NudgeLocks$Lock" "cells" "[I", Cond.methodLink RX1 33 yX1_stage, Cond.instanceMethod yX1_stage, Cond.selects RX1 yX1_stage yX1_stage, Cond.code yX1_stage cX1_stage 2 (some .int), Cond.methodLink RX1 40 yX1_mayEnter, Cond.instanceMethod yX1_mayEnter, Cond.selects RX1 yX1_mayEnter yX1_mayEnter, Cond.code yX1_mayEnter cX1_mayEnter 2 (some .boolean), Cond.methodLink RX1 25 yX1_kind, Cond.instanceMethod yX1_kind, Cond.selects RX1 yX1_kind yX1_kind, Cond.code yX1_kind cX1_kind 1 (some .int), Cond.methodLink RX1 43 yX1_cardFlag, Cond.instanceMethod yX1_cardFlag, Cond.selects RX1 yX1_cardFlag yX1_cardFlag, Cond.code yX1_cardFlag cX1_cardFlag 2 (some .int)]
def wsX0_isStuck_r2 : List Cond := [Cond.static yX4_isCard, Cond.initialized RX4, Cond.code yX4_isCard cX4_isCard 1 (some .boolean)]
def wsX0_isStuck : List Cond := .code yX0_isStuck cX0_isStuck 7 (some .boolean) :: ((wsX0_isStuck_r1 ++ wsX0_isStuck_r2) ++ wsX00 ++ wsX10)
def wsX0_countStuck_r1 : List Cond := [Cond.fieldLink RX0 26 "NudgeLocks$Explorer" "found" "I", Cond.methodLink RX0 57 yX0_isStuck, Cond.instanceMethod yX0_isStuck, Cond.selects RX0 yX0_isStuck yX0_isStuck, Cond.initialized RX0, Cond.code yX0_isStuck cX0_isStuck 7 (some .boolean), Cond.fieldLink RX0 13 "NudgeLocks$Explorer" "locks" "[LNudgeLocks$Lock;", Cond.fieldLink RX0 17 "NudgeLocks$Explorer" "back" "[I", Cond.methodLink RX0 60 yX1_waits, Cond.instanceMethod yX1_waits, Cond.selects RX1 yX1_waits yX1_waits, Cond.initialized RX1, Cond.code yX1_waits cX1_waits 3 (some .boolean), Cond.fieldLink RX1 11 "NudgeLocks$Lock" "cells" "[I", Cond.methodLink RX1 33 yX1_stage, Cond.instanceMethod yX1_stage, Cond.selects RX1 yX1_stage yX1_stage, Cond.code yX1_stage cX1_stage 2 (some .int), Cond.methodLink RX1 40 yX1_mayEnter, Cond.instanceMethod yX1_mayEnter, Cond.selects RX1 yX1_mayEnter yX1_mayEnter, Cond.code yX1_mayEnter cX1_mayEnter 2 (some .boolean), Cond.methodLink RX1 25 yX1_kind, Cond.instanceMethod yX1_kind]
def wsX0_countStuck_r2 : List Cond := [Cond.selects RX1 yX1_kind yX1_kind, Cond.code yX1_kind cX1_kind 1 (some .int), Cond.methodLink RX1 43 yX1_cardFlag, Cond.instanceMethod yX1_cardFlag, Cond.selects RX1 yX1_cardFlag yX1_cardFlag, Cond.code yX1_cardFlag cX1_cardFlag 2 (some .int), Cond.static yX4_isCard, Cond.initialized RX4, Cond.code yX4_isCard cX4_isCard 1 (some .boolean)]
def wsX0_countStuck : List Cond := .code yX0_countStuck cX0_countStuck 5 (some .int) :: ((wsX0_countStuck_r1 ++ wsX0_countStuck_r2) ++ wsX00 ++ wsX10)
def wsX1_nextOf : List Cond := .code yX1_nextOf cX1_nextOf 2 (some .int) :: ([.fieldLink RX1 11 "NudgeLocks$Lock" "cells" "[I"] ++ wsX10)
def wsX1_aheadOf : List Cond := .code yX1_aheadOf cX1_aheadOf 2 (some .int) :: ([.fieldLink RX1 11 "NudgeLocks$Lock" "cells" "[I", .methodLink RX1 25 yX1_kind, .instanceMethod yX1_kind, .selects RX1 yX1_kind yX1_kind, .initialized RX1, .code yX1_kind cX1_kind 1 (some .int)] ++ wsX10)
def wsX1_ownCard : List Cond := .code yX1_ownCard cX1_ownCard 2 (some .int) :: ([.fieldLink RX1 11 "NudgeLocks$Lock" "cells" "[I"] ++ wsX10)
def wsX1_ticket : List Cond := .code yX1_ticket cX1_ticket 2 (some .int) :: ([.fieldLink RX1 11 "NudgeLocks$Lock" "cells" "[I"] ++ wsX10)
def wsX1_flagOf : List Cond := .code yX1_flagOf cX1_flagOf 2 (some .int) :: ([.fieldLink RX1 11 "NudgeLocks$Lock" "cells" "[I", .methodLink RX1 25 yX1_kind, .instanceMethod yX1_kind, .selects RX1 yX1_kind yX1_kind, .initialized RX1, .code yX1_kind cX1_kind 1 (some .int)] ++ wsX10)
def wsX1_tail : List Cond := .code yX1_tail cX1_tail 1 (some .int) :: ([.fieldLink RX1 11 "NudgeLocks$Lock" "cells" "[I"] ++ wsX10)
def wsX1_given : List Cond := .code yX1_given cX1_given 1 (some .int) :: ([.fieldLink RX1 11 "NudgeLocks$Lock" "cells" "[I", .methodLink RX1 25 yX1_kind, .instanceMethod yX1_kind, .selects RX1 yX1_kind yX1_kind, .initialized RX1, .code yX1_kind cX1_kind 1 (some .int)] ++ wsX10)
def wsX1_served : List Cond := .code yX1_served cX1_served 1 (some .int) :: ([.fieldLink RX1 11 "NudgeLocks$Lock" "cells" "[I", .methodLink RX1 25 yX1_kind, .instanceMethod yX1_kind, .selects RX1 yX1_kind yX1_kind, .initialized RX1, .code yX1_kind cX1_kind 1 (some .int)] ++ wsX10)
def wsX1_grabFlag : List Cond := .code yX1_grabFlag cX1_grabFlag 1 (some .int) :: ([.fieldLink RX1 11 "NudgeLocks$Lock" "cells" "[I", .methodLink RX1 25 yX1_kind, .instanceMethod yX1_kind, .selects RX1 yX1_kind yX1_kind, .initialized RX1, .code yX1_kind cX1_kind 1 (some .int)] ++ wsX10)
def wsX1_countAt : List Cond := .code yX1_countAt cX1_countAt 4 (some .int) :: ([.methodLink RX1 33 yX1_stage, .instanceMethod yX1_stage, .selects RX1 yX1_stage yX1_stage, .initialized RX1, .code yX1_stage cX1_stage 2 (some .int), .fieldLink RX1 11 "NudgeLocks$Lock" "cells" "[I"] ++ wsX10)
def wsX1_whoIsInside : List Cond := .code yX1_whoIsInside cX1_whoIsInside 2 (some .int) :: ([.methodLink RX1 33 yX1_stage, .instanceMethod yX1_stage, .selects RX1 yX1_stage yX1_stage, .initialized RX1, .code yX1_stage cX1_stage 2 (some .int), .fieldLink RX1 11 "NudgeLocks$Lock" "cells" "[I"] ++ wsX10)
def wsX1_queues : List Cond := .code yX1_queues cX1_queues 2 (some .boolean) :: ([.methodLink RX1 25 yX1_kind, .instanceMethod yX1_kind, .selects RX1 yX1_kind yX1_kind, .initialized RX1, .code yX1_kind cX1_kind 1 (some .int), .fieldLink RX1 11 "NudgeLocks$Lock" "cells" "[I", .methodLink RX1 33 yX1_stage, .instanceMethod yX1_stage, .selects RX1 yX1_stage yX1_stage, .code yX1_stage cX1_stage 2 (some .int)] ++ wsX10)
def wsX1_touches : List Cond := .code yX1_touches cX1_touches 3 (some .int) :: ([.fieldLink RX1 37 "NudgeLocks$Lock" "FAR_TOUCHES" "[I", .methodLink RX1 25 yX1_kind, .instanceMethod yX1_kind, .selects RX1 yX1_kind yX1_kind, .initialized RX1, .code yX1_kind cX1_kind 1 (some .int), .fieldLink RX1 11 "NudgeLocks$Lock" "cells" "[I", .methodLink RX1 33 yX1_stage, .instanceMethod yX1_stage, .selects RX1 yX1_stage yX1_stage, .code yX1_stage cX1_stage 2 (some .int)] ++ wsX10)
def wsX2_init : List Cond := .code yX2_init cX2_init 1 none :: ([.methodLink RX2 3 objectInit, .instanceMethod objectInit, .code objectInit ⟨#[0xb1]⟩ 1 none, .arrayClass .byte, .fieldLink RX2 9 "NudgeLocks$Schedule" "plan" "[B", .arrayClass .int, .fieldLink RX2 15 "NudgeLocks$Schedule" "starts" "[I", .fieldLink RX2 19 "NudgeLocks$Schedule" "repeats" "[I", .fieldLink RX2 22 "NudgeLocks$Schedule" "planned" "I", .fieldLink RX2 26 "NudgeLocks$Schedule" "depth" "I"] ++ wsX20)
def wsX2_isLetter : List Cond := .code yX2_isLetter cX2_isLetter 1 (some .boolean) :: ([])
def wsX2_isDigit : List Cond := .code yX2_isDigit cX2_isDigit 1 (some .boolean) :: ([])
def wsX2_fault : List Cond := .code yX2_fault cX2_fault 7 (some .int) :: ([.methodLink RX2 29 yX2_isLetter, .static yX2_isLetter, .initialized RX2, .code yX2_isLetter cX2_isLetter 1 (some .boolean), .methodLink RX2 33 yX2_isDigit, .static yX2_isDigit, .code yX2_isDigit cX2_isDigit 1 (some .boolean)])
def wsX2_visitorAt : List Cond := .code yX2_visitorAt cX2_visitorAt 2 (some .int) :: ([.fieldLink RX2 22 "NudgeLocks$Schedule" "planned" "I", .fieldLink RX2 9 "NudgeLocks$Schedule" "plan" "[B"] ++ wsX20)
def wsX2_openBracket : List Cond := .code yX2_openBracket cX2_openBracket 2 none :: ([.fieldLink RX2 26 "NudgeLocks$Schedule" "depth" "I", .fieldLink RX2 15 "NudgeLocks$Schedule" "starts" "[I", .fieldLink RX2 22 "NudgeLocks$Schedule" "planned" "I", .fieldLink RX2 19 "NudgeLocks$Schedule" "repeats" "[I"] ++ wsX20)
def wsX2_repeat : List Cond := .code yX2_repeat cX2_repeat 5 (some .boolean) :: ([.fieldLink RX2 22 "NudgeLocks$Schedule" "planned" "I", .fieldLink RX2 9 "NudgeLocks$Schedule" "plan" "[B", .methodLink RX2 51 arraycopyName, .native arraycopyName, .static arraycopyName, .initialized "java/lang/System"] ++ wsX20)
def wsX2_closeBracket : List Cond := .code yX2_closeBracket cX2_closeBracket 1 (some .boolean) :: ([.fieldLink RX2 26 "NudgeLocks$Schedule" "depth" "I", .fieldLink RX2 15 "NudgeLocks$Schedule" "starts" "[I", .fieldLink RX2 19 "NudgeLocks$Schedule" "repeats" "[I", .methodLink RX2 47 yX2_repeat, .instanceMethod yX2_repeat, .selects RX2 yX2_repeat yX2_repeat, .initialized RX2, .code yX2_repeat cX2_repeat 5 (some .boolean), .fieldLink RX2 22 "NudgeLocks$Schedule" "planned" "I", .fieldLink RX2 9 "NudgeLocks$Schedule" "plan" "[B", .methodLink RX2 51 arraycopyName, .native arraycopyName, .static arraycopyName, .initialized "java/lang/System"] ++ wsX20)
def wsX2_append : List Cond := .code yX2_append cX2_append 2 (some .boolean) :: ([.fieldLink RX2 22 "NudgeLocks$Schedule" "planned" "I", .fieldLink RX2 9 "NudgeLocks$Schedule" "plan" "[B", .methodLink RX2 29 yX2_isLetter, .static yX2_isLetter, .initialized RX2, .code yX2_isLetter cX2_isLetter 1 (some .boolean)] ++ wsX20)
def wsX2_expand_r1 : List Cond := [Cond.fieldLink RX2 22 "NudgeLocks$Schedule" "planned" "I", Cond.fieldLink RX2 26 "NudgeLocks$Schedule" "depth" "I", Cond.methodLink RX2 33 yX2_isDigit, Cond.static yX2_isDigit, Cond.initialized RX2, Cond.code yX2_isDigit cX2_isDigit 1 (some .boolean), Cond.methodLink RX2 36 yX2_openBracket, Cond.instanceMethod yX2_openBracket, Cond.selects RX2 yX2_openBracket yX2_openBracket, Cond.code yX2_openBracket cX2_openBracket 2 none, Cond.fieldLink RX2 15 "NudgeLocks$Schedule" "starts" "[I", Cond.fieldLink RX2 19 "NudgeLocks$Schedule" "repeats" "[I", Cond.methodLink RX2 40 yX2_closeBracket, Cond.instanceMethod yX2_closeBracket, Cond.selects RX2 yX2_closeBracket yX2_closeBracket, Cond.code yX2_closeBracket cX2_closeBracket 1 (some .boolean), Cond.methodLink RX2 47 yX2_repeat, Cond.instanceMethod yX2_repeat, Cond.selects RX2 yX2_repeat yX2_repeat, Cond.code yX2_repeat cX2_repeat 5 (some .boolean), Cond.fieldLink RX2 9 "NudgeLocks$Schedule" "plan" "[B", Cond.methodLink RX2 51 arraycopyName, Cond.native arraycopyName, Cond.static arraycopyName]
def wsX2_expand_r2 : List Cond := [Cond.initialized "java/lang/System", Cond.methodLink RX2 44 yX2_append, Cond.instanceMethod yX2_append, Cond.selects RX2 yX2_append yX2_append, Cond.code yX2_append cX2_append 2 (some .boolean), Cond.methodLink RX2 29 yX2_isLetter, Cond.static yX2_isLetter, Cond.code yX2_isLetter cX2_isLetter 1 (some .boolean)]
def wsX2_expand : List Cond := .code yX2_expand cX2_expand 7 (some .int) :: ((wsX2_expand_r1 ++ wsX2_expand_r2) ++ wsX20)
def wsX3_init : List Cond := .code yX3_init cX3_init 1 none :: ([.methodLink RX3 5 objectInit, .instanceMethod objectInit, .code objectInit ⟨#[0xb1]⟩ 1 none, .classLink RX3 11 RX1, .instantiable RX1 1, .initialized RX1, .fieldLink RX3 14 "NudgeLocks$State" "lock" "LNudgeLocks$Lock;", .arrayClass .int, .fieldLink RX3 18 "NudgeLocks$State" "counts" "[I", .fieldLink RX3 22 "NudgeLocks$State" "line" "[I", .fieldLink RX3 25 "NudgeLocks$State" "lineLength" "I", .fieldLink RX3 29 "NudgeLocks$State" "x" "I", .methodLink RX3 13 yX1_init, .instanceMethod yX1_init, .code yX1_init cX1_init 1 none, .methodLink RX1 5 objectInit, .fieldLink RX1 11 "NudgeLocks$Lock" "cells" "[I", .methodLink RX1 15 yX1_reset, .instanceMethod yX1_reset, .selects RX1 yX1_reset yX1_reset, .code yX1_reset cX1_reset 3 none] ++ wsX10 ++ wsX30)
def wsX3_copyFrom : List Cond := .code yX3_copyFrom cX3_copyFrom 2 none :: ([.fieldLink RX3 14 "NudgeLocks$State" "lock" "LNudgeLocks$Lock;", .fieldLink RX3 18 "NudgeLocks$State" "counts" "[I", .methodLink RX3 36 arraycopyName, .native arraycopyName, .static arraycopyName, .initialized "java/lang/System", .fieldLink RX3 22 "NudgeLocks$State" "line" "[I", .fieldLink RX3 25 "NudgeLocks$State" "lineLength" "I", .fieldLink RX3 29 "NudgeLocks$State" "x" "I", .methodLink RX3 32 yX1_copyFrom, .instanceMethod yX1_copyFrom, .selects RX1 yX1_copyFrom yX1_copyFrom, .initialized RX1, .code yX1_copyFrom cX1_copyFrom 2 none, .fieldLink RX1 11 "NudgeLocks$Lock" "cells" "[I", .methodLink RX1 19 arraycopyName] ++ wsX30 ++ wsX10)
def wsX3_count : List Cond := .code yX3_count cX3_count 3 (some .int) :: ([.fieldLink RX3 18 "NudgeLocks$State" "counts" "[I"] ++ wsX30)
def wsX3_sum : List Cond := .code yX3_sum cX3_sum 4 (some .int) :: ([.fieldLink RX3 18 "NudgeLocks$State" "counts" "[I"] ++ wsX30)
def wsX3_present : List Cond := .code yX3_present cX3_present 1 (some .int) :: ([.fieldLink RX3 14 "NudgeLocks$State" "lock" "LNudgeLocks$Lock;", .methodLink RX3 42 yX1_countAt, .instanceMethod yX1_countAt, .selects RX1 yX1_countAt yX1_countAt, .initialized RX1, .code yX1_countAt cX1_countAt 4 (some .int), .methodLink RX1 33 yX1_stage, .instanceMethod yX1_stage, .selects RX1 yX1_stage yX1_stage, .code yX1_stage cX1_stage 2 (some .int), .fieldLink RX1 11 "NudgeLocks$Lock" "cells" "[I"] ++ wsX30 ++ wsX10)
def wsX3_visitorAt : List Cond := .code yX3_visitorAt cX3_visitorAt 2 (some .int) :: ([.fieldLink RX3 25 "NudgeLocks$State" "lineLength" "I", .fieldLink RX3 22 "NudgeLocks$State" "line" "[I"] ++ wsX30)
def wsX3_placeOf : List Cond := .code yX3_placeOf cX3_placeOf 3 (some .int) :: ([.fieldLink RX3 25 "NudgeLocks$State" "lineLength" "I", .fieldLink RX3 22 "NudgeLocks$State" "line" "[I"] ++ wsX30)
def wsX3_joinLine : List Cond := .code yX3_joinLine cX3_joinLine 2 none :: ([.fieldLink RX3 25 "NudgeLocks$State" "lineLength" "I", .fieldLink RX3 22 "NudgeLocks$State" "line" "[I"] ++ wsX30)
def wsX3_leaveLine : List Cond := .code yX3_leaveLine cX3_leaveLine 4 none :: ([.fieldLink RX3 25 "NudgeLocks$State" "lineLength" "I", .fieldLink RX3 22 "NudgeLocks$State" "line" "[I"] ++ wsX30)
def wsX3_advance_r1 : List Cond := [Cond.fieldLink RX3 14 "NudgeLocks$State" "lock" "LNudgeLocks$Lock;", Cond.fieldLink RX3 18 "NudgeLocks$State" "counts" "[I", Cond.methodLink RX3 46 yX1_queues, Cond.instanceMethod yX1_queues, Cond.selects RX1 yX1_queues yX1_queues, Cond.initialized RX1, Cond.code yX1_queues cX1_queues 2 (some .boolean), Cond.methodLink RX1 25 yX1_kind, Cond.instanceMethod yX1_kind, Cond.selects RX1 yX1_kind yX1_kind, Cond.code yX1_kind cX1_kind 1 (some .int), Cond.fieldLink RX1 11 "NudgeLocks$Lock" "cells" "[I", Cond.methodLink RX1 33 yX1_stage, Cond.instanceMethod yX1_stage, Cond.selects RX1 yX1_stage yX1_stage, Cond.code yX1_stage cX1_stage 2 (some .int), Cond.methodLink RX3 50 yX1_touches, Cond.instanceMethod yX1_touches, Cond.selects RX1 yX1_touches yX1_touches, Cond.code yX1_touches cX1_touches 3 (some .int), Cond.fieldLink RX1 37 "NudgeLocks$Lock" "FAR_TOUCHES" "[I", Cond.methodLink RX3 53 yX1_waits, Cond.instanceMethod yX1_waits, Cond.selects RX1 yX1_waits yX1_waits]
def wsX3_advance_r2 : List Cond := [Cond.code yX1_waits cX1_waits 3 (some .boolean), Cond.methodLink RX1 40 yX1_mayEnter, Cond.instanceMethod yX1_mayEnter, Cond.selects RX1 yX1_mayEnter yX1_mayEnter, Cond.code yX1_mayEnter cX1_mayEnter 2 (some .boolean), Cond.methodLink RX1 43 yX1_cardFlag, Cond.instanceMethod yX1_cardFlag, Cond.selects RX1 yX1_cardFlag yX1_cardFlag, Cond.code yX1_cardFlag cX1_cardFlag 2 (some .int), Cond.static yX4_isCard, Cond.initialized RX4, Cond.code yX4_isCard cX4_isCard 1 (some .boolean), Cond.methodLink RX3 56 yX1_advance, Cond.instanceMethod yX1_advance, Cond.selects RX1 yX1_advance yX1_advance, Cond.code yX1_advance cX1_advance 2 none, Cond.methodLink RX1 46 yX1_waits, Cond.methodLink RX1 49 yX1_advanceNudges, Cond.instanceMethod yX1_advanceNudges, Cond.selects RX1 yX1_advanceNudges yX1_advanceNudges, Cond.code yX1_advanceNudges cX1_advanceNudges 2 none, Cond.methodLink RX1 61 yX1_moveTo, Cond.instanceMethod yX1_moveTo, Cond.selects RX1 yX1_moveTo yX1_moveTo]
def wsX3_advance_r3 : List Cond := [Cond.code yX1_moveTo cX1_moveTo 3 none, Cond.methodLink RX1 65 yX1_setNext, Cond.instanceMethod yX1_setNext, Cond.selects RX1 yX1_setNext yX1_setNext, Cond.code yX1_setNext cX1_setNext 3 none, Cond.static yX4_isVisitor, Cond.code yX4_isVisitor cX4_isVisitor 1 (some .boolean), Cond.methodLink RX1 68 yX1_leaveTail, Cond.instanceMethod yX1_leaveTail, Cond.selects RX1 yX1_leaveTail yX1_leaveTail, Cond.code yX1_leaveTail cX1_leaveTail 2 none, Cond.methodLink RX1 71 yX1_lowerFlag, Cond.instanceMethod yX1_lowerFlag, Cond.selects RX1 yX1_lowerFlag yX1_lowerFlag, Cond.code yX1_lowerFlag cX1_lowerFlag 2 none, Cond.methodLink RX1 52 yX1_advanceWatching, Cond.instanceMethod yX1_advanceWatching, Cond.selects RX1 yX1_advanceWatching yX1_advanceWatching, Cond.code yX1_advanceWatching cX1_advanceWatching 2 none, Cond.methodLink RX1 77 yX1_setCardFlag, Cond.instanceMethod yX1_setCardFlag, Cond.selects RX1 yX1_setCardFlag yX1_setCardFlag, Cond.code yX1_setCardFlag cX1_setCardFlag 3 none, Cond.methodLink RX1 55 yX1_advanceTickets]
def wsX3_advance_r4 : List Cond := [Cond.instanceMethod yX1_advanceTickets, Cond.selects RX1 yX1_advanceTickets yX1_advanceTickets, Cond.code yX1_advanceTickets cX1_advanceTickets 2 none, Cond.methodLink RX1 58 yX1_advanceGrabbing, Cond.instanceMethod yX1_advanceGrabbing, Cond.selects RX1 yX1_advanceGrabbing yX1_advanceGrabbing, Cond.code yX1_advanceGrabbing cX1_advanceGrabbing 2 none, Cond.methodLink RX3 60 yX1_stage, Cond.methodLink RX3 63 yX3_joinLine, Cond.instanceMethod yX3_joinLine, Cond.selects RX3 yX3_joinLine yX3_joinLine, Cond.initialized RX3, Cond.code yX3_joinLine cX3_joinLine 2 none, Cond.fieldLink RX3 25 "NudgeLocks$State" "lineLength" "I", Cond.fieldLink RX3 22 "NudgeLocks$State" "line" "[I", Cond.methodLink RX3 66 yX3_leaveLine, Cond.instanceMethod yX3_leaveLine, Cond.selects RX3 yX3_leaveLine yX3_leaveLine, Cond.code yX3_leaveLine cX3_leaveLine 4 none]
def wsX3_advance : List Cond := .code yX3_advance cX3_advance 3 none :: ((wsX3_advance_r1 ++ (wsX3_advance_r2 ++ (wsX3_advance_r3 ++ wsX3_advance_r4))) ++ wsX30 ++ wsX10)
def wsX3_pauses_r1 : List Cond := [Cond.fieldLink RX3 14 "NudgeLocks$State" "lock" "LNudgeLocks$Lock;", Cond.methodLink RX3 60 yX1_stage, Cond.instanceMethod yX1_stage, Cond.selects RX1 yX1_stage yX1_stage, Cond.initialized RX1, Cond.code yX1_stage cX1_stage 2 (some .int), Cond.fieldLink RX1 11 "NudgeLocks$Lock" "cells" "[I", Cond.methodLink RX3 53 yX1_waits, Cond.instanceMethod yX1_waits, Cond.selects RX1 yX1_waits yX1_waits, Cond.code yX1_waits cX1_waits 3 (some .boolean), Cond.methodLink RX1 33 yX1_stage, Cond.methodLink RX1 40 yX1_mayEnter, Cond.instanceMethod yX1_mayEnter, Cond.selects RX1 yX1_mayEnter yX1_mayEnter, Cond.code yX1_mayEnter cX1_mayEnter 2 (some .boolean), Cond.methodLink RX1 25 yX1_kind, Cond.instanceMethod yX1_kind, Cond.selects RX1 yX1_kind yX1_kind, Cond.code yX1_kind cX1_kind 1 (some .int), Cond.methodLink RX1 43 yX1_cardFlag, Cond.instanceMethod yX1_cardFlag, Cond.selects RX1 yX1_cardFlag yX1_cardFlag, Cond.code yX1_cardFlag cX1_cardFlag 2 (some .int)]
def wsX3_pauses_r2 : List Cond := [Cond.static yX4_isCard, Cond.initialized RX4, Cond.code yX4_isCard cX4_isCard 1 (some .boolean)]
def wsX3_pauses : List Cond := .code yX3_pauses cX3_pauses 3 (some .boolean) :: ((wsX3_pauses_r1 ++ wsX3_pauses_r2) ++ wsX30 ++ wsX10)
def wsX3_advanceFreely_r1 : List Cond := [Cond.methodLink RX3 69 yX3_advance, Cond.instanceMethod yX3_advance, Cond.selects RX3 yX3_advance yX3_advance, Cond.initialized RX3, Cond.code yX3_advance cX3_advance 3 none, Cond.fieldLink RX3 14 "NudgeLocks$State" "lock" "LNudgeLocks$Lock;", Cond.fieldLink RX3 18 "NudgeLocks$State" "counts" "[I", Cond.methodLink RX3 46 yX1_queues, Cond.instanceMethod yX1_queues, Cond.selects RX1 yX1_queues yX1_queues, Cond.initialized RX1, Cond.code yX1_queues cX1_queues 2 (some .boolean), Cond.methodLink RX1 25 yX1_kind, Cond.instanceMethod yX1_kind, Cond.selects RX1 yX1_kind yX1_kind, Cond.code yX1_kind cX1_kind 1 (some .int), Cond.fieldLink RX1 11 "NudgeLocks$Lock" "cells" "[I", Cond.methodLink RX1 33 yX1_stage, Cond.instanceMethod yX1_stage, Cond.selects RX1 yX1_stage yX1_stage, Cond.code yX1_stage cX1_stage 2 (some .int), Cond.methodLink RX3 50 yX1_touches, Cond.instanceMethod yX1_touches, Cond.selects RX1 yX1_touches yX1_touches]
def wsX3_advanceFreely_r2 : List Cond := [Cond.code yX1_touches cX1_touches 3 (some .int), Cond.fieldLink RX1 37 "NudgeLocks$Lock" "FAR_TOUCHES" "[I", Cond.methodLink RX3 53 yX1_waits, Cond.instanceMethod yX1_waits, Cond.selects RX1 yX1_waits yX1_waits, Cond.code yX1_waits cX1_waits 3 (some .boolean), Cond.methodLink RX1 40 yX1_mayEnter, Cond.instanceMethod yX1_mayEnter, Cond.selects RX1 yX1_mayEnter yX1_mayEnter, Cond.code yX1_mayEnter cX1_mayEnter 2 (some .boolean), Cond.methodLink RX1 43 yX1_cardFlag, Cond.instanceMethod yX1_cardFlag, Cond.selects RX1 yX1_cardFlag yX1_cardFlag, Cond.code yX1_cardFlag cX1_cardFlag 2 (some .int), Cond.static yX4_isCard, Cond.initialized RX4, Cond.code yX4_isCard cX4_isCard 1 (some .boolean), Cond.methodLink RX3 56 yX1_advance, Cond.instanceMethod yX1_advance, Cond.selects RX1 yX1_advance yX1_advance, Cond.code yX1_advance cX1_advance 2 none, Cond.methodLink RX1 46 yX1_waits, Cond.methodLink RX1 49 yX1_advanceNudges, Cond.instanceMethod yX1_advanceNudges]
def wsX3_advanceFreely_r3 : List Cond := [Cond.selects RX1 yX1_advanceNudges yX1_advanceNudges, Cond.code yX1_advanceNudges cX1_advanceNudges 2 none, Cond.methodLink RX1 61 yX1_moveTo, Cond.instanceMethod yX1_moveTo, Cond.selects RX1 yX1_moveTo yX1_moveTo, Cond.code yX1_moveTo cX1_moveTo 3 none, Cond.methodLink RX1 65 yX1_setNext, Cond.instanceMethod yX1_setNext, Cond.selects RX1 yX1_setNext yX1_setNext, Cond.code yX1_setNext cX1_setNext 3 none, Cond.static yX4_isVisitor, Cond.code yX4_isVisitor cX4_isVisitor 1 (some .boolean), Cond.methodLink RX1 68 yX1_leaveTail, Cond.instanceMethod yX1_leaveTail, Cond.selects RX1 yX1_leaveTail yX1_leaveTail, Cond.code yX1_leaveTail cX1_leaveTail 2 none, Cond.methodLink RX1 71 yX1_lowerFlag, Cond.instanceMethod yX1_lowerFlag, Cond.selects RX1 yX1_lowerFlag yX1_lowerFlag, Cond.code yX1_lowerFlag cX1_lowerFlag 2 none, Cond.methodLink RX1 52 yX1_advanceWatching, Cond.instanceMethod yX1_advanceWatching, Cond.selects RX1 yX1_advanceWatching yX1_advanceWatching, Cond.code yX1_advanceWatching cX1_advanceWatching 2 none]
def wsX3_advanceFreely_r4 : List Cond := [Cond.methodLink RX1 77 yX1_setCardFlag, Cond.instanceMethod yX1_setCardFlag, Cond.selects RX1 yX1_setCardFlag yX1_setCardFlag, Cond.code yX1_setCardFlag cX1_setCardFlag 3 none, Cond.methodLink RX1 55 yX1_advanceTickets, Cond.instanceMethod yX1_advanceTickets, Cond.selects RX1 yX1_advanceTickets yX1_advanceTickets, Cond.code yX1_advanceTickets cX1_advanceTickets 2 none, Cond.methodLink RX1 58 yX1_advanceGrabbing, Cond.instanceMethod yX1_advanceGrabbing, Cond.selects RX1 yX1_advanceGrabbing yX1_advanceGrabbing, Cond.code yX1_advanceGrabbing cX1_advanceGrabbing 2 none, Cond.methodLink RX3 60 yX1_stage, Cond.methodLink RX3 63 yX3_joinLine, Cond.instanceMethod yX3_joinLine, Cond.selects RX3 yX3_joinLine yX3_joinLine, Cond.code yX3_joinLine cX3_joinLine 2 none, Cond.fieldLink RX3 25 "NudgeLocks$State" "lineLength" "I", Cond.fieldLink RX3 22 "NudgeLocks$State" "line" "[I", Cond.methodLink RX3 66 yX3_leaveLine, Cond.instanceMethod yX3_leaveLine, Cond.selects RX3 yX3_leaveLine yX3_leaveLine, Cond.code yX3_leaveLine cX3_leaveLine 4 none, Cond.methodLink RX3 70 yX3_pauses]
def wsX3_advanceFreely_r5 : List Cond := [Cond.instanceMethod yX3_pauses, Cond.selects RX3 yX3_pauses yX3_pauses, Cond.code yX3_pauses cX3_pauses 3 (some .boolean)]
def wsX3_advanceFreely : List Cond := .code yX3_advanceFreely cX3_advanceFreely 3 (some .int) :: ((wsX3_advanceFreely_r1 ++ (wsX3_advanceFreely_r2 ++ (wsX3_advanceFreely_r3 ++ (wsX3_advanceFreely_r4 ++ wsX3_advanceFreely_r5)))) ++ wsX30 ++ wsX10)
def wsX3_advanceAll_r1 : List Cond := [Cond.constant RX3 73 (100000), Cond.fieldLink RX3 14 "NudgeLocks$State" "lock" "LNudgeLocks$Lock;", Cond.methodLink RX3 74 yX3_present, Cond.instanceMethod yX3_present, Cond.selects RX3 yX3_present yX3_present, Cond.initialized RX3, Cond.code yX3_present cX3_present 1 (some .int), Cond.methodLink RX3 42 yX1_countAt, Cond.instanceMethod yX1_countAt, Cond.selects RX1 yX1_countAt yX1_countAt, Cond.initialized RX1, Cond.code yX1_countAt cX1_countAt 4 (some .int), Cond.methodLink RX1 33 yX1_stage, Cond.instanceMethod yX1_stage, Cond.selects RX1 yX1_stage yX1_stage, Cond.code yX1_stage cX1_stage 2 (some .int), Cond.fieldLink RX1 11 "NudgeLocks$Lock" "cells" "[I", Cond.methodLink RX3 60 yX1_stage, Cond.methodLink RX3 69 yX3_advance, Cond.instanceMethod yX3_advance, Cond.selects RX3 yX3_advance yX3_advance, Cond.code yX3_advance cX3_advance 3 none, Cond.fieldLink RX3 18 "NudgeLocks$State" "counts" "[I", Cond.methodLink RX3 46 yX1_queues]
def wsX3_advanceAll_r2 : List Cond := [Cond.instanceMethod yX1_queues, Cond.selects RX1 yX1_queues yX1_queues, Cond.code yX1_queues cX1_queues 2 (some .boolean), Cond.methodLink RX1 25 yX1_kind, Cond.instanceMethod yX1_kind, Cond.selects RX1 yX1_kind yX1_kind, Cond.code yX1_kind cX1_kind 1 (some .int), Cond.methodLink RX3 50 yX1_touches, Cond.instanceMethod yX1_touches, Cond.selects RX1 yX1_touches yX1_touches, Cond.code yX1_touches cX1_touches 3 (some .int), Cond.fieldLink RX1 37 "NudgeLocks$Lock" "FAR_TOUCHES" "[I", Cond.methodLink RX3 53 yX1_waits, Cond.instanceMethod yX1_waits, Cond.selects RX1 yX1_waits yX1_waits, Cond.code yX1_waits cX1_waits 3 (some .boolean), Cond.methodLink RX1 40 yX1_mayEnter, Cond.instanceMethod yX1_mayEnter, Cond.selects RX1 yX1_mayEnter yX1_mayEnter, Cond.code yX1_mayEnter cX1_mayEnter 2 (some .boolean), Cond.methodLink RX1 43 yX1_cardFlag, Cond.instanceMethod yX1_cardFlag, Cond.selects RX1 yX1_cardFlag yX1_cardFlag, Cond.code yX1_cardFlag cX1_cardFlag 2 (some .int)]
def wsX3_advanceAll_r3 : List Cond := [Cond.static yX4_isCard, Cond.initialized RX4, Cond.code yX4_isCard cX4_isCard 1 (some .boolean), Cond.methodLink RX3 56 yX1_advance, Cond.instanceMethod yX1_advance, Cond.selects RX1 yX1_advance yX1_advance, Cond.code yX1_advance cX1_advance 2 none, Cond.methodLink RX1 46 yX1_waits, Cond.methodLink RX1 49 yX1_advanceNudges, Cond.instanceMethod yX1_advanceNudges, Cond.selects RX1 yX1_advanceNudges yX1_advanceNudges, Cond.code yX1_advanceNudges cX1_advanceNudges 2 none, Cond.methodLink RX1 61 yX1_moveTo, Cond.instanceMethod yX1_moveTo, Cond.selects RX1 yX1_moveTo yX1_moveTo, Cond.code yX1_moveTo cX1_moveTo 3 none, Cond.methodLink RX1 65 yX1_setNext, Cond.instanceMethod yX1_setNext, Cond.selects RX1 yX1_setNext yX1_setNext, Cond.code yX1_setNext cX1_setNext 3 none, Cond.static yX4_isVisitor, Cond.code yX4_isVisitor cX4_isVisitor 1 (some .boolean), Cond.methodLink RX1 68 yX1_leaveTail, Cond.instanceMethod yX1_leaveTail]
def wsX3_advanceAll_r4 : List Cond := [Cond.selects RX1 yX1_leaveTail yX1_leaveTail, Cond.code yX1_leaveTail cX1_leaveTail 2 none, Cond.methodLink RX1 71 yX1_lowerFlag, Cond.instanceMethod yX1_lowerFlag, Cond.selects RX1 yX1_lowerFlag yX1_lowerFlag, Cond.code yX1_lowerFlag cX1_lowerFlag 2 none, Cond.methodLink RX1 52 yX1_advanceWatching, Cond.instanceMethod yX1_advanceWatching, Cond.selects RX1 yX1_advanceWatching yX1_advanceWatching, Cond.code yX1_advanceWatching cX1_advanceWatching 2 none, Cond.methodLink RX1 77 yX1_setCardFlag, Cond.instanceMethod yX1_setCardFlag, Cond.selects RX1 yX1_setCardFlag yX1_setCardFlag, Cond.code yX1_setCardFlag cX1_setCardFlag 3 none, Cond.methodLink RX1 55 yX1_advanceTickets, Cond.instanceMethod yX1_advanceTickets, Cond.selects RX1 yX1_advanceTickets yX1_advanceTickets, Cond.code yX1_advanceTickets cX1_advanceTickets 2 none, Cond.methodLink RX1 58 yX1_advanceGrabbing, Cond.instanceMethod yX1_advanceGrabbing, Cond.selects RX1 yX1_advanceGrabbing yX1_advanceGrabbing, Cond.code yX1_advanceGrabbing cX1_advanceGrabbing 2 none, Cond.methodLink RX3 63 yX3_joinLine, Cond.instanceMethod yX3_joinLine]
def wsX3_advanceAll_r5 : List Cond := [Cond.selects RX3 yX3_joinLine yX3_joinLine, Cond.code yX3_joinLine cX3_joinLine 2 none, Cond.fieldLink RX3 25 "NudgeLocks$State" "lineLength" "I", Cond.fieldLink RX3 22 "NudgeLocks$State" "line" "[I", Cond.methodLink RX3 66 yX3_leaveLine, Cond.instanceMethod yX3_leaveLine, Cond.selects RX3 yX3_leaveLine yX3_leaveLine, Cond.code yX3_leaveLine cX3_leaveLine 4 none]
def wsX3_advanceAll : List Cond := .code yX3_advanceAll cX3_advanceAll 4 (some .int) :: ((wsX3_advanceAll_r1 ++ (wsX3_advanceAll_r2 ++ (wsX3_advanceAll_r3 ++ (wsX3_advanceAll_r4 ++ wsX3_advanceAll_r5)))) ++ wsX30 ++ wsX10)
def wsJ6_bitCount_0f7a4 : List Cond := .code yJ6_bitCount_0f7a4 cJ6_bitCount_0f7a4 1 (some .int) :: ([.constant RJ6 265 (1431655765), .constant RJ6 266 (858993459), .constant RJ6 267 (252645135)])
def wsX3_lot : List Cond := .code yX3_lot cX3_lot 6 (some .int) :: ([.fieldLink RX3 29 "NudgeLocks$State" "x" "I", .constantLong RX3 78 (1103515245), .constantLong RX3 80 (12345), .constantLong RX3 82 (2147483648), .constant RX3 89 (65536), .methodLink RX3 84 yJ6_bitCount_0f7a4, .static yJ6_bitCount_0f7a4, .initialized RJ6, .code yJ6_bitCount_0f7a4 cJ6_bitCount_0f7a4 1 (some .int), .constant RJ6 265 (1431655765), .constant RJ6 266 (858993459), .constant RJ6 267 (252645135)] ++ wsX30)
def wsX4_init_r1 : List Cond := [Cond.methodLink RX4 3 objectInit, Cond.instanceMethod objectInit, Cond.code objectInit ⟨#[0xb1]⟩ 1 none, Cond.classLink RX4 9 RX3, Cond.instantiable RX3 5, Cond.initialized RX3, Cond.fieldLink RX4 12 "NudgeLocks" "state" "LNudgeLocks$State;", Cond.fieldLink RX4 16 "NudgeLocks" "trial" "LNudgeLocks$State;", Cond.fieldLink RX4 19 "NudgeLocks" "snapshot" "LNudgeLocks$State;", Cond.fieldLink RX4 22 "NudgeLocks" "hasSnapshot" "Z", Cond.fieldLink RX4 26 "NudgeLocks" "history" "[LNudgeLocks$State;", Cond.fieldLink RX4 30 "NudgeLocks" "remembered" "I", Cond.arrayClass .char, Cond.fieldLink RX4 34 "NudgeLocks" "text" "[C", Cond.fieldLink RX4 38 "NudgeLocks" "length" "I", Cond.classLink RX4 41 RX2, Cond.instantiable RX2 5, Cond.initialized RX2, Cond.fieldLink RX4 44 "NudgeLocks" "schedule" "LNudgeLocks$Schedule;", Cond.classLink RX4 48 RX0, Cond.instantiable RX0 4, Cond.initialized RX0, Cond.fieldLink RX4 51 "NudgeLocks" "explorer" "LNudgeLocks$Explorer;", Cond.methodLink RX4 11 yX3_init]
def wsX4_init_r2 : List Cond := [Cond.instanceMethod yX3_init, Cond.code yX3_init cX3_init 1 none, Cond.methodLink RX3 5 objectInit, Cond.classLink RX3 11 RX1, Cond.instantiable RX1 1, Cond.initialized RX1, Cond.fieldLink RX3 14 "NudgeLocks$State" "lock" "LNudgeLocks$Lock;", Cond.arrayClass .int, Cond.fieldLink RX3 18 "NudgeLocks$State" "counts" "[I", Cond.fieldLink RX3 22 "NudgeLocks$State" "line" "[I", Cond.fieldLink RX3 25 "NudgeLocks$State" "lineLength" "I", Cond.fieldLink RX3 29 "NudgeLocks$State" "x" "I", Cond.methodLink RX3 13 yX1_init, Cond.instanceMethod yX1_init, Cond.code yX1_init cX1_init 1 none, Cond.methodLink RX1 5 objectInit, Cond.fieldLink RX1 11 "NudgeLocks$Lock" "cells" "[I", Cond.methodLink RX1 15 yX1_reset, Cond.instanceMethod yX1_reset, Cond.selects RX1 yX1_reset yX1_reset, Cond.code yX1_reset cX1_reset 3 none, Cond.methodLink RX4 43 yX2_init, Cond.instanceMethod yX2_init, Cond.code yX2_init cX2_init 1 none]
def wsX4_init_r3 : List Cond := [Cond.methodLink RX2 3 objectInit, Cond.arrayClass .byte, Cond.fieldLink RX2 9 "NudgeLocks$Schedule" "plan" "[B", Cond.fieldLink RX2 15 "NudgeLocks$Schedule" "starts" "[I", Cond.fieldLink RX2 19 "NudgeLocks$Schedule" "repeats" "[I", Cond.fieldLink RX2 22 "NudgeLocks$Schedule" "planned" "I", Cond.fieldLink RX2 26 "NudgeLocks$Schedule" "depth" "I", Cond.methodLink RX4 50 yX0_init, Cond.instanceMethod yX0_init, Cond.code yX0_init cX0_init 1 none, Cond.methodLink RX0 5 objectInit, Cond.classLink RX0 11 RX1, Cond.fieldLink RX0 13 "NudgeLocks$Explorer" "locks" "[LNudgeLocks$Lock;", Cond.fieldLink RX0 17 "NudgeLocks$Explorer" "back" "[I", Cond.fieldLink RX0 22 "NudgeLocks$Explorer" "trial" "LNudgeLocks$Lock;", Cond.fieldLink RX0 26 "NudgeLocks$Explorer" "found" "I", Cond.methodLink RX0 21 yX1_init]
def wsX4_init : List Cond := .code yX4_init cX4_init 2 none :: ((wsX4_init_r1 ++ (wsX4_init_r2 ++ wsX4_init_r3)) ++ wsX30 ++ wsX40 ++ wsX20 ++ wsX00 ++ wsX10)
def wsX4_dropOldest : List Cond := .code yX4_dropOldest cX4_dropOldest 3 none :: ([.fieldLink RX4 26 "NudgeLocks" "history" "[LNudgeLocks$State;", .fieldLink RX4 30 "NudgeLocks" "remembered" "I"] ++ wsX40)
def wsX4_remember_r1 : List Cond := [Cond.fieldLink RX4 30 "NudgeLocks" "remembered" "I", Cond.fieldLink RX4 26 "NudgeLocks" "history" "[LNudgeLocks$State;", Cond.fieldLink RX4 12 "NudgeLocks" "state" "LNudgeLocks$State;", Cond.methodLink RX4 181 yX4_dropOldest, Cond.instanceMethod yX4_dropOldest, Cond.selects RX4 yX4_dropOldest yX4_dropOldest, Cond.initialized RX4, Cond.code yX4_dropOldest cX4_dropOldest 3 none, Cond.methodLink RX4 114 yX3_copyFrom, Cond.instanceMethod yX3_copyFrom, Cond.selects RX3 yX3_copyFrom yX3_copyFrom, Cond.initialized RX3, Cond.code yX3_copyFrom cX3_copyFrom 2 none, Cond.fieldLink RX3 14 "NudgeLocks$State" "lock" "LNudgeLocks$Lock;", Cond.fieldLink RX3 18 "NudgeLocks$State" "counts" "[I", Cond.methodLink RX3 36 arraycopyName, Cond.native arraycopyName, Cond.static arraycopyName, Cond.initialized "java/lang/System", Cond.fieldLink RX3 22 "NudgeLocks$State" "line" "[I", Cond.fieldLink RX3 25 "NudgeLocks$State" "lineLength" "I", Cond.fieldLink RX3 29 "NudgeLocks$State" "x" "I", Cond.methodLink RX3 32 yX1_copyFrom, Cond.instanceMethod yX1_copyFrom]
def wsX4_remember_r2 : List Cond := [Cond.selects RX1 yX1_copyFrom yX1_copyFrom, Cond.initialized RX1, Cond.code yX1_copyFrom cX1_copyFrom 2 none, Cond.fieldLink RX1 11 "NudgeLocks$Lock" "cells" "[I", Cond.methodLink RX1 19 arraycopyName]
def wsX4_remember : List Cond := .code yX4_remember cX4_remember 1 none :: ((wsX4_remember_r1 ++ wsX4_remember_r2) ++ wsX40 ++ wsX30 ++ wsX10)
def wsX4_build_r1 : List Cond := [Cond.fieldLink RX4 12 "NudgeLocks" "state" "LNudgeLocks$State;", Cond.methodLink RX4 55 yX3_present, Cond.instanceMethod yX3_present, Cond.selects RX3 yX3_present yX3_present, Cond.initialized RX3, Cond.code yX3_present cX3_present 1 (some .int), Cond.fieldLink RX3 14 "NudgeLocks$State" "lock" "LNudgeLocks$Lock;", Cond.methodLink RX3 42 yX1_countAt, Cond.instanceMethod yX1_countAt, Cond.selects RX1 yX1_countAt yX1_countAt, Cond.initialized RX1, Cond.code yX1_countAt cX1_countAt 4 (some .int), Cond.methodLink RX1 33 yX1_stage, Cond.instanceMethod yX1_stage, Cond.selects RX1 yX1_stage yX1_stage, Cond.code yX1_stage cX1_stage 2 (some .int), Cond.fieldLink RX1 11 "NudgeLocks$Lock" "cells" "[I", Cond.methodLink RX4 59 yX4_remember, Cond.instanceMethod yX4_remember, Cond.selects RX4 yX4_remember yX4_remember, Cond.initialized RX4, Cond.code yX4_remember cX4_remember 1 none, Cond.fieldLink RX4 30 "NudgeLocks" "remembered" "I", Cond.fieldLink RX4 26 "NudgeLocks" "history" "[LNudgeLocks$State;"]
def wsX4_build_r2 : List Cond := [Cond.methodLink RX4 181 yX4_dropOldest, Cond.instanceMethod yX4_dropOldest, Cond.selects RX4 yX4_dropOldest yX4_dropOldest, Cond.code yX4_dropOldest cX4_dropOldest 3 none, Cond.methodLink RX4 114 yX3_copyFrom, Cond.instanceMethod yX3_copyFrom, Cond.selects RX3 yX3_copyFrom yX3_copyFrom, Cond.code yX3_copyFrom cX3_copyFrom 2 none, Cond.fieldLink RX3 18 "NudgeLocks$State" "counts" "[I", Cond.methodLink RX3 36 arraycopyName, Cond.native arraycopyName, Cond.static arraycopyName, Cond.initialized "java/lang/System", Cond.fieldLink RX3 22 "NudgeLocks$State" "line" "[I", Cond.fieldLink RX3 25 "NudgeLocks$State" "lineLength" "I", Cond.fieldLink RX3 29 "NudgeLocks$State" "x" "I", Cond.methodLink RX3 32 yX1_copyFrom, Cond.instanceMethod yX1_copyFrom, Cond.selects RX1 yX1_copyFrom yX1_copyFrom, Cond.code yX1_copyFrom cX1_copyFrom 2 none, Cond.methodLink RX1 19 arraycopyName, Cond.methodLink RX4 66 yX1_kind, Cond.instanceMethod yX1_kind, Cond.selects RX1 yX1_kind yX1_kind]
def wsX4_build_r3 : List Cond := [Cond.code yX1_kind cX1_kind 1 (some .int), Cond.methodLink RX4 71 yX1_reset, Cond.instanceMethod yX1_reset, Cond.selects RX1 yX1_reset yX1_reset, Cond.code yX1_reset cX1_reset 3 none]
def wsX4_build : List Cond := .code yX4_build cX4_build 3 (some .int) :: ((wsX4_build_r1 ++ (wsX4_build_r2 ++ wsX4_build_r3)) ++ wsX40 ++ wsX30 ++ wsX10)
def wsX4_step_r1 : List Cond := [Cond.fieldLink RX4 12 "NudgeLocks" "state" "LNudgeLocks$State;", Cond.methodLink RX4 75 yX4_isVisitor, Cond.static yX4_isVisitor, Cond.initialized RX4, Cond.code yX4_isVisitor cX4_isVisitor 1 (some .boolean), Cond.methodLink RX4 59 yX4_remember, Cond.instanceMethod yX4_remember, Cond.selects RX4 yX4_remember yX4_remember, Cond.code yX4_remember cX4_remember 1 none, Cond.fieldLink RX4 30 "NudgeLocks" "remembered" "I", Cond.fieldLink RX4 26 "NudgeLocks" "history" "[LNudgeLocks$State;", Cond.methodLink RX4 181 yX4_dropOldest, Cond.instanceMethod yX4_dropOldest, Cond.selects RX4 yX4_dropOldest yX4_dropOldest, Cond.code yX4_dropOldest cX4_dropOldest 3 none, Cond.methodLink RX4 114 yX3_copyFrom, Cond.instanceMethod yX3_copyFrom, Cond.selects RX3 yX3_copyFrom yX3_copyFrom, Cond.initialized RX3, Cond.code yX3_copyFrom cX3_copyFrom 2 none, Cond.fieldLink RX3 14 "NudgeLocks$State" "lock" "LNudgeLocks$Lock;", Cond.fieldLink RX3 18 "NudgeLocks$State" "counts" "[I", Cond.methodLink RX3 36 arraycopyName, Cond.native arraycopyName]
def wsX4_step_r2 : List Cond := [Cond.static arraycopyName, Cond.initialized "java/lang/System", Cond.fieldLink RX3 22 "NudgeLocks$State" "line" "[I", Cond.fieldLink RX3 25 "NudgeLocks$State" "lineLength" "I", Cond.fieldLink RX3 29 "NudgeLocks$State" "x" "I", Cond.methodLink RX3 32 yX1_copyFrom, Cond.instanceMethod yX1_copyFrom, Cond.selects RX1 yX1_copyFrom yX1_copyFrom, Cond.initialized RX1, Cond.code yX1_copyFrom cX1_copyFrom 2 none, Cond.fieldLink RX1 11 "NudgeLocks$Lock" "cells" "[I", Cond.methodLink RX1 19 arraycopyName, Cond.methodLink RX4 79 yX3_advance, Cond.instanceMethod yX3_advance, Cond.selects RX3 yX3_advance yX3_advance, Cond.code yX3_advance cX3_advance 3 none, Cond.methodLink RX3 46 yX1_queues, Cond.instanceMethod yX1_queues, Cond.selects RX1 yX1_queues yX1_queues, Cond.code yX1_queues cX1_queues 2 (some .boolean), Cond.methodLink RX1 25 yX1_kind, Cond.instanceMethod yX1_kind, Cond.selects RX1 yX1_kind yX1_kind, Cond.code yX1_kind cX1_kind 1 (some .int)]
def wsX4_step_r3 : List Cond := [Cond.methodLink RX1 33 yX1_stage, Cond.instanceMethod yX1_stage, Cond.selects RX1 yX1_stage yX1_stage, Cond.code yX1_stage cX1_stage 2 (some .int), Cond.methodLink RX3 50 yX1_touches, Cond.instanceMethod yX1_touches, Cond.selects RX1 yX1_touches yX1_touches, Cond.code yX1_touches cX1_touches 3 (some .int), Cond.fieldLink RX1 37 "NudgeLocks$Lock" "FAR_TOUCHES" "[I", Cond.methodLink RX3 53 yX1_waits, Cond.instanceMethod yX1_waits, Cond.selects RX1 yX1_waits yX1_waits, Cond.code yX1_waits cX1_waits 3 (some .boolean), Cond.methodLink RX1 40 yX1_mayEnter, Cond.instanceMethod yX1_mayEnter, Cond.selects RX1 yX1_mayEnter yX1_mayEnter, Cond.code yX1_mayEnter cX1_mayEnter 2 (some .boolean), Cond.methodLink RX1 43 yX1_cardFlag, Cond.instanceMethod yX1_cardFlag, Cond.selects RX1 yX1_cardFlag yX1_cardFlag, Cond.code yX1_cardFlag cX1_cardFlag 2 (some .int), Cond.static yX4_isCard, Cond.code yX4_isCard cX4_isCard 1 (some .boolean), Cond.methodLink RX3 56 yX1_advance]
def wsX4_step_r4 : List Cond := [Cond.instanceMethod yX1_advance, Cond.selects RX1 yX1_advance yX1_advance, Cond.code yX1_advance cX1_advance 2 none, Cond.methodLink RX1 46 yX1_waits, Cond.methodLink RX1 49 yX1_advanceNudges, Cond.instanceMethod yX1_advanceNudges, Cond.selects RX1 yX1_advanceNudges yX1_advanceNudges, Cond.code yX1_advanceNudges cX1_advanceNudges 2 none, Cond.methodLink RX1 61 yX1_moveTo, Cond.instanceMethod yX1_moveTo, Cond.selects RX1 yX1_moveTo yX1_moveTo, Cond.code yX1_moveTo cX1_moveTo 3 none, Cond.methodLink RX1 65 yX1_setNext, Cond.instanceMethod yX1_setNext, Cond.selects RX1 yX1_setNext yX1_setNext, Cond.code yX1_setNext cX1_setNext 3 none, Cond.methodLink RX1 68 yX1_leaveTail, Cond.instanceMethod yX1_leaveTail, Cond.selects RX1 yX1_leaveTail yX1_leaveTail, Cond.code yX1_leaveTail cX1_leaveTail 2 none, Cond.methodLink RX1 71 yX1_lowerFlag, Cond.instanceMethod yX1_lowerFlag, Cond.selects RX1 yX1_lowerFlag yX1_lowerFlag, Cond.code yX1_lowerFlag cX1_lowerFlag 2 none]
def wsX4_step_r5 : List Cond := [Cond.methodLink RX1 52 yX1_advanceWatching, Cond.instanceMethod yX1_advanceWatching, Cond.selects RX1 yX1_advanceWatching yX1_advanceWatching, Cond.code yX1_advanceWatching cX1_advanceWatching 2 none, Cond.methodLink RX1 77 yX1_setCardFlag, Cond.instanceMethod yX1_setCardFlag, Cond.selects RX1 yX1_setCardFlag yX1_setCardFlag, Cond.code yX1_setCardFlag cX1_setCardFlag 3 none, Cond.methodLink RX1 55 yX1_advanceTickets, Cond.instanceMethod yX1_advanceTickets, Cond.selects RX1 yX1_advanceTickets yX1_advanceTickets, Cond.code yX1_advanceTickets cX1_advanceTickets 2 none, Cond.methodLink RX1 58 yX1_advanceGrabbing, Cond.instanceMethod yX1_advanceGrabbing, Cond.selects RX1 yX1_advanceGrabbing yX1_advanceGrabbing, Cond.code yX1_advanceGrabbing cX1_advanceGrabbing 2 none, Cond.methodLink RX3 60 yX1_stage, Cond.methodLink RX3 63 yX3_joinLine, Cond.instanceMethod yX3_joinLine, Cond.selects RX3 yX3_joinLine yX3_joinLine, Cond.code yX3_joinLine cX3_joinLine 2 none, Cond.methodLink RX3 66 yX3_leaveLine, Cond.instanceMethod yX3_leaveLine, Cond.selects RX3 yX3_leaveLine yX3_leaveLine]
def wsX4_step_r6 : List Cond := [Cond.code yX3_leaveLine cX3_leaveLine 4 none, Cond.methodLink RX4 82 yX1_stage]
def wsX4_step : List Cond := .code yX4_step cX4_step 2 (some .int) :: ((wsX4_step_r1 ++ (wsX4_step_r2 ++ (wsX4_step_r3 ++ (wsX4_step_r4 ++ (wsX4_step_r5 ++ wsX4_step_r6))))) ++ wsX40 ++ wsX30 ++ wsX10)
def wsX4_go_r1 : List Cond := [Cond.fieldLink RX4 12 "NudgeLocks" "state" "LNudgeLocks$State;", Cond.methodLink RX4 75 yX4_isVisitor, Cond.static yX4_isVisitor, Cond.initialized RX4, Cond.code yX4_isVisitor cX4_isVisitor 1 (some .boolean), Cond.methodLink RX4 86 yX1_waits, Cond.instanceMethod yX1_waits, Cond.selects RX1 yX1_waits yX1_waits, Cond.initialized RX1, Cond.code yX1_waits cX1_waits 3 (some .boolean), Cond.fieldLink RX1 11 "NudgeLocks$Lock" "cells" "[I", Cond.methodLink RX1 33 yX1_stage, Cond.instanceMethod yX1_stage, Cond.selects RX1 yX1_stage yX1_stage, Cond.code yX1_stage cX1_stage 2 (some .int), Cond.methodLink RX1 40 yX1_mayEnter, Cond.instanceMethod yX1_mayEnter, Cond.selects RX1 yX1_mayEnter yX1_mayEnter, Cond.code yX1_mayEnter cX1_mayEnter 2 (some .boolean), Cond.methodLink RX1 25 yX1_kind, Cond.instanceMethod yX1_kind, Cond.selects RX1 yX1_kind yX1_kind, Cond.code yX1_kind cX1_kind 1 (some .int), Cond.methodLink RX1 43 yX1_cardFlag]
def wsX4_go_r2 : List Cond := [Cond.instanceMethod yX1_cardFlag, Cond.selects RX1 yX1_cardFlag yX1_cardFlag, Cond.code yX1_cardFlag cX1_cardFlag 2 (some .int), Cond.static yX4_isCard, Cond.code yX4_isCard cX4_isCard 1 (some .boolean), Cond.methodLink RX4 59 yX4_remember, Cond.instanceMethod yX4_remember, Cond.selects RX4 yX4_remember yX4_remember, Cond.code yX4_remember cX4_remember 1 none, Cond.fieldLink RX4 30 "NudgeLocks" "remembered" "I", Cond.fieldLink RX4 26 "NudgeLocks" "history" "[LNudgeLocks$State;", Cond.methodLink RX4 181 yX4_dropOldest, Cond.instanceMethod yX4_dropOldest, Cond.selects RX4 yX4_dropOldest yX4_dropOldest, Cond.code yX4_dropOldest cX4_dropOldest 3 none, Cond.methodLink RX4 114 yX3_copyFrom, Cond.instanceMethod yX3_copyFrom, Cond.selects RX3 yX3_copyFrom yX3_copyFrom, Cond.initialized RX3, Cond.code yX3_copyFrom cX3_copyFrom 2 none, Cond.fieldLink RX3 14 "NudgeLocks$State" "lock" "LNudgeLocks$Lock;", Cond.fieldLink RX3 18 "NudgeLocks$State" "counts" "[I", Cond.methodLink RX3 36 arraycopyName, Cond.native arraycopyName]
def wsX4_go_r3 : List Cond := [Cond.static arraycopyName, Cond.initialized "java/lang/System", Cond.fieldLink RX3 22 "NudgeLocks$State" "line" "[I", Cond.fieldLink RX3 25 "NudgeLocks$State" "lineLength" "I", Cond.fieldLink RX3 29 "NudgeLocks$State" "x" "I", Cond.methodLink RX3 32 yX1_copyFrom, Cond.instanceMethod yX1_copyFrom, Cond.selects RX1 yX1_copyFrom yX1_copyFrom, Cond.code yX1_copyFrom cX1_copyFrom 2 none, Cond.methodLink RX1 19 arraycopyName, Cond.methodLink RX4 89 yX3_advanceFreely, Cond.instanceMethod yX3_advanceFreely, Cond.selects RX3 yX3_advanceFreely yX3_advanceFreely, Cond.code yX3_advanceFreely cX3_advanceFreely 3 (some .int), Cond.methodLink RX3 69 yX3_advance, Cond.instanceMethod yX3_advance, Cond.selects RX3 yX3_advance yX3_advance, Cond.code yX3_advance cX3_advance 3 none, Cond.methodLink RX3 46 yX1_queues, Cond.instanceMethod yX1_queues, Cond.selects RX1 yX1_queues yX1_queues, Cond.code yX1_queues cX1_queues 2 (some .boolean), Cond.methodLink RX3 50 yX1_touches, Cond.instanceMethod yX1_touches]
def wsX4_go_r4 : List Cond := [Cond.selects RX1 yX1_touches yX1_touches, Cond.code yX1_touches cX1_touches 3 (some .int), Cond.fieldLink RX1 37 "NudgeLocks$Lock" "FAR_TOUCHES" "[I", Cond.methodLink RX3 53 yX1_waits, Cond.methodLink RX3 56 yX1_advance, Cond.instanceMethod yX1_advance, Cond.selects RX1 yX1_advance yX1_advance, Cond.code yX1_advance cX1_advance 2 none, Cond.methodLink RX1 46 yX1_waits, Cond.methodLink RX1 49 yX1_advanceNudges, Cond.instanceMethod yX1_advanceNudges, Cond.selects RX1 yX1_advanceNudges yX1_advanceNudges, Cond.code yX1_advanceNudges cX1_advanceNudges 2 none, Cond.methodLink RX1 61 yX1_moveTo, Cond.instanceMethod yX1_moveTo, Cond.selects RX1 yX1_moveTo yX1_moveTo, Cond.code yX1_moveTo cX1_moveTo 3 none, Cond.methodLink RX1 65 yX1_setNext, Cond.instanceMethod yX1_setNext, Cond.selects RX1 yX1_setNext yX1_setNext, Cond.code yX1_setNext cX1_setNext 3 none, Cond.methodLink RX1 68 yX1_leaveTail, Cond.instanceMethod yX1_leaveTail, Cond.selects RX1 yX1_leaveTail yX1_leaveTail]
def wsX4_go_r5 : List Cond := [Cond.code yX1_leaveTail cX1_leaveTail 2 none, Cond.methodLink RX1 71 yX1_lowerFlag, Cond.instanceMethod yX1_lowerFlag, Cond.selects RX1 yX1_lowerFlag yX1_lowerFlag, Cond.code yX1_lowerFlag cX1_lowerFlag 2 none, Cond.methodLink RX1 52 yX1_advanceWatching, Cond.instanceMethod yX1_advanceWatching, Cond.selects RX1 yX1_advanceWatching yX1_advanceWatching, Cond.code yX1_advanceWatching cX1_advanceWatching 2 none, Cond.methodLink RX1 77 yX1_setCardFlag, Cond.instanceMethod yX1_setCardFlag, Cond.selects RX1 yX1_setCardFlag yX1_setCardFlag, Cond.code yX1_setCardFlag cX1_setCardFlag 3 none, Cond.methodLink RX1 55 yX1_advanceTickets, Cond.instanceMethod yX1_advanceTickets, Cond.selects RX1 yX1_advanceTickets yX1_advanceTickets, Cond.code yX1_advanceTickets cX1_advanceTickets 2 none, Cond.methodLink RX1 58 yX1_advanceGrabbing, Cond.instanceMethod yX1_advanceGrabbing, Cond.selects RX1 yX1_advanceGrabbing yX1_advanceGrabbing, Cond.code yX1_advanceGrabbing cX1_advanceGrabbing 2 none, Cond.methodLink RX3 60 yX1_stage, Cond.methodLink RX3 63 yX3_joinLine, Cond.instanceMethod yX3_joinLine]
def wsX4_go_r6 : List Cond := [Cond.selects RX3 yX3_joinLine yX3_joinLine, Cond.code yX3_joinLine cX3_joinLine 2 none, Cond.methodLink RX3 66 yX3_leaveLine, Cond.instanceMethod yX3_leaveLine, Cond.selects RX3 yX3_leaveLine yX3_leaveLine, Cond.code yX3_leaveLine cX3_leaveLine 4 none, Cond.methodLink RX3 70 yX3_pauses, Cond.instanceMethod yX3_pauses, Cond.selects RX3 yX3_pauses yX3_pauses, Cond.code yX3_pauses cX3_pauses 3 (some .boolean)]
def wsX4_go : List Cond := .code yX4_go cX4_go 2 (some .int) :: ((wsX4_go_r1 ++ (wsX4_go_r2 ++ (wsX4_go_r3 ++ (wsX4_go_r4 ++ (wsX4_go_r5 ++ wsX4_go_r6))))) ++ wsX40 ++ wsX30 ++ wsX10)
def wsX4_draw_r1 : List Cond := [Cond.fieldLink RX4 12 "NudgeLocks" "state" "LNudgeLocks$State;", Cond.methodLink RX4 59 yX4_remember, Cond.instanceMethod yX4_remember, Cond.selects RX4 yX4_remember yX4_remember, Cond.initialized RX4, Cond.code yX4_remember cX4_remember 1 none, Cond.fieldLink RX4 30 "NudgeLocks" "remembered" "I", Cond.fieldLink RX4 26 "NudgeLocks" "history" "[LNudgeLocks$State;", Cond.methodLink RX4 181 yX4_dropOldest, Cond.instanceMethod yX4_dropOldest, Cond.selects RX4 yX4_dropOldest yX4_dropOldest, Cond.code yX4_dropOldest cX4_dropOldest 3 none, Cond.methodLink RX4 114 yX3_copyFrom, Cond.instanceMethod yX3_copyFrom, Cond.selects RX3 yX3_copyFrom yX3_copyFrom, Cond.initialized RX3, Cond.code yX3_copyFrom cX3_copyFrom 2 none, Cond.fieldLink RX3 14 "NudgeLocks$State" "lock" "LNudgeLocks$Lock;", Cond.fieldLink RX3 18 "NudgeLocks$State" "counts" "[I", Cond.methodLink RX3 36 arraycopyName, Cond.native arraycopyName, Cond.static arraycopyName, Cond.initialized "java/lang/System", Cond.fieldLink RX3 22 "NudgeLocks$State" "line" "[I"]
def wsX4_draw_r2 : List Cond := [Cond.fieldLink RX3 25 "NudgeLocks$State" "lineLength" "I", Cond.fieldLink RX3 29 "NudgeLocks$State" "x" "I", Cond.methodLink RX3 32 yX1_copyFrom, Cond.instanceMethod yX1_copyFrom, Cond.selects RX1 yX1_copyFrom yX1_copyFrom, Cond.initialized RX1, Cond.code yX1_copyFrom cX1_copyFrom 2 none, Cond.fieldLink RX1 11 "NudgeLocks$Lock" "cells" "[I", Cond.methodLink RX1 19 arraycopyName, Cond.methodLink RX4 92 yX3_sum, Cond.instanceMethod yX3_sum, Cond.selects RX3 yX3_sum yX3_sum, Cond.code yX3_sum cX3_sum 4 (some .int), Cond.methodLink RX4 95 yX3_lot, Cond.instanceMethod yX3_lot, Cond.selects RX3 yX3_lot yX3_lot, Cond.code yX3_lot cX3_lot 6 (some .int), Cond.constantLong RX3 78 (1103515245), Cond.constantLong RX3 80 (12345), Cond.constantLong RX3 82 (2147483648), Cond.constant RX3 89 (65536), Cond.methodLink RX3 84 yJ6_bitCount_0f7a4, Cond.static yJ6_bitCount_0f7a4, Cond.initialized RJ6]
def wsX4_draw_r3 : List Cond := [Cond.code yJ6_bitCount_0f7a4 cJ6_bitCount_0f7a4 1 (some .int), Cond.constant RJ6 265 (1431655765), Cond.constant RJ6 266 (858993459), Cond.constant RJ6 267 (252645135), Cond.methodLink RX4 79 yX3_advance, Cond.instanceMethod yX3_advance, Cond.selects RX3 yX3_advance yX3_advance, Cond.code yX3_advance cX3_advance 3 none, Cond.methodLink RX3 46 yX1_queues, Cond.instanceMethod yX1_queues, Cond.selects RX1 yX1_queues yX1_queues, Cond.code yX1_queues cX1_queues 2 (some .boolean), Cond.methodLink RX1 25 yX1_kind, Cond.instanceMethod yX1_kind, Cond.selects RX1 yX1_kind yX1_kind, Cond.code yX1_kind cX1_kind 1 (some .int), Cond.methodLink RX1 33 yX1_stage, Cond.instanceMethod yX1_stage, Cond.selects RX1 yX1_stage yX1_stage, Cond.code yX1_stage cX1_stage 2 (some .int), Cond.methodLink RX3 50 yX1_touches, Cond.instanceMethod yX1_touches, Cond.selects RX1 yX1_touches yX1_touches, Cond.code yX1_touches cX1_touches 3 (some .int)]
def wsX4_draw_r4 : List Cond := [Cond.fieldLink RX1 37 "NudgeLocks$Lock" "FAR_TOUCHES" "[I", Cond.methodLink RX3 53 yX1_waits, Cond.instanceMethod yX1_waits, Cond.selects RX1 yX1_waits yX1_waits, Cond.code yX1_waits cX1_waits 3 (some .boolean), Cond.methodLink RX1 40 yX1_mayEnter, Cond.instanceMethod yX1_mayEnter, Cond.selects RX1 yX1_mayEnter yX1_mayEnter, Cond.code yX1_mayEnter cX1_mayEnter 2 (some .boolean), Cond.methodLink RX1 43 yX1_cardFlag, Cond.instanceMethod yX1_cardFlag, Cond.selects RX1 yX1_cardFlag yX1_cardFlag, Cond.code yX1_cardFlag cX1_cardFlag 2 (some .int), Cond.static yX4_isCard, Cond.code yX4_isCard cX4_isCard 1 (some .boolean), Cond.methodLink RX3 56 yX1_advance, Cond.instanceMethod yX1_advance, Cond.selects RX1 yX1_advance yX1_advance, Cond.code yX1_advance cX1_advance 2 none, Cond.methodLink RX1 46 yX1_waits, Cond.methodLink RX1 49 yX1_advanceNudges, Cond.instanceMethod yX1_advanceNudges, Cond.selects RX1 yX1_advanceNudges yX1_advanceNudges, Cond.code yX1_advanceNudges cX1_advanceNudges 2 none]
def wsX4_draw_r5 : List Cond := [Cond.methodLink RX1 61 yX1_moveTo, Cond.instanceMethod yX1_moveTo, Cond.selects RX1 yX1_moveTo yX1_moveTo, Cond.code yX1_moveTo cX1_moveTo 3 none, Cond.methodLink RX1 65 yX1_setNext, Cond.instanceMethod yX1_setNext, Cond.selects RX1 yX1_setNext yX1_setNext, Cond.code yX1_setNext cX1_setNext 3 none, Cond.static yX4_isVisitor, Cond.code yX4_isVisitor cX4_isVisitor 1 (some .boolean), Cond.methodLink RX1 68 yX1_leaveTail, Cond.instanceMethod yX1_leaveTail, Cond.selects RX1 yX1_leaveTail yX1_leaveTail, Cond.code yX1_leaveTail cX1_leaveTail 2 none, Cond.methodLink RX1 71 yX1_lowerFlag, Cond.instanceMethod yX1_lowerFlag, Cond.selects RX1 yX1_lowerFlag yX1_lowerFlag, Cond.code yX1_lowerFlag cX1_lowerFlag 2 none, Cond.methodLink RX1 52 yX1_advanceWatching, Cond.instanceMethod yX1_advanceWatching, Cond.selects RX1 yX1_advanceWatching yX1_advanceWatching, Cond.code yX1_advanceWatching cX1_advanceWatching 2 none, Cond.methodLink RX1 77 yX1_setCardFlag, Cond.instanceMethod yX1_setCardFlag]
def wsX4_draw_r6 : List Cond := [Cond.selects RX1 yX1_setCardFlag yX1_setCardFlag, Cond.code yX1_setCardFlag cX1_setCardFlag 3 none, Cond.methodLink RX1 55 yX1_advanceTickets, Cond.instanceMethod yX1_advanceTickets, Cond.selects RX1 yX1_advanceTickets yX1_advanceTickets, Cond.code yX1_advanceTickets cX1_advanceTickets 2 none, Cond.methodLink RX1 58 yX1_advanceGrabbing, Cond.instanceMethod yX1_advanceGrabbing, Cond.selects RX1 yX1_advanceGrabbing yX1_advanceGrabbing, Cond.code yX1_advanceGrabbing cX1_advanceGrabbing 2 none, Cond.methodLink RX3 60 yX1_stage, Cond.methodLink RX3 63 yX3_joinLine, Cond.instanceMethod yX3_joinLine, Cond.selects RX3 yX3_joinLine yX3_joinLine, Cond.code yX3_joinLine cX3_joinLine 2 none, Cond.methodLink RX3 66 yX3_leaveLine, Cond.instanceMethod yX3_leaveLine, Cond.selects RX3 yX3_leaveLine yX3_leaveLine, Cond.code yX3_leaveLine cX3_leaveLine 4 none]
def wsX4_draw : List Cond := .code yX4_draw cX4_draw 5 (some .int) :: ((wsX4_draw_r1 ++ (wsX4_draw_r2 ++ (wsX4_draw_r3 ++ (wsX4_draw_r4 ++ (wsX4_draw_r5 ++ wsX4_draw_r6))))) ++ wsX40 ++ wsX30 ++ wsX10)
def wsX4_shuffle_r1 : List Cond := [Cond.fieldLink RX4 12 "NudgeLocks" "state" "LNudgeLocks$State;", Cond.methodLink RX4 59 yX4_remember, Cond.instanceMethod yX4_remember, Cond.selects RX4 yX4_remember yX4_remember, Cond.initialized RX4, Cond.code yX4_remember cX4_remember 1 none, Cond.fieldLink RX4 30 "NudgeLocks" "remembered" "I", Cond.fieldLink RX4 26 "NudgeLocks" "history" "[LNudgeLocks$State;", Cond.methodLink RX4 181 yX4_dropOldest, Cond.instanceMethod yX4_dropOldest, Cond.selects RX4 yX4_dropOldest yX4_dropOldest, Cond.code yX4_dropOldest cX4_dropOldest 3 none, Cond.methodLink RX4 114 yX3_copyFrom, Cond.instanceMethod yX3_copyFrom, Cond.selects RX3 yX3_copyFrom yX3_copyFrom, Cond.initialized RX3, Cond.code yX3_copyFrom cX3_copyFrom 2 none, Cond.fieldLink RX3 14 "NudgeLocks$State" "lock" "LNudgeLocks$Lock;", Cond.fieldLink RX3 18 "NudgeLocks$State" "counts" "[I", Cond.methodLink RX3 36 arraycopyName, Cond.native arraycopyName, Cond.static arraycopyName, Cond.initialized "java/lang/System", Cond.fieldLink RX3 22 "NudgeLocks$State" "line" "[I"]
def wsX4_shuffle_r2 : List Cond := [Cond.fieldLink RX3 25 "NudgeLocks$State" "lineLength" "I", Cond.fieldLink RX3 29 "NudgeLocks$State" "x" "I", Cond.methodLink RX3 32 yX1_copyFrom, Cond.instanceMethod yX1_copyFrom, Cond.selects RX1 yX1_copyFrom yX1_copyFrom, Cond.initialized RX1, Cond.code yX1_copyFrom cX1_copyFrom 2 none, Cond.fieldLink RX1 11 "NudgeLocks$Lock" "cells" "[I", Cond.methodLink RX1 19 arraycopyName]
def wsX4_shuffle : List Cond := .code yX4_shuffle cX4_shuffle 3 (some .int) :: ((wsX4_shuffle_r1 ++ wsX4_shuffle_r2) ++ wsX40 ++ wsX30 ++ wsX10)
def wsX4_perform_r1 : List Cond := [Cond.fieldLink RX4 34 "NudgeLocks" "text" "[C", Cond.fieldLink RX4 38 "NudgeLocks" "length" "I", Cond.fieldLink RX4 44 "NudgeLocks" "schedule" "LNudgeLocks$Schedule;", Cond.fieldLink RX4 12 "NudgeLocks" "state" "LNudgeLocks$State;", Cond.methodLink RX4 101 yX2_fault, Cond.static yX2_fault, Cond.initialized RX2, Cond.code yX2_fault cX2_fault 7 (some .int), Cond.methodLink RX2 29 yX2_isLetter, Cond.static yX2_isLetter, Cond.code yX2_isLetter cX2_isLetter 1 (some .boolean), Cond.methodLink RX2 33 yX2_isDigit, Cond.static yX2_isDigit, Cond.code yX2_isDigit cX2_isDigit 1 (some .boolean), Cond.methodLink RX4 105 yX2_expand, Cond.instanceMethod yX2_expand, Cond.selects RX2 yX2_expand yX2_expand, Cond.code yX2_expand cX2_expand 7 (some .int), Cond.fieldLink RX2 22 "NudgeLocks$Schedule" "planned" "I", Cond.fieldLink RX2 26 "NudgeLocks$Schedule" "depth" "I", Cond.methodLink RX2 36 yX2_openBracket, Cond.instanceMethod yX2_openBracket, Cond.selects RX2 yX2_openBracket yX2_openBracket, Cond.code yX2_openBracket cX2_openBracket 2 none]
def wsX4_perform_r2 : List Cond := [Cond.fieldLink RX2 15 "NudgeLocks$Schedule" "starts" "[I", Cond.fieldLink RX2 19 "NudgeLocks$Schedule" "repeats" "[I", Cond.methodLink RX2 40 yX2_closeBracket, Cond.instanceMethod yX2_closeBracket, Cond.selects RX2 yX2_closeBracket yX2_closeBracket, Cond.code yX2_closeBracket cX2_closeBracket 1 (some .boolean), Cond.methodLink RX2 47 yX2_repeat, Cond.instanceMethod yX2_repeat, Cond.selects RX2 yX2_repeat yX2_repeat, Cond.code yX2_repeat cX2_repeat 5 (some .boolean), Cond.fieldLink RX2 9 "NudgeLocks$Schedule" "plan" "[B", Cond.methodLink RX2 51 arraycopyName, Cond.native arraycopyName, Cond.static arraycopyName, Cond.initialized "java/lang/System", Cond.methodLink RX2 44 yX2_append, Cond.instanceMethod yX2_append, Cond.selects RX2 yX2_append yX2_append, Cond.code yX2_append cX2_append 2 (some .boolean), Cond.methodLink RX4 59 yX4_remember, Cond.instanceMethod yX4_remember, Cond.selects RX4 yX4_remember yX4_remember, Cond.initialized RX4, Cond.code yX4_remember cX4_remember 1 none]
def wsX4_perform_r3 : List Cond := [Cond.fieldLink RX4 30 "NudgeLocks" "remembered" "I", Cond.fieldLink RX4 26 "NudgeLocks" "history" "[LNudgeLocks$State;", Cond.methodLink RX4 181 yX4_dropOldest, Cond.instanceMethod yX4_dropOldest, Cond.selects RX4 yX4_dropOldest yX4_dropOldest, Cond.code yX4_dropOldest cX4_dropOldest 3 none, Cond.methodLink RX4 114 yX3_copyFrom, Cond.instanceMethod yX3_copyFrom, Cond.selects RX3 yX3_copyFrom yX3_copyFrom, Cond.initialized RX3, Cond.code yX3_copyFrom cX3_copyFrom 2 none, Cond.fieldLink RX3 14 "NudgeLocks$State" "lock" "LNudgeLocks$Lock;", Cond.fieldLink RX3 18 "NudgeLocks$State" "counts" "[I", Cond.methodLink RX3 36 arraycopyName, Cond.fieldLink RX3 22 "NudgeLocks$State" "line" "[I", Cond.fieldLink RX3 25 "NudgeLocks$State" "lineLength" "I", Cond.fieldLink RX3 29 "NudgeLocks$State" "x" "I", Cond.methodLink RX3 32 yX1_copyFrom, Cond.instanceMethod yX1_copyFrom, Cond.selects RX1 yX1_copyFrom yX1_copyFrom, Cond.initialized RX1, Cond.code yX1_copyFrom cX1_copyFrom 2 none, Cond.fieldLink RX1 11 "NudgeLocks$Lock" "cells" "[I", Cond.methodLink RX1 19 arraycopyName]
def wsX4_perform_r4 : List Cond := [Cond.methodLink RX4 108 yX2_visitorAt, Cond.instanceMethod yX2_visitorAt, Cond.selects RX2 yX2_visitorAt yX2_visitorAt, Cond.code yX2_visitorAt cX2_visitorAt 2 (some .int), Cond.methodLink RX4 79 yX3_advance, Cond.instanceMethod yX3_advance, Cond.selects RX3 yX3_advance yX3_advance, Cond.code yX3_advance cX3_advance 3 none, Cond.methodLink RX3 46 yX1_queues, Cond.instanceMethod yX1_queues, Cond.selects RX1 yX1_queues yX1_queues, Cond.code yX1_queues cX1_queues 2 (some .boolean), Cond.methodLink RX1 25 yX1_kind, Cond.instanceMethod yX1_kind, Cond.selects RX1 yX1_kind yX1_kind, Cond.code yX1_kind cX1_kind 1 (some .int), Cond.methodLink RX1 33 yX1_stage, Cond.instanceMethod yX1_stage, Cond.selects RX1 yX1_stage yX1_stage, Cond.code yX1_stage cX1_stage 2 (some .int), Cond.methodLink RX3 50 yX1_touches, Cond.instanceMethod yX1_touches, Cond.selects RX1 yX1_touches yX1_touches, Cond.code yX1_touches cX1_touches 3 (some .int)]
def wsX4_perform_r5 : List Cond := [Cond.fieldLink RX1 37 "NudgeLocks$Lock" "FAR_TOUCHES" "[I", Cond.methodLink RX3 53 yX1_waits, Cond.instanceMethod yX1_waits, Cond.selects RX1 yX1_waits yX1_waits, Cond.code yX1_waits cX1_waits 3 (some .boolean), Cond.methodLink RX1 40 yX1_mayEnter, Cond.instanceMethod yX1_mayEnter, Cond.selects RX1 yX1_mayEnter yX1_mayEnter, Cond.code yX1_mayEnter cX1_mayEnter 2 (some .boolean), Cond.methodLink RX1 43 yX1_cardFlag, Cond.instanceMethod yX1_cardFlag, Cond.selects RX1 yX1_cardFlag yX1_cardFlag, Cond.code yX1_cardFlag cX1_cardFlag 2 (some .int), Cond.static yX4_isCard, Cond.code yX4_isCard cX4_isCard 1 (some .boolean), Cond.methodLink RX3 56 yX1_advance, Cond.instanceMethod yX1_advance, Cond.selects RX1 yX1_advance yX1_advance, Cond.code yX1_advance cX1_advance 2 none, Cond.methodLink RX1 46 yX1_waits, Cond.methodLink RX1 49 yX1_advanceNudges, Cond.instanceMethod yX1_advanceNudges, Cond.selects RX1 yX1_advanceNudges yX1_advanceNudges, Cond.code yX1_advanceNudges cX1_advanceNudges 2 none]
def wsX4_perform_r6 : List Cond := [Cond.methodLink RX1 61 yX1_moveTo, Cond.instanceMethod yX1_moveTo, Cond.selects RX1 yX1_moveTo yX1_moveTo, Cond.code yX1_moveTo cX1_moveTo 3 none, Cond.methodLink RX1 65 yX1_setNext, Cond.instanceMethod yX1_setNext, Cond.selects RX1 yX1_setNext yX1_setNext, Cond.code yX1_setNext cX1_setNext 3 none, Cond.static yX4_isVisitor, Cond.code yX4_isVisitor cX4_isVisitor 1 (some .boolean), Cond.methodLink RX1 68 yX1_leaveTail, Cond.instanceMethod yX1_leaveTail, Cond.selects RX1 yX1_leaveTail yX1_leaveTail, Cond.code yX1_leaveTail cX1_leaveTail 2 none, Cond.methodLink RX1 71 yX1_lowerFlag, Cond.instanceMethod yX1_lowerFlag, Cond.selects RX1 yX1_lowerFlag yX1_lowerFlag, Cond.code yX1_lowerFlag cX1_lowerFlag 2 none, Cond.methodLink RX1 52 yX1_advanceWatching, Cond.instanceMethod yX1_advanceWatching, Cond.selects RX1 yX1_advanceWatching yX1_advanceWatching, Cond.code yX1_advanceWatching cX1_advanceWatching 2 none, Cond.methodLink RX1 77 yX1_setCardFlag, Cond.instanceMethod yX1_setCardFlag]
def wsX4_perform_r7 : List Cond := [Cond.selects RX1 yX1_setCardFlag yX1_setCardFlag, Cond.code yX1_setCardFlag cX1_setCardFlag 3 none, Cond.methodLink RX1 55 yX1_advanceTickets, Cond.instanceMethod yX1_advanceTickets, Cond.selects RX1 yX1_advanceTickets yX1_advanceTickets, Cond.code yX1_advanceTickets cX1_advanceTickets 2 none, Cond.methodLink RX1 58 yX1_advanceGrabbing, Cond.instanceMethod yX1_advanceGrabbing, Cond.selects RX1 yX1_advanceGrabbing yX1_advanceGrabbing, Cond.code yX1_advanceGrabbing cX1_advanceGrabbing 2 none, Cond.methodLink RX3 60 yX1_stage, Cond.methodLink RX3 63 yX3_joinLine, Cond.instanceMethod yX3_joinLine, Cond.selects RX3 yX3_joinLine yX3_joinLine, Cond.code yX3_joinLine cX3_joinLine 2 none, Cond.methodLink RX3 66 yX3_leaveLine, Cond.instanceMethod yX3_leaveLine, Cond.selects RX3 yX3_leaveLine yX3_leaveLine, Cond.code yX3_leaveLine cX3_leaveLine 4 none]
def wsX4_perform : List Cond := .code yX4_perform cX4_perform 4 (some .int) :: ((wsX4_perform_r1 ++ (wsX4_perform_r2 ++ (wsX4_perform_r3 ++ (wsX4_perform_r4 ++ (wsX4_perform_r5 ++ (wsX4_perform_r6 ++ wsX4_perform_r7)))))) ++ wsX40 ++ wsX20 ++ wsX30 ++ wsX10)
def wsX4_finish_r1 : List Cond := [Cond.fieldLink RX4 12 "NudgeLocks" "state" "LNudgeLocks$State;", Cond.methodLink RX4 55 yX3_present, Cond.instanceMethod yX3_present, Cond.selects RX3 yX3_present yX3_present, Cond.initialized RX3, Cond.code yX3_present cX3_present 1 (some .int), Cond.fieldLink RX3 14 "NudgeLocks$State" "lock" "LNudgeLocks$Lock;", Cond.methodLink RX3 42 yX1_countAt, Cond.instanceMethod yX1_countAt, Cond.selects RX1 yX1_countAt yX1_countAt, Cond.initialized RX1, Cond.code yX1_countAt cX1_countAt 4 (some .int), Cond.methodLink RX1 33 yX1_stage, Cond.instanceMethod yX1_stage, Cond.selects RX1 yX1_stage yX1_stage, Cond.code yX1_stage cX1_stage 2 (some .int), Cond.fieldLink RX1 11 "NudgeLocks$Lock" "cells" "[I", Cond.methodLink RX4 59 yX4_remember, Cond.instanceMethod yX4_remember, Cond.selects RX4 yX4_remember yX4_remember, Cond.initialized RX4, Cond.code yX4_remember cX4_remember 1 none, Cond.fieldLink RX4 30 "NudgeLocks" "remembered" "I", Cond.fieldLink RX4 26 "NudgeLocks" "history" "[LNudgeLocks$State;"]
def wsX4_finish_r2 : List Cond := [Cond.methodLink RX4 181 yX4_dropOldest, Cond.instanceMethod yX4_dropOldest, Cond.selects RX4 yX4_dropOldest yX4_dropOldest, Cond.code yX4_dropOldest cX4_dropOldest 3 none, Cond.methodLink RX4 114 yX3_copyFrom, Cond.instanceMethod yX3_copyFrom, Cond.selects RX3 yX3_copyFrom yX3_copyFrom, Cond.code yX3_copyFrom cX3_copyFrom 2 none, Cond.fieldLink RX3 18 "NudgeLocks$State" "counts" "[I", Cond.methodLink RX3 36 arraycopyName, Cond.native arraycopyName, Cond.static arraycopyName, Cond.initialized "java/lang/System", Cond.fieldLink RX3 22 "NudgeLocks$State" "line" "[I", Cond.fieldLink RX3 25 "NudgeLocks$State" "lineLength" "I", Cond.fieldLink RX3 29 "NudgeLocks$State" "x" "I", Cond.methodLink RX3 32 yX1_copyFrom, Cond.instanceMethod yX1_copyFrom, Cond.selects RX1 yX1_copyFrom yX1_copyFrom, Cond.code yX1_copyFrom cX1_copyFrom 2 none, Cond.methodLink RX1 19 arraycopyName, Cond.methodLink RX4 111 yX3_advanceAll, Cond.instanceMethod yX3_advanceAll, Cond.selects RX3 yX3_advanceAll yX3_advanceAll]
def wsX4_finish_r3 : List Cond := [Cond.code yX3_advanceAll cX3_advanceAll 4 (some .int), Cond.constant RX3 73 (100000), Cond.methodLink RX3 74 yX3_present, Cond.methodLink RX3 60 yX1_stage, Cond.methodLink RX3 69 yX3_advance, Cond.instanceMethod yX3_advance, Cond.selects RX3 yX3_advance yX3_advance, Cond.code yX3_advance cX3_advance 3 none, Cond.methodLink RX3 46 yX1_queues, Cond.instanceMethod yX1_queues, Cond.selects RX1 yX1_queues yX1_queues, Cond.code yX1_queues cX1_queues 2 (some .boolean), Cond.methodLink RX1 25 yX1_kind, Cond.instanceMethod yX1_kind, Cond.selects RX1 yX1_kind yX1_kind, Cond.code yX1_kind cX1_kind 1 (some .int), Cond.methodLink RX3 50 yX1_touches, Cond.instanceMethod yX1_touches, Cond.selects RX1 yX1_touches yX1_touches, Cond.code yX1_touches cX1_touches 3 (some .int), Cond.fieldLink RX1 37 "NudgeLocks$Lock" "FAR_TOUCHES" "[I", Cond.methodLink RX3 53 yX1_waits, Cond.instanceMethod yX1_waits, Cond.selects RX1 yX1_waits yX1_waits]
def wsX4_finish_r4 : List Cond := [Cond.code yX1_waits cX1_waits 3 (some .boolean), Cond.methodLink RX1 40 yX1_mayEnter, Cond.instanceMethod yX1_mayEnter, Cond.selects RX1 yX1_mayEnter yX1_mayEnter, Cond.code yX1_mayEnter cX1_mayEnter 2 (some .boolean), Cond.methodLink RX1 43 yX1_cardFlag, Cond.instanceMethod yX1_cardFlag, Cond.selects RX1 yX1_cardFlag yX1_cardFlag, Cond.code yX1_cardFlag cX1_cardFlag 2 (some .int), Cond.static yX4_isCard, Cond.code yX4_isCard cX4_isCard 1 (some .boolean), Cond.methodLink RX3 56 yX1_advance, Cond.instanceMethod yX1_advance, Cond.selects RX1 yX1_advance yX1_advance, Cond.code yX1_advance cX1_advance 2 none, Cond.methodLink RX1 46 yX1_waits, Cond.methodLink RX1 49 yX1_advanceNudges, Cond.instanceMethod yX1_advanceNudges, Cond.selects RX1 yX1_advanceNudges yX1_advanceNudges, Cond.code yX1_advanceNudges cX1_advanceNudges 2 none, Cond.methodLink RX1 61 yX1_moveTo, Cond.instanceMethod yX1_moveTo, Cond.selects RX1 yX1_moveTo yX1_moveTo, Cond.code yX1_moveTo cX1_moveTo 3 none]
def wsX4_finish_r5 : List Cond := [Cond.methodLink RX1 65 yX1_setNext, Cond.instanceMethod yX1_setNext, Cond.selects RX1 yX1_setNext yX1_setNext, Cond.code yX1_setNext cX1_setNext 3 none, Cond.static yX4_isVisitor, Cond.code yX4_isVisitor cX4_isVisitor 1 (some .boolean), Cond.methodLink RX1 68 yX1_leaveTail, Cond.instanceMethod yX1_leaveTail, Cond.selects RX1 yX1_leaveTail yX1_leaveTail, Cond.code yX1_leaveTail cX1_leaveTail 2 none, Cond.methodLink RX1 71 yX1_lowerFlag, Cond.instanceMethod yX1_lowerFlag, Cond.selects RX1 yX1_lowerFlag yX1_lowerFlag, Cond.code yX1_lowerFlag cX1_lowerFlag 2 none, Cond.methodLink RX1 52 yX1_advanceWatching, Cond.instanceMethod yX1_advanceWatching, Cond.selects RX1 yX1_advanceWatching yX1_advanceWatching, Cond.code yX1_advanceWatching cX1_advanceWatching 2 none, Cond.methodLink RX1 77 yX1_setCardFlag, Cond.instanceMethod yX1_setCardFlag, Cond.selects RX1 yX1_setCardFlag yX1_setCardFlag, Cond.code yX1_setCardFlag cX1_setCardFlag 3 none, Cond.methodLink RX1 55 yX1_advanceTickets, Cond.instanceMethod yX1_advanceTickets]
def wsX4_finish_r6 : List Cond := [Cond.selects RX1 yX1_advanceTickets yX1_advanceTickets, Cond.code yX1_advanceTickets cX1_advanceTickets 2 none, Cond.methodLink RX1 58 yX1_advanceGrabbing, Cond.instanceMethod yX1_advanceGrabbing, Cond.selects RX1 yX1_advanceGrabbing yX1_advanceGrabbing, Cond.code yX1_advanceGrabbing cX1_advanceGrabbing 2 none, Cond.methodLink RX3 63 yX3_joinLine, Cond.instanceMethod yX3_joinLine, Cond.selects RX3 yX3_joinLine yX3_joinLine, Cond.code yX3_joinLine cX3_joinLine 2 none, Cond.methodLink RX3 66 yX3_leaveLine, Cond.instanceMethod yX3_leaveLine, Cond.selects RX3 yX3_leaveLine yX3_leaveLine, Cond.code yX3_leaveLine cX3_leaveLine 4 none]
def wsX4_finish : List Cond := .code yX4_finish cX4_finish 1 (some .int) :: ((wsX4_finish_r1 ++ (wsX4_finish_r2 ++ (wsX4_finish_r3 ++ (wsX4_finish_r4 ++ (wsX4_finish_r5 ++ wsX4_finish_r6))))) ++ wsX40 ++ wsX30 ++ wsX10)
def wsX4_type : List Cond := .code yX4_type cX4_type 2 (some .int) :: ([.fieldLink RX4 38 "NudgeLocks" "length" "I", .fieldLink RX4 34 "NudgeLocks" "text" "[C"] ++ wsX40)
def wsX4_clearText : List Cond := .code yX4_clearText cX4_clearText 2 (some .int) :: ([.fieldLink RX4 38 "NudgeLocks" "length" "I"] ++ wsX40)
def wsX4_undo : List Cond := .code yX4_undo cX4_undo 1 (some .int) :: ([.fieldLink RX4 30 "NudgeLocks" "remembered" "I", .fieldLink RX4 12 "NudgeLocks" "state" "LNudgeLocks$State;", .fieldLink RX4 26 "NudgeLocks" "history" "[LNudgeLocks$State;", .methodLink RX4 114 yX3_copyFrom, .instanceMethod yX3_copyFrom, .selects RX3 yX3_copyFrom yX3_copyFrom, .initialized RX3, .code yX3_copyFrom cX3_copyFrom 2 none, .fieldLink RX3 14 "NudgeLocks$State" "lock" "LNudgeLocks$Lock;", .fieldLink RX3 18 "NudgeLocks$State" "counts" "[I", .methodLink RX3 36 arraycopyName, .native arraycopyName, .static arraycopyName, .initialized "java/lang/System", .fieldLink RX3 22 "NudgeLocks$State" "line" "[I", .fieldLink RX3 25 "NudgeLocks$State" "lineLength" "I", .fieldLink RX3 29 "NudgeLocks$State" "x" "I", .methodLink RX3 32 yX1_copyFrom, .instanceMethod yX1_copyFrom, .selects RX1 yX1_copyFrom yX1_copyFrom, .initialized RX1, .code yX1_copyFrom cX1_copyFrom 2 none, .fieldLink RX1 11 "NudgeLocks$Lock" "cells" "[I", .methodLink RX1 19 arraycopyName] ++ wsX40 ++ wsX30 ++ wsX10)
def wsX4_keep_r1 : List Cond := [Cond.fieldLink RX4 19 "NudgeLocks" "snapshot" "LNudgeLocks$State;", Cond.fieldLink RX4 12 "NudgeLocks" "state" "LNudgeLocks$State;", Cond.fieldLink RX4 22 "NudgeLocks" "hasSnapshot" "Z", Cond.methodLink RX4 114 yX3_copyFrom, Cond.instanceMethod yX3_copyFrom, Cond.selects RX3 yX3_copyFrom yX3_copyFrom, Cond.initialized RX3, Cond.code yX3_copyFrom cX3_copyFrom 2 none, Cond.fieldLink RX3 14 "NudgeLocks$State" "lock" "LNudgeLocks$Lock;", Cond.fieldLink RX3 18 "NudgeLocks$State" "counts" "[I", Cond.methodLink RX3 36 arraycopyName, Cond.native arraycopyName, Cond.static arraycopyName, Cond.initialized "java/lang/System", Cond.fieldLink RX3 22 "NudgeLocks$State" "line" "[I", Cond.fieldLink RX3 25 "NudgeLocks$State" "lineLength" "I", Cond.fieldLink RX3 29 "NudgeLocks$State" "x" "I", Cond.methodLink RX3 32 yX1_copyFrom, Cond.instanceMethod yX1_copyFrom, Cond.selects RX1 yX1_copyFrom yX1_copyFrom, Cond.initialized RX1, Cond.code yX1_copyFrom cX1_copyFrom 2 none, Cond.fieldLink RX1 11 "NudgeLocks$Lock" "cells" "[I", Cond.methodLink RX1 19 arraycopyName]
def wsX4_keep_r2 : List Cond := [Cond.methodLink RX4 55 yX3_present, Cond.instanceMethod yX3_present, Cond.selects RX3 yX3_present yX3_present, Cond.code yX3_present cX3_present 1 (some .int), Cond.methodLink RX3 42 yX1_countAt, Cond.instanceMethod yX1_countAt, Cond.selects RX1 yX1_countAt yX1_countAt, Cond.code yX1_countAt cX1_countAt 4 (some .int), Cond.methodLink RX1 33 yX1_stage, Cond.instanceMethod yX1_stage, Cond.selects RX1 yX1_stage yX1_stage, Cond.code yX1_stage cX1_stage 2 (some .int)]
def wsX4_keep : List Cond := .code yX4_keep cX4_keep 1 (some .int) :: ((wsX4_keep_r1 ++ wsX4_keep_r2) ++ wsX40 ++ wsX30 ++ wsX10)
def wsX4_restore_r1 : List Cond := [Cond.fieldLink RX4 22 "NudgeLocks" "hasSnapshot" "Z", Cond.fieldLink RX4 12 "NudgeLocks" "state" "LNudgeLocks$State;", Cond.fieldLink RX4 19 "NudgeLocks" "snapshot" "LNudgeLocks$State;", Cond.methodLink RX4 59 yX4_remember, Cond.instanceMethod yX4_remember, Cond.selects RX4 yX4_remember yX4_remember, Cond.initialized RX4, Cond.code yX4_remember cX4_remember 1 none, Cond.fieldLink RX4 30 "NudgeLocks" "remembered" "I", Cond.fieldLink RX4 26 "NudgeLocks" "history" "[LNudgeLocks$State;", Cond.methodLink RX4 181 yX4_dropOldest, Cond.instanceMethod yX4_dropOldest, Cond.selects RX4 yX4_dropOldest yX4_dropOldest, Cond.code yX4_dropOldest cX4_dropOldest 3 none, Cond.methodLink RX4 114 yX3_copyFrom, Cond.instanceMethod yX3_copyFrom, Cond.selects RX3 yX3_copyFrom yX3_copyFrom, Cond.initialized RX3, Cond.code yX3_copyFrom cX3_copyFrom 2 none, Cond.fieldLink RX3 14 "NudgeLocks$State" "lock" "LNudgeLocks$Lock;", Cond.fieldLink RX3 18 "NudgeLocks$State" "counts" "[I", Cond.methodLink RX3 36 arraycopyName, Cond.native arraycopyName, Cond.static arraycopyName]
def wsX4_restore_r2 : List Cond := [Cond.initialized "java/lang/System", Cond.fieldLink RX3 22 "NudgeLocks$State" "line" "[I", Cond.fieldLink RX3 25 "NudgeLocks$State" "lineLength" "I", Cond.fieldLink RX3 29 "NudgeLocks$State" "x" "I", Cond.methodLink RX3 32 yX1_copyFrom, Cond.instanceMethod yX1_copyFrom, Cond.selects RX1 yX1_copyFrom yX1_copyFrom, Cond.initialized RX1, Cond.code yX1_copyFrom cX1_copyFrom 2 none, Cond.fieldLink RX1 11 "NudgeLocks$Lock" "cells" "[I", Cond.methodLink RX1 19 arraycopyName, Cond.methodLink RX4 55 yX3_present, Cond.instanceMethod yX3_present, Cond.selects RX3 yX3_present yX3_present, Cond.code yX3_present cX3_present 1 (some .int), Cond.methodLink RX3 42 yX1_countAt, Cond.instanceMethod yX1_countAt, Cond.selects RX1 yX1_countAt yX1_countAt, Cond.code yX1_countAt cX1_countAt 4 (some .int), Cond.methodLink RX1 33 yX1_stage, Cond.instanceMethod yX1_stage, Cond.selects RX1 yX1_stage yX1_stage, Cond.code yX1_stage cX1_stage 2 (some .int)]
def wsX4_restore : List Cond := .code yX4_restore cX4_restore 1 (some .int) :: ((wsX4_restore_r1 ++ wsX4_restore_r2) ++ wsX40 ++ wsX30 ++ wsX10)
def wsX4_visitor_r1 : List Cond := [Cond.fieldLink RX4 12 "NudgeLocks" "state" "LNudgeLocks$State;", Cond.methodLink RX4 75 yX4_isVisitor, Cond.static yX4_isVisitor, Cond.initialized RX4, Cond.code yX4_isVisitor cX4_isVisitor 1 (some .boolean), Cond.methodLink RX4 82 yX1_stage, Cond.instanceMethod yX1_stage, Cond.selects RX1 yX1_stage yX1_stage, Cond.initialized RX1, Cond.code yX1_stage cX1_stage 2 (some .int), Cond.fieldLink RX1 11 "NudgeLocks$Lock" "cells" "[I", Cond.methodLink RX4 118 yX3_count, Cond.instanceMethod yX3_count, Cond.selects RX3 yX3_count yX3_count, Cond.initialized RX3, Cond.code yX3_count cX3_count 3 (some .int), Cond.fieldLink RX3 18 "NudgeLocks$State" "counts" "[I", Cond.methodLink RX4 122 yX1_nextOf, Cond.instanceMethod yX1_nextOf, Cond.selects RX1 yX1_nextOf yX1_nextOf, Cond.code yX1_nextOf cX1_nextOf 2 (some .int), Cond.methodLink RX4 125 yX1_aheadOf, Cond.instanceMethod yX1_aheadOf, Cond.selects RX1 yX1_aheadOf yX1_aheadOf]
def wsX4_visitor_r2 : List Cond := [Cond.code yX1_aheadOf cX1_aheadOf 2 (some .int), Cond.methodLink RX1 25 yX1_kind, Cond.instanceMethod yX1_kind, Cond.selects RX1 yX1_kind yX1_kind, Cond.code yX1_kind cX1_kind 1 (some .int), Cond.methodLink RX4 128 yX1_ownCard, Cond.instanceMethod yX1_ownCard, Cond.selects RX1 yX1_ownCard yX1_ownCard, Cond.code yX1_ownCard cX1_ownCard 2 (some .int), Cond.methodLink RX4 131 yX1_ticket, Cond.instanceMethod yX1_ticket, Cond.selects RX1 yX1_ticket yX1_ticket, Cond.code yX1_ticket cX1_ticket 2 (some .int), Cond.methodLink RX4 134 yX1_flagOf, Cond.instanceMethod yX1_flagOf, Cond.selects RX1 yX1_flagOf yX1_flagOf, Cond.code yX1_flagOf cX1_flagOf 2 (some .int), Cond.methodLink RX4 137 yX3_placeOf, Cond.instanceMethod yX3_placeOf, Cond.selects RX3 yX3_placeOf yX3_placeOf, Cond.code yX3_placeOf cX3_placeOf 3 (some .int), Cond.fieldLink RX3 25 "NudgeLocks$State" "lineLength" "I", Cond.fieldLink RX3 22 "NudgeLocks$State" "line" "[I"]
def wsX4_visitor : List Cond := .code yX4_visitor cX4_visitor 3 (some .int) :: ((wsX4_visitor_r1 ++ wsX4_visitor_r2) ++ wsX40 ++ wsX30 ++ wsX10)
def wsX4_inLine : List Cond := .code yX4_inLine cX4_inLine 2 (some .int) :: ([.fieldLink RX4 12 "NudgeLocks" "state" "LNudgeLocks$State;", .methodLink RX4 140 yX3_visitorAt, .instanceMethod yX3_visitorAt, .selects RX3 yX3_visitorAt yX3_visitorAt, .initialized RX3, .code yX3_visitorAt cX3_visitorAt 2 (some .int), .fieldLink RX3 25 "NudgeLocks$State" "lineLength" "I", .fieldLink RX3 22 "NudgeLocks$State" "line" "[I"] ++ wsX40 ++ wsX30)
def wsX4_card : List Cond := .code yX4_card cX4_card 2 (some .int) :: ([.fieldLink RX4 12 "NudgeLocks" "state" "LNudgeLocks$State;", .methodLink RX4 141 yX4_isCard, .static yX4_isCard, .initialized RX4, .code yX4_isCard cX4_isCard 1 (some .boolean), .methodLink RX4 66 yX1_kind, .instanceMethod yX1_kind, .selects RX1 yX1_kind yX1_kind, .initialized RX1, .code yX1_kind cX1_kind 1 (some .int), .fieldLink RX1 11 "NudgeLocks$Lock" "cells" "[I", .methodLink RX4 144 yX1_cardFlag, .instanceMethod yX1_cardFlag, .selects RX1 yX1_cardFlag yX1_cardFlag, .code yX1_cardFlag cX1_cardFlag 2 (some .int)] ++ wsX40 ++ wsX30 ++ wsX10)
def wsX4_total_r1 : List Cond := [Cond.fieldLink RX4 12 "NudgeLocks" "state" "LNudgeLocks$State;", Cond.fieldLink RX4 30 "NudgeLocks" "remembered" "I", Cond.fieldLink RX4 38 "NudgeLocks" "length" "I", Cond.methodLink RX4 66 yX1_kind, Cond.instanceMethod yX1_kind, Cond.selects RX1 yX1_kind yX1_kind, Cond.initialized RX1, Cond.code yX1_kind cX1_kind 1 (some .int), Cond.fieldLink RX1 11 "NudgeLocks$Lock" "cells" "[I", Cond.methodLink RX4 147 yX1_whoIsInside, Cond.instanceMethod yX1_whoIsInside, Cond.selects RX1 yX1_whoIsInside yX1_whoIsInside, Cond.code yX1_whoIsInside cX1_whoIsInside 2 (some .int), Cond.methodLink RX1 33 yX1_stage, Cond.instanceMethod yX1_stage, Cond.selects RX1 yX1_stage yX1_stage, Cond.code yX1_stage cX1_stage 2 (some .int), Cond.methodLink RX4 150 yX1_tail, Cond.instanceMethod yX1_tail, Cond.selects RX1 yX1_tail yX1_tail, Cond.code yX1_tail cX1_tail 1 (some .int), Cond.methodLink RX4 55 yX3_present, Cond.instanceMethod yX3_present, Cond.selects RX3 yX3_present yX3_present]
def wsX4_total_r2 : List Cond := [Cond.initialized RX3, Cond.code yX3_present cX3_present 1 (some .int), Cond.fieldLink RX3 14 "NudgeLocks$State" "lock" "LNudgeLocks$Lock;", Cond.methodLink RX3 42 yX1_countAt, Cond.instanceMethod yX1_countAt, Cond.selects RX1 yX1_countAt yX1_countAt, Cond.code yX1_countAt cX1_countAt 4 (some .int), Cond.methodLink RX4 153 yX1_countAt, Cond.methodLink RX4 92 yX3_sum, Cond.instanceMethod yX3_sum, Cond.selects RX3 yX3_sum yX3_sum, Cond.code yX3_sum cX3_sum 4 (some .int), Cond.fieldLink RX3 18 "NudgeLocks$State" "counts" "[I", Cond.methodLink RX4 156 yX1_given, Cond.instanceMethod yX1_given, Cond.selects RX1 yX1_given yX1_given, Cond.code yX1_given cX1_given 1 (some .int), Cond.methodLink RX1 25 yX1_kind, Cond.methodLink RX4 159 yX1_served, Cond.instanceMethod yX1_served, Cond.selects RX1 yX1_served yX1_served, Cond.code yX1_served cX1_served 1 (some .int), Cond.methodLink RX4 162 yX1_grabFlag, Cond.instanceMethod yX1_grabFlag]
def wsX4_total_r3 : List Cond := [Cond.selects RX1 yX1_grabFlag yX1_grabFlag, Cond.code yX1_grabFlag cX1_grabFlag 1 (some .int)]
def wsX4_total : List Cond := .code yX4_total cX4_total 2 (some .int) :: ((wsX4_total_r1 ++ (wsX4_total_r2 ++ wsX4_total_r3)) ++ wsX40 ++ wsX30 ++ wsX10)
def wsX4_wouldLook_r1 : List Cond := [Cond.fieldLink RX4 12 "NudgeLocks" "state" "LNudgeLocks$State;", Cond.methodLink RX4 75 yX4_isVisitor, Cond.static yX4_isVisitor, Cond.initialized RX4, Cond.code yX4_isVisitor cX4_isVisitor 1 (some .boolean), Cond.methodLink RX4 86 yX1_waits, Cond.instanceMethod yX1_waits, Cond.selects RX1 yX1_waits yX1_waits, Cond.initialized RX1, Cond.code yX1_waits cX1_waits 3 (some .boolean), Cond.fieldLink RX1 11 "NudgeLocks$Lock" "cells" "[I", Cond.methodLink RX1 33 yX1_stage, Cond.instanceMethod yX1_stage, Cond.selects RX1 yX1_stage yX1_stage, Cond.code yX1_stage cX1_stage 2 (some .int), Cond.methodLink RX1 40 yX1_mayEnter, Cond.instanceMethod yX1_mayEnter, Cond.selects RX1 yX1_mayEnter yX1_mayEnter, Cond.code yX1_mayEnter cX1_mayEnter 2 (some .boolean), Cond.methodLink RX1 25 yX1_kind, Cond.instanceMethod yX1_kind, Cond.selects RX1 yX1_kind yX1_kind, Cond.code yX1_kind cX1_kind 1 (some .int), Cond.methodLink RX1 43 yX1_cardFlag]
def wsX4_wouldLook_r2 : List Cond := [Cond.instanceMethod yX1_cardFlag, Cond.selects RX1 yX1_cardFlag yX1_cardFlag, Cond.code yX1_cardFlag cX1_cardFlag 2 (some .int), Cond.static yX4_isCard, Cond.code yX4_isCard cX4_isCard 1 (some .boolean)]
def wsX4_wouldLook : List Cond := .code yX4_wouldLook cX4_wouldLook 2 (some .int) :: ((wsX4_wouldLook_r1 ++ wsX4_wouldLook_r2) ++ wsX40 ++ wsX30 ++ wsX10)
def wsX4_wouldTouch : List Cond := .code yX4_wouldTouch cX4_wouldTouch 2 (some .int) :: ([.fieldLink RX4 12 "NudgeLocks" "state" "LNudgeLocks$State;", .methodLink RX4 75 yX4_isVisitor, .static yX4_isVisitor, .initialized RX4, .code yX4_isVisitor cX4_isVisitor 1 (some .boolean), .methodLink RX4 165 yX1_touches, .instanceMethod yX1_touches, .selects RX1 yX1_touches yX1_touches, .initialized RX1, .code yX1_touches cX1_touches 3 (some .int), .fieldLink RX1 37 "NudgeLocks$Lock" "FAR_TOUCHES" "[I", .methodLink RX1 25 yX1_kind, .instanceMethod yX1_kind, .selects RX1 yX1_kind yX1_kind, .code yX1_kind cX1_kind 1 (some .int), .fieldLink RX1 11 "NudgeLocks$Lock" "cells" "[I", .methodLink RX1 33 yX1_stage, .instanceMethod yX1_stage, .selects RX1 yX1_stage yX1_stage, .code yX1_stage cX1_stage 2 (some .int)] ++ wsX40 ++ wsX30 ++ wsX10)
def wsX4_stepsToFinish_r1 : List Cond := [Cond.fieldLink RX4 16 "NudgeLocks" "trial" "LNudgeLocks$State;", Cond.fieldLink RX4 12 "NudgeLocks" "state" "LNudgeLocks$State;", Cond.methodLink RX4 114 yX3_copyFrom, Cond.instanceMethod yX3_copyFrom, Cond.selects RX3 yX3_copyFrom yX3_copyFrom, Cond.initialized RX3, Cond.code yX3_copyFrom cX3_copyFrom 2 none, Cond.fieldLink RX3 14 "NudgeLocks$State" "lock" "LNudgeLocks$Lock;", Cond.fieldLink RX3 18 "NudgeLocks$State" "counts" "[I", Cond.methodLink RX3 36 arraycopyName, Cond.native arraycopyName, Cond.static arraycopyName, Cond.initialized "java/lang/System", Cond.fieldLink RX3 22 "NudgeLocks$State" "line" "[I", Cond.fieldLink RX3 25 "NudgeLocks$State" "lineLength" "I", Cond.fieldLink RX3 29 "NudgeLocks$State" "x" "I", Cond.methodLink RX3 32 yX1_copyFrom, Cond.instanceMethod yX1_copyFrom, Cond.selects RX1 yX1_copyFrom yX1_copyFrom, Cond.initialized RX1, Cond.code yX1_copyFrom cX1_copyFrom 2 none, Cond.fieldLink RX1 11 "NudgeLocks$Lock" "cells" "[I", Cond.methodLink RX1 19 arraycopyName, Cond.methodLink RX4 111 yX3_advanceAll]
def wsX4_stepsToFinish_r2 : List Cond := [Cond.instanceMethod yX3_advanceAll, Cond.selects RX3 yX3_advanceAll yX3_advanceAll, Cond.code yX3_advanceAll cX3_advanceAll 4 (some .int), Cond.constant RX3 73 (100000), Cond.methodLink RX3 74 yX3_present, Cond.instanceMethod yX3_present, Cond.selects RX3 yX3_present yX3_present, Cond.code yX3_present cX3_present 1 (some .int), Cond.methodLink RX3 42 yX1_countAt, Cond.instanceMethod yX1_countAt, Cond.selects RX1 yX1_countAt yX1_countAt, Cond.code yX1_countAt cX1_countAt 4 (some .int), Cond.methodLink RX1 33 yX1_stage, Cond.instanceMethod yX1_stage, Cond.selects RX1 yX1_stage yX1_stage, Cond.code yX1_stage cX1_stage 2 (some .int), Cond.methodLink RX3 60 yX1_stage, Cond.methodLink RX3 69 yX3_advance, Cond.instanceMethod yX3_advance, Cond.selects RX3 yX3_advance yX3_advance, Cond.code yX3_advance cX3_advance 3 none, Cond.methodLink RX3 46 yX1_queues, Cond.instanceMethod yX1_queues, Cond.selects RX1 yX1_queues yX1_queues]
def wsX4_stepsToFinish_r3 : List Cond := [Cond.code yX1_queues cX1_queues 2 (some .boolean), Cond.methodLink RX1 25 yX1_kind, Cond.instanceMethod yX1_kind, Cond.selects RX1 yX1_kind yX1_kind, Cond.code yX1_kind cX1_kind 1 (some .int), Cond.methodLink RX3 50 yX1_touches, Cond.instanceMethod yX1_touches, Cond.selects RX1 yX1_touches yX1_touches, Cond.code yX1_touches cX1_touches 3 (some .int), Cond.fieldLink RX1 37 "NudgeLocks$Lock" "FAR_TOUCHES" "[I", Cond.methodLink RX3 53 yX1_waits, Cond.instanceMethod yX1_waits, Cond.selects RX1 yX1_waits yX1_waits, Cond.code yX1_waits cX1_waits 3 (some .boolean), Cond.methodLink RX1 40 yX1_mayEnter, Cond.instanceMethod yX1_mayEnter, Cond.selects RX1 yX1_mayEnter yX1_mayEnter, Cond.code yX1_mayEnter cX1_mayEnter 2 (some .boolean), Cond.methodLink RX1 43 yX1_cardFlag, Cond.instanceMethod yX1_cardFlag, Cond.selects RX1 yX1_cardFlag yX1_cardFlag, Cond.code yX1_cardFlag cX1_cardFlag 2 (some .int), Cond.static yX4_isCard, Cond.initialized RX4]
def wsX4_stepsToFinish_r4 : List Cond := [Cond.code yX4_isCard cX4_isCard 1 (some .boolean), Cond.methodLink RX3 56 yX1_advance, Cond.instanceMethod yX1_advance, Cond.selects RX1 yX1_advance yX1_advance, Cond.code yX1_advance cX1_advance 2 none, Cond.methodLink RX1 46 yX1_waits, Cond.methodLink RX1 49 yX1_advanceNudges, Cond.instanceMethod yX1_advanceNudges, Cond.selects RX1 yX1_advanceNudges yX1_advanceNudges, Cond.code yX1_advanceNudges cX1_advanceNudges 2 none, Cond.methodLink RX1 61 yX1_moveTo, Cond.instanceMethod yX1_moveTo, Cond.selects RX1 yX1_moveTo yX1_moveTo, Cond.code yX1_moveTo cX1_moveTo 3 none, Cond.methodLink RX1 65 yX1_setNext, Cond.instanceMethod yX1_setNext, Cond.selects RX1 yX1_setNext yX1_setNext, Cond.code yX1_setNext cX1_setNext 3 none, Cond.static yX4_isVisitor, Cond.code yX4_isVisitor cX4_isVisitor 1 (some .boolean), Cond.methodLink RX1 68 yX1_leaveTail, Cond.instanceMethod yX1_leaveTail, Cond.selects RX1 yX1_leaveTail yX1_leaveTail, Cond.code yX1_leaveTail cX1_leaveTail 2 none]
def wsX4_stepsToFinish_r5 : List Cond := [Cond.methodLink RX1 71 yX1_lowerFlag, Cond.instanceMethod yX1_lowerFlag, Cond.selects RX1 yX1_lowerFlag yX1_lowerFlag, Cond.code yX1_lowerFlag cX1_lowerFlag 2 none, Cond.methodLink RX1 52 yX1_advanceWatching, Cond.instanceMethod yX1_advanceWatching, Cond.selects RX1 yX1_advanceWatching yX1_advanceWatching, Cond.code yX1_advanceWatching cX1_advanceWatching 2 none, Cond.methodLink RX1 77 yX1_setCardFlag, Cond.instanceMethod yX1_setCardFlag, Cond.selects RX1 yX1_setCardFlag yX1_setCardFlag, Cond.code yX1_setCardFlag cX1_setCardFlag 3 none, Cond.methodLink RX1 55 yX1_advanceTickets, Cond.instanceMethod yX1_advanceTickets, Cond.selects RX1 yX1_advanceTickets yX1_advanceTickets, Cond.code yX1_advanceTickets cX1_advanceTickets 2 none, Cond.methodLink RX1 58 yX1_advanceGrabbing, Cond.instanceMethod yX1_advanceGrabbing, Cond.selects RX1 yX1_advanceGrabbing yX1_advanceGrabbing, Cond.code yX1_advanceGrabbing cX1_advanceGrabbing 2 none, Cond.methodLink RX3 63 yX3_joinLine, Cond.instanceMethod yX3_joinLine, Cond.selects RX3 yX3_joinLine yX3_joinLine, Cond.code yX3_joinLine cX3_joinLine 2 none]
def wsX4_stepsToFinish_r6 : List Cond := [Cond.methodLink RX3 66 yX3_leaveLine, Cond.instanceMethod yX3_leaveLine, Cond.selects RX3 yX3_leaveLine yX3_leaveLine, Cond.code yX3_leaveLine cX3_leaveLine 4 none]
def wsX4_stepsToFinish : List Cond := .code yX4_stepsToFinish cX4_stepsToFinish 1 (some .int) :: ((wsX4_stepsToFinish_r1 ++ (wsX4_stepsToFinish_r2 ++ (wsX4_stepsToFinish_r3 ++ (wsX4_stepsToFinish_r4 ++ (wsX4_stepsToFinish_r5 ++ wsX4_stepsToFinish_r6))))) ++ wsX40 ++ wsX30 ++ wsX10)
def wsX4_orders_r1 : List Cond := [Cond.fieldLink RX4 51 "NudgeLocks" "explorer" "LNudgeLocks$Explorer;", Cond.fieldLink RX4 12 "NudgeLocks" "state" "LNudgeLocks$State;", Cond.methodLink RX4 75 yX4_isVisitor, Cond.static yX4_isVisitor, Cond.initialized RX4, Cond.code yX4_isVisitor cX4_isVisitor 1 (some .boolean), Cond.methodLink RX4 168 yX0_explore, Cond.instanceMethod yX0_explore, Cond.selects RX0 yX0_explore yX0_explore, Cond.initialized RX0, Cond.code yX0_explore cX0_explore 5 (some .boolean), Cond.fieldLink RX0 26 "NudgeLocks$Explorer" "found" "I", Cond.fieldLink RX0 22 "NudgeLocks$Explorer" "trial" "LNudgeLocks$Lock;", Cond.methodLink RX0 30 yX1_copyFrom, Cond.instanceMethod yX1_copyFrom, Cond.selects RX1 yX1_copyFrom yX1_copyFrom, Cond.initialized RX1, Cond.code yX1_copyFrom cX1_copyFrom 2 none, Cond.fieldLink RX1 11 "NudgeLocks$Lock" "cells" "[I", Cond.methodLink RX1 19 arraycopyName, Cond.native arraycopyName, Cond.static arraycopyName, Cond.initialized "java/lang/System", Cond.methodLink RX0 34 yX0_append]
def wsX4_orders_r2 : List Cond := [Cond.instanceMethod yX0_append, Cond.selects RX0 yX0_append yX0_append, Cond.code yX0_append cX0_append 2 (some .boolean), Cond.fieldLink RX0 13 "NudgeLocks$Explorer" "locks" "[LNudgeLocks$Lock;", Cond.classLink RX0 11 RX1, Cond.instantiable RX1 1, Cond.fieldLink RX0 17 "NudgeLocks$Explorer" "back" "[I", Cond.methodLink RX0 21 yX1_init, Cond.instanceMethod yX1_init, Cond.code yX1_init cX1_init 1 none, Cond.methodLink RX1 5 objectInit, Cond.instanceMethod objectInit, Cond.code objectInit ⟨#[0xb1]⟩ 1 none, Cond.arrayClass .int, Cond.methodLink RX1 15 yX1_reset, Cond.instanceMethod yX1_reset, Cond.selects RX1 yX1_reset yX1_reset, Cond.code yX1_reset cX1_reset 3 none, Cond.methodLink RX0 38 yX0_follow, Cond.instanceMethod yX0_follow, Cond.selects RX0 yX0_follow yX0_follow, Cond.code yX0_follow cX0_follow 6 (some .boolean), Cond.methodLink RX0 42 yX1_advance, Cond.instanceMethod yX1_advance]
def wsX4_orders_r3 : List Cond := [Cond.selects RX1 yX1_advance yX1_advance, Cond.code yX1_advance cX1_advance 2 none, Cond.methodLink RX1 46 yX1_waits, Cond.instanceMethod yX1_waits, Cond.selects RX1 yX1_waits yX1_waits, Cond.code yX1_waits cX1_waits 3 (some .boolean), Cond.methodLink RX1 33 yX1_stage, Cond.instanceMethod yX1_stage, Cond.selects RX1 yX1_stage yX1_stage, Cond.code yX1_stage cX1_stage 2 (some .int), Cond.methodLink RX1 40 yX1_mayEnter, Cond.instanceMethod yX1_mayEnter, Cond.selects RX1 yX1_mayEnter yX1_mayEnter, Cond.code yX1_mayEnter cX1_mayEnter 2 (some .boolean), Cond.methodLink RX1 25 yX1_kind, Cond.instanceMethod yX1_kind, Cond.selects RX1 yX1_kind yX1_kind, Cond.code yX1_kind cX1_kind 1 (some .int), Cond.methodLink RX1 43 yX1_cardFlag, Cond.instanceMethod yX1_cardFlag, Cond.selects RX1 yX1_cardFlag yX1_cardFlag, Cond.code yX1_cardFlag cX1_cardFlag 2 (some .int), Cond.static yX4_isCard, Cond.code yX4_isCard cX4_isCard 1 (some .boolean)]
def wsX4_orders_r4 : List Cond := [Cond.methodLink RX1 49 yX1_advanceNudges, Cond.instanceMethod yX1_advanceNudges, Cond.selects RX1 yX1_advanceNudges yX1_advanceNudges, Cond.code yX1_advanceNudges cX1_advanceNudges 2 none, Cond.methodLink RX1 61 yX1_moveTo, Cond.instanceMethod yX1_moveTo, Cond.selects RX1 yX1_moveTo yX1_moveTo, Cond.code yX1_moveTo cX1_moveTo 3 none, Cond.methodLink RX1 65 yX1_setNext, Cond.instanceMethod yX1_setNext, Cond.selects RX1 yX1_setNext yX1_setNext, Cond.code yX1_setNext cX1_setNext 3 none, Cond.methodLink RX1 68 yX1_leaveTail, Cond.instanceMethod yX1_leaveTail, Cond.selects RX1 yX1_leaveTail yX1_leaveTail, Cond.code yX1_leaveTail cX1_leaveTail 2 none, Cond.methodLink RX1 71 yX1_lowerFlag, Cond.instanceMethod yX1_lowerFlag, Cond.selects RX1 yX1_lowerFlag yX1_lowerFlag, Cond.code yX1_lowerFlag cX1_lowerFlag 2 none, Cond.methodLink RX1 52 yX1_advanceWatching, Cond.instanceMethod yX1_advanceWatching, Cond.selects RX1 yX1_advanceWatching yX1_advanceWatching, Cond.code yX1_advanceWatching cX1_advanceWatching 2 none]
def wsX4_orders_r5 : List Cond := [Cond.methodLink RX1 77 yX1_setCardFlag, Cond.instanceMethod yX1_setCardFlag, Cond.selects RX1 yX1_setCardFlag yX1_setCardFlag, Cond.code yX1_setCardFlag cX1_setCardFlag 3 none, Cond.methodLink RX1 55 yX1_advanceTickets, Cond.instanceMethod yX1_advanceTickets, Cond.selects RX1 yX1_advanceTickets yX1_advanceTickets, Cond.code yX1_advanceTickets cX1_advanceTickets 2 none, Cond.methodLink RX1 58 yX1_advanceGrabbing, Cond.instanceMethod yX1_advanceGrabbing, Cond.selects RX1 yX1_advanceGrabbing yX1_advanceGrabbing, Cond.code yX1_advanceGrabbing cX1_advanceGrabbing 2 none, Cond.methodLink RX0 46 yX1_stage, Cond.methodLink RX0 50 yX0_isKnown, Cond.instanceMethod yX0_isKnown, Cond.selects RX0 yX0_isKnown yX0_isKnown, Cond.code yX0_isKnown cX0_isKnown 3 (some .boolean), Cond.methodLink RX0 53 yX1_sameAs, Cond.instanceMethod yX1_sameAs, Cond.selects RX1 yX1_sameAs yX1_sameAs, Cond.code yX1_sameAs cX1_sameAs 3 (some .boolean), Cond.methodLink RX4 172 yX0_found, Cond.instanceMethod yX0_found, Cond.selects RX0 yX0_found yX0_found]
def wsX4_orders_r6 : List Cond := [Cond.code yX0_found cX0_found 1 (some .int), Cond.methodLink RX4 175 yX0_countBothInside, Cond.instanceMethod yX0_countBothInside, Cond.selects RX0 yX0_countBothInside yX0_countBothInside, Cond.code yX0_countBothInside cX0_countBothInside 6 (some .int), Cond.methodLink RX4 178 yX0_countStuck, Cond.instanceMethod yX0_countStuck, Cond.selects RX0 yX0_countStuck yX0_countStuck, Cond.code yX0_countStuck cX0_countStuck 5 (some .int), Cond.methodLink RX0 57 yX0_isStuck, Cond.instanceMethod yX0_isStuck, Cond.selects RX0 yX0_isStuck yX0_isStuck, Cond.code yX0_isStuck cX0_isStuck 7 (some .boolean), Cond.methodLink RX0 60 yX1_waits]
def wsX4_orders : List Cond := .code yX4_orders cX4_orders 4 (some .int) :: ((wsX4_orders_r1 ++ (wsX4_orders_r2 ++ (wsX4_orders_r3 ++ (wsX4_orders_r4 ++ (wsX4_orders_r5 ++ wsX4_orders_r6))))) ++ wsX40 ++ wsX30 ++ wsX00 ++ wsX10)
def wsX5_clearLock : List Cond := .code yX5_clearLock cX5_clearLock 3 none :: ([.fieldLink RX5 7 "NudgeLocksModel" "z" "[I"] ++ wsX50)
def wsX5_init : List Cond := .code yX5_init cX5_init 1 none :: ([.methodLink RX5 1 objectInit, .instanceMethod objectInit, .code objectInit ⟨#[0xb1]⟩ 1 none, .arrayClass .int, .fieldLink RX5 7 "NudgeLocksModel" "z" "[I", .fieldLink RX5 13 "NudgeLocksModel" "spare" "[I", .fieldLink RX5 16 "NudgeLocksModel" "past" "[I", .fieldLink RX5 19 "NudgeLocksModel" "kept" "[I", .fieldLink RX5 22 "NudgeLocksModel" "text" "[I", .fieldLink RX5 25 "NudgeLocksModel" "sums" "[I", .fieldLink RX5 28 "NudgeLocksModel" "items" "[I", .fieldLink RX5 31 "NudgeLocksModel" "times" "[I", .fieldLink RX5 34 "NudgeLocksModel" "begins" "[I", .fieldLink RX5 37 "NudgeLocksModel" "left" "[I", .fieldLink RX5 40 "NudgeLocksModel" "found" "[I", .methodLink RX5 43 yX5_clearLock, .instanceMethod yX5_clearLock, .selects RX5 yX5_clearLock yX5_clearLock, .initialized RX5, .code yX5_clearLock cX5_clearLock 3 none] ++ wsX50)
def wsX5_in : List Cond := .code yX5_in cX5_in 3 (some .boolean) :: ([])
def wsX5_isVisitor : List Cond := .code yX5_isVisitor cX5_isVisitor 1 (some .boolean) :: ([.methodLink RX5 47 yX5_in, .static yX5_in, .initialized RX5, .code yX5_in cX5_in 3 (some .boolean)])
def wsX5_copyRow : List Cond := .code yX5_copyRow cX5_copyRow 6 none :: ([])
def wsX5_record : List Cond := .code yX5_record cX5_record 2 none :: ([.fieldLink RX5 51 "NudgeLocksModel" "states" "I", .fieldLink RX5 16 "NudgeLocksModel" "past" "[I", .fieldLink RX5 7 "NudgeLocksModel" "z" "[I", .methodLink RX5 55 yX5_copyRow, .static yX5_copyRow, .initialized RX5, .code yX5_copyRow cX5_copyRow 6 none] ++ wsX50)
def wsX5_notAway : List Cond := .code yX5_notAway cX5_notAway 3 (some .int) :: ([.fieldLink RX5 7 "NudgeLocksModel" "z" "[I"] ++ wsX50)
def wsX5_undo : List Cond := .code yX5_undo cX5_undo 1 (some .int) :: ([.fieldLink RX5 51 "NudgeLocksModel" "states" "I", .fieldLink RX5 16 "NudgeLocksModel" "past" "[I", .fieldLink RX5 7 "NudgeLocksModel" "z" "[I", .methodLink RX5 55 yX5_copyRow, .static yX5_copyRow, .initialized RX5, .code yX5_copyRow cX5_copyRow 6 none] ++ wsX50)
def wsX5_keep : List Cond := .code yX5_keep cX5_keep 1 (some .int) :: ([.fieldLink RX5 7 "NudgeLocksModel" "z" "[I", .fieldLink RX5 19 "NudgeLocksModel" "kept" "[I", .fieldLink RX5 59 "NudgeLocksModel" "isKept" "Z", .methodLink RX5 55 yX5_copyRow, .static yX5_copyRow, .initialized RX5, .code yX5_copyRow cX5_copyRow 6 none, .methodLink RX5 63 yX5_notAway, .instanceMethod yX5_notAway, .selects RX5 yX5_notAway yX5_notAway, .code yX5_notAway cX5_notAway 3 (some .int)] ++ wsX50)
def wsX5_restore : List Cond := .code yX5_restore cX5_restore 1 (some .int) :: ([.fieldLink RX5 59 "NudgeLocksModel" "isKept" "Z", .fieldLink RX5 19 "NudgeLocksModel" "kept" "[I", .fieldLink RX5 7 "NudgeLocksModel" "z" "[I", .methodLink RX5 67 yX5_record, .instanceMethod yX5_record, .selects RX5 yX5_record yX5_record, .initialized RX5, .code yX5_record cX5_record 2 none, .fieldLink RX5 51 "NudgeLocksModel" "states" "I", .fieldLink RX5 16 "NudgeLocksModel" "past" "[I", .methodLink RX5 55 yX5_copyRow, .static yX5_copyRow, .code yX5_copyRow cX5_copyRow 6 none, .methodLink RX5 63 yX5_notAway, .instanceMethod yX5_notAway, .selects RX5 yX5_notAway yX5_notAway, .code yX5_notAway cX5_notAway 3 (some .int)] ++ wsX50)
def wsX5_isLook : List Cond := .code yX5_isLook cX5_isLook 3 (some .boolean) :: ([.fieldLink RX5 7 "NudgeLocksModel" "z" "[I"] ++ wsX50)
def wsX5_cost : List Cond := .code yX5_cost cX5_cost 2 (some .int) :: ([])
def wsX5_changeNudges : List Cond := .code yX5_changeNudges cX5_changeNudges 4 none :: ([.fieldLink RX5 7 "NudgeLocksModel" "z" "[I"] ++ wsX50)
def wsX5_changeWatching : List Cond := .code yX5_changeWatching cX5_changeWatching 2 none :: ([.fieldLink RX5 7 "NudgeLocksModel" "z" "[I"] ++ wsX50)
def wsX5_changeTickets : List Cond := .code yX5_changeTickets cX5_changeTickets 2 none :: ([.fieldLink RX5 7 "NudgeLocksModel" "z" "[I"] ++ wsX50)
def wsX5_changeGrabbing : List Cond := .code yX5_changeGrabbing cX5_changeGrabbing 3 none :: ([.fieldLink RX5 7 "NudgeLocksModel" "z" "[I"] ++ wsX50)
def wsX5_change : List Cond := .code yX5_change cX5_change 2 none :: ([.fieldLink RX5 7 "NudgeLocksModel" "z" "[I", .methodLink RX5 70 yX5_changeNudges, .instanceMethod yX5_changeNudges, .selects RX5 yX5_changeNudges yX5_changeNudges, .initialized RX5, .code yX5_changeNudges cX5_changeNudges 4 none, .methodLink RX5 73 yX5_changeWatching, .instanceMethod yX5_changeWatching, .selects RX5 yX5_changeWatching yX5_changeWatching, .code yX5_changeWatching cX5_changeWatching 2 none, .methodLink RX5 76 yX5_changeTickets, .instanceMethod yX5_changeTickets, .selects RX5 yX5_changeTickets yX5_changeTickets, .code yX5_changeTickets cX5_changeTickets 2 none, .methodLink RX5 79 yX5_changeGrabbing, .instanceMethod yX5_changeGrabbing, .selects RX5 yX5_changeGrabbing yX5_changeGrabbing, .code yX5_changeGrabbing cX5_changeGrabbing 3 none] ++ wsX50)
def wsX5_placeOf : List Cond := .code yX5_placeOf cX5_placeOf 4 (some .int) :: ([.fieldLink RX5 7 "NudgeLocksModel" "z" "[I"] ++ wsX50)
def wsX5_leaveLine : List Cond := .code yX5_leaveLine cX5_leaveLine 4 none :: ([.fieldLink RX5 7 "NudgeLocksModel" "z" "[I", .methodLink RX5 82 yX5_placeOf, .instanceMethod yX5_placeOf, .selects RX5 yX5_placeOf yX5_placeOf, .initialized RX5, .code yX5_placeOf cX5_placeOf 4 (some .int)] ++ wsX50)
def wsX5_makeStep_r1 : List Cond := [Cond.fieldLink RX5 7 "NudgeLocksModel" "z" "[I", Cond.methodLink RX5 86 yX5_isLook, Cond.instanceMethod yX5_isLook, Cond.selects RX5 yX5_isLook yX5_isLook, Cond.initialized RX5, Cond.code yX5_isLook cX5_isLook 3 (some .boolean), Cond.methodLink RX5 90 yX5_cost, Cond.static yX5_cost, Cond.code yX5_cost cX5_cost 2 (some .int), Cond.methodLink RX5 94 yX5_change, Cond.instanceMethod yX5_change, Cond.selects RX5 yX5_change yX5_change, Cond.code yX5_change cX5_change 2 none, Cond.methodLink RX5 70 yX5_changeNudges, Cond.instanceMethod yX5_changeNudges, Cond.selects RX5 yX5_changeNudges yX5_changeNudges, Cond.code yX5_changeNudges cX5_changeNudges 4 none, Cond.methodLink RX5 73 yX5_changeWatching, Cond.instanceMethod yX5_changeWatching, Cond.selects RX5 yX5_changeWatching yX5_changeWatching, Cond.code yX5_changeWatching cX5_changeWatching 2 none, Cond.methodLink RX5 76 yX5_changeTickets, Cond.instanceMethod yX5_changeTickets, Cond.selects RX5 yX5_changeTickets yX5_changeTickets]
def wsX5_makeStep_r2 : List Cond := [Cond.code yX5_changeTickets cX5_changeTickets 2 none, Cond.methodLink RX5 79 yX5_changeGrabbing, Cond.instanceMethod yX5_changeGrabbing, Cond.selects RX5 yX5_changeGrabbing yX5_changeGrabbing, Cond.code yX5_changeGrabbing cX5_changeGrabbing 3 none, Cond.methodLink RX5 97 yX5_leaveLine, Cond.instanceMethod yX5_leaveLine, Cond.selects RX5 yX5_leaveLine yX5_leaveLine, Cond.code yX5_leaveLine cX5_leaveLine 4 none, Cond.methodLink RX5 82 yX5_placeOf, Cond.instanceMethod yX5_placeOf, Cond.selects RX5 yX5_placeOf yX5_placeOf, Cond.code yX5_placeOf cX5_placeOf 4 (some .int)]
def wsX5_makeStep : List Cond := .code yX5_makeStep cX5_makeStep 4 none :: ((wsX5_makeStep_r1 ++ wsX5_makeStep_r2) ++ wsX50)
def wsX5_build : List Cond := .code yX5_build cX5_build 3 (some .int) :: ([.fieldLink RX5 7 "NudgeLocksModel" "z" "[I", .methodLink RX5 47 yX5_in, .static yX5_in, .initialized RX5, .code yX5_in cX5_in 3 (some .boolean), .methodLink RX5 63 yX5_notAway, .instanceMethod yX5_notAway, .selects RX5 yX5_notAway yX5_notAway, .code yX5_notAway cX5_notAway 3 (some .int), .methodLink RX5 67 yX5_record, .instanceMethod yX5_record, .selects RX5 yX5_record yX5_record, .code yX5_record cX5_record 2 none, .fieldLink RX5 51 "NudgeLocksModel" "states" "I", .fieldLink RX5 16 "NudgeLocksModel" "past" "[I", .methodLink RX5 55 yX5_copyRow, .static yX5_copyRow, .code yX5_copyRow cX5_copyRow 6 none, .methodLink RX5 43 yX5_clearLock, .instanceMethod yX5_clearLock, .selects RX5 yX5_clearLock yX5_clearLock, .code yX5_clearLock cX5_clearLock 3 none] ++ wsX50)
def wsX5_step_r1 : List Cond := [Cond.fieldLink RX5 7 "NudgeLocksModel" "z" "[I", Cond.methodLink RX5 100 yX5_isVisitor, Cond.static yX5_isVisitor, Cond.initialized RX5, Cond.code yX5_isVisitor cX5_isVisitor 1 (some .boolean), Cond.methodLink RX5 47 yX5_in, Cond.static yX5_in, Cond.code yX5_in cX5_in 3 (some .boolean), Cond.methodLink RX5 67 yX5_record, Cond.instanceMethod yX5_record, Cond.selects RX5 yX5_record yX5_record, Cond.code yX5_record cX5_record 2 none, Cond.fieldLink RX5 51 "NudgeLocksModel" "states" "I", Cond.fieldLink RX5 16 "NudgeLocksModel" "past" "[I", Cond.methodLink RX5 55 yX5_copyRow, Cond.static yX5_copyRow, Cond.code yX5_copyRow cX5_copyRow 6 none, Cond.methodLink RX5 103 yX5_makeStep, Cond.instanceMethod yX5_makeStep, Cond.selects RX5 yX5_makeStep yX5_makeStep, Cond.code yX5_makeStep cX5_makeStep 4 none, Cond.methodLink RX5 86 yX5_isLook, Cond.instanceMethod yX5_isLook, Cond.selects RX5 yX5_isLook yX5_isLook]
def wsX5_step_r2 : List Cond := [Cond.code yX5_isLook cX5_isLook 3 (some .boolean), Cond.methodLink RX5 90 yX5_cost, Cond.static yX5_cost, Cond.code yX5_cost cX5_cost 2 (some .int), Cond.methodLink RX5 94 yX5_change, Cond.instanceMethod yX5_change, Cond.selects RX5 yX5_change yX5_change, Cond.code yX5_change cX5_change 2 none, Cond.methodLink RX5 70 yX5_changeNudges, Cond.instanceMethod yX5_changeNudges, Cond.selects RX5 yX5_changeNudges yX5_changeNudges, Cond.code yX5_changeNudges cX5_changeNudges 4 none, Cond.methodLink RX5 73 yX5_changeWatching, Cond.instanceMethod yX5_changeWatching, Cond.selects RX5 yX5_changeWatching yX5_changeWatching, Cond.code yX5_changeWatching cX5_changeWatching 2 none, Cond.methodLink RX5 76 yX5_changeTickets, Cond.instanceMethod yX5_changeTickets, Cond.selects RX5 yX5_changeTickets yX5_changeTickets, Cond.code yX5_changeTickets cX5_changeTickets 2 none, Cond.methodLink RX5 79 yX5_changeGrabbing, Cond.instanceMethod yX5_changeGrabbing, Cond.selects RX5 yX5_changeGrabbing yX5_changeGrabbing, Cond.code yX5_changeGrabbing cX5_changeGrabbing 3 none]
def wsX5_step_r3 : List Cond := [Cond.methodLink RX5 97 yX5_leaveLine, Cond.instanceMethod yX5_leaveLine, Cond.selects RX5 yX5_leaveLine yX5_leaveLine, Cond.code yX5_leaveLine cX5_leaveLine 4 none, Cond.methodLink RX5 82 yX5_placeOf, Cond.instanceMethod yX5_placeOf, Cond.selects RX5 yX5_placeOf yX5_placeOf, Cond.code yX5_placeOf cX5_placeOf 4 (some .int)]
def wsX5_step : List Cond := .code yX5_step cX5_step 2 (some .int) :: ((wsX5_step_r1 ++ (wsX5_step_r2 ++ wsX5_step_r3)) ++ wsX50)
def wsX5_go_r1 : List Cond := [Cond.fieldLink RX5 7 "NudgeLocksModel" "z" "[I", Cond.methodLink RX5 100 yX5_isVisitor, Cond.static yX5_isVisitor, Cond.initialized RX5, Cond.code yX5_isVisitor cX5_isVisitor 1 (some .boolean), Cond.methodLink RX5 47 yX5_in, Cond.static yX5_in, Cond.code yX5_in cX5_in 3 (some .boolean), Cond.methodLink RX5 86 yX5_isLook, Cond.instanceMethod yX5_isLook, Cond.selects RX5 yX5_isLook yX5_isLook, Cond.code yX5_isLook cX5_isLook 3 (some .boolean), Cond.methodLink RX5 67 yX5_record, Cond.instanceMethod yX5_record, Cond.selects RX5 yX5_record yX5_record, Cond.code yX5_record cX5_record 2 none, Cond.fieldLink RX5 51 "NudgeLocksModel" "states" "I", Cond.fieldLink RX5 16 "NudgeLocksModel" "past" "[I", Cond.methodLink RX5 55 yX5_copyRow, Cond.static yX5_copyRow, Cond.code yX5_copyRow cX5_copyRow 6 none, Cond.methodLink RX5 103 yX5_makeStep, Cond.instanceMethod yX5_makeStep, Cond.selects RX5 yX5_makeStep yX5_makeStep]
def wsX5_go_r2 : List Cond := [Cond.code yX5_makeStep cX5_makeStep 4 none, Cond.methodLink RX5 90 yX5_cost, Cond.static yX5_cost, Cond.code yX5_cost cX5_cost 2 (some .int), Cond.methodLink RX5 94 yX5_change, Cond.instanceMethod yX5_change, Cond.selects RX5 yX5_change yX5_change, Cond.code yX5_change cX5_change 2 none, Cond.methodLink RX5 70 yX5_changeNudges, Cond.instanceMethod yX5_changeNudges, Cond.selects RX5 yX5_changeNudges yX5_changeNudges, Cond.code yX5_changeNudges cX5_changeNudges 4 none, Cond.methodLink RX5 73 yX5_changeWatching, Cond.instanceMethod yX5_changeWatching, Cond.selects RX5 yX5_changeWatching yX5_changeWatching, Cond.code yX5_changeWatching cX5_changeWatching 2 none, Cond.methodLink RX5 76 yX5_changeTickets, Cond.instanceMethod yX5_changeTickets, Cond.selects RX5 yX5_changeTickets yX5_changeTickets, Cond.code yX5_changeTickets cX5_changeTickets 2 none, Cond.methodLink RX5 79 yX5_changeGrabbing, Cond.instanceMethod yX5_changeGrabbing, Cond.selects RX5 yX5_changeGrabbing yX5_changeGrabbing, Cond.code yX5_changeGrabbing cX5_changeGrabbing 3 none]
def wsX5_go_r3 : List Cond := [Cond.methodLink RX5 97 yX5_leaveLine, Cond.instanceMethod yX5_leaveLine, Cond.selects RX5 yX5_leaveLine yX5_leaveLine, Cond.code yX5_leaveLine cX5_leaveLine 4 none, Cond.methodLink RX5 82 yX5_placeOf, Cond.instanceMethod yX5_placeOf, Cond.selects RX5 yX5_placeOf yX5_placeOf, Cond.code yX5_placeOf cX5_placeOf 4 (some .int)]
def wsX5_go : List Cond := .code yX5_go cX5_go 4 (some .int) :: ((wsX5_go_r1 ++ (wsX5_go_r2 ++ wsX5_go_r3)) ++ wsX50)
def wsX5_bits : List Cond := .code yX5_bits cX5_bits 3 (some .int) :: ([])
def wsX5_pick : List Cond := .code yX5_pick cX5_pick 5 (some .int) :: ([])
def wsX5_sum : List Cond := .code yX5_sum cX5_sum 4 (some .int) :: ([.fieldLink RX5 7 "NudgeLocksModel" "z" "[I"] ++ wsX50)
def wsX5_draw_r1 : List Cond := [Cond.fieldLink RX5 7 "NudgeLocksModel" "z" "[I", Cond.constantLong RX5 109 (1103515245), Cond.constantLong RX5 111 (12345), Cond.constantLong RX5 113 (2147483648), Cond.constant RX5 115 (65536), Cond.methodLink RX5 47 yX5_in, Cond.static yX5_in, Cond.initialized RX5, Cond.code yX5_in cX5_in 3 (some .boolean), Cond.methodLink RX5 67 yX5_record, Cond.instanceMethod yX5_record, Cond.selects RX5 yX5_record yX5_record, Cond.code yX5_record cX5_record 2 none, Cond.fieldLink RX5 51 "NudgeLocksModel" "states" "I", Cond.fieldLink RX5 16 "NudgeLocksModel" "past" "[I", Cond.methodLink RX5 55 yX5_copyRow, Cond.static yX5_copyRow, Cond.code yX5_copyRow cX5_copyRow 6 none, Cond.methodLink RX5 106 yX5_sum, Cond.instanceMethod yX5_sum, Cond.selects RX5 yX5_sum yX5_sum, Cond.code yX5_sum cX5_sum 4 (some .int), Cond.methodLink RX5 116 yX5_bits, Cond.static yX5_bits]
def wsX5_draw_r2 : List Cond := [Cond.code yX5_bits cX5_bits 3 (some .int), Cond.methodLink RX5 119 yX5_pick, Cond.static yX5_pick, Cond.code yX5_pick cX5_pick 5 (some .int), Cond.methodLink RX5 103 yX5_makeStep, Cond.instanceMethod yX5_makeStep, Cond.selects RX5 yX5_makeStep yX5_makeStep, Cond.code yX5_makeStep cX5_makeStep 4 none, Cond.methodLink RX5 86 yX5_isLook, Cond.instanceMethod yX5_isLook, Cond.selects RX5 yX5_isLook yX5_isLook, Cond.code yX5_isLook cX5_isLook 3 (some .boolean), Cond.methodLink RX5 90 yX5_cost, Cond.static yX5_cost, Cond.code yX5_cost cX5_cost 2 (some .int), Cond.methodLink RX5 94 yX5_change, Cond.instanceMethod yX5_change, Cond.selects RX5 yX5_change yX5_change, Cond.code yX5_change cX5_change 2 none, Cond.methodLink RX5 70 yX5_changeNudges, Cond.instanceMethod yX5_changeNudges, Cond.selects RX5 yX5_changeNudges yX5_changeNudges, Cond.code yX5_changeNudges cX5_changeNudges 4 none, Cond.methodLink RX5 73 yX5_changeWatching]
def wsX5_draw_r3 : List Cond := [Cond.instanceMethod yX5_changeWatching, Cond.selects RX5 yX5_changeWatching yX5_changeWatching, Cond.code yX5_changeWatching cX5_changeWatching 2 none, Cond.methodLink RX5 76 yX5_changeTickets, Cond.instanceMethod yX5_changeTickets, Cond.selects RX5 yX5_changeTickets yX5_changeTickets, Cond.code yX5_changeTickets cX5_changeTickets 2 none, Cond.methodLink RX5 79 yX5_changeGrabbing, Cond.instanceMethod yX5_changeGrabbing, Cond.selects RX5 yX5_changeGrabbing yX5_changeGrabbing, Cond.code yX5_changeGrabbing cX5_changeGrabbing 3 none, Cond.methodLink RX5 97 yX5_leaveLine, Cond.instanceMethod yX5_leaveLine, Cond.selects RX5 yX5_leaveLine yX5_leaveLine, Cond.code yX5_leaveLine cX5_leaveLine 4 none, Cond.methodLink RX5 82 yX5_placeOf, Cond.instanceMethod yX5_placeOf, Cond.selects RX5 yX5_placeOf yX5_placeOf, Cond.code yX5_placeOf cX5_placeOf 4 (some .int)]
def wsX5_draw : List Cond := .code yX5_draw cX5_draw 5 (some .int) :: ((wsX5_draw_r1 ++ (wsX5_draw_r2 ++ wsX5_draw_r3)) ++ wsX50)
def wsX5_shuffle : List Cond := .code yX5_shuffle cX5_shuffle 3 (some .int) :: ([.fieldLink RX5 7 "NudgeLocksModel" "z" "[I", .methodLink RX5 67 yX5_record, .instanceMethod yX5_record, .selects RX5 yX5_record yX5_record, .initialized RX5, .code yX5_record cX5_record 2 none, .fieldLink RX5 51 "NudgeLocksModel" "states" "I", .fieldLink RX5 16 "NudgeLocksModel" "past" "[I", .methodLink RX5 55 yX5_copyRow, .static yX5_copyRow, .code yX5_copyRow cX5_copyRow 6 none] ++ wsX50)
def wsX5_finishAll_r1 : List Cond := [Cond.fieldLink RX5 7 "NudgeLocksModel" "z" "[I", Cond.methodLink RX5 106 yX5_sum, Cond.instanceMethod yX5_sum, Cond.selects RX5 yX5_sum yX5_sum, Cond.initialized RX5, Cond.code yX5_sum cX5_sum 4 (some .int), Cond.methodLink RX5 63 yX5_notAway, Cond.instanceMethod yX5_notAway, Cond.selects RX5 yX5_notAway yX5_notAway, Cond.code yX5_notAway cX5_notAway 3 (some .int), Cond.methodLink RX5 103 yX5_makeStep, Cond.instanceMethod yX5_makeStep, Cond.selects RX5 yX5_makeStep yX5_makeStep, Cond.code yX5_makeStep cX5_makeStep 4 none, Cond.methodLink RX5 86 yX5_isLook, Cond.instanceMethod yX5_isLook, Cond.selects RX5 yX5_isLook yX5_isLook, Cond.code yX5_isLook cX5_isLook 3 (some .boolean), Cond.methodLink RX5 90 yX5_cost, Cond.static yX5_cost, Cond.code yX5_cost cX5_cost 2 (some .int), Cond.methodLink RX5 94 yX5_change, Cond.instanceMethod yX5_change, Cond.selects RX5 yX5_change yX5_change]
def wsX5_finishAll_r2 : List Cond := [Cond.code yX5_change cX5_change 2 none, Cond.methodLink RX5 70 yX5_changeNudges, Cond.instanceMethod yX5_changeNudges, Cond.selects RX5 yX5_changeNudges yX5_changeNudges, Cond.code yX5_changeNudges cX5_changeNudges 4 none, Cond.methodLink RX5 73 yX5_changeWatching, Cond.instanceMethod yX5_changeWatching, Cond.selects RX5 yX5_changeWatching yX5_changeWatching, Cond.code yX5_changeWatching cX5_changeWatching 2 none, Cond.methodLink RX5 76 yX5_changeTickets, Cond.instanceMethod yX5_changeTickets, Cond.selects RX5 yX5_changeTickets yX5_changeTickets, Cond.code yX5_changeTickets cX5_changeTickets 2 none, Cond.methodLink RX5 79 yX5_changeGrabbing, Cond.instanceMethod yX5_changeGrabbing, Cond.selects RX5 yX5_changeGrabbing yX5_changeGrabbing, Cond.code yX5_changeGrabbing cX5_changeGrabbing 3 none, Cond.methodLink RX5 97 yX5_leaveLine, Cond.instanceMethod yX5_leaveLine, Cond.selects RX5 yX5_leaveLine yX5_leaveLine, Cond.code yX5_leaveLine cX5_leaveLine 4 none, Cond.methodLink RX5 82 yX5_placeOf, Cond.instanceMethod yX5_placeOf, Cond.selects RX5 yX5_placeOf yX5_placeOf]
def wsX5_finishAll_r3 : List Cond := [Cond.code yX5_placeOf cX5_placeOf 4 (some .int)]
def wsX5_finishAll : List Cond := .code yX5_finishAll cX5_finishAll 3 (some .int) :: ((wsX5_finishAll_r1 ++ (wsX5_finishAll_r2 ++ wsX5_finishAll_r3)) ++ wsX50)
def wsX5_finish_r1 : List Cond := [Cond.methodLink RX5 63 yX5_notAway, Cond.instanceMethod yX5_notAway, Cond.selects RX5 yX5_notAway yX5_notAway, Cond.initialized RX5, Cond.code yX5_notAway cX5_notAway 3 (some .int), Cond.fieldLink RX5 7 "NudgeLocksModel" "z" "[I", Cond.methodLink RX5 67 yX5_record, Cond.instanceMethod yX5_record, Cond.selects RX5 yX5_record yX5_record, Cond.code yX5_record cX5_record 2 none, Cond.fieldLink RX5 51 "NudgeLocksModel" "states" "I", Cond.fieldLink RX5 16 "NudgeLocksModel" "past" "[I", Cond.methodLink RX5 55 yX5_copyRow, Cond.static yX5_copyRow, Cond.code yX5_copyRow cX5_copyRow 6 none, Cond.methodLink RX5 122 yX5_finishAll, Cond.instanceMethod yX5_finishAll, Cond.selects RX5 yX5_finishAll yX5_finishAll, Cond.code yX5_finishAll cX5_finishAll 3 (some .int), Cond.methodLink RX5 106 yX5_sum, Cond.instanceMethod yX5_sum, Cond.selects RX5 yX5_sum yX5_sum, Cond.code yX5_sum cX5_sum 4 (some .int), Cond.methodLink RX5 103 yX5_makeStep]
def wsX5_finish_r2 : List Cond := [Cond.instanceMethod yX5_makeStep, Cond.selects RX5 yX5_makeStep yX5_makeStep, Cond.code yX5_makeStep cX5_makeStep 4 none, Cond.methodLink RX5 86 yX5_isLook, Cond.instanceMethod yX5_isLook, Cond.selects RX5 yX5_isLook yX5_isLook, Cond.code yX5_isLook cX5_isLook 3 (some .boolean), Cond.methodLink RX5 90 yX5_cost, Cond.static yX5_cost, Cond.code yX5_cost cX5_cost 2 (some .int), Cond.methodLink RX5 94 yX5_change, Cond.instanceMethod yX5_change, Cond.selects RX5 yX5_change yX5_change, Cond.code yX5_change cX5_change 2 none, Cond.methodLink RX5 70 yX5_changeNudges, Cond.instanceMethod yX5_changeNudges, Cond.selects RX5 yX5_changeNudges yX5_changeNudges, Cond.code yX5_changeNudges cX5_changeNudges 4 none, Cond.methodLink RX5 73 yX5_changeWatching, Cond.instanceMethod yX5_changeWatching, Cond.selects RX5 yX5_changeWatching yX5_changeWatching, Cond.code yX5_changeWatching cX5_changeWatching 2 none, Cond.methodLink RX5 76 yX5_changeTickets, Cond.instanceMethod yX5_changeTickets]
def wsX5_finish_r3 : List Cond := [Cond.selects RX5 yX5_changeTickets yX5_changeTickets, Cond.code yX5_changeTickets cX5_changeTickets 2 none, Cond.methodLink RX5 79 yX5_changeGrabbing, Cond.instanceMethod yX5_changeGrabbing, Cond.selects RX5 yX5_changeGrabbing yX5_changeGrabbing, Cond.code yX5_changeGrabbing cX5_changeGrabbing 3 none, Cond.methodLink RX5 97 yX5_leaveLine, Cond.instanceMethod yX5_leaveLine, Cond.selects RX5 yX5_leaveLine yX5_leaveLine, Cond.code yX5_leaveLine cX5_leaveLine 4 none, Cond.methodLink RX5 82 yX5_placeOf, Cond.instanceMethod yX5_placeOf, Cond.selects RX5 yX5_placeOf yX5_placeOf, Cond.code yX5_placeOf cX5_placeOf 4 (some .int)]
def wsX5_finish : List Cond := .code yX5_finish cX5_finish 1 (some .int) :: ((wsX5_finish_r1 ++ (wsX5_finish_r2 ++ wsX5_finish_r3)) ++ wsX50)
def wsX5_stepsToFinish_r1 : List Cond := [Cond.fieldLink RX5 7 "NudgeLocksModel" "z" "[I", Cond.fieldLink RX5 13 "NudgeLocksModel" "spare" "[I", Cond.methodLink RX5 55 yX5_copyRow, Cond.static yX5_copyRow, Cond.initialized RX5, Cond.code yX5_copyRow cX5_copyRow 6 none, Cond.methodLink RX5 122 yX5_finishAll, Cond.instanceMethod yX5_finishAll, Cond.selects RX5 yX5_finishAll yX5_finishAll, Cond.code yX5_finishAll cX5_finishAll 3 (some .int), Cond.methodLink RX5 106 yX5_sum, Cond.instanceMethod yX5_sum, Cond.selects RX5 yX5_sum yX5_sum, Cond.code yX5_sum cX5_sum 4 (some .int), Cond.methodLink RX5 63 yX5_notAway, Cond.instanceMethod yX5_notAway, Cond.selects RX5 yX5_notAway yX5_notAway, Cond.code yX5_notAway cX5_notAway 3 (some .int), Cond.methodLink RX5 103 yX5_makeStep, Cond.instanceMethod yX5_makeStep, Cond.selects RX5 yX5_makeStep yX5_makeStep, Cond.code yX5_makeStep cX5_makeStep 4 none, Cond.methodLink RX5 86 yX5_isLook, Cond.instanceMethod yX5_isLook]
def wsX5_stepsToFinish_r2 : List Cond := [Cond.selects RX5 yX5_isLook yX5_isLook, Cond.code yX5_isLook cX5_isLook 3 (some .boolean), Cond.methodLink RX5 90 yX5_cost, Cond.static yX5_cost, Cond.code yX5_cost cX5_cost 2 (some .int), Cond.methodLink RX5 94 yX5_change, Cond.instanceMethod yX5_change, Cond.selects RX5 yX5_change yX5_change, Cond.code yX5_change cX5_change 2 none, Cond.methodLink RX5 70 yX5_changeNudges, Cond.instanceMethod yX5_changeNudges, Cond.selects RX5 yX5_changeNudges yX5_changeNudges, Cond.code yX5_changeNudges cX5_changeNudges 4 none, Cond.methodLink RX5 73 yX5_changeWatching, Cond.instanceMethod yX5_changeWatching, Cond.selects RX5 yX5_changeWatching yX5_changeWatching, Cond.code yX5_changeWatching cX5_changeWatching 2 none, Cond.methodLink RX5 76 yX5_changeTickets, Cond.instanceMethod yX5_changeTickets, Cond.selects RX5 yX5_changeTickets yX5_changeTickets, Cond.code yX5_changeTickets cX5_changeTickets 2 none, Cond.methodLink RX5 79 yX5_changeGrabbing, Cond.instanceMethod yX5_changeGrabbing, Cond.selects RX5 yX5_changeGrabbing yX5_changeGrabbing]
def wsX5_stepsToFinish_r3 : List Cond := [Cond.code yX5_changeGrabbing cX5_changeGrabbing 3 none, Cond.methodLink RX5 97 yX5_leaveLine, Cond.instanceMethod yX5_leaveLine, Cond.selects RX5 yX5_leaveLine yX5_leaveLine, Cond.code yX5_leaveLine cX5_leaveLine 4 none, Cond.methodLink RX5 82 yX5_placeOf, Cond.instanceMethod yX5_placeOf, Cond.selects RX5 yX5_placeOf yX5_placeOf, Cond.code yX5_placeOf cX5_placeOf 4 (some .int)]
def wsX5_stepsToFinish : List Cond := .code yX5_stepsToFinish cX5_stepsToFinish 2 (some .int) :: ((wsX5_stepsToFinish_r1 ++ (wsX5_stepsToFinish_r2 ++ wsX5_stepsToFinish_r3)) ++ wsX50)
def wsX5_type : List Cond := .code yX5_type cX5_type 2 (some .int) :: ([.fieldLink RX5 125 "NudgeLocksModel" "length" "I", .fieldLink RX5 22 "NudgeLocksModel" "text" "[I"] ++ wsX50)
def wsX5_clearText : List Cond := .code yX5_clearText cX5_clearText 2 (some .int) :: ([.fieldLink RX5 125 "NudgeLocksModel" "length" "I"] ++ wsX50)
def wsX5_atMost : List Cond := .code yX5_atMost cX5_atMost 1 (some .int) :: ([])
def wsX5_read : List Cond := .code yX5_read cX5_read 6 (some .int) :: ([.fieldLink RX5 25 "NudgeLocksModel" "sums" "[I", .fieldLink RX5 28 "NudgeLocksModel" "items" "[I", .fieldLink RX5 125 "NudgeLocksModel" "length" "I", .fieldLink RX5 22 "NudgeLocksModel" "text" "[I", .fieldLink RX5 31 "NudgeLocksModel" "times" "[I", .fieldLink RX5 131 "NudgeLocksModel" "stepsTold" "I", .methodLink RX5 47 yX5_in, .static yX5_in, .initialized RX5, .code yX5_in cX5_in 3 (some .boolean), .methodLink RX5 128 yX5_atMost, .static yX5_atMost, .code yX5_atMost cX5_atMost 1 (some .int)] ++ wsX50)
def wsX5_perform_r1 : List Cond := [Cond.fieldLink RX5 131 "NudgeLocksModel" "stepsTold" "I", Cond.fieldLink RX5 125 "NudgeLocksModel" "length" "I", Cond.fieldLink RX5 22 "NudgeLocksModel" "text" "[I", Cond.fieldLink RX5 34 "NudgeLocksModel" "begins" "[I", Cond.fieldLink RX5 37 "NudgeLocksModel" "left" "[I", Cond.methodLink RX5 134 yX5_read, Cond.instanceMethod yX5_read, Cond.selects RX5 yX5_read yX5_read, Cond.initialized RX5, Cond.code yX5_read cX5_read 6 (some .int), Cond.fieldLink RX5 25 "NudgeLocksModel" "sums" "[I", Cond.fieldLink RX5 28 "NudgeLocksModel" "items" "[I", Cond.fieldLink RX5 31 "NudgeLocksModel" "times" "[I", Cond.methodLink RX5 47 yX5_in, Cond.static yX5_in, Cond.code yX5_in cX5_in 3 (some .boolean), Cond.methodLink RX5 128 yX5_atMost, Cond.static yX5_atMost, Cond.code yX5_atMost cX5_atMost 1 (some .int), Cond.methodLink RX5 67 yX5_record, Cond.instanceMethod yX5_record, Cond.selects RX5 yX5_record yX5_record, Cond.code yX5_record cX5_record 2 none, Cond.fieldLink RX5 51 "NudgeLocksModel" "states" "I"]
def wsX5_perform_r2 : List Cond := [Cond.fieldLink RX5 16 "NudgeLocksModel" "past" "[I", Cond.fieldLink RX5 7 "NudgeLocksModel" "z" "[I", Cond.methodLink RX5 55 yX5_copyRow, Cond.static yX5_copyRow, Cond.code yX5_copyRow cX5_copyRow 6 none, Cond.methodLink RX5 103 yX5_makeStep, Cond.instanceMethod yX5_makeStep, Cond.selects RX5 yX5_makeStep yX5_makeStep, Cond.code yX5_makeStep cX5_makeStep 4 none, Cond.methodLink RX5 86 yX5_isLook, Cond.instanceMethod yX5_isLook, Cond.selects RX5 yX5_isLook yX5_isLook, Cond.code yX5_isLook cX5_isLook 3 (some .boolean), Cond.methodLink RX5 90 yX5_cost, Cond.static yX5_cost, Cond.code yX5_cost cX5_cost 2 (some .int), Cond.methodLink RX5 94 yX5_change, Cond.instanceMethod yX5_change, Cond.selects RX5 yX5_change yX5_change, Cond.code yX5_change cX5_change 2 none, Cond.methodLink RX5 70 yX5_changeNudges, Cond.instanceMethod yX5_changeNudges, Cond.selects RX5 yX5_changeNudges yX5_changeNudges, Cond.code yX5_changeNudges cX5_changeNudges 4 none]
def wsX5_perform_r3 : List Cond := [Cond.methodLink RX5 73 yX5_changeWatching, Cond.instanceMethod yX5_changeWatching, Cond.selects RX5 yX5_changeWatching yX5_changeWatching, Cond.code yX5_changeWatching cX5_changeWatching 2 none, Cond.methodLink RX5 76 yX5_changeTickets, Cond.instanceMethod yX5_changeTickets, Cond.selects RX5 yX5_changeTickets yX5_changeTickets, Cond.code yX5_changeTickets cX5_changeTickets 2 none, Cond.methodLink RX5 79 yX5_changeGrabbing, Cond.instanceMethod yX5_changeGrabbing, Cond.selects RX5 yX5_changeGrabbing yX5_changeGrabbing, Cond.code yX5_changeGrabbing cX5_changeGrabbing 3 none, Cond.methodLink RX5 97 yX5_leaveLine, Cond.instanceMethod yX5_leaveLine, Cond.selects RX5 yX5_leaveLine yX5_leaveLine, Cond.code yX5_leaveLine cX5_leaveLine 4 none, Cond.methodLink RX5 82 yX5_placeOf, Cond.instanceMethod yX5_placeOf, Cond.selects RX5 yX5_placeOf yX5_placeOf, Cond.code yX5_placeOf cX5_placeOf 4 (some .int)]
def wsX5_perform : List Cond := .code yX5_perform cX5_perform 7 (some .int) :: ((wsX5_perform_r1 ++ (wsX5_perform_r2 ++ wsX5_perform_r3)) ++ wsX50)
def wsX5_visitor : List Cond := .code yX5_visitor cX5_visitor 5 (some .int) :: ([.fieldLink RX5 7 "NudgeLocksModel" "z" "[I", .methodLink RX5 100 yX5_isVisitor, .static yX5_isVisitor, .initialized RX5, .code yX5_isVisitor cX5_isVisitor 1 (some .boolean), .methodLink RX5 47 yX5_in, .static yX5_in, .code yX5_in cX5_in 3 (some .boolean), .methodLink RX5 82 yX5_placeOf, .instanceMethod yX5_placeOf, .selects RX5 yX5_placeOf yX5_placeOf, .code yX5_placeOf cX5_placeOf 4 (some .int)] ++ wsX50)
def wsX5_inLine : List Cond := .code yX5_inLine cX5_inLine 2 (some .int) :: ([.fieldLink RX5 7 "NudgeLocksModel" "z" "[I"] ++ wsX50)
def wsX5_card : List Cond := .code yX5_card cX5_card 2 (some .int) :: ([.fieldLink RX5 7 "NudgeLocksModel" "z" "[I", .methodLink RX5 47 yX5_in, .static yX5_in, .initialized RX5, .code yX5_in cX5_in 3 (some .boolean)] ++ wsX50)
def wsX5_inside : List Cond := .code yX5_inside cX5_inside 3 (some .int) :: ([.fieldLink RX5 7 "NudgeLocksModel" "z" "[I"] ++ wsX50)
def wsX5_atStage : List Cond := .code yX5_atStage cX5_atStage 4 (some .int) :: ([.fieldLink RX5 7 "NudgeLocksModel" "z" "[I"] ++ wsX50)
def wsX5_total : List Cond := .code yX5_total cX5_total 3 (some .int) :: ([.fieldLink RX5 7 "NudgeLocksModel" "z" "[I", .fieldLink RX5 51 "NudgeLocksModel" "states" "I", .fieldLink RX5 125 "NudgeLocksModel" "length" "I", .methodLink RX5 137 yX5_inside, .instanceMethod yX5_inside, .selects RX5 yX5_inside yX5_inside, .initialized RX5, .code yX5_inside cX5_inside 3 (some .int), .methodLink RX5 63 yX5_notAway, .instanceMethod yX5_notAway, .selects RX5 yX5_notAway yX5_notAway, .code yX5_notAway cX5_notAway 3 (some .int), .methodLink RX5 140 yX5_atStage, .instanceMethod yX5_atStage, .selects RX5 yX5_atStage yX5_atStage, .code yX5_atStage cX5_atStage 4 (some .int), .methodLink RX5 106 yX5_sum, .instanceMethod yX5_sum, .selects RX5 yX5_sum yX5_sum, .code yX5_sum cX5_sum 4 (some .int)] ++ wsX50)
def wsX5_wouldLook : List Cond := .code yX5_wouldLook cX5_wouldLook 2 (some .int) :: ([.methodLink RX5 100 yX5_isVisitor, .static yX5_isVisitor, .initialized RX5, .code yX5_isVisitor cX5_isVisitor 1 (some .boolean), .methodLink RX5 47 yX5_in, .static yX5_in, .code yX5_in cX5_in 3 (some .boolean), .methodLink RX5 86 yX5_isLook, .instanceMethod yX5_isLook, .selects RX5 yX5_isLook yX5_isLook, .code yX5_isLook cX5_isLook 3 (some .boolean), .fieldLink RX5 7 "NudgeLocksModel" "z" "[I"] ++ wsX50)
def wsX5_wouldTouch : List Cond := .code yX5_wouldTouch cX5_wouldTouch 2 (some .int) :: ([.fieldLink RX5 7 "NudgeLocksModel" "z" "[I", .methodLink RX5 100 yX5_isVisitor, .static yX5_isVisitor, .initialized RX5, .code yX5_isVisitor cX5_isVisitor 1 (some .boolean), .methodLink RX5 47 yX5_in, .static yX5_in, .code yX5_in cX5_in 3 (some .boolean), .methodLink RX5 90 yX5_cost, .static yX5_cost, .code yX5_cost cX5_cost 2 (some .int)] ++ wsX50)
def wsX5_collect : List Cond := .code yX5_collect cX5_collect 4 (some .boolean) :: ([.fieldLink RX5 143 "NudgeLocksModel" "foundMany" "I", .fieldLink RX5 40 "NudgeLocksModel" "found" "[I", .fieldLink RX5 146 "NudgeLocksModel" "backOne" "I", .fieldLink RX5 149 "NudgeLocksModel" "backOther" "I", .fieldLink RX5 7 "NudgeLocksModel" "z" "[I", .methodLink RX5 55 yX5_copyRow, .static yX5_copyRow, .initialized RX5, .code yX5_copyRow cX5_copyRow 6 none] ++ wsX50)
def wsX5_takeFound : List Cond := .code yX5_takeFound cX5_takeFound 2 none :: ([.fieldLink RX5 40 "NudgeLocksModel" "found" "[I", .fieldLink RX5 7 "NudgeLocksModel" "z" "[I", .fieldLink RX5 146 "NudgeLocksModel" "backOne" "I", .fieldLink RX5 149 "NudgeLocksModel" "backOther" "I", .methodLink RX5 55 yX5_copyRow, .static yX5_copyRow, .initialized RX5, .code yX5_copyRow cX5_copyRow 6 none] ++ wsX50)
def wsX5_follow_r1 : List Cond := [Cond.fieldLink RX5 146 "NudgeLocksModel" "backOne" "I", Cond.fieldLink RX5 7 "NudgeLocksModel" "z" "[I", Cond.fieldLink RX5 149 "NudgeLocksModel" "backOther" "I", Cond.methodLink RX5 152 yX5_takeFound, Cond.instanceMethod yX5_takeFound, Cond.selects RX5 yX5_takeFound yX5_takeFound, Cond.initialized RX5, Cond.code yX5_takeFound cX5_takeFound 2 none, Cond.fieldLink RX5 40 "NudgeLocksModel" "found" "[I", Cond.methodLink RX5 55 yX5_copyRow, Cond.static yX5_copyRow, Cond.code yX5_copyRow cX5_copyRow 6 none, Cond.methodLink RX5 86 yX5_isLook, Cond.instanceMethod yX5_isLook, Cond.selects RX5 yX5_isLook yX5_isLook, Cond.code yX5_isLook cX5_isLook 3 (some .boolean), Cond.methodLink RX5 94 yX5_change, Cond.instanceMethod yX5_change, Cond.selects RX5 yX5_change yX5_change, Cond.code yX5_change cX5_change 2 none, Cond.methodLink RX5 70 yX5_changeNudges, Cond.instanceMethod yX5_changeNudges, Cond.selects RX5 yX5_changeNudges yX5_changeNudges, Cond.code yX5_changeNudges cX5_changeNudges 4 none]
def wsX5_follow_r2 : List Cond := [Cond.methodLink RX5 73 yX5_changeWatching, Cond.instanceMethod yX5_changeWatching, Cond.selects RX5 yX5_changeWatching yX5_changeWatching, Cond.code yX5_changeWatching cX5_changeWatching 2 none, Cond.methodLink RX5 76 yX5_changeTickets, Cond.instanceMethod yX5_changeTickets, Cond.selects RX5 yX5_changeTickets yX5_changeTickets, Cond.code yX5_changeTickets cX5_changeTickets 2 none, Cond.methodLink RX5 79 yX5_changeGrabbing, Cond.instanceMethod yX5_changeGrabbing, Cond.selects RX5 yX5_changeGrabbing yX5_changeGrabbing, Cond.code yX5_changeGrabbing cX5_changeGrabbing 3 none, Cond.methodLink RX5 155 yX5_collect, Cond.instanceMethod yX5_collect, Cond.selects RX5 yX5_collect yX5_collect, Cond.code yX5_collect cX5_collect 4 (some .boolean), Cond.fieldLink RX5 143 "NudgeLocksModel" "foundMany" "I"]
def wsX5_follow : List Cond := .code yX5_follow cX5_follow 5 (some .boolean) :: ((wsX5_follow_r1 ++ wsX5_follow_r2) ++ wsX50)
def wsX5_countFound : List Cond := .code yX5_countFound cX5_countFound 8 (some .int) :: ([.fieldLink RX5 143 "NudgeLocksModel" "foundMany" "I", .fieldLink RX5 7 "NudgeLocksModel" "z" "[I", .fieldLink RX5 146 "NudgeLocksModel" "backOne" "I", .fieldLink RX5 149 "NudgeLocksModel" "backOther" "I", .methodLink RX5 152 yX5_takeFound, .instanceMethod yX5_takeFound, .selects RX5 yX5_takeFound yX5_takeFound, .initialized RX5, .code yX5_takeFound cX5_takeFound 2 none, .fieldLink RX5 40 "NudgeLocksModel" "found" "[I", .methodLink RX5 55 yX5_copyRow, .static yX5_copyRow, .code yX5_copyRow cX5_copyRow 6 none, .methodLink RX5 86 yX5_isLook, .instanceMethod yX5_isLook, .selects RX5 yX5_isLook yX5_isLook, .code yX5_isLook cX5_isLook 3 (some .boolean)] ++ wsX50)
def wsX5_orders_r1 : List Cond := [Cond.fieldLink RX5 7 "NudgeLocksModel" "z" "[I", Cond.fieldLink RX5 13 "NudgeLocksModel" "spare" "[I", Cond.fieldLink RX5 143 "NudgeLocksModel" "foundMany" "I", Cond.fieldLink RX5 146 "NudgeLocksModel" "backOne" "I", Cond.fieldLink RX5 149 "NudgeLocksModel" "backOther" "I", Cond.methodLink RX5 100 yX5_isVisitor, Cond.static yX5_isVisitor, Cond.initialized RX5, Cond.code yX5_isVisitor cX5_isVisitor 1 (some .boolean), Cond.methodLink RX5 47 yX5_in, Cond.static yX5_in, Cond.code yX5_in cX5_in 3 (some .boolean), Cond.methodLink RX5 55 yX5_copyRow, Cond.static yX5_copyRow, Cond.code yX5_copyRow cX5_copyRow 6 none, Cond.methodLink RX5 155 yX5_collect, Cond.instanceMethod yX5_collect, Cond.selects RX5 yX5_collect yX5_collect, Cond.code yX5_collect cX5_collect 4 (some .boolean), Cond.fieldLink RX5 40 "NudgeLocksModel" "found" "[I", Cond.methodLink RX5 159 yX5_follow, Cond.instanceMethod yX5_follow, Cond.selects RX5 yX5_follow yX5_follow, Cond.code yX5_follow cX5_follow 5 (some .boolean)]
def wsX5_orders_r2 : List Cond := [Cond.methodLink RX5 152 yX5_takeFound, Cond.instanceMethod yX5_takeFound, Cond.selects RX5 yX5_takeFound yX5_takeFound, Cond.code yX5_takeFound cX5_takeFound 2 none, Cond.methodLink RX5 86 yX5_isLook, Cond.instanceMethod yX5_isLook, Cond.selects RX5 yX5_isLook yX5_isLook, Cond.code yX5_isLook cX5_isLook 3 (some .boolean), Cond.methodLink RX5 94 yX5_change, Cond.instanceMethod yX5_change, Cond.selects RX5 yX5_change yX5_change, Cond.code yX5_change cX5_change 2 none, Cond.methodLink RX5 70 yX5_changeNudges, Cond.instanceMethod yX5_changeNudges, Cond.selects RX5 yX5_changeNudges yX5_changeNudges, Cond.code yX5_changeNudges cX5_changeNudges 4 none, Cond.methodLink RX5 73 yX5_changeWatching, Cond.instanceMethod yX5_changeWatching, Cond.selects RX5 yX5_changeWatching yX5_changeWatching, Cond.code yX5_changeWatching cX5_changeWatching 2 none, Cond.methodLink RX5 76 yX5_changeTickets, Cond.instanceMethod yX5_changeTickets, Cond.selects RX5 yX5_changeTickets yX5_changeTickets, Cond.code yX5_changeTickets cX5_changeTickets 2 none]
def wsX5_orders_r3 : List Cond := [Cond.methodLink RX5 79 yX5_changeGrabbing, Cond.instanceMethod yX5_changeGrabbing, Cond.selects RX5 yX5_changeGrabbing yX5_changeGrabbing, Cond.code yX5_changeGrabbing cX5_changeGrabbing 3 none, Cond.methodLink RX5 162 yX5_countFound, Cond.instanceMethod yX5_countFound, Cond.selects RX5 yX5_countFound yX5_countFound, Cond.code yX5_countFound cX5_countFound 8 (some .int)]
def wsX5_orders : List Cond := .code yX5_orders cX5_orders 6 (some .int) :: ((wsX5_orders_r1 ++ (wsX5_orders_r2 ++ wsX5_orders_r3)) ++ wsX50)
def wsL_law_r1 : List Cond := [Cond.classLink RL 7 RX4, Cond.instantiable RX4 10, Cond.initialized RX4, Cond.classLink RL 10 RX5, Cond.instantiable RX5 18, Cond.initialized RX5, Cond.methodLink RL 9 yX4_init, Cond.instanceMethod yX4_init, Cond.code yX4_init cX4_init 2 none, Cond.methodLink RX4 3 objectInit, Cond.instanceMethod objectInit, Cond.code objectInit ⟨#[0xb1]⟩ 1 none, Cond.classLink RX4 9 RX3, Cond.instantiable RX3 5, Cond.initialized RX3, Cond.fieldLink RX4 12 "NudgeLocks" "state" "LNudgeLocks$State;", Cond.fieldLink RX4 16 "NudgeLocks" "trial" "LNudgeLocks$State;", Cond.fieldLink RX4 19 "NudgeLocks" "snapshot" "LNudgeLocks$State;", Cond.fieldLink RX4 22 "NudgeLocks" "hasSnapshot" "Z", Cond.fieldLink RX4 26 "NudgeLocks" "history" "[LNudgeLocks$State;", Cond.fieldLink RX4 30 "NudgeLocks" "remembered" "I", Cond.arrayClass .char, Cond.fieldLink RX4 34 "NudgeLocks" "text" "[C", Cond.fieldLink RX4 38 "NudgeLocks" "length" "I"]
def wsL_law_r2 : List Cond := [Cond.classLink RX4 41 RX2, Cond.instantiable RX2 5, Cond.initialized RX2, Cond.fieldLink RX4 44 "NudgeLocks" "schedule" "LNudgeLocks$Schedule;", Cond.classLink RX4 48 RX0, Cond.instantiable RX0 4, Cond.initialized RX0, Cond.fieldLink RX4 51 "NudgeLocks" "explorer" "LNudgeLocks$Explorer;", Cond.methodLink RX4 11 yX3_init, Cond.instanceMethod yX3_init, Cond.code yX3_init cX3_init 1 none, Cond.methodLink RX3 5 objectInit, Cond.classLink RX3 11 RX1, Cond.instantiable RX1 1, Cond.initialized RX1, Cond.fieldLink RX3 14 "NudgeLocks$State" "lock" "LNudgeLocks$Lock;", Cond.arrayClass .int, Cond.fieldLink RX3 18 "NudgeLocks$State" "counts" "[I", Cond.fieldLink RX3 22 "NudgeLocks$State" "line" "[I", Cond.fieldLink RX3 25 "NudgeLocks$State" "lineLength" "I", Cond.fieldLink RX3 29 "NudgeLocks$State" "x" "I", Cond.methodLink RX3 13 yX1_init, Cond.instanceMethod yX1_init, Cond.code yX1_init cX1_init 1 none]
def wsL_law_r3 : List Cond := [Cond.methodLink RX1 5 objectInit, Cond.fieldLink RX1 11 "NudgeLocks$Lock" "cells" "[I", Cond.methodLink RX1 15 yX1_reset, Cond.instanceMethod yX1_reset, Cond.selects RX1 yX1_reset yX1_reset, Cond.code yX1_reset cX1_reset 3 none, Cond.methodLink RX4 43 yX2_init, Cond.instanceMethod yX2_init, Cond.code yX2_init cX2_init 1 none, Cond.methodLink RX2 3 objectInit, Cond.arrayClass .byte, Cond.fieldLink RX2 9 "NudgeLocks$Schedule" "plan" "[B", Cond.fieldLink RX2 15 "NudgeLocks$Schedule" "starts" "[I", Cond.fieldLink RX2 19 "NudgeLocks$Schedule" "repeats" "[I", Cond.fieldLink RX2 22 "NudgeLocks$Schedule" "planned" "I", Cond.fieldLink RX2 26 "NudgeLocks$Schedule" "depth" "I", Cond.methodLink RX4 50 yX0_init, Cond.instanceMethod yX0_init, Cond.code yX0_init cX0_init 1 none, Cond.methodLink RX0 5 objectInit, Cond.classLink RX0 11 RX1, Cond.fieldLink RX0 13 "NudgeLocks$Explorer" "locks" "[LNudgeLocks$Lock;", Cond.fieldLink RX0 17 "NudgeLocks$Explorer" "back" "[I", Cond.fieldLink RX0 22 "NudgeLocks$Explorer" "trial" "LNudgeLocks$Lock;"]
def wsL_law_r4 : List Cond := [Cond.fieldLink RX0 26 "NudgeLocks$Explorer" "found" "I", Cond.methodLink RX0 21 yX1_init, Cond.methodLink RL 12 yX5_init, Cond.instanceMethod yX5_init, Cond.code yX5_init cX5_init 1 none, Cond.methodLink RX5 1 objectInit, Cond.fieldLink RX5 7 "NudgeLocksModel" "z" "[I", Cond.fieldLink RX5 13 "NudgeLocksModel" "spare" "[I", Cond.fieldLink RX5 16 "NudgeLocksModel" "past" "[I", Cond.fieldLink RX5 19 "NudgeLocksModel" "kept" "[I", Cond.fieldLink RX5 22 "NudgeLocksModel" "text" "[I", Cond.fieldLink RX5 25 "NudgeLocksModel" "sums" "[I", Cond.fieldLink RX5 28 "NudgeLocksModel" "items" "[I", Cond.fieldLink RX5 31 "NudgeLocksModel" "times" "[I", Cond.fieldLink RX5 34 "NudgeLocksModel" "begins" "[I", Cond.fieldLink RX5 37 "NudgeLocksModel" "left" "[I", Cond.fieldLink RX5 40 "NudgeLocksModel" "found" "[I", Cond.methodLink RX5 43 yX5_clearLock, Cond.instanceMethod yX5_clearLock, Cond.selects RX5 yX5_clearLock yX5_clearLock, Cond.code yX5_clearLock cX5_clearLock 3 none, Cond.methodLink RL 13 yX4_build, Cond.instanceMethod yX4_build, Cond.selects RX4 yX4_build yX4_build]
def wsL_law_r5 : List Cond := [Cond.code yX4_build cX4_build 3 (some .int), Cond.methodLink RX4 55 yX3_present, Cond.instanceMethod yX3_present, Cond.selects RX3 yX3_present yX3_present, Cond.code yX3_present cX3_present 1 (some .int), Cond.methodLink RX3 42 yX1_countAt, Cond.instanceMethod yX1_countAt, Cond.selects RX1 yX1_countAt yX1_countAt, Cond.code yX1_countAt cX1_countAt 4 (some .int), Cond.methodLink RX1 33 yX1_stage, Cond.instanceMethod yX1_stage, Cond.selects RX1 yX1_stage yX1_stage, Cond.code yX1_stage cX1_stage 2 (some .int), Cond.methodLink RX4 59 yX4_remember, Cond.instanceMethod yX4_remember, Cond.selects RX4 yX4_remember yX4_remember, Cond.code yX4_remember cX4_remember 1 none, Cond.methodLink RX4 181 yX4_dropOldest, Cond.instanceMethod yX4_dropOldest, Cond.selects RX4 yX4_dropOldest yX4_dropOldest, Cond.code yX4_dropOldest cX4_dropOldest 3 none, Cond.methodLink RX4 114 yX3_copyFrom, Cond.instanceMethod yX3_copyFrom, Cond.selects RX3 yX3_copyFrom yX3_copyFrom]
def wsL_law_r6 : List Cond := [Cond.code yX3_copyFrom cX3_copyFrom 2 none, Cond.methodLink RX3 36 arraycopyName, Cond.native arraycopyName, Cond.static arraycopyName, Cond.initialized "java/lang/System", Cond.methodLink RX3 32 yX1_copyFrom, Cond.instanceMethod yX1_copyFrom, Cond.selects RX1 yX1_copyFrom yX1_copyFrom, Cond.code yX1_copyFrom cX1_copyFrom 2 none, Cond.methodLink RX1 19 arraycopyName, Cond.methodLink RX4 66 yX1_kind, Cond.instanceMethod yX1_kind, Cond.selects RX1 yX1_kind yX1_kind, Cond.code yX1_kind cX1_kind 1 (some .int), Cond.methodLink RX4 71 yX1_reset, Cond.methodLink RL 17 yX5_build, Cond.instanceMethod yX5_build, Cond.selects RX5 yX5_build yX5_build, Cond.code yX5_build cX5_build 3 (some .int), Cond.methodLink RX5 47 yX5_in, Cond.static yX5_in, Cond.code yX5_in cX5_in 3 (some .boolean), Cond.methodLink RX5 63 yX5_notAway, Cond.instanceMethod yX5_notAway]
def wsL_law_r7 : List Cond := [Cond.selects RX5 yX5_notAway yX5_notAway, Cond.code yX5_notAway cX5_notAway 3 (some .int), Cond.methodLink RX5 67 yX5_record, Cond.instanceMethod yX5_record, Cond.selects RX5 yX5_record yX5_record, Cond.code yX5_record cX5_record 2 none, Cond.fieldLink RX5 51 "NudgeLocksModel" "states" "I", Cond.methodLink RX5 55 yX5_copyRow, Cond.static yX5_copyRow, Cond.code yX5_copyRow cX5_copyRow 6 none, Cond.methodLink RL 18 yX4_step, Cond.instanceMethod yX4_step, Cond.selects RX4 yX4_step yX4_step, Cond.code yX4_step cX4_step 2 (some .int), Cond.methodLink RX4 75 yX4_isVisitor, Cond.static yX4_isVisitor, Cond.code yX4_isVisitor cX4_isVisitor 1 (some .boolean), Cond.methodLink RX4 79 yX3_advance, Cond.instanceMethod yX3_advance, Cond.selects RX3 yX3_advance yX3_advance, Cond.code yX3_advance cX3_advance 3 none, Cond.methodLink RX3 46 yX1_queues, Cond.instanceMethod yX1_queues, Cond.selects RX1 yX1_queues yX1_queues]
def wsL_law_r8 : List Cond := [Cond.code yX1_queues cX1_queues 2 (some .boolean), Cond.methodLink RX1 25 yX1_kind, Cond.methodLink RX3 50 yX1_touches, Cond.instanceMethod yX1_touches, Cond.selects RX1 yX1_touches yX1_touches, Cond.code yX1_touches cX1_touches 3 (some .int), Cond.fieldLink RX1 37 "NudgeLocks$Lock" "FAR_TOUCHES" "[I", Cond.methodLink RX3 53 yX1_waits, Cond.instanceMethod yX1_waits, Cond.selects RX1 yX1_waits yX1_waits, Cond.code yX1_waits cX1_waits 3 (some .boolean), Cond.methodLink RX1 40 yX1_mayEnter, Cond.instanceMethod yX1_mayEnter, Cond.selects RX1 yX1_mayEnter yX1_mayEnter, Cond.code yX1_mayEnter cX1_mayEnter 2 (some .boolean), Cond.methodLink RX1 43 yX1_cardFlag, Cond.instanceMethod yX1_cardFlag, Cond.selects RX1 yX1_cardFlag yX1_cardFlag, Cond.code yX1_cardFlag cX1_cardFlag 2 (some .int), Cond.static yX4_isCard, Cond.code yX4_isCard cX4_isCard 1 (some .boolean), Cond.methodLink RX3 56 yX1_advance, Cond.instanceMethod yX1_advance, Cond.selects RX1 yX1_advance yX1_advance]
def wsL_law_r9 : List Cond := [Cond.code yX1_advance cX1_advance 2 none, Cond.methodLink RX1 46 yX1_waits, Cond.methodLink RX1 49 yX1_advanceNudges, Cond.instanceMethod yX1_advanceNudges, Cond.selects RX1 yX1_advanceNudges yX1_advanceNudges, Cond.code yX1_advanceNudges cX1_advanceNudges 2 none, Cond.methodLink RX1 61 yX1_moveTo, Cond.instanceMethod yX1_moveTo, Cond.selects RX1 yX1_moveTo yX1_moveTo, Cond.code yX1_moveTo cX1_moveTo 3 none, Cond.methodLink RX1 65 yX1_setNext, Cond.instanceMethod yX1_setNext, Cond.selects RX1 yX1_setNext yX1_setNext, Cond.code yX1_setNext cX1_setNext 3 none, Cond.methodLink RX1 68 yX1_leaveTail, Cond.instanceMethod yX1_leaveTail, Cond.selects RX1 yX1_leaveTail yX1_leaveTail, Cond.code yX1_leaveTail cX1_leaveTail 2 none, Cond.methodLink RX1 71 yX1_lowerFlag, Cond.instanceMethod yX1_lowerFlag, Cond.selects RX1 yX1_lowerFlag yX1_lowerFlag, Cond.code yX1_lowerFlag cX1_lowerFlag 2 none, Cond.methodLink RX1 52 yX1_advanceWatching, Cond.instanceMethod yX1_advanceWatching]
def wsL_law_r10 : List Cond := [Cond.selects RX1 yX1_advanceWatching yX1_advanceWatching, Cond.code yX1_advanceWatching cX1_advanceWatching 2 none, Cond.methodLink RX1 77 yX1_setCardFlag, Cond.instanceMethod yX1_setCardFlag, Cond.selects RX1 yX1_setCardFlag yX1_setCardFlag, Cond.code yX1_setCardFlag cX1_setCardFlag 3 none, Cond.methodLink RX1 55 yX1_advanceTickets, Cond.instanceMethod yX1_advanceTickets, Cond.selects RX1 yX1_advanceTickets yX1_advanceTickets, Cond.code yX1_advanceTickets cX1_advanceTickets 2 none, Cond.methodLink RX1 58 yX1_advanceGrabbing, Cond.instanceMethod yX1_advanceGrabbing, Cond.selects RX1 yX1_advanceGrabbing yX1_advanceGrabbing, Cond.code yX1_advanceGrabbing cX1_advanceGrabbing 2 none, Cond.methodLink RX3 60 yX1_stage, Cond.methodLink RX3 63 yX3_joinLine, Cond.instanceMethod yX3_joinLine, Cond.selects RX3 yX3_joinLine yX3_joinLine, Cond.code yX3_joinLine cX3_joinLine 2 none, Cond.methodLink RX3 66 yX3_leaveLine, Cond.instanceMethod yX3_leaveLine, Cond.selects RX3 yX3_leaveLine yX3_leaveLine, Cond.code yX3_leaveLine cX3_leaveLine 4 none, Cond.methodLink RX4 82 yX1_stage]
def wsL_law_r11 : List Cond := [Cond.methodLink RL 21 yX5_step, Cond.instanceMethod yX5_step, Cond.selects RX5 yX5_step yX5_step, Cond.code yX5_step cX5_step 2 (some .int), Cond.methodLink RX5 100 yX5_isVisitor, Cond.static yX5_isVisitor, Cond.code yX5_isVisitor cX5_isVisitor 1 (some .boolean), Cond.methodLink RX5 103 yX5_makeStep, Cond.instanceMethod yX5_makeStep, Cond.selects RX5 yX5_makeStep yX5_makeStep, Cond.code yX5_makeStep cX5_makeStep 4 none, Cond.methodLink RX5 86 yX5_isLook, Cond.instanceMethod yX5_isLook, Cond.selects RX5 yX5_isLook yX5_isLook, Cond.code yX5_isLook cX5_isLook 3 (some .boolean), Cond.methodLink RX5 90 yX5_cost, Cond.static yX5_cost, Cond.code yX5_cost cX5_cost 2 (some .int), Cond.methodLink RX5 94 yX5_change, Cond.instanceMethod yX5_change, Cond.selects RX5 yX5_change yX5_change, Cond.code yX5_change cX5_change 2 none, Cond.methodLink RX5 70 yX5_changeNudges, Cond.instanceMethod yX5_changeNudges]
def wsL_law_r12 : List Cond := [Cond.selects RX5 yX5_changeNudges yX5_changeNudges, Cond.code yX5_changeNudges cX5_changeNudges 4 none, Cond.methodLink RX5 73 yX5_changeWatching, Cond.instanceMethod yX5_changeWatching, Cond.selects RX5 yX5_changeWatching yX5_changeWatching, Cond.code yX5_changeWatching cX5_changeWatching 2 none, Cond.methodLink RX5 76 yX5_changeTickets, Cond.instanceMethod yX5_changeTickets, Cond.selects RX5 yX5_changeTickets yX5_changeTickets, Cond.code yX5_changeTickets cX5_changeTickets 2 none, Cond.methodLink RX5 79 yX5_changeGrabbing, Cond.instanceMethod yX5_changeGrabbing, Cond.selects RX5 yX5_changeGrabbing yX5_changeGrabbing, Cond.code yX5_changeGrabbing cX5_changeGrabbing 3 none, Cond.methodLink RX5 97 yX5_leaveLine, Cond.instanceMethod yX5_leaveLine, Cond.selects RX5 yX5_leaveLine yX5_leaveLine, Cond.code yX5_leaveLine cX5_leaveLine 4 none, Cond.methodLink RX5 82 yX5_placeOf, Cond.instanceMethod yX5_placeOf, Cond.selects RX5 yX5_placeOf yX5_placeOf, Cond.code yX5_placeOf cX5_placeOf 4 (some .int), Cond.methodLink RL 22 yX4_go, Cond.instanceMethod yX4_go]
def wsL_law_r13 : List Cond := [Cond.selects RX4 yX4_go yX4_go, Cond.code yX4_go cX4_go 2 (some .int), Cond.methodLink RX4 86 yX1_waits, Cond.methodLink RX4 89 yX3_advanceFreely, Cond.instanceMethod yX3_advanceFreely, Cond.selects RX3 yX3_advanceFreely yX3_advanceFreely, Cond.code yX3_advanceFreely cX3_advanceFreely 3 (some .int), Cond.methodLink RX3 69 yX3_advance, Cond.methodLink RX3 70 yX3_pauses, Cond.instanceMethod yX3_pauses, Cond.selects RX3 yX3_pauses yX3_pauses, Cond.code yX3_pauses cX3_pauses 3 (some .boolean), Cond.methodLink RL 25 yX5_go, Cond.instanceMethod yX5_go, Cond.selects RX5 yX5_go yX5_go, Cond.code yX5_go cX5_go 4 (some .int), Cond.methodLink RL 26 yX4_draw, Cond.instanceMethod yX4_draw, Cond.selects RX4 yX4_draw yX4_draw, Cond.code yX4_draw cX4_draw 5 (some .int), Cond.methodLink RX4 92 yX3_sum, Cond.instanceMethod yX3_sum, Cond.selects RX3 yX3_sum yX3_sum, Cond.code yX3_sum cX3_sum 4 (some .int)]
def wsL_law_r14 : List Cond := [Cond.methodLink RX4 95 yX3_lot, Cond.instanceMethod yX3_lot, Cond.selects RX3 yX3_lot yX3_lot, Cond.code yX3_lot cX3_lot 6 (some .int), Cond.constantLong RX3 78 (1103515245), Cond.constantLong RX3 80 (12345), Cond.constantLong RX3 82 (2147483648), Cond.constant RX3 89 (65536), Cond.methodLink RX3 84 yJ6_bitCount_0f7a4, Cond.static yJ6_bitCount_0f7a4, Cond.initialized RJ6, Cond.code yJ6_bitCount_0f7a4 cJ6_bitCount_0f7a4 1 (some .int), Cond.constant RJ6 265 (1431655765), Cond.constant RJ6 266 (858993459), Cond.constant RJ6 267 (252645135), Cond.methodLink RL 30 yX5_draw, Cond.instanceMethod yX5_draw, Cond.selects RX5 yX5_draw yX5_draw, Cond.code yX5_draw cX5_draw 5 (some .int), Cond.constantLong RX5 109 (1103515245), Cond.constantLong RX5 111 (12345), Cond.constantLong RX5 113 (2147483648), Cond.constant RX5 115 (65536), Cond.methodLink RX5 106 yX5_sum]
def wsL_law_r15 : List Cond := [Cond.instanceMethod yX5_sum, Cond.selects RX5 yX5_sum yX5_sum, Cond.code yX5_sum cX5_sum 4 (some .int), Cond.methodLink RX5 116 yX5_bits, Cond.static yX5_bits, Cond.code yX5_bits cX5_bits 3 (some .int), Cond.methodLink RX5 119 yX5_pick, Cond.static yX5_pick, Cond.code yX5_pick cX5_pick 5 (some .int), Cond.methodLink RL 31 yX4_shuffle, Cond.instanceMethod yX4_shuffle, Cond.selects RX4 yX4_shuffle yX4_shuffle, Cond.code yX4_shuffle cX4_shuffle 3 (some .int), Cond.methodLink RL 34 yX5_shuffle, Cond.instanceMethod yX5_shuffle, Cond.selects RX5 yX5_shuffle yX5_shuffle, Cond.code yX5_shuffle cX5_shuffle 3 (some .int), Cond.methodLink RL 35 yX4_perform, Cond.instanceMethod yX4_perform, Cond.selects RX4 yX4_perform yX4_perform, Cond.code yX4_perform cX4_perform 4 (some .int), Cond.methodLink RX4 101 yX2_fault, Cond.static yX2_fault, Cond.code yX2_fault cX2_fault 7 (some .int)]
def wsL_law_r16 : List Cond := [Cond.methodLink RX2 29 yX2_isLetter, Cond.static yX2_isLetter, Cond.code yX2_isLetter cX2_isLetter 1 (some .boolean), Cond.methodLink RX2 33 yX2_isDigit, Cond.static yX2_isDigit, Cond.code yX2_isDigit cX2_isDigit 1 (some .boolean), Cond.methodLink RX4 105 yX2_expand, Cond.instanceMethod yX2_expand, Cond.selects RX2 yX2_expand yX2_expand, Cond.code yX2_expand cX2_expand 7 (some .int), Cond.methodLink RX2 36 yX2_openBracket, Cond.instanceMethod yX2_openBracket, Cond.selects RX2 yX2_openBracket yX2_openBracket, Cond.code yX2_openBracket cX2_openBracket 2 none, Cond.methodLink RX2 40 yX2_closeBracket, Cond.instanceMethod yX2_closeBracket, Cond.selects RX2 yX2_closeBracket yX2_closeBracket, Cond.code yX2_closeBracket cX2_closeBracket 1 (some .boolean), Cond.methodLink RX2 47 yX2_repeat, Cond.instanceMethod yX2_repeat, Cond.selects RX2 yX2_repeat yX2_repeat, Cond.code yX2_repeat cX2_repeat 5 (some .boolean), Cond.methodLink RX2 51 arraycopyName, Cond.methodLink RX2 44 yX2_append]
def wsL_law_r17 : List Cond := [Cond.instanceMethod yX2_append, Cond.selects RX2 yX2_append yX2_append, Cond.code yX2_append cX2_append 2 (some .boolean), Cond.methodLink RX4 108 yX2_visitorAt, Cond.instanceMethod yX2_visitorAt, Cond.selects RX2 yX2_visitorAt yX2_visitorAt, Cond.code yX2_visitorAt cX2_visitorAt 2 (some .int), Cond.methodLink RL 39 yX5_perform, Cond.instanceMethod yX5_perform, Cond.selects RX5 yX5_perform yX5_perform, Cond.code yX5_perform cX5_perform 7 (some .int), Cond.fieldLink RX5 131 "NudgeLocksModel" "stepsTold" "I", Cond.fieldLink RX5 125 "NudgeLocksModel" "length" "I", Cond.methodLink RX5 134 yX5_read, Cond.instanceMethod yX5_read, Cond.selects RX5 yX5_read yX5_read, Cond.code yX5_read cX5_read 6 (some .int), Cond.methodLink RX5 128 yX5_atMost, Cond.static yX5_atMost, Cond.code yX5_atMost cX5_atMost 1 (some .int), Cond.methodLink RL 40 yX4_finish, Cond.instanceMethod yX4_finish, Cond.selects RX4 yX4_finish yX4_finish, Cond.code yX4_finish cX4_finish 1 (some .int)]
def wsL_law_r18 : List Cond := [Cond.methodLink RX4 111 yX3_advanceAll, Cond.instanceMethod yX3_advanceAll, Cond.selects RX3 yX3_advanceAll yX3_advanceAll, Cond.code yX3_advanceAll cX3_advanceAll 4 (some .int), Cond.constant RX3 73 (100000), Cond.methodLink RX3 74 yX3_present, Cond.methodLink RL 43 yX5_finish, Cond.instanceMethod yX5_finish, Cond.selects RX5 yX5_finish yX5_finish, Cond.code yX5_finish cX5_finish 1 (some .int), Cond.methodLink RX5 122 yX5_finishAll, Cond.instanceMethod yX5_finishAll, Cond.selects RX5 yX5_finishAll yX5_finishAll, Cond.code yX5_finishAll cX5_finishAll 3 (some .int), Cond.methodLink RL 44 yX4_type, Cond.instanceMethod yX4_type, Cond.selects RX4 yX4_type yX4_type, Cond.code yX4_type cX4_type 2 (some .int), Cond.methodLink RL 48 yX5_type, Cond.instanceMethod yX5_type, Cond.selects RX5 yX5_type yX5_type, Cond.code yX5_type cX5_type 2 (some .int), Cond.methodLink RL 49 yX4_clearText, Cond.instanceMethod yX4_clearText]
def wsL_law_r19 : List Cond := [Cond.selects RX4 yX4_clearText yX4_clearText, Cond.code yX4_clearText cX4_clearText 2 (some .int), Cond.methodLink RL 52 yX5_clearText, Cond.instanceMethod yX5_clearText, Cond.selects RX5 yX5_clearText yX5_clearText, Cond.code yX5_clearText cX5_clearText 2 (some .int), Cond.methodLink RL 53 yX4_undo, Cond.instanceMethod yX4_undo, Cond.selects RX4 yX4_undo yX4_undo, Cond.code yX4_undo cX4_undo 1 (some .int), Cond.methodLink RL 56 yX5_undo, Cond.instanceMethod yX5_undo, Cond.selects RX5 yX5_undo yX5_undo, Cond.code yX5_undo cX5_undo 1 (some .int), Cond.methodLink RL 57 yX4_keep, Cond.instanceMethod yX4_keep, Cond.selects RX4 yX4_keep yX4_keep, Cond.code yX4_keep cX4_keep 1 (some .int), Cond.methodLink RL 60 yX5_keep, Cond.instanceMethod yX5_keep, Cond.selects RX5 yX5_keep yX5_keep, Cond.code yX5_keep cX5_keep 1 (some .int), Cond.fieldLink RX5 59 "NudgeLocksModel" "isKept" "Z", Cond.methodLink RL 61 yX4_restore]
def wsL_law_r20 : List Cond := [Cond.instanceMethod yX4_restore, Cond.selects RX4 yX4_restore yX4_restore, Cond.code yX4_restore cX4_restore 1 (some .int), Cond.methodLink RL 64 yX5_restore, Cond.instanceMethod yX5_restore, Cond.selects RX5 yX5_restore yX5_restore, Cond.code yX5_restore cX5_restore 1 (some .int), Cond.methodLink RL 65 yX4_visitor, Cond.instanceMethod yX4_visitor, Cond.selects RX4 yX4_visitor yX4_visitor, Cond.code yX4_visitor cX4_visitor 3 (some .int), Cond.methodLink RX4 118 yX3_count, Cond.instanceMethod yX3_count, Cond.selects RX3 yX3_count yX3_count, Cond.code yX3_count cX3_count 3 (some .int), Cond.methodLink RX4 122 yX1_nextOf, Cond.instanceMethod yX1_nextOf, Cond.selects RX1 yX1_nextOf yX1_nextOf, Cond.code yX1_nextOf cX1_nextOf 2 (some .int), Cond.methodLink RX4 125 yX1_aheadOf, Cond.instanceMethod yX1_aheadOf, Cond.selects RX1 yX1_aheadOf yX1_aheadOf, Cond.code yX1_aheadOf cX1_aheadOf 2 (some .int), Cond.methodLink RX4 128 yX1_ownCard]
def wsL_law_r21 : List Cond := [Cond.instanceMethod yX1_ownCard, Cond.selects RX1 yX1_ownCard yX1_ownCard, Cond.code yX1_ownCard cX1_ownCard 2 (some .int), Cond.methodLink RX4 131 yX1_ticket, Cond.instanceMethod yX1_ticket, Cond.selects RX1 yX1_ticket yX1_ticket, Cond.code yX1_ticket cX1_ticket 2 (some .int), Cond.methodLink RX4 134 yX1_flagOf, Cond.instanceMethod yX1_flagOf, Cond.selects RX1 yX1_flagOf yX1_flagOf, Cond.code yX1_flagOf cX1_flagOf 2 (some .int), Cond.methodLink RX4 137 yX3_placeOf, Cond.instanceMethod yX3_placeOf, Cond.selects RX3 yX3_placeOf yX3_placeOf, Cond.code yX3_placeOf cX3_placeOf 3 (some .int), Cond.methodLink RL 68 yX5_visitor, Cond.instanceMethod yX5_visitor, Cond.selects RX5 yX5_visitor yX5_visitor, Cond.code yX5_visitor cX5_visitor 5 (some .int), Cond.methodLink RL 69 yX4_inLine, Cond.instanceMethod yX4_inLine, Cond.selects RX4 yX4_inLine yX4_inLine, Cond.code yX4_inLine cX4_inLine 2 (some .int), Cond.methodLink RX4 140 yX3_visitorAt]
def wsL_law_r22 : List Cond := [Cond.instanceMethod yX3_visitorAt, Cond.selects RX3 yX3_visitorAt yX3_visitorAt, Cond.code yX3_visitorAt cX3_visitorAt 2 (some .int), Cond.methodLink RL 72 yX5_inLine, Cond.instanceMethod yX5_inLine, Cond.selects RX5 yX5_inLine yX5_inLine, Cond.code yX5_inLine cX5_inLine 2 (some .int), Cond.methodLink RL 73 yX4_card, Cond.instanceMethod yX4_card, Cond.selects RX4 yX4_card yX4_card, Cond.code yX4_card cX4_card 2 (some .int), Cond.methodLink RX4 141 yX4_isCard, Cond.methodLink RX4 144 yX1_cardFlag, Cond.methodLink RL 76 yX5_card, Cond.instanceMethod yX5_card, Cond.selects RX5 yX5_card yX5_card, Cond.code yX5_card cX5_card 2 (some .int), Cond.methodLink RL 77 yX4_total, Cond.instanceMethod yX4_total, Cond.selects RX4 yX4_total yX4_total, Cond.code yX4_total cX4_total 2 (some .int), Cond.methodLink RX4 147 yX1_whoIsInside, Cond.instanceMethod yX1_whoIsInside, Cond.selects RX1 yX1_whoIsInside yX1_whoIsInside]
def wsL_law_r23 : List Cond := [Cond.code yX1_whoIsInside cX1_whoIsInside 2 (some .int), Cond.methodLink RX4 150 yX1_tail, Cond.instanceMethod yX1_tail, Cond.selects RX1 yX1_tail yX1_tail, Cond.code yX1_tail cX1_tail 1 (some .int), Cond.methodLink RX4 153 yX1_countAt, Cond.methodLink RX4 156 yX1_given, Cond.instanceMethod yX1_given, Cond.selects RX1 yX1_given yX1_given, Cond.code yX1_given cX1_given 1 (some .int), Cond.methodLink RX4 159 yX1_served, Cond.instanceMethod yX1_served, Cond.selects RX1 yX1_served yX1_served, Cond.code yX1_served cX1_served 1 (some .int), Cond.methodLink RX4 162 yX1_grabFlag, Cond.instanceMethod yX1_grabFlag, Cond.selects RX1 yX1_grabFlag yX1_grabFlag, Cond.code yX1_grabFlag cX1_grabFlag 1 (some .int), Cond.methodLink RL 80 yX5_total, Cond.instanceMethod yX5_total, Cond.selects RX5 yX5_total yX5_total, Cond.code yX5_total cX5_total 3 (some .int), Cond.methodLink RX5 137 yX5_inside, Cond.instanceMethod yX5_inside]
def wsL_law_r24 : List Cond := [Cond.selects RX5 yX5_inside yX5_inside, Cond.code yX5_inside cX5_inside 3 (some .int), Cond.methodLink RX5 140 yX5_atStage, Cond.instanceMethod yX5_atStage, Cond.selects RX5 yX5_atStage yX5_atStage, Cond.code yX5_atStage cX5_atStage 4 (some .int), Cond.methodLink RL 81 yX4_wouldLook, Cond.instanceMethod yX4_wouldLook, Cond.selects RX4 yX4_wouldLook yX4_wouldLook, Cond.code yX4_wouldLook cX4_wouldLook 2 (some .int), Cond.methodLink RL 84 yX5_wouldLook, Cond.instanceMethod yX5_wouldLook, Cond.selects RX5 yX5_wouldLook yX5_wouldLook, Cond.code yX5_wouldLook cX5_wouldLook 2 (some .int), Cond.methodLink RL 85 yX4_wouldTouch, Cond.instanceMethod yX4_wouldTouch, Cond.selects RX4 yX4_wouldTouch yX4_wouldTouch, Cond.code yX4_wouldTouch cX4_wouldTouch 2 (some .int), Cond.methodLink RX4 165 yX1_touches, Cond.methodLink RL 88 yX5_wouldTouch, Cond.instanceMethod yX5_wouldTouch, Cond.selects RX5 yX5_wouldTouch yX5_wouldTouch, Cond.code yX5_wouldTouch cX5_wouldTouch 2 (some .int), Cond.methodLink RL 89 yX4_stepsToFinish]
def wsL_law_r25 : List Cond := [Cond.instanceMethod yX4_stepsToFinish, Cond.selects RX4 yX4_stepsToFinish yX4_stepsToFinish, Cond.code yX4_stepsToFinish cX4_stepsToFinish 1 (some .int), Cond.methodLink RL 92 yX5_stepsToFinish, Cond.instanceMethod yX5_stepsToFinish, Cond.selects RX5 yX5_stepsToFinish yX5_stepsToFinish, Cond.code yX5_stepsToFinish cX5_stepsToFinish 2 (some .int), Cond.methodLink RL 93 yX4_orders, Cond.instanceMethod yX4_orders, Cond.selects RX4 yX4_orders yX4_orders, Cond.code yX4_orders cX4_orders 4 (some .int), Cond.methodLink RX4 168 yX0_explore, Cond.instanceMethod yX0_explore, Cond.selects RX0 yX0_explore yX0_explore, Cond.code yX0_explore cX0_explore 5 (some .boolean), Cond.methodLink RX0 30 yX1_copyFrom, Cond.methodLink RX0 34 yX0_append, Cond.instanceMethod yX0_append, Cond.selects RX0 yX0_append yX0_append, Cond.code yX0_append cX0_append 2 (some .boolean), Cond.methodLink RX0 38 yX0_follow, Cond.instanceMethod yX0_follow, Cond.selects RX0 yX0_follow yX0_follow, Cond.code yX0_follow cX0_follow 6 (some .boolean)]
def wsL_law_r26 : List Cond := [Cond.methodLink RX0 42 yX1_advance, Cond.methodLink RX0 46 yX1_stage, Cond.methodLink RX0 50 yX0_isKnown, Cond.instanceMethod yX0_isKnown, Cond.selects RX0 yX0_isKnown yX0_isKnown, Cond.code yX0_isKnown cX0_isKnown 3 (some .boolean), Cond.methodLink RX0 53 yX1_sameAs, Cond.instanceMethod yX1_sameAs, Cond.selects RX1 yX1_sameAs yX1_sameAs, Cond.code yX1_sameAs cX1_sameAs 3 (some .boolean), Cond.methodLink RX4 172 yX0_found, Cond.instanceMethod yX0_found, Cond.selects RX0 yX0_found yX0_found, Cond.code yX0_found cX0_found 1 (some .int), Cond.methodLink RX4 175 yX0_countBothInside, Cond.instanceMethod yX0_countBothInside, Cond.selects RX0 yX0_countBothInside yX0_countBothInside, Cond.code yX0_countBothInside cX0_countBothInside 6 (some .int), Cond.methodLink RX4 178 yX0_countStuck, Cond.instanceMethod yX0_countStuck, Cond.selects RX0 yX0_countStuck yX0_countStuck, Cond.code yX0_countStuck cX0_countStuck 5 (some .int), Cond.methodLink RX0 57 yX0_isStuck, Cond.instanceMethod yX0_isStuck]
def wsL_law_r27 : List Cond := [Cond.selects RX0 yX0_isStuck yX0_isStuck, Cond.code yX0_isStuck cX0_isStuck 7 (some .boolean), Cond.methodLink RX0 60 yX1_waits, Cond.methodLink RL 97 yX5_orders, Cond.instanceMethod yX5_orders, Cond.selects RX5 yX5_orders yX5_orders, Cond.code yX5_orders cX5_orders 6 (some .int), Cond.fieldLink RX5 143 "NudgeLocksModel" "foundMany" "I", Cond.fieldLink RX5 146 "NudgeLocksModel" "backOne" "I", Cond.fieldLink RX5 149 "NudgeLocksModel" "backOther" "I", Cond.methodLink RX5 155 yX5_collect, Cond.instanceMethod yX5_collect, Cond.selects RX5 yX5_collect yX5_collect, Cond.code yX5_collect cX5_collect 4 (some .boolean), Cond.methodLink RX5 159 yX5_follow, Cond.instanceMethod yX5_follow, Cond.selects RX5 yX5_follow yX5_follow, Cond.code yX5_follow cX5_follow 5 (some .boolean), Cond.methodLink RX5 152 yX5_takeFound, Cond.instanceMethod yX5_takeFound, Cond.selects RX5 yX5_takeFound yX5_takeFound, Cond.code yX5_takeFound cX5_takeFound 2 none, Cond.methodLink RX5 162 yX5_countFound, Cond.instanceMethod yX5_countFound]
def wsL_law_r28 : List Cond := [Cond.selects RX5 yX5_countFound yX5_countFound, Cond.code yX5_countFound cX5_countFound 8 (some .int)]
def wsL_law : List Cond := (wsL_law_r1 ++ (wsL_law_r2 ++ (wsL_law_r3 ++ (wsL_law_r4 ++ (wsL_law_r5 ++ (wsL_law_r6 ++ (wsL_law_r7 ++ (wsL_law_r8 ++ (wsL_law_r9 ++ (wsL_law_r10 ++ (wsL_law_r11 ++ (wsL_law_r12 ++ (wsL_law_r13 ++ (wsL_law_r14 ++ (wsL_law_r15 ++ (wsL_law_r16 ++ (wsL_law_r17 ++ (wsL_law_r18 ++ (wsL_law_r19 ++ (wsL_law_r20 ++ (wsL_law_r21 ++ (wsL_law_r22 ++ (wsL_law_r23 ++ (wsL_law_r24 ++ (wsL_law_r25 ++ (wsL_law_r26 ++ (wsL_law_r27 ++ wsL_law_r28))))))))))))))))))))))))))) ++ wsX40 ++ wsX50 ++ wsX30 ++ wsX20 ++ wsX00 ++ wsX10 ++ ([] : List Cond)
end
section
set_option maxRecDepth 20000 in
theorem ggX0_init_X1_init : GoodIn wsX0_init wsX1_init := goodIn_r _ [14, 15, 2, 3, 6, 16, 17, 18, 19, 9, 20, 25] (by decide +kernel) (by decide +kernel)
set_option maxRecDepth 20000 in
theorem gX0_init_X1_init : GoodIn wsX0_init (wsX1_init) := ggX0_init_X1_init
theorem dX0_init_0 : decode cX0_init 0 = .ok (.aload_n 0, 1) := by decide +kernel
theorem dX0_init_1 : decode cX0_init 1 = .ok (.invokespecial 5, 3) := by decide +kernel
theorem dX0_init_4 : decode cX0_init 4 = .ok (.aload_n 0, 1) := by decide +kernel
theorem dX0_init_5 : decode cX0_init 5 = .ok (.sipush 300, 3) := by decide +kernel
theorem dX0_init_8 : decode cX0_init 8 = .ok (.anewarray 11, 3) := by decide +kernel
theorem dX0_init_11 : decode cX0_init 11 = .ok (.putfield 13, 3) := by decide +kernel
theorem dX0_init_14 : decode cX0_init 14 = .ok (.aload_n 0, 1) := by decide +kernel
theorem dX0_init_15 : decode cX0_init 15 = .ok (.sipush 300, 3) := by decide +kernel
theorem dX0_init_18 : decode cX0_init 18 = .ok (.newarray .int, 2) := by decide +kernel
theorem dX0_init_20 : decode cX0_init 20 = .ok (.putfield 17, 3) := by decide +kernel
theorem dX0_init_23 : decode cX0_init 23 = .ok (.aload_n 0, 1) := by decide +kernel
theorem dX0_init_24 : decode cX0_init 24 = .ok (.new 11, 3) := by decide +kernel
theorem dX0_init_27 : decode cX0_init 27 = .ok (.dup, 1) := by decide +kernel
theorem dX0_init_28 : decode cX0_init 28 = .ok (.invokespecial 21, 3) := by decide +kernel
theorem dX0_init_31 : decode cX0_init 31 = .ok (.putfield 22, 3) := by decide +kernel
theorem dX0_init_34 : decode cX0_init 34 = .ok (.aload_n 0, 1) := by decide +kernel
theorem dX0_init_35 : decode cX0_init 35 = .ok (.iconst 0, 1) := by decide +kernel
theorem dX0_init_36 : decode cX0_init 36 = .ok (.putfield 26, 3) := by decide +kernel
theorem dX0_init_39 : decode cX0_init 39 = .ok (.return_, 1) := by decide +kernel
theorem dX0_found_0 : decode cX0_found 0 = .ok (.aload_n 0, 1) := by decide +kernel
theorem dX0_found_1 : decode cX0_found 1 = .ok (.getfield 26, 3) := by decide +kernel
theorem dX0_found_4 : decode cX0_found 4 = .ok (.ireturn, 1) := by decide +kernel
set_option maxRecDepth 20000 in
theorem ggX0_explore_X1_copyFrom : GoodIn wsX0_explore wsX1_copyFrom := goodIn_r _ [7, 8, 9, 10, 11, 12, 115] (by decide +kernel) (by decide +kernel)
set_option maxRecDepth 20000 in
theorem gX0_explore_X1_copyFrom : GoodIn wsX0_explore (wsV RX0 30 RX1 yX1_copyFrom wsX1_copyFrom) := goodIn_app (goodIn_of _ (by decide +kernel)) ggX0_explore_X1_copyFrom
set_option maxRecDepth 20000 in
theorem ggX0_explore_X0_append : GoodIn wsX0_explore wsX0_append := goodIn_r _ [17, 1, 18, 19, 20, 6, 2, 21, 22, 23, 24, 25, 26, 27, 28, 8, 29, 30, 31, 32, 3, 4, 5, 7, 9, 10, 11, 12, 111, 112, 113, 114, 115] (by decide +kernel) (by decide +kernel)
set_option maxRecDepth 20000 in
theorem gX0_explore_X0_append : GoodIn wsX0_explore (wsV RX0 34 RX0 yX0_append wsX0_append) := goodIn_app (goodIn_of _ (by decide +kernel)) ggX0_explore_X0_append
set_option maxRecDepth 20000 in
theorem ggX0_explore_X0_follow : GoodIn wsX0_explore wsX0_follow := goodIn_r _ [36, 18, 21, 2, 3, 4, 5, 6, 7, 8, 9, 10, 11, 12, 37, 38, 39, 40, 41, 42, 43, 44, 45, 46, 47, 48, 49, 50, 51, 52, 53, 54, 55, 56, 57, 58, 59, 60, 61, 62, 63, 64, 65, 66, 67, 68, 69, 70, 71, 72, 73, 74, 75, 76, 77, 78, 79, 80, 81, 82, 83, 84, 85, 86, 87, 88, 89, 90, 91, 92, 93, 94, 95, 96, 97, 98, 99, 100, 101, 102, 103, 104, 105, 16, 106, 1, 107, 108, 109, 110, 13, 14, 15, 17, 19, 20, 22, 23, 24, 25, 26, 27, 28, 29, 30, 31, 32, 111, 112, 113, 114, 115] (by decide +kernel) (by decide +kernel)
set_option maxRecDepth 20000 in
theorem gX0_explore_X0_follow : GoodIn wsX0_explore (wsV RX0 38 RX0 yX0_follow wsX0_follow) := goodIn_app (goodIn_of _ (by decide +kernel)) ggX0_explore_X0_follow
theorem dX0_explore_0 : decode cX0_explore 0 = .ok (.aload_n 0, 1) := by decide +kernel
theorem dX0_explore_1 : decode cX0_explore 1 = .ok (.iconst 0, 1) := by decide +kernel
theorem dX0_explore_2 : decode cX0_explore 2 = .ok (.putfield 26, 3) := by decide +kernel
theorem dX0_explore_5 : decode cX0_explore 5 = .ok (.aload_n 0, 1) := by decide +kernel
theorem dX0_explore_6 : decode cX0_explore 6 = .ok (.getfield 22, 3) := by decide +kernel
theorem dX0_explore_9 : decode cX0_explore 9 = .ok (.aload_n 1, 1) := by decide +kernel
theorem dX0_explore_10 : decode cX0_explore 10 = .ok (.invokevirtual 30, 3) := by decide +kernel
theorem dX0_explore_13 : decode cX0_explore 13 = .ok (.aload_n 0, 1) := by decide +kernel
theorem dX0_explore_14 : decode cX0_explore 14 = .ok (.iconst 0, 1) := by decide +kernel
theorem dX0_explore_15 : decode cX0_explore 15 = .ok (.invokevirtual 34, 3) := by decide +kernel
theorem dX0_explore_18 : decode cX0_explore 18 = .ok (.pop, 1) := by decide +kernel
theorem dX0_explore_19 : decode cX0_explore 19 = .ok (.iconst 0, 1) := by decide +kernel
theorem dX0_explore_20 : decode cX0_explore 20 = .ok (.istore 4, 2) := by decide +kernel
theorem dX0_explore_22 : decode cX0_explore 22 = .ok (.iload 4, 2) := by decide +kernel
theorem dX0_explore_24 : decode cX0_explore 24 = .ok (.aload_n 0, 1) := by decide +kernel
theorem dX0_explore_25 : decode cX0_explore 25 = .ok (.getfield 26, 3) := by decide +kernel
theorem dX0_explore_28 : decode cX0_explore 28 = .ok (.if_icmp .ge 41, 3) := by decide +kernel
theorem dX0_explore_31 : decode cX0_explore 31 = .ok (.iload 4, 2) := by decide +kernel
theorem dX0_explore_33 : decode cX0_explore 33 = .ok (.sipush 300, 3) := by decide +kernel
theorem dX0_explore_36 : decode cX0_explore 36 = .ok (.if_icmp .ge 33, 3) := by decide +kernel
theorem dX0_explore_39 : decode cX0_explore 39 = .ok (.aload_n 0, 1) := by decide +kernel
theorem dX0_explore_40 : decode cX0_explore 40 = .ok (.iload 4, 2) := by decide +kernel
theorem dX0_explore_42 : decode cX0_explore 42 = .ok (.iload_n 2, 1) := by decide +kernel
theorem dX0_explore_43 : decode cX0_explore 43 = .ok (.iconst 1, 1) := by decide +kernel
theorem dX0_explore_44 : decode cX0_explore 44 = .ok (.invokevirtual 38, 3) := by decide +kernel
theorem dX0_explore_47 : decode cX0_explore 47 = .ok (.ifCond .eq 14, 3) := by decide +kernel
theorem dX0_explore_50 : decode cX0_explore 50 = .ok (.aload_n 0, 1) := by decide +kernel
theorem dX0_explore_51 : decode cX0_explore 51 = .ok (.iload 4, 2) := by decide +kernel
theorem dX0_explore_53 : decode cX0_explore 53 = .ok (.iload_n 3, 1) := by decide +kernel
theorem dX0_explore_54 : decode cX0_explore 54 = .ok (.iconst 2, 1) := by decide +kernel
theorem dX0_explore_55 : decode cX0_explore 55 = .ok (.invokevirtual 38, 3) := by decide +kernel
theorem dX0_explore_58 : decode cX0_explore 58 = .ok (.ifCond .ne 5, 3) := by decide +kernel
theorem dX0_explore_61 : decode cX0_explore 61 = .ok (.iconst 0, 1) := by decide +kernel
theorem dX0_explore_62 : decode cX0_explore 62 = .ok (.ireturn, 1) := by decide +kernel
theorem dX0_explore_63 : decode cX0_explore 63 = .ok (.iinc 4 1, 3) := by decide +kernel
theorem dX0_explore_66 : decode cX0_explore 66 = .ok (.goto (-44), 3) := by decide +kernel
theorem dX0_explore_69 : decode cX0_explore 69 = .ok (.iconst 1, 1) := by decide +kernel
theorem dX0_explore_70 : decode cX0_explore 70 = .ok (.ireturn, 1) := by decide +kernel
set_option maxRecDepth 20000 in
theorem ggX0_follow_X1_copyFrom : GoodIn wsX0_follow wsX1_copyFrom := goodIn_r _ [8, 9, 10, 11, 12, 13, 111] (by decide +kernel) (by decide +kernel)
set_option maxRecDepth 20000 in
theorem gX0_follow_X1_copyFrom : GoodIn wsX0_follow (wsV RX0 30 RX1 yX1_copyFrom wsX1_copyFrom) := goodIn_app (goodIn_of _ (by decide +kernel)) ggX0_follow_X1_copyFrom
set_option maxRecDepth 20000 in
theorem ggX0_follow_X1_advance : GoodIn wsX0_follow wsX1_advance := goodIn_r _ [17, 18, 19, 20, 7, 21, 9, 22, 23, 24, 25, 26, 27, 28, 29, 30, 31, 32, 33, 34, 35, 36, 37, 38, 39, 40, 41, 42, 43, 44, 45, 46, 47, 48, 49, 50, 51, 52, 53, 54, 55, 56, 57, 58, 59, 60, 61, 62, 63, 64, 65, 66, 67, 68, 69, 70, 71, 72, 73, 74, 75, 76, 77, 78, 111] (by decide +kernel) (by decide +kernel)
set_option maxRecDepth 20000 in
theorem gX0_follow_X1_advance : GoodIn wsX0_follow (wsV RX0 42 RX1 yX1_advance wsX1_advance) := goodIn_app (goodIn_of _ (by decide +kernel)) ggX0_follow_X1_advance
set_option maxRecDepth 20000 in
theorem ggX0_follow_X1_stage : GoodIn wsX0_follow wsX1_stage := goodIn_r _ [25, 9, 111] (by decide +kernel) (by decide +kernel)
set_option maxRecDepth 20000 in
theorem gX0_follow_X1_stage : GoodIn wsX0_follow (wsV RX0 46 RX1 yX1_stage wsX1_stage) := goodIn_app (goodIn_of _ (by decide +kernel)) ggX0_follow_X1_stage
set_option maxRecDepth 20000 in
theorem ggX0_follow_X0_isKnown : GoodIn wsX0_follow wsX0_isKnown := goodIn_r _ [84, 85, 2, 1, 3, 86, 87, 88, 7, 89, 9, 107, 108, 109, 110, 111] (by decide +kernel) (by decide +kernel)
set_option maxRecDepth 20000 in
theorem gX0_follow_X0_isKnown : GoodIn wsX0_follow (wsV RX0 50 RX0 yX0_isKnown wsX0_isKnown) := goodIn_app (goodIn_of _ (by decide +kernel)) ggX0_follow_X0_isKnown
set_option maxRecDepth 20000 in
theorem ggX0_follow_X0_append : GoodIn wsX0_follow wsX0_append := goodIn_r _ [93, 85, 1, 94, 95, 7, 3, 2, 96, 97, 98, 99, 100, 101, 102, 9, 103, 104, 105, 106, 4, 5, 6, 8, 10, 11, 12, 13, 107, 108, 109, 110, 111] (by decide +kernel) (by decide +kernel)
set_option maxRecDepth 20000 in
theorem gX0_follow_X0_append : GoodIn wsX0_follow (wsV RX0 34 RX0 yX0_append wsX0_append) := goodIn_app (goodIn_of _ (by decide +kernel)) ggX0_follow_X0_append
theorem dX0_follow_0 : decode cX0_follow 0 = .ok (.aload_n 0, 1) := by decide +kernel
theorem dX0_follow_1 : decode cX0_follow 1 = .ok (.getfield 13, 3) := by decide +kernel
theorem dX0_follow_4 : decode cX0_follow 4 = .ok (.iload_n 1, 1) := by decide +kernel
theorem dX0_follow_5 : decode cX0_follow 5 = .ok (.aaload, 1) := by decide +kernel
theorem dX0_follow_6 : decode cX0_follow 6 = .ok (.astore 4, 2) := by decide +kernel
theorem dX0_follow_8 : decode cX0_follow 8 = .ok (.aload 4, 2) := by decide +kernel
theorem dX0_follow_10 : decode cX0_follow 10 = .ok (.ifnull 14, 3) := by decide +kernel
theorem dX0_follow_13 : decode cX0_follow 13 = .ok (.aload_n 0, 1) := by decide +kernel
theorem dX0_follow_14 : decode cX0_follow 14 = .ok (.getfield 17, 3) := by decide +kernel
theorem dX0_follow_17 : decode cX0_follow 17 = .ok (.iload_n 1, 1) := by decide +kernel
theorem dX0_follow_18 : decode cX0_follow 18 = .ok (.iaload, 1) := by decide +kernel
theorem dX0_follow_19 : decode cX0_follow 19 = .ok (.iload_n 3, 1) := by decide +kernel
theorem dX0_follow_20 : decode cX0_follow 20 = .ok (.iand, 1) := by decide +kernel
theorem dX0_follow_21 : decode cX0_follow 21 = .ok (.ifCond .eq 5, 3) := by decide +kernel
theorem dX0_follow_24 : decode cX0_follow 24 = .ok (.iconst 1, 1) := by decide +kernel
theorem dX0_follow_25 : decode cX0_follow 25 = .ok (.ireturn, 1) := by decide +kernel
theorem dX0_follow_26 : decode cX0_follow 26 = .ok (.aload_n 0, 1) := by decide +kernel
theorem dX0_follow_27 : decode cX0_follow 27 = .ok (.getfield 22, 3) := by decide +kernel
theorem dX0_follow_30 : decode cX0_follow 30 = .ok (.aload 4, 2) := by decide +kernel
theorem dX0_follow_32 : decode cX0_follow 32 = .ok (.invokevirtual 30, 3) := by decide +kernel
theorem dX0_follow_35 : decode cX0_follow 35 = .ok (.aload_n 0, 1) := by decide +kernel
theorem dX0_follow_36 : decode cX0_follow 36 = .ok (.getfield 22, 3) := by decide +kernel
theorem dX0_follow_39 : decode cX0_follow 39 = .ok (.iload_n 2, 1) := by decide +kernel
theorem dX0_follow_40 : decode cX0_follow 40 = .ok (.invokevirtual 42, 3) := by decide +kernel
theorem dX0_follow_43 : decode cX0_follow 43 = .ok (.aload_n 0, 1) := by decide +kernel
theorem dX0_follow_44 : decode cX0_follow 44 = .ok (.getfield 22, 3) := by decide +kernel
theorem dX0_follow_47 : decode cX0_follow 47 = .ok (.iload_n 2, 1) := by decide +kernel
theorem dX0_follow_48 : decode cX0_follow 48 = .ok (.invokevirtual 46, 3) := by decide +kernel
theorem dX0_follow_51 : decode cX0_follow 51 = .ok (.ifCond .ne 14, 3) := by decide +kernel
theorem dX0_follow_54 : decode cX0_follow 54 = .ok (.aload_n 0, 1) := by decide +kernel
theorem dX0_follow_55 : decode cX0_follow 55 = .ok (.getfield 17, 3) := by decide +kernel
theorem dX0_follow_58 : decode cX0_follow 58 = .ok (.iload_n 1, 1) := by decide +kernel
theorem dX0_follow_59 : decode cX0_follow 59 = .ok (.iaload, 1) := by decide +kernel
theorem dX0_follow_60 : decode cX0_follow 60 = .ok (.iload_n 3, 1) := by decide +kernel
theorem dX0_follow_61 : decode cX0_follow 61 = .ok (.ior, 1) := by decide +kernel
theorem dX0_follow_62 : decode cX0_follow 62 = .ok (.goto 9, 3) := by decide +kernel
theorem dX0_follow_65 : decode cX0_follow 65 = .ok (.aload_n 0, 1) := by decide +kernel
theorem dX0_follow_66 : decode cX0_follow 66 = .ok (.getfield 17, 3) := by decide +kernel
theorem dX0_follow_69 : decode cX0_follow 69 = .ok (.iload_n 1, 1) := by decide +kernel
theorem dX0_follow_70 : decode cX0_follow 70 = .ok (.iaload, 1) := by decide +kernel
theorem dX0_follow_71 : decode cX0_follow 71 = .ok (.istore 5, 2) := by decide +kernel
theorem dX0_follow_73 : decode cX0_follow 73 = .ok (.aload_n 0, 1) := by decide +kernel
theorem dX0_follow_74 : decode cX0_follow 74 = .ok (.iload 5, 2) := by decide +kernel
theorem dX0_follow_76 : decode cX0_follow 76 = .ok (.invokevirtual 50, 3) := by decide +kernel
theorem dX0_follow_79 : decode cX0_follow 79 = .ok (.ifCond .ne 12, 3) := by decide +kernel
theorem dX0_follow_82 : decode cX0_follow 82 = .ok (.aload_n 0, 1) := by decide +kernel
theorem dX0_follow_83 : decode cX0_follow 83 = .ok (.iload 5, 2) := by decide +kernel
theorem dX0_follow_85 : decode cX0_follow 85 = .ok (.invokevirtual 34, 3) := by decide +kernel
theorem dX0_follow_88 : decode cX0_follow 88 = .ok (.ifCond .eq 7, 3) := by decide +kernel
theorem dX0_follow_91 : decode cX0_follow 91 = .ok (.iconst 1, 1) := by decide +kernel
theorem dX0_follow_92 : decode cX0_follow 92 = .ok (.goto 4, 3) := by decide +kernel
theorem dX0_follow_95 : decode cX0_follow 95 = .ok (.iconst 0, 1) := by decide +kernel
theorem dX0_follow_96 : decode cX0_follow 96 = .ok (.ireturn, 1) := by decide +kernel
set_option maxRecDepth 20000 in
theorem ggX0_isKnown_X1_sameAs : GoodIn wsX0_isKnown wsX1_sameAs := goodIn_r _ [9, 10, 15] (by decide +kernel) (by decide +kernel)
set_option maxRecDepth 20000 in
theorem gX0_isKnown_X1_sameAs : GoodIn wsX0_isKnown (wsV RX0 53 RX1 yX1_sameAs wsX1_sameAs) := goodIn_app (goodIn_of _ (by decide +kernel)) ggX0_isKnown_X1_sameAs
theorem dX0_isKnown_0 : decode cX0_isKnown 0 = .ok (.iconst 0, 1) := by decide +kernel
theorem dX0_isKnown_1 : decode cX0_isKnown 1 = .ok (.istore_n 2, 1) := by decide +kernel
theorem dX0_isKnown_2 : decode cX0_isKnown 2 = .ok (.iload_n 2, 1) := by decide +kernel
theorem dX0_isKnown_3 : decode cX0_isKnown 3 = .ok (.aload_n 0, 1) := by decide +kernel
theorem dX0_isKnown_4 : decode cX0_isKnown 4 = .ok (.getfield 26, 3) := by decide +kernel
theorem dX0_isKnown_7 : decode cX0_isKnown 7 = .ok (.if_icmp .ge 53, 3) := by decide +kernel
theorem dX0_isKnown_10 : decode cX0_isKnown 10 = .ok (.iload_n 2, 1) := by decide +kernel
theorem dX0_isKnown_11 : decode cX0_isKnown 11 = .ok (.sipush 300, 3) := by decide +kernel
theorem dX0_isKnown_14 : decode cX0_isKnown 14 = .ok (.if_icmp .ge 46, 3) := by decide +kernel
theorem dX0_isKnown_17 : decode cX0_isKnown 17 = .ok (.aload_n 0, 1) := by decide +kernel
theorem dX0_isKnown_18 : decode cX0_isKnown 18 = .ok (.getfield 17, 3) := by decide +kernel
theorem dX0_isKnown_21 : decode cX0_isKnown 21 = .ok (.iload_n 2, 1) := by decide +kernel
theorem dX0_isKnown_22 : decode cX0_isKnown 22 = .ok (.iaload, 1) := by decide +kernel
theorem dX0_isKnown_23 : decode cX0_isKnown 23 = .ok (.iload_n 1, 1) := by decide +kernel
theorem dX0_isKnown_24 : decode cX0_isKnown 24 = .ok (.if_icmp .ne 30, 3) := by decide +kernel
theorem dX0_isKnown_27 : decode cX0_isKnown 27 = .ok (.aload_n 0, 1) := by decide +kernel
theorem dX0_isKnown_28 : decode cX0_isKnown 28 = .ok (.getfield 13, 3) := by decide +kernel
theorem dX0_isKnown_31 : decode cX0_isKnown 31 = .ok (.iload_n 2, 1) := by decide +kernel
theorem dX0_isKnown_32 : decode cX0_isKnown 32 = .ok (.aaload, 1) := by decide +kernel
theorem dX0_isKnown_33 : decode cX0_isKnown 33 = .ok (.ifnull 21, 3) := by decide +kernel
theorem dX0_isKnown_36 : decode cX0_isKnown 36 = .ok (.aload_n 0, 1) := by decide +kernel
theorem dX0_isKnown_37 : decode cX0_isKnown 37 = .ok (.getfield 22, 3) := by decide +kernel
theorem dX0_isKnown_40 : decode cX0_isKnown 40 = .ok (.aload_n 0, 1) := by decide +kernel
theorem dX0_isKnown_41 : decode cX0_isKnown 41 = .ok (.getfield 13, 3) := by decide +kernel
theorem dX0_isKnown_44 : decode cX0_isKnown 44 = .ok (.iload_n 2, 1) := by decide +kernel
theorem dX0_isKnown_45 : decode cX0_isKnown 45 = .ok (.aaload, 1) := by decide +kernel
theorem dX0_isKnown_46 : decode cX0_isKnown 46 = .ok (.invokevirtual 53, 3) := by decide +kernel
theorem dX0_isKnown_49 : decode cX0_isKnown 49 = .ok (.ifCond .eq 5, 3) := by decide +kernel
theorem dX0_isKnown_52 : decode cX0_isKnown 52 = .ok (.iconst 1, 1) := by decide +kernel
theorem dX0_isKnown_53 : decode cX0_isKnown 53 = .ok (.ireturn, 1) := by decide +kernel
theorem dX0_isKnown_54 : decode cX0_isKnown 54 = .ok (.iinc 2 1, 3) := by decide +kernel
theorem dX0_isKnown_57 : decode cX0_isKnown 57 = .ok (.goto (-55), 3) := by decide +kernel
theorem dX0_isKnown_60 : decode cX0_isKnown 60 = .ok (.iconst 0, 1) := by decide +kernel
theorem dX0_isKnown_61 : decode cX0_isKnown 61 = .ok (.ireturn, 1) := by decide +kernel
set_option maxRecDepth 20000 in
theorem ggX0_append_X1_init : GoodIn wsX0_append wsX1_init := goodIn_r _ [10, 11, 12, 13, 14, 15, 16, 17, 18, 5, 19, 32] (by decide +kernel) (by decide +kernel)
set_option maxRecDepth 20000 in
theorem gX0_append_X1_init : GoodIn wsX0_append (wsX1_init) := ggX0_append_X1_init
set_option maxRecDepth 20000 in
theorem ggX0_append_X1_copyFrom : GoodIn wsX0_append wsX1_copyFrom := goodIn_r _ [23, 15, 24, 25, 26, 27, 32] (by decide +kernel) (by decide +kernel)
set_option maxRecDepth 20000 in
theorem gX0_append_X1_copyFrom : GoodIn wsX0_append (wsV RX0 30 RX1 yX1_copyFrom wsX1_copyFrom) := goodIn_app (goodIn_of _ (by decide +kernel)) ggX0_append_X1_copyFrom
theorem dX0_append_0 : decode cX0_append 0 = .ok (.aload_n 0, 1) := by decide +kernel
theorem dX0_append_1 : decode cX0_append 1 = .ok (.getfield 26, 3) := by decide +kernel
theorem dX0_append_4 : decode cX0_append 4 = .ok (.sipush 300, 3) := by decide +kernel
theorem dX0_append_7 : decode cX0_append 7 = .ok (.if_icmp .lt 5, 3) := by decide +kernel
theorem dX0_append_10 : decode cX0_append 10 = .ok (.iconst 0, 1) := by decide +kernel
theorem dX0_append_11 : decode cX0_append 11 = .ok (.ireturn, 1) := by decide +kernel
theorem dX0_append_12 : decode cX0_append 12 = .ok (.aload_n 0, 1) := by decide +kernel
theorem dX0_append_13 : decode cX0_append 13 = .ok (.getfield 13, 3) := by decide +kernel
theorem dX0_append_16 : decode cX0_append 16 = .ok (.aload_n 0, 1) := by decide +kernel
theorem dX0_append_17 : decode cX0_append 17 = .ok (.getfield 26, 3) := by decide +kernel
theorem dX0_append_20 : decode cX0_append 20 = .ok (.aaload, 1) := by decide +kernel
theorem dX0_append_21 : decode cX0_append 21 = .ok (.ifnonnull 19, 3) := by decide +kernel
theorem dX0_append_24 : decode cX0_append 24 = .ok (.aload_n 0, 1) := by decide +kernel
theorem dX0_append_25 : decode cX0_append 25 = .ok (.getfield 13, 3) := by decide +kernel
theorem dX0_append_28 : decode cX0_append 28 = .ok (.aload_n 0, 1) := by decide +kernel
theorem dX0_append_29 : decode cX0_append 29 = .ok (.getfield 26, 3) := by decide +kernel
theorem dX0_append_32 : decode cX0_append 32 = .ok (.new 11, 3) := by decide +kernel
theorem dX0_append_35 : decode cX0_append 35 = .ok (.dup, 1) := by decide +kernel
theorem dX0_append_36 : decode cX0_append 36 = .ok (.invokespecial 21, 3) := by decide +kernel
theorem dX0_append_39 : decode cX0_append 39 = .ok (.aastore, 1) := by decide +kernel
theorem dX0_append_40 : decode cX0_append 40 = .ok (.aload_n 0, 1) := by decide +kernel
theorem dX0_append_41 : decode cX0_append 41 = .ok (.getfield 13, 3) := by decide +kernel
theorem dX0_append_44 : decode cX0_append 44 = .ok (.aload_n 0, 1) := by decide +kernel
theorem dX0_append_45 : decode cX0_append 45 = .ok (.getfield 26, 3) := by decide +kernel
theorem dX0_append_48 : decode cX0_append 48 = .ok (.aaload, 1) := by decide +kernel
theorem dX0_append_49 : decode cX0_append 49 = .ok (.aload_n 0, 1) := by decide +kernel
theorem dX0_append_50 : decode cX0_append 50 = .ok (.getfield 22, 3) := by decide +kernel
theorem dX0_append_53 : decode cX0_append 53 = .ok (.invokevirtual 30, 3) := by decide +kernel
theorem dX0_append_56 : decode cX0_append 56 = .ok (.aload_n 0, 1) := by decide +kernel
theorem dX0_append_57 : decode cX0_append 57 = .ok (.getfield 17, 3) := by decide +kernel
theorem dX0_append_60 : decode cX0_append 60 = .ok (.aload_n 0, 1) := by decide +kernel
theorem dX0_append_61 : decode cX0_append 61 = .ok (.getfield 26, 3) := by decide +kernel
theorem dX0_append_64 : decode cX0_append 64 = .ok (.iload_n 1, 1) := by decide +kernel
theorem dX0_append_65 : decode cX0_append 65 = .ok (.iastore, 1) := by decide +kernel
theorem dX0_append_66 : decode cX0_append 66 = .ok (.aload_n 0, 1) := by decide +kernel
theorem dX0_append_67 : decode cX0_append 67 = .ok (.dup, 1) := by decide +kernel
theorem dX0_append_68 : decode cX0_append 68 = .ok (.getfield 26, 3) := by decide +kernel
theorem dX0_append_71 : decode cX0_append 71 = .ok (.iconst 1, 1) := by decide +kernel
theorem dX0_append_72 : decode cX0_append 72 = .ok (.iadd, 1) := by decide +kernel
theorem dX0_append_73 : decode cX0_append 73 = .ok (.putfield 26, 3) := by decide +kernel
theorem dX0_append_76 : decode cX0_append 76 = .ok (.iconst 1, 1) := by decide +kernel
theorem dX0_append_77 : decode cX0_append 77 = .ok (.ireturn, 1) := by decide +kernel
set_option maxRecDepth 20000 in
theorem ggX0_countBothInside_X1_stage : GoodIn wsX0_countBothInside wsX1_stage := goodIn_r _ [7, 8, 13] (by decide +kernel) (by decide +kernel)
set_option maxRecDepth 20000 in
theorem gX0_countBothInside_X1_stage : GoodIn wsX0_countBothInside (wsV RX0 46 RX1 yX1_stage wsX1_stage) := goodIn_app (goodIn_of _ (by decide +kernel)) ggX0_countBothInside_X1_stage
theorem dX0_countBothInside_0 : decode cX0_countBothInside 0 = .ok (.iconst 0, 1) := by decide +kernel
theorem dX0_countBothInside_1 : decode cX0_countBothInside 1 = .ok (.istore_n 3, 1) := by decide +kernel
theorem dX0_countBothInside_2 : decode cX0_countBothInside 2 = .ok (.iconst 0, 1) := by decide +kernel
theorem dX0_countBothInside_3 : decode cX0_countBothInside 3 = .ok (.istore 4, 2) := by decide +kernel
theorem dX0_countBothInside_5 : decode cX0_countBothInside 5 = .ok (.iload 4, 2) := by decide +kernel
theorem dX0_countBothInside_7 : decode cX0_countBothInside 7 = .ok (.aload_n 0, 1) := by decide +kernel
theorem dX0_countBothInside_8 : decode cX0_countBothInside 8 = .ok (.getfield 26, 3) := by decide +kernel
theorem dX0_countBothInside_11 : decode cX0_countBothInside 11 = .ok (.if_icmp .ge 54, 3) := by decide +kernel
theorem dX0_countBothInside_14 : decode cX0_countBothInside 14 = .ok (.iload 4, 2) := by decide +kernel
theorem dX0_countBothInside_16 : decode cX0_countBothInside 16 = .ok (.sipush 300, 3) := by decide +kernel
theorem dX0_countBothInside_19 : decode cX0_countBothInside 19 = .ok (.if_icmp .ge 46, 3) := by decide +kernel
theorem dX0_countBothInside_22 : decode cX0_countBothInside 22 = .ok (.aload_n 0, 1) := by decide +kernel
theorem dX0_countBothInside_23 : decode cX0_countBothInside 23 = .ok (.getfield 13, 3) := by decide +kernel
theorem dX0_countBothInside_26 : decode cX0_countBothInside 26 = .ok (.iload 4, 2) := by decide +kernel
theorem dX0_countBothInside_28 : decode cX0_countBothInside 28 = .ok (.aaload, 1) := by decide +kernel
theorem dX0_countBothInside_29 : decode cX0_countBothInside 29 = .ok (.astore 5, 2) := by decide +kernel
theorem dX0_countBothInside_31 : decode cX0_countBothInside 31 = .ok (.aload 5, 2) := by decide +kernel
theorem dX0_countBothInside_33 : decode cX0_countBothInside 33 = .ok (.ifnull 26, 3) := by decide +kernel
theorem dX0_countBothInside_36 : decode cX0_countBothInside 36 = .ok (.aload 5, 2) := by decide +kernel
theorem dX0_countBothInside_38 : decode cX0_countBothInside 38 = .ok (.iload_n 1, 1) := by decide +kernel
theorem dX0_countBothInside_39 : decode cX0_countBothInside 39 = .ok (.invokevirtual 46, 3) := by decide +kernel
theorem dX0_countBothInside_42 : decode cX0_countBothInside 42 = .ok (.iconst 4, 1) := by decide +kernel
theorem dX0_countBothInside_43 : decode cX0_countBothInside 43 = .ok (.if_icmp .ne 16, 3) := by decide +kernel
theorem dX0_countBothInside_46 : decode cX0_countBothInside 46 = .ok (.aload 5, 2) := by decide +kernel
theorem dX0_countBothInside_48 : decode cX0_countBothInside 48 = .ok (.iload_n 2, 1) := by decide +kernel
theorem dX0_countBothInside_49 : decode cX0_countBothInside 49 = .ok (.invokevirtual 46, 3) := by decide +kernel
theorem dX0_countBothInside_52 : decode cX0_countBothInside 52 = .ok (.iconst 4, 1) := by decide +kernel
theorem dX0_countBothInside_53 : decode cX0_countBothInside 53 = .ok (.if_icmp .ne 6, 3) := by decide +kernel
theorem dX0_countBothInside_56 : decode cX0_countBothInside 56 = .ok (.iinc 3 1, 3) := by decide +kernel
theorem dX0_countBothInside_59 : decode cX0_countBothInside 59 = .ok (.iinc 4 1, 3) := by decide +kernel
theorem dX0_countBothInside_62 : decode cX0_countBothInside 62 = .ok (.goto (-57), 3) := by decide +kernel
theorem dX0_countBothInside_65 : decode cX0_countBothInside 65 = .ok (.iload_n 3, 1) := by decide +kernel
theorem dX0_countBothInside_66 : decode cX0_countBothInside 66 = .ok (.ireturn, 1) := by decide +kernel
set_option maxRecDepth 20000 in
theorem ggX0_countStuck_X0_isStuck : GoodIn wsX0_countStuck wsX0_isStuck := goodIn_r _ [6, 7, 8, 9, 10, 11, 12, 13, 14, 15, 16, 17, 18, 19, 20, 21, 22, 23, 24, 25, 26, 27, 28, 29, 30, 31, 32, 33, 34, 35, 36, 37, 38] (by decide +kernel) (by decide +kernel)
set_option maxRecDepth 20000 in
theorem gX0_countStuck_X0_isStuck : GoodIn wsX0_countStuck (wsV RX0 57 RX0 yX0_isStuck wsX0_isStuck) := goodIn_app (goodIn_of _ (by decide +kernel)) ggX0_countStuck_X0_isStuck
theorem dX0_countStuck_0 : decode cX0_countStuck 0 = .ok (.iconst 0, 1) := by decide +kernel
theorem dX0_countStuck_1 : decode cX0_countStuck 1 = .ok (.istore_n 3, 1) := by decide +kernel
theorem dX0_countStuck_2 : decode cX0_countStuck 2 = .ok (.iconst 0, 1) := by decide +kernel
theorem dX0_countStuck_3 : decode cX0_countStuck 3 = .ok (.istore 4, 2) := by decide +kernel
theorem dX0_countStuck_5 : decode cX0_countStuck 5 = .ok (.iload 4, 2) := by decide +kernel
theorem dX0_countStuck_7 : decode cX0_countStuck 7 = .ok (.aload_n 0, 1) := by decide +kernel
theorem dX0_countStuck_8 : decode cX0_countStuck 8 = .ok (.getfield 26, 3) := by decide +kernel
theorem dX0_countStuck_11 : decode cX0_countStuck 11 = .ok (.if_icmp .ge 31, 3) := by decide +kernel
theorem dX0_countStuck_14 : decode cX0_countStuck 14 = .ok (.iload 4, 2) := by decide +kernel
theorem dX0_countStuck_16 : decode cX0_countStuck 16 = .ok (.sipush 300, 3) := by decide +kernel
theorem dX0_countStuck_19 : decode cX0_countStuck 19 = .ok (.if_icmp .ge 23, 3) := by decide +kernel
theorem dX0_countStuck_22 : decode cX0_countStuck 22 = .ok (.aload_n 0, 1) := by decide +kernel
theorem dX0_countStuck_23 : decode cX0_countStuck 23 = .ok (.iload 4, 2) := by decide +kernel
theorem dX0_countStuck_25 : decode cX0_countStuck 25 = .ok (.iload_n 1, 1) := by decide +kernel
theorem dX0_countStuck_26 : decode cX0_countStuck 26 = .ok (.iload_n 2, 1) := by decide +kernel
theorem dX0_countStuck_27 : decode cX0_countStuck 27 = .ok (.invokevirtual 57, 3) := by decide +kernel
theorem dX0_countStuck_30 : decode cX0_countStuck 30 = .ok (.ifCond .eq 6, 3) := by decide +kernel
theorem dX0_countStuck_33 : decode cX0_countStuck 33 = .ok (.iinc 3 1, 3) := by decide +kernel
theorem dX0_countStuck_36 : decode cX0_countStuck 36 = .ok (.iinc 4 1, 3) := by decide +kernel
theorem dX0_countStuck_39 : decode cX0_countStuck 39 = .ok (.goto (-34), 3) := by decide +kernel
theorem dX0_countStuck_42 : decode cX0_countStuck 42 = .ok (.iload_n 3, 1) := by decide +kernel
theorem dX0_countStuck_43 : decode cX0_countStuck 43 = .ok (.ireturn, 1) := by decide +kernel
set_option maxRecDepth 20000 in
theorem ggX0_isStuck_X1_waits : GoodIn wsX0_isStuck wsX1_waits := goodIn_r _ [7, 8, 9, 10, 11, 6, 12, 13, 14, 15, 16, 17, 18, 19, 20, 21, 22, 23, 24, 25, 26, 27, 32] (by decide +kernel) (by decide +kernel)
set_option maxRecDepth 20000 in
theorem gX0_isStuck_X1_waits : GoodIn wsX0_isStuck (wsV RX0 60 RX1 yX1_waits wsX1_waits) := goodIn_app (goodIn_of _ (by decide +kernel)) ggX0_isStuck_X1_waits
theorem dX0_isStuck_0 : decode cX0_isStuck 0 = .ok (.aload_n 0, 1) := by decide +kernel
theorem dX0_isStuck_1 : decode cX0_isStuck 1 = .ok (.getfield 13, 3) := by decide +kernel
theorem dX0_isStuck_4 : decode cX0_isStuck 4 = .ok (.iload_n 1, 1) := by decide +kernel
theorem dX0_isStuck_5 : decode cX0_isStuck 5 = .ok (.aaload, 1) := by decide +kernel
theorem dX0_isStuck_6 : decode cX0_isStuck 6 = .ok (.astore 4, 2) := by decide +kernel
theorem dX0_isStuck_8 : decode cX0_isStuck 8 = .ok (.aload 4, 2) := by decide +kernel
theorem dX0_isStuck_10 : decode cX0_isStuck 10 = .ok (.ifnull 13, 3) := by decide +kernel
theorem dX0_isStuck_13 : decode cX0_isStuck 13 = .ok (.aload_n 0, 1) := by decide +kernel
theorem dX0_isStuck_14 : decode cX0_isStuck 14 = .ok (.getfield 17, 3) := by decide +kernel
theorem dX0_isStuck_17 : decode cX0_isStuck 17 = .ok (.iload_n 1, 1) := by decide +kernel
theorem dX0_isStuck_18 : decode cX0_isStuck 18 = .ok (.iaload, 1) := by decide +kernel
theorem dX0_isStuck_19 : decode cX0_isStuck 19 = .ok (.iconst 3, 1) := by decide +kernel
theorem dX0_isStuck_20 : decode cX0_isStuck 20 = .ok (.if_icmp .ne 5, 3) := by decide +kernel
theorem dX0_isStuck_23 : decode cX0_isStuck 23 = .ok (.iconst 0, 1) := by decide +kernel
theorem dX0_isStuck_24 : decode cX0_isStuck 24 = .ok (.ireturn, 1) := by decide +kernel
theorem dX0_isStuck_25 : decode cX0_isStuck 25 = .ok (.aload_n 0, 1) := by decide +kernel
theorem dX0_isStuck_26 : decode cX0_isStuck 26 = .ok (.getfield 17, 3) := by decide +kernel
theorem dX0_isStuck_29 : decode cX0_isStuck 29 = .ok (.iload_n 1, 1) := by decide +kernel
theorem dX0_isStuck_30 : decode cX0_isStuck 30 = .ok (.iaload, 1) := by decide +kernel
theorem dX0_isStuck_31 : decode cX0_isStuck 31 = .ok (.iconst 1, 1) := by decide +kernel
theorem dX0_isStuck_32 : decode cX0_isStuck 32 = .ok (.iand, 1) := by decide +kernel
theorem dX0_isStuck_33 : decode cX0_isStuck 33 = .ok (.ifCond .ne 12, 3) := by decide +kernel
theorem dX0_isStuck_36 : decode cX0_isStuck 36 = .ok (.aload 4, 2) := by decide +kernel
theorem dX0_isStuck_38 : decode cX0_isStuck 38 = .ok (.iload_n 2, 1) := by decide +kernel
theorem dX0_isStuck_39 : decode cX0_isStuck 39 = .ok (.invokevirtual 60, 3) := by decide +kernel
theorem dX0_isStuck_42 : decode cX0_isStuck 42 = .ok (.ifCond .eq 7, 3) := by decide +kernel
theorem dX0_isStuck_45 : decode cX0_isStuck 45 = .ok (.iconst 1, 1) := by decide +kernel
theorem dX0_isStuck_46 : decode cX0_isStuck 46 = .ok (.goto 4, 3) := by decide +kernel
theorem dX0_isStuck_49 : decode cX0_isStuck 49 = .ok (.iconst 0, 1) := by decide +kernel
theorem dX0_isStuck_50 : decode cX0_isStuck 50 = .ok (.istore 5, 2) := by decide +kernel
theorem dX0_isStuck_52 : decode cX0_isStuck 52 = .ok (.aload_n 0, 1) := by decide +kernel
theorem dX0_isStuck_53 : decode cX0_isStuck 53 = .ok (.getfield 17, 3) := by decide +kernel
theorem dX0_isStuck_56 : decode cX0_isStuck 56 = .ok (.iload_n 1, 1) := by decide +kernel
theorem dX0_isStuck_57 : decode cX0_isStuck 57 = .ok (.iaload, 1) := by decide +kernel
theorem dX0_isStuck_58 : decode cX0_isStuck 58 = .ok (.iconst 2, 1) := by decide +kernel
theorem dX0_isStuck_59 : decode cX0_isStuck 59 = .ok (.iand, 1) := by decide +kernel
theorem dX0_isStuck_60 : decode cX0_isStuck 60 = .ok (.ifCond .ne 12, 3) := by decide +kernel
theorem dX0_isStuck_63 : decode cX0_isStuck 63 = .ok (.aload 4, 2) := by decide +kernel
theorem dX0_isStuck_65 : decode cX0_isStuck 65 = .ok (.iload_n 3, 1) := by decide +kernel
theorem dX0_isStuck_66 : decode cX0_isStuck 66 = .ok (.invokevirtual 60, 3) := by decide +kernel
theorem dX0_isStuck_69 : decode cX0_isStuck 69 = .ok (.ifCond .eq 7, 3) := by decide +kernel
theorem dX0_isStuck_72 : decode cX0_isStuck 72 = .ok (.iconst 1, 1) := by decide +kernel
theorem dX0_isStuck_73 : decode cX0_isStuck 73 = .ok (.goto 4, 3) := by decide +kernel
theorem dX0_isStuck_76 : decode cX0_isStuck 76 = .ok (.iconst 0, 1) := by decide +kernel
theorem dX0_isStuck_77 : decode cX0_isStuck 77 = .ok (.istore 6, 2) := by decide +kernel
theorem dX0_isStuck_79 : decode cX0_isStuck 79 = .ok (.iload 5, 2) := by decide +kernel
theorem dX0_isStuck_81 : decode cX0_isStuck 81 = .ok (.ifCond .eq 12, 3) := by decide +kernel
theorem dX0_isStuck_84 : decode cX0_isStuck 84 = .ok (.iload 6, 2) := by decide +kernel
theorem dX0_isStuck_86 : decode cX0_isStuck 86 = .ok (.ifCond .eq 7, 3) := by decide +kernel
theorem dX0_isStuck_89 : decode cX0_isStuck 89 = .ok (.iconst 1, 1) := by decide +kernel
theorem dX0_isStuck_90 : decode cX0_isStuck 90 = .ok (.goto 4, 3) := by decide +kernel
theorem dX0_isStuck_93 : decode cX0_isStuck 93 = .ok (.iconst 0, 1) := by decide +kernel
theorem dX0_isStuck_94 : decode cX0_isStuck 94 = .ok (.ireturn, 1) := by decide +kernel
set_option maxRecDepth 20000 in
theorem ggX1_init_X1_reset : GoodIn wsX1_init wsX1_reset := goodIn_r _ [10, 5, 11] (by decide +kernel) (by decide +kernel)
set_option maxRecDepth 20000 in
theorem gX1_init_X1_reset : GoodIn wsX1_init (wsV RX1 15 RX1 yX1_reset wsX1_reset) := goodIn_app (goodIn_of _ (by decide +kernel)) ggX1_init_X1_reset
theorem dX1_init_0 : decode cX1_init 0 = .ok (.aload_n 0, 1) := by decide +kernel
theorem dX1_init_1 : decode cX1_init 1 = .ok (.invokespecial 5, 3) := by decide +kernel
theorem dX1_init_4 : decode cX1_init 4 = .ok (.aload_n 0, 1) := by decide +kernel
theorem dX1_init_5 : decode cX1_init 5 = .ok (.bipush 54, 2) := by decide +kernel
theorem dX1_init_7 : decode cX1_init 7 = .ok (.newarray .int, 2) := by decide +kernel
theorem dX1_init_9 : decode cX1_init 9 = .ok (.putfield 11, 3) := by decide +kernel
theorem dX1_init_12 : decode cX1_init 12 = .ok (.aload_n 0, 1) := by decide +kernel
theorem dX1_init_13 : decode cX1_init 13 = .ok (.iconst 0, 1) := by decide +kernel
theorem dX1_init_14 : decode cX1_init 14 = .ok (.invokevirtual 15, 3) := by decide +kernel
theorem dX1_init_17 : decode cX1_init 17 = .ok (.return_, 1) := by decide +kernel
theorem dX1_reset_0 : decode cX1_reset 0 = .ok (.iconst 0, 1) := by decide +kernel
theorem dX1_reset_1 : decode cX1_reset 1 = .ok (.istore_n 2, 1) := by decide +kernel
theorem dX1_reset_2 : decode cX1_reset 2 = .ok (.iload_n 2, 1) := by decide +kernel
theorem dX1_reset_3 : decode cX1_reset 3 = .ok (.bipush 6, 2) := by decide +kernel
theorem dX1_reset_5 : decode cX1_reset 5 = .ok (.if_icmp .ge 92, 3) := by decide +kernel
theorem dX1_reset_8 : decode cX1_reset 8 = .ok (.aload_n 0, 1) := by decide +kernel
theorem dX1_reset_9 : decode cX1_reset 9 = .ok (.getfield 11, 3) := by decide +kernel
theorem dX1_reset_12 : decode cX1_reset 12 = .ok (.iconst 0, 1) := by decide +kernel
theorem dX1_reset_13 : decode cX1_reset 13 = .ok (.iload_n 2, 1) := by decide +kernel
theorem dX1_reset_14 : decode cX1_reset 14 = .ok (.iadd, 1) := by decide +kernel
theorem dX1_reset_15 : decode cX1_reset 15 = .ok (.iconst 0, 1) := by decide +kernel
theorem dX1_reset_16 : decode cX1_reset 16 = .ok (.iastore, 1) := by decide +kernel
theorem dX1_reset_17 : decode cX1_reset 17 = .ok (.aload_n 0, 1) := by decide +kernel
theorem dX1_reset_18 : decode cX1_reset 18 = .ok (.getfield 11, 3) := by decide +kernel
theorem dX1_reset_21 : decode cX1_reset 21 = .ok (.bipush 6, 2) := by decide +kernel
theorem dX1_reset_23 : decode cX1_reset 23 = .ok (.iload_n 2, 1) := by decide +kernel
theorem dX1_reset_24 : decode cX1_reset 24 = .ok (.iadd, 1) := by decide +kernel
theorem dX1_reset_25 : decode cX1_reset 25 = .ok (.bipush (-5), 2) := by decide +kernel
theorem dX1_reset_27 : decode cX1_reset 27 = .ok (.iastore, 1) := by decide +kernel
theorem dX1_reset_28 : decode cX1_reset 28 = .ok (.aload_n 0, 1) := by decide +kernel
theorem dX1_reset_29 : decode cX1_reset 29 = .ok (.getfield 11, 3) := by decide +kernel
theorem dX1_reset_32 : decode cX1_reset 32 = .ok (.bipush 12, 2) := by decide +kernel
theorem dX1_reset_34 : decode cX1_reset 34 = .ok (.iload_n 2, 1) := by decide +kernel
theorem dX1_reset_35 : decode cX1_reset 35 = .ok (.iadd, 1) := by decide +kernel
theorem dX1_reset_36 : decode cX1_reset 36 = .ok (.iconst 0, 1) := by decide +kernel
theorem dX1_reset_37 : decode cX1_reset 37 = .ok (.iastore, 1) := by decide +kernel
theorem dX1_reset_38 : decode cX1_reset 38 = .ok (.aload_n 0, 1) := by decide +kernel
theorem dX1_reset_39 : decode cX1_reset 39 = .ok (.getfield 11, 3) := by decide +kernel
theorem dX1_reset_42 : decode cX1_reset 42 = .ok (.bipush 18, 2) := by decide +kernel
theorem dX1_reset_44 : decode cX1_reset 44 = .ok (.iload_n 2, 1) := by decide +kernel
theorem dX1_reset_45 : decode cX1_reset 45 = .ok (.iadd, 1) := by decide +kernel
theorem dX1_reset_46 : decode cX1_reset 46 = .ok (.bipush (-5), 2) := by decide +kernel
theorem dX1_reset_48 : decode cX1_reset 48 = .ok (.iastore, 1) := by decide +kernel
theorem dX1_reset_49 : decode cX1_reset 49 = .ok (.aload_n 0, 1) := by decide +kernel
theorem dX1_reset_50 : decode cX1_reset 50 = .ok (.getfield 11, 3) := by decide +kernel
theorem dX1_reset_53 : decode cX1_reset 53 = .ok (.bipush 24, 2) := by decide +kernel
theorem dX1_reset_55 : decode cX1_reset 55 = .ok (.iload_n 2, 1) := by decide +kernel
theorem dX1_reset_56 : decode cX1_reset 56 = .ok (.iadd, 1) := by decide +kernel
theorem dX1_reset_57 : decode cX1_reset 57 = .ok (.iload_n 1, 1) := by decide +kernel
theorem dX1_reset_58 : decode cX1_reset 58 = .ok (.iconst 1, 1) := by decide +kernel
theorem dX1_reset_59 : decode cX1_reset 59 = .ok (.if_icmp .ne 7, 3) := by decide +kernel
theorem dX1_reset_62 : decode cX1_reset 62 = .ok (.iload_n 2, 1) := by decide +kernel
theorem dX1_reset_63 : decode cX1_reset 63 = .ok (.goto 5, 3) := by decide +kernel
theorem dX1_reset_66 : decode cX1_reset 66 = .ok (.bipush (-5), 2) := by decide +kernel
theorem dX1_reset_68 : decode cX1_reset 68 = .ok (.iastore, 1) := by decide +kernel
theorem dX1_reset_69 : decode cX1_reset 69 = .ok (.aload_n 0, 1) := by decide +kernel
theorem dX1_reset_70 : decode cX1_reset 70 = .ok (.getfield 11, 3) := by decide +kernel
theorem dX1_reset_73 : decode cX1_reset 73 = .ok (.bipush 30, 2) := by decide +kernel
theorem dX1_reset_75 : decode cX1_reset 75 = .ok (.iload_n 2, 1) := by decide +kernel
theorem dX1_reset_76 : decode cX1_reset 76 = .ok (.iadd, 1) := by decide +kernel
theorem dX1_reset_77 : decode cX1_reset 77 = .ok (.bipush (-5), 2) := by decide +kernel
theorem dX1_reset_79 : decode cX1_reset 79 = .ok (.iastore, 1) := by decide +kernel
theorem dX1_reset_80 : decode cX1_reset 80 = .ok (.aload_n 0, 1) := by decide +kernel
theorem dX1_reset_81 : decode cX1_reset 81 = .ok (.getfield 11, 3) := by decide +kernel
theorem dX1_reset_84 : decode cX1_reset 84 = .ok (.bipush 36, 2) := by decide +kernel
theorem dX1_reset_86 : decode cX1_reset 86 = .ok (.iload_n 2, 1) := by decide +kernel
theorem dX1_reset_87 : decode cX1_reset 87 = .ok (.iadd, 1) := by decide +kernel
theorem dX1_reset_88 : decode cX1_reset 88 = .ok (.bipush (-5), 2) := by decide +kernel
theorem dX1_reset_90 : decode cX1_reset 90 = .ok (.iastore, 1) := by decide +kernel
theorem dX1_reset_91 : decode cX1_reset 91 = .ok (.iinc 2 1, 3) := by decide +kernel
theorem dX1_reset_94 : decode cX1_reset 94 = .ok (.goto (-92), 3) := by decide +kernel
theorem dX1_reset_97 : decode cX1_reset 97 = .ok (.iconst 0, 1) := by decide +kernel
theorem dX1_reset_98 : decode cX1_reset 98 = .ok (.istore_n 2, 1) := by decide +kernel
theorem dX1_reset_99 : decode cX1_reset 99 = .ok (.iload_n 2, 1) := by decide +kernel
theorem dX1_reset_100 : decode cX1_reset 100 = .ok (.bipush 7, 2) := by decide +kernel
theorem dX1_reset_102 : decode cX1_reset 102 = .ok (.if_icmp .ge 19, 3) := by decide +kernel
theorem dX1_reset_105 : decode cX1_reset 105 = .ok (.aload_n 0, 1) := by decide +kernel
theorem dX1_reset_106 : decode cX1_reset 106 = .ok (.getfield 11, 3) := by decide +kernel
theorem dX1_reset_109 : decode cX1_reset 109 = .ok (.bipush 42, 2) := by decide +kernel
theorem dX1_reset_111 : decode cX1_reset 111 = .ok (.iload_n 2, 1) := by decide +kernel
theorem dX1_reset_112 : decode cX1_reset 112 = .ok (.iadd, 1) := by decide +kernel
theorem dX1_reset_113 : decode cX1_reset 113 = .ok (.iconst 0, 1) := by decide +kernel
theorem dX1_reset_114 : decode cX1_reset 114 = .ok (.iastore, 1) := by decide +kernel
theorem dX1_reset_115 : decode cX1_reset 115 = .ok (.iinc 2 1, 3) := by decide +kernel
theorem dX1_reset_118 : decode cX1_reset 118 = .ok (.goto (-19), 3) := by decide +kernel
theorem dX1_reset_121 : decode cX1_reset 121 = .ok (.aload_n 0, 1) := by decide +kernel
theorem dX1_reset_122 : decode cX1_reset 122 = .ok (.getfield 11, 3) := by decide +kernel
theorem dX1_reset_125 : decode cX1_reset 125 = .ok (.bipush 49, 2) := by decide +kernel
theorem dX1_reset_127 : decode cX1_reset 127 = .ok (.iload_n 1, 1) := by decide +kernel
theorem dX1_reset_128 : decode cX1_reset 128 = .ok (.iconst 1, 1) := by decide +kernel
theorem dX1_reset_129 : decode cX1_reset 129 = .ok (.if_icmp .ne 8, 3) := by decide +kernel
theorem dX1_reset_132 : decode cX1_reset 132 = .ok (.bipush 6, 2) := by decide +kernel
theorem dX1_reset_134 : decode cX1_reset 134 = .ok (.goto 5, 3) := by decide +kernel
theorem dX1_reset_137 : decode cX1_reset 137 = .ok (.bipush (-5), 2) := by decide +kernel
theorem dX1_reset_139 : decode cX1_reset 139 = .ok (.iastore, 1) := by decide +kernel
theorem dX1_reset_140 : decode cX1_reset 140 = .ok (.aload_n 0, 1) := by decide +kernel
theorem dX1_reset_141 : decode cX1_reset 141 = .ok (.getfield 11, 3) := by decide +kernel
theorem dX1_reset_144 : decode cX1_reset 144 = .ok (.bipush 50, 2) := by decide +kernel
theorem dX1_reset_146 : decode cX1_reset 146 = .ok (.iconst 0, 1) := by decide +kernel
theorem dX1_reset_147 : decode cX1_reset 147 = .ok (.iastore, 1) := by decide +kernel
theorem dX1_reset_148 : decode cX1_reset 148 = .ok (.aload_n 0, 1) := by decide +kernel
theorem dX1_reset_149 : decode cX1_reset 149 = .ok (.getfield 11, 3) := by decide +kernel
theorem dX1_reset_152 : decode cX1_reset 152 = .ok (.bipush 51, 2) := by decide +kernel
theorem dX1_reset_154 : decode cX1_reset 154 = .ok (.iconst 0, 1) := by decide +kernel
theorem dX1_reset_155 : decode cX1_reset 155 = .ok (.iastore, 1) := by decide +kernel
theorem dX1_reset_156 : decode cX1_reset 156 = .ok (.aload_n 0, 1) := by decide +kernel
theorem dX1_reset_157 : decode cX1_reset 157 = .ok (.getfield 11, 3) := by decide +kernel
theorem dX1_reset_160 : decode cX1_reset 160 = .ok (.bipush 52, 2) := by decide +kernel
theorem dX1_reset_162 : decode cX1_reset 162 = .ok (.iconst 0, 1) := by decide +kernel
theorem dX1_reset_163 : decode cX1_reset 163 = .ok (.iastore, 1) := by decide +kernel
theorem dX1_reset_164 : decode cX1_reset 164 = .ok (.aload_n 0, 1) := by decide +kernel
theorem dX1_reset_165 : decode cX1_reset 165 = .ok (.getfield 11, 3) := by decide +kernel
theorem dX1_reset_168 : decode cX1_reset 168 = .ok (.bipush 53, 2) := by decide +kernel
theorem dX1_reset_170 : decode cX1_reset 170 = .ok (.iload_n 1, 1) := by decide +kernel
theorem dX1_reset_171 : decode cX1_reset 171 = .ok (.iastore, 1) := by decide +kernel
theorem dX1_reset_172 : decode cX1_reset 172 = .ok (.return_, 1) := by decide +kernel
theorem dX1_copyFrom_0 : decode cX1_copyFrom 0 = .ok (.aload_n 1, 1) := by decide +kernel
theorem dX1_copyFrom_1 : decode cX1_copyFrom 1 = .ok (.getfield 11, 3) := by decide +kernel
theorem dX1_copyFrom_4 : decode cX1_copyFrom 4 = .ok (.iconst 0, 1) := by decide +kernel
theorem dX1_copyFrom_5 : decode cX1_copyFrom 5 = .ok (.aload_n 0, 1) := by decide +kernel
theorem dX1_copyFrom_6 : decode cX1_copyFrom 6 = .ok (.getfield 11, 3) := by decide +kernel
theorem dX1_copyFrom_9 : decode cX1_copyFrom 9 = .ok (.iconst 0, 1) := by decide +kernel
theorem dX1_copyFrom_10 : decode cX1_copyFrom 10 = .ok (.bipush 54, 2) := by decide +kernel
theorem dX1_copyFrom_12 : decode cX1_copyFrom 12 = .ok (.invokestatic 19, 3) := by decide +kernel
theorem dX1_copyFrom_15 : decode cX1_copyFrom 15 = .ok (.return_, 1) := by decide +kernel
theorem dX1_sameAs_0 : decode cX1_sameAs 0 = .ok (.iconst 0, 1) := by decide +kernel
theorem dX1_sameAs_1 : decode cX1_sameAs 1 = .ok (.istore_n 2, 1) := by decide +kernel
theorem dX1_sameAs_2 : decode cX1_sameAs 2 = .ok (.iload_n 2, 1) := by decide +kernel
theorem dX1_sameAs_3 : decode cX1_sameAs 3 = .ok (.bipush 54, 2) := by decide +kernel
theorem dX1_sameAs_5 : decode cX1_sameAs 5 = .ok (.if_icmp .ge 26, 3) := by decide +kernel
theorem dX1_sameAs_8 : decode cX1_sameAs 8 = .ok (.aload_n 0, 1) := by decide +kernel
theorem dX1_sameAs_9 : decode cX1_sameAs 9 = .ok (.getfield 11, 3) := by decide +kernel
theorem dX1_sameAs_12 : decode cX1_sameAs 12 = .ok (.iload_n 2, 1) := by decide +kernel
theorem dX1_sameAs_13 : decode cX1_sameAs 13 = .ok (.iaload, 1) := by decide +kernel
theorem dX1_sameAs_14 : decode cX1_sameAs 14 = .ok (.aload_n 1, 1) := by decide +kernel
theorem dX1_sameAs_15 : decode cX1_sameAs 15 = .ok (.getfield 11, 3) := by decide +kernel
theorem dX1_sameAs_18 : decode cX1_sameAs 18 = .ok (.iload_n 2, 1) := by decide +kernel
theorem dX1_sameAs_19 : decode cX1_sameAs 19 = .ok (.iaload, 1) := by decide +kernel
theorem dX1_sameAs_20 : decode cX1_sameAs 20 = .ok (.if_icmp .eq 5, 3) := by decide +kernel
theorem dX1_sameAs_23 : decode cX1_sameAs 23 = .ok (.iconst 0, 1) := by decide +kernel
theorem dX1_sameAs_24 : decode cX1_sameAs 24 = .ok (.ireturn, 1) := by decide +kernel
theorem dX1_sameAs_25 : decode cX1_sameAs 25 = .ok (.iinc 2 1, 3) := by decide +kernel
theorem dX1_sameAs_28 : decode cX1_sameAs 28 = .ok (.goto (-26), 3) := by decide +kernel
theorem dX1_sameAs_31 : decode cX1_sameAs 31 = .ok (.iconst 1, 1) := by decide +kernel
theorem dX1_sameAs_32 : decode cX1_sameAs 32 = .ok (.ireturn, 1) := by decide +kernel
theorem dX1_kind_0 : decode cX1_kind 0 = .ok (.aload_n 0, 1) := by decide +kernel
theorem dX1_kind_1 : decode cX1_kind 1 = .ok (.getfield 11, 3) := by decide +kernel
theorem dX1_kind_4 : decode cX1_kind 4 = .ok (.bipush 53, 2) := by decide +kernel
theorem dX1_kind_6 : decode cX1_kind 6 = .ok (.iaload, 1) := by decide +kernel
theorem dX1_kind_7 : decode cX1_kind 7 = .ok (.ireturn, 1) := by decide +kernel
theorem dX1_stage_0 : decode cX1_stage 0 = .ok (.aload_n 0, 1) := by decide +kernel
theorem dX1_stage_1 : decode cX1_stage 1 = .ok (.getfield 11, 3) := by decide +kernel
theorem dX1_stage_4 : decode cX1_stage 4 = .ok (.iconst 0, 1) := by decide +kernel
theorem dX1_stage_5 : decode cX1_stage 5 = .ok (.iload_n 1, 1) := by decide +kernel
theorem dX1_stage_6 : decode cX1_stage 6 = .ok (.iadd, 1) := by decide +kernel
theorem dX1_stage_7 : decode cX1_stage 7 = .ok (.iaload, 1) := by decide +kernel
theorem dX1_stage_8 : decode cX1_stage 8 = .ok (.ireturn, 1) := by decide +kernel
theorem dX1_nextOf_0 : decode cX1_nextOf 0 = .ok (.aload_n 0, 1) := by decide +kernel
theorem dX1_nextOf_1 : decode cX1_nextOf 1 = .ok (.getfield 11, 3) := by decide +kernel
theorem dX1_nextOf_4 : decode cX1_nextOf 4 = .ok (.bipush 6, 2) := by decide +kernel
theorem dX1_nextOf_6 : decode cX1_nextOf 6 = .ok (.iload_n 1, 1) := by decide +kernel
theorem dX1_nextOf_7 : decode cX1_nextOf 7 = .ok (.iadd, 1) := by decide +kernel
theorem dX1_nextOf_8 : decode cX1_nextOf 8 = .ok (.iaload, 1) := by decide +kernel
theorem dX1_nextOf_9 : decode cX1_nextOf 9 = .ok (.ireturn, 1) := by decide +kernel
set_option maxRecDepth 20000 in
theorem ggX1_aheadOf_X1_kind : GoodIn wsX1_aheadOf wsX1_kind := goodIn_r _ [6, 1, 7] (by decide +kernel) (by decide +kernel)
set_option maxRecDepth 20000 in
theorem gX1_aheadOf_X1_kind : GoodIn wsX1_aheadOf (wsV RX1 25 RX1 yX1_kind wsX1_kind) := goodIn_app (goodIn_of _ (by decide +kernel)) ggX1_aheadOf_X1_kind
theorem dX1_aheadOf_0 : decode cX1_aheadOf 0 = .ok (.aload_n 0, 1) := by decide +kernel
theorem dX1_aheadOf_1 : decode cX1_aheadOf 1 = .ok (.invokevirtual 25, 3) := by decide +kernel
theorem dX1_aheadOf_4 : decode cX1_aheadOf 4 = .ok (.iconst 1, 1) := by decide +kernel
theorem dX1_aheadOf_5 : decode cX1_aheadOf 5 = .ok (.if_icmp .ne 15, 3) := by decide +kernel
theorem dX1_aheadOf_8 : decode cX1_aheadOf 8 = .ok (.aload_n 0, 1) := by decide +kernel
theorem dX1_aheadOf_9 : decode cX1_aheadOf 9 = .ok (.getfield 11, 3) := by decide +kernel
theorem dX1_aheadOf_12 : decode cX1_aheadOf 12 = .ok (.bipush 30, 2) := by decide +kernel
theorem dX1_aheadOf_14 : decode cX1_aheadOf 14 = .ok (.iload_n 1, 1) := by decide +kernel
theorem dX1_aheadOf_15 : decode cX1_aheadOf 15 = .ok (.iadd, 1) := by decide +kernel
theorem dX1_aheadOf_16 : decode cX1_aheadOf 16 = .ok (.iaload, 1) := by decide +kernel
theorem dX1_aheadOf_17 : decode cX1_aheadOf 17 = .ok (.goto 12, 3) := by decide +kernel
theorem dX1_aheadOf_20 : decode cX1_aheadOf 20 = .ok (.aload_n 0, 1) := by decide +kernel
theorem dX1_aheadOf_21 : decode cX1_aheadOf 21 = .ok (.getfield 11, 3) := by decide +kernel
theorem dX1_aheadOf_24 : decode cX1_aheadOf 24 = .ok (.bipush 18, 2) := by decide +kernel
theorem dX1_aheadOf_26 : decode cX1_aheadOf 26 = .ok (.iload_n 1, 1) := by decide +kernel
theorem dX1_aheadOf_27 : decode cX1_aheadOf 27 = .ok (.iadd, 1) := by decide +kernel
theorem dX1_aheadOf_28 : decode cX1_aheadOf 28 = .ok (.iaload, 1) := by decide +kernel
theorem dX1_aheadOf_29 : decode cX1_aheadOf 29 = .ok (.ireturn, 1) := by decide +kernel
theorem dX1_ownCard_0 : decode cX1_ownCard 0 = .ok (.aload_n 0, 1) := by decide +kernel
theorem dX1_ownCard_1 : decode cX1_ownCard 1 = .ok (.getfield 11, 3) := by decide +kernel
theorem dX1_ownCard_4 : decode cX1_ownCard 4 = .ok (.bipush 24, 2) := by decide +kernel
theorem dX1_ownCard_6 : decode cX1_ownCard 6 = .ok (.iload_n 1, 1) := by decide +kernel
theorem dX1_ownCard_7 : decode cX1_ownCard 7 = .ok (.iadd, 1) := by decide +kernel
theorem dX1_ownCard_8 : decode cX1_ownCard 8 = .ok (.iaload, 1) := by decide +kernel
theorem dX1_ownCard_9 : decode cX1_ownCard 9 = .ok (.ireturn, 1) := by decide +kernel
theorem dX1_ticket_0 : decode cX1_ticket 0 = .ok (.aload_n 0, 1) := by decide +kernel
theorem dX1_ticket_1 : decode cX1_ticket 1 = .ok (.getfield 11, 3) := by decide +kernel
theorem dX1_ticket_4 : decode cX1_ticket 4 = .ok (.bipush 36, 2) := by decide +kernel
theorem dX1_ticket_6 : decode cX1_ticket 6 = .ok (.iload_n 1, 1) := by decide +kernel
theorem dX1_ticket_7 : decode cX1_ticket 7 = .ok (.iadd, 1) := by decide +kernel
theorem dX1_ticket_8 : decode cX1_ticket 8 = .ok (.iaload, 1) := by decide +kernel
theorem dX1_ticket_9 : decode cX1_ticket 9 = .ok (.ireturn, 1) := by decide +kernel
set_option maxRecDepth 20000 in
theorem ggX1_flagOf_X1_kind : GoodIn wsX1_flagOf wsX1_kind := goodIn_r _ [6, 1, 7] (by decide +kernel) (by decide +kernel)
set_option maxRecDepth 20000 in
theorem gX1_flagOf_X1_kind : GoodIn wsX1_flagOf (wsV RX1 25 RX1 yX1_kind wsX1_kind) := goodIn_app (goodIn_of _ (by decide +kernel)) ggX1_flagOf_X1_kind
theorem dX1_flagOf_0 : decode cX1_flagOf 0 = .ok (.aload_n 0, 1) := by decide +kernel
theorem dX1_flagOf_1 : decode cX1_flagOf 1 = .ok (.invokevirtual 25, 3) := by decide +kernel
theorem dX1_flagOf_4 : decode cX1_flagOf 4 = .ok (.ifCond .ne 15, 3) := by decide +kernel
theorem dX1_flagOf_7 : decode cX1_flagOf 7 = .ok (.aload_n 0, 1) := by decide +kernel
theorem dX1_flagOf_8 : decode cX1_flagOf 8 = .ok (.getfield 11, 3) := by decide +kernel
theorem dX1_flagOf_11 : decode cX1_flagOf 11 = .ok (.bipush 12, 2) := by decide +kernel
theorem dX1_flagOf_13 : decode cX1_flagOf 13 = .ok (.iload_n 1, 1) := by decide +kernel
theorem dX1_flagOf_14 : decode cX1_flagOf 14 = .ok (.iadd, 1) := by decide +kernel
theorem dX1_flagOf_15 : decode cX1_flagOf 15 = .ok (.iaload, 1) := by decide +kernel
theorem dX1_flagOf_16 : decode cX1_flagOf 16 = .ok (.goto 5, 3) := by decide +kernel
theorem dX1_flagOf_19 : decode cX1_flagOf 19 = .ok (.bipush (-5), 2) := by decide +kernel
theorem dX1_flagOf_21 : decode cX1_flagOf 21 = .ok (.ireturn, 1) := by decide +kernel
set_option maxRecDepth 20000 in
theorem ggX1_cardFlag_X4_isCard : GoodIn wsX1_cardFlag wsX4_isCard := goodIn_r _ [4] (by decide +kernel) (by decide +kernel)
set_option maxRecDepth 20000 in
theorem gX1_cardFlag_X4_isCard_n29 : GoodIn wsX1_cardFlag (wsX4_isCard) := ggX1_cardFlag_X4_isCard
theorem dX1_cardFlag_0 : decode cX1_cardFlag 0 = .ok (.iload_n 1, 1) := by decide +kernel
theorem dX1_cardFlag_1 : decode cX1_cardFlag 1 = .ok (.invokestatic 29, 3) := by decide +kernel
theorem dX1_cardFlag_4 : decode cX1_cardFlag 4 = .ok (.ifCond .eq 15, 3) := by decide +kernel
theorem dX1_cardFlag_7 : decode cX1_cardFlag 7 = .ok (.aload_n 0, 1) := by decide +kernel
theorem dX1_cardFlag_8 : decode cX1_cardFlag 8 = .ok (.getfield 11, 3) := by decide +kernel
theorem dX1_cardFlag_11 : decode cX1_cardFlag 11 = .ok (.bipush 42, 2) := by decide +kernel
theorem dX1_cardFlag_13 : decode cX1_cardFlag 13 = .ok (.iload_n 1, 1) := by decide +kernel
theorem dX1_cardFlag_14 : decode cX1_cardFlag 14 = .ok (.iadd, 1) := by decide +kernel
theorem dX1_cardFlag_15 : decode cX1_cardFlag 15 = .ok (.iaload, 1) := by decide +kernel
theorem dX1_cardFlag_16 : decode cX1_cardFlag 16 = .ok (.goto 5, 3) := by decide +kernel
theorem dX1_cardFlag_19 : decode cX1_cardFlag 19 = .ok (.bipush (-5), 2) := by decide +kernel
theorem dX1_cardFlag_21 : decode cX1_cardFlag 21 = .ok (.ireturn, 1) := by decide +kernel
theorem dX1_tail_0 : decode cX1_tail 0 = .ok (.aload_n 0, 1) := by decide +kernel
theorem dX1_tail_1 : decode cX1_tail 1 = .ok (.getfield 11, 3) := by decide +kernel
theorem dX1_tail_4 : decode cX1_tail 4 = .ok (.bipush 49, 2) := by decide +kernel
theorem dX1_tail_6 : decode cX1_tail 6 = .ok (.iaload, 1) := by decide +kernel
theorem dX1_tail_7 : decode cX1_tail 7 = .ok (.ireturn, 1) := by decide +kernel
set_option maxRecDepth 20000 in
theorem ggX1_given_X1_kind : GoodIn wsX1_given wsX1_kind := goodIn_r _ [6, 1, 7] (by decide +kernel) (by decide +kernel)
set_option maxRecDepth 20000 in
theorem gX1_given_X1_kind : GoodIn wsX1_given (wsV RX1 25 RX1 yX1_kind wsX1_kind) := goodIn_app (goodIn_of _ (by decide +kernel)) ggX1_given_X1_kind
theorem dX1_given_0 : decode cX1_given 0 = .ok (.aload_n 0, 1) := by decide +kernel
theorem dX1_given_1 : decode cX1_given 1 = .ok (.invokevirtual 25, 3) := by decide +kernel
theorem dX1_given_4 : decode cX1_given 4 = .ok (.iconst 2, 1) := by decide +kernel
theorem dX1_given_5 : decode cX1_given 5 = .ok (.if_icmp .ne 13, 3) := by decide +kernel
theorem dX1_given_8 : decode cX1_given 8 = .ok (.aload_n 0, 1) := by decide +kernel
theorem dX1_given_9 : decode cX1_given 9 = .ok (.getfield 11, 3) := by decide +kernel
theorem dX1_given_12 : decode cX1_given 12 = .ok (.bipush 50, 2) := by decide +kernel
theorem dX1_given_14 : decode cX1_given 14 = .ok (.iaload, 1) := by decide +kernel
theorem dX1_given_15 : decode cX1_given 15 = .ok (.goto 5, 3) := by decide +kernel
theorem dX1_given_18 : decode cX1_given 18 = .ok (.bipush (-5), 2) := by decide +kernel
theorem dX1_given_20 : decode cX1_given 20 = .ok (.ireturn, 1) := by decide +kernel
set_option maxRecDepth 20000 in
theorem ggX1_served_X1_kind : GoodIn wsX1_served wsX1_kind := goodIn_r _ [6, 1, 7] (by decide +kernel) (by decide +kernel)
set_option maxRecDepth 20000 in
theorem gX1_served_X1_kind : GoodIn wsX1_served (wsV RX1 25 RX1 yX1_kind wsX1_kind) := goodIn_app (goodIn_of _ (by decide +kernel)) ggX1_served_X1_kind
theorem dX1_served_0 : decode cX1_served 0 = .ok (.aload_n 0, 1) := by decide +kernel
theorem dX1_served_1 : decode cX1_served 1 = .ok (.invokevirtual 25, 3) := by decide +kernel
theorem dX1_served_4 : decode cX1_served 4 = .ok (.iconst 2, 1) := by decide +kernel
theorem dX1_served_5 : decode cX1_served 5 = .ok (.if_icmp .ne 13, 3) := by decide +kernel
theorem dX1_served_8 : decode cX1_served 8 = .ok (.aload_n 0, 1) := by decide +kernel
theorem dX1_served_9 : decode cX1_served 9 = .ok (.getfield 11, 3) := by decide +kernel
theorem dX1_served_12 : decode cX1_served 12 = .ok (.bipush 51, 2) := by decide +kernel
theorem dX1_served_14 : decode cX1_served 14 = .ok (.iaload, 1) := by decide +kernel
theorem dX1_served_15 : decode cX1_served 15 = .ok (.goto 5, 3) := by decide +kernel
theorem dX1_served_18 : decode cX1_served 18 = .ok (.bipush (-5), 2) := by decide +kernel
theorem dX1_served_20 : decode cX1_served 20 = .ok (.ireturn, 1) := by decide +kernel
set_option maxRecDepth 20000 in
theorem ggX1_grabFlag_X1_kind : GoodIn wsX1_grabFlag wsX1_kind := goodIn_r _ [6, 1, 7] (by decide +kernel) (by decide +kernel)
set_option maxRecDepth 20000 in
theorem gX1_grabFlag_X1_kind : GoodIn wsX1_grabFlag (wsV RX1 25 RX1 yX1_kind wsX1_kind) := goodIn_app (goodIn_of _ (by decide +kernel)) ggX1_grabFlag_X1_kind
theorem dX1_grabFlag_0 : decode cX1_grabFlag 0 = .ok (.aload_n 0, 1) := by decide +kernel
theorem dX1_grabFlag_1 : decode cX1_grabFlag 1 = .ok (.invokevirtual 25, 3) := by decide +kernel
theorem dX1_grabFlag_4 : decode cX1_grabFlag 4 = .ok (.iconst 3, 1) := by decide +kernel
theorem dX1_grabFlag_5 : decode cX1_grabFlag 5 = .ok (.if_icmp .ne 13, 3) := by decide +kernel
theorem dX1_grabFlag_8 : decode cX1_grabFlag 8 = .ok (.aload_n 0, 1) := by decide +kernel
theorem dX1_grabFlag_9 : decode cX1_grabFlag 9 = .ok (.getfield 11, 3) := by decide +kernel
theorem dX1_grabFlag_12 : decode cX1_grabFlag 12 = .ok (.bipush 52, 2) := by decide +kernel
theorem dX1_grabFlag_14 : decode cX1_grabFlag 14 = .ok (.iaload, 1) := by decide +kernel
theorem dX1_grabFlag_15 : decode cX1_grabFlag 15 = .ok (.goto 5, 3) := by decide +kernel
theorem dX1_grabFlag_18 : decode cX1_grabFlag 18 = .ok (.bipush (-5), 2) := by decide +kernel
theorem dX1_grabFlag_20 : decode cX1_grabFlag 20 = .ok (.ireturn, 1) := by decide +kernel
set_option maxRecDepth 20000 in
theorem ggX1_countAt_X1_stage : GoodIn wsX1_countAt wsX1_stage := goodIn_r _ [5, 6, 7] (by decide +kernel) (by decide +kernel)
set_option maxRecDepth 20000 in
theorem gX1_countAt_X1_stage : GoodIn wsX1_countAt (wsV RX1 33 RX1 yX1_stage wsX1_stage) := goodIn_app (goodIn_of _ (by decide +kernel)) ggX1_countAt_X1_stage
theorem dX1_countAt_0 : decode cX1_countAt 0 = .ok (.iconst 0, 1) := by decide +kernel
theorem dX1_countAt_1 : decode cX1_countAt 1 = .ok (.istore_n 2, 1) := by decide +kernel
theorem dX1_countAt_2 : decode cX1_countAt 2 = .ok (.iconst 0, 1) := by decide +kernel
theorem dX1_countAt_3 : decode cX1_countAt 3 = .ok (.istore_n 3, 1) := by decide +kernel
theorem dX1_countAt_4 : decode cX1_countAt 4 = .ok (.iload_n 3, 1) := by decide +kernel
theorem dX1_countAt_5 : decode cX1_countAt 5 = .ok (.bipush 6, 2) := by decide +kernel
theorem dX1_countAt_7 : decode cX1_countAt 7 = .ok (.if_icmp .ge 21, 3) := by decide +kernel
theorem dX1_countAt_10 : decode cX1_countAt 10 = .ok (.aload_n 0, 1) := by decide +kernel
theorem dX1_countAt_11 : decode cX1_countAt 11 = .ok (.iload_n 3, 1) := by decide +kernel
theorem dX1_countAt_12 : decode cX1_countAt 12 = .ok (.invokevirtual 33, 3) := by decide +kernel
theorem dX1_countAt_15 : decode cX1_countAt 15 = .ok (.iload_n 1, 1) := by decide +kernel
theorem dX1_countAt_16 : decode cX1_countAt 16 = .ok (.if_icmp .ne 6, 3) := by decide +kernel
theorem dX1_countAt_19 : decode cX1_countAt 19 = .ok (.iinc 2 1, 3) := by decide +kernel
theorem dX1_countAt_22 : decode cX1_countAt 22 = .ok (.iinc 3 1, 3) := by decide +kernel
theorem dX1_countAt_25 : decode cX1_countAt 25 = .ok (.goto (-21), 3) := by decide +kernel
theorem dX1_countAt_28 : decode cX1_countAt 28 = .ok (.iload_n 2, 1) := by decide +kernel
theorem dX1_countAt_29 : decode cX1_countAt 29 = .ok (.ireturn, 1) := by decide +kernel
set_option maxRecDepth 20000 in
theorem ggX1_whoIsInside_X1_stage : GoodIn wsX1_whoIsInside wsX1_stage := goodIn_r _ [5, 6, 7] (by decide +kernel) (by decide +kernel)
set_option maxRecDepth 20000 in
theorem gX1_whoIsInside_X1_stage : GoodIn wsX1_whoIsInside (wsV RX1 33 RX1 yX1_stage wsX1_stage) := goodIn_app (goodIn_of _ (by decide +kernel)) ggX1_whoIsInside_X1_stage
theorem dX1_whoIsInside_0 : decode cX1_whoIsInside 0 = .ok (.iconst 0, 1) := by decide +kernel
theorem dX1_whoIsInside_1 : decode cX1_whoIsInside 1 = .ok (.istore_n 1, 1) := by decide +kernel
theorem dX1_whoIsInside_2 : decode cX1_whoIsInside 2 = .ok (.iload_n 1, 1) := by decide +kernel
theorem dX1_whoIsInside_3 : decode cX1_whoIsInside 3 = .ok (.bipush 6, 2) := by decide +kernel
theorem dX1_whoIsInside_5 : decode cX1_whoIsInside 5 = .ok (.if_icmp .ge 20, 3) := by decide +kernel
theorem dX1_whoIsInside_8 : decode cX1_whoIsInside 8 = .ok (.aload_n 0, 1) := by decide +kernel
theorem dX1_whoIsInside_9 : decode cX1_whoIsInside 9 = .ok (.iload_n 1, 1) := by decide +kernel
theorem dX1_whoIsInside_10 : decode cX1_whoIsInside 10 = .ok (.invokevirtual 33, 3) := by decide +kernel
theorem dX1_whoIsInside_13 : decode cX1_whoIsInside 13 = .ok (.iconst 4, 1) := by decide +kernel
theorem dX1_whoIsInside_14 : decode cX1_whoIsInside 14 = .ok (.if_icmp .ne 5, 3) := by decide +kernel
theorem dX1_whoIsInside_17 : decode cX1_whoIsInside 17 = .ok (.iload_n 1, 1) := by decide +kernel
theorem dX1_whoIsInside_18 : decode cX1_whoIsInside 18 = .ok (.ireturn, 1) := by decide +kernel
theorem dX1_whoIsInside_19 : decode cX1_whoIsInside 19 = .ok (.iinc 1 1, 3) := by decide +kernel
theorem dX1_whoIsInside_22 : decode cX1_whoIsInside 22 = .ok (.goto (-20), 3) := by decide +kernel
theorem dX1_whoIsInside_25 : decode cX1_whoIsInside 25 = .ok (.bipush (-5), 2) := by decide +kernel
theorem dX1_whoIsInside_27 : decode cX1_whoIsInside 27 = .ok (.ireturn, 1) := by decide +kernel
set_option maxRecDepth 20000 in
theorem ggX1_queues_X1_kind : GoodIn wsX1_queues wsX1_kind := goodIn_r _ [5, 6, 11] (by decide +kernel) (by decide +kernel)
set_option maxRecDepth 20000 in
theorem gX1_queues_X1_kind : GoodIn wsX1_queues (wsV RX1 25 RX1 yX1_kind wsX1_kind) := goodIn_app (goodIn_of _ (by decide +kernel)) ggX1_queues_X1_kind
set_option maxRecDepth 20000 in
theorem ggX1_queues_X1_stage : GoodIn wsX1_queues wsX1_stage := goodIn_r _ [10, 6, 11] (by decide +kernel) (by decide +kernel)
set_option maxRecDepth 20000 in
theorem gX1_queues_X1_stage : GoodIn wsX1_queues (wsV RX1 33 RX1 yX1_stage wsX1_stage) := goodIn_app (goodIn_of _ (by decide +kernel)) ggX1_queues_X1_stage
theorem dX1_queues_0 : decode cX1_queues 0 = .ok (.aload_n 0, 1) := by decide +kernel
theorem dX1_queues_1 : decode cX1_queues 1 = .ok (.invokevirtual 25, 3) := by decide +kernel
theorem dX1_queues_4 : decode cX1_queues 4 = .ok (.tableswitch 72 0 2 #[28, 43, 58], 28) := by decide +kernel
theorem dX1_queues_32 : decode cX1_queues 32 = .ok (.aload_n 0, 1) := by decide +kernel
theorem dX1_queues_33 : decode cX1_queues 33 = .ok (.iload_n 1, 1) := by decide +kernel
theorem dX1_queues_34 : decode cX1_queues 34 = .ok (.invokevirtual 33, 3) := by decide +kernel
theorem dX1_queues_37 : decode cX1_queues 37 = .ok (.iconst 2, 1) := by decide +kernel
theorem dX1_queues_38 : decode cX1_queues 38 = .ok (.if_icmp .lt 7, 3) := by decide +kernel
theorem dX1_queues_41 : decode cX1_queues 41 = .ok (.iconst 1, 1) := by decide +kernel
theorem dX1_queues_42 : decode cX1_queues 42 = .ok (.goto 4, 3) := by decide +kernel
theorem dX1_queues_45 : decode cX1_queues 45 = .ok (.iconst 0, 1) := by decide +kernel
theorem dX1_queues_46 : decode cX1_queues 46 = .ok (.ireturn, 1) := by decide +kernel
theorem dX1_queues_47 : decode cX1_queues 47 = .ok (.aload_n 0, 1) := by decide +kernel
theorem dX1_queues_48 : decode cX1_queues 48 = .ok (.iload_n 1, 1) := by decide +kernel
theorem dX1_queues_49 : decode cX1_queues 49 = .ok (.invokevirtual 33, 3) := by decide +kernel
theorem dX1_queues_52 : decode cX1_queues 52 = .ok (.iconst 3, 1) := by decide +kernel
theorem dX1_queues_53 : decode cX1_queues 53 = .ok (.if_icmp .lt 7, 3) := by decide +kernel
theorem dX1_queues_56 : decode cX1_queues 56 = .ok (.iconst 1, 1) := by decide +kernel
theorem dX1_queues_57 : decode cX1_queues 57 = .ok (.goto 4, 3) := by decide +kernel
theorem dX1_queues_60 : decode cX1_queues 60 = .ok (.iconst 0, 1) := by decide +kernel
theorem dX1_queues_61 : decode cX1_queues 61 = .ok (.ireturn, 1) := by decide +kernel
theorem dX1_queues_62 : decode cX1_queues 62 = .ok (.aload_n 0, 1) := by decide +kernel
theorem dX1_queues_63 : decode cX1_queues 63 = .ok (.iload_n 1, 1) := by decide +kernel
theorem dX1_queues_64 : decode cX1_queues 64 = .ok (.invokevirtual 33, 3) := by decide +kernel
theorem dX1_queues_67 : decode cX1_queues 67 = .ok (.ifCond .eq 7, 3) := by decide +kernel
theorem dX1_queues_70 : decode cX1_queues 70 = .ok (.iconst 1, 1) := by decide +kernel
theorem dX1_queues_71 : decode cX1_queues 71 = .ok (.goto 4, 3) := by decide +kernel
theorem dX1_queues_74 : decode cX1_queues 74 = .ok (.iconst 0, 1) := by decide +kernel
theorem dX1_queues_75 : decode cX1_queues 75 = .ok (.ireturn, 1) := by decide +kernel
theorem dX1_queues_76 : decode cX1_queues 76 = .ok (.iconst 0, 1) := by decide +kernel
theorem dX1_queues_77 : decode cX1_queues 77 = .ok (.ireturn, 1) := by decide +kernel
set_option maxRecDepth 20000 in
theorem ggX1_touches_X1_kind : GoodIn wsX1_touches wsX1_kind := goodIn_r _ [6, 7, 12] (by decide +kernel) (by decide +kernel)
set_option maxRecDepth 20000 in
theorem gX1_touches_X1_kind : GoodIn wsX1_touches (wsV RX1 25 RX1 yX1_kind wsX1_kind) := goodIn_app (goodIn_of _ (by decide +kernel)) ggX1_touches_X1_kind
set_option maxRecDepth 20000 in
theorem ggX1_touches_X1_stage : GoodIn wsX1_touches wsX1_stage := goodIn_r _ [11, 7, 12] (by decide +kernel) (by decide +kernel)
set_option maxRecDepth 20000 in
theorem gX1_touches_X1_stage : GoodIn wsX1_touches (wsV RX1 33 RX1 yX1_stage wsX1_stage) := goodIn_app (goodIn_of _ (by decide +kernel)) ggX1_touches_X1_stage
theorem dX1_touches_0 : decode cX1_touches 0 = .ok (.aload_n 0, 1) := by decide +kernel
theorem dX1_touches_1 : decode cX1_touches 1 = .ok (.invokevirtual 25, 3) := by decide +kernel
theorem dX1_touches_4 : decode cX1_touches 4 = .ok (.bipush 8, 2) := by decide +kernel
theorem dX1_touches_6 : decode cX1_touches 6 = .ok (.imul, 1) := by decide +kernel
theorem dX1_touches_7 : decode cX1_touches 7 = .ok (.aload_n 0, 1) := by decide +kernel
theorem dX1_touches_8 : decode cX1_touches 8 = .ok (.iload_n 1, 1) := by decide +kernel
theorem dX1_touches_9 : decode cX1_touches 9 = .ok (.invokevirtual 33, 3) := by decide +kernel
theorem dX1_touches_12 : decode cX1_touches 12 = .ok (.iadd, 1) := by decide +kernel
theorem dX1_touches_13 : decode cX1_touches 13 = .ok (.istore_n 2, 1) := by decide +kernel
theorem dX1_touches_14 : decode cX1_touches 14 = .ok (.iload_n 2, 1) := by decide +kernel
theorem dX1_touches_15 : decode cX1_touches 15 = .ok (.ifCond .lt 19, 3) := by decide +kernel
theorem dX1_touches_18 : decode cX1_touches 18 = .ok (.iload_n 2, 1) := by decide +kernel
theorem dX1_touches_19 : decode cX1_touches 19 = .ok (.getstatic 37, 3) := by decide +kernel
theorem dX1_touches_22 : decode cX1_touches 22 = .ok (.arraylength, 1) := by decide +kernel
theorem dX1_touches_23 : decode cX1_touches 23 = .ok (.if_icmp .ge 11, 3) := by decide +kernel
theorem dX1_touches_26 : decode cX1_touches 26 = .ok (.getstatic 37, 3) := by decide +kernel
theorem dX1_touches_29 : decode cX1_touches 29 = .ok (.iload_n 2, 1) := by decide +kernel
theorem dX1_touches_30 : decode cX1_touches 30 = .ok (.iaload, 1) := by decide +kernel
theorem dX1_touches_31 : decode cX1_touches 31 = .ok (.goto 4, 3) := by decide +kernel
theorem dX1_touches_34 : decode cX1_touches 34 = .ok (.iconst 0, 1) := by decide +kernel
theorem dX1_touches_35 : decode cX1_touches 35 = .ok (.ireturn, 1) := by decide +kernel
set_option maxRecDepth 20000 in
theorem ggX1_waits_X1_stage : GoodIn wsX1_waits wsX1_stage := goodIn_r _ [6, 1, 22] (by decide +kernel) (by decide +kernel)
set_option maxRecDepth 20000 in
theorem gX1_waits_X1_stage : GoodIn wsX1_waits (wsV RX1 33 RX1 yX1_stage wsX1_stage) := goodIn_app (goodIn_of _ (by decide +kernel)) ggX1_waits_X1_stage
set_option maxRecDepth 20000 in
theorem ggX1_waits_X1_mayEnter : GoodIn wsX1_waits wsX1_mayEnter := goodIn_r _ [10, 1, 11, 12, 13, 5, 14, 15, 16, 17, 18, 19, 20, 21, 22] (by decide +kernel) (by decide +kernel)
set_option maxRecDepth 20000 in
theorem gX1_waits_X1_mayEnter : GoodIn wsX1_waits (wsV RX1 40 RX1 yX1_mayEnter wsX1_mayEnter) := goodIn_app (goodIn_of _ (by decide +kernel)) ggX1_waits_X1_mayEnter
theorem dX1_waits_0 : decode cX1_waits 0 = .ok (.aload_n 0, 1) := by decide +kernel
theorem dX1_waits_1 : decode cX1_waits 1 = .ok (.iload_n 1, 1) := by decide +kernel
theorem dX1_waits_2 : decode cX1_waits 2 = .ok (.invokevirtual 33, 3) := by decide +kernel
theorem dX1_waits_5 : decode cX1_waits 5 = .ok (.istore_n 2, 1) := by decide +kernel
theorem dX1_waits_6 : decode cX1_waits 6 = .ok (.iload_n 2, 1) := by decide +kernel
theorem dX1_waits_7 : decode cX1_waits 7 = .ok (.bipush 6, 2) := by decide +kernel
theorem dX1_waits_9 : decode cX1_waits 9 = .ok (.if_icmp .ne 23, 3) := by decide +kernel
theorem dX1_waits_12 : decode cX1_waits 12 = .ok (.aload_n 0, 1) := by decide +kernel
theorem dX1_waits_13 : decode cX1_waits 13 = .ok (.getfield 11, 3) := by decide +kernel
theorem dX1_waits_16 : decode cX1_waits 16 = .ok (.bipush 6, 2) := by decide +kernel
theorem dX1_waits_18 : decode cX1_waits 18 = .ok (.iload_n 1, 1) := by decide +kernel
theorem dX1_waits_19 : decode cX1_waits 19 = .ok (.iadd, 1) := by decide +kernel
theorem dX1_waits_20 : decode cX1_waits 20 = .ok (.iaload, 1) := by decide +kernel
theorem dX1_waits_21 : decode cX1_waits 21 = .ok (.bipush (-5), 2) := by decide +kernel
theorem dX1_waits_23 : decode cX1_waits 23 = .ok (.if_icmp .ne 7, 3) := by decide +kernel
theorem dX1_waits_26 : decode cX1_waits 26 = .ok (.iconst 1, 1) := by decide +kernel
theorem dX1_waits_27 : decode cX1_waits 27 = .ok (.goto 4, 3) := by decide +kernel
theorem dX1_waits_30 : decode cX1_waits 30 = .ok (.iconst 0, 1) := by decide +kernel
theorem dX1_waits_31 : decode cX1_waits 31 = .ok (.ireturn, 1) := by decide +kernel
theorem dX1_waits_32 : decode cX1_waits 32 = .ok (.iload_n 2, 1) := by decide +kernel
theorem dX1_waits_33 : decode cX1_waits 33 = .ok (.iconst 3, 1) := by decide +kernel
theorem dX1_waits_34 : decode cX1_waits 34 = .ok (.if_icmp .ne 15, 3) := by decide +kernel
theorem dX1_waits_37 : decode cX1_waits 37 = .ok (.aload_n 0, 1) := by decide +kernel
theorem dX1_waits_38 : decode cX1_waits 38 = .ok (.iload_n 1, 1) := by decide +kernel
theorem dX1_waits_39 : decode cX1_waits 39 = .ok (.invokevirtual 40, 3) := by decide +kernel
theorem dX1_waits_42 : decode cX1_waits 42 = .ok (.ifCond .ne 7, 3) := by decide +kernel
theorem dX1_waits_45 : decode cX1_waits 45 = .ok (.iconst 1, 1) := by decide +kernel
theorem dX1_waits_46 : decode cX1_waits 46 = .ok (.goto 4, 3) := by decide +kernel
theorem dX1_waits_49 : decode cX1_waits 49 = .ok (.iconst 0, 1) := by decide +kernel
theorem dX1_waits_50 : decode cX1_waits 50 = .ok (.ireturn, 1) := by decide +kernel
set_option maxRecDepth 20000 in
theorem ggX1_mayEnter_X1_kind : GoodIn wsX1_mayEnter wsX1_kind := goodIn_r _ [6, 1, 14] (by decide +kernel) (by decide +kernel)
set_option maxRecDepth 20000 in
theorem gX1_mayEnter_X1_kind : GoodIn wsX1_mayEnter (wsV RX1 25 RX1 yX1_kind wsX1_kind) := goodIn_app (goodIn_of _ (by decide +kernel)) ggX1_mayEnter_X1_kind
set_option maxRecDepth 20000 in
theorem ggX1_mayEnter_X1_cardFlag : GoodIn wsX1_mayEnter wsX1_cardFlag := goodIn_r _ [10, 1, 11, 12, 13, 14] (by decide +kernel) (by decide +kernel)
set_option maxRecDepth 20000 in
theorem gX1_mayEnter_X1_cardFlag : GoodIn wsX1_mayEnter (wsV RX1 43 RX1 yX1_cardFlag wsX1_cardFlag) := goodIn_app (goodIn_of _ (by decide +kernel)) ggX1_mayEnter_X1_cardFlag
theorem dX1_mayEnter_0 : decode cX1_mayEnter 0 = .ok (.aload_n 0, 1) := by decide +kernel
theorem dX1_mayEnter_1 : decode cX1_mayEnter 1 = .ok (.invokevirtual 25, 3) := by decide +kernel
theorem dX1_mayEnter_4 : decode cX1_mayEnter 4 = .ok (.tableswitch 93 0 2 #[28, 46, 68], 28) := by decide +kernel
theorem dX1_mayEnter_32 : decode cX1_mayEnter 32 = .ok (.aload_n 0, 1) := by decide +kernel
theorem dX1_mayEnter_33 : decode cX1_mayEnter 33 = .ok (.getfield 11, 3) := by decide +kernel
theorem dX1_mayEnter_36 : decode cX1_mayEnter 36 = .ok (.bipush 12, 2) := by decide +kernel
theorem dX1_mayEnter_38 : decode cX1_mayEnter 38 = .ok (.iload_n 1, 1) := by decide +kernel
theorem dX1_mayEnter_39 : decode cX1_mayEnter 39 = .ok (.iadd, 1) := by decide +kernel
theorem dX1_mayEnter_40 : decode cX1_mayEnter 40 = .ok (.iaload, 1) := by decide +kernel
theorem dX1_mayEnter_41 : decode cX1_mayEnter 41 = .ok (.ifCond .ne 7, 3) := by decide +kernel
theorem dX1_mayEnter_44 : decode cX1_mayEnter 44 = .ok (.iconst 1, 1) := by decide +kernel
theorem dX1_mayEnter_45 : decode cX1_mayEnter 45 = .ok (.goto 4, 3) := by decide +kernel
theorem dX1_mayEnter_48 : decode cX1_mayEnter 48 = .ok (.iconst 0, 1) := by decide +kernel
theorem dX1_mayEnter_49 : decode cX1_mayEnter 49 = .ok (.ireturn, 1) := by decide +kernel
theorem dX1_mayEnter_50 : decode cX1_mayEnter 50 = .ok (.aload_n 0, 1) := by decide +kernel
theorem dX1_mayEnter_51 : decode cX1_mayEnter 51 = .ok (.aload_n 0, 1) := by decide +kernel
theorem dX1_mayEnter_52 : decode cX1_mayEnter 52 = .ok (.getfield 11, 3) := by decide +kernel
theorem dX1_mayEnter_55 : decode cX1_mayEnter 55 = .ok (.bipush 30, 2) := by decide +kernel
theorem dX1_mayEnter_57 : decode cX1_mayEnter 57 = .ok (.iload_n 1, 1) := by decide +kernel
theorem dX1_mayEnter_58 : decode cX1_mayEnter 58 = .ok (.iadd, 1) := by decide +kernel
theorem dX1_mayEnter_59 : decode cX1_mayEnter 59 = .ok (.iaload, 1) := by decide +kernel
theorem dX1_mayEnter_60 : decode cX1_mayEnter 60 = .ok (.invokevirtual 43, 3) := by decide +kernel
theorem dX1_mayEnter_63 : decode cX1_mayEnter 63 = .ok (.ifCond .ne 7, 3) := by decide +kernel
theorem dX1_mayEnter_66 : decode cX1_mayEnter 66 = .ok (.iconst 1, 1) := by decide +kernel
theorem dX1_mayEnter_67 : decode cX1_mayEnter 67 = .ok (.goto 4, 3) := by decide +kernel
theorem dX1_mayEnter_70 : decode cX1_mayEnter 70 = .ok (.iconst 0, 1) := by decide +kernel
theorem dX1_mayEnter_71 : decode cX1_mayEnter 71 = .ok (.ireturn, 1) := by decide +kernel
theorem dX1_mayEnter_72 : decode cX1_mayEnter 72 = .ok (.aload_n 0, 1) := by decide +kernel
theorem dX1_mayEnter_73 : decode cX1_mayEnter 73 = .ok (.getfield 11, 3) := by decide +kernel
theorem dX1_mayEnter_76 : decode cX1_mayEnter 76 = .ok (.bipush 36, 2) := by decide +kernel
theorem dX1_mayEnter_78 : decode cX1_mayEnter 78 = .ok (.iload_n 1, 1) := by decide +kernel
theorem dX1_mayEnter_79 : decode cX1_mayEnter 79 = .ok (.iadd, 1) := by decide +kernel
theorem dX1_mayEnter_80 : decode cX1_mayEnter 80 = .ok (.iaload, 1) := by decide +kernel
theorem dX1_mayEnter_81 : decode cX1_mayEnter 81 = .ok (.aload_n 0, 1) := by decide +kernel
theorem dX1_mayEnter_82 : decode cX1_mayEnter 82 = .ok (.getfield 11, 3) := by decide +kernel
theorem dX1_mayEnter_85 : decode cX1_mayEnter 85 = .ok (.bipush 51, 2) := by decide +kernel
theorem dX1_mayEnter_87 : decode cX1_mayEnter 87 = .ok (.iaload, 1) := by decide +kernel
theorem dX1_mayEnter_88 : decode cX1_mayEnter 88 = .ok (.if_icmp .ne 7, 3) := by decide +kernel
theorem dX1_mayEnter_91 : decode cX1_mayEnter 91 = .ok (.iconst 1, 1) := by decide +kernel
theorem dX1_mayEnter_92 : decode cX1_mayEnter 92 = .ok (.goto 4, 3) := by decide +kernel
theorem dX1_mayEnter_95 : decode cX1_mayEnter 95 = .ok (.iconst 0, 1) := by decide +kernel
theorem dX1_mayEnter_96 : decode cX1_mayEnter 96 = .ok (.ireturn, 1) := by decide +kernel
theorem dX1_mayEnter_97 : decode cX1_mayEnter 97 = .ok (.aload_n 0, 1) := by decide +kernel
theorem dX1_mayEnter_98 : decode cX1_mayEnter 98 = .ok (.getfield 11, 3) := by decide +kernel
theorem dX1_mayEnter_101 : decode cX1_mayEnter 101 = .ok (.bipush 52, 2) := by decide +kernel
theorem dX1_mayEnter_103 : decode cX1_mayEnter 103 = .ok (.iaload, 1) := by decide +kernel
theorem dX1_mayEnter_104 : decode cX1_mayEnter 104 = .ok (.ifCond .ne 7, 3) := by decide +kernel
theorem dX1_mayEnter_107 : decode cX1_mayEnter 107 = .ok (.iconst 1, 1) := by decide +kernel
theorem dX1_mayEnter_108 : decode cX1_mayEnter 108 = .ok (.goto 4, 3) := by decide +kernel
theorem dX1_mayEnter_111 : decode cX1_mayEnter 111 = .ok (.iconst 0, 1) := by decide +kernel
theorem dX1_mayEnter_112 : decode cX1_mayEnter 112 = .ok (.ireturn, 1) := by decide +kernel
set_option maxRecDepth 20000 in
theorem ggX1_advance_X1_waits : GoodIn wsX1_advance wsX1_waits := goodIn_r _ [5, 6, 7, 8, 9, 4, 10, 11, 12, 13, 14, 15, 16, 17, 18, 19, 20, 21, 22, 23, 24, 25, 64] (by decide +kernel) (by decide +kernel)
set_option maxRecDepth 20000 in
theorem gX1_advance_X1_waits : GoodIn wsX1_advance (wsV RX1 46 RX1 yX1_waits wsX1_waits) := goodIn_app (goodIn_of _ (by decide +kernel)) ggX1_advance_X1_waits
set_option maxRecDepth 20000 in
theorem ggX1_advance_X1_kind : GoodIn wsX1_advance wsX1_kind := goodIn_r _ [18, 6, 64] (by decide +kernel) (by decide +kernel)
set_option maxRecDepth 20000 in
theorem gX1_advance_X1_kind : GoodIn wsX1_advance (wsV RX1 25 RX1 yX1_kind wsX1_kind) := goodIn_app (goodIn_of _ (by decide +kernel)) ggX1_advance_X1_kind
set_option maxRecDepth 20000 in
theorem ggX1_advance_X1_advanceNudges : GoodIn wsX1_advance wsX1_advanceNudges := goodIn_r _ [29, 6, 7, 8, 9, 4, 10, 30, 31, 32, 33, 34, 35, 36, 37, 38, 24, 39, 40, 41, 42, 43, 44, 45, 46, 47, 64] (by decide +kernel) (by decide +kernel)
set_option maxRecDepth 20000 in
theorem gX1_advance_X1_advanceNudges : GoodIn wsX1_advance (wsV RX1 49 RX1 yX1_advanceNudges wsX1_advanceNudges) := goodIn_app (goodIn_of _ (by decide +kernel)) ggX1_advance_X1_advanceNudges
set_option maxRecDepth 20000 in
theorem ggX1_advance_X1_advanceWatching : GoodIn wsX1_advance wsX1_advanceWatching := goodIn_r _ [51, 6, 7, 8, 9, 4, 10, 52, 53, 54, 55, 23, 24, 25, 30, 31, 32, 33, 64] (by decide +kernel) (by decide +kernel)
set_option maxRecDepth 20000 in
theorem gX1_advance_X1_advanceWatching : GoodIn wsX1_advance (wsV RX1 52 RX1 yX1_advanceWatching wsX1_advanceWatching) := goodIn_app (goodIn_of _ (by decide +kernel)) ggX1_advance_X1_advanceWatching
set_option maxRecDepth 20000 in
theorem ggX1_advance_X1_advanceTickets : GoodIn wsX1_advance wsX1_advanceTickets := goodIn_r _ [59, 6, 7, 8, 9, 4, 10, 30, 31, 32, 33, 64] (by decide +kernel) (by decide +kernel)
set_option maxRecDepth 20000 in
theorem gX1_advance_X1_advanceTickets : GoodIn wsX1_advance (wsV RX1 55 RX1 yX1_advanceTickets wsX1_advanceTickets) := goodIn_app (goodIn_of _ (by decide +kernel)) ggX1_advance_X1_advanceTickets
set_option maxRecDepth 20000 in
theorem ggX1_advance_X1_advanceGrabbing : GoodIn wsX1_advance wsX1_advanceGrabbing := goodIn_r _ [63, 6, 7, 8, 9, 4, 10, 30, 31, 32, 33, 64] (by decide +kernel) (by decide +kernel)
set_option maxRecDepth 20000 in
theorem gX1_advance_X1_advanceGrabbing : GoodIn wsX1_advance (wsV RX1 58 RX1 yX1_advanceGrabbing wsX1_advanceGrabbing) := goodIn_app (goodIn_of _ (by decide +kernel)) ggX1_advance_X1_advanceGrabbing
theorem dX1_advance_0 : decode cX1_advance 0 = .ok (.aload_n 0, 1) := by decide +kernel
theorem dX1_advance_1 : decode cX1_advance 1 = .ok (.iload_n 1, 1) := by decide +kernel
theorem dX1_advance_2 : decode cX1_advance 2 = .ok (.invokevirtual 46, 3) := by decide +kernel
theorem dX1_advance_5 : decode cX1_advance 5 = .ok (.ifCond .eq 4, 3) := by decide +kernel
theorem dX1_advance_8 : decode cX1_advance 8 = .ok (.return_, 1) := by decide +kernel
theorem dX1_advance_9 : decode cX1_advance 9 = .ok (.aload_n 0, 1) := by decide +kernel
theorem dX1_advance_10 : decode cX1_advance 10 = .ok (.invokevirtual 25, 3) := by decide +kernel
theorem dX1_advance_13 : decode cX1_advance 13 = .ok (.tableswitch 51 0 2 #[27, 35, 43], 27) := by decide +kernel
theorem dX1_advance_40 : decode cX1_advance 40 = .ok (.aload_n 0, 1) := by decide +kernel
theorem dX1_advance_41 : decode cX1_advance 41 = .ok (.iload_n 1, 1) := by decide +kernel
theorem dX1_advance_42 : decode cX1_advance 42 = .ok (.invokevirtual 49, 3) := by decide +kernel
theorem dX1_advance_45 : decode cX1_advance 45 = .ok (.goto 24, 3) := by decide +kernel
theorem dX1_advance_48 : decode cX1_advance 48 = .ok (.aload_n 0, 1) := by decide +kernel
theorem dX1_advance_49 : decode cX1_advance 49 = .ok (.iload_n 1, 1) := by decide +kernel
theorem dX1_advance_50 : decode cX1_advance 50 = .ok (.invokevirtual 52, 3) := by decide +kernel
theorem dX1_advance_53 : decode cX1_advance 53 = .ok (.goto 16, 3) := by decide +kernel
theorem dX1_advance_56 : decode cX1_advance 56 = .ok (.aload_n 0, 1) := by decide +kernel
theorem dX1_advance_57 : decode cX1_advance 57 = .ok (.iload_n 1, 1) := by decide +kernel
theorem dX1_advance_58 : decode cX1_advance 58 = .ok (.invokevirtual 55, 3) := by decide +kernel
theorem dX1_advance_61 : decode cX1_advance 61 = .ok (.goto 8, 3) := by decide +kernel
theorem dX1_advance_64 : decode cX1_advance 64 = .ok (.aload_n 0, 1) := by decide +kernel
theorem dX1_advance_65 : decode cX1_advance 65 = .ok (.iload_n 1, 1) := by decide +kernel
theorem dX1_advance_66 : decode cX1_advance 66 = .ok (.invokevirtual 58, 3) := by decide +kernel
theorem dX1_advance_69 : decode cX1_advance 69 = .ok (.return_, 1) := by decide +kernel
set_option maxRecDepth 20000 in
theorem ggX1_advanceNudges_X1_stage : GoodIn wsX1_advanceNudges wsX1_stage := goodIn_r _ [6, 1, 26] (by decide +kernel) (by decide +kernel)
set_option maxRecDepth 20000 in
theorem gX1_advanceNudges_X1_stage : GoodIn wsX1_advanceNudges (wsV RX1 33 RX1 yX1_stage wsX1_stage) := goodIn_app (goodIn_of _ (by decide +kernel)) ggX1_advanceNudges_X1_stage
set_option maxRecDepth 20000 in
theorem ggX1_advanceNudges_X1_moveTo : GoodIn wsX1_advanceNudges wsX1_moveTo := goodIn_r _ [10, 1, 26] (by decide +kernel) (by decide +kernel)
set_option maxRecDepth 20000 in
theorem gX1_advanceNudges_X1_moveTo : GoodIn wsX1_advanceNudges (wsV RX1 61 RX1 yX1_moveTo wsX1_moveTo) := goodIn_app (goodIn_of _ (by decide +kernel)) ggX1_advanceNudges_X1_moveTo
set_option maxRecDepth 20000 in
theorem ggX1_advanceNudges_X1_setNext : GoodIn wsX1_advanceNudges wsX1_setNext := goodIn_r _ [14, 1, 15, 16, 17, 26] (by decide +kernel) (by decide +kernel)
set_option maxRecDepth 20000 in
theorem gX1_advanceNudges_X1_setNext : GoodIn wsX1_advanceNudges (wsV RX1 65 RX1 yX1_setNext wsX1_setNext) := goodIn_app (goodIn_of _ (by decide +kernel)) ggX1_advanceNudges_X1_setNext
set_option maxRecDepth 20000 in
theorem ggX1_advanceNudges_X1_leaveTail : GoodIn wsX1_advanceNudges wsX1_leaveTail := goodIn_r _ [21, 1, 7, 8, 9, 5, 10, 26] (by decide +kernel) (by decide +kernel)
set_option maxRecDepth 20000 in
theorem gX1_advanceNudges_X1_leaveTail : GoodIn wsX1_advanceNudges (wsV RX1 68 RX1 yX1_leaveTail wsX1_leaveTail) := goodIn_app (goodIn_of _ (by decide +kernel)) ggX1_advanceNudges_X1_leaveTail
set_option maxRecDepth 20000 in
theorem ggX1_advanceNudges_X1_lowerFlag : GoodIn wsX1_advanceNudges wsX1_lowerFlag := goodIn_r _ [25, 1, 15, 16, 17, 26] (by decide +kernel) (by decide +kernel)
set_option maxRecDepth 20000 in
theorem gX1_advanceNudges_X1_lowerFlag : GoodIn wsX1_advanceNudges (wsV RX1 71 RX1 yX1_lowerFlag wsX1_lowerFlag) := goodIn_app (goodIn_of _ (by decide +kernel)) ggX1_advanceNudges_X1_lowerFlag
theorem dX1_advanceNudges_0 : decode cX1_advanceNudges 0 = .ok (.aload_n 0, 1) := by decide +kernel
theorem dX1_advanceNudges_1 : decode cX1_advanceNudges 1 = .ok (.iload_n 1, 1) := by decide +kernel
theorem dX1_advanceNudges_2 : decode cX1_advanceNudges 2 = .ok (.invokevirtual 33, 3) := by decide +kernel
theorem dX1_advanceNudges_5 : decode cX1_advanceNudges 5 = .ok (.tableswitch 213 0 6 #[43, 73, 124, 147, 167, 195, 203], 43) := by decide +kernel
theorem dX1_advanceNudges_48 : decode cX1_advanceNudges 48 = .ok (.aload_n 0, 1) := by decide +kernel
theorem dX1_advanceNudges_49 : decode cX1_advanceNudges 49 = .ok (.getfield 11, 3) := by decide +kernel
theorem dX1_advanceNudges_52 : decode cX1_advanceNudges 52 = .ok (.bipush 6, 2) := by decide +kernel
theorem dX1_advanceNudges_54 : decode cX1_advanceNudges 54 = .ok (.iload_n 1, 1) := by decide +kernel
theorem dX1_advanceNudges_55 : decode cX1_advanceNudges 55 = .ok (.iadd, 1) := by decide +kernel
theorem dX1_advanceNudges_56 : decode cX1_advanceNudges 56 = .ok (.bipush (-5), 2) := by decide +kernel
theorem dX1_advanceNudges_58 : decode cX1_advanceNudges 58 = .ok (.iastore, 1) := by decide +kernel
theorem dX1_advanceNudges_59 : decode cX1_advanceNudges 59 = .ok (.aload_n 0, 1) := by decide +kernel
theorem dX1_advanceNudges_60 : decode cX1_advanceNudges 60 = .ok (.getfield 11, 3) := by decide +kernel
theorem dX1_advanceNudges_63 : decode cX1_advanceNudges 63 = .ok (.bipush 12, 2) := by decide +kernel
theorem dX1_advanceNudges_65 : decode cX1_advanceNudges 65 = .ok (.iload_n 1, 1) := by decide +kernel
theorem dX1_advanceNudges_66 : decode cX1_advanceNudges 66 = .ok (.iadd, 1) := by decide +kernel
theorem dX1_advanceNudges_67 : decode cX1_advanceNudges 67 = .ok (.iconst 1, 1) := by decide +kernel
theorem dX1_advanceNudges_68 : decode cX1_advanceNudges 68 = .ok (.iastore, 1) := by decide +kernel
theorem dX1_advanceNudges_69 : decode cX1_advanceNudges 69 = .ok (.aload_n 0, 1) := by decide +kernel
theorem dX1_advanceNudges_70 : decode cX1_advanceNudges 70 = .ok (.iload_n 1, 1) := by decide +kernel
theorem dX1_advanceNudges_71 : decode cX1_advanceNudges 71 = .ok (.iconst 1, 1) := by decide +kernel
theorem dX1_advanceNudges_72 : decode cX1_advanceNudges 72 = .ok (.invokevirtual 61, 3) := by decide +kernel
theorem dX1_advanceNudges_75 : decode cX1_advanceNudges 75 = .ok (.goto 162, 3) := by decide +kernel
theorem dX1_advanceNudges_78 : decode cX1_advanceNudges 78 = .ok (.aload_n 0, 1) := by decide +kernel
theorem dX1_advanceNudges_79 : decode cX1_advanceNudges 79 = .ok (.getfield 11, 3) := by decide +kernel
theorem dX1_advanceNudges_82 : decode cX1_advanceNudges 82 = .ok (.bipush 18, 2) := by decide +kernel
theorem dX1_advanceNudges_84 : decode cX1_advanceNudges 84 = .ok (.iload_n 1, 1) := by decide +kernel
theorem dX1_advanceNudges_85 : decode cX1_advanceNudges 85 = .ok (.iadd, 1) := by decide +kernel
theorem dX1_advanceNudges_86 : decode cX1_advanceNudges 86 = .ok (.aload_n 0, 1) := by decide +kernel
theorem dX1_advanceNudges_87 : decode cX1_advanceNudges 87 = .ok (.getfield 11, 3) := by decide +kernel
theorem dX1_advanceNudges_90 : decode cX1_advanceNudges 90 = .ok (.bipush 49, 2) := by decide +kernel
theorem dX1_advanceNudges_92 : decode cX1_advanceNudges 92 = .ok (.iaload, 1) := by decide +kernel
theorem dX1_advanceNudges_93 : decode cX1_advanceNudges 93 = .ok (.iastore, 1) := by decide +kernel
theorem dX1_advanceNudges_94 : decode cX1_advanceNudges 94 = .ok (.aload_n 0, 1) := by decide +kernel
theorem dX1_advanceNudges_95 : decode cX1_advanceNudges 95 = .ok (.getfield 11, 3) := by decide +kernel
theorem dX1_advanceNudges_98 : decode cX1_advanceNudges 98 = .ok (.bipush 49, 2) := by decide +kernel
theorem dX1_advanceNudges_100 : decode cX1_advanceNudges 100 = .ok (.iload_n 1, 1) := by decide +kernel
theorem dX1_advanceNudges_101 : decode cX1_advanceNudges 101 = .ok (.iastore, 1) := by decide +kernel
theorem dX1_advanceNudges_102 : decode cX1_advanceNudges 102 = .ok (.aload_n 0, 1) := by decide +kernel
theorem dX1_advanceNudges_103 : decode cX1_advanceNudges 103 = .ok (.iload_n 1, 1) := by decide +kernel
theorem dX1_advanceNudges_104 : decode cX1_advanceNudges 104 = .ok (.aload_n 0, 1) := by decide +kernel
theorem dX1_advanceNudges_105 : decode cX1_advanceNudges 105 = .ok (.getfield 11, 3) := by decide +kernel
theorem dX1_advanceNudges_108 : decode cX1_advanceNudges 108 = .ok (.bipush 18, 2) := by decide +kernel
theorem dX1_advanceNudges_110 : decode cX1_advanceNudges 110 = .ok (.iload_n 1, 1) := by decide +kernel
theorem dX1_advanceNudges_111 : decode cX1_advanceNudges 111 = .ok (.iadd, 1) := by decide +kernel
theorem dX1_advanceNudges_112 : decode cX1_advanceNudges 112 = .ok (.iaload, 1) := by decide +kernel
theorem dX1_advanceNudges_113 : decode cX1_advanceNudges 113 = .ok (.bipush (-5), 2) := by decide +kernel
theorem dX1_advanceNudges_115 : decode cX1_advanceNudges 115 = .ok (.if_icmp .ne 7, 3) := by decide +kernel
theorem dX1_advanceNudges_118 : decode cX1_advanceNudges 118 = .ok (.iconst 4, 1) := by decide +kernel
theorem dX1_advanceNudges_119 : decode cX1_advanceNudges 119 = .ok (.goto 4, 3) := by decide +kernel
theorem dX1_advanceNudges_122 : decode cX1_advanceNudges 122 = .ok (.iconst 2, 1) := by decide +kernel
theorem dX1_advanceNudges_123 : decode cX1_advanceNudges 123 = .ok (.invokevirtual 61, 3) := by decide +kernel
theorem dX1_advanceNudges_126 : decode cX1_advanceNudges 126 = .ok (.goto 111, 3) := by decide +kernel
theorem dX1_advanceNudges_129 : decode cX1_advanceNudges 129 = .ok (.aload_n 0, 1) := by decide +kernel
theorem dX1_advanceNudges_130 : decode cX1_advanceNudges 130 = .ok (.aload_n 0, 1) := by decide +kernel
theorem dX1_advanceNudges_131 : decode cX1_advanceNudges 131 = .ok (.getfield 11, 3) := by decide +kernel
theorem dX1_advanceNudges_134 : decode cX1_advanceNudges 134 = .ok (.bipush 18, 2) := by decide +kernel
theorem dX1_advanceNudges_136 : decode cX1_advanceNudges 136 = .ok (.iload_n 1, 1) := by decide +kernel
theorem dX1_advanceNudges_137 : decode cX1_advanceNudges 137 = .ok (.iadd, 1) := by decide +kernel
theorem dX1_advanceNudges_138 : decode cX1_advanceNudges 138 = .ok (.iaload, 1) := by decide +kernel
theorem dX1_advanceNudges_139 : decode cX1_advanceNudges 139 = .ok (.iload_n 1, 1) := by decide +kernel
theorem dX1_advanceNudges_140 : decode cX1_advanceNudges 140 = .ok (.invokevirtual 65, 3) := by decide +kernel
theorem dX1_advanceNudges_143 : decode cX1_advanceNudges 143 = .ok (.aload_n 0, 1) := by decide +kernel
theorem dX1_advanceNudges_144 : decode cX1_advanceNudges 144 = .ok (.iload_n 1, 1) := by decide +kernel
theorem dX1_advanceNudges_145 : decode cX1_advanceNudges 145 = .ok (.iconst 3, 1) := by decide +kernel
theorem dX1_advanceNudges_146 : decode cX1_advanceNudges 146 = .ok (.invokevirtual 61, 3) := by decide +kernel
theorem dX1_advanceNudges_149 : decode cX1_advanceNudges 149 = .ok (.goto 88, 3) := by decide +kernel
theorem dX1_advanceNudges_152 : decode cX1_advanceNudges 152 = .ok (.aload_n 0, 1) := by decide +kernel
theorem dX1_advanceNudges_153 : decode cX1_advanceNudges 153 = .ok (.getfield 11, 3) := by decide +kernel
theorem dX1_advanceNudges_156 : decode cX1_advanceNudges 156 = .ok (.bipush 18, 2) := by decide +kernel
theorem dX1_advanceNudges_158 : decode cX1_advanceNudges 158 = .ok (.iload_n 1, 1) := by decide +kernel
theorem dX1_advanceNudges_159 : decode cX1_advanceNudges 159 = .ok (.iadd, 1) := by decide +kernel
theorem dX1_advanceNudges_160 : decode cX1_advanceNudges 160 = .ok (.bipush (-5), 2) := by decide +kernel
theorem dX1_advanceNudges_162 : decode cX1_advanceNudges 162 = .ok (.iastore, 1) := by decide +kernel
theorem dX1_advanceNudges_163 : decode cX1_advanceNudges 163 = .ok (.aload_n 0, 1) := by decide +kernel
theorem dX1_advanceNudges_164 : decode cX1_advanceNudges 164 = .ok (.iload_n 1, 1) := by decide +kernel
theorem dX1_advanceNudges_165 : decode cX1_advanceNudges 165 = .ok (.iconst 4, 1) := by decide +kernel
theorem dX1_advanceNudges_166 : decode cX1_advanceNudges 166 = .ok (.invokevirtual 61, 3) := by decide +kernel
theorem dX1_advanceNudges_169 : decode cX1_advanceNudges 169 = .ok (.goto 68, 3) := by decide +kernel
theorem dX1_advanceNudges_172 : decode cX1_advanceNudges 172 = .ok (.aload_n 0, 1) := by decide +kernel
theorem dX1_advanceNudges_173 : decode cX1_advanceNudges 173 = .ok (.iload_n 1, 1) := by decide +kernel
theorem dX1_advanceNudges_174 : decode cX1_advanceNudges 174 = .ok (.aload_n 0, 1) := by decide +kernel
theorem dX1_advanceNudges_175 : decode cX1_advanceNudges 175 = .ok (.getfield 11, 3) := by decide +kernel
theorem dX1_advanceNudges_178 : decode cX1_advanceNudges 178 = .ok (.bipush 6, 2) := by decide +kernel
theorem dX1_advanceNudges_180 : decode cX1_advanceNudges 180 = .ok (.iload_n 1, 1) := by decide +kernel
theorem dX1_advanceNudges_181 : decode cX1_advanceNudges 181 = .ok (.iadd, 1) := by decide +kernel
theorem dX1_advanceNudges_182 : decode cX1_advanceNudges 182 = .ok (.iaload, 1) := by decide +kernel
theorem dX1_advanceNudges_183 : decode cX1_advanceNudges 183 = .ok (.bipush (-5), 2) := by decide +kernel
theorem dX1_advanceNudges_185 : decode cX1_advanceNudges 185 = .ok (.if_icmp .ne 7, 3) := by decide +kernel
theorem dX1_advanceNudges_188 : decode cX1_advanceNudges 188 = .ok (.iconst 5, 1) := by decide +kernel
theorem dX1_advanceNudges_189 : decode cX1_advanceNudges 189 = .ok (.goto 5, 3) := by decide +kernel
theorem dX1_advanceNudges_192 : decode cX1_advanceNudges 192 = .ok (.bipush 7, 2) := by decide +kernel
theorem dX1_advanceNudges_194 : decode cX1_advanceNudges 194 = .ok (.invokevirtual 61, 3) := by decide +kernel
theorem dX1_advanceNudges_197 : decode cX1_advanceNudges 197 = .ok (.goto 40, 3) := by decide +kernel
theorem dX1_advanceNudges_200 : decode cX1_advanceNudges 200 = .ok (.aload_n 0, 1) := by decide +kernel
theorem dX1_advanceNudges_201 : decode cX1_advanceNudges 201 = .ok (.iload_n 1, 1) := by decide +kernel
theorem dX1_advanceNudges_202 : decode cX1_advanceNudges 202 = .ok (.invokevirtual 68, 3) := by decide +kernel
theorem dX1_advanceNudges_205 : decode cX1_advanceNudges 205 = .ok (.goto 32, 3) := by decide +kernel
theorem dX1_advanceNudges_208 : decode cX1_advanceNudges 208 = .ok (.aload_n 0, 1) := by decide +kernel
theorem dX1_advanceNudges_209 : decode cX1_advanceNudges 209 = .ok (.iload_n 1, 1) := by decide +kernel
theorem dX1_advanceNudges_210 : decode cX1_advanceNudges 210 = .ok (.bipush 7, 2) := by decide +kernel
theorem dX1_advanceNudges_212 : decode cX1_advanceNudges 212 = .ok (.invokevirtual 61, 3) := by decide +kernel
theorem dX1_advanceNudges_215 : decode cX1_advanceNudges 215 = .ok (.goto 22, 3) := by decide +kernel
theorem dX1_advanceNudges_218 : decode cX1_advanceNudges 218 = .ok (.aload_n 0, 1) := by decide +kernel
theorem dX1_advanceNudges_219 : decode cX1_advanceNudges 219 = .ok (.aload_n 0, 1) := by decide +kernel
theorem dX1_advanceNudges_220 : decode cX1_advanceNudges 220 = .ok (.getfield 11, 3) := by decide +kernel
theorem dX1_advanceNudges_223 : decode cX1_advanceNudges 223 = .ok (.bipush 6, 2) := by decide +kernel
theorem dX1_advanceNudges_225 : decode cX1_advanceNudges 225 = .ok (.iload_n 1, 1) := by decide +kernel
theorem dX1_advanceNudges_226 : decode cX1_advanceNudges 226 = .ok (.iadd, 1) := by decide +kernel
theorem dX1_advanceNudges_227 : decode cX1_advanceNudges 227 = .ok (.iaload, 1) := by decide +kernel
theorem dX1_advanceNudges_228 : decode cX1_advanceNudges 228 = .ok (.invokevirtual 71, 3) := by decide +kernel
theorem dX1_advanceNudges_231 : decode cX1_advanceNudges 231 = .ok (.aload_n 0, 1) := by decide +kernel
theorem dX1_advanceNudges_232 : decode cX1_advanceNudges 232 = .ok (.iload_n 1, 1) := by decide +kernel
theorem dX1_advanceNudges_233 : decode cX1_advanceNudges 233 = .ok (.iconst 0, 1) := by decide +kernel
theorem dX1_advanceNudges_234 : decode cX1_advanceNudges 234 = .ok (.invokevirtual 61, 3) := by decide +kernel
theorem dX1_advanceNudges_237 : decode cX1_advanceNudges 237 = .ok (.return_, 1) := by decide +kernel
set_option maxRecDepth 20000 in
theorem ggX1_setNext_X4_isVisitor : GoodIn wsX1_setNext wsX4_isVisitor := goodIn_r _ [4] (by decide +kernel) (by decide +kernel)
set_option maxRecDepth 20000 in
theorem gX1_setNext_X4_isVisitor_n74 : GoodIn wsX1_setNext (wsX4_isVisitor) := ggX1_setNext_X4_isVisitor
theorem dX1_setNext_0 : decode cX1_setNext 0 = .ok (.iload_n 1, 1) := by decide +kernel
theorem dX1_setNext_1 : decode cX1_setNext 1 = .ok (.invokestatic 74, 3) := by decide +kernel
theorem dX1_setNext_4 : decode cX1_setNext 4 = .ok (.ifCond .eq 13, 3) := by decide +kernel
theorem dX1_setNext_7 : decode cX1_setNext 7 = .ok (.aload_n 0, 1) := by decide +kernel
theorem dX1_setNext_8 : decode cX1_setNext 8 = .ok (.getfield 11, 3) := by decide +kernel
theorem dX1_setNext_11 : decode cX1_setNext 11 = .ok (.bipush 6, 2) := by decide +kernel
theorem dX1_setNext_13 : decode cX1_setNext 13 = .ok (.iload_n 1, 1) := by decide +kernel
theorem dX1_setNext_14 : decode cX1_setNext 14 = .ok (.iadd, 1) := by decide +kernel
theorem dX1_setNext_15 : decode cX1_setNext 15 = .ok (.iload_n 2, 1) := by decide +kernel
theorem dX1_setNext_16 : decode cX1_setNext 16 = .ok (.iastore, 1) := by decide +kernel
theorem dX1_setNext_17 : decode cX1_setNext 17 = .ok (.return_, 1) := by decide +kernel
set_option maxRecDepth 20000 in
theorem ggX1_lowerFlag_X4_isVisitor : GoodIn wsX1_lowerFlag wsX4_isVisitor := goodIn_r _ [4] (by decide +kernel) (by decide +kernel)
set_option maxRecDepth 20000 in
theorem gX1_lowerFlag_X4_isVisitor_n74 : GoodIn wsX1_lowerFlag (wsX4_isVisitor) := ggX1_lowerFlag_X4_isVisitor
theorem dX1_lowerFlag_0 : decode cX1_lowerFlag 0 = .ok (.iload_n 1, 1) := by decide +kernel
theorem dX1_lowerFlag_1 : decode cX1_lowerFlag 1 = .ok (.invokestatic 74, 3) := by decide +kernel
theorem dX1_lowerFlag_4 : decode cX1_lowerFlag 4 = .ok (.ifCond .eq 13, 3) := by decide +kernel
theorem dX1_lowerFlag_7 : decode cX1_lowerFlag 7 = .ok (.aload_n 0, 1) := by decide +kernel
theorem dX1_lowerFlag_8 : decode cX1_lowerFlag 8 = .ok (.getfield 11, 3) := by decide +kernel
theorem dX1_lowerFlag_11 : decode cX1_lowerFlag 11 = .ok (.bipush 12, 2) := by decide +kernel
theorem dX1_lowerFlag_13 : decode cX1_lowerFlag 13 = .ok (.iload_n 1, 1) := by decide +kernel
theorem dX1_lowerFlag_14 : decode cX1_lowerFlag 14 = .ok (.iadd, 1) := by decide +kernel
theorem dX1_lowerFlag_15 : decode cX1_lowerFlag 15 = .ok (.iconst 0, 1) := by decide +kernel
theorem dX1_lowerFlag_16 : decode cX1_lowerFlag 16 = .ok (.iastore, 1) := by decide +kernel
theorem dX1_lowerFlag_17 : decode cX1_lowerFlag 17 = .ok (.return_, 1) := by decide +kernel
set_option maxRecDepth 20000 in
theorem ggX1_leaveTail_X1_moveTo : GoodIn wsX1_leaveTail wsX1_moveTo := goodIn_r _ [6, 1, 7] (by decide +kernel) (by decide +kernel)
set_option maxRecDepth 20000 in
theorem gX1_leaveTail_X1_moveTo : GoodIn wsX1_leaveTail (wsV RX1 61 RX1 yX1_moveTo wsX1_moveTo) := goodIn_app (goodIn_of _ (by decide +kernel)) ggX1_leaveTail_X1_moveTo
theorem dX1_leaveTail_0 : decode cX1_leaveTail 0 = .ok (.aload_n 0, 1) := by decide +kernel
theorem dX1_leaveTail_1 : decode cX1_leaveTail 1 = .ok (.getfield 11, 3) := by decide +kernel
theorem dX1_leaveTail_4 : decode cX1_leaveTail 4 = .ok (.bipush 49, 2) := by decide +kernel
theorem dX1_leaveTail_6 : decode cX1_leaveTail 6 = .ok (.iaload, 1) := by decide +kernel
theorem dX1_leaveTail_7 : decode cX1_leaveTail 7 = .ok (.iload_n 1, 1) := by decide +kernel
theorem dX1_leaveTail_8 : decode cX1_leaveTail 8 = .ok (.if_icmp .ne 21, 3) := by decide +kernel
theorem dX1_leaveTail_11 : decode cX1_leaveTail 11 = .ok (.aload_n 0, 1) := by decide +kernel
theorem dX1_leaveTail_12 : decode cX1_leaveTail 12 = .ok (.getfield 11, 3) := by decide +kernel
theorem dX1_leaveTail_15 : decode cX1_leaveTail 15 = .ok (.bipush 49, 2) := by decide +kernel
theorem dX1_leaveTail_17 : decode cX1_leaveTail 17 = .ok (.bipush (-5), 2) := by decide +kernel
theorem dX1_leaveTail_19 : decode cX1_leaveTail 19 = .ok (.iastore, 1) := by decide +kernel
theorem dX1_leaveTail_20 : decode cX1_leaveTail 20 = .ok (.aload_n 0, 1) := by decide +kernel
theorem dX1_leaveTail_21 : decode cX1_leaveTail 21 = .ok (.iload_n 1, 1) := by decide +kernel
theorem dX1_leaveTail_22 : decode cX1_leaveTail 22 = .ok (.iconst 0, 1) := by decide +kernel
theorem dX1_leaveTail_23 : decode cX1_leaveTail 23 = .ok (.invokevirtual 61, 3) := by decide +kernel
theorem dX1_leaveTail_26 : decode cX1_leaveTail 26 = .ok (.goto 10, 3) := by decide +kernel
theorem dX1_leaveTail_29 : decode cX1_leaveTail 29 = .ok (.aload_n 0, 1) := by decide +kernel
theorem dX1_leaveTail_30 : decode cX1_leaveTail 30 = .ok (.iload_n 1, 1) := by decide +kernel
theorem dX1_leaveTail_31 : decode cX1_leaveTail 31 = .ok (.bipush 6, 2) := by decide +kernel
theorem dX1_leaveTail_33 : decode cX1_leaveTail 33 = .ok (.invokevirtual 61, 3) := by decide +kernel
theorem dX1_leaveTail_36 : decode cX1_leaveTail 36 = .ok (.return_, 1) := by decide +kernel
set_option maxRecDepth 20000 in
theorem ggX1_advanceWatching_X1_stage : GoodIn wsX1_advanceWatching wsX1_stage := goodIn_r _ [6, 1, 18] (by decide +kernel) (by decide +kernel)
set_option maxRecDepth 20000 in
theorem gX1_advanceWatching_X1_stage : GoodIn wsX1_advanceWatching (wsV RX1 33 RX1 yX1_stage wsX1_stage) := goodIn_app (goodIn_of _ (by decide +kernel)) ggX1_advanceWatching_X1_stage
set_option maxRecDepth 20000 in
theorem ggX1_advanceWatching_X1_setCardFlag : GoodIn wsX1_advanceWatching wsX1_setCardFlag := goodIn_r _ [10, 1, 11, 12, 13, 18] (by decide +kernel) (by decide +kernel)
set_option maxRecDepth 20000 in
theorem gX1_advanceWatching_X1_setCardFlag : GoodIn wsX1_advanceWatching (wsV RX1 77 RX1 yX1_setCardFlag wsX1_setCardFlag) := goodIn_app (goodIn_of _ (by decide +kernel)) ggX1_advanceWatching_X1_setCardFlag
set_option maxRecDepth 20000 in
theorem ggX1_advanceWatching_X1_moveTo : GoodIn wsX1_advanceWatching wsX1_moveTo := goodIn_r _ [17, 1, 18] (by decide +kernel) (by decide +kernel)
set_option maxRecDepth 20000 in
theorem gX1_advanceWatching_X1_moveTo : GoodIn wsX1_advanceWatching (wsV RX1 61 RX1 yX1_moveTo wsX1_moveTo) := goodIn_app (goodIn_of _ (by decide +kernel)) ggX1_advanceWatching_X1_moveTo
theorem dX1_advanceWatching_0 : decode cX1_advanceWatching 0 = .ok (.aload_n 0, 1) := by decide +kernel
theorem dX1_advanceWatching_1 : decode cX1_advanceWatching 1 = .ok (.iload_n 1, 1) := by decide +kernel
theorem dX1_advanceWatching_2 : decode cX1_advanceWatching 2 = .ok (.invokevirtual 33, 3) := by decide +kernel
theorem dX1_advanceWatching_5 : decode cX1_advanceWatching 5 = .ok (.tableswitch 104 0 3 #[31, 54, 104, 95], 31) := by decide +kernel
theorem dX1_advanceWatching_36 : decode cX1_advanceWatching 36 = .ok (.aload_n 0, 1) := by decide +kernel
theorem dX1_advanceWatching_37 : decode cX1_advanceWatching 37 = .ok (.aload_n 0, 1) := by decide +kernel
theorem dX1_advanceWatching_38 : decode cX1_advanceWatching 38 = .ok (.getfield 11, 3) := by decide +kernel
theorem dX1_advanceWatching_41 : decode cX1_advanceWatching 41 = .ok (.bipush 24, 2) := by decide +kernel
theorem dX1_advanceWatching_43 : decode cX1_advanceWatching 43 = .ok (.iload_n 1, 1) := by decide +kernel
theorem dX1_advanceWatching_44 : decode cX1_advanceWatching 44 = .ok (.iadd, 1) := by decide +kernel
theorem dX1_advanceWatching_45 : decode cX1_advanceWatching 45 = .ok (.iaload, 1) := by decide +kernel
theorem dX1_advanceWatching_46 : decode cX1_advanceWatching 46 = .ok (.iconst 1, 1) := by decide +kernel
theorem dX1_advanceWatching_47 : decode cX1_advanceWatching 47 = .ok (.invokevirtual 77, 3) := by decide +kernel
theorem dX1_advanceWatching_50 : decode cX1_advanceWatching 50 = .ok (.aload_n 0, 1) := by decide +kernel
theorem dX1_advanceWatching_51 : decode cX1_advanceWatching 51 = .ok (.iload_n 1, 1) := by decide +kernel
theorem dX1_advanceWatching_52 : decode cX1_advanceWatching 52 = .ok (.iconst 1, 1) := by decide +kernel
theorem dX1_advanceWatching_53 : decode cX1_advanceWatching 53 = .ok (.invokevirtual 61, 3) := by decide +kernel
theorem dX1_advanceWatching_56 : decode cX1_advanceWatching 56 = .ok (.goto 102, 3) := by decide +kernel
theorem dX1_advanceWatching_59 : decode cX1_advanceWatching 59 = .ok (.aload_n 0, 1) := by decide +kernel
theorem dX1_advanceWatching_60 : decode cX1_advanceWatching 60 = .ok (.getfield 11, 3) := by decide +kernel
theorem dX1_advanceWatching_63 : decode cX1_advanceWatching 63 = .ok (.bipush 30, 2) := by decide +kernel
theorem dX1_advanceWatching_65 : decode cX1_advanceWatching 65 = .ok (.iload_n 1, 1) := by decide +kernel
theorem dX1_advanceWatching_66 : decode cX1_advanceWatching 66 = .ok (.iadd, 1) := by decide +kernel
theorem dX1_advanceWatching_67 : decode cX1_advanceWatching 67 = .ok (.aload_n 0, 1) := by decide +kernel
theorem dX1_advanceWatching_68 : decode cX1_advanceWatching 68 = .ok (.getfield 11, 3) := by decide +kernel
theorem dX1_advanceWatching_71 : decode cX1_advanceWatching 71 = .ok (.bipush 49, 2) := by decide +kernel
theorem dX1_advanceWatching_73 : decode cX1_advanceWatching 73 = .ok (.iaload, 1) := by decide +kernel
theorem dX1_advanceWatching_74 : decode cX1_advanceWatching 74 = .ok (.iastore, 1) := by decide +kernel
theorem dX1_advanceWatching_75 : decode cX1_advanceWatching 75 = .ok (.aload_n 0, 1) := by decide +kernel
theorem dX1_advanceWatching_76 : decode cX1_advanceWatching 76 = .ok (.getfield 11, 3) := by decide +kernel
theorem dX1_advanceWatching_79 : decode cX1_advanceWatching 79 = .ok (.bipush 49, 2) := by decide +kernel
theorem dX1_advanceWatching_81 : decode cX1_advanceWatching 81 = .ok (.aload_n 0, 1) := by decide +kernel
theorem dX1_advanceWatching_82 : decode cX1_advanceWatching 82 = .ok (.getfield 11, 3) := by decide +kernel
theorem dX1_advanceWatching_85 : decode cX1_advanceWatching 85 = .ok (.bipush 24, 2) := by decide +kernel
theorem dX1_advanceWatching_87 : decode cX1_advanceWatching 87 = .ok (.iload_n 1, 1) := by decide +kernel
theorem dX1_advanceWatching_88 : decode cX1_advanceWatching 88 = .ok (.iadd, 1) := by decide +kernel
theorem dX1_advanceWatching_89 : decode cX1_advanceWatching 89 = .ok (.iaload, 1) := by decide +kernel
theorem dX1_advanceWatching_90 : decode cX1_advanceWatching 90 = .ok (.iastore, 1) := by decide +kernel
theorem dX1_advanceWatching_91 : decode cX1_advanceWatching 91 = .ok (.aload_n 0, 1) := by decide +kernel
theorem dX1_advanceWatching_92 : decode cX1_advanceWatching 92 = .ok (.iload_n 1, 1) := by decide +kernel
theorem dX1_advanceWatching_93 : decode cX1_advanceWatching 93 = .ok (.iconst 3, 1) := by decide +kernel
theorem dX1_advanceWatching_94 : decode cX1_advanceWatching 94 = .ok (.invokevirtual 61, 3) := by decide +kernel
theorem dX1_advanceWatching_97 : decode cX1_advanceWatching 97 = .ok (.goto 61, 3) := by decide +kernel
theorem dX1_advanceWatching_100 : decode cX1_advanceWatching 100 = .ok (.aload_n 0, 1) := by decide +kernel
theorem dX1_advanceWatching_101 : decode cX1_advanceWatching 101 = .ok (.iload_n 1, 1) := by decide +kernel
theorem dX1_advanceWatching_102 : decode cX1_advanceWatching 102 = .ok (.iconst 4, 1) := by decide +kernel
theorem dX1_advanceWatching_103 : decode cX1_advanceWatching 103 = .ok (.invokevirtual 61, 3) := by decide +kernel
theorem dX1_advanceWatching_106 : decode cX1_advanceWatching 106 = .ok (.goto 52, 3) := by decide +kernel
theorem dX1_advanceWatching_109 : decode cX1_advanceWatching 109 = .ok (.aload_n 0, 1) := by decide +kernel
theorem dX1_advanceWatching_110 : decode cX1_advanceWatching 110 = .ok (.aload_n 0, 1) := by decide +kernel
theorem dX1_advanceWatching_111 : decode cX1_advanceWatching 111 = .ok (.getfield 11, 3) := by decide +kernel
theorem dX1_advanceWatching_114 : decode cX1_advanceWatching 114 = .ok (.bipush 24, 2) := by decide +kernel
theorem dX1_advanceWatching_116 : decode cX1_advanceWatching 116 = .ok (.iload_n 1, 1) := by decide +kernel
theorem dX1_advanceWatching_117 : decode cX1_advanceWatching 117 = .ok (.iadd, 1) := by decide +kernel
theorem dX1_advanceWatching_118 : decode cX1_advanceWatching 118 = .ok (.iaload, 1) := by decide +kernel
theorem dX1_advanceWatching_119 : decode cX1_advanceWatching 119 = .ok (.iconst 0, 1) := by decide +kernel
theorem dX1_advanceWatching_120 : decode cX1_advanceWatching 120 = .ok (.invokevirtual 77, 3) := by decide +kernel
theorem dX1_advanceWatching_123 : decode cX1_advanceWatching 123 = .ok (.aload_n 0, 1) := by decide +kernel
theorem dX1_advanceWatching_124 : decode cX1_advanceWatching 124 = .ok (.getfield 11, 3) := by decide +kernel
theorem dX1_advanceWatching_127 : decode cX1_advanceWatching 127 = .ok (.bipush 24, 2) := by decide +kernel
theorem dX1_advanceWatching_129 : decode cX1_advanceWatching 129 = .ok (.iload_n 1, 1) := by decide +kernel
theorem dX1_advanceWatching_130 : decode cX1_advanceWatching 130 = .ok (.iadd, 1) := by decide +kernel
theorem dX1_advanceWatching_131 : decode cX1_advanceWatching 131 = .ok (.aload_n 0, 1) := by decide +kernel
theorem dX1_advanceWatching_132 : decode cX1_advanceWatching 132 = .ok (.getfield 11, 3) := by decide +kernel
theorem dX1_advanceWatching_135 : decode cX1_advanceWatching 135 = .ok (.bipush 30, 2) := by decide +kernel
theorem dX1_advanceWatching_137 : decode cX1_advanceWatching 137 = .ok (.iload_n 1, 1) := by decide +kernel
theorem dX1_advanceWatching_138 : decode cX1_advanceWatching 138 = .ok (.iadd, 1) := by decide +kernel
theorem dX1_advanceWatching_139 : decode cX1_advanceWatching 139 = .ok (.iaload, 1) := by decide +kernel
theorem dX1_advanceWatching_140 : decode cX1_advanceWatching 140 = .ok (.iastore, 1) := by decide +kernel
theorem dX1_advanceWatching_141 : decode cX1_advanceWatching 141 = .ok (.aload_n 0, 1) := by decide +kernel
theorem dX1_advanceWatching_142 : decode cX1_advanceWatching 142 = .ok (.getfield 11, 3) := by decide +kernel
theorem dX1_advanceWatching_145 : decode cX1_advanceWatching 145 = .ok (.bipush 30, 2) := by decide +kernel
theorem dX1_advanceWatching_147 : decode cX1_advanceWatching 147 = .ok (.iload_n 1, 1) := by decide +kernel
theorem dX1_advanceWatching_148 : decode cX1_advanceWatching 148 = .ok (.iadd, 1) := by decide +kernel
theorem dX1_advanceWatching_149 : decode cX1_advanceWatching 149 = .ok (.bipush (-5), 2) := by decide +kernel
theorem dX1_advanceWatching_151 : decode cX1_advanceWatching 151 = .ok (.iastore, 1) := by decide +kernel
theorem dX1_advanceWatching_152 : decode cX1_advanceWatching 152 = .ok (.aload_n 0, 1) := by decide +kernel
theorem dX1_advanceWatching_153 : decode cX1_advanceWatching 153 = .ok (.iload_n 1, 1) := by decide +kernel
theorem dX1_advanceWatching_154 : decode cX1_advanceWatching 154 = .ok (.iconst 0, 1) := by decide +kernel
theorem dX1_advanceWatching_155 : decode cX1_advanceWatching 155 = .ok (.invokevirtual 61, 3) := by decide +kernel
theorem dX1_advanceWatching_158 : decode cX1_advanceWatching 158 = .ok (.return_, 1) := by decide +kernel
set_option maxRecDepth 20000 in
theorem ggX1_setCardFlag_X4_isCard : GoodIn wsX1_setCardFlag wsX4_isCard := goodIn_r _ [4] (by decide +kernel) (by decide +kernel)
set_option maxRecDepth 20000 in
theorem gX1_setCardFlag_X4_isCard_n29 : GoodIn wsX1_setCardFlag (wsX4_isCard) := ggX1_setCardFlag_X4_isCard
theorem dX1_setCardFlag_0 : decode cX1_setCardFlag 0 = .ok (.iload_n 1, 1) := by decide +kernel
theorem dX1_setCardFlag_1 : decode cX1_setCardFlag 1 = .ok (.invokestatic 29, 3) := by decide +kernel
theorem dX1_setCardFlag_4 : decode cX1_setCardFlag 4 = .ok (.ifCond .eq 13, 3) := by decide +kernel
theorem dX1_setCardFlag_7 : decode cX1_setCardFlag 7 = .ok (.aload_n 0, 1) := by decide +kernel
theorem dX1_setCardFlag_8 : decode cX1_setCardFlag 8 = .ok (.getfield 11, 3) := by decide +kernel
theorem dX1_setCardFlag_11 : decode cX1_setCardFlag 11 = .ok (.bipush 42, 2) := by decide +kernel
theorem dX1_setCardFlag_13 : decode cX1_setCardFlag 13 = .ok (.iload_n 1, 1) := by decide +kernel
theorem dX1_setCardFlag_14 : decode cX1_setCardFlag 14 = .ok (.iadd, 1) := by decide +kernel
theorem dX1_setCardFlag_15 : decode cX1_setCardFlag 15 = .ok (.iload_n 2, 1) := by decide +kernel
theorem dX1_setCardFlag_16 : decode cX1_setCardFlag 16 = .ok (.iastore, 1) := by decide +kernel
theorem dX1_setCardFlag_17 : decode cX1_setCardFlag 17 = .ok (.return_, 1) := by decide +kernel
set_option maxRecDepth 20000 in
theorem ggX1_advanceTickets_X1_stage : GoodIn wsX1_advanceTickets wsX1_stage := goodIn_r _ [6, 1, 11] (by decide +kernel) (by decide +kernel)
set_option maxRecDepth 20000 in
theorem gX1_advanceTickets_X1_stage : GoodIn wsX1_advanceTickets (wsV RX1 33 RX1 yX1_stage wsX1_stage) := goodIn_app (goodIn_of _ (by decide +kernel)) ggX1_advanceTickets_X1_stage
set_option maxRecDepth 20000 in
theorem ggX1_advanceTickets_X1_moveTo : GoodIn wsX1_advanceTickets wsX1_moveTo := goodIn_r _ [10, 1, 11] (by decide +kernel) (by decide +kernel)
set_option maxRecDepth 20000 in
theorem gX1_advanceTickets_X1_moveTo : GoodIn wsX1_advanceTickets (wsV RX1 61 RX1 yX1_moveTo wsX1_moveTo) := goodIn_app (goodIn_of _ (by decide +kernel)) ggX1_advanceTickets_X1_moveTo
theorem dX1_advanceTickets_0 : decode cX1_advanceTickets 0 = .ok (.aload_n 0, 1) := by decide +kernel
theorem dX1_advanceTickets_1 : decode cX1_advanceTickets 1 = .ok (.iload_n 1, 1) := by decide +kernel
theorem dX1_advanceTickets_2 : decode cX1_advanceTickets 2 = .ok (.invokevirtual 33, 3) := by decide +kernel
theorem dX1_advanceTickets_5 : decode cX1_advanceTickets 5 = .ok (.lookupswitch 72 #[(0, 27), (3, 63)], 27) := by decide +kernel
theorem dX1_advanceTickets_32 : decode cX1_advanceTickets 32 = .ok (.aload_n 0, 1) := by decide +kernel
theorem dX1_advanceTickets_33 : decode cX1_advanceTickets 33 = .ok (.getfield 11, 3) := by decide +kernel
theorem dX1_advanceTickets_36 : decode cX1_advanceTickets 36 = .ok (.bipush 36, 2) := by decide +kernel
theorem dX1_advanceTickets_38 : decode cX1_advanceTickets 38 = .ok (.iload_n 1, 1) := by decide +kernel
theorem dX1_advanceTickets_39 : decode cX1_advanceTickets 39 = .ok (.iadd, 1) := by decide +kernel
theorem dX1_advanceTickets_40 : decode cX1_advanceTickets 40 = .ok (.aload_n 0, 1) := by decide +kernel
theorem dX1_advanceTickets_41 : decode cX1_advanceTickets 41 = .ok (.getfield 11, 3) := by decide +kernel
theorem dX1_advanceTickets_44 : decode cX1_advanceTickets 44 = .ok (.bipush 50, 2) := by decide +kernel
theorem dX1_advanceTickets_46 : decode cX1_advanceTickets 46 = .ok (.iaload, 1) := by decide +kernel
theorem dX1_advanceTickets_47 : decode cX1_advanceTickets 47 = .ok (.iastore, 1) := by decide +kernel
theorem dX1_advanceTickets_48 : decode cX1_advanceTickets 48 = .ok (.aload_n 0, 1) := by decide +kernel
theorem dX1_advanceTickets_49 : decode cX1_advanceTickets 49 = .ok (.getfield 11, 3) := by decide +kernel
theorem dX1_advanceTickets_52 : decode cX1_advanceTickets 52 = .ok (.bipush 50, 2) := by decide +kernel
theorem dX1_advanceTickets_54 : decode cX1_advanceTickets 54 = .ok (.dup2, 1) := by decide +kernel
theorem dX1_advanceTickets_55 : decode cX1_advanceTickets 55 = .ok (.iaload, 1) := by decide +kernel
theorem dX1_advanceTickets_56 : decode cX1_advanceTickets 56 = .ok (.iconst 1, 1) := by decide +kernel
theorem dX1_advanceTickets_57 : decode cX1_advanceTickets 57 = .ok (.iadd, 1) := by decide +kernel
theorem dX1_advanceTickets_58 : decode cX1_advanceTickets 58 = .ok (.iastore, 1) := by decide +kernel
theorem dX1_advanceTickets_59 : decode cX1_advanceTickets 59 = .ok (.aload_n 0, 1) := by decide +kernel
theorem dX1_advanceTickets_60 : decode cX1_advanceTickets 60 = .ok (.iload_n 1, 1) := by decide +kernel
theorem dX1_advanceTickets_61 : decode cX1_advanceTickets 61 = .ok (.iconst 3, 1) := by decide +kernel
theorem dX1_advanceTickets_62 : decode cX1_advanceTickets 62 = .ok (.invokevirtual 61, 3) := by decide +kernel
theorem dX1_advanceTickets_65 : decode cX1_advanceTickets 65 = .ok (.goto 40, 3) := by decide +kernel
theorem dX1_advanceTickets_68 : decode cX1_advanceTickets 68 = .ok (.aload_n 0, 1) := by decide +kernel
theorem dX1_advanceTickets_69 : decode cX1_advanceTickets 69 = .ok (.iload_n 1, 1) := by decide +kernel
theorem dX1_advanceTickets_70 : decode cX1_advanceTickets 70 = .ok (.iconst 4, 1) := by decide +kernel
theorem dX1_advanceTickets_71 : decode cX1_advanceTickets 71 = .ok (.invokevirtual 61, 3) := by decide +kernel
theorem dX1_advanceTickets_74 : decode cX1_advanceTickets 74 = .ok (.goto 31, 3) := by decide +kernel
theorem dX1_advanceTickets_77 : decode cX1_advanceTickets 77 = .ok (.aload_n 0, 1) := by decide +kernel
theorem dX1_advanceTickets_78 : decode cX1_advanceTickets 78 = .ok (.getfield 11, 3) := by decide +kernel
theorem dX1_advanceTickets_81 : decode cX1_advanceTickets 81 = .ok (.bipush 51, 2) := by decide +kernel
theorem dX1_advanceTickets_83 : decode cX1_advanceTickets 83 = .ok (.dup2, 1) := by decide +kernel
theorem dX1_advanceTickets_84 : decode cX1_advanceTickets 84 = .ok (.iaload, 1) := by decide +kernel
theorem dX1_advanceTickets_85 : decode cX1_advanceTickets 85 = .ok (.iconst 1, 1) := by decide +kernel
theorem dX1_advanceTickets_86 : decode cX1_advanceTickets 86 = .ok (.iadd, 1) := by decide +kernel
theorem dX1_advanceTickets_87 : decode cX1_advanceTickets 87 = .ok (.iastore, 1) := by decide +kernel
theorem dX1_advanceTickets_88 : decode cX1_advanceTickets 88 = .ok (.aload_n 0, 1) := by decide +kernel
theorem dX1_advanceTickets_89 : decode cX1_advanceTickets 89 = .ok (.getfield 11, 3) := by decide +kernel
theorem dX1_advanceTickets_92 : decode cX1_advanceTickets 92 = .ok (.bipush 36, 2) := by decide +kernel
theorem dX1_advanceTickets_94 : decode cX1_advanceTickets 94 = .ok (.iload_n 1, 1) := by decide +kernel
theorem dX1_advanceTickets_95 : decode cX1_advanceTickets 95 = .ok (.iadd, 1) := by decide +kernel
theorem dX1_advanceTickets_96 : decode cX1_advanceTickets 96 = .ok (.bipush (-5), 2) := by decide +kernel
end
section
theorem dX1_advanceTickets_98 : decode cX1_advanceTickets 98 = .ok (.iastore, 1) := by decide +kernel
theorem dX1_advanceTickets_99 : decode cX1_advanceTickets 99 = .ok (.aload_n 0, 1) := by decide +kernel
theorem dX1_advanceTickets_100 : decode cX1_advanceTickets 100 = .ok (.iload_n 1, 1) := by decide +kernel
theorem dX1_advanceTickets_101 : decode cX1_advanceTickets 101 = .ok (.iconst 0, 1) := by decide +kernel
theorem dX1_advanceTickets_102 : decode cX1_advanceTickets 102 = .ok (.invokevirtual 61, 3) := by decide +kernel
theorem dX1_advanceTickets_105 : decode cX1_advanceTickets 105 = .ok (.return_, 1) := by decide +kernel
set_option maxRecDepth 20000 in
theorem ggX1_advanceGrabbing_X1_stage : GoodIn wsX1_advanceGrabbing wsX1_stage := goodIn_r _ [6, 1, 11] (by decide +kernel) (by decide +kernel)
set_option maxRecDepth 20000 in
theorem gX1_advanceGrabbing_X1_stage : GoodIn wsX1_advanceGrabbing (wsV RX1 33 RX1 yX1_stage wsX1_stage) := goodIn_app (goodIn_of _ (by decide +kernel)) ggX1_advanceGrabbing_X1_stage
set_option maxRecDepth 20000 in
theorem ggX1_advanceGrabbing_X1_moveTo : GoodIn wsX1_advanceGrabbing wsX1_moveTo := goodIn_r _ [10, 1, 11] (by decide +kernel) (by decide +kernel)
set_option maxRecDepth 20000 in
theorem gX1_advanceGrabbing_X1_moveTo : GoodIn wsX1_advanceGrabbing (wsV RX1 61 RX1 yX1_moveTo wsX1_moveTo) := goodIn_app (goodIn_of _ (by decide +kernel)) ggX1_advanceGrabbing_X1_moveTo
theorem dX1_advanceGrabbing_0 : decode cX1_advanceGrabbing 0 = .ok (.aload_n 0, 1) := by decide +kernel
theorem dX1_advanceGrabbing_1 : decode cX1_advanceGrabbing 1 = .ok (.iload_n 1, 1) := by decide +kernel
theorem dX1_advanceGrabbing_2 : decode cX1_advanceGrabbing 2 = .ok (.invokevirtual 33, 3) := by decide +kernel
theorem dX1_advanceGrabbing_5 : decode cX1_advanceGrabbing 5 = .ok (.lookupswitch 53 #[(0, 27), (3, 36)], 27) := by decide +kernel
theorem dX1_advanceGrabbing_32 : decode cX1_advanceGrabbing 32 = .ok (.aload_n 0, 1) := by decide +kernel
theorem dX1_advanceGrabbing_33 : decode cX1_advanceGrabbing 33 = .ok (.iload_n 1, 1) := by decide +kernel
theorem dX1_advanceGrabbing_34 : decode cX1_advanceGrabbing 34 = .ok (.iconst 3, 1) := by decide +kernel
theorem dX1_advanceGrabbing_35 : decode cX1_advanceGrabbing 35 = .ok (.invokevirtual 61, 3) := by decide +kernel
theorem dX1_advanceGrabbing_38 : decode cX1_advanceGrabbing 38 = .ok (.goto 34, 3) := by decide +kernel
theorem dX1_advanceGrabbing_41 : decode cX1_advanceGrabbing 41 = .ok (.aload_n 0, 1) := by decide +kernel
theorem dX1_advanceGrabbing_42 : decode cX1_advanceGrabbing 42 = .ok (.getfield 11, 3) := by decide +kernel
theorem dX1_advanceGrabbing_45 : decode cX1_advanceGrabbing 45 = .ok (.bipush 52, 2) := by decide +kernel
theorem dX1_advanceGrabbing_47 : decode cX1_advanceGrabbing 47 = .ok (.iconst 1, 1) := by decide +kernel
theorem dX1_advanceGrabbing_48 : decode cX1_advanceGrabbing 48 = .ok (.iastore, 1) := by decide +kernel
theorem dX1_advanceGrabbing_49 : decode cX1_advanceGrabbing 49 = .ok (.aload_n 0, 1) := by decide +kernel
theorem dX1_advanceGrabbing_50 : decode cX1_advanceGrabbing 50 = .ok (.iload_n 1, 1) := by decide +kernel
theorem dX1_advanceGrabbing_51 : decode cX1_advanceGrabbing 51 = .ok (.iconst 4, 1) := by decide +kernel
theorem dX1_advanceGrabbing_52 : decode cX1_advanceGrabbing 52 = .ok (.invokevirtual 61, 3) := by decide +kernel
theorem dX1_advanceGrabbing_55 : decode cX1_advanceGrabbing 55 = .ok (.goto 17, 3) := by decide +kernel
theorem dX1_advanceGrabbing_58 : decode cX1_advanceGrabbing 58 = .ok (.aload_n 0, 1) := by decide +kernel
theorem dX1_advanceGrabbing_59 : decode cX1_advanceGrabbing 59 = .ok (.getfield 11, 3) := by decide +kernel
theorem dX1_advanceGrabbing_62 : decode cX1_advanceGrabbing 62 = .ok (.bipush 52, 2) := by decide +kernel
theorem dX1_advanceGrabbing_64 : decode cX1_advanceGrabbing 64 = .ok (.iconst 0, 1) := by decide +kernel
theorem dX1_advanceGrabbing_65 : decode cX1_advanceGrabbing 65 = .ok (.iastore, 1) := by decide +kernel
theorem dX1_advanceGrabbing_66 : decode cX1_advanceGrabbing 66 = .ok (.aload_n 0, 1) := by decide +kernel
theorem dX1_advanceGrabbing_67 : decode cX1_advanceGrabbing 67 = .ok (.iload_n 1, 1) := by decide +kernel
theorem dX1_advanceGrabbing_68 : decode cX1_advanceGrabbing 68 = .ok (.iconst 0, 1) := by decide +kernel
theorem dX1_advanceGrabbing_69 : decode cX1_advanceGrabbing 69 = .ok (.invokevirtual 61, 3) := by decide +kernel
theorem dX1_advanceGrabbing_72 : decode cX1_advanceGrabbing 72 = .ok (.return_, 1) := by decide +kernel
theorem dX1_moveTo_0 : decode cX1_moveTo 0 = .ok (.aload_n 0, 1) := by decide +kernel
theorem dX1_moveTo_1 : decode cX1_moveTo 1 = .ok (.getfield 11, 3) := by decide +kernel
theorem dX1_moveTo_4 : decode cX1_moveTo 4 = .ok (.iconst 0, 1) := by decide +kernel
theorem dX1_moveTo_5 : decode cX1_moveTo 5 = .ok (.iload_n 1, 1) := by decide +kernel
theorem dX1_moveTo_6 : decode cX1_moveTo 6 = .ok (.iadd, 1) := by decide +kernel
theorem dX1_moveTo_7 : decode cX1_moveTo 7 = .ok (.iload_n 2, 1) := by decide +kernel
theorem dX1_moveTo_8 : decode cX1_moveTo 8 = .ok (.iastore, 1) := by decide +kernel
theorem dX1_moveTo_9 : decode cX1_moveTo 9 = .ok (.return_, 1) := by decide +kernel
theorem dX2_init_0 : decode cX2_init 0 = .ok (.aload_n 0, 1) := by decide +kernel
theorem dX2_init_1 : decode cX2_init 1 = .ok (.invokespecial 3, 3) := by decide +kernel
theorem dX2_init_4 : decode cX2_init 4 = .ok (.aload_n 0, 1) := by decide +kernel
theorem dX2_init_5 : decode cX2_init 5 = .ok (.sipush 2000, 3) := by decide +kernel
theorem dX2_init_8 : decode cX2_init 8 = .ok (.newarray .byte, 2) := by decide +kernel
theorem dX2_init_10 : decode cX2_init 10 = .ok (.putfield 9, 3) := by decide +kernel
theorem dX2_init_13 : decode cX2_init 13 = .ok (.aload_n 0, 1) := by decide +kernel
theorem dX2_init_14 : decode cX2_init 14 = .ok (.bipush 60, 2) := by decide +kernel
theorem dX2_init_16 : decode cX2_init 16 = .ok (.newarray .int, 2) := by decide +kernel
theorem dX2_init_18 : decode cX2_init 18 = .ok (.putfield 15, 3) := by decide +kernel
theorem dX2_init_21 : decode cX2_init 21 = .ok (.aload_n 0, 1) := by decide +kernel
theorem dX2_init_22 : decode cX2_init 22 = .ok (.bipush 60, 2) := by decide +kernel
theorem dX2_init_24 : decode cX2_init 24 = .ok (.newarray .int, 2) := by decide +kernel
theorem dX2_init_26 : decode cX2_init 26 = .ok (.putfield 19, 3) := by decide +kernel
theorem dX2_init_29 : decode cX2_init 29 = .ok (.aload_n 0, 1) := by decide +kernel
theorem dX2_init_30 : decode cX2_init 30 = .ok (.iconst 0, 1) := by decide +kernel
theorem dX2_init_31 : decode cX2_init 31 = .ok (.putfield 22, 3) := by decide +kernel
theorem dX2_init_34 : decode cX2_init 34 = .ok (.aload_n 0, 1) := by decide +kernel
theorem dX2_init_35 : decode cX2_init 35 = .ok (.iconst 0, 1) := by decide +kernel
theorem dX2_init_36 : decode cX2_init 36 = .ok (.putfield 26, 3) := by decide +kernel
theorem dX2_init_39 : decode cX2_init 39 = .ok (.return_, 1) := by decide +kernel
set_option maxRecDepth 20000 in
theorem ggX2_fault_X2_isLetter : GoodIn wsX2_fault wsX2_isLetter := goodIn_r _ [4] (by decide +kernel) (by decide +kernel)
set_option maxRecDepth 20000 in
theorem gX2_fault_X2_isLetter : GoodIn wsX2_fault (va_wsS RX2 29 yX2_isLetter wsX2_isLetter) := goodIn_app (goodIn_of _ (by decide +kernel)) ggX2_fault_X2_isLetter
set_option maxRecDepth 20000 in
theorem ggX2_fault_X2_isDigit : GoodIn wsX2_fault wsX2_isDigit := goodIn_r _ [7] (by decide +kernel) (by decide +kernel)
set_option maxRecDepth 20000 in
theorem gX2_fault_X2_isDigit : GoodIn wsX2_fault (va_wsS RX2 33 yX2_isDigit wsX2_isDigit) := goodIn_app (goodIn_of _ (by decide +kernel)) ggX2_fault_X2_isDigit
theorem dX2_fault_0 : decode cX2_fault 0 = .ok (.iconst 0, 1) := by decide +kernel
theorem dX2_fault_1 : decode cX2_fault 1 = .ok (.istore_n 2, 1) := by decide +kernel
theorem dX2_fault_2 : decode cX2_fault 2 = .ok (.iconst 0, 1) := by decide +kernel
theorem dX2_fault_3 : decode cX2_fault 3 = .ok (.istore_n 3, 1) := by decide +kernel
theorem dX2_fault_4 : decode cX2_fault 4 = .ok (.iconst 0, 1) := by decide +kernel
theorem dX2_fault_5 : decode cX2_fault 5 = .ok (.istore 4, 2) := by decide +kernel
theorem dX2_fault_7 : decode cX2_fault 7 = .ok (.iconst 0, 1) := by decide +kernel
theorem dX2_fault_8 : decode cX2_fault 8 = .ok (.istore 5, 2) := by decide +kernel
theorem dX2_fault_10 : decode cX2_fault 10 = .ok (.iload 5, 2) := by decide +kernel
theorem dX2_fault_12 : decode cX2_fault 12 = .ok (.iload_n 1, 1) := by decide +kernel
theorem dX2_fault_13 : decode cX2_fault 13 = .ok (.if_icmp .ge 101, 3) := by decide +kernel
theorem dX2_fault_16 : decode cX2_fault 16 = .ok (.iload 5, 2) := by decide +kernel
theorem dX2_fault_18 : decode cX2_fault 18 = .ok (.aload_n 0, 1) := by decide +kernel
theorem dX2_fault_19 : decode cX2_fault 19 = .ok (.arraylength, 1) := by decide +kernel
theorem dX2_fault_20 : decode cX2_fault 20 = .ok (.if_icmp .ge 94, 3) := by decide +kernel
theorem dX2_fault_23 : decode cX2_fault 23 = .ok (.aload_n 0, 1) := by decide +kernel
theorem dX2_fault_24 : decode cX2_fault 24 = .ok (.iload 5, 2) := by decide +kernel
theorem dX2_fault_26 : decode cX2_fault 26 = .ok (.caload, 1) := by decide +kernel
theorem dX2_fault_27 : decode cX2_fault 27 = .ok (.istore 6, 2) := by decide +kernel
theorem dX2_fault_29 : decode cX2_fault 29 = .ok (.iload 6, 2) := by decide +kernel
theorem dX2_fault_31 : decode cX2_fault 31 = .ok (.invokestatic 29, 3) := by decide +kernel
theorem dX2_fault_34 : decode cX2_fault 34 = .ok (.ifCond .eq 11, 3) := by decide +kernel
theorem dX2_fault_37 : decode cX2_fault 37 = .ok (.iconst 1, 1) := by decide +kernel
theorem dX2_fault_38 : decode cX2_fault 38 = .ok (.istore_n 3, 1) := by decide +kernel
theorem dX2_fault_39 : decode cX2_fault 39 = .ok (.iconst 0, 1) := by decide +kernel
theorem dX2_fault_40 : decode cX2_fault 40 = .ok (.istore 4, 2) := by decide +kernel
theorem dX2_fault_42 : decode cX2_fault 42 = .ok (.goto 66, 3) := by decide +kernel
theorem dX2_fault_45 : decode cX2_fault 45 = .ok (.iload 6, 2) := by decide +kernel
theorem dX2_fault_47 : decode cX2_fault 47 = .ok (.bipush 40, 2) := by decide +kernel
theorem dX2_fault_49 : decode cX2_fault 49 = .ok (.if_icmp .ne 14, 3) := by decide +kernel
theorem dX2_fault_52 : decode cX2_fault 52 = .ok (.iinc 2 1, 3) := by decide +kernel
theorem dX2_fault_55 : decode cX2_fault 55 = .ok (.iconst 0, 1) := by decide +kernel
theorem dX2_fault_56 : decode cX2_fault 56 = .ok (.istore_n 3, 1) := by decide +kernel
theorem dX2_fault_57 : decode cX2_fault 57 = .ok (.iconst 0, 1) := by decide +kernel
theorem dX2_fault_58 : decode cX2_fault 58 = .ok (.istore 4, 2) := by decide +kernel
theorem dX2_fault_60 : decode cX2_fault 60 = .ok (.goto 48, 3) := by decide +kernel
theorem dX2_fault_63 : decode cX2_fault 63 = .ok (.iload 6, 2) := by decide +kernel
theorem dX2_fault_65 : decode cX2_fault 65 = .ok (.bipush 41, 2) := by decide +kernel
theorem dX2_fault_67 : decode cX2_fault 67 = .ok (.if_icmp .ne 17, 3) := by decide +kernel
theorem dX2_fault_70 : decode cX2_fault 70 = .ok (.iload_n 3, 1) := by decide +kernel
theorem dX2_fault_71 : decode cX2_fault 71 = .ok (.ifCond .eq 13, 3) := by decide +kernel
theorem dX2_fault_74 : decode cX2_fault 74 = .ok (.iload_n 2, 1) := by decide +kernel
theorem dX2_fault_75 : decode cX2_fault 75 = .ok (.ifCond .le 9, 3) := by decide +kernel
theorem dX2_fault_78 : decode cX2_fault 78 = .ok (.iinc 2 (-1), 3) := by decide +kernel
theorem dX2_fault_81 : decode cX2_fault 81 = .ok (.goto 27, 3) := by decide +kernel
theorem dX2_fault_84 : decode cX2_fault 84 = .ok (.iload 6, 2) := by decide +kernel
theorem dX2_fault_86 : decode cX2_fault 86 = .ok (.invokestatic 33, 3) := by decide +kernel
theorem dX2_fault_89 : decode cX2_fault 89 = .ok (.ifCond .eq 16, 3) := by decide +kernel
theorem dX2_fault_92 : decode cX2_fault 92 = .ok (.iload 4, 2) := by decide +kernel
theorem dX2_fault_94 : decode cX2_fault 94 = .ok (.ifCond .ne 11, 3) := by decide +kernel
theorem dX2_fault_97 : decode cX2_fault 97 = .ok (.iconst 0, 1) := by decide +kernel
theorem dX2_fault_98 : decode cX2_fault 98 = .ok (.istore_n 3, 1) := by decide +kernel
theorem dX2_fault_99 : decode cX2_fault 99 = .ok (.iconst 1, 1) := by decide +kernel
theorem dX2_fault_100 : decode cX2_fault 100 = .ok (.istore 4, 2) := by decide +kernel
theorem dX2_fault_102 : decode cX2_fault 102 = .ok (.goto 6, 3) := by decide +kernel
theorem dX2_fault_105 : decode cX2_fault 105 = .ok (.iload 5, 2) := by decide +kernel
theorem dX2_fault_107 : decode cX2_fault 107 = .ok (.ireturn, 1) := by decide +kernel
theorem dX2_fault_108 : decode cX2_fault 108 = .ok (.iinc 5 1, 3) := by decide +kernel
theorem dX2_fault_111 : decode cX2_fault 111 = .ok (.goto (-101), 3) := by decide +kernel
theorem dX2_fault_114 : decode cX2_fault 114 = .ok (.iload_n 3, 1) := by decide +kernel
theorem dX2_fault_115 : decode cX2_fault 115 = .ok (.ifCond .eq 12, 3) := by decide +kernel
theorem dX2_fault_118 : decode cX2_fault 118 = .ok (.iload_n 2, 1) := by decide +kernel
theorem dX2_fault_119 : decode cX2_fault 119 = .ok (.ifCond .ne 8, 3) := by decide +kernel
theorem dX2_fault_122 : decode cX2_fault 122 = .ok (.bipush (-5), 2) := by decide +kernel
theorem dX2_fault_124 : decode cX2_fault 124 = .ok (.goto 4, 3) := by decide +kernel
theorem dX2_fault_127 : decode cX2_fault 127 = .ok (.iload_n 1, 1) := by decide +kernel
theorem dX2_fault_128 : decode cX2_fault 128 = .ok (.ireturn, 1) := by decide +kernel
theorem dX2_isLetter_0 : decode cX2_isLetter 0 = .ok (.iload_n 0, 1) := by decide +kernel
theorem dX2_isLetter_1 : decode cX2_isLetter 1 = .ok (.bipush 97, 2) := by decide +kernel
theorem dX2_isLetter_3 : decode cX2_isLetter 3 = .ok (.if_icmp .lt 13, 3) := by decide +kernel
theorem dX2_isLetter_6 : decode cX2_isLetter 6 = .ok (.iload_n 0, 1) := by decide +kernel
theorem dX2_isLetter_7 : decode cX2_isLetter 7 = .ok (.bipush 103, 2) := by decide +kernel
theorem dX2_isLetter_9 : decode cX2_isLetter 9 = .ok (.if_icmp .ge 7, 3) := by decide +kernel
theorem dX2_isLetter_12 : decode cX2_isLetter 12 = .ok (.iconst 1, 1) := by decide +kernel
theorem dX2_isLetter_13 : decode cX2_isLetter 13 = .ok (.goto 4, 3) := by decide +kernel
theorem dX2_isLetter_16 : decode cX2_isLetter 16 = .ok (.iconst 0, 1) := by decide +kernel
theorem dX2_isLetter_17 : decode cX2_isLetter 17 = .ok (.ireturn, 1) := by decide +kernel
theorem dX2_isDigit_0 : decode cX2_isDigit 0 = .ok (.iload_n 0, 1) := by decide +kernel
theorem dX2_isDigit_1 : decode cX2_isDigit 1 = .ok (.bipush 50, 2) := by decide +kernel
theorem dX2_isDigit_3 : decode cX2_isDigit 3 = .ok (.if_icmp .lt 13, 3) := by decide +kernel
theorem dX2_isDigit_6 : decode cX2_isDigit 6 = .ok (.iload_n 0, 1) := by decide +kernel
theorem dX2_isDigit_7 : decode cX2_isDigit 7 = .ok (.bipush 57, 2) := by decide +kernel
theorem dX2_isDigit_9 : decode cX2_isDigit 9 = .ok (.if_icmp .gt 7, 3) := by decide +kernel
theorem dX2_isDigit_12 : decode cX2_isDigit 12 = .ok (.iconst 1, 1) := by decide +kernel
theorem dX2_isDigit_13 : decode cX2_isDigit 13 = .ok (.goto 4, 3) := by decide +kernel
theorem dX2_isDigit_16 : decode cX2_isDigit 16 = .ok (.iconst 0, 1) := by decide +kernel
theorem dX2_isDigit_17 : decode cX2_isDigit 17 = .ok (.ireturn, 1) := by decide +kernel
theorem dX2_visitorAt_0 : decode cX2_visitorAt 0 = .ok (.iload_n 1, 1) := by decide +kernel
theorem dX2_visitorAt_1 : decode cX2_visitorAt 1 = .ok (.ifCond .lt 20, 3) := by decide +kernel
theorem dX2_visitorAt_4 : decode cX2_visitorAt 4 = .ok (.iload_n 1, 1) := by decide +kernel
theorem dX2_visitorAt_5 : decode cX2_visitorAt 5 = .ok (.aload_n 0, 1) := by decide +kernel
theorem dX2_visitorAt_6 : decode cX2_visitorAt 6 = .ok (.getfield 22, 3) := by decide +kernel
theorem dX2_visitorAt_9 : decode cX2_visitorAt 9 = .ok (.if_icmp .ge 12, 3) := by decide +kernel
theorem dX2_visitorAt_12 : decode cX2_visitorAt 12 = .ok (.aload_n 0, 1) := by decide +kernel
theorem dX2_visitorAt_13 : decode cX2_visitorAt 13 = .ok (.getfield 9, 3) := by decide +kernel
theorem dX2_visitorAt_16 : decode cX2_visitorAt 16 = .ok (.iload_n 1, 1) := by decide +kernel
theorem dX2_visitorAt_17 : decode cX2_visitorAt 17 = .ok (.baload, 1) := by decide +kernel
theorem dX2_visitorAt_18 : decode cX2_visitorAt 18 = .ok (.goto 4, 3) := by decide +kernel
theorem dX2_visitorAt_21 : decode cX2_visitorAt 21 = .ok (.iconst 0, 1) := by decide +kernel
theorem dX2_visitorAt_22 : decode cX2_visitorAt 22 = .ok (.ireturn, 1) := by decide +kernel
set_option maxRecDepth 20000 in
theorem ggX2_expand_X2_isDigit : GoodIn wsX2_expand wsX2_isDigit := goodIn_r _ [6] (by decide +kernel) (by decide +kernel)
set_option maxRecDepth 20000 in
theorem gX2_expand_X2_isDigit : GoodIn wsX2_expand (va_wsS RX2 33 yX2_isDigit wsX2_isDigit) := goodIn_app (goodIn_of _ (by decide +kernel)) ggX2_expand_X2_isDigit
set_option maxRecDepth 20000 in
theorem ggX2_expand_X2_openBracket : GoodIn wsX2_expand wsX2_openBracket := goodIn_r _ [10, 2, 11, 1, 12, 33, 34, 35, 36, 37] (by decide +kernel) (by decide +kernel)
set_option maxRecDepth 20000 in
theorem gX2_expand_X2_openBracket : GoodIn wsX2_expand (wsV RX2 36 RX2 yX2_openBracket wsX2_openBracket) := goodIn_app (goodIn_of _ (by decide +kernel)) ggX2_expand_X2_openBracket
set_option maxRecDepth 20000 in
theorem ggX2_expand_X2_closeBracket : GoodIn wsX2_expand wsX2_closeBracket := goodIn_r _ [16, 2, 11, 12, 17, 18, 19, 5, 20, 1, 21, 22, 23, 24, 25, 33, 34, 35, 36, 37] (by decide +kernel) (by decide +kernel)
set_option maxRecDepth 20000 in
theorem gX2_expand_X2_closeBracket : GoodIn wsX2_expand (wsV RX2 40 RX2 yX2_closeBracket wsX2_closeBracket) := goodIn_app (goodIn_of _ (by decide +kernel)) ggX2_expand_X2_closeBracket
set_option maxRecDepth 20000 in
theorem ggX2_expand_X2_append : GoodIn wsX2_expand wsX2_append := goodIn_r _ [29, 1, 21, 30, 31, 5, 32, 33, 34, 35, 36, 37] (by decide +kernel) (by decide +kernel)
set_option maxRecDepth 20000 in
theorem gX2_expand_X2_append : GoodIn wsX2_expand (wsV RX2 44 RX2 yX2_append wsX2_append) := goodIn_app (goodIn_of _ (by decide +kernel)) ggX2_expand_X2_append
set_option maxRecDepth 20000 in
theorem ggX2_expand_X2_repeat : GoodIn wsX2_expand wsX2_repeat := goodIn_r _ [20, 1, 21, 22, 23, 24, 25, 33, 34, 35, 36, 37] (by decide +kernel) (by decide +kernel)
set_option maxRecDepth 20000 in
theorem gX2_expand_X2_repeat : GoodIn wsX2_expand (wsV RX2 47 RX2 yX2_repeat wsX2_repeat) := goodIn_app (goodIn_of _ (by decide +kernel)) ggX2_expand_X2_repeat
theorem dX2_expand_0 : decode cX2_expand 0 = .ok (.aload_n 0, 1) := by decide +kernel
theorem dX2_expand_1 : decode cX2_expand 1 = .ok (.iconst 0, 1) := by decide +kernel
theorem dX2_expand_2 : decode cX2_expand 2 = .ok (.putfield 22, 3) := by decide +kernel
theorem dX2_expand_5 : decode cX2_expand 5 = .ok (.aload_n 0, 1) := by decide +kernel
theorem dX2_expand_6 : decode cX2_expand 6 = .ok (.iconst 0, 1) := by decide +kernel
theorem dX2_expand_7 : decode cX2_expand 7 = .ok (.putfield 26, 3) := by decide +kernel
theorem dX2_expand_10 : decode cX2_expand 10 = .ok (.iconst 1, 1) := by decide +kernel
theorem dX2_expand_11 : decode cX2_expand 11 = .ok (.istore_n 3, 1) := by decide +kernel
theorem dX2_expand_12 : decode cX2_expand 12 = .ok (.iconst 0, 1) := by decide +kernel
theorem dX2_expand_13 : decode cX2_expand 13 = .ok (.istore 4, 2) := by decide +kernel
theorem dX2_expand_15 : decode cX2_expand 15 = .ok (.iload 4, 2) := by decide +kernel
theorem dX2_expand_17 : decode cX2_expand 17 = .ok (.iload_n 2, 1) := by decide +kernel
theorem dX2_expand_18 : decode cX2_expand 18 = .ok (.if_icmp .ge 115, 3) := by decide +kernel
theorem dX2_expand_21 : decode cX2_expand 21 = .ok (.iload 4, 2) := by decide +kernel
theorem dX2_expand_23 : decode cX2_expand 23 = .ok (.aload_n 1, 1) := by decide +kernel
theorem dX2_expand_24 : decode cX2_expand 24 = .ok (.arraylength, 1) := by decide +kernel
theorem dX2_expand_25 : decode cX2_expand 25 = .ok (.if_icmp .ge 108, 3) := by decide +kernel
theorem dX2_expand_28 : decode cX2_expand 28 = .ok (.aload_n 1, 1) := by decide +kernel
theorem dX2_expand_29 : decode cX2_expand 29 = .ok (.iload 4, 2) := by decide +kernel
theorem dX2_expand_31 : decode cX2_expand 31 = .ok (.caload, 1) := by decide +kernel
theorem dX2_expand_32 : decode cX2_expand 32 = .ok (.istore 5, 2) := by decide +kernel
theorem dX2_expand_34 : decode cX2_expand 34 = .ok (.iconst 1, 1) := by decide +kernel
theorem dX2_expand_35 : decode cX2_expand 35 = .ok (.istore 6, 2) := by decide +kernel
theorem dX2_expand_37 : decode cX2_expand 37 = .ok (.iload 5, 2) := by decide +kernel
theorem dX2_expand_39 : decode cX2_expand 39 = .ok (.invokestatic 33, 3) := by decide +kernel
theorem dX2_expand_42 : decode cX2_expand 42 = .ok (.ifCond .eq 12, 3) := by decide +kernel
theorem dX2_expand_45 : decode cX2_expand 45 = .ok (.iload 5, 2) := by decide +kernel
theorem dX2_expand_47 : decode cX2_expand 47 = .ok (.bipush 48, 2) := by decide +kernel
theorem dX2_expand_49 : decode cX2_expand 49 = .ok (.isub, 1) := by decide +kernel
theorem dX2_expand_50 : decode cX2_expand 50 = .ok (.istore_n 3, 1) := by decide +kernel
theorem dX2_expand_51 : decode cX2_expand 51 = .ok (.goto 68, 3) := by decide +kernel
theorem dX2_expand_54 : decode cX2_expand 54 = .ok (.iload 5, 2) := by decide +kernel
theorem dX2_expand_56 : decode cX2_expand 56 = .ok (.bipush 40, 2) := by decide +kernel
theorem dX2_expand_58 : decode cX2_expand 58 = .ok (.if_icmp .ne 13, 3) := by decide +kernel
theorem dX2_expand_61 : decode cX2_expand 61 = .ok (.aload_n 0, 1) := by decide +kernel
theorem dX2_expand_62 : decode cX2_expand 62 = .ok (.iload_n 3, 1) := by decide +kernel
theorem dX2_expand_63 : decode cX2_expand 63 = .ok (.invokevirtual 36, 3) := by decide +kernel
theorem dX2_expand_66 : decode cX2_expand 66 = .ok (.iconst 1, 1) := by decide +kernel
theorem dX2_expand_67 : decode cX2_expand 67 = .ok (.istore_n 3, 1) := by decide +kernel
theorem dX2_expand_68 : decode cX2_expand 68 = .ok (.goto 51, 3) := by decide +kernel
theorem dX2_expand_71 : decode cX2_expand 71 = .ok (.iload 5, 2) := by decide +kernel
theorem dX2_expand_73 : decode cX2_expand 73 = .ok (.bipush 41, 2) := by decide +kernel
theorem dX2_expand_75 : decode cX2_expand 75 = .ok (.if_icmp .ne 12, 3) := by decide +kernel
theorem dX2_expand_78 : decode cX2_expand 78 = .ok (.aload_n 0, 1) := by decide +kernel
theorem dX2_expand_79 : decode cX2_expand 79 = .ok (.invokevirtual 40, 3) := by decide +kernel
theorem dX2_expand_82 : decode cX2_expand 82 = .ok (.istore 6, 2) := by decide +kernel
theorem dX2_expand_84 : decode cX2_expand 84 = .ok (.goto 35, 3) := by decide +kernel
theorem dX2_expand_87 : decode cX2_expand 87 = .ok (.aload_n 0, 1) := by decide +kernel
theorem dX2_expand_88 : decode cX2_expand 88 = .ok (.iload 5, 2) := by decide +kernel
theorem dX2_expand_90 : decode cX2_expand 90 = .ok (.invokevirtual 44, 3) := by decide +kernel
theorem dX2_expand_93 : decode cX2_expand 93 = .ok (.ifCond .eq 21, 3) := by decide +kernel
theorem dX2_expand_96 : decode cX2_expand 96 = .ok (.aload_n 0, 1) := by decide +kernel
theorem dX2_expand_97 : decode cX2_expand 97 = .ok (.aload_n 0, 1) := by decide +kernel
theorem dX2_expand_98 : decode cX2_expand 98 = .ok (.getfield 22, 3) := by decide +kernel
theorem dX2_expand_101 : decode cX2_expand 101 = .ok (.iconst 1, 1) := by decide +kernel
theorem dX2_expand_102 : decode cX2_expand 102 = .ok (.isub, 1) := by decide +kernel
theorem dX2_expand_103 : decode cX2_expand 103 = .ok (.iload_n 3, 1) := by decide +kernel
theorem dX2_expand_104 : decode cX2_expand 104 = .ok (.invokevirtual 47, 3) := by decide +kernel
theorem dX2_expand_107 : decode cX2_expand 107 = .ok (.ifCond .eq 7, 3) := by decide +kernel
theorem dX2_expand_110 : decode cX2_expand 110 = .ok (.iconst 1, 1) := by decide +kernel
theorem dX2_expand_111 : decode cX2_expand 111 = .ok (.goto 4, 3) := by decide +kernel
theorem dX2_expand_114 : decode cX2_expand 114 = .ok (.iconst 0, 1) := by decide +kernel
theorem dX2_expand_115 : decode cX2_expand 115 = .ok (.istore 6, 2) := by decide +kernel
theorem dX2_expand_117 : decode cX2_expand 117 = .ok (.iconst 1, 1) := by decide +kernel
theorem dX2_expand_118 : decode cX2_expand 118 = .ok (.istore_n 3, 1) := by decide +kernel
theorem dX2_expand_119 : decode cX2_expand 119 = .ok (.iload 6, 2) := by decide +kernel
theorem dX2_expand_121 : decode cX2_expand 121 = .ok (.ifCond .ne 6, 3) := by decide +kernel
theorem dX2_expand_124 : decode cX2_expand 124 = .ok (.bipush (-3), 2) := by decide +kernel
theorem dX2_expand_126 : decode cX2_expand 126 = .ok (.ireturn, 1) := by decide +kernel
theorem dX2_expand_127 : decode cX2_expand 127 = .ok (.iinc 4 1, 3) := by decide +kernel
theorem dX2_expand_130 : decode cX2_expand 130 = .ok (.goto (-115), 3) := by decide +kernel
theorem dX2_expand_133 : decode cX2_expand 133 = .ok (.aload_n 0, 1) := by decide +kernel
theorem dX2_expand_134 : decode cX2_expand 134 = .ok (.getfield 22, 3) := by decide +kernel
theorem dX2_expand_137 : decode cX2_expand 137 = .ok (.ireturn, 1) := by decide +kernel
theorem dX2_openBracket_0 : decode cX2_openBracket 0 = .ok (.aload_n 0, 1) := by decide +kernel
theorem dX2_openBracket_1 : decode cX2_openBracket 1 = .ok (.getfield 26, 3) := by decide +kernel
theorem dX2_openBracket_4 : decode cX2_openBracket 4 = .ok (.bipush 60, 2) := by decide +kernel
theorem dX2_openBracket_6 : decode cX2_openBracket 6 = .ok (.if_icmp .ge 36, 3) := by decide +kernel
theorem dX2_openBracket_9 : decode cX2_openBracket 9 = .ok (.aload_n 0, 1) := by decide +kernel
theorem dX2_openBracket_10 : decode cX2_openBracket 10 = .ok (.getfield 15, 3) := by decide +kernel
theorem dX2_openBracket_13 : decode cX2_openBracket 13 = .ok (.aload_n 0, 1) := by decide +kernel
theorem dX2_openBracket_14 : decode cX2_openBracket 14 = .ok (.getfield 26, 3) := by decide +kernel
theorem dX2_openBracket_17 : decode cX2_openBracket 17 = .ok (.aload_n 0, 1) := by decide +kernel
theorem dX2_openBracket_18 : decode cX2_openBracket 18 = .ok (.getfield 22, 3) := by decide +kernel
theorem dX2_openBracket_21 : decode cX2_openBracket 21 = .ok (.iastore, 1) := by decide +kernel
theorem dX2_openBracket_22 : decode cX2_openBracket 22 = .ok (.aload_n 0, 1) := by decide +kernel
theorem dX2_openBracket_23 : decode cX2_openBracket 23 = .ok (.getfield 19, 3) := by decide +kernel
theorem dX2_openBracket_26 : decode cX2_openBracket 26 = .ok (.aload_n 0, 1) := by decide +kernel
theorem dX2_openBracket_27 : decode cX2_openBracket 27 = .ok (.getfield 26, 3) := by decide +kernel
theorem dX2_openBracket_30 : decode cX2_openBracket 30 = .ok (.iload_n 1, 1) := by decide +kernel
theorem dX2_openBracket_31 : decode cX2_openBracket 31 = .ok (.iastore, 1) := by decide +kernel
theorem dX2_openBracket_32 : decode cX2_openBracket 32 = .ok (.aload_n 0, 1) := by decide +kernel
theorem dX2_openBracket_33 : decode cX2_openBracket 33 = .ok (.dup, 1) := by decide +kernel
theorem dX2_openBracket_34 : decode cX2_openBracket 34 = .ok (.getfield 26, 3) := by decide +kernel
theorem dX2_openBracket_37 : decode cX2_openBracket 37 = .ok (.iconst 1, 1) := by decide +kernel
theorem dX2_openBracket_38 : decode cX2_openBracket 38 = .ok (.iadd, 1) := by decide +kernel
theorem dX2_openBracket_39 : decode cX2_openBracket 39 = .ok (.putfield 26, 3) := by decide +kernel
theorem dX2_openBracket_42 : decode cX2_openBracket 42 = .ok (.return_, 1) := by decide +kernel
set_option maxRecDepth 20000 in
theorem ggX2_closeBracket_X2_repeat : GoodIn wsX2_closeBracket wsX2_repeat := goodIn_r _ [8, 9, 10, 11, 12, 13, 14, 15, 16, 17, 18, 19] (by decide +kernel) (by decide +kernel)
set_option maxRecDepth 20000 in
theorem gX2_closeBracket_X2_repeat : GoodIn wsX2_closeBracket (wsV RX2 47 RX2 yX2_repeat wsX2_repeat) := goodIn_app (goodIn_of _ (by decide +kernel)) ggX2_closeBracket_X2_repeat
theorem dX2_closeBracket_0 : decode cX2_closeBracket 0 = .ok (.aload_n 0, 1) := by decide +kernel
theorem dX2_closeBracket_1 : decode cX2_closeBracket 1 = .ok (.getfield 26, 3) := by decide +kernel
theorem dX2_closeBracket_4 : decode cX2_closeBracket 4 = .ok (.iconst 1, 1) := by decide +kernel
theorem dX2_closeBracket_5 : decode cX2_closeBracket 5 = .ok (.if_icmp .ge 5, 3) := by decide +kernel
theorem dX2_closeBracket_8 : decode cX2_closeBracket 8 = .ok (.iconst 0, 1) := by decide +kernel
theorem dX2_closeBracket_9 : decode cX2_closeBracket 9 = .ok (.ireturn, 1) := by decide +kernel
theorem dX2_closeBracket_10 : decode cX2_closeBracket 10 = .ok (.aload_n 0, 1) := by decide +kernel
theorem dX2_closeBracket_11 : decode cX2_closeBracket 11 = .ok (.dup, 1) := by decide +kernel
theorem dX2_closeBracket_12 : decode cX2_closeBracket 12 = .ok (.getfield 26, 3) := by decide +kernel
theorem dX2_closeBracket_15 : decode cX2_closeBracket 15 = .ok (.iconst 1, 1) := by decide +kernel
theorem dX2_closeBracket_16 : decode cX2_closeBracket 16 = .ok (.isub, 1) := by decide +kernel
theorem dX2_closeBracket_17 : decode cX2_closeBracket 17 = .ok (.putfield 26, 3) := by decide +kernel
theorem dX2_closeBracket_20 : decode cX2_closeBracket 20 = .ok (.aload_n 0, 1) := by decide +kernel
theorem dX2_closeBracket_21 : decode cX2_closeBracket 21 = .ok (.aload_n 0, 1) := by decide +kernel
theorem dX2_closeBracket_22 : decode cX2_closeBracket 22 = .ok (.getfield 15, 3) := by decide +kernel
theorem dX2_closeBracket_25 : decode cX2_closeBracket 25 = .ok (.aload_n 0, 1) := by decide +kernel
theorem dX2_closeBracket_26 : decode cX2_closeBracket 26 = .ok (.getfield 26, 3) := by decide +kernel
theorem dX2_closeBracket_29 : decode cX2_closeBracket 29 = .ok (.iaload, 1) := by decide +kernel
theorem dX2_closeBracket_30 : decode cX2_closeBracket 30 = .ok (.aload_n 0, 1) := by decide +kernel
theorem dX2_closeBracket_31 : decode cX2_closeBracket 31 = .ok (.getfield 19, 3) := by decide +kernel
theorem dX2_closeBracket_34 : decode cX2_closeBracket 34 = .ok (.aload_n 0, 1) := by decide +kernel
theorem dX2_closeBracket_35 : decode cX2_closeBracket 35 = .ok (.getfield 26, 3) := by decide +kernel
theorem dX2_closeBracket_38 : decode cX2_closeBracket 38 = .ok (.iaload, 1) := by decide +kernel
theorem dX2_closeBracket_39 : decode cX2_closeBracket 39 = .ok (.invokevirtual 47, 3) := by decide +kernel
theorem dX2_closeBracket_42 : decode cX2_closeBracket 42 = .ok (.ireturn, 1) := by decide +kernel
set_option maxRecDepth 20000 in
theorem ggX2_append_X2_isLetter : GoodIn wsX2_append wsX2_isLetter := goodIn_r _ [6] (by decide +kernel) (by decide +kernel)
set_option maxRecDepth 20000 in
theorem gX2_append_X2_isLetter : GoodIn wsX2_append (va_wsS RX2 29 yX2_isLetter wsX2_isLetter) := goodIn_app (goodIn_of _ (by decide +kernel)) ggX2_append_X2_isLetter
theorem dX2_append_0 : decode cX2_append 0 = .ok (.aload_n 0, 1) := by decide +kernel
theorem dX2_append_1 : decode cX2_append 1 = .ok (.getfield 22, 3) := by decide +kernel
theorem dX2_append_4 : decode cX2_append 4 = .ok (.sipush 2000, 3) := by decide +kernel
theorem dX2_append_7 : decode cX2_append 7 = .ok (.if_icmp .ge 10, 3) := by decide +kernel
theorem dX2_append_10 : decode cX2_append 10 = .ok (.iload_n 1, 1) := by decide +kernel
theorem dX2_append_11 : decode cX2_append 11 = .ok (.invokestatic 29, 3) := by decide +kernel
theorem dX2_append_14 : decode cX2_append 14 = .ok (.ifCond .ne 5, 3) := by decide +kernel
theorem dX2_append_17 : decode cX2_append 17 = .ok (.iconst 0, 1) := by decide +kernel
theorem dX2_append_18 : decode cX2_append 18 = .ok (.ireturn, 1) := by decide +kernel
theorem dX2_append_19 : decode cX2_append 19 = .ok (.aload_n 0, 1) := by decide +kernel
theorem dX2_append_20 : decode cX2_append 20 = .ok (.getfield 9, 3) := by decide +kernel
theorem dX2_append_23 : decode cX2_append 23 = .ok (.aload_n 0, 1) := by decide +kernel
theorem dX2_append_24 : decode cX2_append 24 = .ok (.getfield 22, 3) := by decide +kernel
theorem dX2_append_27 : decode cX2_append 27 = .ok (.iload_n 1, 1) := by decide +kernel
theorem dX2_append_28 : decode cX2_append 28 = .ok (.bipush 97, 2) := by decide +kernel
theorem dX2_append_30 : decode cX2_append 30 = .ok (.isub, 1) := by decide +kernel
theorem dX2_append_31 : decode cX2_append 31 = .ok (.i2b, 1) := by decide +kernel
theorem dX2_append_32 : decode cX2_append 32 = .ok (.bastore, 1) := by decide +kernel
theorem dX2_append_33 : decode cX2_append 33 = .ok (.aload_n 0, 1) := by decide +kernel
theorem dX2_append_34 : decode cX2_append 34 = .ok (.dup, 1) := by decide +kernel
theorem dX2_append_35 : decode cX2_append 35 = .ok (.getfield 22, 3) := by decide +kernel
theorem dX2_append_38 : decode cX2_append 38 = .ok (.iconst 1, 1) := by decide +kernel
theorem dX2_append_39 : decode cX2_append 39 = .ok (.iadd, 1) := by decide +kernel
theorem dX2_append_40 : decode cX2_append 40 = .ok (.putfield 22, 3) := by decide +kernel
theorem dX2_append_43 : decode cX2_append 43 = .ok (.iconst 1, 1) := by decide +kernel
theorem dX2_append_44 : decode cX2_append 44 = .ok (.ireturn, 1) := by decide +kernel
theorem dX2_repeat_0 : decode cX2_repeat 0 = .ok (.aload_n 0, 1) := by decide +kernel
theorem dX2_repeat_1 : decode cX2_repeat 1 = .ok (.getfield 22, 3) := by decide +kernel
theorem dX2_repeat_4 : decode cX2_repeat 4 = .ok (.iload_n 1, 1) := by decide +kernel
theorem dX2_repeat_5 : decode cX2_repeat 5 = .ok (.isub, 1) := by decide +kernel
theorem dX2_repeat_6 : decode cX2_repeat 6 = .ok (.istore_n 3, 1) := by decide +kernel
theorem dX2_repeat_7 : decode cX2_repeat 7 = .ok (.iload_n 1, 1) := by decide +kernel
theorem dX2_repeat_8 : decode cX2_repeat 8 = .ok (.iload_n 3, 1) := by decide +kernel
theorem dX2_repeat_9 : decode cX2_repeat 9 = .ok (.iload_n 2, 1) := by decide +kernel
theorem dX2_repeat_10 : decode cX2_repeat 10 = .ok (.imul, 1) := by decide +kernel
theorem dX2_repeat_11 : decode cX2_repeat 11 = .ok (.iadd, 1) := by decide +kernel
theorem dX2_repeat_12 : decode cX2_repeat 12 = .ok (.sipush 2000, 3) := by decide +kernel
theorem dX2_repeat_15 : decode cX2_repeat 15 = .ok (.if_icmp .le 5, 3) := by decide +kernel
theorem dX2_repeat_18 : decode cX2_repeat 18 = .ok (.iconst 0, 1) := by decide +kernel
theorem dX2_repeat_19 : decode cX2_repeat 19 = .ok (.ireturn, 1) := by decide +kernel
theorem dX2_repeat_20 : decode cX2_repeat 20 = .ok (.iconst 1, 1) := by decide +kernel
theorem dX2_repeat_21 : decode cX2_repeat 21 = .ok (.istore 4, 2) := by decide +kernel
theorem dX2_repeat_23 : decode cX2_repeat 23 = .ok (.iload 4, 2) := by decide +kernel
theorem dX2_repeat_25 : decode cX2_repeat 25 = .ok (.iload_n 2, 1) := by decide +kernel
theorem dX2_repeat_26 : decode cX2_repeat 26 = .ok (.if_icmp .ge 36, 3) := by decide +kernel
theorem dX2_repeat_29 : decode cX2_repeat 29 = .ok (.aload_n 0, 1) := by decide +kernel
theorem dX2_repeat_30 : decode cX2_repeat 30 = .ok (.getfield 9, 3) := by decide +kernel
theorem dX2_repeat_33 : decode cX2_repeat 33 = .ok (.iload_n 1, 1) := by decide +kernel
theorem dX2_repeat_34 : decode cX2_repeat 34 = .ok (.aload_n 0, 1) := by decide +kernel
theorem dX2_repeat_35 : decode cX2_repeat 35 = .ok (.getfield 9, 3) := by decide +kernel
theorem dX2_repeat_38 : decode cX2_repeat 38 = .ok (.aload_n 0, 1) := by decide +kernel
theorem dX2_repeat_39 : decode cX2_repeat 39 = .ok (.getfield 22, 3) := by decide +kernel
theorem dX2_repeat_42 : decode cX2_repeat 42 = .ok (.iload_n 3, 1) := by decide +kernel
theorem dX2_repeat_43 : decode cX2_repeat 43 = .ok (.invokestatic 51, 3) := by decide +kernel
theorem dX2_repeat_46 : decode cX2_repeat 46 = .ok (.aload_n 0, 1) := by decide +kernel
theorem dX2_repeat_47 : decode cX2_repeat 47 = .ok (.dup, 1) := by decide +kernel
theorem dX2_repeat_48 : decode cX2_repeat 48 = .ok (.getfield 22, 3) := by decide +kernel
theorem dX2_repeat_51 : decode cX2_repeat 51 = .ok (.iload_n 3, 1) := by decide +kernel
theorem dX2_repeat_52 : decode cX2_repeat 52 = .ok (.iadd, 1) := by decide +kernel
theorem dX2_repeat_53 : decode cX2_repeat 53 = .ok (.putfield 22, 3) := by decide +kernel
theorem dX2_repeat_56 : decode cX2_repeat 56 = .ok (.iinc 4 1, 3) := by decide +kernel
theorem dX2_repeat_59 : decode cX2_repeat 59 = .ok (.goto (-36), 3) := by decide +kernel
theorem dX2_repeat_62 : decode cX2_repeat 62 = .ok (.iconst 1, 1) := by decide +kernel
theorem dX2_repeat_63 : decode cX2_repeat 63 = .ok (.ireturn, 1) := by decide +kernel
set_option maxRecDepth 20000 in
theorem ggX3_init_X1_init : GoodIn wsX3_init wsX1_init := goodIn_r _ [15, 16, 2, 3, 8, 17, 18, 19, 20, 6, 21, 22] (by decide +kernel) (by decide +kernel)
set_option maxRecDepth 20000 in
theorem gX3_init_X1_init : GoodIn wsX3_init (wsX1_init) := ggX3_init_X1_init
theorem dX3_init_0 : decode cX3_init 0 = .ok (.aload_n 0, 1) := by decide +kernel
theorem dX3_init_1 : decode cX3_init 1 = .ok (.invokespecial 5, 3) := by decide +kernel
theorem dX3_init_4 : decode cX3_init 4 = .ok (.aload_n 0, 1) := by decide +kernel
theorem dX3_init_5 : decode cX3_init 5 = .ok (.new 11, 3) := by decide +kernel
theorem dX3_init_8 : decode cX3_init 8 = .ok (.dup, 1) := by decide +kernel
theorem dX3_init_9 : decode cX3_init 9 = .ok (.invokespecial 13, 3) := by decide +kernel
theorem dX3_init_12 : decode cX3_init 12 = .ok (.putfield 14, 3) := by decide +kernel
theorem dX3_init_15 : decode cX3_init 15 = .ok (.aload_n 0, 1) := by decide +kernel
theorem dX3_init_16 : decode cX3_init 16 = .ok (.bipush 24, 2) := by decide +kernel
theorem dX3_init_18 : decode cX3_init 18 = .ok (.newarray .int, 2) := by decide +kernel
theorem dX3_init_20 : decode cX3_init 20 = .ok (.putfield 18, 3) := by decide +kernel
theorem dX3_init_23 : decode cX3_init 23 = .ok (.aload_n 0, 1) := by decide +kernel
theorem dX3_init_24 : decode cX3_init 24 = .ok (.bipush 6, 2) := by decide +kernel
theorem dX3_init_26 : decode cX3_init 26 = .ok (.newarray .int, 2) := by decide +kernel
theorem dX3_init_28 : decode cX3_init 28 = .ok (.putfield 22, 3) := by decide +kernel
theorem dX3_init_31 : decode cX3_init 31 = .ok (.aload_n 0, 1) := by decide +kernel
theorem dX3_init_32 : decode cX3_init 32 = .ok (.iconst 0, 1) := by decide +kernel
theorem dX3_init_33 : decode cX3_init 33 = .ok (.putfield 25, 3) := by decide +kernel
theorem dX3_init_36 : decode cX3_init 36 = .ok (.aload_n 0, 1) := by decide +kernel
theorem dX3_init_37 : decode cX3_init 37 = .ok (.iconst 1, 1) := by decide +kernel
theorem dX3_init_38 : decode cX3_init 38 = .ok (.putfield 29, 3) := by decide +kernel
theorem dX3_init_41 : decode cX3_init 41 = .ok (.return_, 1) := by decide +kernel
set_option maxRecDepth 20000 in
theorem ggX3_copyFrom_X1_copyFrom : GoodIn wsX3_copyFrom wsX1_copyFrom := goodIn_r _ [14, 15, 16, 4, 5, 6, 22] (by decide +kernel) (by decide +kernel)
set_option maxRecDepth 20000 in
theorem gX3_copyFrom_X1_copyFrom : GoodIn wsX3_copyFrom (wsV RX3 32 RX1 yX1_copyFrom wsX1_copyFrom) := goodIn_app (goodIn_of _ (by decide +kernel)) ggX3_copyFrom_X1_copyFrom
theorem dX3_copyFrom_0 : decode cX3_copyFrom 0 = .ok (.aload_n 0, 1) := by decide +kernel
theorem dX3_copyFrom_1 : decode cX3_copyFrom 1 = .ok (.getfield 14, 3) := by decide +kernel
theorem dX3_copyFrom_4 : decode cX3_copyFrom 4 = .ok (.aload_n 1, 1) := by decide +kernel
theorem dX3_copyFrom_5 : decode cX3_copyFrom 5 = .ok (.getfield 14, 3) := by decide +kernel
theorem dX3_copyFrom_8 : decode cX3_copyFrom 8 = .ok (.invokevirtual 32, 3) := by decide +kernel
theorem dX3_copyFrom_11 : decode cX3_copyFrom 11 = .ok (.aload_n 1, 1) := by decide +kernel
theorem dX3_copyFrom_12 : decode cX3_copyFrom 12 = .ok (.getfield 18, 3) := by decide +kernel
theorem dX3_copyFrom_15 : decode cX3_copyFrom 15 = .ok (.iconst 0, 1) := by decide +kernel
theorem dX3_copyFrom_16 : decode cX3_copyFrom 16 = .ok (.aload_n 0, 1) := by decide +kernel
theorem dX3_copyFrom_17 : decode cX3_copyFrom 17 = .ok (.getfield 18, 3) := by decide +kernel
theorem dX3_copyFrom_20 : decode cX3_copyFrom 20 = .ok (.iconst 0, 1) := by decide +kernel
theorem dX3_copyFrom_21 : decode cX3_copyFrom 21 = .ok (.bipush 24, 2) := by decide +kernel
theorem dX3_copyFrom_23 : decode cX3_copyFrom 23 = .ok (.invokestatic 36, 3) := by decide +kernel
theorem dX3_copyFrom_26 : decode cX3_copyFrom 26 = .ok (.aload_n 1, 1) := by decide +kernel
theorem dX3_copyFrom_27 : decode cX3_copyFrom 27 = .ok (.getfield 22, 3) := by decide +kernel
theorem dX3_copyFrom_30 : decode cX3_copyFrom 30 = .ok (.iconst 0, 1) := by decide +kernel
theorem dX3_copyFrom_31 : decode cX3_copyFrom 31 = .ok (.aload_n 0, 1) := by decide +kernel
theorem dX3_copyFrom_32 : decode cX3_copyFrom 32 = .ok (.getfield 22, 3) := by decide +kernel
theorem dX3_copyFrom_35 : decode cX3_copyFrom 35 = .ok (.iconst 0, 1) := by decide +kernel
theorem dX3_copyFrom_36 : decode cX3_copyFrom 36 = .ok (.bipush 6, 2) := by decide +kernel
theorem dX3_copyFrom_38 : decode cX3_copyFrom 38 = .ok (.invokestatic 36, 3) := by decide +kernel
theorem dX3_copyFrom_41 : decode cX3_copyFrom 41 = .ok (.aload_n 0, 1) := by decide +kernel
theorem dX3_copyFrom_42 : decode cX3_copyFrom 42 = .ok (.aload_n 1, 1) := by decide +kernel
theorem dX3_copyFrom_43 : decode cX3_copyFrom 43 = .ok (.getfield 25, 3) := by decide +kernel
theorem dX3_copyFrom_46 : decode cX3_copyFrom 46 = .ok (.putfield 25, 3) := by decide +kernel
theorem dX3_copyFrom_49 : decode cX3_copyFrom 49 = .ok (.aload_n 0, 1) := by decide +kernel
theorem dX3_copyFrom_50 : decode cX3_copyFrom 50 = .ok (.aload_n 1, 1) := by decide +kernel
theorem dX3_copyFrom_51 : decode cX3_copyFrom 51 = .ok (.getfield 29, 3) := by decide +kernel
theorem dX3_copyFrom_54 : decode cX3_copyFrom 54 = .ok (.putfield 29, 3) := by decide +kernel
theorem dX3_copyFrom_57 : decode cX3_copyFrom 57 = .ok (.return_, 1) := by decide +kernel
theorem dX3_count_0 : decode cX3_count 0 = .ok (.aload_n 0, 1) := by decide +kernel
theorem dX3_count_1 : decode cX3_count 1 = .ok (.getfield 18, 3) := by decide +kernel
theorem dX3_count_4 : decode cX3_count 4 = .ok (.iload_n 1, 1) := by decide +kernel
theorem dX3_count_5 : decode cX3_count 5 = .ok (.iload_n 2, 1) := by decide +kernel
theorem dX3_count_6 : decode cX3_count 6 = .ok (.iadd, 1) := by decide +kernel
theorem dX3_count_7 : decode cX3_count 7 = .ok (.iaload, 1) := by decide +kernel
theorem dX3_count_8 : decode cX3_count 8 = .ok (.ireturn, 1) := by decide +kernel
theorem dX3_sum_0 : decode cX3_sum 0 = .ok (.iconst 0, 1) := by decide +kernel
theorem dX3_sum_1 : decode cX3_sum 1 = .ok (.istore_n 2, 1) := by decide +kernel
theorem dX3_sum_2 : decode cX3_sum 2 = .ok (.iconst 0, 1) := by decide +kernel
theorem dX3_sum_3 : decode cX3_sum 3 = .ok (.istore_n 3, 1) := by decide +kernel
theorem dX3_sum_4 : decode cX3_sum 4 = .ok (.iload_n 3, 1) := by decide +kernel
theorem dX3_sum_5 : decode cX3_sum 5 = .ok (.bipush 6, 2) := by decide +kernel
theorem dX3_sum_7 : decode cX3_sum 7 = .ok (.if_icmp .ge 20, 3) := by decide +kernel
theorem dX3_sum_10 : decode cX3_sum 10 = .ok (.iload_n 2, 1) := by decide +kernel
theorem dX3_sum_11 : decode cX3_sum 11 = .ok (.aload_n 0, 1) := by decide +kernel
theorem dX3_sum_12 : decode cX3_sum 12 = .ok (.getfield 18, 3) := by decide +kernel
theorem dX3_sum_15 : decode cX3_sum 15 = .ok (.iload_n 1, 1) := by decide +kernel
theorem dX3_sum_16 : decode cX3_sum 16 = .ok (.iload_n 3, 1) := by decide +kernel
theorem dX3_sum_17 : decode cX3_sum 17 = .ok (.iadd, 1) := by decide +kernel
theorem dX3_sum_18 : decode cX3_sum 18 = .ok (.iaload, 1) := by decide +kernel
theorem dX3_sum_19 : decode cX3_sum 19 = .ok (.iadd, 1) := by decide +kernel
theorem dX3_sum_20 : decode cX3_sum 20 = .ok (.istore_n 2, 1) := by decide +kernel
theorem dX3_sum_21 : decode cX3_sum 21 = .ok (.iinc 3 1, 3) := by decide +kernel
theorem dX3_sum_24 : decode cX3_sum 24 = .ok (.goto (-20), 3) := by decide +kernel
theorem dX3_sum_27 : decode cX3_sum 27 = .ok (.iload_n 2, 1) := by decide +kernel
theorem dX3_sum_28 : decode cX3_sum 28 = .ok (.ireturn, 1) := by decide +kernel
set_option maxRecDepth 20000 in
theorem ggX3_present_X1_countAt : GoodIn wsX3_present wsX1_countAt := goodIn_r _ [6, 7, 8, 9, 5, 10, 11, 17] (by decide +kernel) (by decide +kernel)
set_option maxRecDepth 20000 in
theorem gX3_present_X1_countAt : GoodIn wsX3_present (wsV RX3 42 RX1 yX1_countAt wsX1_countAt) := goodIn_app (goodIn_of _ (by decide +kernel)) ggX3_present_X1_countAt
theorem dX3_present_0 : decode cX3_present 0 = .ok (.bipush 6, 2) := by decide +kernel
theorem dX3_present_2 : decode cX3_present 2 = .ok (.aload_n 0, 1) := by decide +kernel
theorem dX3_present_3 : decode cX3_present 3 = .ok (.getfield 14, 3) := by decide +kernel
theorem dX3_present_6 : decode cX3_present 6 = .ok (.iconst 0, 1) := by decide +kernel
theorem dX3_present_7 : decode cX3_present 7 = .ok (.invokevirtual 42, 3) := by decide +kernel
theorem dX3_present_10 : decode cX3_present 10 = .ok (.isub, 1) := by decide +kernel
theorem dX3_present_11 : decode cX3_present 11 = .ok (.ireturn, 1) := by decide +kernel
theorem dX3_visitorAt_0 : decode cX3_visitorAt 0 = .ok (.iload_n 1, 1) := by decide +kernel
theorem dX3_visitorAt_1 : decode cX3_visitorAt 1 = .ok (.ifCond .lt 20, 3) := by decide +kernel
theorem dX3_visitorAt_4 : decode cX3_visitorAt 4 = .ok (.iload_n 1, 1) := by decide +kernel
theorem dX3_visitorAt_5 : decode cX3_visitorAt 5 = .ok (.aload_n 0, 1) := by decide +kernel
theorem dX3_visitorAt_6 : decode cX3_visitorAt 6 = .ok (.getfield 25, 3) := by decide +kernel
theorem dX3_visitorAt_9 : decode cX3_visitorAt 9 = .ok (.if_icmp .ge 12, 3) := by decide +kernel
theorem dX3_visitorAt_12 : decode cX3_visitorAt 12 = .ok (.aload_n 0, 1) := by decide +kernel
theorem dX3_visitorAt_13 : decode cX3_visitorAt 13 = .ok (.getfield 22, 3) := by decide +kernel
theorem dX3_visitorAt_16 : decode cX3_visitorAt 16 = .ok (.iload_n 1, 1) := by decide +kernel
theorem dX3_visitorAt_17 : decode cX3_visitorAt 17 = .ok (.iaload, 1) := by decide +kernel
theorem dX3_visitorAt_18 : decode cX3_visitorAt 18 = .ok (.goto 5, 3) := by decide +kernel
theorem dX3_visitorAt_21 : decode cX3_visitorAt 21 = .ok (.bipush (-5), 2) := by decide +kernel
theorem dX3_visitorAt_23 : decode cX3_visitorAt 23 = .ok (.ireturn, 1) := by decide +kernel
theorem dX3_placeOf_0 : decode cX3_placeOf 0 = .ok (.iconst 0, 1) := by decide +kernel
theorem dX3_placeOf_1 : decode cX3_placeOf 1 = .ok (.istore_n 2, 1) := by decide +kernel
theorem dX3_placeOf_2 : decode cX3_placeOf 2 = .ok (.iload_n 2, 1) := by decide +kernel
theorem dX3_placeOf_3 : decode cX3_placeOf 3 = .ok (.aload_n 0, 1) := by decide +kernel
theorem dX3_placeOf_4 : decode cX3_placeOf 4 = .ok (.getfield 25, 3) := by decide +kernel
theorem dX3_placeOf_7 : decode cX3_placeOf 7 = .ok (.if_icmp .ge 21, 3) := by decide +kernel
theorem dX3_placeOf_10 : decode cX3_placeOf 10 = .ok (.aload_n 0, 1) := by decide +kernel
theorem dX3_placeOf_11 : decode cX3_placeOf 11 = .ok (.getfield 22, 3) := by decide +kernel
theorem dX3_placeOf_14 : decode cX3_placeOf 14 = .ok (.iload_n 2, 1) := by decide +kernel
theorem dX3_placeOf_15 : decode cX3_placeOf 15 = .ok (.iaload, 1) := by decide +kernel
theorem dX3_placeOf_16 : decode cX3_placeOf 16 = .ok (.iload_n 1, 1) := by decide +kernel
theorem dX3_placeOf_17 : decode cX3_placeOf 17 = .ok (.if_icmp .ne 5, 3) := by decide +kernel
theorem dX3_placeOf_20 : decode cX3_placeOf 20 = .ok (.iload_n 2, 1) := by decide +kernel
theorem dX3_placeOf_21 : decode cX3_placeOf 21 = .ok (.ireturn, 1) := by decide +kernel
theorem dX3_placeOf_22 : decode cX3_placeOf 22 = .ok (.iinc 2 1, 3) := by decide +kernel
theorem dX3_placeOf_25 : decode cX3_placeOf 25 = .ok (.goto (-23), 3) := by decide +kernel
theorem dX3_placeOf_28 : decode cX3_placeOf 28 = .ok (.bipush (-5), 2) := by decide +kernel
theorem dX3_placeOf_30 : decode cX3_placeOf 30 = .ok (.ireturn, 1) := by decide +kernel
set_option maxRecDepth 20000 in
theorem ggX3_advance_X1_queues : GoodIn wsX3_advance wsX1_queues := goodIn_r _ [7, 8, 9, 10, 6, 11, 12, 13, 14, 15, 16, 97] (by decide +kernel) (by decide +kernel)
set_option maxRecDepth 20000 in
theorem gX3_advance_X1_queues : GoodIn wsX3_advance (wsV RX3 46 RX1 yX1_queues wsX1_queues) := goodIn_app (goodIn_of _ (by decide +kernel)) ggX3_advance_X1_queues
set_option maxRecDepth 20000 in
theorem ggX3_advance_X1_touches : GoodIn wsX3_advance wsX1_touches := goodIn_r _ [20, 21, 8, 9, 10, 6, 11, 12, 13, 14, 15, 16, 97] (by decide +kernel) (by decide +kernel)
set_option maxRecDepth 20000 in
theorem gX3_advance_X1_touches : GoodIn wsX3_advance (wsV RX3 50 RX1 yX1_touches wsX1_touches) := goodIn_app (goodIn_of _ (by decide +kernel)) ggX3_advance_X1_touches
set_option maxRecDepth 20000 in
theorem ggX3_advance_X1_waits : GoodIn wsX3_advance wsX1_waits := goodIn_r _ [25, 12, 13, 14, 15, 6, 16, 26, 27, 28, 29, 8, 9, 10, 11, 30, 31, 32, 33, 34, 35, 36, 97] (by decide +kernel) (by decide +kernel)
set_option maxRecDepth 20000 in
theorem gX3_advance_X1_waits : GoodIn wsX3_advance (wsV RX3 53 RX1 yX1_waits wsX1_waits) := goodIn_app (goodIn_of _ (by decide +kernel)) ggX3_advance_X1_waits
set_option maxRecDepth 20000 in
theorem ggX3_advance_X1_advance : GoodIn wsX3_advance wsX1_advance := goodIn_r _ [40, 41, 23, 24, 6, 25, 12, 13, 14, 15, 16, 26, 27, 28, 29, 8, 9, 10, 11, 30, 31, 32, 33, 34, 35, 36, 42, 43, 44, 45, 46, 47, 48, 49, 50, 51, 52, 53, 54, 55, 56, 57, 58, 59, 60, 61, 62, 63, 64, 65, 66, 67, 68, 69, 70, 71, 72, 73, 74, 75, 76, 77, 78, 79, 97] (by decide +kernel) (by decide +kernel)
set_option maxRecDepth 20000 in
theorem gX3_advance_X1_advance : GoodIn wsX3_advance (wsV RX3 56 RX1 yX1_advance wsX1_advance) := goodIn_app (goodIn_of _ (by decide +kernel)) ggX3_advance_X1_advance
set_option maxRecDepth 20000 in
theorem ggX3_advance_X1_stage : GoodIn wsX3_advance wsX1_stage := goodIn_r _ [16, 12, 97] (by decide +kernel) (by decide +kernel)
set_option maxRecDepth 20000 in
theorem gX3_advance_X1_stage : GoodIn wsX3_advance (wsV RX3 60 RX1 yX1_stage wsX1_stage) := goodIn_app (goodIn_of _ (by decide +kernel)) ggX3_advance_X1_stage
set_option maxRecDepth 20000 in
theorem ggX3_advance_X3_joinLine : GoodIn wsX3_advance wsX3_joinLine := goodIn_r _ [85, 86, 87, 92, 93, 94, 95, 96] (by decide +kernel) (by decide +kernel)
set_option maxRecDepth 20000 in
theorem gX3_advance_X3_joinLine : GoodIn wsX3_advance (wsV RX3 63 RX3 yX3_joinLine wsX3_joinLine) := goodIn_app (goodIn_of _ (by decide +kernel)) ggX3_advance_X3_joinLine
set_option maxRecDepth 20000 in
theorem ggX3_advance_X3_leaveLine : GoodIn wsX3_advance wsX3_leaveLine := goodIn_r _ [91, 86, 87, 92, 93, 94, 95, 96] (by decide +kernel) (by decide +kernel)
set_option maxRecDepth 20000 in
theorem gX3_advance_X3_leaveLine : GoodIn wsX3_advance (wsV RX3 66 RX3 yX3_leaveLine wsX3_leaveLine) := goodIn_app (goodIn_of _ (by decide +kernel)) ggX3_advance_X3_leaveLine
theorem dX3_advance_0 : decode cX3_advance 0 = .ok (.aload_n 0, 1) := by decide +kernel
theorem dX3_advance_1 : decode cX3_advance 1 = .ok (.getfield 14, 3) := by decide +kernel
theorem dX3_advance_4 : decode cX3_advance 4 = .ok (.iload_n 1, 1) := by decide +kernel
theorem dX3_advance_5 : decode cX3_advance 5 = .ok (.invokevirtual 46, 3) := by decide +kernel
theorem dX3_advance_8 : decode cX3_advance 8 = .ok (.istore_n 2, 1) := by decide +kernel
theorem dX3_advance_9 : decode cX3_advance 9 = .ok (.aload_n 0, 1) := by decide +kernel
theorem dX3_advance_10 : decode cX3_advance 10 = .ok (.getfield 18, 3) := by decide +kernel
theorem dX3_advance_13 : decode cX3_advance 13 = .ok (.iconst 0, 1) := by decide +kernel
theorem dX3_advance_14 : decode cX3_advance 14 = .ok (.iload_n 1, 1) := by decide +kernel
theorem dX3_advance_15 : decode cX3_advance 15 = .ok (.iadd, 1) := by decide +kernel
theorem dX3_advance_16 : decode cX3_advance 16 = .ok (.dup2, 1) := by decide +kernel
theorem dX3_advance_17 : decode cX3_advance 17 = .ok (.iaload, 1) := by decide +kernel
theorem dX3_advance_18 : decode cX3_advance 18 = .ok (.iconst 1, 1) := by decide +kernel
theorem dX3_advance_19 : decode cX3_advance 19 = .ok (.iadd, 1) := by decide +kernel
theorem dX3_advance_20 : decode cX3_advance 20 = .ok (.iastore, 1) := by decide +kernel
theorem dX3_advance_21 : decode cX3_advance 21 = .ok (.aload_n 0, 1) := by decide +kernel
theorem dX3_advance_22 : decode cX3_advance 22 = .ok (.getfield 18, 3) := by decide +kernel
theorem dX3_advance_25 : decode cX3_advance 25 = .ok (.bipush 18, 2) := by decide +kernel
theorem dX3_advance_27 : decode cX3_advance 27 = .ok (.iload_n 1, 1) := by decide +kernel
theorem dX3_advance_28 : decode cX3_advance 28 = .ok (.iadd, 1) := by decide +kernel
theorem dX3_advance_29 : decode cX3_advance 29 = .ok (.dup2, 1) := by decide +kernel
theorem dX3_advance_30 : decode cX3_advance 30 = .ok (.iaload, 1) := by decide +kernel
theorem dX3_advance_31 : decode cX3_advance 31 = .ok (.aload_n 0, 1) := by decide +kernel
theorem dX3_advance_32 : decode cX3_advance 32 = .ok (.getfield 14, 3) := by decide +kernel
theorem dX3_advance_35 : decode cX3_advance 35 = .ok (.iload_n 1, 1) := by decide +kernel
theorem dX3_advance_36 : decode cX3_advance 36 = .ok (.invokevirtual 50, 3) := by decide +kernel
theorem dX3_advance_39 : decode cX3_advance 39 = .ok (.iadd, 1) := by decide +kernel
theorem dX3_advance_40 : decode cX3_advance 40 = .ok (.iastore, 1) := by decide +kernel
theorem dX3_advance_41 : decode cX3_advance 41 = .ok (.aload_n 0, 1) := by decide +kernel
theorem dX3_advance_42 : decode cX3_advance 42 = .ok (.getfield 14, 3) := by decide +kernel
theorem dX3_advance_45 : decode cX3_advance 45 = .ok (.iload_n 1, 1) := by decide +kernel
theorem dX3_advance_46 : decode cX3_advance 46 = .ok (.invokevirtual 53, 3) := by decide +kernel
theorem dX3_advance_49 : decode cX3_advance 49 = .ok (.ifCond .eq 16, 3) := by decide +kernel
theorem dX3_advance_52 : decode cX3_advance 52 = .ok (.aload_n 0, 1) := by decide +kernel
theorem dX3_advance_53 : decode cX3_advance 53 = .ok (.getfield 18, 3) := by decide +kernel
theorem dX3_advance_56 : decode cX3_advance 56 = .ok (.bipush 6, 2) := by decide +kernel
theorem dX3_advance_58 : decode cX3_advance 58 = .ok (.iload_n 1, 1) := by decide +kernel
theorem dX3_advance_59 : decode cX3_advance 59 = .ok (.iadd, 1) := by decide +kernel
theorem dX3_advance_60 : decode cX3_advance 60 = .ok (.dup2, 1) := by decide +kernel
theorem dX3_advance_61 : decode cX3_advance 61 = .ok (.iaload, 1) := by decide +kernel
theorem dX3_advance_62 : decode cX3_advance 62 = .ok (.iconst 1, 1) := by decide +kernel
theorem dX3_advance_63 : decode cX3_advance 63 = .ok (.iadd, 1) := by decide +kernel
theorem dX3_advance_64 : decode cX3_advance 64 = .ok (.iastore, 1) := by decide +kernel
theorem dX3_advance_65 : decode cX3_advance 65 = .ok (.aload_n 0, 1) := by decide +kernel
theorem dX3_advance_66 : decode cX3_advance 66 = .ok (.getfield 14, 3) := by decide +kernel
theorem dX3_advance_69 : decode cX3_advance 69 = .ok (.iload_n 1, 1) := by decide +kernel
theorem dX3_advance_70 : decode cX3_advance 70 = .ok (.invokevirtual 56, 3) := by decide +kernel
theorem dX3_advance_73 : decode cX3_advance 73 = .ok (.aload_n 0, 1) := by decide +kernel
theorem dX3_advance_74 : decode cX3_advance 74 = .ok (.getfield 14, 3) := by decide +kernel
theorem dX3_advance_77 : decode cX3_advance 77 = .ok (.iload_n 1, 1) := by decide +kernel
theorem dX3_advance_78 : decode cX3_advance 78 = .ok (.invokevirtual 60, 3) := by decide +kernel
theorem dX3_advance_81 : decode cX3_advance 81 = .ok (.ifCond .ne 16, 3) := by decide +kernel
theorem dX3_advance_84 : decode cX3_advance 84 = .ok (.aload_n 0, 1) := by decide +kernel
theorem dX3_advance_85 : decode cX3_advance 85 = .ok (.getfield 18, 3) := by decide +kernel
theorem dX3_advance_88 : decode cX3_advance 88 = .ok (.bipush 12, 2) := by decide +kernel
theorem dX3_advance_90 : decode cX3_advance 90 = .ok (.iload_n 1, 1) := by decide +kernel
theorem dX3_advance_91 : decode cX3_advance 91 = .ok (.iadd, 1) := by decide +kernel
theorem dX3_advance_92 : decode cX3_advance 92 = .ok (.dup2, 1) := by decide +kernel
theorem dX3_advance_93 : decode cX3_advance 93 = .ok (.iaload, 1) := by decide +kernel
theorem dX3_advance_94 : decode cX3_advance 94 = .ok (.iconst 1, 1) := by decide +kernel
theorem dX3_advance_95 : decode cX3_advance 95 = .ok (.iadd, 1) := by decide +kernel
theorem dX3_advance_96 : decode cX3_advance 96 = .ok (.iastore, 1) := by decide +kernel
theorem dX3_advance_97 : decode cX3_advance 97 = .ok (.iload_n 2, 1) := by decide +kernel
theorem dX3_advance_98 : decode cX3_advance 98 = .ok (.ifCond .ne 22, 3) := by decide +kernel
theorem dX3_advance_101 : decode cX3_advance 101 = .ok (.aload_n 0, 1) := by decide +kernel
theorem dX3_advance_102 : decode cX3_advance 102 = .ok (.getfield 14, 3) := by decide +kernel
theorem dX3_advance_105 : decode cX3_advance 105 = .ok (.iload_n 1, 1) := by decide +kernel
theorem dX3_advance_106 : decode cX3_advance 106 = .ok (.invokevirtual 46, 3) := by decide +kernel
theorem dX3_advance_109 : decode cX3_advance 109 = .ok (.ifCond .eq 11, 3) := by decide +kernel
theorem dX3_advance_112 : decode cX3_advance 112 = .ok (.aload_n 0, 1) := by decide +kernel
theorem dX3_advance_113 : decode cX3_advance 113 = .ok (.iload_n 1, 1) := by decide +kernel
theorem dX3_advance_114 : decode cX3_advance 114 = .ok (.invokevirtual 63, 3) := by decide +kernel
theorem dX3_advance_117 : decode cX3_advance 117 = .ok (.goto 23, 3) := by decide +kernel
theorem dX3_advance_120 : decode cX3_advance 120 = .ok (.iload_n 2, 1) := by decide +kernel
theorem dX3_advance_121 : decode cX3_advance 121 = .ok (.ifCond .eq 19, 3) := by decide +kernel
theorem dX3_advance_124 : decode cX3_advance 124 = .ok (.aload_n 0, 1) := by decide +kernel
theorem dX3_advance_125 : decode cX3_advance 125 = .ok (.getfield 14, 3) := by decide +kernel
theorem dX3_advance_128 : decode cX3_advance 128 = .ok (.iload_n 1, 1) := by decide +kernel
theorem dX3_advance_129 : decode cX3_advance 129 = .ok (.invokevirtual 46, 3) := by decide +kernel
theorem dX3_advance_132 : decode cX3_advance 132 = .ok (.ifCond .ne 8, 3) := by decide +kernel
theorem dX3_advance_135 : decode cX3_advance 135 = .ok (.aload_n 0, 1) := by decide +kernel
theorem dX3_advance_136 : decode cX3_advance 136 = .ok (.iload_n 1, 1) := by decide +kernel
theorem dX3_advance_137 : decode cX3_advance 137 = .ok (.invokevirtual 66, 3) := by decide +kernel
theorem dX3_advance_140 : decode cX3_advance 140 = .ok (.return_, 1) := by decide +kernel
theorem dX3_joinLine_0 : decode cX3_joinLine 0 = .ok (.aload_n 0, 1) := by decide +kernel
theorem dX3_joinLine_1 : decode cX3_joinLine 1 = .ok (.getfield 25, 3) := by decide +kernel
theorem dX3_joinLine_4 : decode cX3_joinLine 4 = .ok (.bipush 6, 2) := by decide +kernel
theorem dX3_joinLine_6 : decode cX3_joinLine 6 = .ok (.if_icmp .ge 23, 3) := by decide +kernel
theorem dX3_joinLine_9 : decode cX3_joinLine 9 = .ok (.aload_n 0, 1) := by decide +kernel
theorem dX3_joinLine_10 : decode cX3_joinLine 10 = .ok (.getfield 22, 3) := by decide +kernel
theorem dX3_joinLine_13 : decode cX3_joinLine 13 = .ok (.aload_n 0, 1) := by decide +kernel
theorem dX3_joinLine_14 : decode cX3_joinLine 14 = .ok (.getfield 25, 3) := by decide +kernel
theorem dX3_joinLine_17 : decode cX3_joinLine 17 = .ok (.iload_n 1, 1) := by decide +kernel
theorem dX3_joinLine_18 : decode cX3_joinLine 18 = .ok (.iastore, 1) := by decide +kernel
theorem dX3_joinLine_19 : decode cX3_joinLine 19 = .ok (.aload_n 0, 1) := by decide +kernel
theorem dX3_joinLine_20 : decode cX3_joinLine 20 = .ok (.dup, 1) := by decide +kernel
theorem dX3_joinLine_21 : decode cX3_joinLine 21 = .ok (.getfield 25, 3) := by decide +kernel
theorem dX3_joinLine_24 : decode cX3_joinLine 24 = .ok (.iconst 1, 1) := by decide +kernel
theorem dX3_joinLine_25 : decode cX3_joinLine 25 = .ok (.iadd, 1) := by decide +kernel
theorem dX3_joinLine_26 : decode cX3_joinLine 26 = .ok (.putfield 25, 3) := by decide +kernel
theorem dX3_joinLine_29 : decode cX3_joinLine 29 = .ok (.return_, 1) := by decide +kernel
theorem dX3_leaveLine_0 : decode cX3_leaveLine 0 = .ok (.iconst 0, 1) := by decide +kernel
theorem dX3_leaveLine_1 : decode cX3_leaveLine 1 = .ok (.istore_n 2, 1) := by decide +kernel
theorem dX3_leaveLine_2 : decode cX3_leaveLine 2 = .ok (.iconst 0, 1) := by decide +kernel
theorem dX3_leaveLine_3 : decode cX3_leaveLine 3 = .ok (.istore_n 3, 1) := by decide +kernel
theorem dX3_leaveLine_4 : decode cX3_leaveLine 4 = .ok (.iload_n 3, 1) := by decide +kernel
theorem dX3_leaveLine_5 : decode cX3_leaveLine 5 = .ok (.aload_n 0, 1) := by decide +kernel
theorem dX3_leaveLine_6 : decode cX3_leaveLine 6 = .ok (.getfield 25, 3) := by decide +kernel
theorem dX3_leaveLine_9 : decode cX3_leaveLine 9 = .ok (.if_icmp .ge 34, 3) := by decide +kernel
theorem dX3_leaveLine_12 : decode cX3_leaveLine 12 = .ok (.aload_n 0, 1) := by decide +kernel
theorem dX3_leaveLine_13 : decode cX3_leaveLine 13 = .ok (.getfield 22, 3) := by decide +kernel
theorem dX3_leaveLine_16 : decode cX3_leaveLine 16 = .ok (.iload_n 3, 1) := by decide +kernel
theorem dX3_leaveLine_17 : decode cX3_leaveLine 17 = .ok (.iaload, 1) := by decide +kernel
theorem dX3_leaveLine_18 : decode cX3_leaveLine 18 = .ok (.iload_n 1, 1) := by decide +kernel
theorem dX3_leaveLine_19 : decode cX3_leaveLine 19 = .ok (.if_icmp .eq 18, 3) := by decide +kernel
theorem dX3_leaveLine_22 : decode cX3_leaveLine 22 = .ok (.aload_n 0, 1) := by decide +kernel
theorem dX3_leaveLine_23 : decode cX3_leaveLine 23 = .ok (.getfield 22, 3) := by decide +kernel
theorem dX3_leaveLine_26 : decode cX3_leaveLine 26 = .ok (.iload_n 2, 1) := by decide +kernel
theorem dX3_leaveLine_27 : decode cX3_leaveLine 27 = .ok (.aload_n 0, 1) := by decide +kernel
theorem dX3_leaveLine_28 : decode cX3_leaveLine 28 = .ok (.getfield 22, 3) := by decide +kernel
theorem dX3_leaveLine_31 : decode cX3_leaveLine 31 = .ok (.iload_n 3, 1) := by decide +kernel
theorem dX3_leaveLine_32 : decode cX3_leaveLine 32 = .ok (.iaload, 1) := by decide +kernel
theorem dX3_leaveLine_33 : decode cX3_leaveLine 33 = .ok (.iastore, 1) := by decide +kernel
theorem dX3_leaveLine_34 : decode cX3_leaveLine 34 = .ok (.iinc 2 1, 3) := by decide +kernel
theorem dX3_leaveLine_37 : decode cX3_leaveLine 37 = .ok (.iinc 3 1, 3) := by decide +kernel
theorem dX3_leaveLine_40 : decode cX3_leaveLine 40 = .ok (.goto (-36), 3) := by decide +kernel
theorem dX3_leaveLine_43 : decode cX3_leaveLine 43 = .ok (.aload_n 0, 1) := by decide +kernel
theorem dX3_leaveLine_44 : decode cX3_leaveLine 44 = .ok (.iload_n 2, 1) := by decide +kernel
theorem dX3_leaveLine_45 : decode cX3_leaveLine 45 = .ok (.putfield 25, 3) := by decide +kernel
theorem dX3_leaveLine_48 : decode cX3_leaveLine 48 = .ok (.return_, 1) := by decide +kernel
set_option maxRecDepth 20000 in
theorem ggX3_advanceFreely_X3_advance : GoodIn wsX3_advanceFreely wsX3_advance := goodIn_r _ [5, 6, 7, 8, 9, 10, 11, 12, 13, 14, 15, 16, 17, 18, 19, 20, 21, 22, 23, 24, 25, 26, 27, 28, 29, 30, 31, 32, 33, 34, 35, 36, 37, 38, 39, 40, 41, 42, 43, 44, 45, 46, 47, 48, 49, 50, 51, 52, 53, 54, 55, 56, 57, 58, 59, 60, 61, 62, 63, 64, 65, 66, 67, 68, 69, 70, 71, 72, 73, 74, 75, 76, 77, 78, 79, 80, 81, 82, 83, 84, 85, 86, 87, 88, 4, 89, 90, 91, 92, 93, 94, 95, 100, 101, 102, 103, 104, 105] (by decide +kernel) (by decide +kernel)
set_option maxRecDepth 20000 in
theorem gX3_advanceFreely_X3_advance : GoodIn wsX3_advanceFreely (wsV RX3 69 RX3 yX3_advance wsX3_advance) := goodIn_app (goodIn_of _ (by decide +kernel)) ggX3_advanceFreely_X3_advance
set_option maxRecDepth 20000 in
theorem ggX3_advanceFreely_X3_pauses : GoodIn wsX3_advanceFreely wsX3_pauses := goodIn_r _ [99, 6, 85, 19, 20, 11, 21, 17, 27, 28, 29, 30, 18, 31, 32, 33, 34, 13, 14, 15, 16, 35, 36, 37, 38, 39, 40, 41, 100, 101, 102, 103, 104, 105] (by decide +kernel) (by decide +kernel)
set_option maxRecDepth 20000 in
theorem gX3_advanceFreely_X3_pauses : GoodIn wsX3_advanceFreely (wsV RX3 70 RX3 yX3_pauses wsX3_pauses) := goodIn_app (goodIn_of _ (by decide +kernel)) ggX3_advanceFreely_X3_pauses
theorem dX3_advanceFreely_0 : decode cX3_advanceFreely 0 = .ok (.iconst 0, 1) := by decide +kernel
theorem dX3_advanceFreely_1 : decode cX3_advanceFreely 1 = .ok (.istore_n 2, 1) := by decide +kernel
theorem dX3_advanceFreely_2 : decode cX3_advanceFreely 2 = .ok (.aload_n 0, 1) := by decide +kernel
theorem dX3_advanceFreely_3 : decode cX3_advanceFreely 3 = .ok (.iload_n 1, 1) := by decide +kernel
theorem dX3_advanceFreely_4 : decode cX3_advanceFreely 4 = .ok (.invokevirtual 69, 3) := by decide +kernel
theorem dX3_advanceFreely_7 : decode cX3_advanceFreely 7 = .ok (.iinc 2 1, 3) := by decide +kernel
theorem dX3_advanceFreely_10 : decode cX3_advanceFreely 10 = .ok (.iload_n 2, 1) := by decide +kernel
theorem dX3_advanceFreely_11 : decode cX3_advanceFreely 11 = .ok (.sipush 1000, 3) := by decide +kernel
theorem dX3_advanceFreely_14 : decode cX3_advanceFreely 14 = .ok (.if_icmp .ge 11, 3) := by decide +kernel
theorem dX3_advanceFreely_17 : decode cX3_advanceFreely 17 = .ok (.aload_n 0, 1) := by decide +kernel
theorem dX3_advanceFreely_18 : decode cX3_advanceFreely 18 = .ok (.iload_n 1, 1) := by decide +kernel
theorem dX3_advanceFreely_19 : decode cX3_advanceFreely 19 = .ok (.invokevirtual 70, 3) := by decide +kernel
theorem dX3_advanceFreely_22 : decode cX3_advanceFreely 22 = .ok (.ifCond .eq (-20), 3) := by decide +kernel
theorem dX3_advanceFreely_25 : decode cX3_advanceFreely 25 = .ok (.iload_n 2, 1) := by decide +kernel
theorem dX3_advanceFreely_26 : decode cX3_advanceFreely 26 = .ok (.ireturn, 1) := by decide +kernel
set_option maxRecDepth 20000 in
theorem ggX3_pauses_X1_stage : GoodIn wsX3_pauses wsX1_stage := goodIn_r _ [6, 7, 33] (by decide +kernel) (by decide +kernel)
set_option maxRecDepth 20000 in
theorem gX3_pauses_X1_stage : GoodIn wsX3_pauses (wsV RX3 60 RX1 yX1_stage wsX1_stage) := goodIn_app (goodIn_of _ (by decide +kernel)) ggX3_pauses_X1_stage
set_option maxRecDepth 20000 in
theorem ggX3_pauses_X1_waits : GoodIn wsX3_pauses wsX1_waits := goodIn_r _ [11, 7, 12, 3, 4, 5, 6, 13, 14, 15, 16, 17, 18, 19, 20, 21, 22, 23, 24, 25, 26, 27, 33] (by decide +kernel) (by decide +kernel)
set_option maxRecDepth 20000 in
theorem gX3_pauses_X1_waits : GoodIn wsX3_pauses (wsV RX3 53 RX1 yX1_waits wsX1_waits) := goodIn_app (goodIn_of _ (by decide +kernel)) ggX3_pauses_X1_waits
theorem dX3_pauses_0 : decode cX3_pauses 0 = .ok (.aload_n 0, 1) := by decide +kernel
theorem dX3_pauses_1 : decode cX3_pauses 1 = .ok (.getfield 14, 3) := by decide +kernel
theorem dX3_pauses_4 : decode cX3_pauses 4 = .ok (.iload_n 1, 1) := by decide +kernel
theorem dX3_pauses_5 : decode cX3_pauses 5 = .ok (.invokevirtual 60, 3) := by decide +kernel
theorem dX3_pauses_8 : decode cX3_pauses 8 = .ok (.istore_n 2, 1) := by decide +kernel
theorem dX3_pauses_9 : decode cX3_pauses 9 = .ok (.iload_n 2, 1) := by decide +kernel
theorem dX3_pauses_10 : decode cX3_pauses 10 = .ok (.iconst 4, 1) := by decide +kernel
theorem dX3_pauses_11 : decode cX3_pauses 11 = .ok (.if_icmp .eq 18, 3) := by decide +kernel
theorem dX3_pauses_14 : decode cX3_pauses 14 = .ok (.iload_n 2, 1) := by decide +kernel
theorem dX3_pauses_15 : decode cX3_pauses 15 = .ok (.ifCond .eq 14, 3) := by decide +kernel
theorem dX3_pauses_18 : decode cX3_pauses 18 = .ok (.aload_n 0, 1) := by decide +kernel
theorem dX3_pauses_19 : decode cX3_pauses 19 = .ok (.getfield 14, 3) := by decide +kernel
theorem dX3_pauses_22 : decode cX3_pauses 22 = .ok (.iload_n 1, 1) := by decide +kernel
theorem dX3_pauses_23 : decode cX3_pauses 23 = .ok (.invokevirtual 53, 3) := by decide +kernel
theorem dX3_pauses_26 : decode cX3_pauses 26 = .ok (.ifCond .eq 7, 3) := by decide +kernel
theorem dX3_pauses_29 : decode cX3_pauses 29 = .ok (.iconst 1, 1) := by decide +kernel
theorem dX3_pauses_30 : decode cX3_pauses 30 = .ok (.goto 4, 3) := by decide +kernel
theorem dX3_pauses_33 : decode cX3_pauses 33 = .ok (.iconst 0, 1) := by decide +kernel
theorem dX3_pauses_34 : decode cX3_pauses 34 = .ok (.ireturn, 1) := by decide +kernel
set_option maxRecDepth 20000 in
theorem ggX3_advanceAll_X3_present : GoodIn wsX3_advanceAll wsX3_present := goodIn_r _ [7, 2, 8, 9, 10, 11, 12, 13, 14, 15, 16, 17, 105, 106, 107, 108, 109, 110] (by decide +kernel) (by decide +kernel)
set_option maxRecDepth 20000 in
theorem gX3_advanceAll_X3_present : GoodIn wsX3_advanceAll (wsV RX3 74 RX3 yX3_present wsX3_present) := goodIn_app (goodIn_of _ (by decide +kernel)) ggX3_advanceAll_X3_present
set_option maxRecDepth 20000 in
theorem ggX3_advanceAll_X1_stage : GoodIn wsX3_advanceAll wsX1_stage := goodIn_r _ [16, 17, 110] (by decide +kernel) (by decide +kernel)
set_option maxRecDepth 20000 in
theorem gX3_advanceAll_X1_stage : GoodIn wsX3_advanceAll (wsV RX3 60 RX1 yX1_stage wsX1_stage) := goodIn_app (goodIn_of _ (by decide +kernel)) ggX3_advanceAll_X1_stage
set_option maxRecDepth 20000 in
theorem ggX3_advanceAll_X3_advance : GoodIn wsX3_advanceAll wsX3_advance := goodIn_r _ [22, 2, 23, 24, 25, 26, 11, 27, 28, 29, 30, 31, 17, 13, 14, 15, 16, 32, 33, 34, 35, 36, 37, 38, 39, 40, 41, 42, 43, 44, 45, 46, 47, 48, 49, 50, 51, 52, 53, 54, 55, 56, 57, 58, 59, 60, 61, 62, 63, 64, 65, 66, 67, 68, 69, 70, 71, 72, 73, 74, 75, 76, 77, 78, 79, 80, 81, 82, 83, 84, 85, 86, 87, 88, 89, 90, 91, 92, 93, 94, 18, 95, 96, 97, 6, 98, 99, 100, 101, 102, 103, 104, 105, 106, 107, 108, 109, 110] (by decide +kernel) (by decide +kernel)
set_option maxRecDepth 20000 in
theorem gX3_advanceAll_X3_advance : GoodIn wsX3_advanceAll (wsV RX3 69 RX3 yX3_advance wsX3_advance) := goodIn_app (goodIn_of _ (by decide +kernel)) ggX3_advanceAll_X3_advance
theorem dX3_advanceAll_0 : decode cX3_advanceAll 0 = .ok (.iconst 0, 1) := by decide +kernel
theorem dX3_advanceAll_1 : decode cX3_advanceAll 1 = .ok (.istore_n 1, 1) := by decide +kernel
theorem dX3_advanceAll_2 : decode cX3_advanceAll 2 = .ok (.iconst 0, 1) := by decide +kernel
theorem dX3_advanceAll_3 : decode cX3_advanceAll 3 = .ok (.istore_n 2, 1) := by decide +kernel
theorem dX3_advanceAll_4 : decode cX3_advanceAll 4 = .ok (.iload_n 2, 1) := by decide +kernel
theorem dX3_advanceAll_5 : decode cX3_advanceAll 5 = .ok (.ldc 73, 2) := by decide +kernel
theorem dX3_advanceAll_7 : decode cX3_advanceAll 7 = .ok (.if_icmp .ge 49, 3) := by decide +kernel
theorem dX3_advanceAll_10 : decode cX3_advanceAll 10 = .ok (.aload_n 0, 1) := by decide +kernel
theorem dX3_advanceAll_11 : decode cX3_advanceAll 11 = .ok (.invokevirtual 74, 3) := by decide +kernel
theorem dX3_advanceAll_14 : decode cX3_advanceAll 14 = .ok (.ifCond .le 42, 3) := by decide +kernel
theorem dX3_advanceAll_17 : decode cX3_advanceAll 17 = .ok (.iconst 0, 1) := by decide +kernel
theorem dX3_advanceAll_18 : decode cX3_advanceAll 18 = .ok (.istore_n 3, 1) := by decide +kernel
theorem dX3_advanceAll_19 : decode cX3_advanceAll 19 = .ok (.iload_n 3, 1) := by decide +kernel
theorem dX3_advanceAll_20 : decode cX3_advanceAll 20 = .ok (.bipush 6, 2) := by decide +kernel
theorem dX3_advanceAll_22 : decode cX3_advanceAll 22 = .ok (.if_icmp .ge 28, 3) := by decide +kernel
theorem dX3_advanceAll_25 : decode cX3_advanceAll 25 = .ok (.aload_n 0, 1) := by decide +kernel
theorem dX3_advanceAll_26 : decode cX3_advanceAll 26 = .ok (.getfield 14, 3) := by decide +kernel
theorem dX3_advanceAll_29 : decode cX3_advanceAll 29 = .ok (.iload_n 3, 1) := by decide +kernel
theorem dX3_advanceAll_30 : decode cX3_advanceAll 30 = .ok (.invokevirtual 60, 3) := by decide +kernel
theorem dX3_advanceAll_33 : decode cX3_advanceAll 33 = .ok (.ifCond .eq 11, 3) := by decide +kernel
theorem dX3_advanceAll_36 : decode cX3_advanceAll 36 = .ok (.aload_n 0, 1) := by decide +kernel
theorem dX3_advanceAll_37 : decode cX3_advanceAll 37 = .ok (.iload_n 3, 1) := by decide +kernel
theorem dX3_advanceAll_38 : decode cX3_advanceAll 38 = .ok (.invokevirtual 69, 3) := by decide +kernel
theorem dX3_advanceAll_41 : decode cX3_advanceAll 41 = .ok (.iinc 1 1, 3) := by decide +kernel
theorem dX3_advanceAll_44 : decode cX3_advanceAll 44 = .ok (.iinc 3 1, 3) := by decide +kernel
theorem dX3_advanceAll_47 : decode cX3_advanceAll 47 = .ok (.goto (-28), 3) := by decide +kernel
theorem dX3_advanceAll_50 : decode cX3_advanceAll 50 = .ok (.iinc 2 1, 3) := by decide +kernel
theorem dX3_advanceAll_53 : decode cX3_advanceAll 53 = .ok (.goto (-49), 3) := by decide +kernel
theorem dX3_advanceAll_56 : decode cX3_advanceAll 56 = .ok (.iload_n 1, 1) := by decide +kernel
theorem dX3_advanceAll_57 : decode cX3_advanceAll 57 = .ok (.ireturn, 1) := by decide +kernel
set_option maxRecDepth 20000 in
theorem ggX3_lot_J6_bitCount_0f7a4 : GoodIn wsX3_lot wsJ6_bitCount_0f7a4 := goodIn_r _ [9, 10, 11, 12] (by decide +kernel) (by decide +kernel)
set_option maxRecDepth 20000 in
theorem gX3_lot_J6_bitCount_0f7a4 : GoodIn wsX3_lot (va_wsS RX3 84 yJ6_bitCount_0f7a4 wsJ6_bitCount_0f7a4) := goodIn_app (goodIn_of _ (by decide +kernel)) ggX3_lot_J6_bitCount_0f7a4
theorem dX3_lot_0 : decode cX3_lot 0 = .ok (.aload_n 0, 1) := by decide +kernel
theorem dX3_lot_1 : decode cX3_lot 1 = .ok (.aload_n 0, 1) := by decide +kernel
theorem dX3_lot_2 : decode cX3_lot 2 = .ok (.getfield 29, 3) := by decide +kernel
theorem dX3_lot_5 : decode cX3_lot 5 = .ok (.i2l, 1) := by decide +kernel
theorem dX3_lot_6 : decode cX3_lot 6 = .ok (.ldc2_w 78, 3) := by decide +kernel
theorem dX3_lot_9 : decode cX3_lot 9 = .ok (.lmul, 1) := by decide +kernel
theorem dX3_lot_10 : decode cX3_lot 10 = .ok (.ldc2_w 80, 3) := by decide +kernel
theorem dX3_lot_13 : decode cX3_lot 13 = .ok (.ladd, 1) := by decide +kernel
theorem dX3_lot_14 : decode cX3_lot 14 = .ok (.ldc2_w 82, 3) := by decide +kernel
theorem dX3_lot_17 : decode cX3_lot 17 = .ok (.lrem, 1) := by decide +kernel
theorem dX3_lot_18 : decode cX3_lot 18 = .ok (.l2i, 1) := by decide +kernel
theorem dX3_lot_19 : decode cX3_lot 19 = .ok (.putfield 29, 3) := by decide +kernel
theorem dX3_lot_22 : decode cX3_lot 22 = .ok (.iload_n 1, 1) := by decide +kernel
theorem dX3_lot_23 : decode cX3_lot 23 = .ok (.invokestatic 84, 3) := by decide +kernel
theorem dX3_lot_26 : decode cX3_lot 26 = .ok (.istore_n 2, 1) := by decide +kernel
theorem dX3_lot_27 : decode cX3_lot 27 = .ok (.iload_n 2, 1) := by decide +kernel
theorem dX3_lot_28 : decode cX3_lot 28 = .ok (.ifCond .le 15, 3) := by decide +kernel
theorem dX3_lot_31 : decode cX3_lot 31 = .ok (.aload_n 0, 1) := by decide +kernel
theorem dX3_lot_32 : decode cX3_lot 32 = .ok (.getfield 29, 3) := by decide +kernel
theorem dX3_lot_35 : decode cX3_lot 35 = .ok (.ldc 89, 2) := by decide +kernel
theorem dX3_lot_37 : decode cX3_lot 37 = .ok (.idiv, 1) := by decide +kernel
theorem dX3_lot_38 : decode cX3_lot 38 = .ok (.iload_n 2, 1) := by decide +kernel
theorem dX3_lot_39 : decode cX3_lot 39 = .ok (.irem, 1) := by decide +kernel
theorem dX3_lot_40 : decode cX3_lot 40 = .ok (.goto 4, 3) := by decide +kernel
theorem dX3_lot_43 : decode cX3_lot 43 = .ok (.iconst 0, 1) := by decide +kernel
theorem dX3_lot_44 : decode cX3_lot 44 = .ok (.istore_n 3, 1) := by decide +kernel
theorem dX3_lot_45 : decode cX3_lot 45 = .ok (.iconst 0, 1) := by decide +kernel
theorem dX3_lot_46 : decode cX3_lot 46 = .ok (.istore 4, 2) := by decide +kernel
theorem dX3_lot_48 : decode cX3_lot 48 = .ok (.iconst 0, 1) := by decide +kernel
theorem dX3_lot_49 : decode cX3_lot 49 = .ok (.istore 5, 2) := by decide +kernel
theorem dX3_lot_51 : decode cX3_lot 51 = .ok (.iload 5, 2) := by decide +kernel
theorem dX3_lot_53 : decode cX3_lot 53 = .ok (.bipush 6, 2) := by decide +kernel
theorem dX3_lot_55 : decode cX3_lot 55 = .ok (.if_icmp .ge 32, 3) := by decide +kernel
theorem dX3_lot_58 : decode cX3_lot 58 = .ok (.iload_n 1, 1) := by decide +kernel
theorem dX3_lot_59 : decode cX3_lot 59 = .ok (.iconst 1, 1) := by decide +kernel
theorem dX3_lot_60 : decode cX3_lot 60 = .ok (.iload 5, 2) := by decide +kernel
theorem dX3_lot_62 : decode cX3_lot 62 = .ok (.ishl, 1) := by decide +kernel
theorem dX3_lot_63 : decode cX3_lot 63 = .ok (.iand, 1) := by decide +kernel
theorem dX3_lot_64 : decode cX3_lot 64 = .ok (.ifCond .eq 17, 3) := by decide +kernel
theorem dX3_lot_67 : decode cX3_lot 67 = .ok (.iload 5, 2) := by decide +kernel
theorem dX3_lot_69 : decode cX3_lot 69 = .ok (.istore 4, 2) := by decide +kernel
theorem dX3_lot_71 : decode cX3_lot 71 = .ok (.iload_n 3, 1) := by decide +kernel
theorem dX3_lot_72 : decode cX3_lot 72 = .ok (.ifCond .ne 6, 3) := by decide +kernel
theorem dX3_lot_75 : decode cX3_lot 75 = .ok (.iload 5, 2) := by decide +kernel
theorem dX3_lot_77 : decode cX3_lot 77 = .ok (.ireturn, 1) := by decide +kernel
theorem dX3_lot_78 : decode cX3_lot 78 = .ok (.iinc 3 (-1), 3) := by decide +kernel
theorem dX3_lot_81 : decode cX3_lot 81 = .ok (.iinc 5 1, 3) := by decide +kernel
theorem dX3_lot_84 : decode cX3_lot 84 = .ok (.goto (-33), 3) := by decide +kernel
theorem dX3_lot_87 : decode cX3_lot 87 = .ok (.iload 4, 2) := by decide +kernel
theorem dX3_lot_89 : decode cX3_lot 89 = .ok (.ireturn, 1) := by decide +kernel
set_option maxRecDepth 20000 in
theorem ggX4_init_X3_init : GoodIn wsX4_init wsX3_init := goodIn_r _ [26, 27, 2, 3, 28, 29, 30, 31, 32, 33, 34, 35, 36, 37, 38, 39, 40, 41, 42, 43, 44, 45, 90, 66, 67, 68, 69, 70] (by decide +kernel) (by decide +kernel)
set_option maxRecDepth 20000 in
theorem gX4_init_X3_init : GoodIn wsX4_init (wsX3_init) := ggX4_init_X3_init
set_option maxRecDepth 20000 in
theorem ggX4_init_X2_init : GoodIn wsX4_init wsX2_init := goodIn_r _ [48, 49, 2, 3, 50, 51, 32, 52, 53, 54, 55, 81, 82, 83, 84, 85] (by decide +kernel) (by decide +kernel)
set_option maxRecDepth 20000 in
theorem gX4_init_X2_init : GoodIn wsX4_init (wsX2_init) := ggX4_init_X2_init
set_option maxRecDepth 20000 in
theorem ggX4_init_X0_init : GoodIn wsX4_init wsX0_init := goodIn_r _ [58, 59, 2, 3, 60, 61, 32, 62, 29, 30, 63, 64, 65, 38, 39, 40, 41, 42, 43, 44, 45, 86, 87, 88, 89, 90] (by decide +kernel) (by decide +kernel)
set_option maxRecDepth 20000 in
theorem gX4_init_X0_init : GoodIn wsX4_init (wsX0_init) := ggX4_init_X0_init
theorem dX4_init_0 : decode cX4_init 0 = .ok (.aload_n 0, 1) := by decide +kernel
theorem dX4_init_1 : decode cX4_init 1 = .ok (.invokespecial 3, 3) := by decide +kernel
theorem dX4_init_4 : decode cX4_init 4 = .ok (.aload_n 0, 1) := by decide +kernel
theorem dX4_init_5 : decode cX4_init 5 = .ok (.new 9, 3) := by decide +kernel
theorem dX4_init_8 : decode cX4_init 8 = .ok (.dup, 1) := by decide +kernel
theorem dX4_init_9 : decode cX4_init 9 = .ok (.invokespecial 11, 3) := by decide +kernel
theorem dX4_init_12 : decode cX4_init 12 = .ok (.putfield 12, 3) := by decide +kernel
theorem dX4_init_15 : decode cX4_init 15 = .ok (.aload_n 0, 1) := by decide +kernel
theorem dX4_init_16 : decode cX4_init 16 = .ok (.new 9, 3) := by decide +kernel
theorem dX4_init_19 : decode cX4_init 19 = .ok (.dup, 1) := by decide +kernel
theorem dX4_init_20 : decode cX4_init 20 = .ok (.invokespecial 11, 3) := by decide +kernel
theorem dX4_init_23 : decode cX4_init 23 = .ok (.putfield 16, 3) := by decide +kernel
theorem dX4_init_26 : decode cX4_init 26 = .ok (.aload_n 0, 1) := by decide +kernel
theorem dX4_init_27 : decode cX4_init 27 = .ok (.new 9, 3) := by decide +kernel
theorem dX4_init_30 : decode cX4_init 30 = .ok (.dup, 1) := by decide +kernel
theorem dX4_init_31 : decode cX4_init 31 = .ok (.invokespecial 11, 3) := by decide +kernel
theorem dX4_init_34 : decode cX4_init 34 = .ok (.putfield 19, 3) := by decide +kernel
theorem dX4_init_37 : decode cX4_init 37 = .ok (.aload_n 0, 1) := by decide +kernel
theorem dX4_init_38 : decode cX4_init 38 = .ok (.iconst 0, 1) := by decide +kernel
theorem dX4_init_39 : decode cX4_init 39 = .ok (.putfield 22, 3) := by decide +kernel
theorem dX4_init_42 : decode cX4_init 42 = .ok (.aload_n 0, 1) := by decide +kernel
theorem dX4_init_43 : decode cX4_init 43 = .ok (.iconst 4, 1) := by decide +kernel
theorem dX4_init_44 : decode cX4_init 44 = .ok (.anewarray 9, 3) := by decide +kernel
theorem dX4_init_47 : decode cX4_init 47 = .ok (.putfield 26, 3) := by decide +kernel
theorem dX4_init_50 : decode cX4_init 50 = .ok (.iconst 0, 1) := by decide +kernel
theorem dX4_init_51 : decode cX4_init 51 = .ok (.istore_n 1, 1) := by decide +kernel
theorem dX4_init_52 : decode cX4_init 52 = .ok (.iload_n 1, 1) := by decide +kernel
theorem dX4_init_53 : decode cX4_init 53 = .ok (.iconst 4, 1) := by decide +kernel
theorem dX4_init_54 : decode cX4_init 54 = .ok (.if_icmp .ge 22, 3) := by decide +kernel
theorem dX4_init_57 : decode cX4_init 57 = .ok (.aload_n 0, 1) := by decide +kernel
theorem dX4_init_58 : decode cX4_init 58 = .ok (.getfield 26, 3) := by decide +kernel
theorem dX4_init_61 : decode cX4_init 61 = .ok (.iload_n 1, 1) := by decide +kernel
theorem dX4_init_62 : decode cX4_init 62 = .ok (.new 9, 3) := by decide +kernel
theorem dX4_init_65 : decode cX4_init 65 = .ok (.dup, 1) := by decide +kernel
theorem dX4_init_66 : decode cX4_init 66 = .ok (.invokespecial 11, 3) := by decide +kernel
theorem dX4_init_69 : decode cX4_init 69 = .ok (.aastore, 1) := by decide +kernel
theorem dX4_init_70 : decode cX4_init 70 = .ok (.iinc 1 1, 3) := by decide +kernel
theorem dX4_init_73 : decode cX4_init 73 = .ok (.goto (-21), 3) := by decide +kernel
theorem dX4_init_76 : decode cX4_init 76 = .ok (.aload_n 0, 1) := by decide +kernel
theorem dX4_init_77 : decode cX4_init 77 = .ok (.iconst 0, 1) := by decide +kernel
theorem dX4_init_78 : decode cX4_init 78 = .ok (.putfield 30, 3) := by decide +kernel
theorem dX4_init_81 : decode cX4_init 81 = .ok (.aload_n 0, 1) := by decide +kernel
theorem dX4_init_82 : decode cX4_init 82 = .ok (.bipush 60, 2) := by decide +kernel
theorem dX4_init_84 : decode cX4_init 84 = .ok (.newarray .char, 2) := by decide +kernel
theorem dX4_init_86 : decode cX4_init 86 = .ok (.putfield 34, 3) := by decide +kernel
theorem dX4_init_89 : decode cX4_init 89 = .ok (.aload_n 0, 1) := by decide +kernel
theorem dX4_init_90 : decode cX4_init 90 = .ok (.iconst 0, 1) := by decide +kernel
theorem dX4_init_91 : decode cX4_init 91 = .ok (.putfield 38, 3) := by decide +kernel
theorem dX4_init_94 : decode cX4_init 94 = .ok (.aload_n 0, 1) := by decide +kernel
theorem dX4_init_95 : decode cX4_init 95 = .ok (.new 41, 3) := by decide +kernel
theorem dX4_init_98 : decode cX4_init 98 = .ok (.dup, 1) := by decide +kernel
theorem dX4_init_99 : decode cX4_init 99 = .ok (.invokespecial 43, 3) := by decide +kernel
theorem dX4_init_102 : decode cX4_init 102 = .ok (.putfield 44, 3) := by decide +kernel
theorem dX4_init_105 : decode cX4_init 105 = .ok (.aload_n 0, 1) := by decide +kernel
theorem dX4_init_106 : decode cX4_init 106 = .ok (.new 48, 3) := by decide +kernel
theorem dX4_init_109 : decode cX4_init 109 = .ok (.dup, 1) := by decide +kernel
theorem dX4_init_110 : decode cX4_init 110 = .ok (.invokespecial 50, 3) := by decide +kernel
theorem dX4_init_113 : decode cX4_init 113 = .ok (.putfield 51, 3) := by decide +kernel
theorem dX4_init_116 : decode cX4_init 116 = .ok (.return_, 1) := by decide +kernel
set_option maxRecDepth 20000 in
theorem ggX4_build_X3_present : GoodIn wsX4_build wsX3_present := goodIn_r _ [6, 7, 8, 9, 10, 11, 12, 13, 14, 15, 16, 17, 64, 65, 66, 67, 68, 69] (by decide +kernel) (by decide +kernel)
set_option maxRecDepth 20000 in
theorem gX4_build_X3_present : GoodIn wsX4_build (wsV RX4 55 RX3 yX3_present wsX3_present) := goodIn_app (goodIn_of _ (by decide +kernel)) ggX4_build_X3_present
set_option maxRecDepth 20000 in
theorem ggX4_build_X4_remember : GoodIn wsX4_build wsX4_remember := goodIn_r _ [22, 23, 24, 1, 25, 26, 27, 21, 28, 29, 30, 31, 5, 32, 7, 33, 34, 35, 36, 37, 38, 39, 40, 41, 42, 43, 11, 44, 17, 45, 54, 55, 56, 57, 58, 59, 60, 61, 62, 63, 64, 65, 66, 67, 68, 69] (by decide +kernel) (by decide +kernel)
set_option maxRecDepth 20000 in
theorem gX4_build_X4_remember : GoodIn wsX4_build (wsV RX4 59 RX4 yX4_remember wsX4_remember) := goodIn_app (goodIn_of _ (by decide +kernel)) ggX4_build_X4_remember
set_option maxRecDepth 20000 in
theorem ggX4_build_X1_kind : GoodIn wsX4_build wsX1_kind := goodIn_r _ [49, 17, 69] (by decide +kernel) (by decide +kernel)
set_option maxRecDepth 20000 in
theorem gX4_build_X1_kind : GoodIn wsX4_build (wsV RX4 66 RX1 yX1_kind wsX1_kind) := goodIn_app (goodIn_of _ (by decide +kernel)) ggX4_build_X1_kind
set_option maxRecDepth 20000 in
theorem ggX4_build_X1_reset : GoodIn wsX4_build wsX1_reset := goodIn_r _ [53, 17, 69] (by decide +kernel) (by decide +kernel)
set_option maxRecDepth 20000 in
theorem gX4_build_X1_reset : GoodIn wsX4_build (wsV RX4 71 RX1 yX1_reset wsX1_reset) := goodIn_app (goodIn_of _ (by decide +kernel)) ggX4_build_X1_reset
theorem dX4_build_0 : decode cX4_build 0 = .ok (.iload_n 1, 1) := by decide +kernel
theorem dX4_build_1 : decode cX4_build 1 = .ok (.ifCond .lt 8, 3) := by decide +kernel
theorem dX4_build_4 : decode cX4_build 4 = .ok (.iload_n 1, 1) := by decide +kernel
theorem dX4_build_5 : decode cX4_build 5 = .ok (.iconst 4, 1) := by decide +kernel
theorem dX4_build_6 : decode cX4_build 6 = .ok (.if_icmp .lt 5, 3) := by decide +kernel
theorem dX4_build_9 : decode cX4_build 9 = .ok (.iconst (-1), 1) := by decide +kernel
theorem dX4_build_10 : decode cX4_build 10 = .ok (.ireturn, 1) := by decide +kernel
theorem dX4_build_11 : decode cX4_build 11 = .ok (.aload_n 0, 1) := by decide +kernel
theorem dX4_build_12 : decode cX4_build 12 = .ok (.getfield 12, 3) := by decide +kernel
theorem dX4_build_15 : decode cX4_build 15 = .ok (.invokevirtual 55, 3) := by decide +kernel
theorem dX4_build_18 : decode cX4_build 18 = .ok (.ifCond .le 6, 3) := by decide +kernel
theorem dX4_build_21 : decode cX4_build 21 = .ok (.bipush (-4), 2) := by decide +kernel
theorem dX4_build_23 : decode cX4_build 23 = .ok (.ireturn, 1) := by decide +kernel
theorem dX4_build_24 : decode cX4_build 24 = .ok (.aload_n 0, 1) := by decide +kernel
theorem dX4_build_25 : decode cX4_build 25 = .ok (.invokevirtual 59, 3) := by decide +kernel
theorem dX4_build_28 : decode cX4_build 28 = .ok (.aload_n 0, 1) := by decide +kernel
theorem dX4_build_29 : decode cX4_build 29 = .ok (.getfield 12, 3) := by decide +kernel
theorem dX4_build_32 : decode cX4_build 32 = .ok (.getfield 62, 3) := by decide +kernel
theorem dX4_build_35 : decode cX4_build 35 = .ok (.invokevirtual 66, 3) := by decide +kernel
theorem dX4_build_38 : decode cX4_build 38 = .ok (.istore_n 2, 1) := by decide +kernel
theorem dX4_build_39 : decode cX4_build 39 = .ok (.aload_n 0, 1) := by decide +kernel
theorem dX4_build_40 : decode cX4_build 40 = .ok (.getfield 12, 3) := by decide +kernel
theorem dX4_build_43 : decode cX4_build 43 = .ok (.getfield 62, 3) := by decide +kernel
theorem dX4_build_46 : decode cX4_build 46 = .ok (.iload_n 1, 1) := by decide +kernel
theorem dX4_build_47 : decode cX4_build 47 = .ok (.invokevirtual 71, 3) := by decide +kernel
theorem dX4_build_50 : decode cX4_build 50 = .ok (.iload_n 2, 1) := by decide +kernel
theorem dX4_build_51 : decode cX4_build 51 = .ok (.ireturn, 1) := by decide +kernel
set_option maxRecDepth 20000 in
theorem ggX4_step_X4_isVisitor : GoodIn wsX4_step wsX4_isVisitor := goodIn_r _ [5] (by decide +kernel) (by decide +kernel)
set_option maxRecDepth 20000 in
theorem gX4_step_X4_isVisitor : GoodIn wsX4_step (va_wsS RX4 75 yX4_isVisitor wsX4_isVisitor) := goodIn_app (goodIn_of _ (by decide +kernel)) ggX4_step_X4_isVisitor
set_option maxRecDepth 20000 in
theorem ggX4_step_X4_remember : GoodIn wsX4_step wsX4_remember := goodIn_r _ [9, 10, 11, 1, 12, 13, 14, 4, 15, 16, 17, 18, 19, 20, 21, 22, 23, 24, 25, 26, 27, 28, 29, 30, 31, 32, 33, 34, 35, 36, 123, 124, 125, 126, 127, 128, 129, 130, 131, 132, 133, 134, 135, 136, 137, 138] (by decide +kernel) (by decide +kernel)
set_option maxRecDepth 20000 in
theorem gX4_step_X4_remember : GoodIn wsX4_step (wsV RX4 59 RX4 yX4_remember wsX4_remember) := goodIn_app (goodIn_of _ (by decide +kernel)) ggX4_step_X4_remember
set_option maxRecDepth 20000 in
theorem ggX4_step_X3_advance : GoodIn wsX4_step wsX3_advance := goodIn_r _ [40, 21, 22, 41, 42, 43, 33, 44, 45, 46, 47, 48, 35, 49, 50, 51, 52, 53, 54, 55, 56, 57, 58, 59, 60, 61, 62, 63, 64, 65, 66, 67, 68, 69, 70, 4, 71, 72, 73, 74, 75, 76, 77, 78, 79, 80, 81, 82, 83, 84, 85, 86, 87, 88, 3, 5, 89, 90, 91, 92, 93, 94, 95, 96, 97, 98, 99, 100, 101, 102, 103, 104, 105, 106, 107, 108, 109, 110, 111, 112, 113, 114, 115, 116, 19, 117, 28, 27, 118, 119, 120, 121, 133, 134, 135, 136, 137, 138] (by decide +kernel) (by decide +kernel)
set_option maxRecDepth 20000 in
theorem gX4_step_X3_advance : GoodIn wsX4_step (wsV RX4 79 RX3 yX3_advance wsX3_advance) := goodIn_app (goodIn_of _ (by decide +kernel)) ggX4_step_X3_advance
set_option maxRecDepth 20000 in
theorem ggX4_step_X1_stage : GoodIn wsX4_step wsX1_stage := goodIn_r _ [52, 35, 138] (by decide +kernel) (by decide +kernel)
set_option maxRecDepth 20000 in
theorem gX4_step_X1_stage : GoodIn wsX4_step (wsV RX4 82 RX1 yX1_stage wsX1_stage) := goodIn_app (goodIn_of _ (by decide +kernel)) ggX4_step_X1_stage
theorem dX4_step_0 : decode cX4_step 0 = .ok (.iload_n 1, 1) := by decide +kernel
theorem dX4_step_1 : decode cX4_step 1 = .ok (.invokestatic 75, 3) := by decide +kernel
theorem dX4_step_4 : decode cX4_step 4 = .ok (.ifCond .ne 5, 3) := by decide +kernel
theorem dX4_step_7 : decode cX4_step 7 = .ok (.iconst (-1), 1) := by decide +kernel
theorem dX4_step_8 : decode cX4_step 8 = .ok (.ireturn, 1) := by decide +kernel
theorem dX4_step_9 : decode cX4_step 9 = .ok (.aload_n 0, 1) := by decide +kernel
theorem dX4_step_10 : decode cX4_step 10 = .ok (.invokevirtual 59, 3) := by decide +kernel
theorem dX4_step_13 : decode cX4_step 13 = .ok (.aload_n 0, 1) := by decide +kernel
theorem dX4_step_14 : decode cX4_step 14 = .ok (.getfield 12, 3) := by decide +kernel
theorem dX4_step_17 : decode cX4_step 17 = .ok (.iload_n 1, 1) := by decide +kernel
theorem dX4_step_18 : decode cX4_step 18 = .ok (.invokevirtual 79, 3) := by decide +kernel
theorem dX4_step_21 : decode cX4_step 21 = .ok (.aload_n 0, 1) := by decide +kernel
theorem dX4_step_22 : decode cX4_step 22 = .ok (.getfield 12, 3) := by decide +kernel
theorem dX4_step_25 : decode cX4_step 25 = .ok (.getfield 62, 3) := by decide +kernel
theorem dX4_step_28 : decode cX4_step 28 = .ok (.iload_n 1, 1) := by decide +kernel
theorem dX4_step_29 : decode cX4_step 29 = .ok (.invokevirtual 82, 3) := by decide +kernel
theorem dX4_step_32 : decode cX4_step 32 = .ok (.ireturn, 1) := by decide +kernel
set_option maxRecDepth 20000 in
theorem ggX4_go_X4_isVisitor : GoodIn wsX4_go wsX4_isVisitor := goodIn_r _ [5] (by decide +kernel) (by decide +kernel)
set_option maxRecDepth 20000 in
theorem gX4_go_X4_isVisitor : GoodIn wsX4_go (va_wsS RX4 75 yX4_isVisitor wsX4_isVisitor) := goodIn_app (goodIn_of _ (by decide +kernel)) ggX4_go_X4_isVisitor
set_option maxRecDepth 20000 in
theorem ggX4_go_X1_waits : GoodIn wsX4_go wsX1_waits := goodIn_r _ [10, 11, 12, 13, 14, 9, 15, 16, 17, 18, 19, 20, 21, 22, 23, 24, 25, 26, 27, 28, 4, 29, 146] (by decide +kernel) (by decide +kernel)
set_option maxRecDepth 20000 in
theorem gX4_go_X1_waits : GoodIn wsX4_go (wsV RX4 86 RX1 yX1_waits wsX1_waits) := goodIn_app (goodIn_of _ (by decide +kernel)) ggX4_go_X1_waits
set_option maxRecDepth 20000 in
theorem ggX4_go_X4_remember : GoodIn wsX4_go wsX4_remember := goodIn_r _ [33, 34, 35, 1, 36, 37, 38, 4, 39, 40, 41, 42, 43, 44, 45, 46, 47, 48, 49, 50, 51, 52, 53, 54, 55, 56, 9, 57, 11, 58, 131, 132, 133, 134, 135, 136, 137, 138, 139, 140, 141, 142, 143, 144, 145, 146] (by decide +kernel) (by decide +kernel)
set_option maxRecDepth 20000 in
theorem gX4_go_X4_remember : GoodIn wsX4_go (wsV RX4 59 RX4 yX4_remember wsX4_remember) := goodIn_app (goodIn_of _ (by decide +kernel)) ggX4_go_X4_remember
set_option maxRecDepth 20000 in
theorem ggX4_go_X3_advanceFreely : GoodIn wsX4_go wsX3_advanceFreely := goodIn_r _ [62, 63, 64, 65, 43, 66, 45, 46, 67, 68, 69, 9, 70, 20, 21, 22, 23, 11, 12, 13, 14, 15, 71, 72, 73, 74, 75, 76, 7, 8, 10, 16, 17, 18, 19, 24, 25, 26, 27, 28, 4, 29, 77, 78, 79, 80, 81, 82, 83, 84, 85, 86, 87, 88, 89, 90, 91, 92, 93, 3, 5, 94, 95, 96, 97, 98, 99, 100, 101, 102, 103, 104, 105, 106, 107, 108, 109, 110, 111, 112, 113, 114, 115, 116, 117, 118, 119, 120, 121, 122, 52, 51, 123, 124, 125, 126, 127, 128, 129, 130, 141, 142, 143, 144, 145, 146] (by decide +kernel) (by decide +kernel)
set_option maxRecDepth 20000 in
theorem gX4_go_X3_advanceFreely : GoodIn wsX4_go (wsV RX4 89 RX3 yX3_advanceFreely wsX3_advanceFreely) := goodIn_app (goodIn_of _ (by decide +kernel)) ggX4_go_X3_advanceFreely
theorem dX4_go_0 : decode cX4_go 0 = .ok (.iload_n 1, 1) := by decide +kernel
theorem dX4_go_1 : decode cX4_go 1 = .ok (.invokestatic 75, 3) := by decide +kernel
theorem dX4_go_4 : decode cX4_go 4 = .ok (.ifCond .ne 5, 3) := by decide +kernel
theorem dX4_go_7 : decode cX4_go 7 = .ok (.iconst (-1), 1) := by decide +kernel
theorem dX4_go_8 : decode cX4_go 8 = .ok (.ireturn, 1) := by decide +kernel
theorem dX4_go_9 : decode cX4_go 9 = .ok (.aload_n 0, 1) := by decide +kernel
theorem dX4_go_10 : decode cX4_go 10 = .ok (.getfield 12, 3) := by decide +kernel
theorem dX4_go_13 : decode cX4_go 13 = .ok (.getfield 62, 3) := by decide +kernel
theorem dX4_go_16 : decode cX4_go 16 = .ok (.iload_n 1, 1) := by decide +kernel
theorem dX4_go_17 : decode cX4_go 17 = .ok (.invokevirtual 86, 3) := by decide +kernel
theorem dX4_go_20 : decode cX4_go 20 = .ok (.ifCond .eq 6, 3) := by decide +kernel
theorem dX4_go_23 : decode cX4_go 23 = .ok (.bipush (-5), 2) := by decide +kernel
theorem dX4_go_25 : decode cX4_go 25 = .ok (.ireturn, 1) := by decide +kernel
theorem dX4_go_26 : decode cX4_go 26 = .ok (.aload_n 0, 1) := by decide +kernel
theorem dX4_go_27 : decode cX4_go 27 = .ok (.invokevirtual 59, 3) := by decide +kernel
theorem dX4_go_30 : decode cX4_go 30 = .ok (.aload_n 0, 1) := by decide +kernel
theorem dX4_go_31 : decode cX4_go 31 = .ok (.getfield 12, 3) := by decide +kernel
theorem dX4_go_34 : decode cX4_go 34 = .ok (.iload_n 1, 1) := by decide +kernel
theorem dX4_go_35 : decode cX4_go 35 = .ok (.invokevirtual 89, 3) := by decide +kernel
theorem dX4_go_38 : decode cX4_go 38 = .ok (.ireturn, 1) := by decide +kernel
set_option maxRecDepth 20000 in
theorem ggX4_draw_X4_remember : GoodIn wsX4_draw wsX4_remember := goodIn_r _ [6, 7, 8, 1, 9, 10, 11, 5, 12, 13, 14, 15, 16, 17, 18, 19, 20, 21, 22, 23, 24, 25, 26, 27, 28, 29, 30, 31, 32, 33, 140, 141, 142, 143, 144, 145, 146, 147, 148, 149, 150, 151, 152, 153, 154, 155] (by decide +kernel) (by decide +kernel)
set_option maxRecDepth 20000 in
theorem gX4_draw_X4_remember : GoodIn wsX4_draw (wsV RX4 59 RX4 yX4_remember wsX4_remember) := goodIn_app (goodIn_of _ (by decide +kernel)) ggX4_draw_X4_remember
set_option maxRecDepth 20000 in
theorem ggX4_draw_X3_sum : GoodIn wsX4_draw wsX3_sum := goodIn_r _ [37, 19, 150, 151, 152, 153, 154] (by decide +kernel) (by decide +kernel)
set_option maxRecDepth 20000 in
theorem gX4_draw_X3_sum : GoodIn wsX4_draw (wsV RX4 92 RX3 yX3_sum wsX3_sum) := goodIn_app (goodIn_of _ (by decide +kernel)) ggX4_draw_X3_sum
set_option maxRecDepth 20000 in
theorem ggX4_draw_X3_lot : GoodIn wsX4_draw wsX3_lot := goodIn_r _ [41, 26, 42, 43, 44, 45, 46, 47, 48, 49, 50, 51, 52, 150, 151, 152, 153, 154] (by decide +kernel) (by decide +kernel)
set_option maxRecDepth 20000 in
theorem gX4_draw_X3_lot : GoodIn wsX4_draw (wsV RX4 95 RX3 yX3_lot wsX3_lot) := goodIn_app (goodIn_of _ (by decide +kernel)) ggX4_draw_X3_lot
set_option maxRecDepth 20000 in
theorem ggX4_draw_X3_advance : GoodIn wsX4_draw wsX3_advance := goodIn_r _ [56, 18, 19, 57, 58, 59, 30, 60, 61, 62, 63, 64, 32, 65, 66, 67, 68, 69, 70, 71, 72, 73, 74, 75, 76, 77, 78, 79, 80, 81, 82, 83, 84, 85, 86, 5, 87, 88, 89, 90, 91, 92, 93, 94, 95, 96, 97, 98, 99, 100, 101, 102, 103, 104, 105, 106, 107, 108, 109, 110, 111, 112, 113, 114, 115, 116, 117, 118, 119, 120, 121, 122, 123, 124, 125, 126, 127, 128, 129, 130, 131, 132, 133, 134, 16, 135, 25, 24, 136, 137, 138, 139, 150, 151, 152, 153, 154, 155] (by decide +kernel) (by decide +kernel)
set_option maxRecDepth 20000 in
theorem gX4_draw_X3_advance : GoodIn wsX4_draw (wsV RX4 79 RX3 yX3_advance wsX3_advance) := goodIn_app (goodIn_of _ (by decide +kernel)) ggX4_draw_X3_advance
theorem dX4_draw_0 : decode cX4_draw 0 = .ok (.iload_n 1, 1) := by decide +kernel
theorem dX4_draw_1 : decode cX4_draw 1 = .ok (.iconst 1, 1) := by decide +kernel
theorem dX4_draw_2 : decode cX4_draw 2 = .ok (.if_icmp .lt 21, 3) := by decide +kernel
theorem dX4_draw_5 : decode cX4_draw 5 = .ok (.iload_n 1, 1) := by decide +kernel
theorem dX4_draw_6 : decode cX4_draw 6 = .ok (.bipush 64, 2) := by decide +kernel
theorem dX4_draw_8 : decode cX4_draw 8 = .ok (.if_icmp .ge 15, 3) := by decide +kernel
theorem dX4_draw_11 : decode cX4_draw 11 = .ok (.iload_n 2, 1) := by decide +kernel
theorem dX4_draw_12 : decode cX4_draw 12 = .ok (.iconst 1, 1) := by decide +kernel
theorem dX4_draw_13 : decode cX4_draw 13 = .ok (.if_icmp .lt 10, 3) := by decide +kernel
theorem dX4_draw_16 : decode cX4_draw 16 = .ok (.iload_n 2, 1) := by decide +kernel
theorem dX4_draw_17 : decode cX4_draw 17 = .ok (.sipush 200, 3) := by decide +kernel
theorem dX4_draw_20 : decode cX4_draw 20 = .ok (.if_icmp .le 6, 3) := by decide +kernel
theorem dX4_draw_23 : decode cX4_draw 23 = .ok (.bipush (-2), 2) := by decide +kernel
theorem dX4_draw_25 : decode cX4_draw 25 = .ok (.ireturn, 1) := by decide +kernel
theorem dX4_draw_26 : decode cX4_draw 26 = .ok (.aload_n 0, 1) := by decide +kernel
theorem dX4_draw_27 : decode cX4_draw 27 = .ok (.invokevirtual 59, 3) := by decide +kernel
theorem dX4_draw_30 : decode cX4_draw 30 = .ok (.aload_n 0, 1) := by decide +kernel
theorem dX4_draw_31 : decode cX4_draw 31 = .ok (.getfield 12, 3) := by decide +kernel
theorem dX4_draw_34 : decode cX4_draw 34 = .ok (.bipush 12, 2) := by decide +kernel
theorem dX4_draw_36 : decode cX4_draw 36 = .ok (.invokevirtual 92, 3) := by decide +kernel
theorem dX4_draw_39 : decode cX4_draw 39 = .ok (.istore_n 3, 1) := by decide +kernel
theorem dX4_draw_40 : decode cX4_draw 40 = .ok (.iconst 0, 1) := by decide +kernel
theorem dX4_draw_41 : decode cX4_draw 41 = .ok (.istore 4, 2) := by decide +kernel
theorem dX4_draw_43 : decode cX4_draw 43 = .ok (.iload 4, 2) := by decide +kernel
theorem dX4_draw_45 : decode cX4_draw 45 = .ok (.iload_n 2, 1) := by decide +kernel
theorem dX4_draw_46 : decode cX4_draw 46 = .ok (.if_icmp .ge 24, 3) := by decide +kernel
theorem dX4_draw_49 : decode cX4_draw 49 = .ok (.aload_n 0, 1) := by decide +kernel
theorem dX4_draw_50 : decode cX4_draw 50 = .ok (.getfield 12, 3) := by decide +kernel
theorem dX4_draw_53 : decode cX4_draw 53 = .ok (.aload_n 0, 1) := by decide +kernel
theorem dX4_draw_54 : decode cX4_draw 54 = .ok (.getfield 12, 3) := by decide +kernel
theorem dX4_draw_57 : decode cX4_draw 57 = .ok (.iload_n 1, 1) := by decide +kernel
theorem dX4_draw_58 : decode cX4_draw 58 = .ok (.invokevirtual 95, 3) := by decide +kernel
theorem dX4_draw_61 : decode cX4_draw 61 = .ok (.invokevirtual 79, 3) := by decide +kernel
theorem dX4_draw_64 : decode cX4_draw 64 = .ok (.iinc 4 1, 3) := by decide +kernel
theorem dX4_draw_67 : decode cX4_draw 67 = .ok (.goto (-24), 3) := by decide +kernel
theorem dX4_draw_70 : decode cX4_draw 70 = .ok (.aload_n 0, 1) := by decide +kernel
theorem dX4_draw_71 : decode cX4_draw 71 = .ok (.getfield 12, 3) := by decide +kernel
theorem dX4_draw_74 : decode cX4_draw 74 = .ok (.bipush 12, 2) := by decide +kernel
theorem dX4_draw_76 : decode cX4_draw 76 = .ok (.invokevirtual 92, 3) := by decide +kernel
theorem dX4_draw_79 : decode cX4_draw 79 = .ok (.iload_n 3, 1) := by decide +kernel
theorem dX4_draw_80 : decode cX4_draw 80 = .ok (.isub, 1) := by decide +kernel
theorem dX4_draw_81 : decode cX4_draw 81 = .ok (.ireturn, 1) := by decide +kernel
set_option maxRecDepth 20000 in
theorem ggX4_shuffle_X4_remember : GoodIn wsX4_shuffle wsX4_remember := goodIn_r _ [6, 7, 8, 1, 9, 10, 11, 5, 12, 13, 14, 15, 16, 17, 18, 19, 20, 21, 22, 23, 24, 25, 26, 27, 28, 29, 30, 31, 32, 33, 34, 35, 36, 37, 38, 39, 40, 41, 42, 43, 44, 45, 46, 47, 48, 49] (by decide +kernel) (by decide +kernel)
set_option maxRecDepth 20000 in
theorem gX4_shuffle_X4_remember : GoodIn wsX4_shuffle (wsV RX4 59 RX4 yX4_remember wsX4_remember) := goodIn_app (goodIn_of _ (by decide +kernel)) ggX4_shuffle_X4_remember
theorem dX4_shuffle_0 : decode cX4_shuffle 0 = .ok (.iload_n 1, 1) := by decide +kernel
theorem dX4_shuffle_1 : decode cX4_shuffle 1 = .ok (.ifCond .ge 6, 3) := by decide +kernel
theorem dX4_shuffle_4 : decode cX4_shuffle 4 = .ok (.bipush (-2), 2) := by decide +kernel
theorem dX4_shuffle_6 : decode cX4_shuffle 6 = .ok (.ireturn, 1) := by decide +kernel
theorem dX4_shuffle_7 : decode cX4_shuffle 7 = .ok (.iload_n 1, 1) := by decide +kernel
theorem dX4_shuffle_8 : decode cX4_shuffle 8 = .ok (.aload_n 0, 1) := by decide +kernel
theorem dX4_shuffle_9 : decode cX4_shuffle 9 = .ok (.getfield 12, 3) := by decide +kernel
theorem dX4_shuffle_12 : decode cX4_shuffle 12 = .ok (.getfield 98, 3) := by decide +kernel
theorem dX4_shuffle_15 : decode cX4_shuffle 15 = .ok (.if_icmp .ne 6, 3) := by decide +kernel
theorem dX4_shuffle_18 : decode cX4_shuffle 18 = .ok (.bipush (-5), 2) := by decide +kernel
theorem dX4_shuffle_20 : decode cX4_shuffle 20 = .ok (.ireturn, 1) := by decide +kernel
theorem dX4_shuffle_21 : decode cX4_shuffle 21 = .ok (.aload_n 0, 1) := by decide +kernel
theorem dX4_shuffle_22 : decode cX4_shuffle 22 = .ok (.invokevirtual 59, 3) := by decide +kernel
theorem dX4_shuffle_25 : decode cX4_shuffle 25 = .ok (.aload_n 0, 1) := by decide +kernel
theorem dX4_shuffle_26 : decode cX4_shuffle 26 = .ok (.getfield 12, 3) := by decide +kernel
theorem dX4_shuffle_29 : decode cX4_shuffle 29 = .ok (.getfield 98, 3) := by decide +kernel
theorem dX4_shuffle_32 : decode cX4_shuffle 32 = .ok (.istore_n 2, 1) := by decide +kernel
theorem dX4_shuffle_33 : decode cX4_shuffle 33 = .ok (.aload_n 0, 1) := by decide +kernel
theorem dX4_shuffle_34 : decode cX4_shuffle 34 = .ok (.getfield 12, 3) := by decide +kernel
theorem dX4_shuffle_37 : decode cX4_shuffle 37 = .ok (.iload_n 1, 1) := by decide +kernel
theorem dX4_shuffle_38 : decode cX4_shuffle 38 = .ok (.putfield 98, 3) := by decide +kernel
theorem dX4_shuffle_41 : decode cX4_shuffle 41 = .ok (.iload_n 2, 1) := by decide +kernel
theorem dX4_shuffle_42 : decode cX4_shuffle 42 = .ok (.ireturn, 1) := by decide +kernel
set_option maxRecDepth 20000 in
theorem ggX4_perform_X2_fault : GoodIn wsX4_perform wsX2_fault := goodIn_r _ [8, 9, 10, 7, 11, 12, 13, 14] (by decide +kernel) (by decide +kernel)
set_option maxRecDepth 20000 in
theorem gX4_perform_X2_fault : GoodIn wsX4_perform (va_wsS RX4 101 yX2_fault wsX2_fault) := goodIn_app (goodIn_of _ (by decide +kernel)) ggX4_perform_X2_fault
set_option maxRecDepth 20000 in
theorem ggX4_perform_X2_expand : GoodIn wsX4_perform wsX2_expand := goodIn_r _ [18, 19, 20, 12, 13, 7, 14, 21, 22, 23, 24, 25, 26, 27, 28, 29, 30, 31, 32, 33, 34, 35, 36, 37, 38, 39, 40, 41, 42, 43, 9, 10, 11, 174, 175, 176, 177, 178] (by decide +kernel) (by decide +kernel)
set_option maxRecDepth 20000 in
theorem gX4_perform_X2_expand : GoodIn wsX4_perform (wsV RX4 105 RX2 yX2_expand wsX2_expand) := goodIn_app (goodIn_of _ (by decide +kernel)) ggX4_perform_X2_expand
set_option maxRecDepth 20000 in
theorem ggX4_perform_X4_remember : GoodIn wsX4_perform wsX4_remember := goodIn_r _ [48, 49, 50, 4, 51, 52, 53, 47, 54, 55, 56, 57, 58, 59, 60, 61, 62, 37, 38, 39, 63, 64, 65, 66, 67, 68, 69, 70, 71, 72, 164, 165, 166, 167, 168, 169, 170, 171, 172, 173, 179, 180, 181, 182, 183, 184] (by decide +kernel) (by decide +kernel)
set_option maxRecDepth 20000 in
theorem gX4_perform_X4_remember : GoodIn wsX4_perform (wsV RX4 59 RX4 yX4_remember wsX4_remember) := goodIn_app (goodIn_of _ (by decide +kernel)) ggX4_perform_X4_remember
set_option maxRecDepth 20000 in
theorem ggX4_perform_X2_visitorAt : GoodIn wsX4_perform wsX2_visitorAt := goodIn_r _ [76, 19, 35, 174, 175, 176, 177, 178] (by decide +kernel) (by decide +kernel)
set_option maxRecDepth 20000 in
theorem gX4_perform_X2_visitorAt : GoodIn wsX4_perform (wsV RX4 108 RX2 yX2_visitorAt wsX2_visitorAt) := goodIn_app (goodIn_of _ (by decide +kernel)) ggX4_perform_X2_visitorAt
set_option maxRecDepth 20000 in
theorem ggX4_perform_X3_advance : GoodIn wsX4_perform wsX3_advance := goodIn_r _ [80, 60, 61, 81, 82, 83, 69, 84, 85, 86, 87, 88, 71, 89, 90, 91, 92, 93, 94, 95, 96, 97, 98, 99, 100, 101, 102, 103, 104, 105, 106, 107, 108, 109, 110, 47, 111, 112, 113, 114, 115, 116, 117, 118, 119, 120, 121, 122, 123, 124, 125, 126, 127, 128, 129, 130, 131, 132, 133, 134, 135, 136, 137, 138, 139, 140, 141, 142, 143, 144, 145, 146, 147, 148, 149, 150, 151, 152, 153, 154, 155, 156, 157, 158, 58, 159, 64, 63, 160, 161, 162, 163, 179, 180, 181, 182, 183, 184] (by decide +kernel) (by decide +kernel)
set_option maxRecDepth 20000 in
theorem gX4_perform_X3_advance : GoodIn wsX4_perform (wsV RX4 79 RX3 yX3_advance wsX3_advance) := goodIn_app (goodIn_of _ (by decide +kernel)) ggX4_perform_X3_advance
theorem dX4_perform_0 : decode cX4_perform 0 = .ok (.aload_n 0, 1) := by decide +kernel
theorem dX4_perform_1 : decode cX4_perform 1 = .ok (.getfield 34, 3) := by decide +kernel
theorem dX4_perform_4 : decode cX4_perform 4 = .ok (.aload_n 0, 1) := by decide +kernel
theorem dX4_perform_5 : decode cX4_perform 5 = .ok (.getfield 38, 3) := by decide +kernel
theorem dX4_perform_8 : decode cX4_perform 8 = .ok (.invokestatic 101, 3) := by decide +kernel
theorem dX4_perform_11 : decode cX4_perform 11 = .ok (.istore_n 1, 1) := by decide +kernel
theorem dX4_perform_12 : decode cX4_perform 12 = .ok (.iload_n 1, 1) := by decide +kernel
theorem dX4_perform_13 : decode cX4_perform 13 = .ok (.bipush (-5), 2) := by decide +kernel
theorem dX4_perform_15 : decode cX4_perform 15 = .ok (.if_icmp .eq 8, 3) := by decide +kernel
theorem dX4_perform_18 : decode cX4_perform 18 = .ok (.bipush (-100), 2) := by decide +kernel
theorem dX4_perform_20 : decode cX4_perform 20 = .ok (.iload_n 1, 1) := by decide +kernel
theorem dX4_perform_21 : decode cX4_perform 21 = .ok (.isub, 1) := by decide +kernel
theorem dX4_perform_22 : decode cX4_perform 22 = .ok (.ireturn, 1) := by decide +kernel
theorem dX4_perform_23 : decode cX4_perform 23 = .ok (.aload_n 0, 1) := by decide +kernel
theorem dX4_perform_24 : decode cX4_perform 24 = .ok (.getfield 44, 3) := by decide +kernel
theorem dX4_perform_27 : decode cX4_perform 27 = .ok (.aload_n 0, 1) := by decide +kernel
theorem dX4_perform_28 : decode cX4_perform 28 = .ok (.getfield 34, 3) := by decide +kernel
theorem dX4_perform_31 : decode cX4_perform 31 = .ok (.aload_n 0, 1) := by decide +kernel
theorem dX4_perform_32 : decode cX4_perform 32 = .ok (.getfield 38, 3) := by decide +kernel
theorem dX4_perform_35 : decode cX4_perform 35 = .ok (.invokevirtual 105, 3) := by decide +kernel
theorem dX4_perform_38 : decode cX4_perform 38 = .ok (.istore_n 2, 1) := by decide +kernel
theorem dX4_perform_39 : decode cX4_perform 39 = .ok (.iload_n 2, 1) := by decide +kernel
theorem dX4_perform_40 : decode cX4_perform 40 = .ok (.bipush (-3), 2) := by decide +kernel
theorem dX4_perform_42 : decode cX4_perform 42 = .ok (.if_icmp .ne 6, 3) := by decide +kernel
theorem dX4_perform_45 : decode cX4_perform 45 = .ok (.bipush (-3), 2) := by decide +kernel
theorem dX4_perform_47 : decode cX4_perform 47 = .ok (.ireturn, 1) := by decide +kernel
theorem dX4_perform_48 : decode cX4_perform 48 = .ok (.aload_n 0, 1) := by decide +kernel
theorem dX4_perform_49 : decode cX4_perform 49 = .ok (.invokevirtual 59, 3) := by decide +kernel
theorem dX4_perform_52 : decode cX4_perform 52 = .ok (.iconst 0, 1) := by decide +kernel
theorem dX4_perform_53 : decode cX4_perform 53 = .ok (.istore_n 3, 1) := by decide +kernel
theorem dX4_perform_54 : decode cX4_perform 54 = .ok (.iload_n 3, 1) := by decide +kernel
theorem dX4_perform_55 : decode cX4_perform 55 = .ok (.iload_n 2, 1) := by decide +kernel
theorem dX4_perform_56 : decode cX4_perform 56 = .ok (.if_icmp .ge 24, 3) := by decide +kernel
theorem dX4_perform_59 : decode cX4_perform 59 = .ok (.aload_n 0, 1) := by decide +kernel
theorem dX4_perform_60 : decode cX4_perform 60 = .ok (.getfield 12, 3) := by decide +kernel
theorem dX4_perform_63 : decode cX4_perform 63 = .ok (.aload_n 0, 1) := by decide +kernel
theorem dX4_perform_64 : decode cX4_perform 64 = .ok (.getfield 44, 3) := by decide +kernel
theorem dX4_perform_67 : decode cX4_perform 67 = .ok (.iload_n 3, 1) := by decide +kernel
theorem dX4_perform_68 : decode cX4_perform 68 = .ok (.invokevirtual 108, 3) := by decide +kernel
theorem dX4_perform_71 : decode cX4_perform 71 = .ok (.invokevirtual 79, 3) := by decide +kernel
theorem dX4_perform_74 : decode cX4_perform 74 = .ok (.iinc 3 1, 3) := by decide +kernel
theorem dX4_perform_77 : decode cX4_perform 77 = .ok (.goto (-23), 3) := by decide +kernel
theorem dX4_perform_80 : decode cX4_perform 80 = .ok (.iload_n 2, 1) := by decide +kernel
theorem dX4_perform_81 : decode cX4_perform 81 = .ok (.ireturn, 1) := by decide +kernel
set_option maxRecDepth 20000 in
theorem ggX4_finish_X3_present : GoodIn wsX4_finish wsX3_present := goodIn_r _ [6, 7, 8, 9, 10, 11, 12, 13, 14, 15, 16, 17, 145, 146, 147, 148, 149, 150] (by decide +kernel) (by decide +kernel)
set_option maxRecDepth 20000 in
theorem gX4_finish_X3_present : GoodIn wsX4_finish (wsV RX4 55 RX3 yX3_present wsX3_present) := goodIn_app (goodIn_of _ (by decide +kernel)) ggX4_finish_X3_present
set_option maxRecDepth 20000 in
theorem ggX4_finish_X4_remember : GoodIn wsX4_finish wsX4_remember := goodIn_r _ [22, 23, 24, 1, 25, 26, 27, 21, 28, 29, 30, 31, 5, 32, 7, 33, 34, 35, 36, 37, 38, 39, 40, 41, 42, 43, 11, 44, 17, 45, 135, 136, 137, 138, 139, 140, 141, 142, 143, 144, 145, 146, 147, 148, 149, 150] (by decide +kernel) (by decide +kernel)
set_option maxRecDepth 20000 in
theorem gX4_finish_X4_remember : GoodIn wsX4_finish (wsV RX4 59 RX4 yX4_remember wsX4_remember) := goodIn_app (goodIn_of _ (by decide +kernel)) ggX4_finish_X4_remember
set_option maxRecDepth 20000 in
theorem ggX4_finish_X3_advanceAll : GoodIn wsX4_finish wsX3_advanceAll := goodIn_r _ [49, 50, 7, 51, 3, 4, 5, 6, 8, 9, 10, 11, 12, 13, 14, 15, 16, 17, 52, 53, 54, 55, 56, 33, 57, 58, 59, 60, 61, 62, 63, 64, 65, 66, 67, 68, 69, 70, 71, 72, 73, 74, 75, 76, 77, 78, 79, 80, 81, 82, 21, 83, 84, 85, 86, 87, 88, 89, 90, 91, 92, 93, 94, 95, 96, 97, 98, 99, 100, 101, 102, 103, 104, 105, 106, 107, 108, 109, 110, 111, 112, 113, 114, 115, 116, 117, 118, 119, 120, 121, 122, 123, 124, 125, 126, 127, 128, 129, 130, 39, 38, 131, 132, 133, 134, 145, 146, 147, 148, 149, 150] (by decide +kernel) (by decide +kernel)
set_option maxRecDepth 20000 in
theorem gX4_finish_X3_advanceAll : GoodIn wsX4_finish (wsV RX4 111 RX3 yX3_advanceAll wsX3_advanceAll) := goodIn_app (goodIn_of _ (by decide +kernel)) ggX4_finish_X3_advanceAll
theorem dX4_finish_0 : decode cX4_finish 0 = .ok (.aload_n 0, 1) := by decide +kernel
theorem dX4_finish_1 : decode cX4_finish 1 = .ok (.getfield 12, 3) := by decide +kernel
theorem dX4_finish_4 : decode cX4_finish 4 = .ok (.invokevirtual 55, 3) := by decide +kernel
theorem dX4_finish_7 : decode cX4_finish 7 = .ok (.ifCond .ne 6, 3) := by decide +kernel
theorem dX4_finish_10 : decode cX4_finish 10 = .ok (.bipush (-5), 2) := by decide +kernel
theorem dX4_finish_12 : decode cX4_finish 12 = .ok (.ireturn, 1) := by decide +kernel
theorem dX4_finish_13 : decode cX4_finish 13 = .ok (.aload_n 0, 1) := by decide +kernel
theorem dX4_finish_14 : decode cX4_finish 14 = .ok (.invokevirtual 59, 3) := by decide +kernel
theorem dX4_finish_17 : decode cX4_finish 17 = .ok (.aload_n 0, 1) := by decide +kernel
theorem dX4_finish_18 : decode cX4_finish 18 = .ok (.getfield 12, 3) := by decide +kernel
theorem dX4_finish_21 : decode cX4_finish 21 = .ok (.invokevirtual 111, 3) := by decide +kernel
theorem dX4_finish_24 : decode cX4_finish 24 = .ok (.ireturn, 1) := by decide +kernel
theorem dX4_type_0 : decode cX4_type 0 = .ok (.aload_n 0, 1) := by decide +kernel
theorem dX4_type_1 : decode cX4_type 1 = .ok (.getfield 38, 3) := by decide +kernel
theorem dX4_type_4 : decode cX4_type 4 = .ok (.bipush 60, 2) := by decide +kernel
theorem dX4_type_6 : decode cX4_type 6 = .ok (.if_icmp .lt 6, 3) := by decide +kernel
theorem dX4_type_9 : decode cX4_type 9 = .ok (.bipush (-3), 2) := by decide +kernel
theorem dX4_type_11 : decode cX4_type 11 = .ok (.ireturn, 1) := by decide +kernel
theorem dX4_type_12 : decode cX4_type 12 = .ok (.aload_n 0, 1) := by decide +kernel
theorem dX4_type_13 : decode cX4_type 13 = .ok (.getfield 34, 3) := by decide +kernel
theorem dX4_type_16 : decode cX4_type 16 = .ok (.aload_n 0, 1) := by decide +kernel
theorem dX4_type_17 : decode cX4_type 17 = .ok (.getfield 38, 3) := by decide +kernel
theorem dX4_type_20 : decode cX4_type 20 = .ok (.iload_n 1, 1) := by decide +kernel
theorem dX4_type_21 : decode cX4_type 21 = .ok (.castore, 1) := by decide +kernel
theorem dX4_type_22 : decode cX4_type 22 = .ok (.aload_n 0, 1) := by decide +kernel
theorem dX4_type_23 : decode cX4_type 23 = .ok (.dup, 1) := by decide +kernel
theorem dX4_type_24 : decode cX4_type 24 = .ok (.getfield 38, 3) := by decide +kernel
theorem dX4_type_27 : decode cX4_type 27 = .ok (.iconst 1, 1) := by decide +kernel
theorem dX4_type_28 : decode cX4_type 28 = .ok (.iadd, 1) := by decide +kernel
theorem dX4_type_29 : decode cX4_type 29 = .ok (.putfield 38, 3) := by decide +kernel
theorem dX4_type_32 : decode cX4_type 32 = .ok (.aload_n 0, 1) := by decide +kernel
theorem dX4_type_33 : decode cX4_type 33 = .ok (.getfield 38, 3) := by decide +kernel
theorem dX4_type_36 : decode cX4_type 36 = .ok (.ireturn, 1) := by decide +kernel
theorem dX4_clearText_0 : decode cX4_clearText 0 = .ok (.aload_n 0, 1) := by decide +kernel
theorem dX4_clearText_1 : decode cX4_clearText 1 = .ok (.getfield 38, 3) := by decide +kernel
theorem dX4_clearText_4 : decode cX4_clearText 4 = .ok (.istore_n 1, 1) := by decide +kernel
theorem dX4_clearText_5 : decode cX4_clearText 5 = .ok (.aload_n 0, 1) := by decide +kernel
theorem dX4_clearText_6 : decode cX4_clearText 6 = .ok (.iconst 0, 1) := by decide +kernel
theorem dX4_clearText_7 : decode cX4_clearText 7 = .ok (.putfield 38, 3) := by decide +kernel
theorem dX4_clearText_10 : decode cX4_clearText 10 = .ok (.iload_n 1, 1) := by decide +kernel
theorem dX4_clearText_11 : decode cX4_clearText 11 = .ok (.ireturn, 1) := by decide +kernel
set_option maxRecDepth 20000 in
theorem ggX4_undo_X3_copyFrom : GoodIn wsX4_undo wsX3_copyFrom := goodIn_r _ [8, 9, 10, 11, 12, 13, 14, 15, 16, 17, 18, 19, 20, 21, 22, 23, 24, 35, 36, 37, 38, 39, 40] (by decide +kernel) (by decide +kernel)
set_option maxRecDepth 20000 in
theorem gX4_undo_X3_copyFrom : GoodIn wsX4_undo (wsV RX4 114 RX3 yX3_copyFrom wsX3_copyFrom) := goodIn_app (goodIn_of _ (by decide +kernel)) ggX4_undo_X3_copyFrom
theorem dX4_undo_0 : decode cX4_undo 0 = .ok (.aload_n 0, 1) := by decide +kernel
theorem dX4_undo_1 : decode cX4_undo 1 = .ok (.getfield 30, 3) := by decide +kernel
theorem dX4_undo_4 : decode cX4_undo 4 = .ok (.iconst 1, 1) := by decide +kernel
theorem dX4_undo_5 : decode cX4_undo 5 = .ok (.if_icmp .ge 6, 3) := by decide +kernel
theorem dX4_undo_8 : decode cX4_undo 8 = .ok (.bipush (-5), 2) := by decide +kernel
theorem dX4_undo_10 : decode cX4_undo 10 = .ok (.ireturn, 1) := by decide +kernel
theorem dX4_undo_11 : decode cX4_undo 11 = .ok (.aload_n 0, 1) := by decide +kernel
theorem dX4_undo_12 : decode cX4_undo 12 = .ok (.dup, 1) := by decide +kernel
theorem dX4_undo_13 : decode cX4_undo 13 = .ok (.getfield 30, 3) := by decide +kernel
theorem dX4_undo_16 : decode cX4_undo 16 = .ok (.iconst 1, 1) := by decide +kernel
theorem dX4_undo_17 : decode cX4_undo 17 = .ok (.isub, 1) := by decide +kernel
theorem dX4_undo_18 : decode cX4_undo 18 = .ok (.putfield 30, 3) := by decide +kernel
theorem dX4_undo_21 : decode cX4_undo 21 = .ok (.aload_n 0, 1) := by decide +kernel
theorem dX4_undo_22 : decode cX4_undo 22 = .ok (.getfield 12, 3) := by decide +kernel
theorem dX4_undo_25 : decode cX4_undo 25 = .ok (.aload_n 0, 1) := by decide +kernel
theorem dX4_undo_26 : decode cX4_undo 26 = .ok (.getfield 26, 3) := by decide +kernel
theorem dX4_undo_29 : decode cX4_undo 29 = .ok (.aload_n 0, 1) := by decide +kernel
theorem dX4_undo_30 : decode cX4_undo 30 = .ok (.getfield 30, 3) := by decide +kernel
theorem dX4_undo_33 : decode cX4_undo 33 = .ok (.aaload, 1) := by decide +kernel
theorem dX4_undo_34 : decode cX4_undo 34 = .ok (.invokevirtual 114, 3) := by decide +kernel
theorem dX4_undo_37 : decode cX4_undo 37 = .ok (.aload_n 0, 1) := by decide +kernel
theorem dX4_undo_38 : decode cX4_undo 38 = .ok (.getfield 30, 3) := by decide +kernel
theorem dX4_undo_41 : decode cX4_undo 41 = .ok (.ireturn, 1) := by decide +kernel
set_option maxRecDepth 20000 in
theorem ggX4_keep_X3_copyFrom : GoodIn wsX4_keep wsX3_copyFrom := goodIn_r _ [8, 9, 10, 11, 12, 13, 14, 15, 16, 17, 18, 19, 20, 21, 22, 23, 24, 47, 48, 49, 50, 51, 52] (by decide +kernel) (by decide +kernel)
set_option maxRecDepth 20000 in
theorem gX4_keep_X3_copyFrom : GoodIn wsX4_keep (wsV RX4 114 RX3 yX3_copyFrom wsX3_copyFrom) := goodIn_app (goodIn_of _ (by decide +kernel)) ggX4_keep_X3_copyFrom
set_option maxRecDepth 20000 in
theorem ggX4_keep_X3_present : GoodIn wsX4_keep wsX3_present := goodIn_r _ [28, 9, 29, 30, 31, 21, 32, 33, 34, 35, 36, 23, 47, 48, 49, 50, 51, 52] (by decide +kernel) (by decide +kernel)
set_option maxRecDepth 20000 in
theorem gX4_keep_X3_present : GoodIn wsX4_keep (wsV RX4 55 RX3 yX3_present wsX3_present) := goodIn_app (goodIn_of _ (by decide +kernel)) ggX4_keep_X3_present
theorem dX4_keep_0 : decode cX4_keep 0 = .ok (.aload_n 0, 1) := by decide +kernel
theorem dX4_keep_1 : decode cX4_keep 1 = .ok (.getfield 19, 3) := by decide +kernel
end
section
theorem dX4_keep_4 : decode cX4_keep 4 = .ok (.aload_n 0, 1) := by decide +kernel
theorem dX4_keep_5 : decode cX4_keep 5 = .ok (.getfield 12, 3) := by decide +kernel
theorem dX4_keep_8 : decode cX4_keep 8 = .ok (.invokevirtual 114, 3) := by decide +kernel
theorem dX4_keep_11 : decode cX4_keep 11 = .ok (.aload_n 0, 1) := by decide +kernel
theorem dX4_keep_12 : decode cX4_keep 12 = .ok (.iconst 1, 1) := by decide +kernel
theorem dX4_keep_13 : decode cX4_keep 13 = .ok (.putfield 22, 3) := by decide +kernel
theorem dX4_keep_16 : decode cX4_keep 16 = .ok (.aload_n 0, 1) := by decide +kernel
theorem dX4_keep_17 : decode cX4_keep 17 = .ok (.getfield 12, 3) := by decide +kernel
theorem dX4_keep_20 : decode cX4_keep 20 = .ok (.invokevirtual 55, 3) := by decide +kernel
theorem dX4_keep_23 : decode cX4_keep 23 = .ok (.ireturn, 1) := by decide +kernel
set_option maxRecDepth 20000 in
theorem ggX4_restore_X4_remember : GoodIn wsX4_restore wsX4_remember := goodIn_r _ [8, 9, 10, 2, 11, 12, 13, 7, 14, 15, 16, 17, 18, 19, 20, 21, 22, 23, 24, 25, 26, 27, 28, 29, 30, 31, 32, 33, 34, 35, 48, 49, 50, 51, 52, 53, 54, 55, 56, 57, 58, 59, 60, 61, 62, 63] (by decide +kernel) (by decide +kernel)
set_option maxRecDepth 20000 in
theorem gX4_restore_X4_remember : GoodIn wsX4_restore (wsV RX4 59 RX4 yX4_remember wsX4_remember) := goodIn_app (goodIn_of _ (by decide +kernel)) ggX4_restore_X4_remember
set_option maxRecDepth 20000 in
theorem ggX4_restore_X3_copyFrom : GoodIn wsX4_restore wsX3_copyFrom := goodIn_r _ [19, 20, 21, 22, 23, 24, 25, 26, 27, 28, 29, 30, 31, 32, 33, 34, 35, 58, 59, 60, 61, 62, 63] (by decide +kernel) (by decide +kernel)
set_option maxRecDepth 20000 in
theorem gX4_restore_X3_copyFrom : GoodIn wsX4_restore (wsV RX4 114 RX3 yX3_copyFrom wsX3_copyFrom) := goodIn_app (goodIn_of _ (by decide +kernel)) ggX4_restore_X3_copyFrom
set_option maxRecDepth 20000 in
theorem ggX4_restore_X3_present : GoodIn wsX4_restore wsX3_present := goodIn_r _ [39, 20, 40, 41, 42, 32, 43, 44, 45, 46, 47, 34, 58, 59, 60, 61, 62, 63] (by decide +kernel) (by decide +kernel)
set_option maxRecDepth 20000 in
theorem gX4_restore_X3_present : GoodIn wsX4_restore (wsV RX4 55 RX3 yX3_present wsX3_present) := goodIn_app (goodIn_of _ (by decide +kernel)) ggX4_restore_X3_present
theorem dX4_restore_0 : decode cX4_restore 0 = .ok (.aload_n 0, 1) := by decide +kernel
theorem dX4_restore_1 : decode cX4_restore 1 = .ok (.getfield 22, 3) := by decide +kernel
theorem dX4_restore_4 : decode cX4_restore 4 = .ok (.ifCond .ne 6, 3) := by decide +kernel
theorem dX4_restore_7 : decode cX4_restore 7 = .ok (.bipush (-5), 2) := by decide +kernel
theorem dX4_restore_9 : decode cX4_restore 9 = .ok (.ireturn, 1) := by decide +kernel
theorem dX4_restore_10 : decode cX4_restore 10 = .ok (.aload_n 0, 1) := by decide +kernel
theorem dX4_restore_11 : decode cX4_restore 11 = .ok (.invokevirtual 59, 3) := by decide +kernel
theorem dX4_restore_14 : decode cX4_restore 14 = .ok (.aload_n 0, 1) := by decide +kernel
theorem dX4_restore_15 : decode cX4_restore 15 = .ok (.getfield 12, 3) := by decide +kernel
theorem dX4_restore_18 : decode cX4_restore 18 = .ok (.aload_n 0, 1) := by decide +kernel
theorem dX4_restore_19 : decode cX4_restore 19 = .ok (.getfield 19, 3) := by decide +kernel
theorem dX4_restore_22 : decode cX4_restore 22 = .ok (.invokevirtual 114, 3) := by decide +kernel
theorem dX4_restore_25 : decode cX4_restore 25 = .ok (.aload_n 0, 1) := by decide +kernel
theorem dX4_restore_26 : decode cX4_restore 26 = .ok (.getfield 12, 3) := by decide +kernel
theorem dX4_restore_29 : decode cX4_restore 29 = .ok (.invokevirtual 55, 3) := by decide +kernel
theorem dX4_restore_32 : decode cX4_restore 32 = .ok (.ireturn, 1) := by decide +kernel
set_option maxRecDepth 20000 in
theorem ggX4_visitor_X4_isVisitor : GoodIn wsX4_visitor wsX4_isVisitor := goodIn_r _ [5] (by decide +kernel) (by decide +kernel)
set_option maxRecDepth 20000 in
theorem gX4_visitor_X4_isVisitor : GoodIn wsX4_visitor (va_wsS RX4 75 yX4_isVisitor wsX4_isVisitor) := goodIn_app (goodIn_of _ (by decide +kernel)) ggX4_visitor_X4_isVisitor
set_option maxRecDepth 20000 in
theorem ggX4_visitor_X1_stage : GoodIn wsX4_visitor wsX1_stage := goodIn_r _ [10, 11, 63] (by decide +kernel) (by decide +kernel)
set_option maxRecDepth 20000 in
theorem gX4_visitor_X1_stage : GoodIn wsX4_visitor (wsV RX4 82 RX1 yX1_stage wsX1_stage) := goodIn_app (goodIn_of _ (by decide +kernel)) ggX4_visitor_X1_stage
set_option maxRecDepth 20000 in
theorem ggX4_visitor_X3_count : GoodIn wsX4_visitor wsX3_count := goodIn_r _ [16, 17, 58, 59, 60, 61, 62] (by decide +kernel) (by decide +kernel)
set_option maxRecDepth 20000 in
theorem gX4_visitor_X3_count : GoodIn wsX4_visitor (wsV RX4 118 RX3 yX3_count wsX3_count) := goodIn_app (goodIn_of _ (by decide +kernel)) ggX4_visitor_X3_count
set_option maxRecDepth 20000 in
theorem ggX4_visitor_X1_nextOf : GoodIn wsX4_visitor wsX1_nextOf := goodIn_r _ [21, 11, 63] (by decide +kernel) (by decide +kernel)
set_option maxRecDepth 20000 in
theorem gX4_visitor_X1_nextOf : GoodIn wsX4_visitor (wsV RX4 122 RX1 yX1_nextOf wsX1_nextOf) := goodIn_app (goodIn_of _ (by decide +kernel)) ggX4_visitor_X1_nextOf
set_option maxRecDepth 20000 in
theorem ggX4_visitor_X1_aheadOf : GoodIn wsX4_visitor wsX1_aheadOf := goodIn_r _ [25, 11, 26, 27, 28, 9, 29, 63] (by decide +kernel) (by decide +kernel)
set_option maxRecDepth 20000 in
theorem gX4_visitor_X1_aheadOf : GoodIn wsX4_visitor (wsV RX4 125 RX1 yX1_aheadOf wsX1_aheadOf) := goodIn_app (goodIn_of _ (by decide +kernel)) ggX4_visitor_X1_aheadOf
set_option maxRecDepth 20000 in
theorem ggX4_visitor_X1_ownCard : GoodIn wsX4_visitor wsX1_ownCard := goodIn_r _ [33, 11, 63] (by decide +kernel) (by decide +kernel)
set_option maxRecDepth 20000 in
theorem gX4_visitor_X1_ownCard : GoodIn wsX4_visitor (wsV RX4 128 RX1 yX1_ownCard wsX1_ownCard) := goodIn_app (goodIn_of _ (by decide +kernel)) ggX4_visitor_X1_ownCard
set_option maxRecDepth 20000 in
theorem ggX4_visitor_X1_ticket : GoodIn wsX4_visitor wsX1_ticket := goodIn_r _ [37, 11, 63] (by decide +kernel) (by decide +kernel)
set_option maxRecDepth 20000 in
theorem gX4_visitor_X1_ticket : GoodIn wsX4_visitor (wsV RX4 131 RX1 yX1_ticket wsX1_ticket) := goodIn_app (goodIn_of _ (by decide +kernel)) ggX4_visitor_X1_ticket
set_option maxRecDepth 20000 in
theorem ggX4_visitor_X1_flagOf : GoodIn wsX4_visitor wsX1_flagOf := goodIn_r _ [41, 11, 26, 27, 28, 9, 29, 63] (by decide +kernel) (by decide +kernel)
set_option maxRecDepth 20000 in
theorem gX4_visitor_X1_flagOf : GoodIn wsX4_visitor (wsV RX4 134 RX1 yX1_flagOf wsX1_flagOf) := goodIn_app (goodIn_of _ (by decide +kernel)) ggX4_visitor_X1_flagOf
set_option maxRecDepth 20000 in
theorem ggX4_visitor_X3_placeOf : GoodIn wsX4_visitor wsX3_placeOf := goodIn_r _ [45, 46, 47, 58, 59, 60, 61, 62] (by decide +kernel) (by decide +kernel)
set_option maxRecDepth 20000 in
theorem gX4_visitor_X3_placeOf : GoodIn wsX4_visitor (wsV RX4 137 RX3 yX3_placeOf wsX3_placeOf) := goodIn_app (goodIn_of _ (by decide +kernel)) ggX4_visitor_X3_placeOf
theorem dX4_visitor_0 : decode cX4_visitor 0 = .ok (.iload_n 1, 1) := by decide +kernel
theorem dX4_visitor_1 : decode cX4_visitor 1 = .ok (.invokestatic 75, 3) := by decide +kernel
theorem dX4_visitor_4 : decode cX4_visitor 4 = .ok (.ifCond .ne 5, 3) := by decide +kernel
theorem dX4_visitor_7 : decode cX4_visitor 7 = .ok (.iconst (-1), 1) := by decide +kernel
theorem dX4_visitor_8 : decode cX4_visitor 8 = .ok (.ireturn, 1) := by decide +kernel
theorem dX4_visitor_9 : decode cX4_visitor 9 = .ok (.iload_n 2, 1) := by decide +kernel
theorem dX4_visitor_10 : decode cX4_visitor 10 = .ok (.tableswitch 182 0 10 #[58, 70, 80, 91, 102, 113, 125, 137, 149, 161, 173], 58) := by decide +kernel
theorem dX4_visitor_68 : decode cX4_visitor 68 = .ok (.aload_n 0, 1) := by decide +kernel
theorem dX4_visitor_69 : decode cX4_visitor 69 = .ok (.getfield 12, 3) := by decide +kernel
theorem dX4_visitor_72 : decode cX4_visitor 72 = .ok (.getfield 62, 3) := by decide +kernel
theorem dX4_visitor_75 : decode cX4_visitor 75 = .ok (.iload_n 1, 1) := by decide +kernel
theorem dX4_visitor_76 : decode cX4_visitor 76 = .ok (.invokevirtual 82, 3) := by decide +kernel
theorem dX4_visitor_79 : decode cX4_visitor 79 = .ok (.ireturn, 1) := by decide +kernel
theorem dX4_visitor_80 : decode cX4_visitor 80 = .ok (.aload_n 0, 1) := by decide +kernel
theorem dX4_visitor_81 : decode cX4_visitor 81 = .ok (.getfield 12, 3) := by decide +kernel
theorem dX4_visitor_84 : decode cX4_visitor 84 = .ok (.iconst 0, 1) := by decide +kernel
theorem dX4_visitor_85 : decode cX4_visitor 85 = .ok (.iload_n 1, 1) := by decide +kernel
theorem dX4_visitor_86 : decode cX4_visitor 86 = .ok (.invokevirtual 118, 3) := by decide +kernel
theorem dX4_visitor_89 : decode cX4_visitor 89 = .ok (.ireturn, 1) := by decide +kernel
theorem dX4_visitor_90 : decode cX4_visitor 90 = .ok (.aload_n 0, 1) := by decide +kernel
theorem dX4_visitor_91 : decode cX4_visitor 91 = .ok (.getfield 12, 3) := by decide +kernel
theorem dX4_visitor_94 : decode cX4_visitor 94 = .ok (.bipush 6, 2) := by decide +kernel
theorem dX4_visitor_96 : decode cX4_visitor 96 = .ok (.iload_n 1, 1) := by decide +kernel
theorem dX4_visitor_97 : decode cX4_visitor 97 = .ok (.invokevirtual 118, 3) := by decide +kernel
theorem dX4_visitor_100 : decode cX4_visitor 100 = .ok (.ireturn, 1) := by decide +kernel
theorem dX4_visitor_101 : decode cX4_visitor 101 = .ok (.aload_n 0, 1) := by decide +kernel
theorem dX4_visitor_102 : decode cX4_visitor 102 = .ok (.getfield 12, 3) := by decide +kernel
theorem dX4_visitor_105 : decode cX4_visitor 105 = .ok (.bipush 12, 2) := by decide +kernel
theorem dX4_visitor_107 : decode cX4_visitor 107 = .ok (.iload_n 1, 1) := by decide +kernel
theorem dX4_visitor_108 : decode cX4_visitor 108 = .ok (.invokevirtual 118, 3) := by decide +kernel
theorem dX4_visitor_111 : decode cX4_visitor 111 = .ok (.ireturn, 1) := by decide +kernel
theorem dX4_visitor_112 : decode cX4_visitor 112 = .ok (.aload_n 0, 1) := by decide +kernel
theorem dX4_visitor_113 : decode cX4_visitor 113 = .ok (.getfield 12, 3) := by decide +kernel
theorem dX4_visitor_116 : decode cX4_visitor 116 = .ok (.bipush 18, 2) := by decide +kernel
theorem dX4_visitor_118 : decode cX4_visitor 118 = .ok (.iload_n 1, 1) := by decide +kernel
theorem dX4_visitor_119 : decode cX4_visitor 119 = .ok (.invokevirtual 118, 3) := by decide +kernel
theorem dX4_visitor_122 : decode cX4_visitor 122 = .ok (.ireturn, 1) := by decide +kernel
theorem dX4_visitor_123 : decode cX4_visitor 123 = .ok (.aload_n 0, 1) := by decide +kernel
theorem dX4_visitor_124 : decode cX4_visitor 124 = .ok (.getfield 12, 3) := by decide +kernel
theorem dX4_visitor_127 : decode cX4_visitor 127 = .ok (.getfield 62, 3) := by decide +kernel
theorem dX4_visitor_130 : decode cX4_visitor 130 = .ok (.iload_n 1, 1) := by decide +kernel
theorem dX4_visitor_131 : decode cX4_visitor 131 = .ok (.invokevirtual 122, 3) := by decide +kernel
theorem dX4_visitor_134 : decode cX4_visitor 134 = .ok (.ireturn, 1) := by decide +kernel
theorem dX4_visitor_135 : decode cX4_visitor 135 = .ok (.aload_n 0, 1) := by decide +kernel
theorem dX4_visitor_136 : decode cX4_visitor 136 = .ok (.getfield 12, 3) := by decide +kernel
theorem dX4_visitor_139 : decode cX4_visitor 139 = .ok (.getfield 62, 3) := by decide +kernel
theorem dX4_visitor_142 : decode cX4_visitor 142 = .ok (.iload_n 1, 1) := by decide +kernel
theorem dX4_visitor_143 : decode cX4_visitor 143 = .ok (.invokevirtual 125, 3) := by decide +kernel
theorem dX4_visitor_146 : decode cX4_visitor 146 = .ok (.ireturn, 1) := by decide +kernel
theorem dX4_visitor_147 : decode cX4_visitor 147 = .ok (.aload_n 0, 1) := by decide +kernel
theorem dX4_visitor_148 : decode cX4_visitor 148 = .ok (.getfield 12, 3) := by decide +kernel
theorem dX4_visitor_151 : decode cX4_visitor 151 = .ok (.getfield 62, 3) := by decide +kernel
theorem dX4_visitor_154 : decode cX4_visitor 154 = .ok (.iload_n 1, 1) := by decide +kernel
theorem dX4_visitor_155 : decode cX4_visitor 155 = .ok (.invokevirtual 128, 3) := by decide +kernel
theorem dX4_visitor_158 : decode cX4_visitor 158 = .ok (.ireturn, 1) := by decide +kernel
theorem dX4_visitor_159 : decode cX4_visitor 159 = .ok (.aload_n 0, 1) := by decide +kernel
theorem dX4_visitor_160 : decode cX4_visitor 160 = .ok (.getfield 12, 3) := by decide +kernel
theorem dX4_visitor_163 : decode cX4_visitor 163 = .ok (.getfield 62, 3) := by decide +kernel
theorem dX4_visitor_166 : decode cX4_visitor 166 = .ok (.iload_n 1, 1) := by decide +kernel
theorem dX4_visitor_167 : decode cX4_visitor 167 = .ok (.invokevirtual 131, 3) := by decide +kernel
theorem dX4_visitor_170 : decode cX4_visitor 170 = .ok (.ireturn, 1) := by decide +kernel
theorem dX4_visitor_171 : decode cX4_visitor 171 = .ok (.aload_n 0, 1) := by decide +kernel
theorem dX4_visitor_172 : decode cX4_visitor 172 = .ok (.getfield 12, 3) := by decide +kernel
theorem dX4_visitor_175 : decode cX4_visitor 175 = .ok (.getfield 62, 3) := by decide +kernel
theorem dX4_visitor_178 : decode cX4_visitor 178 = .ok (.iload_n 1, 1) := by decide +kernel
theorem dX4_visitor_179 : decode cX4_visitor 179 = .ok (.invokevirtual 134, 3) := by decide +kernel
theorem dX4_visitor_182 : decode cX4_visitor 182 = .ok (.ireturn, 1) := by decide +kernel
theorem dX4_visitor_183 : decode cX4_visitor 183 = .ok (.aload_n 0, 1) := by decide +kernel
theorem dX4_visitor_184 : decode cX4_visitor 184 = .ok (.getfield 12, 3) := by decide +kernel
theorem dX4_visitor_187 : decode cX4_visitor 187 = .ok (.iload_n 1, 1) := by decide +kernel
theorem dX4_visitor_188 : decode cX4_visitor 188 = .ok (.invokevirtual 137, 3) := by decide +kernel
theorem dX4_visitor_191 : decode cX4_visitor 191 = .ok (.ireturn, 1) := by decide +kernel
theorem dX4_visitor_192 : decode cX4_visitor 192 = .ok (.bipush (-2), 2) := by decide +kernel
theorem dX4_visitor_194 : decode cX4_visitor 194 = .ok (.ireturn, 1) := by decide +kernel
set_option maxRecDepth 20000 in
theorem ggX4_inLine_X3_visitorAt : GoodIn wsX4_inLine wsX3_visitorAt := goodIn_r _ [6, 7, 8, 19, 20, 21, 22, 23] (by decide +kernel) (by decide +kernel)
set_option maxRecDepth 20000 in
theorem gX4_inLine_X3_visitorAt : GoodIn wsX4_inLine (wsV RX4 140 RX3 yX3_visitorAt wsX3_visitorAt) := goodIn_app (goodIn_of _ (by decide +kernel)) ggX4_inLine_X3_visitorAt
theorem dX4_inLine_0 : decode cX4_inLine 0 = .ok (.iload_n 1, 1) := by decide +kernel
theorem dX4_inLine_1 : decode cX4_inLine 1 = .ok (.ifCond .ge 6, 3) := by decide +kernel
theorem dX4_inLine_4 : decode cX4_inLine 4 = .ok (.bipush (-2), 2) := by decide +kernel
theorem dX4_inLine_6 : decode cX4_inLine 6 = .ok (.ireturn, 1) := by decide +kernel
theorem dX4_inLine_7 : decode cX4_inLine 7 = .ok (.aload_n 0, 1) := by decide +kernel
theorem dX4_inLine_8 : decode cX4_inLine 8 = .ok (.getfield 12, 3) := by decide +kernel
theorem dX4_inLine_11 : decode cX4_inLine 11 = .ok (.iload_n 1, 1) := by decide +kernel
theorem dX4_inLine_12 : decode cX4_inLine 12 = .ok (.invokevirtual 140, 3) := by decide +kernel
theorem dX4_inLine_15 : decode cX4_inLine 15 = .ok (.ireturn, 1) := by decide +kernel
set_option maxRecDepth 20000 in
theorem ggX4_card_X4_isCard : GoodIn wsX4_card wsX4_isCard := goodIn_r _ [5] (by decide +kernel) (by decide +kernel)
set_option maxRecDepth 20000 in
theorem gX4_card_X4_isCard : GoodIn wsX4_card (va_wsS RX4 141 yX4_isCard wsX4_isCard) := goodIn_app (goodIn_of _ (by decide +kernel)) ggX4_card_X4_isCard
set_option maxRecDepth 20000 in
theorem ggX4_card_X1_kind : GoodIn wsX4_card wsX1_kind := goodIn_r _ [10, 11, 31] (by decide +kernel) (by decide +kernel)
set_option maxRecDepth 20000 in
theorem gX4_card_X1_kind : GoodIn wsX4_card (wsV RX4 66 RX1 yX1_kind wsX1_kind) := goodIn_app (goodIn_of _ (by decide +kernel)) ggX4_card_X1_kind
set_option maxRecDepth 20000 in
theorem ggX4_card_X1_cardFlag : GoodIn wsX4_card wsX1_cardFlag := goodIn_r _ [15, 11, 3, 4, 5, 31] (by decide +kernel) (by decide +kernel)
set_option maxRecDepth 20000 in
theorem gX4_card_X1_cardFlag : GoodIn wsX4_card (wsV RX4 144 RX1 yX1_cardFlag wsX1_cardFlag) := goodIn_app (goodIn_of _ (by decide +kernel)) ggX4_card_X1_cardFlag
theorem dX4_card_0 : decode cX4_card 0 = .ok (.iload_n 1, 1) := by decide +kernel
theorem dX4_card_1 : decode cX4_card 1 = .ok (.invokestatic 141, 3) := by decide +kernel
theorem dX4_card_4 : decode cX4_card 4 = .ok (.ifCond .ne 5, 3) := by decide +kernel
theorem dX4_card_7 : decode cX4_card 7 = .ok (.iconst (-1), 1) := by decide +kernel
theorem dX4_card_8 : decode cX4_card 8 = .ok (.ireturn, 1) := by decide +kernel
theorem dX4_card_9 : decode cX4_card 9 = .ok (.aload_n 0, 1) := by decide +kernel
theorem dX4_card_10 : decode cX4_card 10 = .ok (.getfield 12, 3) := by decide +kernel
theorem dX4_card_13 : decode cX4_card 13 = .ok (.getfield 62, 3) := by decide +kernel
theorem dX4_card_16 : decode cX4_card 16 = .ok (.invokevirtual 66, 3) := by decide +kernel
theorem dX4_card_19 : decode cX4_card 19 = .ok (.iconst 1, 1) := by decide +kernel
theorem dX4_card_20 : decode cX4_card 20 = .ok (.if_icmp .eq 6, 3) := by decide +kernel
theorem dX4_card_23 : decode cX4_card 23 = .ok (.bipush (-5), 2) := by decide +kernel
theorem dX4_card_25 : decode cX4_card 25 = .ok (.ireturn, 1) := by decide +kernel
theorem dX4_card_26 : decode cX4_card 26 = .ok (.aload_n 0, 1) := by decide +kernel
theorem dX4_card_27 : decode cX4_card 27 = .ok (.getfield 12, 3) := by decide +kernel
theorem dX4_card_30 : decode cX4_card 30 = .ok (.getfield 62, 3) := by decide +kernel
theorem dX4_card_33 : decode cX4_card 33 = .ok (.iload_n 1, 1) := by decide +kernel
theorem dX4_card_34 : decode cX4_card 34 = .ok (.invokevirtual 144, 3) := by decide +kernel
theorem dX4_card_37 : decode cX4_card 37 = .ok (.ireturn, 1) := by decide +kernel
set_option maxRecDepth 20000 in
theorem ggX4_total_X1_kind : GoodIn wsX4_total wsX1_kind := goodIn_r _ [8, 9, 66] (by decide +kernel) (by decide +kernel)
set_option maxRecDepth 20000 in
theorem gX4_total_X1_kind : GoodIn wsX4_total (wsV RX4 66 RX1 yX1_kind wsX1_kind) := goodIn_app (goodIn_of _ (by decide +kernel)) ggX4_total_X1_kind
set_option maxRecDepth 20000 in
theorem ggX4_total_X1_whoIsInside : GoodIn wsX4_total wsX1_whoIsInside := goodIn_r _ [13, 14, 15, 16, 7, 17, 9, 66] (by decide +kernel) (by decide +kernel)
set_option maxRecDepth 20000 in
theorem gX4_total_X1_whoIsInside : GoodIn wsX4_total (wsV RX4 147 RX1 yX1_whoIsInside wsX1_whoIsInside) := goodIn_app (goodIn_of _ (by decide +kernel)) ggX4_total_X1_whoIsInside
set_option maxRecDepth 20000 in
theorem ggX4_total_X1_tail : GoodIn wsX4_total wsX1_tail := goodIn_r _ [21, 9, 66] (by decide +kernel) (by decide +kernel)
set_option maxRecDepth 20000 in
theorem gX4_total_X1_tail : GoodIn wsX4_total (wsV RX4 150 RX1 yX1_tail wsX1_tail) := goodIn_app (goodIn_of _ (by decide +kernel)) ggX4_total_X1_tail
set_option maxRecDepth 20000 in
theorem ggX4_total_X3_present : GoodIn wsX4_total wsX3_present := goodIn_r _ [26, 27, 28, 29, 30, 7, 31, 14, 15, 16, 17, 9, 61, 62, 63, 64, 65, 66] (by decide +kernel) (by decide +kernel)
set_option maxRecDepth 20000 in
theorem gX4_total_X3_present : GoodIn wsX4_total (wsV RX4 55 RX3 yX3_present wsX3_present) := goodIn_app (goodIn_of _ (by decide +kernel)) ggX4_total_X3_present
set_option maxRecDepth 20000 in
theorem ggX4_total_X1_countAt : GoodIn wsX4_total wsX1_countAt := goodIn_r _ [31, 14, 15, 16, 7, 17, 9, 66] (by decide +kernel) (by decide +kernel)
set_option maxRecDepth 20000 in
theorem gX4_total_X1_countAt : GoodIn wsX4_total (wsV RX4 153 RX1 yX1_countAt wsX1_countAt) := goodIn_app (goodIn_of _ (by decide +kernel)) ggX4_total_X1_countAt
set_option maxRecDepth 20000 in
theorem ggX4_total_X3_sum : GoodIn wsX4_total wsX3_sum := goodIn_r _ [36, 37, 61, 62, 63, 64, 65] (by decide +kernel) (by decide +kernel)
set_option maxRecDepth 20000 in
theorem gX4_total_X3_sum : GoodIn wsX4_total (wsV RX4 92 RX3 yX3_sum wsX3_sum) := goodIn_app (goodIn_of _ (by decide +kernel)) ggX4_total_X3_sum
set_option maxRecDepth 20000 in
theorem ggX4_total_X1_given : GoodIn wsX4_total wsX1_given := goodIn_r _ [41, 9, 42, 5, 6, 7, 8, 66] (by decide +kernel) (by decide +kernel)
set_option maxRecDepth 20000 in
theorem gX4_total_X1_given : GoodIn wsX4_total (wsV RX4 156 RX1 yX1_given wsX1_given) := goodIn_app (goodIn_of _ (by decide +kernel)) ggX4_total_X1_given
set_option maxRecDepth 20000 in
theorem ggX4_total_X1_served : GoodIn wsX4_total wsX1_served := goodIn_r _ [46, 9, 42, 5, 6, 7, 8, 66] (by decide +kernel) (by decide +kernel)
set_option maxRecDepth 20000 in
theorem gX4_total_X1_served : GoodIn wsX4_total (wsV RX4 159 RX1 yX1_served wsX1_served) := goodIn_app (goodIn_of _ (by decide +kernel)) ggX4_total_X1_served
set_option maxRecDepth 20000 in
theorem ggX4_total_X1_grabFlag : GoodIn wsX4_total wsX1_grabFlag := goodIn_r _ [50, 9, 42, 5, 6, 7, 8, 66] (by decide +kernel) (by decide +kernel)
set_option maxRecDepth 20000 in
theorem gX4_total_X1_grabFlag : GoodIn wsX4_total (wsV RX4 162 RX1 yX1_grabFlag wsX1_grabFlag) := goodIn_app (goodIn_of _ (by decide +kernel)) ggX4_total_X1_grabFlag
theorem dX4_total_0 : decode cX4_total 0 = .ok (.iload_n 1, 1) := by decide +kernel
theorem dX4_total_1 : decode cX4_total 1 = .ok (.tableswitch 218 0 14 #[75, 86, 97, 108, 116, 128, 137, 147, 157, 167, 178, 189, 200, 208, 213], 75) := by decide +kernel
theorem dX4_total_76 : decode cX4_total 76 = .ok (.aload_n 0, 1) := by decide +kernel
theorem dX4_total_77 : decode cX4_total 77 = .ok (.getfield 12, 3) := by decide +kernel
theorem dX4_total_80 : decode cX4_total 80 = .ok (.getfield 62, 3) := by decide +kernel
theorem dX4_total_83 : decode cX4_total 83 = .ok (.invokevirtual 66, 3) := by decide +kernel
theorem dX4_total_86 : decode cX4_total 86 = .ok (.ireturn, 1) := by decide +kernel
theorem dX4_total_87 : decode cX4_total 87 = .ok (.aload_n 0, 1) := by decide +kernel
theorem dX4_total_88 : decode cX4_total 88 = .ok (.getfield 12, 3) := by decide +kernel
theorem dX4_total_91 : decode cX4_total 91 = .ok (.getfield 62, 3) := by decide +kernel
theorem dX4_total_94 : decode cX4_total 94 = .ok (.invokevirtual 147, 3) := by decide +kernel
theorem dX4_total_97 : decode cX4_total 97 = .ok (.ireturn, 1) := by decide +kernel
theorem dX4_total_98 : decode cX4_total 98 = .ok (.aload_n 0, 1) := by decide +kernel
theorem dX4_total_99 : decode cX4_total 99 = .ok (.getfield 12, 3) := by decide +kernel
theorem dX4_total_102 : decode cX4_total 102 = .ok (.getfield 62, 3) := by decide +kernel
theorem dX4_total_105 : decode cX4_total 105 = .ok (.invokevirtual 150, 3) := by decide +kernel
theorem dX4_total_108 : decode cX4_total 108 = .ok (.ireturn, 1) := by decide +kernel
theorem dX4_total_109 : decode cX4_total 109 = .ok (.aload_n 0, 1) := by decide +kernel
theorem dX4_total_110 : decode cX4_total 110 = .ok (.getfield 12, 3) := by decide +kernel
theorem dX4_total_113 : decode cX4_total 113 = .ok (.invokevirtual 55, 3) := by decide +kernel
theorem dX4_total_116 : decode cX4_total 116 = .ok (.ireturn, 1) := by decide +kernel
theorem dX4_total_117 : decode cX4_total 117 = .ok (.aload_n 0, 1) := by decide +kernel
theorem dX4_total_118 : decode cX4_total 118 = .ok (.getfield 12, 3) := by decide +kernel
theorem dX4_total_121 : decode cX4_total 121 = .ok (.getfield 62, 3) := by decide +kernel
theorem dX4_total_124 : decode cX4_total 124 = .ok (.iconst 2, 1) := by decide +kernel
theorem dX4_total_125 : decode cX4_total 125 = .ok (.invokevirtual 153, 3) := by decide +kernel
theorem dX4_total_128 : decode cX4_total 128 = .ok (.ireturn, 1) := by decide +kernel
theorem dX4_total_129 : decode cX4_total 129 = .ok (.aload_n 0, 1) := by decide +kernel
theorem dX4_total_130 : decode cX4_total 130 = .ok (.getfield 12, 3) := by decide +kernel
theorem dX4_total_133 : decode cX4_total 133 = .ok (.iconst 0, 1) := by decide +kernel
theorem dX4_total_134 : decode cX4_total 134 = .ok (.invokevirtual 92, 3) := by decide +kernel
theorem dX4_total_137 : decode cX4_total 137 = .ok (.ireturn, 1) := by decide +kernel
theorem dX4_total_138 : decode cX4_total 138 = .ok (.aload_n 0, 1) := by decide +kernel
theorem dX4_total_139 : decode cX4_total 139 = .ok (.getfield 12, 3) := by decide +kernel
theorem dX4_total_142 : decode cX4_total 142 = .ok (.bipush 6, 2) := by decide +kernel
theorem dX4_total_144 : decode cX4_total 144 = .ok (.invokevirtual 92, 3) := by decide +kernel
theorem dX4_total_147 : decode cX4_total 147 = .ok (.ireturn, 1) := by decide +kernel
theorem dX4_total_148 : decode cX4_total 148 = .ok (.aload_n 0, 1) := by decide +kernel
theorem dX4_total_149 : decode cX4_total 149 = .ok (.getfield 12, 3) := by decide +kernel
theorem dX4_total_152 : decode cX4_total 152 = .ok (.bipush 12, 2) := by decide +kernel
theorem dX4_total_154 : decode cX4_total 154 = .ok (.invokevirtual 92, 3) := by decide +kernel
theorem dX4_total_157 : decode cX4_total 157 = .ok (.ireturn, 1) := by decide +kernel
theorem dX4_total_158 : decode cX4_total 158 = .ok (.aload_n 0, 1) := by decide +kernel
theorem dX4_total_159 : decode cX4_total 159 = .ok (.getfield 12, 3) := by decide +kernel
theorem dX4_total_162 : decode cX4_total 162 = .ok (.bipush 18, 2) := by decide +kernel
theorem dX4_total_164 : decode cX4_total 164 = .ok (.invokevirtual 92, 3) := by decide +kernel
theorem dX4_total_167 : decode cX4_total 167 = .ok (.ireturn, 1) := by decide +kernel
theorem dX4_total_168 : decode cX4_total 168 = .ok (.aload_n 0, 1) := by decide +kernel
theorem dX4_total_169 : decode cX4_total 169 = .ok (.getfield 12, 3) := by decide +kernel
theorem dX4_total_172 : decode cX4_total 172 = .ok (.getfield 62, 3) := by decide +kernel
theorem dX4_total_175 : decode cX4_total 175 = .ok (.invokevirtual 156, 3) := by decide +kernel
theorem dX4_total_178 : decode cX4_total 178 = .ok (.ireturn, 1) := by decide +kernel
theorem dX4_total_179 : decode cX4_total 179 = .ok (.aload_n 0, 1) := by decide +kernel
theorem dX4_total_180 : decode cX4_total 180 = .ok (.getfield 12, 3) := by decide +kernel
theorem dX4_total_183 : decode cX4_total 183 = .ok (.getfield 62, 3) := by decide +kernel
theorem dX4_total_186 : decode cX4_total 186 = .ok (.invokevirtual 159, 3) := by decide +kernel
theorem dX4_total_189 : decode cX4_total 189 = .ok (.ireturn, 1) := by decide +kernel
theorem dX4_total_190 : decode cX4_total 190 = .ok (.aload_n 0, 1) := by decide +kernel
theorem dX4_total_191 : decode cX4_total 191 = .ok (.getfield 12, 3) := by decide +kernel
theorem dX4_total_194 : decode cX4_total 194 = .ok (.getfield 62, 3) := by decide +kernel
theorem dX4_total_197 : decode cX4_total 197 = .ok (.invokevirtual 162, 3) := by decide +kernel
theorem dX4_total_200 : decode cX4_total 200 = .ok (.ireturn, 1) := by decide +kernel
theorem dX4_total_201 : decode cX4_total 201 = .ok (.aload_n 0, 1) := by decide +kernel
theorem dX4_total_202 : decode cX4_total 202 = .ok (.getfield 12, 3) := by decide +kernel
theorem dX4_total_205 : decode cX4_total 205 = .ok (.getfield 98, 3) := by decide +kernel
theorem dX4_total_208 : decode cX4_total 208 = .ok (.ireturn, 1) := by decide +kernel
theorem dX4_total_209 : decode cX4_total 209 = .ok (.aload_n 0, 1) := by decide +kernel
theorem dX4_total_210 : decode cX4_total 210 = .ok (.getfield 30, 3) := by decide +kernel
theorem dX4_total_213 : decode cX4_total 213 = .ok (.ireturn, 1) := by decide +kernel
theorem dX4_total_214 : decode cX4_total 214 = .ok (.aload_n 0, 1) := by decide +kernel
theorem dX4_total_215 : decode cX4_total 215 = .ok (.getfield 38, 3) := by decide +kernel
theorem dX4_total_218 : decode cX4_total 218 = .ok (.ireturn, 1) := by decide +kernel
theorem dX4_total_219 : decode cX4_total 219 = .ok (.bipush (-2), 2) := by decide +kernel
theorem dX4_total_221 : decode cX4_total 221 = .ok (.ireturn, 1) := by decide +kernel
set_option maxRecDepth 20000 in
theorem ggX4_wouldLook_X4_isVisitor : GoodIn wsX4_wouldLook wsX4_isVisitor := goodIn_r _ [5] (by decide +kernel) (by decide +kernel)
set_option maxRecDepth 20000 in
theorem gX4_wouldLook_X4_isVisitor : GoodIn wsX4_wouldLook (va_wsS RX4 75 yX4_isVisitor wsX4_isVisitor) := goodIn_app (goodIn_of _ (by decide +kernel)) ggX4_wouldLook_X4_isVisitor
set_option maxRecDepth 20000 in
theorem ggX4_wouldLook_X1_waits : GoodIn wsX4_wouldLook wsX1_waits := goodIn_r _ [10, 11, 12, 13, 14, 9, 15, 16, 17, 18, 19, 20, 21, 22, 23, 24, 25, 26, 27, 28, 4, 29, 45] (by decide +kernel) (by decide +kernel)
set_option maxRecDepth 20000 in
theorem gX4_wouldLook_X1_waits : GoodIn wsX4_wouldLook (wsV RX4 86 RX1 yX1_waits wsX1_waits) := goodIn_app (goodIn_of _ (by decide +kernel)) ggX4_wouldLook_X1_waits
theorem dX4_wouldLook_0 : decode cX4_wouldLook 0 = .ok (.iload_n 1, 1) := by decide +kernel
theorem dX4_wouldLook_1 : decode cX4_wouldLook 1 = .ok (.invokestatic 75, 3) := by decide +kernel
theorem dX4_wouldLook_4 : decode cX4_wouldLook 4 = .ok (.ifCond .ne 5, 3) := by decide +kernel
theorem dX4_wouldLook_7 : decode cX4_wouldLook 7 = .ok (.iconst (-1), 1) := by decide +kernel
theorem dX4_wouldLook_8 : decode cX4_wouldLook 8 = .ok (.ireturn, 1) := by decide +kernel
theorem dX4_wouldLook_9 : decode cX4_wouldLook 9 = .ok (.aload_n 0, 1) := by decide +kernel
theorem dX4_wouldLook_10 : decode cX4_wouldLook 10 = .ok (.getfield 12, 3) := by decide +kernel
theorem dX4_wouldLook_13 : decode cX4_wouldLook 13 = .ok (.getfield 62, 3) := by decide +kernel
theorem dX4_wouldLook_16 : decode cX4_wouldLook 16 = .ok (.iload_n 1, 1) := by decide +kernel
theorem dX4_wouldLook_17 : decode cX4_wouldLook 17 = .ok (.invokevirtual 86, 3) := by decide +kernel
theorem dX4_wouldLook_20 : decode cX4_wouldLook 20 = .ok (.ifCond .eq 7, 3) := by decide +kernel
theorem dX4_wouldLook_23 : decode cX4_wouldLook 23 = .ok (.iconst 1, 1) := by decide +kernel
theorem dX4_wouldLook_24 : decode cX4_wouldLook 24 = .ok (.goto 4, 3) := by decide +kernel
theorem dX4_wouldLook_27 : decode cX4_wouldLook 27 = .ok (.iconst 0, 1) := by decide +kernel
theorem dX4_wouldLook_28 : decode cX4_wouldLook 28 = .ok (.ireturn, 1) := by decide +kernel
set_option maxRecDepth 20000 in
theorem ggX4_wouldTouch_X4_isVisitor : GoodIn wsX4_wouldTouch wsX4_isVisitor := goodIn_r _ [5] (by decide +kernel) (by decide +kernel)
set_option maxRecDepth 20000 in
theorem gX4_wouldTouch_X4_isVisitor : GoodIn wsX4_wouldTouch (va_wsS RX4 75 yX4_isVisitor wsX4_isVisitor) := goodIn_app (goodIn_of _ (by decide +kernel)) ggX4_wouldTouch_X4_isVisitor
set_option maxRecDepth 20000 in
theorem ggX4_wouldTouch_X1_touches : GoodIn wsX4_wouldTouch wsX1_touches := goodIn_r _ [10, 11, 12, 13, 14, 9, 15, 16, 17, 18, 19, 20, 36] (by decide +kernel) (by decide +kernel)
set_option maxRecDepth 20000 in
theorem gX4_wouldTouch_X1_touches : GoodIn wsX4_wouldTouch (wsV RX4 165 RX1 yX1_touches wsX1_touches) := goodIn_app (goodIn_of _ (by decide +kernel)) ggX4_wouldTouch_X1_touches
theorem dX4_wouldTouch_0 : decode cX4_wouldTouch 0 = .ok (.iload_n 1, 1) := by decide +kernel
theorem dX4_wouldTouch_1 : decode cX4_wouldTouch 1 = .ok (.invokestatic 75, 3) := by decide +kernel
theorem dX4_wouldTouch_4 : decode cX4_wouldTouch 4 = .ok (.ifCond .ne 5, 3) := by decide +kernel
theorem dX4_wouldTouch_7 : decode cX4_wouldTouch 7 = .ok (.iconst (-1), 1) := by decide +kernel
theorem dX4_wouldTouch_8 : decode cX4_wouldTouch 8 = .ok (.ireturn, 1) := by decide +kernel
theorem dX4_wouldTouch_9 : decode cX4_wouldTouch 9 = .ok (.aload_n 0, 1) := by decide +kernel
theorem dX4_wouldTouch_10 : decode cX4_wouldTouch 10 = .ok (.getfield 12, 3) := by decide +kernel
theorem dX4_wouldTouch_13 : decode cX4_wouldTouch 13 = .ok (.getfield 62, 3) := by decide +kernel
theorem dX4_wouldTouch_16 : decode cX4_wouldTouch 16 = .ok (.iload_n 1, 1) := by decide +kernel
theorem dX4_wouldTouch_17 : decode cX4_wouldTouch 17 = .ok (.invokevirtual 165, 3) := by decide +kernel
theorem dX4_wouldTouch_20 : decode cX4_wouldTouch 20 = .ok (.ireturn, 1) := by decide +kernel
set_option maxRecDepth 20000 in
theorem ggX4_stepsToFinish_X3_copyFrom : GoodIn wsX4_stepsToFinish wsX3_copyFrom := goodIn_r _ [7, 8, 9, 10, 11, 12, 13, 14, 15, 16, 17, 18, 19, 20, 21, 22, 23, 135, 136, 137, 138, 139, 140] (by decide +kernel) (by decide +kernel)
set_option maxRecDepth 20000 in
theorem gX4_stepsToFinish_X3_copyFrom : GoodIn wsX4_stepsToFinish (wsV RX4 114 RX3 yX3_copyFrom wsX3_copyFrom) := goodIn_app (goodIn_of _ (by decide +kernel)) ggX4_stepsToFinish_X3_copyFrom
set_option maxRecDepth 20000 in
theorem ggX4_stepsToFinish_X3_advanceAll : GoodIn wsX4_stepsToFinish wsX3_advanceAll := goodIn_r _ [27, 28, 8, 29, 30, 31, 6, 32, 33, 34, 35, 20, 36, 37, 38, 39, 40, 22, 41, 42, 43, 44, 45, 9, 46, 47, 48, 49, 50, 51, 52, 53, 54, 55, 56, 57, 58, 59, 60, 61, 62, 63, 64, 65, 66, 67, 68, 69, 70, 71, 72, 73, 74, 75, 76, 77, 78, 79, 80, 81, 82, 83, 84, 85, 86, 87, 88, 89, 90, 91, 92, 93, 94, 95, 96, 97, 98, 99, 100, 101, 102, 103, 104, 105, 106, 107, 108, 109, 110, 111, 112, 113, 114, 115, 116, 117, 118, 119, 120, 15, 14, 121, 122, 123, 124, 135, 136, 137, 138, 139, 140] (by decide +kernel) (by decide +kernel)
set_option maxRecDepth 20000 in
theorem gX4_stepsToFinish_X3_advanceAll : GoodIn wsX4_stepsToFinish (wsV RX4 111 RX3 yX3_advanceAll wsX3_advanceAll) := goodIn_app (goodIn_of _ (by decide +kernel)) ggX4_stepsToFinish_X3_advanceAll
theorem dX4_stepsToFinish_0 : decode cX4_stepsToFinish 0 = .ok (.aload_n 0, 1) := by decide +kernel
theorem dX4_stepsToFinish_1 : decode cX4_stepsToFinish 1 = .ok (.getfield 16, 3) := by decide +kernel
theorem dX4_stepsToFinish_4 : decode cX4_stepsToFinish 4 = .ok (.aload_n 0, 1) := by decide +kernel
theorem dX4_stepsToFinish_5 : decode cX4_stepsToFinish 5 = .ok (.getfield 12, 3) := by decide +kernel
theorem dX4_stepsToFinish_8 : decode cX4_stepsToFinish 8 = .ok (.invokevirtual 114, 3) := by decide +kernel
theorem dX4_stepsToFinish_11 : decode cX4_stepsToFinish 11 = .ok (.aload_n 0, 1) := by decide +kernel
theorem dX4_stepsToFinish_12 : decode cX4_stepsToFinish 12 = .ok (.getfield 16, 3) := by decide +kernel
theorem dX4_stepsToFinish_15 : decode cX4_stepsToFinish 15 = .ok (.invokevirtual 111, 3) := by decide +kernel
theorem dX4_stepsToFinish_18 : decode cX4_stepsToFinish 18 = .ok (.ireturn, 1) := by decide +kernel
set_option maxRecDepth 20000 in
theorem ggX4_orders_X4_isVisitor : GoodIn wsX4_orders wsX4_isVisitor := goodIn_r _ [6] (by decide +kernel) (by decide +kernel)
set_option maxRecDepth 20000 in
theorem gX4_orders_X4_isVisitor : GoodIn wsX4_orders (va_wsS RX4 75 yX4_isVisitor wsX4_isVisitor) := goodIn_app (goodIn_of _ (by decide +kernel)) ggX4_orders_X4_isVisitor
set_option maxRecDepth 20000 in
theorem ggX4_orders_X0_explore : GoodIn wsX4_orders wsX0_explore := goodIn_r _ [11, 12, 13, 14, 15, 16, 17, 18, 19, 20, 21, 22, 23, 24, 25, 26, 10, 27, 28, 29, 30, 31, 32, 33, 34, 35, 36, 37, 38, 39, 40, 41, 42, 43, 44, 45, 46, 47, 48, 49, 50, 51, 52, 53, 54, 55, 56, 57, 58, 59, 60, 61, 62, 63, 64, 65, 66, 67, 68, 69, 70, 71, 5, 72, 73, 74, 75, 76, 77, 78, 79, 80, 81, 82, 83, 84, 4, 6, 85, 86, 87, 88, 89, 90, 91, 92, 93, 94, 95, 96, 97, 98, 99, 100, 101, 102, 103, 104, 105, 106, 107, 108, 109, 110, 111, 112, 113, 114, 115, 116, 117, 150, 151, 152, 153, 154] (by decide +kernel) (by decide +kernel)
set_option maxRecDepth 20000 in
theorem gX4_orders_X0_explore : GoodIn wsX4_orders (wsV RX4 168 RX0 yX0_explore wsX0_explore) := goodIn_app (goodIn_of _ (by decide +kernel)) ggX4_orders_X0_explore
set_option maxRecDepth 20000 in
theorem ggX4_orders_X0_found : GoodIn wsX4_orders wsX0_found := goodIn_r _ [121, 12, 150, 151, 152, 153] (by decide +kernel) (by decide +kernel)
set_option maxRecDepth 20000 in
theorem gX4_orders_X0_found : GoodIn wsX4_orders (wsV RX4 172 RX0 yX0_found wsX0_found) := goodIn_app (goodIn_of _ (by decide +kernel)) ggX4_orders_X0_found
set_option maxRecDepth 20000 in
theorem ggX4_orders_X0_countBothInside : GoodIn wsX4_orders wsX0_countBothInside := goodIn_r _ [125, 12, 28, 109, 56, 57, 17, 58, 19, 150, 151, 152, 153, 154] (by decide +kernel) (by decide +kernel)
set_option maxRecDepth 20000 in
theorem gX4_orders_X0_countBothInside : GoodIn wsX4_orders (wsV RX4 175 RX0 yX0_countBothInside wsX0_countBothInside) := goodIn_app (goodIn_of _ (by decide +kernel)) ggX4_orders_X0_countBothInside
set_option maxRecDepth 20000 in
theorem ggX4_orders_X0_countStuck : GoodIn wsX4_orders wsX0_countStuck := goodIn_r _ [129, 12, 130, 131, 132, 10, 133, 28, 31, 134, 52, 53, 17, 54, 19, 55, 56, 57, 58, 59, 60, 61, 62, 63, 64, 65, 66, 67, 68, 69, 70, 71, 5, 72, 150, 151, 152, 153, 154] (by decide +kernel) (by decide +kernel)
set_option maxRecDepth 20000 in
theorem gX4_orders_X0_countStuck : GoodIn wsX4_orders (wsV RX4 178 RX0 yX0_countStuck wsX0_countStuck) := goodIn_app (goodIn_of _ (by decide +kernel)) ggX4_orders_X0_countStuck
theorem dX4_orders_0 : decode cX4_orders 0 = .ok (.iload_n 1, 1) := by decide +kernel
theorem dX4_orders_1 : decode cX4_orders 1 = .ok (.invokestatic 75, 3) := by decide +kernel
theorem dX4_orders_4 : decode cX4_orders 4 = .ok (.ifCond .eq 10, 3) := by decide +kernel
theorem dX4_orders_7 : decode cX4_orders 7 = .ok (.iload_n 2, 1) := by decide +kernel
theorem dX4_orders_8 : decode cX4_orders 8 = .ok (.invokestatic 75, 3) := by decide +kernel
theorem dX4_orders_11 : decode cX4_orders 11 = .ok (.ifCond .ne 5, 3) := by decide +kernel
theorem dX4_orders_14 : decode cX4_orders 14 = .ok (.iconst (-1), 1) := by decide +kernel
theorem dX4_orders_15 : decode cX4_orders 15 = .ok (.ireturn, 1) := by decide +kernel
theorem dX4_orders_16 : decode cX4_orders 16 = .ok (.iload_n 3, 1) := by decide +kernel
theorem dX4_orders_17 : decode cX4_orders 17 = .ok (.ifCond .lt 13, 3) := by decide +kernel
theorem dX4_orders_20 : decode cX4_orders 20 = .ok (.iload_n 3, 1) := by decide +kernel
theorem dX4_orders_21 : decode cX4_orders 21 = .ok (.iconst 2, 1) := by decide +kernel
theorem dX4_orders_22 : decode cX4_orders 22 = .ok (.if_icmp .gt 8, 3) := by decide +kernel
theorem dX4_orders_25 : decode cX4_orders 25 = .ok (.iload_n 1, 1) := by decide +kernel
theorem dX4_orders_26 : decode cX4_orders 26 = .ok (.iload_n 2, 1) := by decide +kernel
theorem dX4_orders_27 : decode cX4_orders 27 = .ok (.if_icmp .ne 6, 3) := by decide +kernel
theorem dX4_orders_30 : decode cX4_orders 30 = .ok (.bipush (-2), 2) := by decide +kernel
theorem dX4_orders_32 : decode cX4_orders 32 = .ok (.ireturn, 1) := by decide +kernel
theorem dX4_orders_33 : decode cX4_orders 33 = .ok (.aload_n 0, 1) := by decide +kernel
theorem dX4_orders_34 : decode cX4_orders 34 = .ok (.getfield 51, 3) := by decide +kernel
theorem dX4_orders_37 : decode cX4_orders 37 = .ok (.aload_n 0, 1) := by decide +kernel
theorem dX4_orders_38 : decode cX4_orders 38 = .ok (.getfield 12, 3) := by decide +kernel
theorem dX4_orders_41 : decode cX4_orders 41 = .ok (.getfield 62, 3) := by decide +kernel
theorem dX4_orders_44 : decode cX4_orders 44 = .ok (.iload_n 1, 1) := by decide +kernel
theorem dX4_orders_45 : decode cX4_orders 45 = .ok (.iload_n 2, 1) := by decide +kernel
theorem dX4_orders_46 : decode cX4_orders 46 = .ok (.invokevirtual 168, 3) := by decide +kernel
theorem dX4_orders_49 : decode cX4_orders 49 = .ok (.ifCond .ne 6, 3) := by decide +kernel
theorem dX4_orders_52 : decode cX4_orders 52 = .ok (.bipush (-5), 2) := by decide +kernel
theorem dX4_orders_54 : decode cX4_orders 54 = .ok (.ireturn, 1) := by decide +kernel
theorem dX4_orders_55 : decode cX4_orders 55 = .ok (.iload_n 3, 1) := by decide +kernel
theorem dX4_orders_56 : decode cX4_orders 56 = .ok (.lookupswitch 46 #[(0, 28), (1, 36)], 28) := by decide +kernel
theorem dX4_orders_84 : decode cX4_orders 84 = .ok (.aload_n 0, 1) := by decide +kernel
theorem dX4_orders_85 : decode cX4_orders 85 = .ok (.getfield 51, 3) := by decide +kernel
theorem dX4_orders_88 : decode cX4_orders 88 = .ok (.invokevirtual 172, 3) := by decide +kernel
theorem dX4_orders_91 : decode cX4_orders 91 = .ok (.ireturn, 1) := by decide +kernel
theorem dX4_orders_92 : decode cX4_orders 92 = .ok (.aload_n 0, 1) := by decide +kernel
theorem dX4_orders_93 : decode cX4_orders 93 = .ok (.getfield 51, 3) := by decide +kernel
theorem dX4_orders_96 : decode cX4_orders 96 = .ok (.iload_n 1, 1) := by decide +kernel
theorem dX4_orders_97 : decode cX4_orders 97 = .ok (.iload_n 2, 1) := by decide +kernel
theorem dX4_orders_98 : decode cX4_orders 98 = .ok (.invokevirtual 175, 3) := by decide +kernel
theorem dX4_orders_101 : decode cX4_orders 101 = .ok (.ireturn, 1) := by decide +kernel
theorem dX4_orders_102 : decode cX4_orders 102 = .ok (.aload_n 0, 1) := by decide +kernel
theorem dX4_orders_103 : decode cX4_orders 103 = .ok (.getfield 51, 3) := by decide +kernel
theorem dX4_orders_106 : decode cX4_orders 106 = .ok (.iload_n 1, 1) := by decide +kernel
theorem dX4_orders_107 : decode cX4_orders 107 = .ok (.iload_n 2, 1) := by decide +kernel
theorem dX4_orders_108 : decode cX4_orders 108 = .ok (.invokevirtual 178, 3) := by decide +kernel
theorem dX4_orders_111 : decode cX4_orders 111 = .ok (.ireturn, 1) := by decide +kernel
theorem dX4_isVisitor_0 : decode cX4_isVisitor 0 = .ok (.iload_n 0, 1) := by decide +kernel
theorem dX4_isVisitor_1 : decode cX4_isVisitor 1 = .ok (.ifCond .lt 13, 3) := by decide +kernel
theorem dX4_isVisitor_4 : decode cX4_isVisitor 4 = .ok (.iload_n 0, 1) := by decide +kernel
theorem dX4_isVisitor_5 : decode cX4_isVisitor 5 = .ok (.bipush 6, 2) := by decide +kernel
theorem dX4_isVisitor_7 : decode cX4_isVisitor 7 = .ok (.if_icmp .ge 7, 3) := by decide +kernel
theorem dX4_isVisitor_10 : decode cX4_isVisitor 10 = .ok (.iconst 1, 1) := by decide +kernel
theorem dX4_isVisitor_11 : decode cX4_isVisitor 11 = .ok (.goto 4, 3) := by decide +kernel
theorem dX4_isVisitor_14 : decode cX4_isVisitor 14 = .ok (.iconst 0, 1) := by decide +kernel
theorem dX4_isVisitor_15 : decode cX4_isVisitor 15 = .ok (.ireturn, 1) := by decide +kernel
theorem dX4_isCard_0 : decode cX4_isCard 0 = .ok (.iload_n 0, 1) := by decide +kernel
theorem dX4_isCard_1 : decode cX4_isCard 1 = .ok (.ifCond .lt 13, 3) := by decide +kernel
theorem dX4_isCard_4 : decode cX4_isCard 4 = .ok (.iload_n 0, 1) := by decide +kernel
theorem dX4_isCard_5 : decode cX4_isCard 5 = .ok (.bipush 7, 2) := by decide +kernel
theorem dX4_isCard_7 : decode cX4_isCard 7 = .ok (.if_icmp .ge 7, 3) := by decide +kernel
theorem dX4_isCard_10 : decode cX4_isCard 10 = .ok (.iconst 1, 1) := by decide +kernel
theorem dX4_isCard_11 : decode cX4_isCard 11 = .ok (.goto 4, 3) := by decide +kernel
theorem dX4_isCard_14 : decode cX4_isCard 14 = .ok (.iconst 0, 1) := by decide +kernel
theorem dX4_isCard_15 : decode cX4_isCard 15 = .ok (.ireturn, 1) := by decide +kernel
set_option maxRecDepth 20000 in
theorem ggX4_remember_X4_dropOldest : GoodIn wsX4_remember wsX4_dropOldest := goodIn_r _ [8, 2, 1, 30, 31, 32, 33, 34, 35, 36, 37, 38, 39] (by decide +kernel) (by decide +kernel)
set_option maxRecDepth 20000 in
theorem gX4_remember_X4_dropOldest : GoodIn wsX4_remember (wsV RX4 181 RX4 yX4_dropOldest wsX4_dropOldest) := goodIn_app (goodIn_of _ (by decide +kernel)) ggX4_remember_X4_dropOldest
set_option maxRecDepth 20000 in
theorem ggX4_remember_X3_copyFrom : GoodIn wsX4_remember wsX3_copyFrom := goodIn_r _ [13, 14, 15, 16, 17, 18, 19, 20, 21, 22, 23, 24, 25, 26, 27, 28, 29, 40, 41, 42, 43, 44, 45] (by decide +kernel) (by decide +kernel)
set_option maxRecDepth 20000 in
theorem gX4_remember_X3_copyFrom : GoodIn wsX4_remember (wsV RX4 114 RX3 yX3_copyFrom wsX3_copyFrom) := goodIn_app (goodIn_of _ (by decide +kernel)) ggX4_remember_X3_copyFrom
theorem dX4_remember_0 : decode cX4_remember 0 = .ok (.aload_n 0, 1) := by decide +kernel
theorem dX4_remember_1 : decode cX4_remember 1 = .ok (.getfield 30, 3) := by decide +kernel
theorem dX4_remember_4 : decode cX4_remember 4 = .ok (.iconst 4, 1) := by decide +kernel
theorem dX4_remember_5 : decode cX4_remember 5 = .ok (.if_icmp .lt 7, 3) := by decide +kernel
theorem dX4_remember_8 : decode cX4_remember 8 = .ok (.aload_n 0, 1) := by decide +kernel
theorem dX4_remember_9 : decode cX4_remember 9 = .ok (.invokevirtual 181, 3) := by decide +kernel
theorem dX4_remember_12 : decode cX4_remember 12 = .ok (.aload_n 0, 1) := by decide +kernel
theorem dX4_remember_13 : decode cX4_remember 13 = .ok (.getfield 26, 3) := by decide +kernel
theorem dX4_remember_16 : decode cX4_remember 16 = .ok (.aload_n 0, 1) := by decide +kernel
theorem dX4_remember_17 : decode cX4_remember 17 = .ok (.getfield 30, 3) := by decide +kernel
theorem dX4_remember_20 : decode cX4_remember 20 = .ok (.aaload, 1) := by decide +kernel
theorem dX4_remember_21 : decode cX4_remember 21 = .ok (.aload_n 0, 1) := by decide +kernel
theorem dX4_remember_22 : decode cX4_remember 22 = .ok (.getfield 12, 3) := by decide +kernel
theorem dX4_remember_25 : decode cX4_remember 25 = .ok (.invokevirtual 114, 3) := by decide +kernel
theorem dX4_remember_28 : decode cX4_remember 28 = .ok (.aload_n 0, 1) := by decide +kernel
theorem dX4_remember_29 : decode cX4_remember 29 = .ok (.dup, 1) := by decide +kernel
theorem dX4_remember_30 : decode cX4_remember 30 = .ok (.getfield 30, 3) := by decide +kernel
theorem dX4_remember_33 : decode cX4_remember 33 = .ok (.iconst 1, 1) := by decide +kernel
theorem dX4_remember_34 : decode cX4_remember 34 = .ok (.iadd, 1) := by decide +kernel
theorem dX4_remember_35 : decode cX4_remember 35 = .ok (.putfield 30, 3) := by decide +kernel
theorem dX4_remember_38 : decode cX4_remember 38 = .ok (.return_, 1) := by decide +kernel
theorem dX4_dropOldest_0 : decode cX4_dropOldest 0 = .ok (.aload_n 0, 1) := by decide +kernel
theorem dX4_dropOldest_1 : decode cX4_dropOldest 1 = .ok (.getfield 26, 3) := by decide +kernel
theorem dX4_dropOldest_4 : decode cX4_dropOldest 4 = .ok (.iconst 0, 1) := by decide +kernel
theorem dX4_dropOldest_5 : decode cX4_dropOldest 5 = .ok (.aaload, 1) := by decide +kernel
theorem dX4_dropOldest_6 : decode cX4_dropOldest 6 = .ok (.astore_n 1, 1) := by decide +kernel
theorem dX4_dropOldest_7 : decode cX4_dropOldest 7 = .ok (.iconst 1, 1) := by decide +kernel
theorem dX4_dropOldest_8 : decode cX4_dropOldest 8 = .ok (.istore_n 2, 1) := by decide +kernel
theorem dX4_dropOldest_9 : decode cX4_dropOldest 9 = .ok (.iload_n 2, 1) := by decide +kernel
theorem dX4_dropOldest_10 : decode cX4_dropOldest 10 = .ok (.iconst 4, 1) := by decide +kernel
theorem dX4_dropOldest_11 : decode cX4_dropOldest 11 = .ok (.if_icmp .ge 23, 3) := by decide +kernel
theorem dX4_dropOldest_14 : decode cX4_dropOldest 14 = .ok (.aload_n 0, 1) := by decide +kernel
theorem dX4_dropOldest_15 : decode cX4_dropOldest 15 = .ok (.getfield 26, 3) := by decide +kernel
theorem dX4_dropOldest_18 : decode cX4_dropOldest 18 = .ok (.iload_n 2, 1) := by decide +kernel
theorem dX4_dropOldest_19 : decode cX4_dropOldest 19 = .ok (.iconst 1, 1) := by decide +kernel
theorem dX4_dropOldest_20 : decode cX4_dropOldest 20 = .ok (.isub, 1) := by decide +kernel
theorem dX4_dropOldest_21 : decode cX4_dropOldest 21 = .ok (.aload_n 0, 1) := by decide +kernel
theorem dX4_dropOldest_22 : decode cX4_dropOldest 22 = .ok (.getfield 26, 3) := by decide +kernel
theorem dX4_dropOldest_25 : decode cX4_dropOldest 25 = .ok (.iload_n 2, 1) := by decide +kernel
theorem dX4_dropOldest_26 : decode cX4_dropOldest 26 = .ok (.aaload, 1) := by decide +kernel
theorem dX4_dropOldest_27 : decode cX4_dropOldest 27 = .ok (.aastore, 1) := by decide +kernel
theorem dX4_dropOldest_28 : decode cX4_dropOldest 28 = .ok (.iinc 2 1, 3) := by decide +kernel
theorem dX4_dropOldest_31 : decode cX4_dropOldest 31 = .ok (.goto (-22), 3) := by decide +kernel
theorem dX4_dropOldest_34 : decode cX4_dropOldest 34 = .ok (.aload_n 0, 1) := by decide +kernel
theorem dX4_dropOldest_35 : decode cX4_dropOldest 35 = .ok (.getfield 26, 3) := by decide +kernel
theorem dX4_dropOldest_38 : decode cX4_dropOldest 38 = .ok (.iconst 3, 1) := by decide +kernel
theorem dX4_dropOldest_39 : decode cX4_dropOldest 39 = .ok (.aload_n 1, 1) := by decide +kernel
theorem dX4_dropOldest_40 : decode cX4_dropOldest 40 = .ok (.aastore, 1) := by decide +kernel
theorem dX4_dropOldest_41 : decode cX4_dropOldest 41 = .ok (.aload_n 0, 1) := by decide +kernel
theorem dX4_dropOldest_42 : decode cX4_dropOldest 42 = .ok (.iconst 3, 1) := by decide +kernel
theorem dX4_dropOldest_43 : decode cX4_dropOldest 43 = .ok (.putfield 30, 3) := by decide +kernel
theorem dX4_dropOldest_46 : decode cX4_dropOldest 46 = .ok (.return_, 1) := by decide +kernel
set_option maxRecDepth 20000 in
theorem ggX5_init_X5_clearLock : GoodIn wsX5_init wsX5_clearLock := goodIn_r _ [20, 5, 21, 22, 23, 24, 25, 26, 27, 28, 29, 30, 31, 32, 33, 34, 35, 36, 37, 38] (by decide +kernel) (by decide +kernel)
set_option maxRecDepth 20000 in
theorem gX5_init_X5_clearLock : GoodIn wsX5_init (wsV RX5 43 RX5 yX5_clearLock wsX5_clearLock) := goodIn_app (goodIn_of _ (by decide +kernel)) ggX5_init_X5_clearLock
theorem dX5_init_0 : decode cX5_init 0 = .ok (.aload_n 0, 1) := by decide +kernel
theorem dX5_init_1 : decode cX5_init 1 = .ok (.invokespecial 1, 3) := by decide +kernel
theorem dX5_init_4 : decode cX5_init 4 = .ok (.aload_n 0, 1) := by decide +kernel
theorem dX5_init_5 : decode cX5_init 5 = .ok (.bipush 86, 2) := by decide +kernel
theorem dX5_init_7 : decode cX5_init 7 = .ok (.newarray .int, 2) := by decide +kernel
theorem dX5_init_9 : decode cX5_init 9 = .ok (.putfield 7, 3) := by decide +kernel
theorem dX5_init_12 : decode cX5_init 12 = .ok (.aload_n 0, 1) := by decide +kernel
theorem dX5_init_13 : decode cX5_init 13 = .ok (.bipush 86, 2) := by decide +kernel
theorem dX5_init_15 : decode cX5_init 15 = .ok (.newarray .int, 2) := by decide +kernel
theorem dX5_init_17 : decode cX5_init 17 = .ok (.putfield 13, 3) := by decide +kernel
theorem dX5_init_20 : decode cX5_init 20 = .ok (.aload_n 0, 1) := by decide +kernel
theorem dX5_init_21 : decode cX5_init 21 = .ok (.sipush 344, 3) := by decide +kernel
theorem dX5_init_24 : decode cX5_init 24 = .ok (.newarray .int, 2) := by decide +kernel
theorem dX5_init_26 : decode cX5_init 26 = .ok (.putfield 16, 3) := by decide +kernel
theorem dX5_init_29 : decode cX5_init 29 = .ok (.aload_n 0, 1) := by decide +kernel
theorem dX5_init_30 : decode cX5_init 30 = .ok (.bipush 86, 2) := by decide +kernel
theorem dX5_init_32 : decode cX5_init 32 = .ok (.newarray .int, 2) := by decide +kernel
theorem dX5_init_34 : decode cX5_init 34 = .ok (.putfield 19, 3) := by decide +kernel
theorem dX5_init_37 : decode cX5_init 37 = .ok (.aload_n 0, 1) := by decide +kernel
theorem dX5_init_38 : decode cX5_init 38 = .ok (.bipush 60, 2) := by decide +kernel
theorem dX5_init_40 : decode cX5_init 40 = .ok (.newarray .int, 2) := by decide +kernel
theorem dX5_init_42 : decode cX5_init 42 = .ok (.putfield 22, 3) := by decide +kernel
theorem dX5_init_45 : decode cX5_init 45 = .ok (.aload_n 0, 1) := by decide +kernel
theorem dX5_init_46 : decode cX5_init 46 = .ok (.bipush 62, 2) := by decide +kernel
theorem dX5_init_48 : decode cX5_init 48 = .ok (.newarray .int, 2) := by decide +kernel
theorem dX5_init_50 : decode cX5_init 50 = .ok (.putfield 25, 3) := by decide +kernel
theorem dX5_init_53 : decode cX5_init 53 = .ok (.aload_n 0, 1) := by decide +kernel
theorem dX5_init_54 : decode cX5_init 54 = .ok (.bipush 62, 2) := by decide +kernel
theorem dX5_init_56 : decode cX5_init 56 = .ok (.newarray .int, 2) := by decide +kernel
theorem dX5_init_58 : decode cX5_init 58 = .ok (.putfield 28, 3) := by decide +kernel
theorem dX5_init_61 : decode cX5_init 61 = .ok (.aload_n 0, 1) := by decide +kernel
theorem dX5_init_62 : decode cX5_init 62 = .ok (.bipush 62, 2) := by decide +kernel
theorem dX5_init_64 : decode cX5_init 64 = .ok (.newarray .int, 2) := by decide +kernel
theorem dX5_init_66 : decode cX5_init 66 = .ok (.putfield 31, 3) := by decide +kernel
theorem dX5_init_69 : decode cX5_init 69 = .ok (.aload_n 0, 1) := by decide +kernel
theorem dX5_init_70 : decode cX5_init 70 = .ok (.bipush 62, 2) := by decide +kernel
theorem dX5_init_72 : decode cX5_init 72 = .ok (.newarray .int, 2) := by decide +kernel
theorem dX5_init_74 : decode cX5_init 74 = .ok (.putfield 34, 3) := by decide +kernel
theorem dX5_init_77 : decode cX5_init 77 = .ok (.aload_n 0, 1) := by decide +kernel
theorem dX5_init_78 : decode cX5_init 78 = .ok (.bipush 62, 2) := by decide +kernel
theorem dX5_init_80 : decode cX5_init 80 = .ok (.newarray .int, 2) := by decide +kernel
theorem dX5_init_82 : decode cX5_init 82 = .ok (.putfield 37, 3) := by decide +kernel
theorem dX5_init_85 : decode cX5_init 85 = .ok (.aload_n 0, 1) := by decide +kernel
theorem dX5_init_86 : decode cX5_init 86 = .ok (.sipush 16500, 3) := by decide +kernel
theorem dX5_init_89 : decode cX5_init 89 = .ok (.newarray .int, 2) := by decide +kernel
theorem dX5_init_91 : decode cX5_init 91 = .ok (.putfield 40, 3) := by decide +kernel
theorem dX5_init_94 : decode cX5_init 94 = .ok (.aload_n 0, 1) := by decide +kernel
theorem dX5_init_95 : decode cX5_init 95 = .ok (.getfield 7, 3) := by decide +kernel
theorem dX5_init_98 : decode cX5_init 98 = .ok (.bipush 61, 2) := by decide +kernel
theorem dX5_init_100 : decode cX5_init 100 = .ok (.iconst 1, 1) := by decide +kernel
theorem dX5_init_101 : decode cX5_init 101 = .ok (.iastore, 1) := by decide +kernel
theorem dX5_init_102 : decode cX5_init 102 = .ok (.aload_n 0, 1) := by decide +kernel
theorem dX5_init_103 : decode cX5_init 103 = .ok (.iconst 0, 1) := by decide +kernel
theorem dX5_init_104 : decode cX5_init 104 = .ok (.invokevirtual 43, 3) := by decide +kernel
theorem dX5_init_107 : decode cX5_init 107 = .ok (.return_, 1) := by decide +kernel
theorem dX5_in_0 : decode cX5_in 0 = .ok (.iload_n 0, 1) := by decide +kernel
theorem dX5_in_1 : decode cX5_in 1 = .ok (.iload_n 1, 1) := by decide +kernel
theorem dX5_in_2 : decode cX5_in 2 = .ok (.if_icmp .lt 12, 3) := by decide +kernel
theorem dX5_in_5 : decode cX5_in 5 = .ok (.iload_n 0, 1) := by decide +kernel
theorem dX5_in_6 : decode cX5_in 6 = .ok (.iload_n 2, 1) := by decide +kernel
theorem dX5_in_7 : decode cX5_in 7 = .ok (.if_icmp .gt 7, 3) := by decide +kernel
theorem dX5_in_10 : decode cX5_in 10 = .ok (.iconst 1, 1) := by decide +kernel
theorem dX5_in_11 : decode cX5_in 11 = .ok (.goto 4, 3) := by decide +kernel
theorem dX5_in_14 : decode cX5_in 14 = .ok (.iconst 0, 1) := by decide +kernel
theorem dX5_in_15 : decode cX5_in 15 = .ok (.ireturn, 1) := by decide +kernel
set_option maxRecDepth 20000 in
theorem ggX5_isVisitor_X5_in : GoodIn wsX5_isVisitor wsX5_in := goodIn_r _ [4] (by decide +kernel) (by decide +kernel)
set_option maxRecDepth 20000 in
theorem gX5_isVisitor_X5_in : GoodIn wsX5_isVisitor (va_wsS RX5 47 yX5_in wsX5_in) := goodIn_app (goodIn_of _ (by decide +kernel)) ggX5_isVisitor_X5_in
theorem dX5_isVisitor_0 : decode cX5_isVisitor 0 = .ok (.iload_n 0, 1) := by decide +kernel
theorem dX5_isVisitor_1 : decode cX5_isVisitor 1 = .ok (.iconst 0, 1) := by decide +kernel
theorem dX5_isVisitor_2 : decode cX5_isVisitor 2 = .ok (.iconst 5, 1) := by decide +kernel
theorem dX5_isVisitor_3 : decode cX5_isVisitor 3 = .ok (.invokestatic 47, 3) := by decide +kernel
theorem dX5_isVisitor_6 : decode cX5_isVisitor 6 = .ok (.ireturn, 1) := by decide +kernel
theorem dX5_clearLock_0 : decode cX5_clearLock 0 = .ok (.iconst 0, 1) := by decide +kernel
theorem dX5_clearLock_1 : decode cX5_clearLock 1 = .ok (.istore_n 2, 1) := by decide +kernel
theorem dX5_clearLock_2 : decode cX5_clearLock 2 = .ok (.iload_n 2, 1) := by decide +kernel
theorem dX5_clearLock_3 : decode cX5_clearLock 3 = .ok (.bipush 53, 2) := by decide +kernel
theorem dX5_clearLock_5 : decode cX5_clearLock 5 = .ok (.if_icmp .ge 16, 3) := by decide +kernel
theorem dX5_clearLock_8 : decode cX5_clearLock 8 = .ok (.aload_n 0, 1) := by decide +kernel
theorem dX5_clearLock_9 : decode cX5_clearLock 9 = .ok (.getfield 7, 3) := by decide +kernel
theorem dX5_clearLock_12 : decode cX5_clearLock 12 = .ok (.iload_n 2, 1) := by decide +kernel
theorem dX5_clearLock_13 : decode cX5_clearLock 13 = .ok (.iconst 0, 1) := by decide +kernel
theorem dX5_clearLock_14 : decode cX5_clearLock 14 = .ok (.iastore, 1) := by decide +kernel
theorem dX5_clearLock_15 : decode cX5_clearLock 15 = .ok (.iinc 2 1, 3) := by decide +kernel
theorem dX5_clearLock_18 : decode cX5_clearLock 18 = .ok (.goto (-16), 3) := by decide +kernel
theorem dX5_clearLock_21 : decode cX5_clearLock 21 = .ok (.iconst 0, 1) := by decide +kernel
theorem dX5_clearLock_22 : decode cX5_clearLock 22 = .ok (.istore_n 2, 1) := by decide +kernel
theorem dX5_clearLock_23 : decode cX5_clearLock 23 = .ok (.iload_n 2, 1) := by decide +kernel
theorem dX5_clearLock_24 : decode cX5_clearLock 24 = .ok (.bipush 6, 2) := by decide +kernel
theorem dX5_clearLock_26 : decode cX5_clearLock 26 = .ok (.if_icmp .ge 59, 3) := by decide +kernel
theorem dX5_clearLock_29 : decode cX5_clearLock 29 = .ok (.aload_n 0, 1) := by decide +kernel
theorem dX5_clearLock_30 : decode cX5_clearLock 30 = .ok (.getfield 7, 3) := by decide +kernel
theorem dX5_clearLock_33 : decode cX5_clearLock 33 = .ok (.bipush 6, 2) := by decide +kernel
theorem dX5_clearLock_35 : decode cX5_clearLock 35 = .ok (.iload_n 2, 1) := by decide +kernel
theorem dX5_clearLock_36 : decode cX5_clearLock 36 = .ok (.iadd, 1) := by decide +kernel
theorem dX5_clearLock_37 : decode cX5_clearLock 37 = .ok (.iconst (-1), 1) := by decide +kernel
theorem dX5_clearLock_38 : decode cX5_clearLock 38 = .ok (.iastore, 1) := by decide +kernel
theorem dX5_clearLock_39 : decode cX5_clearLock 39 = .ok (.aload_n 0, 1) := by decide +kernel
theorem dX5_clearLock_40 : decode cX5_clearLock 40 = .ok (.getfield 7, 3) := by decide +kernel
theorem dX5_clearLock_43 : decode cX5_clearLock 43 = .ok (.bipush 18, 2) := by decide +kernel
theorem dX5_clearLock_45 : decode cX5_clearLock 45 = .ok (.iload_n 2, 1) := by decide +kernel
theorem dX5_clearLock_46 : decode cX5_clearLock 46 = .ok (.iadd, 1) := by decide +kernel
theorem dX5_clearLock_47 : decode cX5_clearLock 47 = .ok (.iconst (-1), 1) := by decide +kernel
theorem dX5_clearLock_48 : decode cX5_clearLock 48 = .ok (.iastore, 1) := by decide +kernel
theorem dX5_clearLock_49 : decode cX5_clearLock 49 = .ok (.aload_n 0, 1) := by decide +kernel
theorem dX5_clearLock_50 : decode cX5_clearLock 50 = .ok (.getfield 7, 3) := by decide +kernel
theorem dX5_clearLock_53 : decode cX5_clearLock 53 = .ok (.bipush 24, 2) := by decide +kernel
theorem dX5_clearLock_55 : decode cX5_clearLock 55 = .ok (.iload_n 2, 1) := by decide +kernel
theorem dX5_clearLock_56 : decode cX5_clearLock 56 = .ok (.iadd, 1) := by decide +kernel
theorem dX5_clearLock_57 : decode cX5_clearLock 57 = .ok (.iload_n 2, 1) := by decide +kernel
theorem dX5_clearLock_58 : decode cX5_clearLock 58 = .ok (.iastore, 1) := by decide +kernel
theorem dX5_clearLock_59 : decode cX5_clearLock 59 = .ok (.aload_n 0, 1) := by decide +kernel
theorem dX5_clearLock_60 : decode cX5_clearLock 60 = .ok (.getfield 7, 3) := by decide +kernel
theorem dX5_clearLock_63 : decode cX5_clearLock 63 = .ok (.bipush 30, 2) := by decide +kernel
theorem dX5_clearLock_65 : decode cX5_clearLock 65 = .ok (.iload_n 2, 1) := by decide +kernel
theorem dX5_clearLock_66 : decode cX5_clearLock 66 = .ok (.iadd, 1) := by decide +kernel
theorem dX5_clearLock_67 : decode cX5_clearLock 67 = .ok (.iconst (-1), 1) := by decide +kernel
theorem dX5_clearLock_68 : decode cX5_clearLock 68 = .ok (.iastore, 1) := by decide +kernel
theorem dX5_clearLock_69 : decode cX5_clearLock 69 = .ok (.aload_n 0, 1) := by decide +kernel
theorem dX5_clearLock_70 : decode cX5_clearLock 70 = .ok (.getfield 7, 3) := by decide +kernel
theorem dX5_clearLock_73 : decode cX5_clearLock 73 = .ok (.bipush 36, 2) := by decide +kernel
theorem dX5_clearLock_75 : decode cX5_clearLock 75 = .ok (.iload_n 2, 1) := by decide +kernel
theorem dX5_clearLock_76 : decode cX5_clearLock 76 = .ok (.iadd, 1) := by decide +kernel
theorem dX5_clearLock_77 : decode cX5_clearLock 77 = .ok (.iconst (-1), 1) := by decide +kernel
theorem dX5_clearLock_78 : decode cX5_clearLock 78 = .ok (.iastore, 1) := by decide +kernel
theorem dX5_clearLock_79 : decode cX5_clearLock 79 = .ok (.iinc 2 1, 3) := by decide +kernel
theorem dX5_clearLock_82 : decode cX5_clearLock 82 = .ok (.goto (-59), 3) := by decide +kernel
theorem dX5_clearLock_85 : decode cX5_clearLock 85 = .ok (.aload_n 0, 1) := by decide +kernel
theorem dX5_clearLock_86 : decode cX5_clearLock 86 = .ok (.getfield 7, 3) := by decide +kernel
theorem dX5_clearLock_89 : decode cX5_clearLock 89 = .ok (.bipush 49, 2) := by decide +kernel
theorem dX5_clearLock_91 : decode cX5_clearLock 91 = .ok (.iload_n 1, 1) := by decide +kernel
theorem dX5_clearLock_92 : decode cX5_clearLock 92 = .ok (.ifCond .ne 7, 3) := by decide +kernel
theorem dX5_clearLock_95 : decode cX5_clearLock 95 = .ok (.iconst (-1), 1) := by decide +kernel
theorem dX5_clearLock_96 : decode cX5_clearLock 96 = .ok (.goto 5, 3) := by decide +kernel
theorem dX5_clearLock_99 : decode cX5_clearLock 99 = .ok (.bipush 6, 2) := by decide +kernel
theorem dX5_clearLock_101 : decode cX5_clearLock 101 = .ok (.iastore, 1) := by decide +kernel
theorem dX5_clearLock_102 : decode cX5_clearLock 102 = .ok (.aload_n 0, 1) := by decide +kernel
theorem dX5_clearLock_103 : decode cX5_clearLock 103 = .ok (.getfield 7, 3) := by decide +kernel
theorem dX5_clearLock_106 : decode cX5_clearLock 106 = .ok (.bipush 60, 2) := by decide +kernel
theorem dX5_clearLock_108 : decode cX5_clearLock 108 = .ok (.iload_n 1, 1) := by decide +kernel
theorem dX5_clearLock_109 : decode cX5_clearLock 109 = .ok (.iastore, 1) := by decide +kernel
theorem dX5_clearLock_110 : decode cX5_clearLock 110 = .ok (.return_, 1) := by decide +kernel
theorem dX5_copyRow_0 : decode cX5_copyRow 0 = .ok (.iconst 0, 1) := by decide +kernel
theorem dX5_copyRow_1 : decode cX5_copyRow 1 = .ok (.istore 5, 2) := by decide +kernel
theorem dX5_copyRow_3 : decode cX5_copyRow 3 = .ok (.iload 5, 2) := by decide +kernel
theorem dX5_copyRow_5 : decode cX5_copyRow 5 = .ok (.iload 4, 2) := by decide +kernel
theorem dX5_copyRow_7 : decode cX5_copyRow 7 = .ok (.if_icmp .ge 21, 3) := by decide +kernel
theorem dX5_copyRow_10 : decode cX5_copyRow 10 = .ok (.aload_n 2, 1) := by decide +kernel
theorem dX5_copyRow_11 : decode cX5_copyRow 11 = .ok (.iload_n 3, 1) := by decide +kernel
theorem dX5_copyRow_12 : decode cX5_copyRow 12 = .ok (.iload 5, 2) := by decide +kernel
theorem dX5_copyRow_14 : decode cX5_copyRow 14 = .ok (.iadd, 1) := by decide +kernel
theorem dX5_copyRow_15 : decode cX5_copyRow 15 = .ok (.aload_n 0, 1) := by decide +kernel
theorem dX5_copyRow_16 : decode cX5_copyRow 16 = .ok (.iload_n 1, 1) := by decide +kernel
theorem dX5_copyRow_17 : decode cX5_copyRow 17 = .ok (.iload 5, 2) := by decide +kernel
theorem dX5_copyRow_19 : decode cX5_copyRow 19 = .ok (.iadd, 1) := by decide +kernel
theorem dX5_copyRow_20 : decode cX5_copyRow 20 = .ok (.iaload, 1) := by decide +kernel
theorem dX5_copyRow_21 : decode cX5_copyRow 21 = .ok (.iastore, 1) := by decide +kernel
theorem dX5_copyRow_22 : decode cX5_copyRow 22 = .ok (.iinc 5 1, 3) := by decide +kernel
theorem dX5_copyRow_25 : decode cX5_copyRow 25 = .ok (.goto (-22), 3) := by decide +kernel
theorem dX5_copyRow_28 : decode cX5_copyRow 28 = .ok (.return_, 1) := by decide +kernel
set_option maxRecDepth 20000 in
theorem ggX5_record_X5_copyRow : GoodIn wsX5_record wsX5_copyRow := goodIn_r _ [7] (by decide +kernel) (by decide +kernel)
set_option maxRecDepth 20000 in
theorem gX5_record_X5_copyRow : GoodIn wsX5_record (va_wsS RX5 55 yX5_copyRow wsX5_copyRow) := goodIn_app (goodIn_of _ (by decide +kernel)) ggX5_record_X5_copyRow
theorem dX5_record_0 : decode cX5_record 0 = .ok (.aload_n 0, 1) := by decide +kernel
theorem dX5_record_1 : decode cX5_record 1 = .ok (.getfield 51, 3) := by decide +kernel
theorem dX5_record_4 : decode cX5_record 4 = .ok (.iconst 4, 1) := by decide +kernel
theorem dX5_record_5 : decode cX5_record 5 = .ok (.if_icmp .ne 43, 3) := by decide +kernel
theorem dX5_record_8 : decode cX5_record 8 = .ok (.iconst 0, 1) := by decide +kernel
theorem dX5_record_9 : decode cX5_record 9 = .ok (.istore_n 1, 1) := by decide +kernel
theorem dX5_record_10 : decode cX5_record 10 = .ok (.iload_n 1, 1) := by decide +kernel
theorem dX5_record_11 : decode cX5_record 11 = .ok (.sipush 258, 3) := by decide +kernel
theorem dX5_record_14 : decode cX5_record 14 = .ok (.if_icmp .ge 24, 3) := by decide +kernel
theorem dX5_record_17 : decode cX5_record 17 = .ok (.aload_n 0, 1) := by decide +kernel
theorem dX5_record_18 : decode cX5_record 18 = .ok (.getfield 16, 3) := by decide +kernel
theorem dX5_record_21 : decode cX5_record 21 = .ok (.iload_n 1, 1) := by decide +kernel
theorem dX5_record_22 : decode cX5_record 22 = .ok (.aload_n 0, 1) := by decide +kernel
theorem dX5_record_23 : decode cX5_record 23 = .ok (.getfield 16, 3) := by decide +kernel
theorem dX5_record_26 : decode cX5_record 26 = .ok (.iload_n 1, 1) := by decide +kernel
theorem dX5_record_27 : decode cX5_record 27 = .ok (.bipush 86, 2) := by decide +kernel
theorem dX5_record_29 : decode cX5_record 29 = .ok (.iadd, 1) := by decide +kernel
theorem dX5_record_30 : decode cX5_record 30 = .ok (.iaload, 1) := by decide +kernel
theorem dX5_record_31 : decode cX5_record 31 = .ok (.iastore, 1) := by decide +kernel
theorem dX5_record_32 : decode cX5_record 32 = .ok (.iinc 1 1, 3) := by decide +kernel
theorem dX5_record_35 : decode cX5_record 35 = .ok (.goto (-25), 3) := by decide +kernel
theorem dX5_record_38 : decode cX5_record 38 = .ok (.aload_n 0, 1) := by decide +kernel
theorem dX5_record_39 : decode cX5_record 39 = .ok (.dup, 1) := by decide +kernel
theorem dX5_record_40 : decode cX5_record 40 = .ok (.getfield 51, 3) := by decide +kernel
theorem dX5_record_43 : decode cX5_record 43 = .ok (.iconst 1, 1) := by decide +kernel
theorem dX5_record_44 : decode cX5_record 44 = .ok (.isub, 1) := by decide +kernel
theorem dX5_record_45 : decode cX5_record 45 = .ok (.putfield 51, 3) := by decide +kernel
theorem dX5_record_48 : decode cX5_record 48 = .ok (.aload_n 0, 1) := by decide +kernel
theorem dX5_record_49 : decode cX5_record 49 = .ok (.getfield 7, 3) := by decide +kernel
theorem dX5_record_52 : decode cX5_record 52 = .ok (.iconst 0, 1) := by decide +kernel
theorem dX5_record_53 : decode cX5_record 53 = .ok (.aload_n 0, 1) := by decide +kernel
theorem dX5_record_54 : decode cX5_record 54 = .ok (.getfield 16, 3) := by decide +kernel
theorem dX5_record_57 : decode cX5_record 57 = .ok (.bipush 86, 2) := by decide +kernel
theorem dX5_record_59 : decode cX5_record 59 = .ok (.aload_n 0, 1) := by decide +kernel
theorem dX5_record_60 : decode cX5_record 60 = .ok (.getfield 51, 3) := by decide +kernel
theorem dX5_record_63 : decode cX5_record 63 = .ok (.imul, 1) := by decide +kernel
theorem dX5_record_64 : decode cX5_record 64 = .ok (.bipush 86, 2) := by decide +kernel
theorem dX5_record_66 : decode cX5_record 66 = .ok (.invokestatic 55, 3) := by decide +kernel
theorem dX5_record_69 : decode cX5_record 69 = .ok (.aload_n 0, 1) := by decide +kernel
theorem dX5_record_70 : decode cX5_record 70 = .ok (.dup, 1) := by decide +kernel
theorem dX5_record_71 : decode cX5_record 71 = .ok (.getfield 51, 3) := by decide +kernel
theorem dX5_record_74 : decode cX5_record 74 = .ok (.iconst 1, 1) := by decide +kernel
theorem dX5_record_75 : decode cX5_record 75 = .ok (.iadd, 1) := by decide +kernel
theorem dX5_record_76 : decode cX5_record 76 = .ok (.putfield 51, 3) := by decide +kernel
theorem dX5_record_79 : decode cX5_record 79 = .ok (.return_, 1) := by decide +kernel
theorem dX5_notAway_0 : decode cX5_notAway 0 = .ok (.iconst 0, 1) := by decide +kernel
theorem dX5_notAway_1 : decode cX5_notAway 1 = .ok (.istore_n 1, 1) := by decide +kernel
theorem dX5_notAway_2 : decode cX5_notAway 2 = .ok (.iconst 0, 1) := by decide +kernel
theorem dX5_notAway_3 : decode cX5_notAway 3 = .ok (.istore_n 2, 1) := by decide +kernel
theorem dX5_notAway_4 : decode cX5_notAway 4 = .ok (.iload_n 2, 1) := by decide +kernel
theorem dX5_notAway_5 : decode cX5_notAway 5 = .ok (.bipush 6, 2) := by decide +kernel
theorem dX5_notAway_7 : decode cX5_notAway 7 = .ok (.if_icmp .ge 28, 3) := by decide +kernel
theorem dX5_notAway_10 : decode cX5_notAway 10 = .ok (.iload_n 1, 1) := by decide +kernel
theorem dX5_notAway_11 : decode cX5_notAway 11 = .ok (.aload_n 0, 1) := by decide +kernel
theorem dX5_notAway_12 : decode cX5_notAway 12 = .ok (.getfield 7, 3) := by decide +kernel
theorem dX5_notAway_15 : decode cX5_notAway 15 = .ok (.iconst 0, 1) := by decide +kernel
theorem dX5_notAway_16 : decode cX5_notAway 16 = .ok (.iload_n 2, 1) := by decide +kernel
theorem dX5_notAway_17 : decode cX5_notAway 17 = .ok (.iadd, 1) := by decide +kernel
theorem dX5_notAway_18 : decode cX5_notAway 18 = .ok (.iaload, 1) := by decide +kernel
theorem dX5_notAway_19 : decode cX5_notAway 19 = .ok (.ifCond .ne 7, 3) := by decide +kernel
theorem dX5_notAway_22 : decode cX5_notAway 22 = .ok (.iconst 0, 1) := by decide +kernel
theorem dX5_notAway_23 : decode cX5_notAway 23 = .ok (.goto 4, 3) := by decide +kernel
theorem dX5_notAway_26 : decode cX5_notAway 26 = .ok (.iconst 1, 1) := by decide +kernel
theorem dX5_notAway_27 : decode cX5_notAway 27 = .ok (.iadd, 1) := by decide +kernel
theorem dX5_notAway_28 : decode cX5_notAway 28 = .ok (.istore_n 1, 1) := by decide +kernel
theorem dX5_notAway_29 : decode cX5_notAway 29 = .ok (.iinc 2 1, 3) := by decide +kernel
theorem dX5_notAway_32 : decode cX5_notAway 32 = .ok (.goto (-28), 3) := by decide +kernel
theorem dX5_notAway_35 : decode cX5_notAway 35 = .ok (.iload_n 1, 1) := by decide +kernel
theorem dX5_notAway_36 : decode cX5_notAway 36 = .ok (.ireturn, 1) := by decide +kernel
set_option maxRecDepth 20000 in
theorem ggX5_undo_X5_copyRow : GoodIn wsX5_undo wsX5_copyRow := goodIn_r _ [7] (by decide +kernel) (by decide +kernel)
set_option maxRecDepth 20000 in
theorem gX5_undo_X5_copyRow : GoodIn wsX5_undo (va_wsS RX5 55 yX5_copyRow wsX5_copyRow) := goodIn_app (goodIn_of _ (by decide +kernel)) ggX5_undo_X5_copyRow
theorem dX5_undo_0 : decode cX5_undo 0 = .ok (.aload_n 0, 1) := by decide +kernel
theorem dX5_undo_1 : decode cX5_undo 1 = .ok (.getfield 51, 3) := by decide +kernel
theorem dX5_undo_4 : decode cX5_undo 4 = .ok (.ifCond .ne 6, 3) := by decide +kernel
theorem dX5_undo_7 : decode cX5_undo 7 = .ok (.bipush (-5), 2) := by decide +kernel
theorem dX5_undo_9 : decode cX5_undo 9 = .ok (.ireturn, 1) := by decide +kernel
theorem dX5_undo_10 : decode cX5_undo 10 = .ok (.aload_n 0, 1) := by decide +kernel
theorem dX5_undo_11 : decode cX5_undo 11 = .ok (.dup, 1) := by decide +kernel
theorem dX5_undo_12 : decode cX5_undo 12 = .ok (.getfield 51, 3) := by decide +kernel
theorem dX5_undo_15 : decode cX5_undo 15 = .ok (.iconst 1, 1) := by decide +kernel
theorem dX5_undo_16 : decode cX5_undo 16 = .ok (.isub, 1) := by decide +kernel
theorem dX5_undo_17 : decode cX5_undo 17 = .ok (.putfield 51, 3) := by decide +kernel
theorem dX5_undo_20 : decode cX5_undo 20 = .ok (.aload_n 0, 1) := by decide +kernel
theorem dX5_undo_21 : decode cX5_undo 21 = .ok (.getfield 16, 3) := by decide +kernel
theorem dX5_undo_24 : decode cX5_undo 24 = .ok (.bipush 86, 2) := by decide +kernel
theorem dX5_undo_26 : decode cX5_undo 26 = .ok (.aload_n 0, 1) := by decide +kernel
theorem dX5_undo_27 : decode cX5_undo 27 = .ok (.getfield 51, 3) := by decide +kernel
theorem dX5_undo_30 : decode cX5_undo 30 = .ok (.imul, 1) := by decide +kernel
theorem dX5_undo_31 : decode cX5_undo 31 = .ok (.aload_n 0, 1) := by decide +kernel
theorem dX5_undo_32 : decode cX5_undo 32 = .ok (.getfield 7, 3) := by decide +kernel
theorem dX5_undo_35 : decode cX5_undo 35 = .ok (.iconst 0, 1) := by decide +kernel
theorem dX5_undo_36 : decode cX5_undo 36 = .ok (.bipush 86, 2) := by decide +kernel
theorem dX5_undo_38 : decode cX5_undo 38 = .ok (.invokestatic 55, 3) := by decide +kernel
theorem dX5_undo_41 : decode cX5_undo 41 = .ok (.aload_n 0, 1) := by decide +kernel
theorem dX5_undo_42 : decode cX5_undo 42 = .ok (.getfield 51, 3) := by decide +kernel
theorem dX5_undo_45 : decode cX5_undo 45 = .ok (.ireturn, 1) := by decide +kernel
set_option maxRecDepth 20000 in
theorem ggX5_keep_X5_copyRow : GoodIn wsX5_keep wsX5_copyRow := goodIn_r _ [7] (by decide +kernel) (by decide +kernel)
set_option maxRecDepth 20000 in
theorem gX5_keep_X5_copyRow : GoodIn wsX5_keep (va_wsS RX5 55 yX5_copyRow wsX5_copyRow) := goodIn_app (goodIn_of _ (by decide +kernel)) ggX5_keep_X5_copyRow
set_option maxRecDepth 20000 in
theorem ggX5_keep_X5_notAway : GoodIn wsX5_keep wsX5_notAway := goodIn_r _ [11, 1, 12, 13, 14, 15, 16, 17, 18, 19, 20, 21, 22, 23, 24, 25, 26, 27, 28, 29] (by decide +kernel) (by decide +kernel)
set_option maxRecDepth 20000 in
theorem gX5_keep_X5_notAway : GoodIn wsX5_keep (wsV RX5 63 RX5 yX5_notAway wsX5_notAway) := goodIn_app (goodIn_of _ (by decide +kernel)) ggX5_keep_X5_notAway
theorem dX5_keep_0 : decode cX5_keep 0 = .ok (.aload_n 0, 1) := by decide +kernel
theorem dX5_keep_1 : decode cX5_keep 1 = .ok (.getfield 7, 3) := by decide +kernel
theorem dX5_keep_4 : decode cX5_keep 4 = .ok (.iconst 0, 1) := by decide +kernel
theorem dX5_keep_5 : decode cX5_keep 5 = .ok (.aload_n 0, 1) := by decide +kernel
theorem dX5_keep_6 : decode cX5_keep 6 = .ok (.getfield 19, 3) := by decide +kernel
theorem dX5_keep_9 : decode cX5_keep 9 = .ok (.iconst 0, 1) := by decide +kernel
theorem dX5_keep_10 : decode cX5_keep 10 = .ok (.bipush 86, 2) := by decide +kernel
theorem dX5_keep_12 : decode cX5_keep 12 = .ok (.invokestatic 55, 3) := by decide +kernel
theorem dX5_keep_15 : decode cX5_keep 15 = .ok (.aload_n 0, 1) := by decide +kernel
theorem dX5_keep_16 : decode cX5_keep 16 = .ok (.iconst 1, 1) := by decide +kernel
theorem dX5_keep_17 : decode cX5_keep 17 = .ok (.putfield 59, 3) := by decide +kernel
theorem dX5_keep_20 : decode cX5_keep 20 = .ok (.aload_n 0, 1) := by decide +kernel
theorem dX5_keep_21 : decode cX5_keep 21 = .ok (.invokevirtual 63, 3) := by decide +kernel
theorem dX5_keep_24 : decode cX5_keep 24 = .ok (.ireturn, 1) := by decide +kernel
set_option maxRecDepth 20000 in
theorem ggX5_restore_X5_record : GoodIn wsX5_restore wsX5_record := goodIn_r _ [8, 9, 10, 3, 11, 12, 7, 13, 18, 19, 20, 21, 22, 23, 24, 25, 26, 27, 28, 29, 30, 31, 32, 33, 34, 35] (by decide +kernel) (by decide +kernel)
set_option maxRecDepth 20000 in
theorem gX5_restore_X5_record : GoodIn wsX5_restore (wsV RX5 67 RX5 yX5_record wsX5_record) := goodIn_app (goodIn_of _ (by decide +kernel)) ggX5_restore_X5_record
set_option maxRecDepth 20000 in
theorem ggX5_restore_X5_copyRow : GoodIn wsX5_restore wsX5_copyRow := goodIn_r _ [13] (by decide +kernel) (by decide +kernel)
set_option maxRecDepth 20000 in
theorem gX5_restore_X5_copyRow : GoodIn wsX5_restore (va_wsS RX5 55 yX5_copyRow wsX5_copyRow) := goodIn_app (goodIn_of _ (by decide +kernel)) ggX5_restore_X5_copyRow
set_option maxRecDepth 20000 in
theorem ggX5_restore_X5_notAway : GoodIn wsX5_restore wsX5_notAway := goodIn_r _ [17, 3, 18, 19, 20, 21, 22, 23, 24, 25, 26, 27, 28, 29, 30, 31, 32, 33, 34, 35] (by decide +kernel) (by decide +kernel)
set_option maxRecDepth 20000 in
theorem gX5_restore_X5_notAway : GoodIn wsX5_restore (wsV RX5 63 RX5 yX5_notAway wsX5_notAway) := goodIn_app (goodIn_of _ (by decide +kernel)) ggX5_restore_X5_notAway
theorem dX5_restore_0 : decode cX5_restore 0 = .ok (.aload_n 0, 1) := by decide +kernel
theorem dX5_restore_1 : decode cX5_restore 1 = .ok (.getfield 59, 3) := by decide +kernel
theorem dX5_restore_4 : decode cX5_restore 4 = .ok (.ifCond .ne 6, 3) := by decide +kernel
theorem dX5_restore_7 : decode cX5_restore 7 = .ok (.bipush (-5), 2) := by decide +kernel
theorem dX5_restore_9 : decode cX5_restore 9 = .ok (.ireturn, 1) := by decide +kernel
theorem dX5_restore_10 : decode cX5_restore 10 = .ok (.aload_n 0, 1) := by decide +kernel
theorem dX5_restore_11 : decode cX5_restore 11 = .ok (.invokevirtual 67, 3) := by decide +kernel
theorem dX5_restore_14 : decode cX5_restore 14 = .ok (.aload_n 0, 1) := by decide +kernel
theorem dX5_restore_15 : decode cX5_restore 15 = .ok (.getfield 19, 3) := by decide +kernel
theorem dX5_restore_18 : decode cX5_restore 18 = .ok (.iconst 0, 1) := by decide +kernel
theorem dX5_restore_19 : decode cX5_restore 19 = .ok (.aload_n 0, 1) := by decide +kernel
theorem dX5_restore_20 : decode cX5_restore 20 = .ok (.getfield 7, 3) := by decide +kernel
theorem dX5_restore_23 : decode cX5_restore 23 = .ok (.iconst 0, 1) := by decide +kernel
theorem dX5_restore_24 : decode cX5_restore 24 = .ok (.bipush 86, 2) := by decide +kernel
theorem dX5_restore_26 : decode cX5_restore 26 = .ok (.invokestatic 55, 3) := by decide +kernel
theorem dX5_restore_29 : decode cX5_restore 29 = .ok (.aload_n 0, 1) := by decide +kernel
theorem dX5_restore_30 : decode cX5_restore 30 = .ok (.invokevirtual 63, 3) := by decide +kernel
theorem dX5_restore_33 : decode cX5_restore 33 = .ok (.ireturn, 1) := by decide +kernel
theorem dX5_isLook_0 : decode cX5_isLook 0 = .ok (.aload_n 0, 1) := by decide +kernel
theorem dX5_isLook_1 : decode cX5_isLook 1 = .ok (.getfield 7, 3) := by decide +kernel
theorem dX5_isLook_4 : decode cX5_isLook 4 = .ok (.iconst 0, 1) := by decide +kernel
theorem dX5_isLook_5 : decode cX5_isLook 5 = .ok (.iload_n 1, 1) := by decide +kernel
theorem dX5_isLook_6 : decode cX5_isLook 6 = .ok (.iadd, 1) := by decide +kernel
theorem dX5_isLook_7 : decode cX5_isLook 7 = .ok (.iaload, 1) := by decide +kernel
theorem dX5_isLook_8 : decode cX5_isLook 8 = .ok (.istore_n 2, 1) := by decide +kernel
theorem dX5_isLook_9 : decode cX5_isLook 9 = .ok (.aload_n 0, 1) := by decide +kernel
theorem dX5_isLook_10 : decode cX5_isLook 10 = .ok (.getfield 7, 3) := by decide +kernel
theorem dX5_isLook_13 : decode cX5_isLook 13 = .ok (.bipush 60, 2) := by decide +kernel
theorem dX5_isLook_15 : decode cX5_isLook 15 = .ok (.iaload, 1) := by decide +kernel
theorem dX5_isLook_16 : decode cX5_isLook 16 = .ok (.ifCond .ne 46, 3) := by decide +kernel
theorem dX5_isLook_19 : decode cX5_isLook 19 = .ok (.iload_n 2, 1) := by decide +kernel
theorem dX5_isLook_20 : decode cX5_isLook 20 = .ok (.iconst 3, 1) := by decide +kernel
theorem dX5_isLook_21 : decode cX5_isLook 21 = .ok (.if_icmp .ne 16, 3) := by decide +kernel
theorem dX5_isLook_24 : decode cX5_isLook 24 = .ok (.aload_n 0, 1) := by decide +kernel
theorem dX5_isLook_25 : decode cX5_isLook 25 = .ok (.getfield 7, 3) := by decide +kernel
theorem dX5_isLook_28 : decode cX5_isLook 28 = .ok (.bipush 12, 2) := by decide +kernel
theorem dX5_isLook_30 : decode cX5_isLook 30 = .ok (.iload_n 1, 1) := by decide +kernel
theorem dX5_isLook_31 : decode cX5_isLook 31 = .ok (.iadd, 1) := by decide +kernel
theorem dX5_isLook_32 : decode cX5_isLook 32 = .ok (.iaload, 1) := by decide +kernel
theorem dX5_isLook_33 : decode cX5_isLook 33 = .ok (.iconst 1, 1) := by decide +kernel
theorem dX5_isLook_34 : decode cX5_isLook 34 = .ok (.if_icmp .eq 22, 3) := by decide +kernel
theorem dX5_isLook_37 : decode cX5_isLook 37 = .ok (.iload_n 2, 1) := by decide +kernel
theorem dX5_isLook_38 : decode cX5_isLook 38 = .ok (.bipush 6, 2) := by decide +kernel
theorem dX5_isLook_40 : decode cX5_isLook 40 = .ok (.if_icmp .ne 20, 3) := by decide +kernel
theorem dX5_isLook_43 : decode cX5_isLook 43 = .ok (.aload_n 0, 1) := by decide +kernel
theorem dX5_isLook_44 : decode cX5_isLook 44 = .ok (.getfield 7, 3) := by decide +kernel
theorem dX5_isLook_47 : decode cX5_isLook 47 = .ok (.bipush 6, 2) := by decide +kernel
theorem dX5_isLook_49 : decode cX5_isLook 49 = .ok (.iload_n 1, 1) := by decide +kernel
theorem dX5_isLook_50 : decode cX5_isLook 50 = .ok (.iadd, 1) := by decide +kernel
theorem dX5_isLook_51 : decode cX5_isLook 51 = .ok (.iaload, 1) := by decide +kernel
theorem dX5_isLook_52 : decode cX5_isLook 52 = .ok (.iconst (-1), 1) := by decide +kernel
theorem dX5_isLook_53 : decode cX5_isLook 53 = .ok (.if_icmp .ne 7, 3) := by decide +kernel
theorem dX5_isLook_56 : decode cX5_isLook 56 = .ok (.iconst 1, 1) := by decide +kernel
theorem dX5_isLook_57 : decode cX5_isLook 57 = .ok (.goto 4, 3) := by decide +kernel
theorem dX5_isLook_60 : decode cX5_isLook 60 = .ok (.iconst 0, 1) := by decide +kernel
theorem dX5_isLook_61 : decode cX5_isLook 61 = .ok (.ireturn, 1) := by decide +kernel
theorem dX5_isLook_62 : decode cX5_isLook 62 = .ok (.iload_n 2, 1) := by decide +kernel
theorem dX5_isLook_63 : decode cX5_isLook 63 = .ok (.iconst 3, 1) := by decide +kernel
theorem dX5_isLook_64 : decode cX5_isLook 64 = .ok (.if_icmp .eq 5, 3) := by decide +kernel
theorem dX5_isLook_67 : decode cX5_isLook 67 = .ok (.iconst 0, 1) := by decide +kernel
theorem dX5_isLook_68 : decode cX5_isLook 68 = .ok (.ireturn, 1) := by decide +kernel
theorem dX5_isLook_69 : decode cX5_isLook 69 = .ok (.aload_n 0, 1) := by decide +kernel
theorem dX5_isLook_70 : decode cX5_isLook 70 = .ok (.getfield 7, 3) := by decide +kernel
theorem dX5_isLook_73 : decode cX5_isLook 73 = .ok (.bipush 60, 2) := by decide +kernel
theorem dX5_isLook_75 : decode cX5_isLook 75 = .ok (.iaload, 1) := by decide +kernel
theorem dX5_isLook_76 : decode cX5_isLook 76 = .ok (.iconst 1, 1) := by decide +kernel
theorem dX5_isLook_77 : decode cX5_isLook 77 = .ok (.if_icmp .ne 32, 3) := by decide +kernel
theorem dX5_isLook_80 : decode cX5_isLook 80 = .ok (.aload_n 0, 1) := by decide +kernel
theorem dX5_isLook_81 : decode cX5_isLook 81 = .ok (.getfield 7, 3) := by decide +kernel
theorem dX5_isLook_84 : decode cX5_isLook 84 = .ok (.bipush 42, 2) := by decide +kernel
theorem dX5_isLook_86 : decode cX5_isLook 86 = .ok (.aload_n 0, 1) := by decide +kernel
theorem dX5_isLook_87 : decode cX5_isLook 87 = .ok (.getfield 7, 3) := by decide +kernel
theorem dX5_isLook_90 : decode cX5_isLook 90 = .ok (.bipush 30, 2) := by decide +kernel
theorem dX5_isLook_92 : decode cX5_isLook 92 = .ok (.iload_n 1, 1) := by decide +kernel
theorem dX5_isLook_93 : decode cX5_isLook 93 = .ok (.iadd, 1) := by decide +kernel
theorem dX5_isLook_94 : decode cX5_isLook 94 = .ok (.iaload, 1) := by decide +kernel
theorem dX5_isLook_95 : decode cX5_isLook 95 = .ok (.iadd, 1) := by decide +kernel
theorem dX5_isLook_96 : decode cX5_isLook 96 = .ok (.iaload, 1) := by decide +kernel
theorem dX5_isLook_97 : decode cX5_isLook 97 = .ok (.iconst 1, 1) := by decide +kernel
theorem dX5_isLook_98 : decode cX5_isLook 98 = .ok (.if_icmp .ne 7, 3) := by decide +kernel
theorem dX5_isLook_101 : decode cX5_isLook 101 = .ok (.iconst 1, 1) := by decide +kernel
theorem dX5_isLook_102 : decode cX5_isLook 102 = .ok (.goto 61, 3) := by decide +kernel
theorem dX5_isLook_105 : decode cX5_isLook 105 = .ok (.iconst 0, 1) := by decide +kernel
theorem dX5_isLook_106 : decode cX5_isLook 106 = .ok (.goto 57, 3) := by decide +kernel
theorem dX5_isLook_109 : decode cX5_isLook 109 = .ok (.aload_n 0, 1) := by decide +kernel
theorem dX5_isLook_110 : decode cX5_isLook 110 = .ok (.getfield 7, 3) := by decide +kernel
theorem dX5_isLook_113 : decode cX5_isLook 113 = .ok (.bipush 60, 2) := by decide +kernel
theorem dX5_isLook_115 : decode cX5_isLook 115 = .ok (.iaload, 1) := by decide +kernel
theorem dX5_isLook_116 : decode cX5_isLook 116 = .ok (.iconst 2, 1) := by decide +kernel
theorem dX5_isLook_117 : decode cX5_isLook 117 = .ok (.if_icmp .ne 30, 3) := by decide +kernel
theorem dX5_isLook_120 : decode cX5_isLook 120 = .ok (.aload_n 0, 1) := by decide +kernel
theorem dX5_isLook_121 : decode cX5_isLook 121 = .ok (.getfield 7, 3) := by decide +kernel
theorem dX5_isLook_124 : decode cX5_isLook 124 = .ok (.bipush 36, 2) := by decide +kernel
theorem dX5_isLook_126 : decode cX5_isLook 126 = .ok (.iload_n 1, 1) := by decide +kernel
theorem dX5_isLook_127 : decode cX5_isLook 127 = .ok (.iadd, 1) := by decide +kernel
theorem dX5_isLook_128 : decode cX5_isLook 128 = .ok (.iaload, 1) := by decide +kernel
theorem dX5_isLook_129 : decode cX5_isLook 129 = .ok (.aload_n 0, 1) := by decide +kernel
theorem dX5_isLook_130 : decode cX5_isLook 130 = .ok (.getfield 7, 3) := by decide +kernel
theorem dX5_isLook_133 : decode cX5_isLook 133 = .ok (.bipush 51, 2) := by decide +kernel
theorem dX5_isLook_135 : decode cX5_isLook 135 = .ok (.iaload, 1) := by decide +kernel
theorem dX5_isLook_136 : decode cX5_isLook 136 = .ok (.if_icmp .eq 7, 3) := by decide +kernel
theorem dX5_isLook_139 : decode cX5_isLook 139 = .ok (.iconst 1, 1) := by decide +kernel
theorem dX5_isLook_140 : decode cX5_isLook 140 = .ok (.goto 23, 3) := by decide +kernel
theorem dX5_isLook_143 : decode cX5_isLook 143 = .ok (.iconst 0, 1) := by decide +kernel
theorem dX5_isLook_144 : decode cX5_isLook 144 = .ok (.goto 19, 3) := by decide +kernel
theorem dX5_isLook_147 : decode cX5_isLook 147 = .ok (.aload_n 0, 1) := by decide +kernel
theorem dX5_isLook_148 : decode cX5_isLook 148 = .ok (.getfield 7, 3) := by decide +kernel
theorem dX5_isLook_151 : decode cX5_isLook 151 = .ok (.bipush 52, 2) := by decide +kernel
theorem dX5_isLook_153 : decode cX5_isLook 153 = .ok (.iaload, 1) := by decide +kernel
theorem dX5_isLook_154 : decode cX5_isLook 154 = .ok (.iconst 1, 1) := by decide +kernel
theorem dX5_isLook_155 : decode cX5_isLook 155 = .ok (.if_icmp .ne 7, 3) := by decide +kernel
theorem dX5_isLook_158 : decode cX5_isLook 158 = .ok (.iconst 1, 1) := by decide +kernel
theorem dX5_isLook_159 : decode cX5_isLook 159 = .ok (.goto 4, 3) := by decide +kernel
theorem dX5_isLook_162 : decode cX5_isLook 162 = .ok (.iconst 0, 1) := by decide +kernel
theorem dX5_isLook_163 : decode cX5_isLook 163 = .ok (.ireturn, 1) := by decide +kernel
theorem dX5_cost_0 : decode cX5_cost 0 = .ok (.iload_n 0, 1) := by decide +kernel
theorem dX5_cost_1 : decode cX5_cost 1 = .ok (.tableswitch 72 0 2 #[27, 54, 70], 27) := by decide +kernel
theorem dX5_cost_28 : decode cX5_cost 28 = .ok (.iload_n 1, 1) := by decide +kernel
theorem dX5_cost_29 : decode cX5_cost 29 = .ok (.iconst 1, 1) := by decide +kernel
theorem dX5_cost_30 : decode cX5_cost 30 = .ok (.if_icmp .eq 19, 3) := by decide +kernel
theorem dX5_cost_33 : decode cX5_cost 33 = .ok (.iload_n 1, 1) := by decide +kernel
theorem dX5_cost_34 : decode cX5_cost 34 = .ok (.iconst 2, 1) := by decide +kernel
theorem dX5_cost_35 : decode cX5_cost 35 = .ok (.if_icmp .eq 14, 3) := by decide +kernel
theorem dX5_cost_38 : decode cX5_cost 38 = .ok (.iload_n 1, 1) := by decide +kernel
theorem dX5_cost_39 : decode cX5_cost 39 = .ok (.iconst 5, 1) := by decide +kernel
theorem dX5_cost_40 : decode cX5_cost 40 = .ok (.if_icmp .eq 9, 3) := by decide +kernel
theorem dX5_cost_43 : decode cX5_cost 43 = .ok (.iload_n 1, 1) := by decide +kernel
theorem dX5_cost_44 : decode cX5_cost 44 = .ok (.bipush 7, 2) := by decide +kernel
theorem dX5_cost_46 : decode cX5_cost 46 = .ok (.if_icmp .ne 7, 3) := by decide +kernel
theorem dX5_cost_49 : decode cX5_cost 49 = .ok (.iconst 1, 1) := by decide +kernel
theorem dX5_cost_50 : decode cX5_cost 50 = .ok (.goto 4, 3) := by decide +kernel
theorem dX5_cost_53 : decode cX5_cost 53 = .ok (.iconst 0, 1) := by decide +kernel
theorem dX5_cost_54 : decode cX5_cost 54 = .ok (.ireturn, 1) := by decide +kernel
theorem dX5_cost_55 : decode cX5_cost 55 = .ok (.iload_n 1, 1) := by decide +kernel
theorem dX5_cost_56 : decode cX5_cost 56 = .ok (.iconst 1, 1) := by decide +kernel
theorem dX5_cost_57 : decode cX5_cost 57 = .ok (.if_icmp .eq 8, 3) := by decide +kernel
theorem dX5_cost_60 : decode cX5_cost 60 = .ok (.iload_n 1, 1) := by decide +kernel
theorem dX5_cost_61 : decode cX5_cost 61 = .ok (.iconst 3, 1) := by decide +kernel
theorem dX5_cost_62 : decode cX5_cost 62 = .ok (.if_icmp .ne 7, 3) := by decide +kernel
theorem dX5_cost_65 : decode cX5_cost 65 = .ok (.iconst 1, 1) := by decide +kernel
theorem dX5_cost_66 : decode cX5_cost 66 = .ok (.goto 4, 3) := by decide +kernel
theorem dX5_cost_69 : decode cX5_cost 69 = .ok (.iconst 0, 1) := by decide +kernel
theorem dX5_cost_70 : decode cX5_cost 70 = .ok (.ireturn, 1) := by decide +kernel
theorem dX5_cost_71 : decode cX5_cost 71 = .ok (.iconst 1, 1) := by decide +kernel
theorem dX5_cost_72 : decode cX5_cost 72 = .ok (.ireturn, 1) := by decide +kernel
theorem dX5_cost_73 : decode cX5_cost 73 = .ok (.iload_n 1, 1) := by decide +kernel
theorem dX5_cost_74 : decode cX5_cost 74 = .ok (.ifCond .ne 7, 3) := by decide +kernel
theorem dX5_cost_77 : decode cX5_cost 77 = .ok (.iconst 0, 1) := by decide +kernel
theorem dX5_cost_78 : decode cX5_cost 78 = .ok (.goto 4, 3) := by decide +kernel
theorem dX5_cost_81 : decode cX5_cost 81 = .ok (.iconst 1, 1) := by decide +kernel
theorem dX5_cost_82 : decode cX5_cost 82 = .ok (.ireturn, 1) := by decide +kernel
theorem dX5_changeNudges_0 : decode cX5_changeNudges 0 = .ok (.aload_n 0, 1) := by decide +kernel
theorem dX5_changeNudges_1 : decode cX5_changeNudges 1 = .ok (.getfield 7, 3) := by decide +kernel
theorem dX5_changeNudges_4 : decode cX5_changeNudges 4 = .ok (.iconst 0, 1) := by decide +kernel
theorem dX5_changeNudges_5 : decode cX5_changeNudges 5 = .ok (.iload_n 1, 1) := by decide +kernel
theorem dX5_changeNudges_6 : decode cX5_changeNudges 6 = .ok (.iadd, 1) := by decide +kernel
theorem dX5_changeNudges_7 : decode cX5_changeNudges 7 = .ok (.iaload, 1) := by decide +kernel
theorem dX5_changeNudges_8 : decode cX5_changeNudges 8 = .ok (.istore_n 2, 1) := by decide +kernel
theorem dX5_changeNudges_9 : decode cX5_changeNudges 9 = .ok (.aload_n 0, 1) := by decide +kernel
theorem dX5_changeNudges_10 : decode cX5_changeNudges 10 = .ok (.getfield 7, 3) := by decide +kernel
theorem dX5_changeNudges_13 : decode cX5_changeNudges 13 = .ok (.bipush 6, 2) := by decide +kernel
theorem dX5_changeNudges_15 : decode cX5_changeNudges 15 = .ok (.iload_n 1, 1) := by decide +kernel
theorem dX5_changeNudges_16 : decode cX5_changeNudges 16 = .ok (.iadd, 1) := by decide +kernel
theorem dX5_changeNudges_17 : decode cX5_changeNudges 17 = .ok (.iaload, 1) := by decide +kernel
theorem dX5_changeNudges_18 : decode cX5_changeNudges 18 = .ok (.istore_n 3, 1) := by decide +kernel
theorem dX5_changeNudges_19 : decode cX5_changeNudges 19 = .ok (.iload_n 2, 1) := by decide +kernel
theorem dX5_changeNudges_20 : decode cX5_changeNudges 20 = .ok (.tableswitch 271 0 6 #[44, 76, 127, 157, 179, 201, 258], 44) := by decide +kernel
theorem dX5_changeNudges_64 : decode cX5_changeNudges 64 = .ok (.aload_n 0, 1) := by decide +kernel
theorem dX5_changeNudges_65 : decode cX5_changeNudges 65 = .ok (.getfield 7, 3) := by decide +kernel
theorem dX5_changeNudges_68 : decode cX5_changeNudges 68 = .ok (.bipush 6, 2) := by decide +kernel
theorem dX5_changeNudges_70 : decode cX5_changeNudges 70 = .ok (.iload_n 1, 1) := by decide +kernel
theorem dX5_changeNudges_71 : decode cX5_changeNudges 71 = .ok (.iadd, 1) := by decide +kernel
theorem dX5_changeNudges_72 : decode cX5_changeNudges 72 = .ok (.iconst (-1), 1) := by decide +kernel
theorem dX5_changeNudges_73 : decode cX5_changeNudges 73 = .ok (.iastore, 1) := by decide +kernel
theorem dX5_changeNudges_74 : decode cX5_changeNudges 74 = .ok (.aload_n 0, 1) := by decide +kernel
theorem dX5_changeNudges_75 : decode cX5_changeNudges 75 = .ok (.getfield 7, 3) := by decide +kernel
theorem dX5_changeNudges_78 : decode cX5_changeNudges 78 = .ok (.bipush 12, 2) := by decide +kernel
theorem dX5_changeNudges_80 : decode cX5_changeNudges 80 = .ok (.iload_n 1, 1) := by decide +kernel
theorem dX5_changeNudges_81 : decode cX5_changeNudges 81 = .ok (.iadd, 1) := by decide +kernel
theorem dX5_changeNudges_82 : decode cX5_changeNudges 82 = .ok (.iconst 1, 1) := by decide +kernel
theorem dX5_changeNudges_83 : decode cX5_changeNudges 83 = .ok (.iastore, 1) := by decide +kernel
theorem dX5_changeNudges_84 : decode cX5_changeNudges 84 = .ok (.aload_n 0, 1) := by decide +kernel
theorem dX5_changeNudges_85 : decode cX5_changeNudges 85 = .ok (.getfield 7, 3) := by decide +kernel
theorem dX5_changeNudges_88 : decode cX5_changeNudges 88 = .ok (.iconst 0, 1) := by decide +kernel
theorem dX5_changeNudges_89 : decode cX5_changeNudges 89 = .ok (.iload_n 1, 1) := by decide +kernel
theorem dX5_changeNudges_90 : decode cX5_changeNudges 90 = .ok (.iadd, 1) := by decide +kernel
theorem dX5_changeNudges_91 : decode cX5_changeNudges 91 = .ok (.iconst 1, 1) := by decide +kernel
theorem dX5_changeNudges_92 : decode cX5_changeNudges 92 = .ok (.iastore, 1) := by decide +kernel
theorem dX5_changeNudges_93 : decode cX5_changeNudges 93 = .ok (.goto 217, 3) := by decide +kernel
theorem dX5_changeNudges_96 : decode cX5_changeNudges 96 = .ok (.aload_n 0, 1) := by decide +kernel
theorem dX5_changeNudges_97 : decode cX5_changeNudges 97 = .ok (.getfield 7, 3) := by decide +kernel
theorem dX5_changeNudges_100 : decode cX5_changeNudges 100 = .ok (.bipush 18, 2) := by decide +kernel
theorem dX5_changeNudges_102 : decode cX5_changeNudges 102 = .ok (.iload_n 1, 1) := by decide +kernel
theorem dX5_changeNudges_103 : decode cX5_changeNudges 103 = .ok (.iadd, 1) := by decide +kernel
theorem dX5_changeNudges_104 : decode cX5_changeNudges 104 = .ok (.aload_n 0, 1) := by decide +kernel
theorem dX5_changeNudges_105 : decode cX5_changeNudges 105 = .ok (.getfield 7, 3) := by decide +kernel
theorem dX5_changeNudges_108 : decode cX5_changeNudges 108 = .ok (.bipush 49, 2) := by decide +kernel
theorem dX5_changeNudges_110 : decode cX5_changeNudges 110 = .ok (.iaload, 1) := by decide +kernel
theorem dX5_changeNudges_111 : decode cX5_changeNudges 111 = .ok (.iastore, 1) := by decide +kernel
theorem dX5_changeNudges_112 : decode cX5_changeNudges 112 = .ok (.aload_n 0, 1) := by decide +kernel
theorem dX5_changeNudges_113 : decode cX5_changeNudges 113 = .ok (.getfield 7, 3) := by decide +kernel
theorem dX5_changeNudges_116 : decode cX5_changeNudges 116 = .ok (.iconst 0, 1) := by decide +kernel
theorem dX5_changeNudges_117 : decode cX5_changeNudges 117 = .ok (.iload_n 1, 1) := by decide +kernel
theorem dX5_changeNudges_118 : decode cX5_changeNudges 118 = .ok (.iadd, 1) := by decide +kernel
theorem dX5_changeNudges_119 : decode cX5_changeNudges 119 = .ok (.aload_n 0, 1) := by decide +kernel
theorem dX5_changeNudges_120 : decode cX5_changeNudges 120 = .ok (.getfield 7, 3) := by decide +kernel
theorem dX5_changeNudges_123 : decode cX5_changeNudges 123 = .ok (.bipush 49, 2) := by decide +kernel
theorem dX5_changeNudges_125 : decode cX5_changeNudges 125 = .ok (.iaload, 1) := by decide +kernel
theorem dX5_changeNudges_126 : decode cX5_changeNudges 126 = .ok (.iconst (-1), 1) := by decide +kernel
theorem dX5_changeNudges_127 : decode cX5_changeNudges 127 = .ok (.if_icmp .ne 7, 3) := by decide +kernel
theorem dX5_changeNudges_130 : decode cX5_changeNudges 130 = .ok (.iconst 4, 1) := by decide +kernel
theorem dX5_changeNudges_131 : decode cX5_changeNudges 131 = .ok (.goto 4, 3) := by decide +kernel
theorem dX5_changeNudges_134 : decode cX5_changeNudges 134 = .ok (.iconst 2, 1) := by decide +kernel
theorem dX5_changeNudges_135 : decode cX5_changeNudges 135 = .ok (.iastore, 1) := by decide +kernel
theorem dX5_changeNudges_136 : decode cX5_changeNudges 136 = .ok (.aload_n 0, 1) := by decide +kernel
theorem dX5_changeNudges_137 : decode cX5_changeNudges 137 = .ok (.getfield 7, 3) := by decide +kernel
theorem dX5_changeNudges_140 : decode cX5_changeNudges 140 = .ok (.bipush 49, 2) := by decide +kernel
theorem dX5_changeNudges_142 : decode cX5_changeNudges 142 = .ok (.iload_n 1, 1) := by decide +kernel
theorem dX5_changeNudges_143 : decode cX5_changeNudges 143 = .ok (.iastore, 1) := by decide +kernel
theorem dX5_changeNudges_144 : decode cX5_changeNudges 144 = .ok (.goto 166, 3) := by decide +kernel
theorem dX5_changeNudges_147 : decode cX5_changeNudges 147 = .ok (.aload_n 0, 1) := by decide +kernel
theorem dX5_changeNudges_148 : decode cX5_changeNudges 148 = .ok (.getfield 7, 3) := by decide +kernel
theorem dX5_changeNudges_151 : decode cX5_changeNudges 151 = .ok (.bipush 6, 2) := by decide +kernel
theorem dX5_changeNudges_153 : decode cX5_changeNudges 153 = .ok (.aload_n 0, 1) := by decide +kernel
theorem dX5_changeNudges_154 : decode cX5_changeNudges 154 = .ok (.getfield 7, 3) := by decide +kernel
theorem dX5_changeNudges_157 : decode cX5_changeNudges 157 = .ok (.bipush 18, 2) := by decide +kernel
theorem dX5_changeNudges_159 : decode cX5_changeNudges 159 = .ok (.iload_n 1, 1) := by decide +kernel
theorem dX5_changeNudges_160 : decode cX5_changeNudges 160 = .ok (.iadd, 1) := by decide +kernel
theorem dX5_changeNudges_161 : decode cX5_changeNudges 161 = .ok (.iaload, 1) := by decide +kernel
theorem dX5_changeNudges_162 : decode cX5_changeNudges 162 = .ok (.iadd, 1) := by decide +kernel
theorem dX5_changeNudges_163 : decode cX5_changeNudges 163 = .ok (.iload_n 1, 1) := by decide +kernel
theorem dX5_changeNudges_164 : decode cX5_changeNudges 164 = .ok (.iastore, 1) := by decide +kernel
theorem dX5_changeNudges_165 : decode cX5_changeNudges 165 = .ok (.aload_n 0, 1) := by decide +kernel
theorem dX5_changeNudges_166 : decode cX5_changeNudges 166 = .ok (.getfield 7, 3) := by decide +kernel
theorem dX5_changeNudges_169 : decode cX5_changeNudges 169 = .ok (.iconst 0, 1) := by decide +kernel
theorem dX5_changeNudges_170 : decode cX5_changeNudges 170 = .ok (.iload_n 1, 1) := by decide +kernel
theorem dX5_changeNudges_171 : decode cX5_changeNudges 171 = .ok (.iadd, 1) := by decide +kernel
theorem dX5_changeNudges_172 : decode cX5_changeNudges 172 = .ok (.iconst 3, 1) := by decide +kernel
theorem dX5_changeNudges_173 : decode cX5_changeNudges 173 = .ok (.iastore, 1) := by decide +kernel
theorem dX5_changeNudges_174 : decode cX5_changeNudges 174 = .ok (.goto 136, 3) := by decide +kernel
theorem dX5_changeNudges_177 : decode cX5_changeNudges 177 = .ok (.aload_n 0, 1) := by decide +kernel
theorem dX5_changeNudges_178 : decode cX5_changeNudges 178 = .ok (.getfield 7, 3) := by decide +kernel
theorem dX5_changeNudges_181 : decode cX5_changeNudges 181 = .ok (.bipush 18, 2) := by decide +kernel
theorem dX5_changeNudges_183 : decode cX5_changeNudges 183 = .ok (.iload_n 1, 1) := by decide +kernel
theorem dX5_changeNudges_184 : decode cX5_changeNudges 184 = .ok (.iadd, 1) := by decide +kernel
theorem dX5_changeNudges_185 : decode cX5_changeNudges 185 = .ok (.iconst (-1), 1) := by decide +kernel
theorem dX5_changeNudges_186 : decode cX5_changeNudges 186 = .ok (.iastore, 1) := by decide +kernel
theorem dX5_changeNudges_187 : decode cX5_changeNudges 187 = .ok (.aload_n 0, 1) := by decide +kernel
theorem dX5_changeNudges_188 : decode cX5_changeNudges 188 = .ok (.getfield 7, 3) := by decide +kernel
theorem dX5_changeNudges_191 : decode cX5_changeNudges 191 = .ok (.iconst 0, 1) := by decide +kernel
theorem dX5_changeNudges_192 : decode cX5_changeNudges 192 = .ok (.iload_n 1, 1) := by decide +kernel
theorem dX5_changeNudges_193 : decode cX5_changeNudges 193 = .ok (.iadd, 1) := by decide +kernel
theorem dX5_changeNudges_194 : decode cX5_changeNudges 194 = .ok (.iconst 4, 1) := by decide +kernel
theorem dX5_changeNudges_195 : decode cX5_changeNudges 195 = .ok (.iastore, 1) := by decide +kernel
theorem dX5_changeNudges_196 : decode cX5_changeNudges 196 = .ok (.goto 114, 3) := by decide +kernel
theorem dX5_changeNudges_199 : decode cX5_changeNudges 199 = .ok (.aload_n 0, 1) := by decide +kernel
theorem dX5_changeNudges_200 : decode cX5_changeNudges 200 = .ok (.getfield 7, 3) := by decide +kernel
theorem dX5_changeNudges_203 : decode cX5_changeNudges 203 = .ok (.iconst 0, 1) := by decide +kernel
theorem dX5_changeNudges_204 : decode cX5_changeNudges 204 = .ok (.iload_n 1, 1) := by decide +kernel
theorem dX5_changeNudges_205 : decode cX5_changeNudges 205 = .ok (.iadd, 1) := by decide +kernel
theorem dX5_changeNudges_206 : decode cX5_changeNudges 206 = .ok (.iload_n 3, 1) := by decide +kernel
theorem dX5_changeNudges_207 : decode cX5_changeNudges 207 = .ok (.iconst (-1), 1) := by decide +kernel
theorem dX5_changeNudges_208 : decode cX5_changeNudges 208 = .ok (.if_icmp .ne 7, 3) := by decide +kernel
theorem dX5_changeNudges_211 : decode cX5_changeNudges 211 = .ok (.iconst 5, 1) := by decide +kernel
theorem dX5_changeNudges_212 : decode cX5_changeNudges 212 = .ok (.goto 5, 3) := by decide +kernel
theorem dX5_changeNudges_215 : decode cX5_changeNudges 215 = .ok (.bipush 7, 2) := by decide +kernel
theorem dX5_changeNudges_217 : decode cX5_changeNudges 217 = .ok (.iastore, 1) := by decide +kernel
theorem dX5_changeNudges_218 : decode cX5_changeNudges 218 = .ok (.goto 92, 3) := by decide +kernel
theorem dX5_changeNudges_221 : decode cX5_changeNudges 221 = .ok (.aload_n 0, 1) := by decide +kernel
theorem dX5_changeNudges_222 : decode cX5_changeNudges 222 = .ok (.getfield 7, 3) := by decide +kernel
theorem dX5_changeNudges_225 : decode cX5_changeNudges 225 = .ok (.iconst 0, 1) := by decide +kernel
theorem dX5_changeNudges_226 : decode cX5_changeNudges 226 = .ok (.iload_n 1, 1) := by decide +kernel
theorem dX5_changeNudges_227 : decode cX5_changeNudges 227 = .ok (.iadd, 1) := by decide +kernel
theorem dX5_changeNudges_228 : decode cX5_changeNudges 228 = .ok (.aload_n 0, 1) := by decide +kernel
theorem dX5_changeNudges_229 : decode cX5_changeNudges 229 = .ok (.getfield 7, 3) := by decide +kernel
theorem dX5_changeNudges_232 : decode cX5_changeNudges 232 = .ok (.bipush 49, 2) := by decide +kernel
theorem dX5_changeNudges_234 : decode cX5_changeNudges 234 = .ok (.iaload, 1) := by decide +kernel
theorem dX5_changeNudges_235 : decode cX5_changeNudges 235 = .ok (.iload_n 1, 1) := by decide +kernel
theorem dX5_changeNudges_236 : decode cX5_changeNudges 236 = .ok (.if_icmp .ne 7, 3) := by decide +kernel
theorem dX5_changeNudges_239 : decode cX5_changeNudges 239 = .ok (.iconst 0, 1) := by decide +kernel
theorem dX5_changeNudges_240 : decode cX5_changeNudges 240 = .ok (.goto 5, 3) := by decide +kernel
theorem dX5_changeNudges_243 : decode cX5_changeNudges 243 = .ok (.bipush 6, 2) := by decide +kernel
theorem dX5_changeNudges_245 : decode cX5_changeNudges 245 = .ok (.iastore, 1) := by decide +kernel
theorem dX5_changeNudges_246 : decode cX5_changeNudges 246 = .ok (.aload_n 0, 1) := by decide +kernel
theorem dX5_changeNudges_247 : decode cX5_changeNudges 247 = .ok (.getfield 7, 3) := by decide +kernel
theorem dX5_changeNudges_250 : decode cX5_changeNudges 250 = .ok (.bipush 49, 2) := by decide +kernel
theorem dX5_changeNudges_252 : decode cX5_changeNudges 252 = .ok (.aload_n 0, 1) := by decide +kernel
theorem dX5_changeNudges_253 : decode cX5_changeNudges 253 = .ok (.getfield 7, 3) := by decide +kernel
theorem dX5_changeNudges_256 : decode cX5_changeNudges 256 = .ok (.bipush 49, 2) := by decide +kernel
theorem dX5_changeNudges_258 : decode cX5_changeNudges 258 = .ok (.iaload, 1) := by decide +kernel
theorem dX5_changeNudges_259 : decode cX5_changeNudges 259 = .ok (.iload_n 1, 1) := by decide +kernel
theorem dX5_changeNudges_260 : decode cX5_changeNudges 260 = .ok (.if_icmp .ne 7, 3) := by decide +kernel
theorem dX5_changeNudges_263 : decode cX5_changeNudges 263 = .ok (.iconst (-1), 1) := by decide +kernel
theorem dX5_changeNudges_264 : decode cX5_changeNudges 264 = .ok (.goto 10, 3) := by decide +kernel
theorem dX5_changeNudges_267 : decode cX5_changeNudges 267 = .ok (.aload_n 0, 1) := by decide +kernel
theorem dX5_changeNudges_268 : decode cX5_changeNudges 268 = .ok (.getfield 7, 3) := by decide +kernel
theorem dX5_changeNudges_271 : decode cX5_changeNudges 271 = .ok (.bipush 49, 2) := by decide +kernel
theorem dX5_changeNudges_273 : decode cX5_changeNudges 273 = .ok (.iaload, 1) := by decide +kernel
theorem dX5_changeNudges_274 : decode cX5_changeNudges 274 = .ok (.iastore, 1) := by decide +kernel
theorem dX5_changeNudges_275 : decode cX5_changeNudges 275 = .ok (.goto 35, 3) := by decide +kernel
theorem dX5_changeNudges_278 : decode cX5_changeNudges 278 = .ok (.aload_n 0, 1) := by decide +kernel
theorem dX5_changeNudges_279 : decode cX5_changeNudges 279 = .ok (.getfield 7, 3) := by decide +kernel
theorem dX5_changeNudges_282 : decode cX5_changeNudges 282 = .ok (.iconst 0, 1) := by decide +kernel
theorem dX5_changeNudges_283 : decode cX5_changeNudges 283 = .ok (.iload_n 1, 1) := by decide +kernel
theorem dX5_changeNudges_284 : decode cX5_changeNudges 284 = .ok (.iadd, 1) := by decide +kernel
theorem dX5_changeNudges_285 : decode cX5_changeNudges 285 = .ok (.bipush 7, 2) := by decide +kernel
theorem dX5_changeNudges_287 : decode cX5_changeNudges 287 = .ok (.iastore, 1) := by decide +kernel
theorem dX5_changeNudges_288 : decode cX5_changeNudges 288 = .ok (.goto 22, 3) := by decide +kernel
theorem dX5_changeNudges_291 : decode cX5_changeNudges 291 = .ok (.aload_n 0, 1) := by decide +kernel
theorem dX5_changeNudges_292 : decode cX5_changeNudges 292 = .ok (.getfield 7, 3) := by decide +kernel
theorem dX5_changeNudges_295 : decode cX5_changeNudges 295 = .ok (.bipush 12, 2) := by decide +kernel
theorem dX5_changeNudges_297 : decode cX5_changeNudges 297 = .ok (.iload_n 3, 1) := by decide +kernel
theorem dX5_changeNudges_298 : decode cX5_changeNudges 298 = .ok (.iadd, 1) := by decide +kernel
theorem dX5_changeNudges_299 : decode cX5_changeNudges 299 = .ok (.iconst 0, 1) := by decide +kernel
theorem dX5_changeNudges_300 : decode cX5_changeNudges 300 = .ok (.iastore, 1) := by decide +kernel
theorem dX5_changeNudges_301 : decode cX5_changeNudges 301 = .ok (.aload_n 0, 1) := by decide +kernel
theorem dX5_changeNudges_302 : decode cX5_changeNudges 302 = .ok (.getfield 7, 3) := by decide +kernel
theorem dX5_changeNudges_305 : decode cX5_changeNudges 305 = .ok (.iconst 0, 1) := by decide +kernel
theorem dX5_changeNudges_306 : decode cX5_changeNudges 306 = .ok (.iload_n 1, 1) := by decide +kernel
theorem dX5_changeNudges_307 : decode cX5_changeNudges 307 = .ok (.iadd, 1) := by decide +kernel
theorem dX5_changeNudges_308 : decode cX5_changeNudges 308 = .ok (.iconst 0, 1) := by decide +kernel
theorem dX5_changeNudges_309 : decode cX5_changeNudges 309 = .ok (.iastore, 1) := by decide +kernel
theorem dX5_changeNudges_310 : decode cX5_changeNudges 310 = .ok (.return_, 1) := by decide +kernel
theorem dX5_changeWatching_0 : decode cX5_changeWatching 0 = .ok (.aload_n 0, 1) := by decide +kernel
theorem dX5_changeWatching_1 : decode cX5_changeWatching 1 = .ok (.getfield 7, 3) := by decide +kernel
theorem dX5_changeWatching_4 : decode cX5_changeWatching 4 = .ok (.iconst 0, 1) := by decide +kernel
theorem dX5_changeWatching_5 : decode cX5_changeWatching 5 = .ok (.iload_n 1, 1) := by decide +kernel
theorem dX5_changeWatching_6 : decode cX5_changeWatching 6 = .ok (.iadd, 1) := by decide +kernel
theorem dX5_changeWatching_7 : decode cX5_changeWatching 7 = .ok (.iaload, 1) := by decide +kernel
theorem dX5_changeWatching_8 : decode cX5_changeWatching 8 = .ok (.tableswitch 118 0 3 #[32, 62, 118, 106], 32) := by decide +kernel
theorem dX5_changeWatching_40 : decode cX5_changeWatching 40 = .ok (.aload_n 0, 1) := by decide +kernel
theorem dX5_changeWatching_41 : decode cX5_changeWatching 41 = .ok (.getfield 7, 3) := by decide +kernel
theorem dX5_changeWatching_44 : decode cX5_changeWatching 44 = .ok (.bipush 42, 2) := by decide +kernel
theorem dX5_changeWatching_46 : decode cX5_changeWatching 46 = .ok (.aload_n 0, 1) := by decide +kernel
theorem dX5_changeWatching_47 : decode cX5_changeWatching 47 = .ok (.getfield 7, 3) := by decide +kernel
theorem dX5_changeWatching_50 : decode cX5_changeWatching 50 = .ok (.bipush 24, 2) := by decide +kernel
theorem dX5_changeWatching_52 : decode cX5_changeWatching 52 = .ok (.iload_n 1, 1) := by decide +kernel
theorem dX5_changeWatching_53 : decode cX5_changeWatching 53 = .ok (.iadd, 1) := by decide +kernel
theorem dX5_changeWatching_54 : decode cX5_changeWatching 54 = .ok (.iaload, 1) := by decide +kernel
theorem dX5_changeWatching_55 : decode cX5_changeWatching 55 = .ok (.iadd, 1) := by decide +kernel
theorem dX5_changeWatching_56 : decode cX5_changeWatching 56 = .ok (.iconst 1, 1) := by decide +kernel
theorem dX5_changeWatching_57 : decode cX5_changeWatching 57 = .ok (.iastore, 1) := by decide +kernel
theorem dX5_changeWatching_58 : decode cX5_changeWatching 58 = .ok (.aload_n 0, 1) := by decide +kernel
theorem dX5_changeWatching_59 : decode cX5_changeWatching 59 = .ok (.getfield 7, 3) := by decide +kernel
theorem dX5_changeWatching_62 : decode cX5_changeWatching 62 = .ok (.iconst 0, 1) := by decide +kernel
theorem dX5_changeWatching_63 : decode cX5_changeWatching 63 = .ok (.iload_n 1, 1) := by decide +kernel
theorem dX5_changeWatching_64 : decode cX5_changeWatching 64 = .ok (.iadd, 1) := by decide +kernel
theorem dX5_changeWatching_65 : decode cX5_changeWatching 65 = .ok (.iconst 1, 1) := by decide +kernel
theorem dX5_changeWatching_66 : decode cX5_changeWatching 66 = .ok (.iastore, 1) := by decide +kernel
theorem dX5_changeWatching_67 : decode cX5_changeWatching 67 = .ok (.goto 114, 3) := by decide +kernel
theorem dX5_changeWatching_70 : decode cX5_changeWatching 70 = .ok (.aload_n 0, 1) := by decide +kernel
theorem dX5_changeWatching_71 : decode cX5_changeWatching 71 = .ok (.getfield 7, 3) := by decide +kernel
theorem dX5_changeWatching_74 : decode cX5_changeWatching 74 = .ok (.bipush 30, 2) := by decide +kernel
theorem dX5_changeWatching_76 : decode cX5_changeWatching 76 = .ok (.iload_n 1, 1) := by decide +kernel
theorem dX5_changeWatching_77 : decode cX5_changeWatching 77 = .ok (.iadd, 1) := by decide +kernel
theorem dX5_changeWatching_78 : decode cX5_changeWatching 78 = .ok (.aload_n 0, 1) := by decide +kernel
theorem dX5_changeWatching_79 : decode cX5_changeWatching 79 = .ok (.getfield 7, 3) := by decide +kernel
theorem dX5_changeWatching_82 : decode cX5_changeWatching 82 = .ok (.bipush 49, 2) := by decide +kernel
theorem dX5_changeWatching_84 : decode cX5_changeWatching 84 = .ok (.iaload, 1) := by decide +kernel
theorem dX5_changeWatching_85 : decode cX5_changeWatching 85 = .ok (.iastore, 1) := by decide +kernel
theorem dX5_changeWatching_86 : decode cX5_changeWatching 86 = .ok (.aload_n 0, 1) := by decide +kernel
theorem dX5_changeWatching_87 : decode cX5_changeWatching 87 = .ok (.getfield 7, 3) := by decide +kernel
theorem dX5_changeWatching_90 : decode cX5_changeWatching 90 = .ok (.bipush 49, 2) := by decide +kernel
theorem dX5_changeWatching_92 : decode cX5_changeWatching 92 = .ok (.aload_n 0, 1) := by decide +kernel
theorem dX5_changeWatching_93 : decode cX5_changeWatching 93 = .ok (.getfield 7, 3) := by decide +kernel
theorem dX5_changeWatching_96 : decode cX5_changeWatching 96 = .ok (.bipush 24, 2) := by decide +kernel
theorem dX5_changeWatching_98 : decode cX5_changeWatching 98 = .ok (.iload_n 1, 1) := by decide +kernel
theorem dX5_changeWatching_99 : decode cX5_changeWatching 99 = .ok (.iadd, 1) := by decide +kernel
theorem dX5_changeWatching_100 : decode cX5_changeWatching 100 = .ok (.iaload, 1) := by decide +kernel
theorem dX5_changeWatching_101 : decode cX5_changeWatching 101 = .ok (.iastore, 1) := by decide +kernel
theorem dX5_changeWatching_102 : decode cX5_changeWatching 102 = .ok (.aload_n 0, 1) := by decide +kernel
theorem dX5_changeWatching_103 : decode cX5_changeWatching 103 = .ok (.getfield 7, 3) := by decide +kernel
theorem dX5_changeWatching_106 : decode cX5_changeWatching 106 = .ok (.iconst 0, 1) := by decide +kernel
theorem dX5_changeWatching_107 : decode cX5_changeWatching 107 = .ok (.iload_n 1, 1) := by decide +kernel
theorem dX5_changeWatching_108 : decode cX5_changeWatching 108 = .ok (.iadd, 1) := by decide +kernel
theorem dX5_changeWatching_109 : decode cX5_changeWatching 109 = .ok (.iconst 3, 1) := by decide +kernel
theorem dX5_changeWatching_110 : decode cX5_changeWatching 110 = .ok (.iastore, 1) := by decide +kernel
theorem dX5_changeWatching_111 : decode cX5_changeWatching 111 = .ok (.goto 70, 3) := by decide +kernel
theorem dX5_changeWatching_114 : decode cX5_changeWatching 114 = .ok (.aload_n 0, 1) := by decide +kernel
theorem dX5_changeWatching_115 : decode cX5_changeWatching 115 = .ok (.getfield 7, 3) := by decide +kernel
theorem dX5_changeWatching_118 : decode cX5_changeWatching 118 = .ok (.iconst 0, 1) := by decide +kernel
theorem dX5_changeWatching_119 : decode cX5_changeWatching 119 = .ok (.iload_n 1, 1) := by decide +kernel
theorem dX5_changeWatching_120 : decode cX5_changeWatching 120 = .ok (.iadd, 1) := by decide +kernel
theorem dX5_changeWatching_121 : decode cX5_changeWatching 121 = .ok (.iconst 4, 1) := by decide +kernel
theorem dX5_changeWatching_122 : decode cX5_changeWatching 122 = .ok (.iastore, 1) := by decide +kernel
theorem dX5_changeWatching_123 : decode cX5_changeWatching 123 = .ok (.goto 58, 3) := by decide +kernel
theorem dX5_changeWatching_126 : decode cX5_changeWatching 126 = .ok (.aload_n 0, 1) := by decide +kernel
theorem dX5_changeWatching_127 : decode cX5_changeWatching 127 = .ok (.getfield 7, 3) := by decide +kernel
theorem dX5_changeWatching_130 : decode cX5_changeWatching 130 = .ok (.bipush 42, 2) := by decide +kernel
theorem dX5_changeWatching_132 : decode cX5_changeWatching 132 = .ok (.aload_n 0, 1) := by decide +kernel
theorem dX5_changeWatching_133 : decode cX5_changeWatching 133 = .ok (.getfield 7, 3) := by decide +kernel
theorem dX5_changeWatching_136 : decode cX5_changeWatching 136 = .ok (.bipush 24, 2) := by decide +kernel
theorem dX5_changeWatching_138 : decode cX5_changeWatching 138 = .ok (.iload_n 1, 1) := by decide +kernel
theorem dX5_changeWatching_139 : decode cX5_changeWatching 139 = .ok (.iadd, 1) := by decide +kernel
theorem dX5_changeWatching_140 : decode cX5_changeWatching 140 = .ok (.iaload, 1) := by decide +kernel
theorem dX5_changeWatching_141 : decode cX5_changeWatching 141 = .ok (.iadd, 1) := by decide +kernel
theorem dX5_changeWatching_142 : decode cX5_changeWatching 142 = .ok (.iconst 0, 1) := by decide +kernel
theorem dX5_changeWatching_143 : decode cX5_changeWatching 143 = .ok (.iastore, 1) := by decide +kernel
theorem dX5_changeWatching_144 : decode cX5_changeWatching 144 = .ok (.aload_n 0, 1) := by decide +kernel
theorem dX5_changeWatching_145 : decode cX5_changeWatching 145 = .ok (.getfield 7, 3) := by decide +kernel
theorem dX5_changeWatching_148 : decode cX5_changeWatching 148 = .ok (.bipush 24, 2) := by decide +kernel
theorem dX5_changeWatching_150 : decode cX5_changeWatching 150 = .ok (.iload_n 1, 1) := by decide +kernel
theorem dX5_changeWatching_151 : decode cX5_changeWatching 151 = .ok (.iadd, 1) := by decide +kernel
theorem dX5_changeWatching_152 : decode cX5_changeWatching 152 = .ok (.aload_n 0, 1) := by decide +kernel
theorem dX5_changeWatching_153 : decode cX5_changeWatching 153 = .ok (.getfield 7, 3) := by decide +kernel
theorem dX5_changeWatching_156 : decode cX5_changeWatching 156 = .ok (.bipush 30, 2) := by decide +kernel
theorem dX5_changeWatching_158 : decode cX5_changeWatching 158 = .ok (.iload_n 1, 1) := by decide +kernel
theorem dX5_changeWatching_159 : decode cX5_changeWatching 159 = .ok (.iadd, 1) := by decide +kernel
theorem dX5_changeWatching_160 : decode cX5_changeWatching 160 = .ok (.iaload, 1) := by decide +kernel
theorem dX5_changeWatching_161 : decode cX5_changeWatching 161 = .ok (.iastore, 1) := by decide +kernel
theorem dX5_changeWatching_162 : decode cX5_changeWatching 162 = .ok (.aload_n 0, 1) := by decide +kernel
theorem dX5_changeWatching_163 : decode cX5_changeWatching 163 = .ok (.getfield 7, 3) := by decide +kernel
theorem dX5_changeWatching_166 : decode cX5_changeWatching 166 = .ok (.bipush 30, 2) := by decide +kernel
theorem dX5_changeWatching_168 : decode cX5_changeWatching 168 = .ok (.iload_n 1, 1) := by decide +kernel
theorem dX5_changeWatching_169 : decode cX5_changeWatching 169 = .ok (.iadd, 1) := by decide +kernel
theorem dX5_changeWatching_170 : decode cX5_changeWatching 170 = .ok (.iconst (-1), 1) := by decide +kernel
theorem dX5_changeWatching_171 : decode cX5_changeWatching 171 = .ok (.iastore, 1) := by decide +kernel
theorem dX5_changeWatching_172 : decode cX5_changeWatching 172 = .ok (.aload_n 0, 1) := by decide +kernel
theorem dX5_changeWatching_173 : decode cX5_changeWatching 173 = .ok (.getfield 7, 3) := by decide +kernel
theorem dX5_changeWatching_176 : decode cX5_changeWatching 176 = .ok (.iconst 0, 1) := by decide +kernel
theorem dX5_changeWatching_177 : decode cX5_changeWatching 177 = .ok (.iload_n 1, 1) := by decide +kernel
theorem dX5_changeWatching_178 : decode cX5_changeWatching 178 = .ok (.iadd, 1) := by decide +kernel
theorem dX5_changeWatching_179 : decode cX5_changeWatching 179 = .ok (.iconst 0, 1) := by decide +kernel
theorem dX5_changeWatching_180 : decode cX5_changeWatching 180 = .ok (.iastore, 1) := by decide +kernel
theorem dX5_changeWatching_181 : decode cX5_changeWatching 181 = .ok (.return_, 1) := by decide +kernel
theorem dX5_changeTickets_0 : decode cX5_changeTickets 0 = .ok (.aload_n 0, 1) := by decide +kernel
theorem dX5_changeTickets_1 : decode cX5_changeTickets 1 = .ok (.getfield 7, 3) := by decide +kernel
theorem dX5_changeTickets_4 : decode cX5_changeTickets 4 = .ok (.iconst 0, 1) := by decide +kernel
theorem dX5_changeTickets_5 : decode cX5_changeTickets 5 = .ok (.iload_n 1, 1) := by decide +kernel
theorem dX5_changeTickets_6 : decode cX5_changeTickets 6 = .ok (.iadd, 1) := by decide +kernel
theorem dX5_changeTickets_7 : decode cX5_changeTickets 7 = .ok (.iaload, 1) := by decide +kernel
theorem dX5_changeTickets_8 : decode cX5_changeTickets 8 = .ok (.lookupswitch 79 #[(0, 28), (3, 67)], 28) := by decide +kernel
theorem dX5_changeTickets_36 : decode cX5_changeTickets 36 = .ok (.aload_n 0, 1) := by decide +kernel
theorem dX5_changeTickets_37 : decode cX5_changeTickets 37 = .ok (.getfield 7, 3) := by decide +kernel
theorem dX5_changeTickets_40 : decode cX5_changeTickets 40 = .ok (.bipush 36, 2) := by decide +kernel
theorem dX5_changeTickets_42 : decode cX5_changeTickets 42 = .ok (.iload_n 1, 1) := by decide +kernel
theorem dX5_changeTickets_43 : decode cX5_changeTickets 43 = .ok (.iadd, 1) := by decide +kernel
theorem dX5_changeTickets_44 : decode cX5_changeTickets 44 = .ok (.aload_n 0, 1) := by decide +kernel
theorem dX5_changeTickets_45 : decode cX5_changeTickets 45 = .ok (.getfield 7, 3) := by decide +kernel
theorem dX5_changeTickets_48 : decode cX5_changeTickets 48 = .ok (.bipush 50, 2) := by decide +kernel
theorem dX5_changeTickets_50 : decode cX5_changeTickets 50 = .ok (.iaload, 1) := by decide +kernel
theorem dX5_changeTickets_51 : decode cX5_changeTickets 51 = .ok (.iastore, 1) := by decide +kernel
theorem dX5_changeTickets_52 : decode cX5_changeTickets 52 = .ok (.aload_n 0, 1) := by decide +kernel
end
section
theorem dX5_changeTickets_53 : decode cX5_changeTickets 53 = .ok (.getfield 7, 3) := by decide +kernel
theorem dX5_changeTickets_56 : decode cX5_changeTickets 56 = .ok (.bipush 50, 2) := by decide +kernel
theorem dX5_changeTickets_58 : decode cX5_changeTickets 58 = .ok (.dup2, 1) := by decide +kernel
theorem dX5_changeTickets_59 : decode cX5_changeTickets 59 = .ok (.iaload, 1) := by decide +kernel
theorem dX5_changeTickets_60 : decode cX5_changeTickets 60 = .ok (.iconst 1, 1) := by decide +kernel
theorem dX5_changeTickets_61 : decode cX5_changeTickets 61 = .ok (.iadd, 1) := by decide +kernel
theorem dX5_changeTickets_62 : decode cX5_changeTickets 62 = .ok (.iastore, 1) := by decide +kernel
theorem dX5_changeTickets_63 : decode cX5_changeTickets 63 = .ok (.aload_n 0, 1) := by decide +kernel
theorem dX5_changeTickets_64 : decode cX5_changeTickets 64 = .ok (.getfield 7, 3) := by decide +kernel
theorem dX5_changeTickets_67 : decode cX5_changeTickets 67 = .ok (.iconst 0, 1) := by decide +kernel
theorem dX5_changeTickets_68 : decode cX5_changeTickets 68 = .ok (.iload_n 1, 1) := by decide +kernel
theorem dX5_changeTickets_69 : decode cX5_changeTickets 69 = .ok (.iadd, 1) := by decide +kernel
theorem dX5_changeTickets_70 : decode cX5_changeTickets 70 = .ok (.iconst 3, 1) := by decide +kernel
theorem dX5_changeTickets_71 : decode cX5_changeTickets 71 = .ok (.iastore, 1) := by decide +kernel
theorem dX5_changeTickets_72 : decode cX5_changeTickets 72 = .ok (.goto 45, 3) := by decide +kernel
theorem dX5_changeTickets_75 : decode cX5_changeTickets 75 = .ok (.aload_n 0, 1) := by decide +kernel
theorem dX5_changeTickets_76 : decode cX5_changeTickets 76 = .ok (.getfield 7, 3) := by decide +kernel
theorem dX5_changeTickets_79 : decode cX5_changeTickets 79 = .ok (.iconst 0, 1) := by decide +kernel
theorem dX5_changeTickets_80 : decode cX5_changeTickets 80 = .ok (.iload_n 1, 1) := by decide +kernel
theorem dX5_changeTickets_81 : decode cX5_changeTickets 81 = .ok (.iadd, 1) := by decide +kernel
theorem dX5_changeTickets_82 : decode cX5_changeTickets 82 = .ok (.iconst 4, 1) := by decide +kernel
theorem dX5_changeTickets_83 : decode cX5_changeTickets 83 = .ok (.iastore, 1) := by decide +kernel
theorem dX5_changeTickets_84 : decode cX5_changeTickets 84 = .ok (.goto 33, 3) := by decide +kernel
theorem dX5_changeTickets_87 : decode cX5_changeTickets 87 = .ok (.aload_n 0, 1) := by decide +kernel
theorem dX5_changeTickets_88 : decode cX5_changeTickets 88 = .ok (.getfield 7, 3) := by decide +kernel
theorem dX5_changeTickets_91 : decode cX5_changeTickets 91 = .ok (.bipush 51, 2) := by decide +kernel
theorem dX5_changeTickets_93 : decode cX5_changeTickets 93 = .ok (.dup2, 1) := by decide +kernel
theorem dX5_changeTickets_94 : decode cX5_changeTickets 94 = .ok (.iaload, 1) := by decide +kernel
theorem dX5_changeTickets_95 : decode cX5_changeTickets 95 = .ok (.iconst 1, 1) := by decide +kernel
theorem dX5_changeTickets_96 : decode cX5_changeTickets 96 = .ok (.iadd, 1) := by decide +kernel
theorem dX5_changeTickets_97 : decode cX5_changeTickets 97 = .ok (.iastore, 1) := by decide +kernel
theorem dX5_changeTickets_98 : decode cX5_changeTickets 98 = .ok (.aload_n 0, 1) := by decide +kernel
theorem dX5_changeTickets_99 : decode cX5_changeTickets 99 = .ok (.getfield 7, 3) := by decide +kernel
theorem dX5_changeTickets_102 : decode cX5_changeTickets 102 = .ok (.bipush 36, 2) := by decide +kernel
theorem dX5_changeTickets_104 : decode cX5_changeTickets 104 = .ok (.iload_n 1, 1) := by decide +kernel
theorem dX5_changeTickets_105 : decode cX5_changeTickets 105 = .ok (.iadd, 1) := by decide +kernel
theorem dX5_changeTickets_106 : decode cX5_changeTickets 106 = .ok (.iconst (-1), 1) := by decide +kernel
theorem dX5_changeTickets_107 : decode cX5_changeTickets 107 = .ok (.iastore, 1) := by decide +kernel
theorem dX5_changeTickets_108 : decode cX5_changeTickets 108 = .ok (.aload_n 0, 1) := by decide +kernel
theorem dX5_changeTickets_109 : decode cX5_changeTickets 109 = .ok (.getfield 7, 3) := by decide +kernel
theorem dX5_changeTickets_112 : decode cX5_changeTickets 112 = .ok (.iconst 0, 1) := by decide +kernel
theorem dX5_changeTickets_113 : decode cX5_changeTickets 113 = .ok (.iload_n 1, 1) := by decide +kernel
theorem dX5_changeTickets_114 : decode cX5_changeTickets 114 = .ok (.iadd, 1) := by decide +kernel
theorem dX5_changeTickets_115 : decode cX5_changeTickets 115 = .ok (.iconst 0, 1) := by decide +kernel
theorem dX5_changeTickets_116 : decode cX5_changeTickets 116 = .ok (.iastore, 1) := by decide +kernel
theorem dX5_changeTickets_117 : decode cX5_changeTickets 117 = .ok (.return_, 1) := by decide +kernel
theorem dX5_changeGrabbing_0 : decode cX5_changeGrabbing 0 = .ok (.aload_n 0, 1) := by decide +kernel
theorem dX5_changeGrabbing_1 : decode cX5_changeGrabbing 1 = .ok (.getfield 7, 3) := by decide +kernel
theorem dX5_changeGrabbing_4 : decode cX5_changeGrabbing 4 = .ok (.iconst 0, 1) := by decide +kernel
theorem dX5_changeGrabbing_5 : decode cX5_changeGrabbing 5 = .ok (.iload_n 1, 1) := by decide +kernel
theorem dX5_changeGrabbing_6 : decode cX5_changeGrabbing 6 = .ok (.iadd, 1) := by decide +kernel
theorem dX5_changeGrabbing_7 : decode cX5_changeGrabbing 7 = .ok (.iaload, 1) := by decide +kernel
theorem dX5_changeGrabbing_8 : decode cX5_changeGrabbing 8 = .ok (.istore_n 2, 1) := by decide +kernel
theorem dX5_changeGrabbing_9 : decode cX5_changeGrabbing 9 = .ok (.aload_n 0, 1) := by decide +kernel
theorem dX5_changeGrabbing_10 : decode cX5_changeGrabbing 10 = .ok (.getfield 7, 3) := by decide +kernel
theorem dX5_changeGrabbing_13 : decode cX5_changeGrabbing 13 = .ok (.bipush 52, 2) := by decide +kernel
theorem dX5_changeGrabbing_15 : decode cX5_changeGrabbing 15 = .ok (.iload_n 2, 1) := by decide +kernel
theorem dX5_changeGrabbing_16 : decode cX5_changeGrabbing 16 = .ok (.ifCond .ne 13, 3) := by decide +kernel
theorem dX5_changeGrabbing_19 : decode cX5_changeGrabbing 19 = .ok (.aload_n 0, 1) := by decide +kernel
theorem dX5_changeGrabbing_20 : decode cX5_changeGrabbing 20 = .ok (.getfield 7, 3) := by decide +kernel
theorem dX5_changeGrabbing_23 : decode cX5_changeGrabbing 23 = .ok (.bipush 52, 2) := by decide +kernel
theorem dX5_changeGrabbing_25 : decode cX5_changeGrabbing 25 = .ok (.iaload, 1) := by decide +kernel
theorem dX5_changeGrabbing_26 : decode cX5_changeGrabbing 26 = .ok (.goto 13, 3) := by decide +kernel
theorem dX5_changeGrabbing_29 : decode cX5_changeGrabbing 29 = .ok (.iload_n 2, 1) := by decide +kernel
theorem dX5_changeGrabbing_30 : decode cX5_changeGrabbing 30 = .ok (.iconst 3, 1) := by decide +kernel
theorem dX5_changeGrabbing_31 : decode cX5_changeGrabbing 31 = .ok (.if_icmp .ne 7, 3) := by decide +kernel
theorem dX5_changeGrabbing_34 : decode cX5_changeGrabbing 34 = .ok (.iconst 1, 1) := by decide +kernel
theorem dX5_changeGrabbing_35 : decode cX5_changeGrabbing 35 = .ok (.goto 4, 3) := by decide +kernel
theorem dX5_changeGrabbing_38 : decode cX5_changeGrabbing 38 = .ok (.iconst 0, 1) := by decide +kernel
theorem dX5_changeGrabbing_39 : decode cX5_changeGrabbing 39 = .ok (.iastore, 1) := by decide +kernel
theorem dX5_changeGrabbing_40 : decode cX5_changeGrabbing 40 = .ok (.aload_n 0, 1) := by decide +kernel
theorem dX5_changeGrabbing_41 : decode cX5_changeGrabbing 41 = .ok (.getfield 7, 3) := by decide +kernel
theorem dX5_changeGrabbing_44 : decode cX5_changeGrabbing 44 = .ok (.iconst 0, 1) := by decide +kernel
theorem dX5_changeGrabbing_45 : decode cX5_changeGrabbing 45 = .ok (.iload_n 1, 1) := by decide +kernel
theorem dX5_changeGrabbing_46 : decode cX5_changeGrabbing 46 = .ok (.iadd, 1) := by decide +kernel
theorem dX5_changeGrabbing_47 : decode cX5_changeGrabbing 47 = .ok (.iload_n 2, 1) := by decide +kernel
theorem dX5_changeGrabbing_48 : decode cX5_changeGrabbing 48 = .ok (.ifCond .ne 7, 3) := by decide +kernel
theorem dX5_changeGrabbing_51 : decode cX5_changeGrabbing 51 = .ok (.iconst 3, 1) := by decide +kernel
theorem dX5_changeGrabbing_52 : decode cX5_changeGrabbing 52 = .ok (.goto 13, 3) := by decide +kernel
theorem dX5_changeGrabbing_55 : decode cX5_changeGrabbing 55 = .ok (.iload_n 2, 1) := by decide +kernel
theorem dX5_changeGrabbing_56 : decode cX5_changeGrabbing 56 = .ok (.iconst 3, 1) := by decide +kernel
theorem dX5_changeGrabbing_57 : decode cX5_changeGrabbing 57 = .ok (.if_icmp .ne 7, 3) := by decide +kernel
theorem dX5_changeGrabbing_60 : decode cX5_changeGrabbing 60 = .ok (.iconst 4, 1) := by decide +kernel
theorem dX5_changeGrabbing_61 : decode cX5_changeGrabbing 61 = .ok (.goto 4, 3) := by decide +kernel
theorem dX5_changeGrabbing_64 : decode cX5_changeGrabbing 64 = .ok (.iconst 0, 1) := by decide +kernel
theorem dX5_changeGrabbing_65 : decode cX5_changeGrabbing 65 = .ok (.iastore, 1) := by decide +kernel
theorem dX5_changeGrabbing_66 : decode cX5_changeGrabbing 66 = .ok (.return_, 1) := by decide +kernel
set_option maxRecDepth 20000 in
theorem ggX5_change_X5_changeNudges : GoodIn wsX5_change wsX5_changeNudges := goodIn_r _ [6, 1, 19, 20, 21, 22, 23, 24, 25, 26, 27, 28, 29, 30, 31, 32, 33, 34, 35, 36] (by decide +kernel) (by decide +kernel)
set_option maxRecDepth 20000 in
theorem gX5_change_X5_changeNudges : GoodIn wsX5_change (wsV RX5 70 RX5 yX5_changeNudges wsX5_changeNudges) := goodIn_app (goodIn_of _ (by decide +kernel)) ggX5_change_X5_changeNudges
set_option maxRecDepth 20000 in
theorem ggX5_change_X5_changeWatching : GoodIn wsX5_change wsX5_changeWatching := goodIn_r _ [10, 1, 19, 20, 21, 22, 23, 24, 25, 26, 27, 28, 29, 30, 31, 32, 33, 34, 35, 36] (by decide +kernel) (by decide +kernel)
set_option maxRecDepth 20000 in
theorem gX5_change_X5_changeWatching : GoodIn wsX5_change (wsV RX5 73 RX5 yX5_changeWatching wsX5_changeWatching) := goodIn_app (goodIn_of _ (by decide +kernel)) ggX5_change_X5_changeWatching
set_option maxRecDepth 20000 in
theorem ggX5_change_X5_changeTickets : GoodIn wsX5_change wsX5_changeTickets := goodIn_r _ [14, 1, 19, 20, 21, 22, 23, 24, 25, 26, 27, 28, 29, 30, 31, 32, 33, 34, 35, 36] (by decide +kernel) (by decide +kernel)
set_option maxRecDepth 20000 in
theorem gX5_change_X5_changeTickets : GoodIn wsX5_change (wsV RX5 76 RX5 yX5_changeTickets wsX5_changeTickets) := goodIn_app (goodIn_of _ (by decide +kernel)) ggX5_change_X5_changeTickets
set_option maxRecDepth 20000 in
theorem ggX5_change_X5_changeGrabbing : GoodIn wsX5_change wsX5_changeGrabbing := goodIn_r _ [18, 1, 19, 20, 21, 22, 23, 24, 25, 26, 27, 28, 29, 30, 31, 32, 33, 34, 35, 36] (by decide +kernel) (by decide +kernel)
set_option maxRecDepth 20000 in
theorem gX5_change_X5_changeGrabbing : GoodIn wsX5_change (wsV RX5 79 RX5 yX5_changeGrabbing wsX5_changeGrabbing) := goodIn_app (goodIn_of _ (by decide +kernel)) ggX5_change_X5_changeGrabbing
theorem dX5_change_0 : decode cX5_change 0 = .ok (.aload_n 0, 1) := by decide +kernel
theorem dX5_change_1 : decode cX5_change 1 = .ok (.getfield 7, 3) := by decide +kernel
theorem dX5_change_4 : decode cX5_change 4 = .ok (.bipush 60, 2) := by decide +kernel
theorem dX5_change_6 : decode cX5_change 6 = .ok (.iaload, 1) := by decide +kernel
theorem dX5_change_7 : decode cX5_change 7 = .ok (.tableswitch 49 0 2 #[25, 33, 41], 25) := by decide +kernel
theorem dX5_change_32 : decode cX5_change 32 = .ok (.aload_n 0, 1) := by decide +kernel
theorem dX5_change_33 : decode cX5_change 33 = .ok (.iload_n 1, 1) := by decide +kernel
theorem dX5_change_34 : decode cX5_change 34 = .ok (.invokevirtual 70, 3) := by decide +kernel
theorem dX5_change_37 : decode cX5_change 37 = .ok (.goto 24, 3) := by decide +kernel
theorem dX5_change_40 : decode cX5_change 40 = .ok (.aload_n 0, 1) := by decide +kernel
theorem dX5_change_41 : decode cX5_change 41 = .ok (.iload_n 1, 1) := by decide +kernel
theorem dX5_change_42 : decode cX5_change 42 = .ok (.invokevirtual 73, 3) := by decide +kernel
theorem dX5_change_45 : decode cX5_change 45 = .ok (.goto 16, 3) := by decide +kernel
theorem dX5_change_48 : decode cX5_change 48 = .ok (.aload_n 0, 1) := by decide +kernel
theorem dX5_change_49 : decode cX5_change 49 = .ok (.iload_n 1, 1) := by decide +kernel
theorem dX5_change_50 : decode cX5_change 50 = .ok (.invokevirtual 76, 3) := by decide +kernel
theorem dX5_change_53 : decode cX5_change 53 = .ok (.goto 8, 3) := by decide +kernel
theorem dX5_change_56 : decode cX5_change 56 = .ok (.aload_n 0, 1) := by decide +kernel
theorem dX5_change_57 : decode cX5_change 57 = .ok (.iload_n 1, 1) := by decide +kernel
theorem dX5_change_58 : decode cX5_change 58 = .ok (.invokevirtual 79, 3) := by decide +kernel
theorem dX5_change_61 : decode cX5_change 61 = .ok (.return_, 1) := by decide +kernel
theorem dX5_placeOf_0 : decode cX5_placeOf 0 = .ok (.bipush (-5), 2) := by decide +kernel
theorem dX5_placeOf_2 : decode cX5_placeOf 2 = .ok (.istore_n 2, 1) := by decide +kernel
theorem dX5_placeOf_3 : decode cX5_placeOf 3 = .ok (.iconst 0, 1) := by decide +kernel
theorem dX5_placeOf_4 : decode cX5_placeOf 4 = .ok (.istore_n 3, 1) := by decide +kernel
theorem dX5_placeOf_5 : decode cX5_placeOf 5 = .ok (.iload_n 3, 1) := by decide +kernel
theorem dX5_placeOf_6 : decode cX5_placeOf 6 = .ok (.aload_n 0, 1) := by decide +kernel
theorem dX5_placeOf_7 : decode cX5_placeOf 7 = .ok (.getfield 7, 3) := by decide +kernel
theorem dX5_placeOf_10 : decode cX5_placeOf 10 = .ok (.bipush 53, 2) := by decide +kernel
theorem dX5_placeOf_12 : decode cX5_placeOf 12 = .ok (.iaload, 1) := by decide +kernel
theorem dX5_placeOf_13 : decode cX5_placeOf 13 = .ok (.if_icmp .ge 28, 3) := by decide +kernel
theorem dX5_placeOf_16 : decode cX5_placeOf 16 = .ok (.aload_n 0, 1) := by decide +kernel
theorem dX5_placeOf_17 : decode cX5_placeOf 17 = .ok (.getfield 7, 3) := by decide +kernel
theorem dX5_placeOf_20 : decode cX5_placeOf 20 = .ok (.bipush 54, 2) := by decide +kernel
theorem dX5_placeOf_22 : decode cX5_placeOf 22 = .ok (.iload_n 3, 1) := by decide +kernel
theorem dX5_placeOf_23 : decode cX5_placeOf 23 = .ok (.iadd, 1) := by decide +kernel
theorem dX5_placeOf_24 : decode cX5_placeOf 24 = .ok (.iaload, 1) := by decide +kernel
theorem dX5_placeOf_25 : decode cX5_placeOf 25 = .ok (.iload_n 1, 1) := by decide +kernel
theorem dX5_placeOf_26 : decode cX5_placeOf 26 = .ok (.if_icmp .ne 7, 3) := by decide +kernel
theorem dX5_placeOf_29 : decode cX5_placeOf 29 = .ok (.iload_n 3, 1) := by decide +kernel
theorem dX5_placeOf_30 : decode cX5_placeOf 30 = .ok (.goto 4, 3) := by decide +kernel
theorem dX5_placeOf_33 : decode cX5_placeOf 33 = .ok (.iload_n 2, 1) := by decide +kernel
theorem dX5_placeOf_34 : decode cX5_placeOf 34 = .ok (.istore_n 2, 1) := by decide +kernel
theorem dX5_placeOf_35 : decode cX5_placeOf 35 = .ok (.iinc 3 1, 3) := by decide +kernel
theorem dX5_placeOf_38 : decode cX5_placeOf 38 = .ok (.goto (-33), 3) := by decide +kernel
theorem dX5_placeOf_41 : decode cX5_placeOf 41 = .ok (.iload_n 2, 1) := by decide +kernel
theorem dX5_placeOf_42 : decode cX5_placeOf 42 = .ok (.ireturn, 1) := by decide +kernel
set_option maxRecDepth 20000 in
theorem ggX5_leaveLine_X5_placeOf : GoodIn wsX5_leaveLine wsX5_placeOf := goodIn_r _ [6, 1, 7, 8, 9, 10, 11, 12, 13, 14, 15, 16, 17, 18, 19, 20, 21, 22, 23, 24] (by decide +kernel) (by decide +kernel)
set_option maxRecDepth 20000 in
theorem gX5_leaveLine_X5_placeOf : GoodIn wsX5_leaveLine (wsV RX5 82 RX5 yX5_placeOf wsX5_placeOf) := goodIn_app (goodIn_of _ (by decide +kernel)) ggX5_leaveLine_X5_placeOf
theorem dX5_leaveLine_0 : decode cX5_leaveLine 0 = .ok (.aload_n 0, 1) := by decide +kernel
theorem dX5_leaveLine_1 : decode cX5_leaveLine 1 = .ok (.iload_n 1, 1) := by decide +kernel
theorem dX5_leaveLine_2 : decode cX5_leaveLine 2 = .ok (.invokevirtual 82, 3) := by decide +kernel
theorem dX5_leaveLine_5 : decode cX5_leaveLine 5 = .ok (.istore_n 2, 1) := by decide +kernel
theorem dX5_leaveLine_6 : decode cX5_leaveLine 6 = .ok (.iload_n 2, 1) := by decide +kernel
theorem dX5_leaveLine_7 : decode cX5_leaveLine 7 = .ok (.bipush (-5), 2) := by decide +kernel
theorem dX5_leaveLine_9 : decode cX5_leaveLine 9 = .ok (.if_icmp .eq 53, 3) := by decide +kernel
theorem dX5_leaveLine_12 : decode cX5_leaveLine 12 = .ok (.aload_n 0, 1) := by decide +kernel
theorem dX5_leaveLine_13 : decode cX5_leaveLine 13 = .ok (.getfield 7, 3) := by decide +kernel
theorem dX5_leaveLine_16 : decode cX5_leaveLine 16 = .ok (.bipush 53, 2) := by decide +kernel
theorem dX5_leaveLine_18 : decode cX5_leaveLine 18 = .ok (.dup2, 1) := by decide +kernel
theorem dX5_leaveLine_19 : decode cX5_leaveLine 19 = .ok (.iaload, 1) := by decide +kernel
theorem dX5_leaveLine_20 : decode cX5_leaveLine 20 = .ok (.iconst 1, 1) := by decide +kernel
theorem dX5_leaveLine_21 : decode cX5_leaveLine 21 = .ok (.isub, 1) := by decide +kernel
theorem dX5_leaveLine_22 : decode cX5_leaveLine 22 = .ok (.iastore, 1) := by decide +kernel
theorem dX5_leaveLine_23 : decode cX5_leaveLine 23 = .ok (.iload_n 2, 1) := by decide +kernel
theorem dX5_leaveLine_24 : decode cX5_leaveLine 24 = .ok (.istore_n 3, 1) := by decide +kernel
theorem dX5_leaveLine_25 : decode cX5_leaveLine 25 = .ok (.iload_n 3, 1) := by decide +kernel
theorem dX5_leaveLine_26 : decode cX5_leaveLine 26 = .ok (.aload_n 0, 1) := by decide +kernel
theorem dX5_leaveLine_27 : decode cX5_leaveLine 27 = .ok (.getfield 7, 3) := by decide +kernel
theorem dX5_leaveLine_30 : decode cX5_leaveLine 30 = .ok (.bipush 53, 2) := by decide +kernel
theorem dX5_leaveLine_32 : decode cX5_leaveLine 32 = .ok (.iaload, 1) := by decide +kernel
theorem dX5_leaveLine_33 : decode cX5_leaveLine 33 = .ok (.if_icmp .ge 29, 3) := by decide +kernel
theorem dX5_leaveLine_36 : decode cX5_leaveLine 36 = .ok (.aload_n 0, 1) := by decide +kernel
theorem dX5_leaveLine_37 : decode cX5_leaveLine 37 = .ok (.getfield 7, 3) := by decide +kernel
theorem dX5_leaveLine_40 : decode cX5_leaveLine 40 = .ok (.bipush 54, 2) := by decide +kernel
theorem dX5_leaveLine_42 : decode cX5_leaveLine 42 = .ok (.iload_n 3, 1) := by decide +kernel
theorem dX5_leaveLine_43 : decode cX5_leaveLine 43 = .ok (.iadd, 1) := by decide +kernel
theorem dX5_leaveLine_44 : decode cX5_leaveLine 44 = .ok (.aload_n 0, 1) := by decide +kernel
theorem dX5_leaveLine_45 : decode cX5_leaveLine 45 = .ok (.getfield 7, 3) := by decide +kernel
theorem dX5_leaveLine_48 : decode cX5_leaveLine 48 = .ok (.bipush 54, 2) := by decide +kernel
theorem dX5_leaveLine_50 : decode cX5_leaveLine 50 = .ok (.iload_n 3, 1) := by decide +kernel
theorem dX5_leaveLine_51 : decode cX5_leaveLine 51 = .ok (.iadd, 1) := by decide +kernel
theorem dX5_leaveLine_52 : decode cX5_leaveLine 52 = .ok (.iconst 1, 1) := by decide +kernel
theorem dX5_leaveLine_53 : decode cX5_leaveLine 53 = .ok (.iadd, 1) := by decide +kernel
theorem dX5_leaveLine_54 : decode cX5_leaveLine 54 = .ok (.iaload, 1) := by decide +kernel
theorem dX5_leaveLine_55 : decode cX5_leaveLine 55 = .ok (.iastore, 1) := by decide +kernel
theorem dX5_leaveLine_56 : decode cX5_leaveLine 56 = .ok (.iinc 3 1, 3) := by decide +kernel
theorem dX5_leaveLine_59 : decode cX5_leaveLine 59 = .ok (.goto (-34), 3) := by decide +kernel
theorem dX5_leaveLine_62 : decode cX5_leaveLine 62 = .ok (.return_, 1) := by decide +kernel
set_option maxRecDepth 20000 in
theorem ggX5_makeStep_X5_isLook : GoodIn wsX5_makeStep wsX5_isLook := goodIn_r _ [6, 1, 38, 39, 40, 41, 42, 43, 44, 45, 46, 47, 48, 49, 50, 51, 52, 53, 54, 55] (by decide +kernel) (by decide +kernel)
set_option maxRecDepth 20000 in
theorem gX5_makeStep_X5_isLook : GoodIn wsX5_makeStep (wsV RX5 86 RX5 yX5_isLook wsX5_isLook) := goodIn_app (goodIn_of _ (by decide +kernel)) ggX5_makeStep_X5_isLook
set_option maxRecDepth 20000 in
theorem ggX5_makeStep_X5_cost : GoodIn wsX5_makeStep wsX5_cost := goodIn_r _ [9] (by decide +kernel) (by decide +kernel)
set_option maxRecDepth 20000 in
theorem gX5_makeStep_X5_cost : GoodIn wsX5_makeStep (va_wsS RX5 90 yX5_cost wsX5_cost) := goodIn_app (goodIn_of _ (by decide +kernel)) ggX5_makeStep_X5_cost
set_option maxRecDepth 20000 in
theorem ggX5_makeStep_X5_change : GoodIn wsX5_makeStep wsX5_change := goodIn_r _ [13, 1, 14, 15, 16, 5, 17, 18, 19, 20, 21, 22, 23, 24, 25, 26, 27, 28, 29, 38, 39, 40, 41, 42, 43, 44, 45, 46, 47, 48, 49, 50, 51, 52, 53, 54, 55] (by decide +kernel) (by decide +kernel)
set_option maxRecDepth 20000 in
theorem gX5_makeStep_X5_change : GoodIn wsX5_makeStep (wsV RX5 94 RX5 yX5_change wsX5_change) := goodIn_app (goodIn_of _ (by decide +kernel)) ggX5_makeStep_X5_change
set_option maxRecDepth 20000 in
theorem ggX5_makeStep_X5_leaveLine : GoodIn wsX5_makeStep wsX5_leaveLine := goodIn_r _ [33, 1, 34, 35, 36, 5, 37, 38, 39, 40, 41, 42, 43, 44, 45, 46, 47, 48, 49, 50, 51, 52, 53, 54, 55] (by decide +kernel) (by decide +kernel)
set_option maxRecDepth 20000 in
theorem gX5_makeStep_X5_leaveLine : GoodIn wsX5_makeStep (wsV RX5 97 RX5 yX5_leaveLine wsX5_leaveLine) := goodIn_app (goodIn_of _ (by decide +kernel)) ggX5_makeStep_X5_leaveLine
theorem dX5_makeStep_0 : decode cX5_makeStep 0 = .ok (.aload_n 0, 1) := by decide +kernel
theorem dX5_makeStep_1 : decode cX5_makeStep 1 = .ok (.getfield 7, 3) := by decide +kernel
theorem dX5_makeStep_4 : decode cX5_makeStep 4 = .ok (.iconst 0, 1) := by decide +kernel
theorem dX5_makeStep_5 : decode cX5_makeStep 5 = .ok (.iload_n 1, 1) := by decide +kernel
theorem dX5_makeStep_6 : decode cX5_makeStep 6 = .ok (.iadd, 1) := by decide +kernel
theorem dX5_makeStep_7 : decode cX5_makeStep 7 = .ok (.iaload, 1) := by decide +kernel
theorem dX5_makeStep_8 : decode cX5_makeStep 8 = .ok (.istore_n 2, 1) := by decide +kernel
theorem dX5_makeStep_9 : decode cX5_makeStep 9 = .ok (.aload_n 0, 1) := by decide +kernel
theorem dX5_makeStep_10 : decode cX5_makeStep 10 = .ok (.iload_n 1, 1) := by decide +kernel
theorem dX5_makeStep_11 : decode cX5_makeStep 11 = .ok (.invokevirtual 86, 3) := by decide +kernel
theorem dX5_makeStep_14 : decode cX5_makeStep 14 = .ok (.istore_n 3, 1) := by decide +kernel
theorem dX5_makeStep_15 : decode cX5_makeStep 15 = .ok (.aload_n 0, 1) := by decide +kernel
theorem dX5_makeStep_16 : decode cX5_makeStep 16 = .ok (.getfield 7, 3) := by decide +kernel
theorem dX5_makeStep_19 : decode cX5_makeStep 19 = .ok (.bipush 62, 2) := by decide +kernel
theorem dX5_makeStep_21 : decode cX5_makeStep 21 = .ok (.iload_n 1, 1) := by decide +kernel
theorem dX5_makeStep_22 : decode cX5_makeStep 22 = .ok (.iadd, 1) := by decide +kernel
theorem dX5_makeStep_23 : decode cX5_makeStep 23 = .ok (.dup2, 1) := by decide +kernel
theorem dX5_makeStep_24 : decode cX5_makeStep 24 = .ok (.iaload, 1) := by decide +kernel
theorem dX5_makeStep_25 : decode cX5_makeStep 25 = .ok (.iconst 1, 1) := by decide +kernel
theorem dX5_makeStep_26 : decode cX5_makeStep 26 = .ok (.iadd, 1) := by decide +kernel
theorem dX5_makeStep_27 : decode cX5_makeStep 27 = .ok (.iastore, 1) := by decide +kernel
theorem dX5_makeStep_28 : decode cX5_makeStep 28 = .ok (.aload_n 0, 1) := by decide +kernel
theorem dX5_makeStep_29 : decode cX5_makeStep 29 = .ok (.getfield 7, 3) := by decide +kernel
theorem dX5_makeStep_32 : decode cX5_makeStep 32 = .ok (.bipush 68, 2) := by decide +kernel
theorem dX5_makeStep_34 : decode cX5_makeStep 34 = .ok (.iload_n 1, 1) := by decide +kernel
theorem dX5_makeStep_35 : decode cX5_makeStep 35 = .ok (.iadd, 1) := by decide +kernel
theorem dX5_makeStep_36 : decode cX5_makeStep 36 = .ok (.dup2, 1) := by decide +kernel
theorem dX5_makeStep_37 : decode cX5_makeStep 37 = .ok (.iaload, 1) := by decide +kernel
theorem dX5_makeStep_38 : decode cX5_makeStep 38 = .ok (.iload_n 3, 1) := by decide +kernel
theorem dX5_makeStep_39 : decode cX5_makeStep 39 = .ok (.ifCond .eq 7, 3) := by decide +kernel
theorem dX5_makeStep_42 : decode cX5_makeStep 42 = .ok (.iconst 1, 1) := by decide +kernel
theorem dX5_makeStep_43 : decode cX5_makeStep 43 = .ok (.goto 4, 3) := by decide +kernel
theorem dX5_makeStep_46 : decode cX5_makeStep 46 = .ok (.iconst 0, 1) := by decide +kernel
theorem dX5_makeStep_47 : decode cX5_makeStep 47 = .ok (.iadd, 1) := by decide +kernel
theorem dX5_makeStep_48 : decode cX5_makeStep 48 = .ok (.iastore, 1) := by decide +kernel
theorem dX5_makeStep_49 : decode cX5_makeStep 49 = .ok (.aload_n 0, 1) := by decide +kernel
theorem dX5_makeStep_50 : decode cX5_makeStep 50 = .ok (.getfield 7, 3) := by decide +kernel
theorem dX5_makeStep_53 : decode cX5_makeStep 53 = .ok (.bipush 80, 2) := by decide +kernel
theorem dX5_makeStep_55 : decode cX5_makeStep 55 = .ok (.iload_n 1, 1) := by decide +kernel
theorem dX5_makeStep_56 : decode cX5_makeStep 56 = .ok (.iadd, 1) := by decide +kernel
theorem dX5_makeStep_57 : decode cX5_makeStep 57 = .ok (.dup2, 1) := by decide +kernel
theorem dX5_makeStep_58 : decode cX5_makeStep 58 = .ok (.iaload, 1) := by decide +kernel
theorem dX5_makeStep_59 : decode cX5_makeStep 59 = .ok (.aload_n 0, 1) := by decide +kernel
theorem dX5_makeStep_60 : decode cX5_makeStep 60 = .ok (.getfield 7, 3) := by decide +kernel
theorem dX5_makeStep_63 : decode cX5_makeStep 63 = .ok (.bipush 60, 2) := by decide +kernel
theorem dX5_makeStep_65 : decode cX5_makeStep 65 = .ok (.iaload, 1) := by decide +kernel
theorem dX5_makeStep_66 : decode cX5_makeStep 66 = .ok (.iload_n 2, 1) := by decide +kernel
theorem dX5_makeStep_67 : decode cX5_makeStep 67 = .ok (.invokestatic 90, 3) := by decide +kernel
theorem dX5_makeStep_70 : decode cX5_makeStep 70 = .ok (.iadd, 1) := by decide +kernel
theorem dX5_makeStep_71 : decode cX5_makeStep 71 = .ok (.iastore, 1) := by decide +kernel
theorem dX5_makeStep_72 : decode cX5_makeStep 72 = .ok (.iload_n 3, 1) := by decide +kernel
theorem dX5_makeStep_73 : decode cX5_makeStep 73 = .ok (.ifCond .eq 4, 3) := by decide +kernel
theorem dX5_makeStep_76 : decode cX5_makeStep 76 = .ok (.return_, 1) := by decide +kernel
theorem dX5_makeStep_77 : decode cX5_makeStep 77 = .ok (.aload_n 0, 1) := by decide +kernel
theorem dX5_makeStep_78 : decode cX5_makeStep 78 = .ok (.iload_n 1, 1) := by decide +kernel
theorem dX5_makeStep_79 : decode cX5_makeStep 79 = .ok (.invokevirtual 94, 3) := by decide +kernel
theorem dX5_makeStep_82 : decode cX5_makeStep 82 = .ok (.aload_n 0, 1) := by decide +kernel
theorem dX5_makeStep_83 : decode cX5_makeStep 83 = .ok (.getfield 7, 3) := by decide +kernel
theorem dX5_makeStep_86 : decode cX5_makeStep 86 = .ok (.iconst 0, 1) := by decide +kernel
theorem dX5_makeStep_87 : decode cX5_makeStep 87 = .ok (.iload_n 1, 1) := by decide +kernel
theorem dX5_makeStep_88 : decode cX5_makeStep 88 = .ok (.iadd, 1) := by decide +kernel
theorem dX5_makeStep_89 : decode cX5_makeStep 89 = .ok (.iaload, 1) := by decide +kernel
theorem dX5_makeStep_90 : decode cX5_makeStep 90 = .ok (.ifCond .ne 21, 3) := by decide +kernel
theorem dX5_makeStep_93 : decode cX5_makeStep 93 = .ok (.aload_n 0, 1) := by decide +kernel
theorem dX5_makeStep_94 : decode cX5_makeStep 94 = .ok (.getfield 7, 3) := by decide +kernel
theorem dX5_makeStep_97 : decode cX5_makeStep 97 = .ok (.bipush 74, 2) := by decide +kernel
theorem dX5_makeStep_99 : decode cX5_makeStep 99 = .ok (.iload_n 1, 1) := by decide +kernel
theorem dX5_makeStep_100 : decode cX5_makeStep 100 = .ok (.iadd, 1) := by decide +kernel
theorem dX5_makeStep_101 : decode cX5_makeStep 101 = .ok (.dup2, 1) := by decide +kernel
theorem dX5_makeStep_102 : decode cX5_makeStep 102 = .ok (.iaload, 1) := by decide +kernel
theorem dX5_makeStep_103 : decode cX5_makeStep 103 = .ok (.iconst 1, 1) := by decide +kernel
theorem dX5_makeStep_104 : decode cX5_makeStep 104 = .ok (.iadd, 1) := by decide +kernel
theorem dX5_makeStep_105 : decode cX5_makeStep 105 = .ok (.iastore, 1) := by decide +kernel
theorem dX5_makeStep_106 : decode cX5_makeStep 106 = .ok (.aload_n 0, 1) := by decide +kernel
theorem dX5_makeStep_107 : decode cX5_makeStep 107 = .ok (.iload_n 1, 1) := by decide +kernel
theorem dX5_makeStep_108 : decode cX5_makeStep 108 = .ok (.invokevirtual 97, 3) := by decide +kernel
theorem dX5_makeStep_111 : decode cX5_makeStep 111 = .ok (.aload_n 0, 1) := by decide +kernel
theorem dX5_makeStep_112 : decode cX5_makeStep 112 = .ok (.getfield 7, 3) := by decide +kernel
theorem dX5_makeStep_115 : decode cX5_makeStep 115 = .ok (.bipush 60, 2) := by decide +kernel
theorem dX5_makeStep_117 : decode cX5_makeStep 117 = .ok (.iaload, 1) := by decide +kernel
theorem dX5_makeStep_118 : decode cX5_makeStep 118 = .ok (.iconst 3, 1) := by decide +kernel
theorem dX5_makeStep_119 : decode cX5_makeStep 119 = .ok (.if_icmp .ge 47, 3) := by decide +kernel
theorem dX5_makeStep_122 : decode cX5_makeStep 122 = .ok (.iload_n 2, 1) := by decide +kernel
theorem dX5_makeStep_123 : decode cX5_makeStep 123 = .ok (.iconst 2, 1) := by decide +kernel
theorem dX5_makeStep_124 : decode cX5_makeStep 124 = .ok (.if_icmp .ge 42, 3) := by decide +kernel
theorem dX5_makeStep_127 : decode cX5_makeStep 127 = .ok (.aload_n 0, 1) := by decide +kernel
theorem dX5_makeStep_128 : decode cX5_makeStep 128 = .ok (.getfield 7, 3) := by decide +kernel
theorem dX5_makeStep_131 : decode cX5_makeStep 131 = .ok (.iconst 0, 1) := by decide +kernel
theorem dX5_makeStep_132 : decode cX5_makeStep 132 = .ok (.iload_n 1, 1) := by decide +kernel
theorem dX5_makeStep_133 : decode cX5_makeStep 133 = .ok (.iadd, 1) := by decide +kernel
theorem dX5_makeStep_134 : decode cX5_makeStep 134 = .ok (.iaload, 1) := by decide +kernel
theorem dX5_makeStep_135 : decode cX5_makeStep 135 = .ok (.iconst 2, 1) := by decide +kernel
theorem dX5_makeStep_136 : decode cX5_makeStep 136 = .ok (.if_icmp .lt 30, 3) := by decide +kernel
theorem dX5_makeStep_139 : decode cX5_makeStep 139 = .ok (.aload_n 0, 1) := by decide +kernel
theorem dX5_makeStep_140 : decode cX5_makeStep 140 = .ok (.getfield 7, 3) := by decide +kernel
theorem dX5_makeStep_143 : decode cX5_makeStep 143 = .ok (.bipush 54, 2) := by decide +kernel
theorem dX5_makeStep_145 : decode cX5_makeStep 145 = .ok (.aload_n 0, 1) := by decide +kernel
theorem dX5_makeStep_146 : decode cX5_makeStep 146 = .ok (.getfield 7, 3) := by decide +kernel
theorem dX5_makeStep_149 : decode cX5_makeStep 149 = .ok (.bipush 53, 2) := by decide +kernel
theorem dX5_makeStep_151 : decode cX5_makeStep 151 = .ok (.iaload, 1) := by decide +kernel
theorem dX5_makeStep_152 : decode cX5_makeStep 152 = .ok (.iadd, 1) := by decide +kernel
theorem dX5_makeStep_153 : decode cX5_makeStep 153 = .ok (.iload_n 1, 1) := by decide +kernel
theorem dX5_makeStep_154 : decode cX5_makeStep 154 = .ok (.iastore, 1) := by decide +kernel
theorem dX5_makeStep_155 : decode cX5_makeStep 155 = .ok (.aload_n 0, 1) := by decide +kernel
theorem dX5_makeStep_156 : decode cX5_makeStep 156 = .ok (.getfield 7, 3) := by decide +kernel
theorem dX5_makeStep_159 : decode cX5_makeStep 159 = .ok (.bipush 53, 2) := by decide +kernel
theorem dX5_makeStep_161 : decode cX5_makeStep 161 = .ok (.dup2, 1) := by decide +kernel
theorem dX5_makeStep_162 : decode cX5_makeStep 162 = .ok (.iaload, 1) := by decide +kernel
theorem dX5_makeStep_163 : decode cX5_makeStep 163 = .ok (.iconst 1, 1) := by decide +kernel
theorem dX5_makeStep_164 : decode cX5_makeStep 164 = .ok (.iadd, 1) := by decide +kernel
theorem dX5_makeStep_165 : decode cX5_makeStep 165 = .ok (.iastore, 1) := by decide +kernel
theorem dX5_makeStep_166 : decode cX5_makeStep 166 = .ok (.return_, 1) := by decide +kernel
set_option maxRecDepth 20000 in
theorem ggX5_build_X5_in : GoodIn wsX5_build wsX5_in := goodIn_r _ [5] (by decide +kernel) (by decide +kernel)
set_option maxRecDepth 20000 in
theorem gX5_build_X5_in : GoodIn wsX5_build (va_wsS RX5 47 yX5_in wsX5_in) := goodIn_app (goodIn_of _ (by decide +kernel)) ggX5_build_X5_in
set_option maxRecDepth 20000 in
theorem ggX5_build_X5_notAway : GoodIn wsX5_build wsX5_notAway := goodIn_r _ [9, 1, 23, 24, 25, 26, 27, 28, 29, 30, 31, 32, 33, 34, 35, 36, 37, 38, 39, 40] (by decide +kernel) (by decide +kernel)
set_option maxRecDepth 20000 in
theorem gX5_build_X5_notAway : GoodIn wsX5_build (wsV RX5 63 RX5 yX5_notAway wsX5_notAway) := goodIn_app (goodIn_of _ (by decide +kernel)) ggX5_build_X5_notAway
set_option maxRecDepth 20000 in
theorem ggX5_build_X5_record : GoodIn wsX5_build wsX5_record := goodIn_r _ [13, 14, 15, 1, 16, 17, 4, 18, 23, 24, 25, 26, 27, 28, 29, 30, 31, 32, 33, 34, 35, 36, 37, 38, 39, 40] (by decide +kernel) (by decide +kernel)
set_option maxRecDepth 20000 in
theorem gX5_build_X5_record : GoodIn wsX5_build (wsV RX5 67 RX5 yX5_record wsX5_record) := goodIn_app (goodIn_of _ (by decide +kernel)) ggX5_build_X5_record
set_option maxRecDepth 20000 in
theorem ggX5_build_X5_clearLock : GoodIn wsX5_build wsX5_clearLock := goodIn_r _ [22, 1, 23, 24, 25, 26, 27, 28, 29, 30, 31, 32, 33, 34, 35, 36, 37, 38, 39, 40] (by decide +kernel) (by decide +kernel)
set_option maxRecDepth 20000 in
theorem gX5_build_X5_clearLock : GoodIn wsX5_build (wsV RX5 43 RX5 yX5_clearLock wsX5_clearLock) := goodIn_app (goodIn_of _ (by decide +kernel)) ggX5_build_X5_clearLock
theorem dX5_build_0 : decode cX5_build 0 = .ok (.iload_n 1, 1) := by decide +kernel
theorem dX5_build_1 : decode cX5_build 1 = .ok (.iconst 0, 1) := by decide +kernel
theorem dX5_build_2 : decode cX5_build 2 = .ok (.iconst 3, 1) := by decide +kernel
theorem dX5_build_3 : decode cX5_build 3 = .ok (.invokestatic 47, 3) := by decide +kernel
theorem dX5_build_6 : decode cX5_build 6 = .ok (.ifCond .ne 5, 3) := by decide +kernel
theorem dX5_build_9 : decode cX5_build 9 = .ok (.iconst (-1), 1) := by decide +kernel
theorem dX5_build_10 : decode cX5_build 10 = .ok (.ireturn, 1) := by decide +kernel
theorem dX5_build_11 : decode cX5_build 11 = .ok (.aload_n 0, 1) := by decide +kernel
theorem dX5_build_12 : decode cX5_build 12 = .ok (.invokevirtual 63, 3) := by decide +kernel
theorem dX5_build_15 : decode cX5_build 15 = .ok (.ifCond .le 6, 3) := by decide +kernel
theorem dX5_build_18 : decode cX5_build 18 = .ok (.bipush (-4), 2) := by decide +kernel
theorem dX5_build_20 : decode cX5_build 20 = .ok (.ireturn, 1) := by decide +kernel
theorem dX5_build_21 : decode cX5_build 21 = .ok (.aload_n 0, 1) := by decide +kernel
theorem dX5_build_22 : decode cX5_build 22 = .ok (.invokevirtual 67, 3) := by decide +kernel
theorem dX5_build_25 : decode cX5_build 25 = .ok (.aload_n 0, 1) := by decide +kernel
theorem dX5_build_26 : decode cX5_build 26 = .ok (.getfield 7, 3) := by decide +kernel
theorem dX5_build_29 : decode cX5_build 29 = .ok (.bipush 60, 2) := by decide +kernel
theorem dX5_build_31 : decode cX5_build 31 = .ok (.iaload, 1) := by decide +kernel
theorem dX5_build_32 : decode cX5_build 32 = .ok (.istore_n 2, 1) := by decide +kernel
theorem dX5_build_33 : decode cX5_build 33 = .ok (.aload_n 0, 1) := by decide +kernel
theorem dX5_build_34 : decode cX5_build 34 = .ok (.iload_n 1, 1) := by decide +kernel
theorem dX5_build_35 : decode cX5_build 35 = .ok (.invokevirtual 43, 3) := by decide +kernel
theorem dX5_build_38 : decode cX5_build 38 = .ok (.iload_n 2, 1) := by decide +kernel
theorem dX5_build_39 : decode cX5_build 39 = .ok (.ireturn, 1) := by decide +kernel
set_option maxRecDepth 20000 in
theorem ggX5_step_X5_isVisitor : GoodIn wsX5_step wsX5_isVisitor := goodIn_r _ [5, 6, 7, 4, 8] (by decide +kernel) (by decide +kernel)
set_option maxRecDepth 20000 in
theorem gX5_step_X5_isVisitor : GoodIn wsX5_step (va_wsS RX5 100 yX5_isVisitor wsX5_isVisitor) := goodIn_app (goodIn_of _ (by decide +kernel)) ggX5_step_X5_isVisitor
set_option maxRecDepth 20000 in
theorem ggX5_step_X5_record : GoodIn wsX5_step wsX5_record := goodIn_r _ [12, 13, 14, 1, 15, 16, 4, 17, 57, 58, 59, 60, 61, 62, 63, 64, 65, 66, 67, 68, 69, 70, 71, 72, 73, 74] (by decide +kernel) (by decide +kernel)
set_option maxRecDepth 20000 in
theorem gX5_step_X5_record : GoodIn wsX5_step (wsV RX5 67 RX5 yX5_record wsX5_record) := goodIn_app (goodIn_of _ (by decide +kernel)) ggX5_step_X5_record
set_option maxRecDepth 20000 in
theorem ggX5_step_X5_makeStep : GoodIn wsX5_step wsX5_makeStep := goodIn_r _ [21, 1, 22, 23, 24, 4, 25, 26, 27, 28, 29, 30, 31, 32, 33, 34, 35, 36, 37, 38, 39, 40, 41, 42, 43, 44, 45, 46, 47, 48, 49, 50, 51, 52, 53, 54, 55, 56, 57, 58, 59, 60, 61, 62, 63, 64, 65, 66, 67, 68, 69, 70, 71, 72, 73, 74] (by decide +kernel) (by decide +kernel)
set_option maxRecDepth 20000 in
theorem gX5_step_X5_makeStep : GoodIn wsX5_step (wsV RX5 103 RX5 yX5_makeStep wsX5_makeStep) := goodIn_app (goodIn_of _ (by decide +kernel)) ggX5_step_X5_makeStep
theorem dX5_step_0 : decode cX5_step 0 = .ok (.iload_n 1, 1) := by decide +kernel
theorem dX5_step_1 : decode cX5_step 1 = .ok (.invokestatic 100, 3) := by decide +kernel
theorem dX5_step_4 : decode cX5_step 4 = .ok (.ifCond .ne 5, 3) := by decide +kernel
theorem dX5_step_7 : decode cX5_step 7 = .ok (.iconst (-1), 1) := by decide +kernel
theorem dX5_step_8 : decode cX5_step 8 = .ok (.ireturn, 1) := by decide +kernel
theorem dX5_step_9 : decode cX5_step 9 = .ok (.aload_n 0, 1) := by decide +kernel
theorem dX5_step_10 : decode cX5_step 10 = .ok (.invokevirtual 67, 3) := by decide +kernel
theorem dX5_step_13 : decode cX5_step 13 = .ok (.aload_n 0, 1) := by decide +kernel
theorem dX5_step_14 : decode cX5_step 14 = .ok (.iload_n 1, 1) := by decide +kernel
theorem dX5_step_15 : decode cX5_step 15 = .ok (.invokevirtual 103, 3) := by decide +kernel
theorem dX5_step_18 : decode cX5_step 18 = .ok (.aload_n 0, 1) := by decide +kernel
theorem dX5_step_19 : decode cX5_step 19 = .ok (.getfield 7, 3) := by decide +kernel
theorem dX5_step_22 : decode cX5_step 22 = .ok (.iconst 0, 1) := by decide +kernel
theorem dX5_step_23 : decode cX5_step 23 = .ok (.iload_n 1, 1) := by decide +kernel
theorem dX5_step_24 : decode cX5_step 24 = .ok (.iadd, 1) := by decide +kernel
theorem dX5_step_25 : decode cX5_step 25 = .ok (.iaload, 1) := by decide +kernel
theorem dX5_step_26 : decode cX5_step 26 = .ok (.ireturn, 1) := by decide +kernel
set_option maxRecDepth 20000 in
theorem ggX5_go_X5_isVisitor : GoodIn wsX5_go wsX5_isVisitor := goodIn_r _ [5, 6, 7, 4, 8] (by decide +kernel) (by decide +kernel)
set_option maxRecDepth 20000 in
theorem gX5_go_X5_isVisitor : GoodIn wsX5_go (va_wsS RX5 100 yX5_isVisitor wsX5_isVisitor) := goodIn_app (goodIn_of _ (by decide +kernel)) ggX5_go_X5_isVisitor
set_option maxRecDepth 20000 in
theorem ggX5_go_X5_isLook : GoodIn wsX5_go wsX5_isLook := goodIn_r _ [12, 1, 57, 58, 59, 60, 61, 62, 63, 64, 65, 66, 67, 68, 69, 70, 71, 72, 73, 74] (by decide +kernel) (by decide +kernel)
set_option maxRecDepth 20000 in
theorem gX5_go_X5_isLook : GoodIn wsX5_go (wsV RX5 86 RX5 yX5_isLook wsX5_isLook) := goodIn_app (goodIn_of _ (by decide +kernel)) ggX5_go_X5_isLook
set_option maxRecDepth 20000 in
theorem ggX5_go_X5_record : GoodIn wsX5_go wsX5_record := goodIn_r _ [16, 17, 18, 1, 19, 20, 4, 21, 57, 58, 59, 60, 61, 62, 63, 64, 65, 66, 67, 68, 69, 70, 71, 72, 73, 74] (by decide +kernel) (by decide +kernel)
set_option maxRecDepth 20000 in
theorem gX5_go_X5_record : GoodIn wsX5_go (wsV RX5 67 RX5 yX5_record wsX5_record) := goodIn_app (goodIn_of _ (by decide +kernel)) ggX5_go_X5_record
set_option maxRecDepth 20000 in
theorem ggX5_go_X5_makeStep : GoodIn wsX5_go wsX5_makeStep := goodIn_r _ [25, 1, 9, 10, 11, 4, 12, 26, 27, 28, 29, 30, 31, 32, 33, 34, 35, 36, 37, 38, 39, 40, 41, 42, 43, 44, 45, 46, 47, 48, 49, 50, 51, 52, 53, 54, 55, 56, 57, 58, 59, 60, 61, 62, 63, 64, 65, 66, 67, 68, 69, 70, 71, 72, 73, 74] (by decide +kernel) (by decide +kernel)
set_option maxRecDepth 20000 in
theorem gX5_go_X5_makeStep : GoodIn wsX5_go (wsV RX5 103 RX5 yX5_makeStep wsX5_makeStep) := goodIn_app (goodIn_of _ (by decide +kernel)) ggX5_go_X5_makeStep
theorem dX5_go_0 : decode cX5_go 0 = .ok (.iload_n 1, 1) := by decide +kernel
theorem dX5_go_1 : decode cX5_go 1 = .ok (.invokestatic 100, 3) := by decide +kernel
theorem dX5_go_4 : decode cX5_go 4 = .ok (.ifCond .ne 5, 3) := by decide +kernel
theorem dX5_go_7 : decode cX5_go 7 = .ok (.iconst (-1), 1) := by decide +kernel
theorem dX5_go_8 : decode cX5_go 8 = .ok (.ireturn, 1) := by decide +kernel
theorem dX5_go_9 : decode cX5_go 9 = .ok (.aload_n 0, 1) := by decide +kernel
theorem dX5_go_10 : decode cX5_go 10 = .ok (.iload_n 1, 1) := by decide +kernel
theorem dX5_go_11 : decode cX5_go 11 = .ok (.invokevirtual 86, 3) := by decide +kernel
theorem dX5_go_14 : decode cX5_go 14 = .ok (.ifCond .eq 6, 3) := by decide +kernel
theorem dX5_go_17 : decode cX5_go 17 = .ok (.bipush (-5), 2) := by decide +kernel
theorem dX5_go_19 : decode cX5_go 19 = .ok (.ireturn, 1) := by decide +kernel
theorem dX5_go_20 : decode cX5_go 20 = .ok (.aload_n 0, 1) := by decide +kernel
theorem dX5_go_21 : decode cX5_go 21 = .ok (.invokevirtual 67, 3) := by decide +kernel
theorem dX5_go_24 : decode cX5_go 24 = .ok (.iconst 0, 1) := by decide +kernel
theorem dX5_go_25 : decode cX5_go 25 = .ok (.istore_n 2, 1) := by decide +kernel
theorem dX5_go_26 : decode cX5_go 26 = .ok (.iconst 1, 1) := by decide +kernel
theorem dX5_go_27 : decode cX5_go 27 = .ok (.istore_n 3, 1) := by decide +kernel
theorem dX5_go_28 : decode cX5_go 28 = .ok (.iload_n 3, 1) := by decide +kernel
theorem dX5_go_29 : decode cX5_go 29 = .ok (.ifCond .eq 51, 3) := by decide +kernel
theorem dX5_go_32 : decode cX5_go 32 = .ok (.aload_n 0, 1) := by decide +kernel
theorem dX5_go_33 : decode cX5_go 33 = .ok (.iload_n 1, 1) := by decide +kernel
theorem dX5_go_34 : decode cX5_go 34 = .ok (.invokevirtual 103, 3) := by decide +kernel
theorem dX5_go_37 : decode cX5_go 37 = .ok (.iinc 2 1, 3) := by decide +kernel
theorem dX5_go_40 : decode cX5_go 40 = .ok (.aload_n 0, 1) := by decide +kernel
theorem dX5_go_41 : decode cX5_go 41 = .ok (.getfield 7, 3) := by decide +kernel
theorem dX5_go_44 : decode cX5_go 44 = .ok (.iconst 0, 1) := by decide +kernel
theorem dX5_go_45 : decode cX5_go 45 = .ok (.iload_n 1, 1) := by decide +kernel
theorem dX5_go_46 : decode cX5_go 46 = .ok (.iadd, 1) := by decide +kernel
theorem dX5_go_47 : decode cX5_go 47 = .ok (.iaload, 1) := by decide +kernel
theorem dX5_go_48 : decode cX5_go 48 = .ok (.iconst 4, 1) := by decide +kernel
theorem dX5_go_49 : decode cX5_go 49 = .ok (.if_icmp .eq 26, 3) := by decide +kernel
theorem dX5_go_52 : decode cX5_go 52 = .ok (.aload_n 0, 1) := by decide +kernel
theorem dX5_go_53 : decode cX5_go 53 = .ok (.getfield 7, 3) := by decide +kernel
theorem dX5_go_56 : decode cX5_go 56 = .ok (.iconst 0, 1) := by decide +kernel
theorem dX5_go_57 : decode cX5_go 57 = .ok (.iload_n 1, 1) := by decide +kernel
theorem dX5_go_58 : decode cX5_go 58 = .ok (.iadd, 1) := by decide +kernel
theorem dX5_go_59 : decode cX5_go 59 = .ok (.iaload, 1) := by decide +kernel
theorem dX5_go_60 : decode cX5_go 60 = .ok (.ifCond .eq 15, 3) := by decide +kernel
theorem dX5_go_63 : decode cX5_go 63 = .ok (.aload_n 0, 1) := by decide +kernel
theorem dX5_go_64 : decode cX5_go 64 = .ok (.iload_n 1, 1) := by decide +kernel
theorem dX5_go_65 : decode cX5_go 65 = .ok (.invokevirtual 86, 3) := by decide +kernel
theorem dX5_go_68 : decode cX5_go 68 = .ok (.ifCond .ne 7, 3) := by decide +kernel
theorem dX5_go_71 : decode cX5_go 71 = .ok (.iconst 1, 1) := by decide +kernel
theorem dX5_go_72 : decode cX5_go 72 = .ok (.goto 4, 3) := by decide +kernel
theorem dX5_go_75 : decode cX5_go 75 = .ok (.iconst 0, 1) := by decide +kernel
theorem dX5_go_76 : decode cX5_go 76 = .ok (.istore_n 3, 1) := by decide +kernel
theorem dX5_go_77 : decode cX5_go 77 = .ok (.goto (-49), 3) := by decide +kernel
theorem dX5_go_80 : decode cX5_go 80 = .ok (.iload_n 2, 1) := by decide +kernel
theorem dX5_go_81 : decode cX5_go 81 = .ok (.ireturn, 1) := by decide +kernel
theorem dX5_bits_0 : decode cX5_bits 0 = .ok (.iconst 0, 1) := by decide +kernel
theorem dX5_bits_1 : decode cX5_bits 1 = .ok (.istore_n 1, 1) := by decide +kernel
theorem dX5_bits_2 : decode cX5_bits 2 = .ok (.iconst 0, 1) := by decide +kernel
theorem dX5_bits_3 : decode cX5_bits 3 = .ok (.istore_n 2, 1) := by decide +kernel
theorem dX5_bits_4 : decode cX5_bits 4 = .ok (.iload_n 2, 1) := by decide +kernel
theorem dX5_bits_5 : decode cX5_bits 5 = .ok (.bipush 6, 2) := by decide +kernel
theorem dX5_bits_7 : decode cX5_bits 7 = .ok (.if_icmp .ge 17, 3) := by decide +kernel
theorem dX5_bits_10 : decode cX5_bits 10 = .ok (.iload_n 1, 1) := by decide +kernel
theorem dX5_bits_11 : decode cX5_bits 11 = .ok (.iload_n 0, 1) := by decide +kernel
theorem dX5_bits_12 : decode cX5_bits 12 = .ok (.iload_n 2, 1) := by decide +kernel
theorem dX5_bits_13 : decode cX5_bits 13 = .ok (.ishr, 1) := by decide +kernel
theorem dX5_bits_14 : decode cX5_bits 14 = .ok (.iconst 1, 1) := by decide +kernel
theorem dX5_bits_15 : decode cX5_bits 15 = .ok (.iand, 1) := by decide +kernel
theorem dX5_bits_16 : decode cX5_bits 16 = .ok (.iadd, 1) := by decide +kernel
theorem dX5_bits_17 : decode cX5_bits 17 = .ok (.istore_n 1, 1) := by decide +kernel
theorem dX5_bits_18 : decode cX5_bits 18 = .ok (.iinc 2 1, 3) := by decide +kernel
theorem dX5_bits_21 : decode cX5_bits 21 = .ok (.goto (-17), 3) := by decide +kernel
theorem dX5_bits_24 : decode cX5_bits 24 = .ok (.iload_n 1, 1) := by decide +kernel
theorem dX5_bits_25 : decode cX5_bits 25 = .ok (.ireturn, 1) := by decide +kernel
theorem dX5_pick_0 : decode cX5_pick 0 = .ok (.bipush (-5), 2) := by decide +kernel
theorem dX5_pick_2 : decode cX5_pick 2 = .ok (.istore_n 2, 1) := by decide +kernel
theorem dX5_pick_3 : decode cX5_pick 3 = .ok (.iconst 0, 1) := by decide +kernel
theorem dX5_pick_4 : decode cX5_pick 4 = .ok (.istore_n 3, 1) := by decide +kernel
theorem dX5_pick_5 : decode cX5_pick 5 = .ok (.iconst 0, 1) := by decide +kernel
theorem dX5_pick_6 : decode cX5_pick 6 = .ok (.istore 4, 2) := by decide +kernel
theorem dX5_pick_8 : decode cX5_pick 8 = .ok (.iload 4, 2) := by decide +kernel
theorem dX5_pick_10 : decode cX5_pick 10 = .ok (.bipush 6, 2) := by decide +kernel
theorem dX5_pick_12 : decode cX5_pick 12 = .ok (.if_icmp .ge 40, 3) := by decide +kernel
theorem dX5_pick_15 : decode cX5_pick 15 = .ok (.iload_n 0, 1) := by decide +kernel
theorem dX5_pick_16 : decode cX5_pick 16 = .ok (.iload 4, 2) := by decide +kernel
theorem dX5_pick_18 : decode cX5_pick 18 = .ok (.ishr, 1) := by decide +kernel
theorem dX5_pick_19 : decode cX5_pick 19 = .ok (.iconst 1, 1) := by decide +kernel
theorem dX5_pick_20 : decode cX5_pick 20 = .ok (.iand, 1) := by decide +kernel
theorem dX5_pick_21 : decode cX5_pick 21 = .ok (.iconst 1, 1) := by decide +kernel
theorem dX5_pick_22 : decode cX5_pick 22 = .ok (.if_icmp .ne 13, 3) := by decide +kernel
theorem dX5_pick_25 : decode cX5_pick 25 = .ok (.iload_n 3, 1) := by decide +kernel
theorem dX5_pick_26 : decode cX5_pick 26 = .ok (.iload_n 1, 1) := by decide +kernel
theorem dX5_pick_27 : decode cX5_pick 27 = .ok (.if_icmp .ne 8, 3) := by decide +kernel
theorem dX5_pick_30 : decode cX5_pick 30 = .ok (.iload 4, 2) := by decide +kernel
theorem dX5_pick_32 : decode cX5_pick 32 = .ok (.goto 4, 3) := by decide +kernel
theorem dX5_pick_35 : decode cX5_pick 35 = .ok (.iload_n 2, 1) := by decide +kernel
theorem dX5_pick_36 : decode cX5_pick 36 = .ok (.istore_n 2, 1) := by decide +kernel
theorem dX5_pick_37 : decode cX5_pick 37 = .ok (.iload_n 3, 1) := by decide +kernel
theorem dX5_pick_38 : decode cX5_pick 38 = .ok (.iload_n 0, 1) := by decide +kernel
theorem dX5_pick_39 : decode cX5_pick 39 = .ok (.iload 4, 2) := by decide +kernel
theorem dX5_pick_41 : decode cX5_pick 41 = .ok (.ishr, 1) := by decide +kernel
theorem dX5_pick_42 : decode cX5_pick 42 = .ok (.iconst 1, 1) := by decide +kernel
theorem dX5_pick_43 : decode cX5_pick 43 = .ok (.iand, 1) := by decide +kernel
theorem dX5_pick_44 : decode cX5_pick 44 = .ok (.iadd, 1) := by decide +kernel
theorem dX5_pick_45 : decode cX5_pick 45 = .ok (.istore_n 3, 1) := by decide +kernel
theorem dX5_pick_46 : decode cX5_pick 46 = .ok (.iinc 4 1, 3) := by decide +kernel
theorem dX5_pick_49 : decode cX5_pick 49 = .ok (.goto (-41), 3) := by decide +kernel
theorem dX5_pick_52 : decode cX5_pick 52 = .ok (.iload_n 2, 1) := by decide +kernel
theorem dX5_pick_53 : decode cX5_pick 53 = .ok (.ireturn, 1) := by decide +kernel
theorem dX5_sum_0 : decode cX5_sum 0 = .ok (.iconst 0, 1) := by decide +kernel
theorem dX5_sum_1 : decode cX5_sum 1 = .ok (.istore_n 2, 1) := by decide +kernel
theorem dX5_sum_2 : decode cX5_sum 2 = .ok (.iconst 0, 1) := by decide +kernel
theorem dX5_sum_3 : decode cX5_sum 3 = .ok (.istore_n 3, 1) := by decide +kernel
theorem dX5_sum_4 : decode cX5_sum 4 = .ok (.iload_n 3, 1) := by decide +kernel
theorem dX5_sum_5 : decode cX5_sum 5 = .ok (.bipush 6, 2) := by decide +kernel
theorem dX5_sum_7 : decode cX5_sum 7 = .ok (.if_icmp .ge 20, 3) := by decide +kernel
theorem dX5_sum_10 : decode cX5_sum 10 = .ok (.iload_n 2, 1) := by decide +kernel
theorem dX5_sum_11 : decode cX5_sum 11 = .ok (.aload_n 0, 1) := by decide +kernel
theorem dX5_sum_12 : decode cX5_sum 12 = .ok (.getfield 7, 3) := by decide +kernel
theorem dX5_sum_15 : decode cX5_sum 15 = .ok (.iload_n 1, 1) := by decide +kernel
theorem dX5_sum_16 : decode cX5_sum 16 = .ok (.iload_n 3, 1) := by decide +kernel
theorem dX5_sum_17 : decode cX5_sum 17 = .ok (.iadd, 1) := by decide +kernel
theorem dX5_sum_18 : decode cX5_sum 18 = .ok (.iaload, 1) := by decide +kernel
theorem dX5_sum_19 : decode cX5_sum 19 = .ok (.iadd, 1) := by decide +kernel
theorem dX5_sum_20 : decode cX5_sum 20 = .ok (.istore_n 2, 1) := by decide +kernel
theorem dX5_sum_21 : decode cX5_sum 21 = .ok (.iinc 3 1, 3) := by decide +kernel
theorem dX5_sum_24 : decode cX5_sum 24 = .ok (.goto (-20), 3) := by decide +kernel
theorem dX5_sum_27 : decode cX5_sum 27 = .ok (.iload_n 2, 1) := by decide +kernel
theorem dX5_sum_28 : decode cX5_sum 28 = .ok (.ireturn, 1) := by decide +kernel
set_option maxRecDepth 20000 in
theorem ggX5_draw_X5_in : GoodIn wsX5_draw wsX5_in := goodIn_r _ [9] (by decide +kernel) (by decide +kernel)
set_option maxRecDepth 20000 in
theorem gX5_draw_X5_in : GoodIn wsX5_draw (va_wsS RX5 47 yX5_in wsX5_in) := goodIn_app (goodIn_of _ (by decide +kernel)) ggX5_draw_X5_in
set_option maxRecDepth 20000 in
theorem ggX5_draw_X5_record : GoodIn wsX5_draw wsX5_record := goodIn_r _ [13, 14, 15, 1, 16, 17, 8, 18, 68, 69, 70, 71, 72, 73, 74, 75, 76, 77, 78, 79, 80, 81, 82, 83, 84, 85] (by decide +kernel) (by decide +kernel)
set_option maxRecDepth 20000 in
theorem gX5_draw_X5_record : GoodIn wsX5_draw (wsV RX5 67 RX5 yX5_record wsX5_record) := goodIn_app (goodIn_of _ (by decide +kernel)) ggX5_draw_X5_record
set_option maxRecDepth 20000 in
theorem ggX5_draw_X5_sum : GoodIn wsX5_draw wsX5_sum := goodIn_r _ [22, 1, 68, 69, 70, 71, 72, 73, 74, 75, 76, 77, 78, 79, 80, 81, 82, 83, 84, 85] (by decide +kernel) (by decide +kernel)
set_option maxRecDepth 20000 in
theorem gX5_draw_X5_sum : GoodIn wsX5_draw (wsV RX5 106 RX5 yX5_sum wsX5_sum) := goodIn_app (goodIn_of _ (by decide +kernel)) ggX5_draw_X5_sum
set_option maxRecDepth 20000 in
theorem ggX5_draw_X5_bits : GoodIn wsX5_draw wsX5_bits := goodIn_r _ [25] (by decide +kernel) (by decide +kernel)
set_option maxRecDepth 20000 in
theorem gX5_draw_X5_bits : GoodIn wsX5_draw (va_wsS RX5 116 yX5_bits wsX5_bits) := goodIn_app (goodIn_of _ (by decide +kernel)) ggX5_draw_X5_bits
set_option maxRecDepth 20000 in
theorem ggX5_draw_X5_pick : GoodIn wsX5_draw wsX5_pick := goodIn_r _ [28] (by decide +kernel) (by decide +kernel)
set_option maxRecDepth 20000 in
theorem gX5_draw_X5_pick : GoodIn wsX5_draw (va_wsS RX5 119 yX5_pick wsX5_pick) := goodIn_app (goodIn_of _ (by decide +kernel)) ggX5_draw_X5_pick
set_option maxRecDepth 20000 in
theorem ggX5_draw_X5_makeStep : GoodIn wsX5_draw wsX5_makeStep := goodIn_r _ [32, 1, 33, 34, 35, 8, 36, 37, 38, 39, 40, 41, 42, 43, 44, 45, 46, 47, 48, 49, 50, 51, 52, 53, 54, 55, 56, 57, 58, 59, 60, 61, 62, 63, 64, 65, 66, 67, 68, 69, 70, 71, 72, 73, 74, 75, 76, 77, 78, 79, 80, 81, 82, 83, 84, 85] (by decide +kernel) (by decide +kernel)
set_option maxRecDepth 20000 in
theorem gX5_draw_X5_makeStep : GoodIn wsX5_draw (wsV RX5 103 RX5 yX5_makeStep wsX5_makeStep) := goodIn_app (goodIn_of _ (by decide +kernel)) ggX5_draw_X5_makeStep
theorem dX5_draw_0 : decode cX5_draw 0 = .ok (.iload_n 1, 1) := by decide +kernel
theorem dX5_draw_1 : decode cX5_draw 1 = .ok (.iconst 1, 1) := by decide +kernel
theorem dX5_draw_2 : decode cX5_draw 2 = .ok (.bipush 63, 2) := by decide +kernel
theorem dX5_draw_4 : decode cX5_draw 4 = .ok (.invokestatic 47, 3) := by decide +kernel
theorem dX5_draw_7 : decode cX5_draw 7 = .ok (.ifCond .eq 14, 3) := by decide +kernel
theorem dX5_draw_10 : decode cX5_draw 10 = .ok (.iload_n 2, 1) := by decide +kernel
theorem dX5_draw_11 : decode cX5_draw 11 = .ok (.iconst 1, 1) := by decide +kernel
theorem dX5_draw_12 : decode cX5_draw 12 = .ok (.sipush 200, 3) := by decide +kernel
theorem dX5_draw_15 : decode cX5_draw 15 = .ok (.invokestatic 47, 3) := by decide +kernel
theorem dX5_draw_18 : decode cX5_draw 18 = .ok (.ifCond .ne 6, 3) := by decide +kernel
theorem dX5_draw_21 : decode cX5_draw 21 = .ok (.bipush (-2), 2) := by decide +kernel
theorem dX5_draw_23 : decode cX5_draw 23 = .ok (.ireturn, 1) := by decide +kernel
theorem dX5_draw_24 : decode cX5_draw 24 = .ok (.aload_n 0, 1) := by decide +kernel
theorem dX5_draw_25 : decode cX5_draw 25 = .ok (.invokevirtual 67, 3) := by decide +kernel
theorem dX5_draw_28 : decode cX5_draw 28 = .ok (.aload_n 0, 1) := by decide +kernel
theorem dX5_draw_29 : decode cX5_draw 29 = .ok (.bipush 74, 2) := by decide +kernel
theorem dX5_draw_31 : decode cX5_draw 31 = .ok (.invokevirtual 106, 3) := by decide +kernel
theorem dX5_draw_34 : decode cX5_draw 34 = .ok (.istore_n 3, 1) := by decide +kernel
theorem dX5_draw_35 : decode cX5_draw 35 = .ok (.iconst 0, 1) := by decide +kernel
theorem dX5_draw_36 : decode cX5_draw 36 = .ok (.istore 4, 2) := by decide +kernel
theorem dX5_draw_38 : decode cX5_draw 38 = .ok (.iload 4, 2) := by decide +kernel
theorem dX5_draw_40 : decode cX5_draw 40 = .ok (.iload_n 2, 1) := by decide +kernel
theorem dX5_draw_41 : decode cX5_draw 41 = .ok (.if_icmp .ge 60, 3) := by decide +kernel
theorem dX5_draw_44 : decode cX5_draw 44 = .ok (.aload_n 0, 1) := by decide +kernel
theorem dX5_draw_45 : decode cX5_draw 45 = .ok (.getfield 7, 3) := by decide +kernel
theorem dX5_draw_48 : decode cX5_draw 48 = .ok (.bipush 61, 2) := by decide +kernel
theorem dX5_draw_50 : decode cX5_draw 50 = .ok (.aload_n 0, 1) := by decide +kernel
theorem dX5_draw_51 : decode cX5_draw 51 = .ok (.getfield 7, 3) := by decide +kernel
theorem dX5_draw_54 : decode cX5_draw 54 = .ok (.bipush 61, 2) := by decide +kernel
theorem dX5_draw_56 : decode cX5_draw 56 = .ok (.iaload, 1) := by decide +kernel
theorem dX5_draw_57 : decode cX5_draw 57 = .ok (.i2l, 1) := by decide +kernel
theorem dX5_draw_58 : decode cX5_draw 58 = .ok (.ldc2_w 109, 3) := by decide +kernel
theorem dX5_draw_61 : decode cX5_draw 61 = .ok (.lmul, 1) := by decide +kernel
theorem dX5_draw_62 : decode cX5_draw 62 = .ok (.ldc2_w 111, 3) := by decide +kernel
theorem dX5_draw_65 : decode cX5_draw 65 = .ok (.ladd, 1) := by decide +kernel
theorem dX5_draw_66 : decode cX5_draw 66 = .ok (.ldc2_w 113, 3) := by decide +kernel
theorem dX5_draw_69 : decode cX5_draw 69 = .ok (.lrem, 1) := by decide +kernel
theorem dX5_draw_70 : decode cX5_draw 70 = .ok (.l2i, 1) := by decide +kernel
theorem dX5_draw_71 : decode cX5_draw 71 = .ok (.iastore, 1) := by decide +kernel
theorem dX5_draw_72 : decode cX5_draw 72 = .ok (.aload_n 0, 1) := by decide +kernel
theorem dX5_draw_73 : decode cX5_draw 73 = .ok (.iload_n 1, 1) := by decide +kernel
theorem dX5_draw_74 : decode cX5_draw 74 = .ok (.aload_n 0, 1) := by decide +kernel
theorem dX5_draw_75 : decode cX5_draw 75 = .ok (.getfield 7, 3) := by decide +kernel
theorem dX5_draw_78 : decode cX5_draw 78 = .ok (.bipush 61, 2) := by decide +kernel
theorem dX5_draw_80 : decode cX5_draw 80 = .ok (.iaload, 1) := by decide +kernel
theorem dX5_draw_81 : decode cX5_draw 81 = .ok (.ldc 115, 2) := by decide +kernel
theorem dX5_draw_83 : decode cX5_draw 83 = .ok (.idiv, 1) := by decide +kernel
theorem dX5_draw_84 : decode cX5_draw 84 = .ok (.iload_n 1, 1) := by decide +kernel
theorem dX5_draw_85 : decode cX5_draw 85 = .ok (.invokestatic 116, 3) := by decide +kernel
theorem dX5_draw_88 : decode cX5_draw 88 = .ok (.irem, 1) := by decide +kernel
theorem dX5_draw_89 : decode cX5_draw 89 = .ok (.invokestatic 119, 3) := by decide +kernel
theorem dX5_draw_92 : decode cX5_draw 92 = .ok (.invokevirtual 103, 3) := by decide +kernel
theorem dX5_draw_95 : decode cX5_draw 95 = .ok (.iinc 4 1, 3) := by decide +kernel
theorem dX5_draw_98 : decode cX5_draw 98 = .ok (.goto (-60), 3) := by decide +kernel
theorem dX5_draw_101 : decode cX5_draw 101 = .ok (.aload_n 0, 1) := by decide +kernel
theorem dX5_draw_102 : decode cX5_draw 102 = .ok (.bipush 74, 2) := by decide +kernel
theorem dX5_draw_104 : decode cX5_draw 104 = .ok (.invokevirtual 106, 3) := by decide +kernel
theorem dX5_draw_107 : decode cX5_draw 107 = .ok (.iload_n 3, 1) := by decide +kernel
theorem dX5_draw_108 : decode cX5_draw 108 = .ok (.isub, 1) := by decide +kernel
theorem dX5_draw_109 : decode cX5_draw 109 = .ok (.ireturn, 1) := by decide +kernel
set_option maxRecDepth 20000 in
theorem ggX5_shuffle_X5_record : GoodIn wsX5_shuffle wsX5_record := goodIn_r _ [6, 7, 8, 1, 9, 10, 5, 11, 12, 13, 14, 15, 16, 17, 18, 19, 20, 21, 22, 23, 24, 25, 26, 27, 28, 29] (by decide +kernel) (by decide +kernel)
set_option maxRecDepth 20000 in
theorem gX5_shuffle_X5_record : GoodIn wsX5_shuffle (wsV RX5 67 RX5 yX5_record wsX5_record) := goodIn_app (goodIn_of _ (by decide +kernel)) ggX5_shuffle_X5_record
theorem dX5_shuffle_0 : decode cX5_shuffle 0 = .ok (.iload_n 1, 1) := by decide +kernel
theorem dX5_shuffle_1 : decode cX5_shuffle 1 = .ok (.ifCond .ge 6, 3) := by decide +kernel
theorem dX5_shuffle_4 : decode cX5_shuffle 4 = .ok (.bipush (-2), 2) := by decide +kernel
theorem dX5_shuffle_6 : decode cX5_shuffle 6 = .ok (.ireturn, 1) := by decide +kernel
theorem dX5_shuffle_7 : decode cX5_shuffle 7 = .ok (.iload_n 1, 1) := by decide +kernel
theorem dX5_shuffle_8 : decode cX5_shuffle 8 = .ok (.aload_n 0, 1) := by decide +kernel
theorem dX5_shuffle_9 : decode cX5_shuffle 9 = .ok (.getfield 7, 3) := by decide +kernel
theorem dX5_shuffle_12 : decode cX5_shuffle 12 = .ok (.bipush 61, 2) := by decide +kernel
theorem dX5_shuffle_14 : decode cX5_shuffle 14 = .ok (.iaload, 1) := by decide +kernel
theorem dX5_shuffle_15 : decode cX5_shuffle 15 = .ok (.if_icmp .ne 6, 3) := by decide +kernel
theorem dX5_shuffle_18 : decode cX5_shuffle 18 = .ok (.bipush (-5), 2) := by decide +kernel
theorem dX5_shuffle_20 : decode cX5_shuffle 20 = .ok (.ireturn, 1) := by decide +kernel
theorem dX5_shuffle_21 : decode cX5_shuffle 21 = .ok (.aload_n 0, 1) := by decide +kernel
theorem dX5_shuffle_22 : decode cX5_shuffle 22 = .ok (.invokevirtual 67, 3) := by decide +kernel
theorem dX5_shuffle_25 : decode cX5_shuffle 25 = .ok (.aload_n 0, 1) := by decide +kernel
theorem dX5_shuffle_26 : decode cX5_shuffle 26 = .ok (.getfield 7, 3) := by decide +kernel
theorem dX5_shuffle_29 : decode cX5_shuffle 29 = .ok (.bipush 61, 2) := by decide +kernel
theorem dX5_shuffle_31 : decode cX5_shuffle 31 = .ok (.iaload, 1) := by decide +kernel
theorem dX5_shuffle_32 : decode cX5_shuffle 32 = .ok (.istore_n 2, 1) := by decide +kernel
theorem dX5_shuffle_33 : decode cX5_shuffle 33 = .ok (.aload_n 0, 1) := by decide +kernel
theorem dX5_shuffle_34 : decode cX5_shuffle 34 = .ok (.getfield 7, 3) := by decide +kernel
theorem dX5_shuffle_37 : decode cX5_shuffle 37 = .ok (.bipush 61, 2) := by decide +kernel
theorem dX5_shuffle_39 : decode cX5_shuffle 39 = .ok (.iload_n 1, 1) := by decide +kernel
theorem dX5_shuffle_40 : decode cX5_shuffle 40 = .ok (.iastore, 1) := by decide +kernel
theorem dX5_shuffle_41 : decode cX5_shuffle 41 = .ok (.iload_n 2, 1) := by decide +kernel
theorem dX5_shuffle_42 : decode cX5_shuffle 42 = .ok (.ireturn, 1) := by decide +kernel
set_option maxRecDepth 20000 in
theorem ggX5_finishAll_X5_sum : GoodIn wsX5_finishAll wsX5_sum := goodIn_r _ [6, 1, 50, 51, 52, 53, 54, 55, 56, 57, 58, 59, 60, 61, 62, 63, 64, 65, 66, 67] (by decide +kernel) (by decide +kernel)
set_option maxRecDepth 20000 in
theorem gX5_finishAll_X5_sum : GoodIn wsX5_finishAll (wsV RX5 106 RX5 yX5_sum wsX5_sum) := goodIn_app (goodIn_of _ (by decide +kernel)) ggX5_finishAll_X5_sum
set_option maxRecDepth 20000 in
theorem ggX5_finishAll_X5_notAway : GoodIn wsX5_finishAll wsX5_notAway := goodIn_r _ [10, 1, 50, 51, 52, 53, 54, 55, 56, 57, 58, 59, 60, 61, 62, 63, 64, 65, 66, 67] (by decide +kernel) (by decide +kernel)
set_option maxRecDepth 20000 in
theorem gX5_finishAll_X5_notAway : GoodIn wsX5_finishAll (wsV RX5 63 RX5 yX5_notAway wsX5_notAway) := goodIn_app (goodIn_of _ (by decide +kernel)) ggX5_finishAll_X5_notAway
set_option maxRecDepth 20000 in
theorem ggX5_finishAll_X5_makeStep : GoodIn wsX5_finishAll wsX5_makeStep := goodIn_r _ [14, 1, 15, 16, 17, 5, 18, 19, 20, 21, 22, 23, 24, 25, 26, 27, 28, 29, 30, 31, 32, 33, 34, 35, 36, 37, 38, 39, 40, 41, 42, 43, 44, 45, 46, 47, 48, 49, 50, 51, 52, 53, 54, 55, 56, 57, 58, 59, 60, 61, 62, 63, 64, 65, 66, 67] (by decide +kernel) (by decide +kernel)
set_option maxRecDepth 20000 in
theorem gX5_finishAll_X5_makeStep : GoodIn wsX5_finishAll (wsV RX5 103 RX5 yX5_makeStep wsX5_makeStep) := goodIn_app (goodIn_of _ (by decide +kernel)) ggX5_finishAll_X5_makeStep
theorem dX5_finishAll_0 : decode cX5_finishAll 0 = .ok (.aload_n 0, 1) := by decide +kernel
theorem dX5_finishAll_1 : decode cX5_finishAll 1 = .ok (.bipush 62, 2) := by decide +kernel
theorem dX5_finishAll_3 : decode cX5_finishAll 3 = .ok (.invokevirtual 106, 3) := by decide +kernel
theorem dX5_finishAll_6 : decode cX5_finishAll 6 = .ok (.istore_n 1, 1) := by decide +kernel
theorem dX5_finishAll_7 : decode cX5_finishAll 7 = .ok (.aload_n 0, 1) := by decide +kernel
theorem dX5_finishAll_8 : decode cX5_finishAll 8 = .ok (.invokevirtual 63, 3) := by decide +kernel
theorem dX5_finishAll_11 : decode cX5_finishAll 11 = .ok (.ifCond .le 36, 3) := by decide +kernel
theorem dX5_finishAll_14 : decode cX5_finishAll 14 = .ok (.iconst 0, 1) := by decide +kernel
theorem dX5_finishAll_15 : decode cX5_finishAll 15 = .ok (.istore_n 2, 1) := by decide +kernel
theorem dX5_finishAll_16 : decode cX5_finishAll 16 = .ok (.iload_n 2, 1) := by decide +kernel
theorem dX5_finishAll_17 : decode cX5_finishAll 17 = .ok (.bipush 6, 2) := by decide +kernel
theorem dX5_finishAll_19 : decode cX5_finishAll 19 = .ok (.if_icmp .ge 25, 3) := by decide +kernel
theorem dX5_finishAll_22 : decode cX5_finishAll 22 = .ok (.aload_n 0, 1) := by decide +kernel
theorem dX5_finishAll_23 : decode cX5_finishAll 23 = .ok (.getfield 7, 3) := by decide +kernel
theorem dX5_finishAll_26 : decode cX5_finishAll 26 = .ok (.iconst 0, 1) := by decide +kernel
theorem dX5_finishAll_27 : decode cX5_finishAll 27 = .ok (.iload_n 2, 1) := by decide +kernel
theorem dX5_finishAll_28 : decode cX5_finishAll 28 = .ok (.iadd, 1) := by decide +kernel
theorem dX5_finishAll_29 : decode cX5_finishAll 29 = .ok (.iaload, 1) := by decide +kernel
theorem dX5_finishAll_30 : decode cX5_finishAll 30 = .ok (.ifCond .eq 8, 3) := by decide +kernel
theorem dX5_finishAll_33 : decode cX5_finishAll 33 = .ok (.aload_n 0, 1) := by decide +kernel
theorem dX5_finishAll_34 : decode cX5_finishAll 34 = .ok (.iload_n 2, 1) := by decide +kernel
theorem dX5_finishAll_35 : decode cX5_finishAll 35 = .ok (.invokevirtual 103, 3) := by decide +kernel
theorem dX5_finishAll_38 : decode cX5_finishAll 38 = .ok (.iinc 2 1, 3) := by decide +kernel
theorem dX5_finishAll_41 : decode cX5_finishAll 41 = .ok (.goto (-25), 3) := by decide +kernel
theorem dX5_finishAll_44 : decode cX5_finishAll 44 = .ok (.goto (-37), 3) := by decide +kernel
theorem dX5_finishAll_47 : decode cX5_finishAll 47 = .ok (.aload_n 0, 1) := by decide +kernel
theorem dX5_finishAll_48 : decode cX5_finishAll 48 = .ok (.bipush 62, 2) := by decide +kernel
theorem dX5_finishAll_50 : decode cX5_finishAll 50 = .ok (.invokevirtual 106, 3) := by decide +kernel
theorem dX5_finishAll_53 : decode cX5_finishAll 53 = .ok (.iload_n 1, 1) := by decide +kernel
theorem dX5_finishAll_54 : decode cX5_finishAll 54 = .ok (.isub, 1) := by decide +kernel
theorem dX5_finishAll_55 : decode cX5_finishAll 55 = .ok (.ireturn, 1) := by decide +kernel
set_option maxRecDepth 20000 in
theorem ggX5_finish_X5_notAway : GoodIn wsX5_finish wsX5_notAway := goodIn_r _ [5, 6, 63, 64, 65, 66, 67, 68, 69, 70, 71, 72, 73, 74, 75, 76, 77, 78, 79, 80] (by decide +kernel) (by decide +kernel)
set_option maxRecDepth 20000 in
theorem gX5_finish_X5_notAway : GoodIn wsX5_finish (wsV RX5 63 RX5 yX5_notAway wsX5_notAway) := goodIn_app (goodIn_of _ (by decide +kernel)) ggX5_finish_X5_notAway
set_option maxRecDepth 20000 in
theorem ggX5_finish_X5_record : GoodIn wsX5_finish wsX5_record := goodIn_r _ [10, 11, 12, 6, 13, 14, 4, 15, 63, 64, 65, 66, 67, 68, 69, 70, 71, 72, 73, 74, 75, 76, 77, 78, 79, 80] (by decide +kernel) (by decide +kernel)
set_option maxRecDepth 20000 in
theorem gX5_finish_X5_record : GoodIn wsX5_finish (wsV RX5 67 RX5 yX5_record wsX5_record) := goodIn_app (goodIn_of _ (by decide +kernel)) ggX5_finish_X5_record
set_option maxRecDepth 20000 in
theorem ggX5_finish_X5_finishAll : GoodIn wsX5_finish wsX5_finishAll := goodIn_r _ [19, 6, 20, 21, 22, 4, 23, 1, 2, 3, 5, 24, 25, 26, 27, 28, 29, 30, 31, 32, 33, 34, 35, 36, 37, 38, 39, 40, 41, 42, 43, 44, 45, 46, 47, 48, 49, 50, 51, 52, 53, 54, 55, 56, 57, 58, 59, 60, 61, 62, 63, 64, 65, 66, 67, 68, 69, 70, 71, 72, 73, 74, 75, 76, 77, 78, 79, 80] (by decide +kernel) (by decide +kernel)
set_option maxRecDepth 20000 in
theorem gX5_finish_X5_finishAll : GoodIn wsX5_finish (wsV RX5 122 RX5 yX5_finishAll wsX5_finishAll) := goodIn_app (goodIn_of _ (by decide +kernel)) ggX5_finish_X5_finishAll
theorem dX5_finish_0 : decode cX5_finish 0 = .ok (.aload_n 0, 1) := by decide +kernel
theorem dX5_finish_1 : decode cX5_finish 1 = .ok (.invokevirtual 63, 3) := by decide +kernel
theorem dX5_finish_4 : decode cX5_finish 4 = .ok (.ifCond .ne 6, 3) := by decide +kernel
theorem dX5_finish_7 : decode cX5_finish 7 = .ok (.bipush (-5), 2) := by decide +kernel
theorem dX5_finish_9 : decode cX5_finish 9 = .ok (.ireturn, 1) := by decide +kernel
theorem dX5_finish_10 : decode cX5_finish 10 = .ok (.aload_n 0, 1) := by decide +kernel
theorem dX5_finish_11 : decode cX5_finish 11 = .ok (.invokevirtual 67, 3) := by decide +kernel
theorem dX5_finish_14 : decode cX5_finish 14 = .ok (.aload_n 0, 1) := by decide +kernel
theorem dX5_finish_15 : decode cX5_finish 15 = .ok (.invokevirtual 122, 3) := by decide +kernel
theorem dX5_finish_18 : decode cX5_finish 18 = .ok (.ireturn, 1) := by decide +kernel
set_option maxRecDepth 20000 in
theorem ggX5_stepsToFinish_X5_copyRow : GoodIn wsX5_stepsToFinish wsX5_copyRow := goodIn_r _ [6] (by decide +kernel) (by decide +kernel)
set_option maxRecDepth 20000 in
theorem gX5_stepsToFinish_X5_copyRow : GoodIn wsX5_stepsToFinish (va_wsS RX5 55 yX5_copyRow wsX5_copyRow) := goodIn_app (goodIn_of _ (by decide +kernel)) ggX5_stepsToFinish_X5_copyRow
set_option maxRecDepth 20000 in
theorem ggX5_stepsToFinish_X5_finishAll : GoodIn wsX5_stepsToFinish wsX5_finishAll := goodIn_r _ [10, 1, 11, 12, 13, 5, 14, 15, 16, 17, 18, 19, 20, 21, 22, 23, 24, 25, 26, 27, 28, 29, 30, 31, 32, 33, 34, 35, 36, 37, 38, 39, 40, 41, 42, 43, 44, 45, 46, 47, 48, 49, 50, 51, 52, 53, 54, 55, 56, 57, 58, 59, 60, 61, 62, 63, 64, 65, 66, 67, 68, 69, 70, 71, 72, 73, 74, 75] (by decide +kernel) (by decide +kernel)
set_option maxRecDepth 20000 in
theorem gX5_stepsToFinish_X5_finishAll : GoodIn wsX5_stepsToFinish (wsV RX5 122 RX5 yX5_finishAll wsX5_finishAll) := goodIn_app (goodIn_of _ (by decide +kernel)) ggX5_stepsToFinish_X5_finishAll
theorem dX5_stepsToFinish_0 : decode cX5_stepsToFinish 0 = .ok (.aload_n 0, 1) := by decide +kernel
theorem dX5_stepsToFinish_1 : decode cX5_stepsToFinish 1 = .ok (.getfield 7, 3) := by decide +kernel
theorem dX5_stepsToFinish_4 : decode cX5_stepsToFinish 4 = .ok (.iconst 0, 1) := by decide +kernel
theorem dX5_stepsToFinish_5 : decode cX5_stepsToFinish 5 = .ok (.aload_n 0, 1) := by decide +kernel
theorem dX5_stepsToFinish_6 : decode cX5_stepsToFinish 6 = .ok (.getfield 13, 3) := by decide +kernel
theorem dX5_stepsToFinish_9 : decode cX5_stepsToFinish 9 = .ok (.iconst 0, 1) := by decide +kernel
theorem dX5_stepsToFinish_10 : decode cX5_stepsToFinish 10 = .ok (.bipush 86, 2) := by decide +kernel
theorem dX5_stepsToFinish_12 : decode cX5_stepsToFinish 12 = .ok (.invokestatic 55, 3) := by decide +kernel
theorem dX5_stepsToFinish_15 : decode cX5_stepsToFinish 15 = .ok (.aload_n 0, 1) := by decide +kernel
theorem dX5_stepsToFinish_16 : decode cX5_stepsToFinish 16 = .ok (.invokevirtual 122, 3) := by decide +kernel
theorem dX5_stepsToFinish_19 : decode cX5_stepsToFinish 19 = .ok (.istore_n 1, 1) := by decide +kernel
theorem dX5_stepsToFinish_20 : decode cX5_stepsToFinish 20 = .ok (.aload_n 0, 1) := by decide +kernel
theorem dX5_stepsToFinish_21 : decode cX5_stepsToFinish 21 = .ok (.getfield 13, 3) := by decide +kernel
theorem dX5_stepsToFinish_24 : decode cX5_stepsToFinish 24 = .ok (.iconst 0, 1) := by decide +kernel
theorem dX5_stepsToFinish_25 : decode cX5_stepsToFinish 25 = .ok (.aload_n 0, 1) := by decide +kernel
theorem dX5_stepsToFinish_26 : decode cX5_stepsToFinish 26 = .ok (.getfield 7, 3) := by decide +kernel
theorem dX5_stepsToFinish_29 : decode cX5_stepsToFinish 29 = .ok (.iconst 0, 1) := by decide +kernel
theorem dX5_stepsToFinish_30 : decode cX5_stepsToFinish 30 = .ok (.bipush 86, 2) := by decide +kernel
theorem dX5_stepsToFinish_32 : decode cX5_stepsToFinish 32 = .ok (.invokestatic 55, 3) := by decide +kernel
theorem dX5_stepsToFinish_35 : decode cX5_stepsToFinish 35 = .ok (.iload_n 1, 1) := by decide +kernel
theorem dX5_stepsToFinish_36 : decode cX5_stepsToFinish 36 = .ok (.ireturn, 1) := by decide +kernel
theorem dX5_type_0 : decode cX5_type 0 = .ok (.aload_n 0, 1) := by decide +kernel
theorem dX5_type_1 : decode cX5_type 1 = .ok (.getfield 125, 3) := by decide +kernel
theorem dX5_type_4 : decode cX5_type 4 = .ok (.bipush 60, 2) := by decide +kernel
theorem dX5_type_6 : decode cX5_type 6 = .ok (.if_icmp .ne 6, 3) := by decide +kernel
theorem dX5_type_9 : decode cX5_type 9 = .ok (.bipush (-3), 2) := by decide +kernel
theorem dX5_type_11 : decode cX5_type 11 = .ok (.ireturn, 1) := by decide +kernel
theorem dX5_type_12 : decode cX5_type 12 = .ok (.aload_n 0, 1) := by decide +kernel
theorem dX5_type_13 : decode cX5_type 13 = .ok (.getfield 22, 3) := by decide +kernel
theorem dX5_type_16 : decode cX5_type 16 = .ok (.aload_n 0, 1) := by decide +kernel
theorem dX5_type_17 : decode cX5_type 17 = .ok (.getfield 125, 3) := by decide +kernel
theorem dX5_type_20 : decode cX5_type 20 = .ok (.iload_n 1, 1) := by decide +kernel
theorem dX5_type_21 : decode cX5_type 21 = .ok (.iastore, 1) := by decide +kernel
theorem dX5_type_22 : decode cX5_type 22 = .ok (.aload_n 0, 1) := by decide +kernel
theorem dX5_type_23 : decode cX5_type 23 = .ok (.dup, 1) := by decide +kernel
theorem dX5_type_24 : decode cX5_type 24 = .ok (.getfield 125, 3) := by decide +kernel
theorem dX5_type_27 : decode cX5_type 27 = .ok (.iconst 1, 1) := by decide +kernel
theorem dX5_type_28 : decode cX5_type 28 = .ok (.iadd, 1) := by decide +kernel
theorem dX5_type_29 : decode cX5_type 29 = .ok (.putfield 125, 3) := by decide +kernel
theorem dX5_type_32 : decode cX5_type 32 = .ok (.aload_n 0, 1) := by decide +kernel
theorem dX5_type_33 : decode cX5_type 33 = .ok (.getfield 125, 3) := by decide +kernel
theorem dX5_type_36 : decode cX5_type 36 = .ok (.ireturn, 1) := by decide +kernel
theorem dX5_clearText_0 : decode cX5_clearText 0 = .ok (.aload_n 0, 1) := by decide +kernel
theorem dX5_clearText_1 : decode cX5_clearText 1 = .ok (.getfield 125, 3) := by decide +kernel
theorem dX5_clearText_4 : decode cX5_clearText 4 = .ok (.istore_n 1, 1) := by decide +kernel
theorem dX5_clearText_5 : decode cX5_clearText 5 = .ok (.aload_n 0, 1) := by decide +kernel
theorem dX5_clearText_6 : decode cX5_clearText 6 = .ok (.iconst 0, 1) := by decide +kernel
theorem dX5_clearText_7 : decode cX5_clearText 7 = .ok (.putfield 125, 3) := by decide +kernel
theorem dX5_clearText_10 : decode cX5_clearText 10 = .ok (.iload_n 1, 1) := by decide +kernel
theorem dX5_clearText_11 : decode cX5_clearText 11 = .ok (.ireturn, 1) := by decide +kernel
theorem dX5_atMost_0 : decode cX5_atMost 0 = .ok (.iload_n 0, 1) := by decide +kernel
theorem dX5_atMost_1 : decode cX5_atMost 1 = .ok (.sipush 2000, 3) := by decide +kernel
theorem dX5_atMost_4 : decode cX5_atMost 4 = .ok (.if_icmp .le 9, 3) := by decide +kernel
theorem dX5_atMost_7 : decode cX5_atMost 7 = .ok (.sipush 2001, 3) := by decide +kernel
theorem dX5_atMost_10 : decode cX5_atMost 10 = .ok (.goto 4, 3) := by decide +kernel
theorem dX5_atMost_13 : decode cX5_atMost 13 = .ok (.iload_n 0, 1) := by decide +kernel
theorem dX5_atMost_14 : decode cX5_atMost 14 = .ok (.ireturn, 1) := by decide +kernel
set_option maxRecDepth 20000 in
theorem ggX5_read_X5_in : GoodIn wsX5_read wsX5_in := goodIn_r _ [10] (by decide +kernel) (by decide +kernel)
set_option maxRecDepth 20000 in
theorem gX5_read_X5_in : GoodIn wsX5_read (va_wsS RX5 47 yX5_in wsX5_in) := goodIn_app (goodIn_of _ (by decide +kernel)) ggX5_read_X5_in
set_option maxRecDepth 20000 in
theorem ggX5_read_X5_atMost : GoodIn wsX5_read wsX5_atMost := goodIn_r _ [13] (by decide +kernel) (by decide +kernel)
set_option maxRecDepth 20000 in
theorem gX5_read_X5_atMost : GoodIn wsX5_read (va_wsS RX5 128 yX5_atMost wsX5_atMost) := goodIn_app (goodIn_of _ (by decide +kernel)) ggX5_read_X5_atMost
theorem dX5_read_0 : decode cX5_read 0 = .ok (.iconst 0, 1) := by decide +kernel
theorem dX5_read_1 : decode cX5_read 1 = .ok (.istore_n 1, 1) := by decide +kernel
theorem dX5_read_2 : decode cX5_read 2 = .ok (.iconst 0, 1) := by decide +kernel
theorem dX5_read_3 : decode cX5_read 3 = .ok (.istore_n 2, 1) := by decide +kernel
theorem dX5_read_4 : decode cX5_read 4 = .ok (.aload_n 0, 1) := by decide +kernel
theorem dX5_read_5 : decode cX5_read 5 = .ok (.getfield 25, 3) := by decide +kernel
theorem dX5_read_8 : decode cX5_read 8 = .ok (.iconst 0, 1) := by decide +kernel
theorem dX5_read_9 : decode cX5_read 9 = .ok (.iconst 0, 1) := by decide +kernel
theorem dX5_read_10 : decode cX5_read 10 = .ok (.iastore, 1) := by decide +kernel
theorem dX5_read_11 : decode cX5_read 11 = .ok (.aload_n 0, 1) := by decide +kernel
theorem dX5_read_12 : decode cX5_read 12 = .ok (.getfield 28, 3) := by decide +kernel
theorem dX5_read_15 : decode cX5_read 15 = .ok (.iconst 0, 1) := by decide +kernel
theorem dX5_read_16 : decode cX5_read 16 = .ok (.iconst 0, 1) := by decide +kernel
theorem dX5_read_17 : decode cX5_read 17 = .ok (.iastore, 1) := by decide +kernel
theorem dX5_read_18 : decode cX5_read 18 = .ok (.iconst 0, 1) := by decide +kernel
theorem dX5_read_19 : decode cX5_read 19 = .ok (.istore_n 3, 1) := by decide +kernel
theorem dX5_read_20 : decode cX5_read 20 = .ok (.iload_n 3, 1) := by decide +kernel
theorem dX5_read_21 : decode cX5_read 21 = .ok (.aload_n 0, 1) := by decide +kernel
theorem dX5_read_22 : decode cX5_read 22 = .ok (.getfield 125, 3) := by decide +kernel
theorem dX5_read_25 : decode cX5_read 25 = .ok (.if_icmp .ge 216, 3) := by decide +kernel
theorem dX5_read_28 : decode cX5_read 28 = .ok (.aload_n 0, 1) := by decide +kernel
theorem dX5_read_29 : decode cX5_read 29 = .ok (.getfield 22, 3) := by decide +kernel
theorem dX5_read_32 : decode cX5_read 32 = .ok (.iload_n 3, 1) := by decide +kernel
theorem dX5_read_33 : decode cX5_read 33 = .ok (.iaload, 1) := by decide +kernel
theorem dX5_read_34 : decode cX5_read 34 = .ok (.istore 4, 2) := by decide +kernel
theorem dX5_read_36 : decode cX5_read 36 = .ok (.iload 4, 2) := by decide +kernel
theorem dX5_read_38 : decode cX5_read 38 = .ok (.bipush 50, 2) := by decide +kernel
theorem dX5_read_40 : decode cX5_read 40 = .ok (.bipush 57, 2) := by decide +kernel
theorem dX5_read_42 : decode cX5_read 42 = .ok (.invokestatic 47, 3) := by decide +kernel
theorem dX5_read_45 : decode cX5_read 45 = .ok (.ifCond .eq 16, 3) := by decide +kernel
theorem dX5_read_48 : decode cX5_read 48 = .ok (.iload_n 2, 1) := by decide +kernel
theorem dX5_read_49 : decode cX5_read 49 = .ok (.ifCond .ne 12, 3) := by decide +kernel
theorem dX5_read_52 : decode cX5_read 52 = .ok (.iload 4, 2) := by decide +kernel
theorem dX5_read_54 : decode cX5_read 54 = .ok (.bipush 48, 2) := by decide +kernel
theorem dX5_read_56 : decode cX5_read 56 = .ok (.isub, 1) := by decide +kernel
theorem dX5_read_57 : decode cX5_read 57 = .ok (.istore_n 2, 1) := by decide +kernel
theorem dX5_read_58 : decode cX5_read 58 = .ok (.goto 177, 3) := by decide +kernel
theorem dX5_read_61 : decode cX5_read 61 = .ok (.iload 4, 2) := by decide +kernel
theorem dX5_read_63 : decode cX5_read 63 = .ok (.bipush 97, 2) := by decide +kernel
theorem dX5_read_65 : decode cX5_read 65 = .ok (.bipush 102, 2) := by decide +kernel
theorem dX5_read_67 : decode cX5_read 67 = .ok (.invokestatic 47, 3) := by decide +kernel
theorem dX5_read_70 : decode cX5_read 70 = .ok (.ifCond .eq 43, 3) := by decide +kernel
theorem dX5_read_73 : decode cX5_read 73 = .ok (.aload_n 0, 1) := by decide +kernel
theorem dX5_read_74 : decode cX5_read 74 = .ok (.getfield 25, 3) := by decide +kernel
theorem dX5_read_77 : decode cX5_read 77 = .ok (.iload_n 1, 1) := by decide +kernel
theorem dX5_read_78 : decode cX5_read 78 = .ok (.aload_n 0, 1) := by decide +kernel
theorem dX5_read_79 : decode cX5_read 79 = .ok (.getfield 25, 3) := by decide +kernel
theorem dX5_read_82 : decode cX5_read 82 = .ok (.iload_n 1, 1) := by decide +kernel
theorem dX5_read_83 : decode cX5_read 83 = .ok (.iaload, 1) := by decide +kernel
theorem dX5_read_84 : decode cX5_read 84 = .ok (.iload_n 2, 1) := by decide +kernel
theorem dX5_read_85 : decode cX5_read 85 = .ok (.ifCond .ne 7, 3) := by decide +kernel
theorem dX5_read_88 : decode cX5_read 88 = .ok (.iconst 1, 1) := by decide +kernel
theorem dX5_read_89 : decode cX5_read 89 = .ok (.goto 4, 3) := by decide +kernel
theorem dX5_read_92 : decode cX5_read 92 = .ok (.iload_n 2, 1) := by decide +kernel
theorem dX5_read_93 : decode cX5_read 93 = .ok (.iadd, 1) := by decide +kernel
theorem dX5_read_94 : decode cX5_read 94 = .ok (.invokestatic 128, 3) := by decide +kernel
theorem dX5_read_97 : decode cX5_read 97 = .ok (.iastore, 1) := by decide +kernel
theorem dX5_read_98 : decode cX5_read 98 = .ok (.aload_n 0, 1) := by decide +kernel
theorem dX5_read_99 : decode cX5_read 99 = .ok (.getfield 28, 3) := by decide +kernel
theorem dX5_read_102 : decode cX5_read 102 = .ok (.iload_n 1, 1) := by decide +kernel
theorem dX5_read_103 : decode cX5_read 103 = .ok (.dup2, 1) := by decide +kernel
theorem dX5_read_104 : decode cX5_read 104 = .ok (.iaload, 1) := by decide +kernel
theorem dX5_read_105 : decode cX5_read 105 = .ok (.iconst 1, 1) := by decide +kernel
theorem dX5_read_106 : decode cX5_read 106 = .ok (.iadd, 1) := by decide +kernel
theorem dX5_read_107 : decode cX5_read 107 = .ok (.iastore, 1) := by decide +kernel
theorem dX5_read_108 : decode cX5_read 108 = .ok (.iconst 0, 1) := by decide +kernel
theorem dX5_read_109 : decode cX5_read 109 = .ok (.istore_n 2, 1) := by decide +kernel
theorem dX5_read_110 : decode cX5_read 110 = .ok (.goto 125, 3) := by decide +kernel
theorem dX5_read_113 : decode cX5_read 113 = .ok (.iload 4, 2) := by decide +kernel
theorem dX5_read_115 : decode cX5_read 115 = .ok (.bipush 40, 2) := by decide +kernel
theorem dX5_read_117 : decode cX5_read 117 = .ok (.if_icmp .ne 40, 3) := by decide +kernel
theorem dX5_read_120 : decode cX5_read 120 = .ok (.iinc 1 1, 3) := by decide +kernel
theorem dX5_read_123 : decode cX5_read 123 = .ok (.aload_n 0, 1) := by decide +kernel
theorem dX5_read_124 : decode cX5_read 124 = .ok (.getfield 31, 3) := by decide +kernel
theorem dX5_read_127 : decode cX5_read 127 = .ok (.iload_n 1, 1) := by decide +kernel
theorem dX5_read_128 : decode cX5_read 128 = .ok (.iload_n 2, 1) := by decide +kernel
theorem dX5_read_129 : decode cX5_read 129 = .ok (.ifCond .ne 7, 3) := by decide +kernel
theorem dX5_read_132 : decode cX5_read 132 = .ok (.iconst 1, 1) := by decide +kernel
theorem dX5_read_133 : decode cX5_read 133 = .ok (.goto 4, 3) := by decide +kernel
theorem dX5_read_136 : decode cX5_read 136 = .ok (.iload_n 2, 1) := by decide +kernel
theorem dX5_read_137 : decode cX5_read 137 = .ok (.iastore, 1) := by decide +kernel
theorem dX5_read_138 : decode cX5_read 138 = .ok (.aload_n 0, 1) := by decide +kernel
theorem dX5_read_139 : decode cX5_read 139 = .ok (.getfield 25, 3) := by decide +kernel
theorem dX5_read_142 : decode cX5_read 142 = .ok (.iload_n 1, 1) := by decide +kernel
theorem dX5_read_143 : decode cX5_read 143 = .ok (.iconst 0, 1) := by decide +kernel
theorem dX5_read_144 : decode cX5_read 144 = .ok (.iastore, 1) := by decide +kernel
theorem dX5_read_145 : decode cX5_read 145 = .ok (.aload_n 0, 1) := by decide +kernel
theorem dX5_read_146 : decode cX5_read 146 = .ok (.getfield 28, 3) := by decide +kernel
theorem dX5_read_149 : decode cX5_read 149 = .ok (.iload_n 1, 1) := by decide +kernel
theorem dX5_read_150 : decode cX5_read 150 = .ok (.iconst 0, 1) := by decide +kernel
theorem dX5_read_151 : decode cX5_read 151 = .ok (.iastore, 1) := by decide +kernel
theorem dX5_read_152 : decode cX5_read 152 = .ok (.iconst 0, 1) := by decide +kernel
theorem dX5_read_153 : decode cX5_read 153 = .ok (.istore_n 2, 1) := by decide +kernel
theorem dX5_read_154 : decode cX5_read 154 = .ok (.goto 81, 3) := by decide +kernel
theorem dX5_read_157 : decode cX5_read 157 = .ok (.iload 4, 2) := by decide +kernel
theorem dX5_read_159 : decode cX5_read 159 = .ok (.bipush 41, 2) := by decide +kernel
theorem dX5_read_161 : decode cX5_read 161 = .ok (.if_icmp .ne 72, 3) := by decide +kernel
theorem dX5_read_164 : decode cX5_read 164 = .ok (.iload_n 1, 1) := by decide +kernel
theorem dX5_read_165 : decode cX5_read 165 = .ok (.ifCond .le 68, 3) := by decide +kernel
theorem dX5_read_168 : decode cX5_read 168 = .ok (.iload_n 2, 1) := by decide +kernel
theorem dX5_read_169 : decode cX5_read 169 = .ok (.ifCond .ne 64, 3) := by decide +kernel
theorem dX5_read_172 : decode cX5_read 172 = .ok (.aload_n 0, 1) := by decide +kernel
theorem dX5_read_173 : decode cX5_read 173 = .ok (.getfield 28, 3) := by decide +kernel
theorem dX5_read_176 : decode cX5_read 176 = .ok (.iload_n 1, 1) := by decide +kernel
theorem dX5_read_177 : decode cX5_read 177 = .ok (.iaload, 1) := by decide +kernel
theorem dX5_read_178 : decode cX5_read 178 = .ok (.ifCond .le 55, 3) := by decide +kernel
theorem dX5_read_181 : decode cX5_read 181 = .ok (.aload_n 0, 1) := by decide +kernel
theorem dX5_read_182 : decode cX5_read 182 = .ok (.getfield 25, 3) := by decide +kernel
theorem dX5_read_185 : decode cX5_read 185 = .ok (.iload_n 1, 1) := by decide +kernel
theorem dX5_read_186 : decode cX5_read 186 = .ok (.iaload, 1) := by decide +kernel
theorem dX5_read_187 : decode cX5_read 187 = .ok (.aload_n 0, 1) := by decide +kernel
theorem dX5_read_188 : decode cX5_read 188 = .ok (.getfield 31, 3) := by decide +kernel
theorem dX5_read_191 : decode cX5_read 191 = .ok (.iload_n 1, 1) := by decide +kernel
theorem dX5_read_192 : decode cX5_read 192 = .ok (.iaload, 1) := by decide +kernel
theorem dX5_read_193 : decode cX5_read 193 = .ok (.imul, 1) := by decide +kernel
theorem dX5_read_194 : decode cX5_read 194 = .ok (.invokestatic 128, 3) := by decide +kernel
theorem dX5_read_197 : decode cX5_read 197 = .ok (.istore 5, 2) := by decide +kernel
theorem dX5_read_199 : decode cX5_read 199 = .ok (.iinc 1 (-1), 3) := by decide +kernel
theorem dX5_read_202 : decode cX5_read 202 = .ok (.aload_n 0, 1) := by decide +kernel
theorem dX5_read_203 : decode cX5_read 203 = .ok (.getfield 25, 3) := by decide +kernel
theorem dX5_read_206 : decode cX5_read 206 = .ok (.iload_n 1, 1) := by decide +kernel
theorem dX5_read_207 : decode cX5_read 207 = .ok (.aload_n 0, 1) := by decide +kernel
theorem dX5_read_208 : decode cX5_read 208 = .ok (.getfield 25, 3) := by decide +kernel
theorem dX5_read_211 : decode cX5_read 211 = .ok (.iload_n 1, 1) := by decide +kernel
theorem dX5_read_212 : decode cX5_read 212 = .ok (.iaload, 1) := by decide +kernel
theorem dX5_read_213 : decode cX5_read 213 = .ok (.iload 5, 2) := by decide +kernel
theorem dX5_read_215 : decode cX5_read 215 = .ok (.iadd, 1) := by decide +kernel
theorem dX5_read_216 : decode cX5_read 216 = .ok (.invokestatic 128, 3) := by decide +kernel
theorem dX5_read_219 : decode cX5_read 219 = .ok (.iastore, 1) := by decide +kernel
theorem dX5_read_220 : decode cX5_read 220 = .ok (.aload_n 0, 1) := by decide +kernel
theorem dX5_read_221 : decode cX5_read 221 = .ok (.getfield 28, 3) := by decide +kernel
theorem dX5_read_224 : decode cX5_read 224 = .ok (.iload_n 1, 1) := by decide +kernel
theorem dX5_read_225 : decode cX5_read 225 = .ok (.dup2, 1) := by decide +kernel
theorem dX5_read_226 : decode cX5_read 226 = .ok (.iaload, 1) := by decide +kernel
theorem dX5_read_227 : decode cX5_read 227 = .ok (.iconst 1, 1) := by decide +kernel
theorem dX5_read_228 : decode cX5_read 228 = .ok (.iadd, 1) := by decide +kernel
theorem dX5_read_229 : decode cX5_read 229 = .ok (.iastore, 1) := by decide +kernel
theorem dX5_read_230 : decode cX5_read 230 = .ok (.goto 5, 3) := by decide +kernel
theorem dX5_read_233 : decode cX5_read 233 = .ok (.iload_n 3, 1) := by decide +kernel
theorem dX5_read_234 : decode cX5_read 234 = .ok (.ireturn, 1) := by decide +kernel
theorem dX5_read_235 : decode cX5_read 235 = .ok (.iinc 3 1, 3) := by decide +kernel
theorem dX5_read_238 : decode cX5_read 238 = .ok (.goto (-218), 3) := by decide +kernel
theorem dX5_read_241 : decode cX5_read 241 = .ok (.aload_n 0, 1) := by decide +kernel
theorem dX5_read_242 : decode cX5_read 242 = .ok (.aload_n 0, 1) := by decide +kernel
theorem dX5_read_243 : decode cX5_read 243 = .ok (.getfield 25, 3) := by decide +kernel
theorem dX5_read_246 : decode cX5_read 246 = .ok (.iconst 0, 1) := by decide +kernel
theorem dX5_read_247 : decode cX5_read 247 = .ok (.iaload, 1) := by decide +kernel
theorem dX5_read_248 : decode cX5_read 248 = .ok (.putfield 131, 3) := by decide +kernel
theorem dX5_read_251 : decode cX5_read 251 = .ok (.iload_n 1, 1) := by decide +kernel
theorem dX5_read_252 : decode cX5_read 252 = .ok (.ifCond .ne 21, 3) := by decide +kernel
theorem dX5_read_255 : decode cX5_read 255 = .ok (.iload_n 2, 1) := by decide +kernel
theorem dX5_read_256 : decode cX5_read 256 = .ok (.ifCond .ne 17, 3) := by decide +kernel
theorem dX5_read_259 : decode cX5_read 259 = .ok (.aload_n 0, 1) := by decide +kernel
theorem dX5_read_260 : decode cX5_read 260 = .ok (.getfield 28, 3) := by decide +kernel
theorem dX5_read_263 : decode cX5_read 263 = .ok (.iconst 0, 1) := by decide +kernel
theorem dX5_read_264 : decode cX5_read 264 = .ok (.iaload, 1) := by decide +kernel
theorem dX5_read_265 : decode cX5_read 265 = .ok (.ifCond .le 8, 3) := by decide +kernel
theorem dX5_read_268 : decode cX5_read 268 = .ok (.bipush (-5), 2) := by decide +kernel
theorem dX5_read_270 : decode cX5_read 270 = .ok (.goto 7, 3) := by decide +kernel
theorem dX5_read_273 : decode cX5_read 273 = .ok (.aload_n 0, 1) := by decide +kernel
theorem dX5_read_274 : decode cX5_read 274 = .ok (.getfield 125, 3) := by decide +kernel
theorem dX5_read_277 : decode cX5_read 277 = .ok (.ireturn, 1) := by decide +kernel
set_option maxRecDepth 20000 in
theorem ggX5_perform_X5_read : GoodIn wsX5_perform wsX5_read := goodIn_r _ [10, 11, 12, 2, 3, 13, 1, 14, 15, 9, 16, 17, 18, 19, 69, 70, 71, 72, 73, 74, 75, 76, 77, 78, 79, 80, 81, 82, 83, 84, 85, 86] (by decide +kernel) (by decide +kernel)
set_option maxRecDepth 20000 in
theorem gX5_perform_X5_read : GoodIn wsX5_perform (wsV RX5 134 RX5 yX5_read wsX5_read) := goodIn_app (goodIn_of _ (by decide +kernel)) ggX5_perform_X5_read
set_option maxRecDepth 20000 in
theorem ggX5_perform_X5_record : GoodIn wsX5_perform wsX5_record := goodIn_r _ [23, 24, 25, 26, 27, 28, 9, 29, 69, 70, 71, 72, 73, 74, 75, 76, 77, 78, 79, 80, 81, 82, 83, 84, 85, 86] (by decide +kernel) (by decide +kernel)
set_option maxRecDepth 20000 in
theorem gX5_perform_X5_record : GoodIn wsX5_perform (wsV RX5 67 RX5 yX5_record wsX5_record) := goodIn_app (goodIn_of _ (by decide +kernel)) ggX5_perform_X5_record
set_option maxRecDepth 20000 in
theorem ggX5_perform_X5_in : GoodIn wsX5_perform wsX5_in := goodIn_r _ [16] (by decide +kernel) (by decide +kernel)
set_option maxRecDepth 20000 in
theorem gX5_perform_X5_in : GoodIn wsX5_perform (va_wsS RX5 47 yX5_in wsX5_in) := goodIn_app (goodIn_of _ (by decide +kernel)) ggX5_perform_X5_in
set_option maxRecDepth 20000 in
theorem ggX5_perform_X5_makeStep : GoodIn wsX5_perform wsX5_makeStep := goodIn_r _ [33, 26, 34, 35, 36, 9, 37, 38, 39, 40, 41, 42, 43, 44, 45, 46, 47, 48, 49, 50, 51, 52, 53, 54, 55, 56, 57, 58, 59, 60, 61, 62, 63, 64, 65, 66, 67, 68, 69, 70, 71, 72, 73, 74, 75, 76, 77, 78, 79, 80, 81, 82, 83, 84, 85, 86] (by decide +kernel) (by decide +kernel)
set_option maxRecDepth 20000 in
theorem gX5_perform_X5_makeStep : GoodIn wsX5_perform (wsV RX5 103 RX5 yX5_makeStep wsX5_makeStep) := goodIn_app (goodIn_of _ (by decide +kernel)) ggX5_perform_X5_makeStep
theorem dX5_perform_0 : decode cX5_perform 0 = .ok (.aload_n 0, 1) := by decide +kernel
theorem dX5_perform_1 : decode cX5_perform 1 = .ok (.invokevirtual 134, 3) := by decide +kernel
theorem dX5_perform_4 : decode cX5_perform 4 = .ok (.istore_n 1, 1) := by decide +kernel
theorem dX5_perform_5 : decode cX5_perform 5 = .ok (.iload_n 1, 1) := by decide +kernel
theorem dX5_perform_6 : decode cX5_perform 6 = .ok (.bipush (-5), 2) := by decide +kernel
theorem dX5_perform_8 : decode cX5_perform 8 = .ok (.if_icmp .eq 8, 3) := by decide +kernel
theorem dX5_perform_11 : decode cX5_perform 11 = .ok (.bipush (-100), 2) := by decide +kernel
theorem dX5_perform_13 : decode cX5_perform 13 = .ok (.iload_n 1, 1) := by decide +kernel
theorem dX5_perform_14 : decode cX5_perform 14 = .ok (.isub, 1) := by decide +kernel
theorem dX5_perform_15 : decode cX5_perform 15 = .ok (.ireturn, 1) := by decide +kernel
theorem dX5_perform_16 : decode cX5_perform 16 = .ok (.aload_n 0, 1) := by decide +kernel
theorem dX5_perform_17 : decode cX5_perform 17 = .ok (.getfield 131, 3) := by decide +kernel
theorem dX5_perform_20 : decode cX5_perform 20 = .ok (.sipush 2000, 3) := by decide +kernel
theorem dX5_perform_23 : decode cX5_perform 23 = .ok (.if_icmp .le 6, 3) := by decide +kernel
theorem dX5_perform_26 : decode cX5_perform 26 = .ok (.bipush (-3), 2) := by decide +kernel
theorem dX5_perform_28 : decode cX5_perform 28 = .ok (.ireturn, 1) := by decide +kernel
theorem dX5_perform_29 : decode cX5_perform 29 = .ok (.aload_n 0, 1) := by decide +kernel
theorem dX5_perform_30 : decode cX5_perform 30 = .ok (.invokevirtual 67, 3) := by decide +kernel
theorem dX5_perform_33 : decode cX5_perform 33 = .ok (.iconst 0, 1) := by decide +kernel
theorem dX5_perform_34 : decode cX5_perform 34 = .ok (.istore_n 2, 1) := by decide +kernel
theorem dX5_perform_35 : decode cX5_perform 35 = .ok (.iconst 1, 1) := by decide +kernel
theorem dX5_perform_36 : decode cX5_perform 36 = .ok (.istore_n 3, 1) := by decide +kernel
theorem dX5_perform_37 : decode cX5_perform 37 = .ok (.iconst 0, 1) := by decide +kernel
theorem dX5_perform_38 : decode cX5_perform 38 = .ok (.istore 4, 2) := by decide +kernel
theorem dX5_perform_40 : decode cX5_perform 40 = .ok (.iload 4, 2) := by decide +kernel
theorem dX5_perform_42 : decode cX5_perform 42 = .ok (.aload_n 0, 1) := by decide +kernel
theorem dX5_perform_43 : decode cX5_perform 43 = .ok (.getfield 125, 3) := by decide +kernel
theorem dX5_perform_46 : decode cX5_perform 46 = .ok (.if_icmp .ge 156, 3) := by decide +kernel
theorem dX5_perform_49 : decode cX5_perform 49 = .ok (.aload_n 0, 1) := by decide +kernel
theorem dX5_perform_50 : decode cX5_perform 50 = .ok (.getfield 22, 3) := by decide +kernel
theorem dX5_perform_53 : decode cX5_perform 53 = .ok (.iload 4, 2) := by decide +kernel
theorem dX5_perform_55 : decode cX5_perform 55 = .ok (.iaload, 1) := by decide +kernel
theorem dX5_perform_56 : decode cX5_perform 56 = .ok (.istore 5, 2) := by decide +kernel
theorem dX5_perform_58 : decode cX5_perform 58 = .ok (.iinc 4 1, 3) := by decide +kernel
theorem dX5_perform_61 : decode cX5_perform 61 = .ok (.iload 5, 2) := by decide +kernel
theorem dX5_perform_63 : decode cX5_perform 63 = .ok (.bipush 50, 2) := by decide +kernel
theorem dX5_perform_65 : decode cX5_perform 65 = .ok (.bipush 57, 2) := by decide +kernel
theorem dX5_perform_67 : decode cX5_perform 67 = .ok (.invokestatic 47, 3) := by decide +kernel
theorem dX5_perform_70 : decode cX5_perform 70 = .ok (.ifCond .eq 12, 3) := by decide +kernel
theorem dX5_perform_73 : decode cX5_perform 73 = .ok (.iload 5, 2) := by decide +kernel
theorem dX5_perform_75 : decode cX5_perform 75 = .ok (.bipush 48, 2) := by decide +kernel
theorem dX5_perform_77 : decode cX5_perform 77 = .ok (.isub, 1) := by decide +kernel
theorem dX5_perform_78 : decode cX5_perform 78 = .ok (.istore_n 3, 1) := by decide +kernel
theorem dX5_perform_79 : decode cX5_perform 79 = .ok (.goto 120, 3) := by decide +kernel
theorem dX5_perform_82 : decode cX5_perform 82 = .ok (.iload 5, 2) := by decide +kernel
theorem dX5_perform_84 : decode cX5_perform 84 = .ok (.bipush 40, 2) := by decide +kernel
theorem dX5_perform_86 : decode cX5_perform 86 = .ok (.if_icmp .ne 28, 3) := by decide +kernel
theorem dX5_perform_89 : decode cX5_perform 89 = .ok (.iinc 2 1, 3) := by decide +kernel
theorem dX5_perform_92 : decode cX5_perform 92 = .ok (.aload_n 0, 1) := by decide +kernel
theorem dX5_perform_93 : decode cX5_perform 93 = .ok (.getfield 34, 3) := by decide +kernel
theorem dX5_perform_96 : decode cX5_perform 96 = .ok (.iload_n 2, 1) := by decide +kernel
theorem dX5_perform_97 : decode cX5_perform 97 = .ok (.iload 4, 2) := by decide +kernel
theorem dX5_perform_99 : decode cX5_perform 99 = .ok (.iastore, 1) := by decide +kernel
theorem dX5_perform_100 : decode cX5_perform 100 = .ok (.aload_n 0, 1) := by decide +kernel
theorem dX5_perform_101 : decode cX5_perform 101 = .ok (.getfield 37, 3) := by decide +kernel
theorem dX5_perform_104 : decode cX5_perform 104 = .ok (.iload_n 2, 1) := by decide +kernel
theorem dX5_perform_105 : decode cX5_perform 105 = .ok (.iload_n 3, 1) := by decide +kernel
theorem dX5_perform_106 : decode cX5_perform 106 = .ok (.iconst 1, 1) := by decide +kernel
theorem dX5_perform_107 : decode cX5_perform 107 = .ok (.isub, 1) := by decide +kernel
theorem dX5_perform_108 : decode cX5_perform 108 = .ok (.iastore, 1) := by decide +kernel
theorem dX5_perform_109 : decode cX5_perform 109 = .ok (.iconst 1, 1) := by decide +kernel
theorem dX5_perform_110 : decode cX5_perform 110 = .ok (.istore_n 3, 1) := by decide +kernel
theorem dX5_perform_111 : decode cX5_perform 111 = .ok (.goto 88, 3) := by decide +kernel
theorem dX5_perform_114 : decode cX5_perform 114 = .ok (.iload 5, 2) := by decide +kernel
theorem dX5_perform_116 : decode cX5_perform 116 = .ok (.bipush 41, 2) := by decide +kernel
theorem dX5_perform_118 : decode cX5_perform 118 = .ok (.if_icmp .ne 55, 3) := by decide +kernel
theorem dX5_perform_121 : decode cX5_perform 121 = .ok (.aload_n 0, 1) := by decide +kernel
theorem dX5_perform_122 : decode cX5_perform 122 = .ok (.getfield 37, 3) := by decide +kernel
theorem dX5_perform_125 : decode cX5_perform 125 = .ok (.iload_n 2, 1) := by decide +kernel
theorem dX5_perform_126 : decode cX5_perform 126 = .ok (.iaload, 1) := by decide +kernel
theorem dX5_perform_127 : decode cX5_perform 127 = .ok (.ifCond .le 12, 3) := by decide +kernel
theorem dX5_perform_130 : decode cX5_perform 130 = .ok (.aload_n 0, 1) := by decide +kernel
theorem dX5_perform_131 : decode cX5_perform 131 = .ok (.getfield 34, 3) := by decide +kernel
theorem dX5_perform_134 : decode cX5_perform 134 = .ok (.iload_n 2, 1) := by decide +kernel
theorem dX5_perform_135 : decode cX5_perform 135 = .ok (.iaload, 1) := by decide +kernel
theorem dX5_perform_136 : decode cX5_perform 136 = .ok (.goto 5, 3) := by decide +kernel
theorem dX5_perform_139 : decode cX5_perform 139 = .ok (.iload 4, 2) := by decide +kernel
theorem dX5_perform_141 : decode cX5_perform 141 = .ok (.istore 4, 2) := by decide +kernel
theorem dX5_perform_143 : decode cX5_perform 143 = .ok (.aload_n 0, 1) := by decide +kernel
theorem dX5_perform_144 : decode cX5_perform 144 = .ok (.getfield 37, 3) := by decide +kernel
theorem dX5_perform_147 : decode cX5_perform 147 = .ok (.iload_n 2, 1) := by decide +kernel
theorem dX5_perform_148 : decode cX5_perform 148 = .ok (.dup2, 1) := by decide +kernel
theorem dX5_perform_149 : decode cX5_perform 149 = .ok (.iaload, 1) := by decide +kernel
theorem dX5_perform_150 : decode cX5_perform 150 = .ok (.iconst 1, 1) := by decide +kernel
theorem dX5_perform_151 : decode cX5_perform 151 = .ok (.isub, 1) := by decide +kernel
theorem dX5_perform_152 : decode cX5_perform 152 = .ok (.iastore, 1) := by decide +kernel
theorem dX5_perform_153 : decode cX5_perform 153 = .ok (.iload_n 2, 1) := by decide +kernel
theorem dX5_perform_154 : decode cX5_perform 154 = .ok (.aload_n 0, 1) := by decide +kernel
theorem dX5_perform_155 : decode cX5_perform 155 = .ok (.getfield 37, 3) := by decide +kernel
theorem dX5_perform_158 : decode cX5_perform 158 = .ok (.iload_n 2, 1) := by decide +kernel
theorem dX5_perform_159 : decode cX5_perform 159 = .ok (.iaload, 1) := by decide +kernel
theorem dX5_perform_160 : decode cX5_perform 160 = .ok (.ifCond .ge 7, 3) := by decide +kernel
theorem dX5_perform_163 : decode cX5_perform 163 = .ok (.iconst 1, 1) := by decide +kernel
theorem dX5_perform_164 : decode cX5_perform 164 = .ok (.goto 4, 3) := by decide +kernel
theorem dX5_perform_167 : decode cX5_perform 167 = .ok (.iconst 0, 1) := by decide +kernel
theorem dX5_perform_168 : decode cX5_perform 168 = .ok (.isub, 1) := by decide +kernel
theorem dX5_perform_169 : decode cX5_perform 169 = .ok (.istore_n 2, 1) := by decide +kernel
theorem dX5_perform_170 : decode cX5_perform 170 = .ok (.goto 29, 3) := by decide +kernel
theorem dX5_perform_173 : decode cX5_perform 173 = .ok (.iconst 0, 1) := by decide +kernel
theorem dX5_perform_174 : decode cX5_perform 174 = .ok (.istore 6, 2) := by decide +kernel
theorem dX5_perform_176 : decode cX5_perform 176 = .ok (.iload 6, 2) := by decide +kernel
theorem dX5_perform_178 : decode cX5_perform 178 = .ok (.iload_n 3, 1) := by decide +kernel
theorem dX5_perform_179 : decode cX5_perform 179 = .ok (.if_icmp .ge 18, 3) := by decide +kernel
theorem dX5_perform_182 : decode cX5_perform 182 = .ok (.aload_n 0, 1) := by decide +kernel
theorem dX5_perform_183 : decode cX5_perform 183 = .ok (.iload 5, 2) := by decide +kernel
theorem dX5_perform_185 : decode cX5_perform 185 = .ok (.bipush 97, 2) := by decide +kernel
theorem dX5_perform_187 : decode cX5_perform 187 = .ok (.isub, 1) := by decide +kernel
theorem dX5_perform_188 : decode cX5_perform 188 = .ok (.invokevirtual 103, 3) := by decide +kernel
theorem dX5_perform_191 : decode cX5_perform 191 = .ok (.iinc 6 1, 3) := by decide +kernel
theorem dX5_perform_194 : decode cX5_perform 194 = .ok (.goto (-18), 3) := by decide +kernel
theorem dX5_perform_197 : decode cX5_perform 197 = .ok (.iconst 1, 1) := by decide +kernel
theorem dX5_perform_198 : decode cX5_perform 198 = .ok (.istore_n 3, 1) := by decide +kernel
theorem dX5_perform_199 : decode cX5_perform 199 = .ok (.goto (-159), 3) := by decide +kernel
theorem dX5_perform_202 : decode cX5_perform 202 = .ok (.aload_n 0, 1) := by decide +kernel
theorem dX5_perform_203 : decode cX5_perform 203 = .ok (.getfield 131, 3) := by decide +kernel
theorem dX5_perform_206 : decode cX5_perform 206 = .ok (.ireturn, 1) := by decide +kernel
set_option maxRecDepth 20000 in
theorem ggX5_visitor_X5_isVisitor : GoodIn wsX5_visitor wsX5_isVisitor := goodIn_r _ [5, 6, 7, 4, 8] (by decide +kernel) (by decide +kernel)
set_option maxRecDepth 20000 in
theorem gX5_visitor_X5_isVisitor : GoodIn wsX5_visitor (va_wsS RX5 100 yX5_isVisitor wsX5_isVisitor) := goodIn_app (goodIn_of _ (by decide +kernel)) ggX5_visitor_X5_isVisitor
set_option maxRecDepth 20000 in
theorem ggX5_visitor_X5_in : GoodIn wsX5_visitor wsX5_in := goodIn_r _ [8] (by decide +kernel) (by decide +kernel)
set_option maxRecDepth 20000 in
theorem gX5_visitor_X5_in : GoodIn wsX5_visitor (va_wsS RX5 47 yX5_in wsX5_in) := goodIn_app (goodIn_of _ (by decide +kernel)) ggX5_visitor_X5_in
set_option maxRecDepth 20000 in
theorem ggX5_visitor_X5_placeOf : GoodIn wsX5_visitor wsX5_placeOf := goodIn_r _ [12, 1, 13, 14, 15, 16, 17, 18, 19, 20, 21, 22, 23, 24, 25, 26, 27, 28, 29, 30] (by decide +kernel) (by decide +kernel)
set_option maxRecDepth 20000 in
theorem gX5_visitor_X5_placeOf : GoodIn wsX5_visitor (wsV RX5 82 RX5 yX5_placeOf wsX5_placeOf) := goodIn_app (goodIn_of _ (by decide +kernel)) ggX5_visitor_X5_placeOf
theorem dX5_visitor_0 : decode cX5_visitor 0 = .ok (.iload_n 1, 1) := by decide +kernel
theorem dX5_visitor_1 : decode cX5_visitor 1 = .ok (.invokestatic 100, 3) := by decide +kernel
theorem dX5_visitor_4 : decode cX5_visitor 4 = .ok (.ifCond .ne 5, 3) := by decide +kernel
theorem dX5_visitor_7 : decode cX5_visitor 7 = .ok (.iconst (-1), 1) := by decide +kernel
theorem dX5_visitor_8 : decode cX5_visitor 8 = .ok (.ireturn, 1) := by decide +kernel
theorem dX5_visitor_9 : decode cX5_visitor 9 = .ok (.aload_n 0, 1) := by decide +kernel
theorem dX5_visitor_10 : decode cX5_visitor 10 = .ok (.getfield 7, 3) := by decide +kernel
theorem dX5_visitor_13 : decode cX5_visitor 13 = .ok (.bipush 60, 2) := by decide +kernel
theorem dX5_visitor_15 : decode cX5_visitor 15 = .ok (.iaload, 1) := by decide +kernel
theorem dX5_visitor_16 : decode cX5_visitor 16 = .ok (.istore_n 3, 1) := by decide +kernel
theorem dX5_visitor_17 : decode cX5_visitor 17 = .ok (.aload_n 0, 1) := by decide +kernel
theorem dX5_visitor_18 : decode cX5_visitor 18 = .ok (.getfield 7, 3) := by decide +kernel
theorem dX5_visitor_21 : decode cX5_visitor 21 = .ok (.iconst 0, 1) := by decide +kernel
theorem dX5_visitor_22 : decode cX5_visitor 22 = .ok (.iload_n 1, 1) := by decide +kernel
theorem dX5_visitor_23 : decode cX5_visitor 23 = .ok (.iadd, 1) := by decide +kernel
theorem dX5_visitor_24 : decode cX5_visitor 24 = .ok (.iaload, 1) := by decide +kernel
theorem dX5_visitor_25 : decode cX5_visitor 25 = .ok (.istore 4, 2) := by decide +kernel
theorem dX5_visitor_27 : decode cX5_visitor 27 = .ok (.iload_n 2, 1) := by decide +kernel
theorem dX5_visitor_28 : decode cX5_visitor 28 = .ok (.tableswitch 257 0 10 #[60, 63, 73, 83, 93, 103, 135, 187, 207, 232, 251], 60) := by decide +kernel
theorem dX5_visitor_88 : decode cX5_visitor 88 = .ok (.iload 4, 2) := by decide +kernel
theorem dX5_visitor_90 : decode cX5_visitor 90 = .ok (.ireturn, 1) := by decide +kernel
theorem dX5_visitor_91 : decode cX5_visitor 91 = .ok (.aload_n 0, 1) := by decide +kernel
theorem dX5_visitor_92 : decode cX5_visitor 92 = .ok (.getfield 7, 3) := by decide +kernel
theorem dX5_visitor_95 : decode cX5_visitor 95 = .ok (.bipush 62, 2) := by decide +kernel
theorem dX5_visitor_97 : decode cX5_visitor 97 = .ok (.iload_n 1, 1) := by decide +kernel
theorem dX5_visitor_98 : decode cX5_visitor 98 = .ok (.iadd, 1) := by decide +kernel
theorem dX5_visitor_99 : decode cX5_visitor 99 = .ok (.iaload, 1) := by decide +kernel
theorem dX5_visitor_100 : decode cX5_visitor 100 = .ok (.ireturn, 1) := by decide +kernel
theorem dX5_visitor_101 : decode cX5_visitor 101 = .ok (.aload_n 0, 1) := by decide +kernel
theorem dX5_visitor_102 : decode cX5_visitor 102 = .ok (.getfield 7, 3) := by decide +kernel
theorem dX5_visitor_105 : decode cX5_visitor 105 = .ok (.bipush 68, 2) := by decide +kernel
theorem dX5_visitor_107 : decode cX5_visitor 107 = .ok (.iload_n 1, 1) := by decide +kernel
theorem dX5_visitor_108 : decode cX5_visitor 108 = .ok (.iadd, 1) := by decide +kernel
theorem dX5_visitor_109 : decode cX5_visitor 109 = .ok (.iaload, 1) := by decide +kernel
theorem dX5_visitor_110 : decode cX5_visitor 110 = .ok (.ireturn, 1) := by decide +kernel
theorem dX5_visitor_111 : decode cX5_visitor 111 = .ok (.aload_n 0, 1) := by decide +kernel
theorem dX5_visitor_112 : decode cX5_visitor 112 = .ok (.getfield 7, 3) := by decide +kernel
theorem dX5_visitor_115 : decode cX5_visitor 115 = .ok (.bipush 74, 2) := by decide +kernel
theorem dX5_visitor_117 : decode cX5_visitor 117 = .ok (.iload_n 1, 1) := by decide +kernel
theorem dX5_visitor_118 : decode cX5_visitor 118 = .ok (.iadd, 1) := by decide +kernel
theorem dX5_visitor_119 : decode cX5_visitor 119 = .ok (.iaload, 1) := by decide +kernel
theorem dX5_visitor_120 : decode cX5_visitor 120 = .ok (.ireturn, 1) := by decide +kernel
theorem dX5_visitor_121 : decode cX5_visitor 121 = .ok (.aload_n 0, 1) := by decide +kernel
theorem dX5_visitor_122 : decode cX5_visitor 122 = .ok (.getfield 7, 3) := by decide +kernel
theorem dX5_visitor_125 : decode cX5_visitor 125 = .ok (.bipush 80, 2) := by decide +kernel
theorem dX5_visitor_127 : decode cX5_visitor 127 = .ok (.iload_n 1, 1) := by decide +kernel
theorem dX5_visitor_128 : decode cX5_visitor 128 = .ok (.iadd, 1) := by decide +kernel
theorem dX5_visitor_129 : decode cX5_visitor 129 = .ok (.iaload, 1) := by decide +kernel
theorem dX5_visitor_130 : decode cX5_visitor 130 = .ok (.ireturn, 1) := by decide +kernel
theorem dX5_visitor_131 : decode cX5_visitor 131 = .ok (.iload_n 3, 1) := by decide +kernel
theorem dX5_visitor_132 : decode cX5_visitor 132 = .ok (.ifCond .ne 16, 3) := by decide +kernel
theorem dX5_visitor_135 : decode cX5_visitor 135 = .ok (.aload_n 0, 1) := by decide +kernel
theorem dX5_visitor_136 : decode cX5_visitor 136 = .ok (.getfield 7, 3) := by decide +kernel
theorem dX5_visitor_139 : decode cX5_visitor 139 = .ok (.bipush 6, 2) := by decide +kernel
theorem dX5_visitor_141 : decode cX5_visitor 141 = .ok (.iload_n 1, 1) := by decide +kernel
theorem dX5_visitor_142 : decode cX5_visitor 142 = .ok (.iadd, 1) := by decide +kernel
theorem dX5_visitor_143 : decode cX5_visitor 143 = .ok (.iaload, 1) := by decide +kernel
theorem dX5_visitor_144 : decode cX5_visitor 144 = .ok (.iconst (-1), 1) := by decide +kernel
theorem dX5_visitor_145 : decode cX5_visitor 145 = .ok (.if_icmp .ne 8, 3) := by decide +kernel
theorem dX5_visitor_148 : decode cX5_visitor 148 = .ok (.bipush (-5), 2) := by decide +kernel
theorem dX5_visitor_150 : decode cX5_visitor 150 = .ok (.goto 12, 3) := by decide +kernel
theorem dX5_visitor_153 : decode cX5_visitor 153 = .ok (.aload_n 0, 1) := by decide +kernel
theorem dX5_visitor_154 : decode cX5_visitor 154 = .ok (.getfield 7, 3) := by decide +kernel
theorem dX5_visitor_157 : decode cX5_visitor 157 = .ok (.bipush 6, 2) := by decide +kernel
theorem dX5_visitor_159 : decode cX5_visitor 159 = .ok (.iload_n 1, 1) := by decide +kernel
theorem dX5_visitor_160 : decode cX5_visitor 160 = .ok (.iadd, 1) := by decide +kernel
theorem dX5_visitor_161 : decode cX5_visitor 161 = .ok (.iaload, 1) := by decide +kernel
theorem dX5_visitor_162 : decode cX5_visitor 162 = .ok (.ireturn, 1) := by decide +kernel
theorem dX5_visitor_163 : decode cX5_visitor 163 = .ok (.iload_n 3, 1) := by decide +kernel
theorem dX5_visitor_164 : decode cX5_visitor 164 = .ok (.ifCond .ne 25, 3) := by decide +kernel
theorem dX5_visitor_167 : decode cX5_visitor 167 = .ok (.iload 4, 2) := by decide +kernel
theorem dX5_visitor_169 : decode cX5_visitor 169 = .ok (.iconst 2, 1) := by decide +kernel
theorem dX5_visitor_170 : decode cX5_visitor 170 = .ok (.iconst 3, 1) := by decide +kernel
theorem dX5_visitor_171 : decode cX5_visitor 171 = .ok (.invokestatic 47, 3) := by decide +kernel
theorem dX5_visitor_174 : decode cX5_visitor 174 = .ok (.ifCond .eq 15, 3) := by decide +kernel
theorem dX5_visitor_177 : decode cX5_visitor 177 = .ok (.aload_n 0, 1) := by decide +kernel
theorem dX5_visitor_178 : decode cX5_visitor 178 = .ok (.getfield 7, 3) := by decide +kernel
theorem dX5_visitor_181 : decode cX5_visitor 181 = .ok (.bipush 18, 2) := by decide +kernel
theorem dX5_visitor_183 : decode cX5_visitor 183 = .ok (.iload_n 1, 1) := by decide +kernel
theorem dX5_visitor_184 : decode cX5_visitor 184 = .ok (.iadd, 1) := by decide +kernel
theorem dX5_visitor_185 : decode cX5_visitor 185 = .ok (.iaload, 1) := by decide +kernel
theorem dX5_visitor_186 : decode cX5_visitor 186 = .ok (.goto 28, 3) := by decide +kernel
theorem dX5_visitor_189 : decode cX5_visitor 189 = .ok (.iload_n 3, 1) := by decide +kernel
theorem dX5_visitor_190 : decode cX5_visitor 190 = .ok (.iconst 1, 1) := by decide +kernel
theorem dX5_visitor_191 : decode cX5_visitor 191 = .ok (.if_icmp .ne 21, 3) := by decide +kernel
theorem dX5_visitor_194 : decode cX5_visitor 194 = .ok (.iload 4, 2) := by decide +kernel
theorem dX5_visitor_196 : decode cX5_visitor 196 = .ok (.iconst 3, 1) := by decide +kernel
theorem dX5_visitor_197 : decode cX5_visitor 197 = .ok (.if_icmp .lt 15, 3) := by decide +kernel
theorem dX5_visitor_200 : decode cX5_visitor 200 = .ok (.aload_n 0, 1) := by decide +kernel
theorem dX5_visitor_201 : decode cX5_visitor 201 = .ok (.getfield 7, 3) := by decide +kernel
theorem dX5_visitor_204 : decode cX5_visitor 204 = .ok (.bipush 30, 2) := by decide +kernel
theorem dX5_visitor_206 : decode cX5_visitor 206 = .ok (.iload_n 1, 1) := by decide +kernel
theorem dX5_visitor_207 : decode cX5_visitor 207 = .ok (.iadd, 1) := by decide +kernel
theorem dX5_visitor_208 : decode cX5_visitor 208 = .ok (.iaload, 1) := by decide +kernel
theorem dX5_visitor_209 : decode cX5_visitor 209 = .ok (.goto 5, 3) := by decide +kernel
theorem dX5_visitor_212 : decode cX5_visitor 212 = .ok (.bipush (-5), 2) := by decide +kernel
theorem dX5_visitor_214 : decode cX5_visitor 214 = .ok (.ireturn, 1) := by decide +kernel
theorem dX5_visitor_215 : decode cX5_visitor 215 = .ok (.iload_n 3, 1) := by decide +kernel
theorem dX5_visitor_216 : decode cX5_visitor 216 = .ok (.iconst 1, 1) := by decide +kernel
theorem dX5_visitor_217 : decode cX5_visitor 217 = .ok (.if_icmp .ne 15, 3) := by decide +kernel
theorem dX5_visitor_220 : decode cX5_visitor 220 = .ok (.aload_n 0, 1) := by decide +kernel
theorem dX5_visitor_221 : decode cX5_visitor 221 = .ok (.getfield 7, 3) := by decide +kernel
theorem dX5_visitor_224 : decode cX5_visitor 224 = .ok (.bipush 24, 2) := by decide +kernel
theorem dX5_visitor_226 : decode cX5_visitor 226 = .ok (.iload_n 1, 1) := by decide +kernel
theorem dX5_visitor_227 : decode cX5_visitor 227 = .ok (.iadd, 1) := by decide +kernel
theorem dX5_visitor_228 : decode cX5_visitor 228 = .ok (.iaload, 1) := by decide +kernel
theorem dX5_visitor_229 : decode cX5_visitor 229 = .ok (.goto 5, 3) := by decide +kernel
theorem dX5_visitor_232 : decode cX5_visitor 232 = .ok (.bipush (-5), 2) := by decide +kernel
theorem dX5_visitor_234 : decode cX5_visitor 234 = .ok (.ireturn, 1) := by decide +kernel
theorem dX5_visitor_235 : decode cX5_visitor 235 = .ok (.iload_n 3, 1) := by decide +kernel
theorem dX5_visitor_236 : decode cX5_visitor 236 = .ok (.iconst 2, 1) := by decide +kernel
theorem dX5_visitor_237 : decode cX5_visitor 237 = .ok (.if_icmp .ne 20, 3) := by decide +kernel
theorem dX5_visitor_240 : decode cX5_visitor 240 = .ok (.iload 4, 2) := by decide +kernel
theorem dX5_visitor_242 : decode cX5_visitor 242 = .ok (.ifCond .le 15, 3) := by decide +kernel
theorem dX5_visitor_245 : decode cX5_visitor 245 = .ok (.aload_n 0, 1) := by decide +kernel
theorem dX5_visitor_246 : decode cX5_visitor 246 = .ok (.getfield 7, 3) := by decide +kernel
theorem dX5_visitor_249 : decode cX5_visitor 249 = .ok (.bipush 36, 2) := by decide +kernel
theorem dX5_visitor_251 : decode cX5_visitor 251 = .ok (.iload_n 1, 1) := by decide +kernel
theorem dX5_visitor_252 : decode cX5_visitor 252 = .ok (.iadd, 1) := by decide +kernel
theorem dX5_visitor_253 : decode cX5_visitor 253 = .ok (.iaload, 1) := by decide +kernel
theorem dX5_visitor_254 : decode cX5_visitor 254 = .ok (.goto 5, 3) := by decide +kernel
theorem dX5_visitor_257 : decode cX5_visitor 257 = .ok (.bipush (-5), 2) := by decide +kernel
theorem dX5_visitor_259 : decode cX5_visitor 259 = .ok (.ireturn, 1) := by decide +kernel
theorem dX5_visitor_260 : decode cX5_visitor 260 = .ok (.iload_n 3, 1) := by decide +kernel
theorem dX5_visitor_261 : decode cX5_visitor 261 = .ok (.ifCond .ne 15, 3) := by decide +kernel
theorem dX5_visitor_264 : decode cX5_visitor 264 = .ok (.aload_n 0, 1) := by decide +kernel
theorem dX5_visitor_265 : decode cX5_visitor 265 = .ok (.getfield 7, 3) := by decide +kernel
theorem dX5_visitor_268 : decode cX5_visitor 268 = .ok (.bipush 12, 2) := by decide +kernel
theorem dX5_visitor_270 : decode cX5_visitor 270 = .ok (.iload_n 1, 1) := by decide +kernel
theorem dX5_visitor_271 : decode cX5_visitor 271 = .ok (.iadd, 1) := by decide +kernel
theorem dX5_visitor_272 : decode cX5_visitor 272 = .ok (.iaload, 1) := by decide +kernel
theorem dX5_visitor_273 : decode cX5_visitor 273 = .ok (.goto 5, 3) := by decide +kernel
theorem dX5_visitor_276 : decode cX5_visitor 276 = .ok (.bipush (-5), 2) := by decide +kernel
theorem dX5_visitor_278 : decode cX5_visitor 278 = .ok (.ireturn, 1) := by decide +kernel
theorem dX5_visitor_279 : decode cX5_visitor 279 = .ok (.aload_n 0, 1) := by decide +kernel
theorem dX5_visitor_280 : decode cX5_visitor 280 = .ok (.iload_n 1, 1) := by decide +kernel
theorem dX5_visitor_281 : decode cX5_visitor 281 = .ok (.invokevirtual 82, 3) := by decide +kernel
theorem dX5_visitor_284 : decode cX5_visitor 284 = .ok (.ireturn, 1) := by decide +kernel
theorem dX5_visitor_285 : decode cX5_visitor 285 = .ok (.bipush (-2), 2) := by decide +kernel
theorem dX5_visitor_287 : decode cX5_visitor 287 = .ok (.ireturn, 1) := by decide +kernel
theorem dX5_inLine_0 : decode cX5_inLine 0 = .ok (.iload_n 1, 1) := by decide +kernel
theorem dX5_inLine_1 : decode cX5_inLine 1 = .ok (.ifCond .ge 6, 3) := by decide +kernel
theorem dX5_inLine_4 : decode cX5_inLine 4 = .ok (.bipush (-2), 2) := by decide +kernel
theorem dX5_inLine_6 : decode cX5_inLine 6 = .ok (.ireturn, 1) := by decide +kernel
theorem dX5_inLine_7 : decode cX5_inLine 7 = .ok (.iload_n 1, 1) := by decide +kernel
theorem dX5_inLine_8 : decode cX5_inLine 8 = .ok (.aload_n 0, 1) := by decide +kernel
theorem dX5_inLine_9 : decode cX5_inLine 9 = .ok (.getfield 7, 3) := by decide +kernel
theorem dX5_inLine_12 : decode cX5_inLine 12 = .ok (.bipush 53, 2) := by decide +kernel
theorem dX5_inLine_14 : decode cX5_inLine 14 = .ok (.iaload, 1) := by decide +kernel
theorem dX5_inLine_15 : decode cX5_inLine 15 = .ok (.if_icmp .ge 15, 3) := by decide +kernel
theorem dX5_inLine_18 : decode cX5_inLine 18 = .ok (.aload_n 0, 1) := by decide +kernel
theorem dX5_inLine_19 : decode cX5_inLine 19 = .ok (.getfield 7, 3) := by decide +kernel
theorem dX5_inLine_22 : decode cX5_inLine 22 = .ok (.bipush 54, 2) := by decide +kernel
theorem dX5_inLine_24 : decode cX5_inLine 24 = .ok (.iload_n 1, 1) := by decide +kernel
theorem dX5_inLine_25 : decode cX5_inLine 25 = .ok (.iadd, 1) := by decide +kernel
theorem dX5_inLine_26 : decode cX5_inLine 26 = .ok (.iaload, 1) := by decide +kernel
theorem dX5_inLine_27 : decode cX5_inLine 27 = .ok (.goto 5, 3) := by decide +kernel
theorem dX5_inLine_30 : decode cX5_inLine 30 = .ok (.bipush (-5), 2) := by decide +kernel
theorem dX5_inLine_32 : decode cX5_inLine 32 = .ok (.ireturn, 1) := by decide +kernel
set_option maxRecDepth 20000 in
theorem ggX5_card_X5_in : GoodIn wsX5_card wsX5_in := goodIn_r _ [5] (by decide +kernel) (by decide +kernel)
set_option maxRecDepth 20000 in
theorem gX5_card_X5_in : GoodIn wsX5_card (va_wsS RX5 47 yX5_in wsX5_in) := goodIn_app (goodIn_of _ (by decide +kernel)) ggX5_card_X5_in
end
section
theorem dX5_card_0 : decode cX5_card 0 = .ok (.iload_n 1, 1) := by decide +kernel
theorem dX5_card_1 : decode cX5_card 1 = .ok (.iconst 0, 1) := by decide +kernel
theorem dX5_card_2 : decode cX5_card 2 = .ok (.bipush 6, 2) := by decide +kernel
theorem dX5_card_4 : decode cX5_card 4 = .ok (.invokestatic 47, 3) := by decide +kernel
theorem dX5_card_7 : decode cX5_card 7 = .ok (.ifCond .ne 5, 3) := by decide +kernel
theorem dX5_card_10 : decode cX5_card 10 = .ok (.iconst (-1), 1) := by decide +kernel
theorem dX5_card_11 : decode cX5_card 11 = .ok (.ireturn, 1) := by decide +kernel
theorem dX5_card_12 : decode cX5_card 12 = .ok (.aload_n 0, 1) := by decide +kernel
theorem dX5_card_13 : decode cX5_card 13 = .ok (.getfield 7, 3) := by decide +kernel
theorem dX5_card_16 : decode cX5_card 16 = .ok (.bipush 60, 2) := by decide +kernel
theorem dX5_card_18 : decode cX5_card 18 = .ok (.iaload, 1) := by decide +kernel
theorem dX5_card_19 : decode cX5_card 19 = .ok (.iconst 1, 1) := by decide +kernel
theorem dX5_card_20 : decode cX5_card 20 = .ok (.if_icmp .ne 15, 3) := by decide +kernel
theorem dX5_card_23 : decode cX5_card 23 = .ok (.aload_n 0, 1) := by decide +kernel
theorem dX5_card_24 : decode cX5_card 24 = .ok (.getfield 7, 3) := by decide +kernel
theorem dX5_card_27 : decode cX5_card 27 = .ok (.bipush 42, 2) := by decide +kernel
theorem dX5_card_29 : decode cX5_card 29 = .ok (.iload_n 1, 1) := by decide +kernel
theorem dX5_card_30 : decode cX5_card 30 = .ok (.iadd, 1) := by decide +kernel
theorem dX5_card_31 : decode cX5_card 31 = .ok (.iaload, 1) := by decide +kernel
theorem dX5_card_32 : decode cX5_card 32 = .ok (.goto 5, 3) := by decide +kernel
theorem dX5_card_35 : decode cX5_card 35 = .ok (.bipush (-5), 2) := by decide +kernel
theorem dX5_card_37 : decode cX5_card 37 = .ok (.ireturn, 1) := by decide +kernel
theorem dX5_inside_0 : decode cX5_inside 0 = .ok (.bipush (-5), 2) := by decide +kernel
theorem dX5_inside_2 : decode cX5_inside 2 = .ok (.istore_n 1, 1) := by decide +kernel
theorem dX5_inside_3 : decode cX5_inside 3 = .ok (.iconst 5, 1) := by decide +kernel
theorem dX5_inside_4 : decode cX5_inside 4 = .ok (.istore_n 2, 1) := by decide +kernel
theorem dX5_inside_5 : decode cX5_inside 5 = .ok (.iload_n 2, 1) := by decide +kernel
theorem dX5_inside_6 : decode cX5_inside 6 = .ok (.ifCond .lt 27, 3) := by decide +kernel
theorem dX5_inside_9 : decode cX5_inside 9 = .ok (.aload_n 0, 1) := by decide +kernel
theorem dX5_inside_10 : decode cX5_inside 10 = .ok (.getfield 7, 3) := by decide +kernel
theorem dX5_inside_13 : decode cX5_inside 13 = .ok (.iconst 0, 1) := by decide +kernel
theorem dX5_inside_14 : decode cX5_inside 14 = .ok (.iload_n 2, 1) := by decide +kernel
theorem dX5_inside_15 : decode cX5_inside 15 = .ok (.iadd, 1) := by decide +kernel
theorem dX5_inside_16 : decode cX5_inside 16 = .ok (.iaload, 1) := by decide +kernel
theorem dX5_inside_17 : decode cX5_inside 17 = .ok (.iconst 4, 1) := by decide +kernel
theorem dX5_inside_18 : decode cX5_inside 18 = .ok (.if_icmp .ne 7, 3) := by decide +kernel
theorem dX5_inside_21 : decode cX5_inside 21 = .ok (.iload_n 2, 1) := by decide +kernel
theorem dX5_inside_22 : decode cX5_inside 22 = .ok (.goto 4, 3) := by decide +kernel
theorem dX5_inside_25 : decode cX5_inside 25 = .ok (.iload_n 1, 1) := by decide +kernel
theorem dX5_inside_26 : decode cX5_inside 26 = .ok (.istore_n 1, 1) := by decide +kernel
theorem dX5_inside_27 : decode cX5_inside 27 = .ok (.iinc 2 (-1), 3) := by decide +kernel
theorem dX5_inside_30 : decode cX5_inside 30 = .ok (.goto (-25), 3) := by decide +kernel
theorem dX5_inside_33 : decode cX5_inside 33 = .ok (.iload_n 1, 1) := by decide +kernel
theorem dX5_inside_34 : decode cX5_inside 34 = .ok (.ireturn, 1) := by decide +kernel
theorem dX5_atStage_0 : decode cX5_atStage 0 = .ok (.iconst 0, 1) := by decide +kernel
theorem dX5_atStage_1 : decode cX5_atStage 1 = .ok (.istore_n 2, 1) := by decide +kernel
theorem dX5_atStage_2 : decode cX5_atStage 2 = .ok (.iconst 0, 1) := by decide +kernel
theorem dX5_atStage_3 : decode cX5_atStage 3 = .ok (.istore_n 3, 1) := by decide +kernel
theorem dX5_atStage_4 : decode cX5_atStage 4 = .ok (.iload_n 3, 1) := by decide +kernel
theorem dX5_atStage_5 : decode cX5_atStage 5 = .ok (.bipush 6, 2) := by decide +kernel
theorem dX5_atStage_7 : decode cX5_atStage 7 = .ok (.if_icmp .ge 29, 3) := by decide +kernel
theorem dX5_atStage_10 : decode cX5_atStage 10 = .ok (.iload_n 2, 1) := by decide +kernel
theorem dX5_atStage_11 : decode cX5_atStage 11 = .ok (.aload_n 0, 1) := by decide +kernel
theorem dX5_atStage_12 : decode cX5_atStage 12 = .ok (.getfield 7, 3) := by decide +kernel
theorem dX5_atStage_15 : decode cX5_atStage 15 = .ok (.iconst 0, 1) := by decide +kernel
theorem dX5_atStage_16 : decode cX5_atStage 16 = .ok (.iload_n 3, 1) := by decide +kernel
theorem dX5_atStage_17 : decode cX5_atStage 17 = .ok (.iadd, 1) := by decide +kernel
theorem dX5_atStage_18 : decode cX5_atStage 18 = .ok (.iaload, 1) := by decide +kernel
theorem dX5_atStage_19 : decode cX5_atStage 19 = .ok (.iload_n 1, 1) := by decide +kernel
theorem dX5_atStage_20 : decode cX5_atStage 20 = .ok (.if_icmp .ne 7, 3) := by decide +kernel
theorem dX5_atStage_23 : decode cX5_atStage 23 = .ok (.iconst 1, 1) := by decide +kernel
theorem dX5_atStage_24 : decode cX5_atStage 24 = .ok (.goto 4, 3) := by decide +kernel
theorem dX5_atStage_27 : decode cX5_atStage 27 = .ok (.iconst 0, 1) := by decide +kernel
theorem dX5_atStage_28 : decode cX5_atStage 28 = .ok (.iadd, 1) := by decide +kernel
theorem dX5_atStage_29 : decode cX5_atStage 29 = .ok (.istore_n 2, 1) := by decide +kernel
theorem dX5_atStage_30 : decode cX5_atStage 30 = .ok (.iinc 3 1, 3) := by decide +kernel
theorem dX5_atStage_33 : decode cX5_atStage 33 = .ok (.goto (-29), 3) := by decide +kernel
theorem dX5_atStage_36 : decode cX5_atStage 36 = .ok (.iload_n 2, 1) := by decide +kernel
theorem dX5_atStage_37 : decode cX5_atStage 37 = .ok (.ireturn, 1) := by decide +kernel
set_option maxRecDepth 20000 in
theorem ggX5_total_X5_inside : GoodIn wsX5_total wsX5_inside := goodIn_r _ [8, 1, 21, 22, 23, 24, 25, 26, 27, 28, 29, 30, 31, 32, 33, 34, 35, 36, 37, 38] (by decide +kernel) (by decide +kernel)
set_option maxRecDepth 20000 in
theorem gX5_total_X5_inside : GoodIn wsX5_total (wsV RX5 137 RX5 yX5_inside wsX5_inside) := goodIn_app (goodIn_of _ (by decide +kernel)) ggX5_total_X5_inside
set_option maxRecDepth 20000 in
theorem ggX5_total_X5_notAway : GoodIn wsX5_total wsX5_notAway := goodIn_r _ [12, 1, 21, 22, 23, 24, 25, 26, 27, 28, 29, 30, 31, 32, 33, 34, 35, 36, 37, 38] (by decide +kernel) (by decide +kernel)
set_option maxRecDepth 20000 in
theorem gX5_total_X5_notAway : GoodIn wsX5_total (wsV RX5 63 RX5 yX5_notAway wsX5_notAway) := goodIn_app (goodIn_of _ (by decide +kernel)) ggX5_total_X5_notAway
set_option maxRecDepth 20000 in
theorem ggX5_total_X5_atStage : GoodIn wsX5_total wsX5_atStage := goodIn_r _ [16, 1, 21, 22, 23, 24, 25, 26, 27, 28, 29, 30, 31, 32, 33, 34, 35, 36, 37, 38] (by decide +kernel) (by decide +kernel)
set_option maxRecDepth 20000 in
theorem gX5_total_X5_atStage : GoodIn wsX5_total (wsV RX5 140 RX5 yX5_atStage wsX5_atStage) := goodIn_app (goodIn_of _ (by decide +kernel)) ggX5_total_X5_atStage
set_option maxRecDepth 20000 in
theorem ggX5_total_X5_sum : GoodIn wsX5_total wsX5_sum := goodIn_r _ [20, 1, 21, 22, 23, 24, 25, 26, 27, 28, 29, 30, 31, 32, 33, 34, 35, 36, 37, 38] (by decide +kernel) (by decide +kernel)
set_option maxRecDepth 20000 in
theorem gX5_total_X5_sum : GoodIn wsX5_total (wsV RX5 106 RX5 yX5_sum wsX5_sum) := goodIn_app (goodIn_of _ (by decide +kernel)) ggX5_total_X5_sum
theorem dX5_total_0 : decode cX5_total 0 = .ok (.aload_n 0, 1) := by decide +kernel
theorem dX5_total_1 : decode cX5_total 1 = .ok (.getfield 7, 3) := by decide +kernel
theorem dX5_total_4 : decode cX5_total 4 = .ok (.bipush 60, 2) := by decide +kernel
theorem dX5_total_6 : decode cX5_total 6 = .ok (.iaload, 1) := by decide +kernel
theorem dX5_total_7 : decode cX5_total 7 = .ok (.istore_n 2, 1) := by decide +kernel
theorem dX5_total_8 : decode cX5_total 8 = .ok (.iload_n 1, 1) := by decide +kernel
theorem dX5_total_9 : decode cX5_total 9 = .ok (.tableswitch 222 0 14 #[75, 77, 82, 111, 116, 122, 129, 136, 143, 150, 168, 186, 204, 212, 217], 75) := by decide +kernel
theorem dX5_total_84 : decode cX5_total 84 = .ok (.iload_n 2, 1) := by decide +kernel
theorem dX5_total_85 : decode cX5_total 85 = .ok (.ireturn, 1) := by decide +kernel
theorem dX5_total_86 : decode cX5_total 86 = .ok (.aload_n 0, 1) := by decide +kernel
theorem dX5_total_87 : decode cX5_total 87 = .ok (.invokevirtual 137, 3) := by decide +kernel
theorem dX5_total_90 : decode cX5_total 90 = .ok (.ireturn, 1) := by decide +kernel
theorem dX5_total_91 : decode cX5_total 91 = .ok (.iload_n 2, 1) := by decide +kernel
theorem dX5_total_92 : decode cX5_total 92 = .ok (.iconst 1, 1) := by decide +kernel
theorem dX5_total_93 : decode cX5_total 93 = .ok (.if_icmp .gt 14, 3) := by decide +kernel
theorem dX5_total_96 : decode cX5_total 96 = .ok (.aload_n 0, 1) := by decide +kernel
theorem dX5_total_97 : decode cX5_total 97 = .ok (.getfield 7, 3) := by decide +kernel
theorem dX5_total_100 : decode cX5_total 100 = .ok (.bipush 49, 2) := by decide +kernel
theorem dX5_total_102 : decode cX5_total 102 = .ok (.iaload, 1) := by decide +kernel
theorem dX5_total_103 : decode cX5_total 103 = .ok (.iconst (-1), 1) := by decide +kernel
theorem dX5_total_104 : decode cX5_total 104 = .ok (.if_icmp .ne 8, 3) := by decide +kernel
theorem dX5_total_107 : decode cX5_total 107 = .ok (.bipush (-5), 2) := by decide +kernel
theorem dX5_total_109 : decode cX5_total 109 = .ok (.goto 10, 3) := by decide +kernel
theorem dX5_total_112 : decode cX5_total 112 = .ok (.aload_n 0, 1) := by decide +kernel
theorem dX5_total_113 : decode cX5_total 113 = .ok (.getfield 7, 3) := by decide +kernel
theorem dX5_total_116 : decode cX5_total 116 = .ok (.bipush 49, 2) := by decide +kernel
theorem dX5_total_118 : decode cX5_total 118 = .ok (.iaload, 1) := by decide +kernel
theorem dX5_total_119 : decode cX5_total 119 = .ok (.ireturn, 1) := by decide +kernel
theorem dX5_total_120 : decode cX5_total 120 = .ok (.aload_n 0, 1) := by decide +kernel
theorem dX5_total_121 : decode cX5_total 121 = .ok (.invokevirtual 63, 3) := by decide +kernel
theorem dX5_total_124 : decode cX5_total 124 = .ok (.ireturn, 1) := by decide +kernel
theorem dX5_total_125 : decode cX5_total 125 = .ok (.aload_n 0, 1) := by decide +kernel
theorem dX5_total_126 : decode cX5_total 126 = .ok (.iconst 2, 1) := by decide +kernel
theorem dX5_total_127 : decode cX5_total 127 = .ok (.invokevirtual 140, 3) := by decide +kernel
theorem dX5_total_130 : decode cX5_total 130 = .ok (.ireturn, 1) := by decide +kernel
theorem dX5_total_131 : decode cX5_total 131 = .ok (.aload_n 0, 1) := by decide +kernel
theorem dX5_total_132 : decode cX5_total 132 = .ok (.bipush 62, 2) := by decide +kernel
theorem dX5_total_134 : decode cX5_total 134 = .ok (.invokevirtual 106, 3) := by decide +kernel
theorem dX5_total_137 : decode cX5_total 137 = .ok (.ireturn, 1) := by decide +kernel
theorem dX5_total_138 : decode cX5_total 138 = .ok (.aload_n 0, 1) := by decide +kernel
theorem dX5_total_139 : decode cX5_total 139 = .ok (.bipush 68, 2) := by decide +kernel
theorem dX5_total_141 : decode cX5_total 141 = .ok (.invokevirtual 106, 3) := by decide +kernel
theorem dX5_total_144 : decode cX5_total 144 = .ok (.ireturn, 1) := by decide +kernel
theorem dX5_total_145 : decode cX5_total 145 = .ok (.aload_n 0, 1) := by decide +kernel
theorem dX5_total_146 : decode cX5_total 146 = .ok (.bipush 74, 2) := by decide +kernel
theorem dX5_total_148 : decode cX5_total 148 = .ok (.invokevirtual 106, 3) := by decide +kernel
theorem dX5_total_151 : decode cX5_total 151 = .ok (.ireturn, 1) := by decide +kernel
theorem dX5_total_152 : decode cX5_total 152 = .ok (.aload_n 0, 1) := by decide +kernel
theorem dX5_total_153 : decode cX5_total 153 = .ok (.bipush 80, 2) := by decide +kernel
theorem dX5_total_155 : decode cX5_total 155 = .ok (.invokevirtual 106, 3) := by decide +kernel
theorem dX5_total_158 : decode cX5_total 158 = .ok (.ireturn, 1) := by decide +kernel
theorem dX5_total_159 : decode cX5_total 159 = .ok (.iload_n 2, 1) := by decide +kernel
theorem dX5_total_160 : decode cX5_total 160 = .ok (.iconst 2, 1) := by decide +kernel
theorem dX5_total_161 : decode cX5_total 161 = .ok (.if_icmp .ne 13, 3) := by decide +kernel
theorem dX5_total_164 : decode cX5_total 164 = .ok (.aload_n 0, 1) := by decide +kernel
theorem dX5_total_165 : decode cX5_total 165 = .ok (.getfield 7, 3) := by decide +kernel
theorem dX5_total_168 : decode cX5_total 168 = .ok (.bipush 50, 2) := by decide +kernel
theorem dX5_total_170 : decode cX5_total 170 = .ok (.iaload, 1) := by decide +kernel
theorem dX5_total_171 : decode cX5_total 171 = .ok (.goto 5, 3) := by decide +kernel
theorem dX5_total_174 : decode cX5_total 174 = .ok (.bipush (-5), 2) := by decide +kernel
theorem dX5_total_176 : decode cX5_total 176 = .ok (.ireturn, 1) := by decide +kernel
theorem dX5_total_177 : decode cX5_total 177 = .ok (.iload_n 2, 1) := by decide +kernel
theorem dX5_total_178 : decode cX5_total 178 = .ok (.iconst 2, 1) := by decide +kernel
theorem dX5_total_179 : decode cX5_total 179 = .ok (.if_icmp .ne 13, 3) := by decide +kernel
theorem dX5_total_182 : decode cX5_total 182 = .ok (.aload_n 0, 1) := by decide +kernel
theorem dX5_total_183 : decode cX5_total 183 = .ok (.getfield 7, 3) := by decide +kernel
theorem dX5_total_186 : decode cX5_total 186 = .ok (.bipush 51, 2) := by decide +kernel
theorem dX5_total_188 : decode cX5_total 188 = .ok (.iaload, 1) := by decide +kernel
theorem dX5_total_189 : decode cX5_total 189 = .ok (.goto 5, 3) := by decide +kernel
theorem dX5_total_192 : decode cX5_total 192 = .ok (.bipush (-5), 2) := by decide +kernel
theorem dX5_total_194 : decode cX5_total 194 = .ok (.ireturn, 1) := by decide +kernel
theorem dX5_total_195 : decode cX5_total 195 = .ok (.iload_n 2, 1) := by decide +kernel
theorem dX5_total_196 : decode cX5_total 196 = .ok (.iconst 3, 1) := by decide +kernel
theorem dX5_total_197 : decode cX5_total 197 = .ok (.if_icmp .ne 13, 3) := by decide +kernel
theorem dX5_total_200 : decode cX5_total 200 = .ok (.aload_n 0, 1) := by decide +kernel
theorem dX5_total_201 : decode cX5_total 201 = .ok (.getfield 7, 3) := by decide +kernel
theorem dX5_total_204 : decode cX5_total 204 = .ok (.bipush 52, 2) := by decide +kernel
theorem dX5_total_206 : decode cX5_total 206 = .ok (.iaload, 1) := by decide +kernel
theorem dX5_total_207 : decode cX5_total 207 = .ok (.goto 5, 3) := by decide +kernel
theorem dX5_total_210 : decode cX5_total 210 = .ok (.bipush (-5), 2) := by decide +kernel
theorem dX5_total_212 : decode cX5_total 212 = .ok (.ireturn, 1) := by decide +kernel
theorem dX5_total_213 : decode cX5_total 213 = .ok (.aload_n 0, 1) := by decide +kernel
theorem dX5_total_214 : decode cX5_total 214 = .ok (.getfield 7, 3) := by decide +kernel
theorem dX5_total_217 : decode cX5_total 217 = .ok (.bipush 61, 2) := by decide +kernel
theorem dX5_total_219 : decode cX5_total 219 = .ok (.iaload, 1) := by decide +kernel
theorem dX5_total_220 : decode cX5_total 220 = .ok (.ireturn, 1) := by decide +kernel
theorem dX5_total_221 : decode cX5_total 221 = .ok (.aload_n 0, 1) := by decide +kernel
theorem dX5_total_222 : decode cX5_total 222 = .ok (.getfield 51, 3) := by decide +kernel
theorem dX5_total_225 : decode cX5_total 225 = .ok (.ireturn, 1) := by decide +kernel
theorem dX5_total_226 : decode cX5_total 226 = .ok (.aload_n 0, 1) := by decide +kernel
theorem dX5_total_227 : decode cX5_total 227 = .ok (.getfield 125, 3) := by decide +kernel
theorem dX5_total_230 : decode cX5_total 230 = .ok (.ireturn, 1) := by decide +kernel
theorem dX5_total_231 : decode cX5_total 231 = .ok (.bipush (-2), 2) := by decide +kernel
theorem dX5_total_233 : decode cX5_total 233 = .ok (.ireturn, 1) := by decide +kernel
set_option maxRecDepth 20000 in
theorem ggX5_wouldLook_X5_isVisitor : GoodIn wsX5_wouldLook wsX5_isVisitor := goodIn_r _ [4, 5, 6, 3, 7] (by decide +kernel) (by decide +kernel)
set_option maxRecDepth 20000 in
theorem gX5_wouldLook_X5_isVisitor : GoodIn wsX5_wouldLook (va_wsS RX5 100 yX5_isVisitor wsX5_isVisitor) := goodIn_app (goodIn_of _ (by decide +kernel)) ggX5_wouldLook_X5_isVisitor
set_option maxRecDepth 20000 in
theorem ggX5_wouldLook_X5_isLook : GoodIn wsX5_wouldLook wsX5_isLook := goodIn_r _ [11, 12, 13, 14, 15, 16, 17, 18, 19, 20, 21, 22, 23, 24, 25, 26, 27, 28, 29, 30] (by decide +kernel) (by decide +kernel)
set_option maxRecDepth 20000 in
theorem gX5_wouldLook_X5_isLook : GoodIn wsX5_wouldLook (wsV RX5 86 RX5 yX5_isLook wsX5_isLook) := goodIn_app (goodIn_of _ (by decide +kernel)) ggX5_wouldLook_X5_isLook
theorem dX5_wouldLook_0 : decode cX5_wouldLook 0 = .ok (.iload_n 1, 1) := by decide +kernel
theorem dX5_wouldLook_1 : decode cX5_wouldLook 1 = .ok (.invokestatic 100, 3) := by decide +kernel
theorem dX5_wouldLook_4 : decode cX5_wouldLook 4 = .ok (.ifCond .ne 7, 3) := by decide +kernel
theorem dX5_wouldLook_7 : decode cX5_wouldLook 7 = .ok (.iconst (-1), 1) := by decide +kernel
theorem dX5_wouldLook_8 : decode cX5_wouldLook 8 = .ok (.goto 16, 3) := by decide +kernel
theorem dX5_wouldLook_11 : decode cX5_wouldLook 11 = .ok (.aload_n 0, 1) := by decide +kernel
theorem dX5_wouldLook_12 : decode cX5_wouldLook 12 = .ok (.iload_n 1, 1) := by decide +kernel
theorem dX5_wouldLook_13 : decode cX5_wouldLook 13 = .ok (.invokevirtual 86, 3) := by decide +kernel
theorem dX5_wouldLook_16 : decode cX5_wouldLook 16 = .ok (.ifCond .eq 7, 3) := by decide +kernel
theorem dX5_wouldLook_19 : decode cX5_wouldLook 19 = .ok (.iconst 1, 1) := by decide +kernel
theorem dX5_wouldLook_20 : decode cX5_wouldLook 20 = .ok (.goto 4, 3) := by decide +kernel
theorem dX5_wouldLook_23 : decode cX5_wouldLook 23 = .ok (.iconst 0, 1) := by decide +kernel
theorem dX5_wouldLook_24 : decode cX5_wouldLook 24 = .ok (.ireturn, 1) := by decide +kernel
set_option maxRecDepth 20000 in
theorem ggX5_wouldTouch_X5_isVisitor : GoodIn wsX5_wouldTouch wsX5_isVisitor := goodIn_r _ [5, 6, 7, 4, 8] (by decide +kernel) (by decide +kernel)
set_option maxRecDepth 20000 in
theorem gX5_wouldTouch_X5_isVisitor : GoodIn wsX5_wouldTouch (va_wsS RX5 100 yX5_isVisitor wsX5_isVisitor) := goodIn_app (goodIn_of _ (by decide +kernel)) ggX5_wouldTouch_X5_isVisitor
set_option maxRecDepth 20000 in
theorem ggX5_wouldTouch_X5_cost : GoodIn wsX5_wouldTouch wsX5_cost := goodIn_r _ [11] (by decide +kernel) (by decide +kernel)
set_option maxRecDepth 20000 in
theorem gX5_wouldTouch_X5_cost : GoodIn wsX5_wouldTouch (va_wsS RX5 90 yX5_cost wsX5_cost) := goodIn_app (goodIn_of _ (by decide +kernel)) ggX5_wouldTouch_X5_cost
theorem dX5_wouldTouch_0 : decode cX5_wouldTouch 0 = .ok (.iload_n 1, 1) := by decide +kernel
theorem dX5_wouldTouch_1 : decode cX5_wouldTouch 1 = .ok (.invokestatic 100, 3) := by decide +kernel
theorem dX5_wouldTouch_4 : decode cX5_wouldTouch 4 = .ok (.ifCond .eq 24, 3) := by decide +kernel
theorem dX5_wouldTouch_7 : decode cX5_wouldTouch 7 = .ok (.aload_n 0, 1) := by decide +kernel
theorem dX5_wouldTouch_8 : decode cX5_wouldTouch 8 = .ok (.getfield 7, 3) := by decide +kernel
theorem dX5_wouldTouch_11 : decode cX5_wouldTouch 11 = .ok (.bipush 60, 2) := by decide +kernel
theorem dX5_wouldTouch_13 : decode cX5_wouldTouch 13 = .ok (.iaload, 1) := by decide +kernel
theorem dX5_wouldTouch_14 : decode cX5_wouldTouch 14 = .ok (.aload_n 0, 1) := by decide +kernel
theorem dX5_wouldTouch_15 : decode cX5_wouldTouch 15 = .ok (.getfield 7, 3) := by decide +kernel
theorem dX5_wouldTouch_18 : decode cX5_wouldTouch 18 = .ok (.iconst 0, 1) := by decide +kernel
theorem dX5_wouldTouch_19 : decode cX5_wouldTouch 19 = .ok (.iload_n 1, 1) := by decide +kernel
theorem dX5_wouldTouch_20 : decode cX5_wouldTouch 20 = .ok (.iadd, 1) := by decide +kernel
theorem dX5_wouldTouch_21 : decode cX5_wouldTouch 21 = .ok (.iaload, 1) := by decide +kernel
theorem dX5_wouldTouch_22 : decode cX5_wouldTouch 22 = .ok (.invokestatic 90, 3) := by decide +kernel
theorem dX5_wouldTouch_25 : decode cX5_wouldTouch 25 = .ok (.goto 4, 3) := by decide +kernel
theorem dX5_wouldTouch_28 : decode cX5_wouldTouch 28 = .ok (.iconst (-1), 1) := by decide +kernel
theorem dX5_wouldTouch_29 : decode cX5_wouldTouch 29 = .ok (.ireturn, 1) := by decide +kernel
set_option maxRecDepth 20000 in
theorem ggX5_collect_X5_copyRow : GoodIn wsX5_collect wsX5_copyRow := goodIn_r _ [9] (by decide +kernel) (by decide +kernel)
set_option maxRecDepth 20000 in
theorem gX5_collect_X5_copyRow : GoodIn wsX5_collect (va_wsS RX5 55 yX5_copyRow wsX5_copyRow) := goodIn_app (goodIn_of _ (by decide +kernel)) ggX5_collect_X5_copyRow
theorem dX5_collect_0 : decode cX5_collect 0 = .ok (.iconst 0, 1) := by decide +kernel
theorem dX5_collect_1 : decode cX5_collect 1 = .ok (.istore_n 1, 1) := by decide +kernel
theorem dX5_collect_2 : decode cX5_collect 2 = .ok (.iload_n 1, 1) := by decide +kernel
theorem dX5_collect_3 : decode cX5_collect 3 = .ok (.aload_n 0, 1) := by decide +kernel
theorem dX5_collect_4 : decode cX5_collect 4 = .ok (.getfield 143, 3) := by decide +kernel
theorem dX5_collect_7 : decode cX5_collect 7 = .ok (.if_icmp .ge 105, 3) := by decide +kernel
theorem dX5_collect_10 : decode cX5_collect 10 = .ok (.aload_n 0, 1) := by decide +kernel
theorem dX5_collect_11 : decode cX5_collect 11 = .ok (.getfield 40, 3) := by decide +kernel
theorem dX5_collect_14 : decode cX5_collect 14 = .ok (.bipush 55, 2) := by decide +kernel
theorem dX5_collect_16 : decode cX5_collect 16 = .ok (.iload_n 1, 1) := by decide +kernel
theorem dX5_collect_17 : decode cX5_collect 17 = .ok (.imul, 1) := by decide +kernel
theorem dX5_collect_18 : decode cX5_collect 18 = .ok (.bipush 53, 2) := by decide +kernel
theorem dX5_collect_20 : decode cX5_collect 20 = .ok (.iadd, 1) := by decide +kernel
theorem dX5_collect_21 : decode cX5_collect 21 = .ok (.iaload, 1) := by decide +kernel
theorem dX5_collect_22 : decode cX5_collect 22 = .ok (.aload_n 0, 1) := by decide +kernel
theorem dX5_collect_23 : decode cX5_collect 23 = .ok (.getfield 146, 3) := by decide +kernel
theorem dX5_collect_26 : decode cX5_collect 26 = .ok (.if_icmp .ne 28, 3) := by decide +kernel
theorem dX5_collect_29 : decode cX5_collect 29 = .ok (.aload_n 0, 1) := by decide +kernel
theorem dX5_collect_30 : decode cX5_collect 30 = .ok (.getfield 40, 3) := by decide +kernel
theorem dX5_collect_33 : decode cX5_collect 33 = .ok (.bipush 55, 2) := by decide +kernel
theorem dX5_collect_35 : decode cX5_collect 35 = .ok (.iload_n 1, 1) := by decide +kernel
theorem dX5_collect_36 : decode cX5_collect 36 = .ok (.imul, 1) := by decide +kernel
theorem dX5_collect_37 : decode cX5_collect 37 = .ok (.bipush 53, 2) := by decide +kernel
theorem dX5_collect_39 : decode cX5_collect 39 = .ok (.iadd, 1) := by decide +kernel
theorem dX5_collect_40 : decode cX5_collect 40 = .ok (.iconst 1, 1) := by decide +kernel
theorem dX5_collect_41 : decode cX5_collect 41 = .ok (.iadd, 1) := by decide +kernel
theorem dX5_collect_42 : decode cX5_collect 42 = .ok (.iaload, 1) := by decide +kernel
theorem dX5_collect_43 : decode cX5_collect 43 = .ok (.aload_n 0, 1) := by decide +kernel
theorem dX5_collect_44 : decode cX5_collect 44 = .ok (.getfield 149, 3) := by decide +kernel
theorem dX5_collect_47 : decode cX5_collect 47 = .ok (.if_icmp .ne 7, 3) := by decide +kernel
theorem dX5_collect_50 : decode cX5_collect 50 = .ok (.iconst 1, 1) := by decide +kernel
theorem dX5_collect_51 : decode cX5_collect 51 = .ok (.goto 4, 3) := by decide +kernel
theorem dX5_collect_54 : decode cX5_collect 54 = .ok (.iconst 0, 1) := by decide +kernel
theorem dX5_collect_55 : decode cX5_collect 55 = .ok (.istore_n 2, 1) := by decide +kernel
theorem dX5_collect_56 : decode cX5_collect 56 = .ok (.iconst 0, 1) := by decide +kernel
theorem dX5_collect_57 : decode cX5_collect 57 = .ok (.istore_n 3, 1) := by decide +kernel
theorem dX5_collect_58 : decode cX5_collect 58 = .ok (.iload_n 3, 1) := by decide +kernel
theorem dX5_collect_59 : decode cX5_collect 59 = .ok (.bipush 53, 2) := by decide +kernel
theorem dX5_collect_61 : decode cX5_collect 61 = .ok (.if_icmp .ge 39, 3) := by decide +kernel
theorem dX5_collect_64 : decode cX5_collect 64 = .ok (.iload_n 2, 1) := by decide +kernel
theorem dX5_collect_65 : decode cX5_collect 65 = .ok (.ifCond .eq 35, 3) := by decide +kernel
theorem dX5_collect_68 : decode cX5_collect 68 = .ok (.aload_n 0, 1) := by decide +kernel
theorem dX5_collect_69 : decode cX5_collect 69 = .ok (.getfield 40, 3) := by decide +kernel
theorem dX5_collect_72 : decode cX5_collect 72 = .ok (.bipush 55, 2) := by decide +kernel
theorem dX5_collect_74 : decode cX5_collect 74 = .ok (.iload_n 1, 1) := by decide +kernel
theorem dX5_collect_75 : decode cX5_collect 75 = .ok (.imul, 1) := by decide +kernel
theorem dX5_collect_76 : decode cX5_collect 76 = .ok (.iload_n 3, 1) := by decide +kernel
theorem dX5_collect_77 : decode cX5_collect 77 = .ok (.iadd, 1) := by decide +kernel
theorem dX5_collect_78 : decode cX5_collect 78 = .ok (.iaload, 1) := by decide +kernel
theorem dX5_collect_79 : decode cX5_collect 79 = .ok (.aload_n 0, 1) := by decide +kernel
theorem dX5_collect_80 : decode cX5_collect 80 = .ok (.getfield 7, 3) := by decide +kernel
theorem dX5_collect_83 : decode cX5_collect 83 = .ok (.iload_n 3, 1) := by decide +kernel
theorem dX5_collect_84 : decode cX5_collect 84 = .ok (.iaload, 1) := by decide +kernel
theorem dX5_collect_85 : decode cX5_collect 85 = .ok (.if_icmp .ne 7, 3) := by decide +kernel
theorem dX5_collect_88 : decode cX5_collect 88 = .ok (.iconst 1, 1) := by decide +kernel
theorem dX5_collect_89 : decode cX5_collect 89 = .ok (.goto 4, 3) := by decide +kernel
theorem dX5_collect_92 : decode cX5_collect 92 = .ok (.iconst 0, 1) := by decide +kernel
theorem dX5_collect_93 : decode cX5_collect 93 = .ok (.istore_n 2, 1) := by decide +kernel
theorem dX5_collect_94 : decode cX5_collect 94 = .ok (.iinc 3 1, 3) := by decide +kernel
theorem dX5_collect_97 : decode cX5_collect 97 = .ok (.goto (-39), 3) := by decide +kernel
theorem dX5_collect_100 : decode cX5_collect 100 = .ok (.iload_n 2, 1) := by decide +kernel
theorem dX5_collect_101 : decode cX5_collect 101 = .ok (.ifCond .eq 5, 3) := by decide +kernel
theorem dX5_collect_104 : decode cX5_collect 104 = .ok (.iconst 1, 1) := by decide +kernel
theorem dX5_collect_105 : decode cX5_collect 105 = .ok (.ireturn, 1) := by decide +kernel
theorem dX5_collect_106 : decode cX5_collect 106 = .ok (.iinc 1 1, 3) := by decide +kernel
theorem dX5_collect_109 : decode cX5_collect 109 = .ok (.goto (-107), 3) := by decide +kernel
theorem dX5_collect_112 : decode cX5_collect 112 = .ok (.aload_n 0, 1) := by decide +kernel
theorem dX5_collect_113 : decode cX5_collect 113 = .ok (.getfield 143, 3) := by decide +kernel
theorem dX5_collect_116 : decode cX5_collect 116 = .ok (.sipush 300, 3) := by decide +kernel
theorem dX5_collect_119 : decode cX5_collect 119 = .ok (.if_icmp .ne 5, 3) := by decide +kernel
theorem dX5_collect_122 : decode cX5_collect 122 = .ok (.iconst 0, 1) := by decide +kernel
theorem dX5_collect_123 : decode cX5_collect 123 = .ok (.ireturn, 1) := by decide +kernel
theorem dX5_collect_124 : decode cX5_collect 124 = .ok (.aload_n 0, 1) := by decide +kernel
theorem dX5_collect_125 : decode cX5_collect 125 = .ok (.getfield 7, 3) := by decide +kernel
theorem dX5_collect_128 : decode cX5_collect 128 = .ok (.iconst 0, 1) := by decide +kernel
theorem dX5_collect_129 : decode cX5_collect 129 = .ok (.aload_n 0, 1) := by decide +kernel
theorem dX5_collect_130 : decode cX5_collect 130 = .ok (.getfield 40, 3) := by decide +kernel
theorem dX5_collect_133 : decode cX5_collect 133 = .ok (.bipush 55, 2) := by decide +kernel
theorem dX5_collect_135 : decode cX5_collect 135 = .ok (.aload_n 0, 1) := by decide +kernel
theorem dX5_collect_136 : decode cX5_collect 136 = .ok (.getfield 143, 3) := by decide +kernel
theorem dX5_collect_139 : decode cX5_collect 139 = .ok (.imul, 1) := by decide +kernel
theorem dX5_collect_140 : decode cX5_collect 140 = .ok (.bipush 53, 2) := by decide +kernel
theorem dX5_collect_142 : decode cX5_collect 142 = .ok (.invokestatic 55, 3) := by decide +kernel
theorem dX5_collect_145 : decode cX5_collect 145 = .ok (.aload_n 0, 1) := by decide +kernel
theorem dX5_collect_146 : decode cX5_collect 146 = .ok (.getfield 40, 3) := by decide +kernel
theorem dX5_collect_149 : decode cX5_collect 149 = .ok (.bipush 55, 2) := by decide +kernel
theorem dX5_collect_151 : decode cX5_collect 151 = .ok (.aload_n 0, 1) := by decide +kernel
theorem dX5_collect_152 : decode cX5_collect 152 = .ok (.getfield 143, 3) := by decide +kernel
theorem dX5_collect_155 : decode cX5_collect 155 = .ok (.imul, 1) := by decide +kernel
theorem dX5_collect_156 : decode cX5_collect 156 = .ok (.bipush 53, 2) := by decide +kernel
theorem dX5_collect_158 : decode cX5_collect 158 = .ok (.iadd, 1) := by decide +kernel
theorem dX5_collect_159 : decode cX5_collect 159 = .ok (.aload_n 0, 1) := by decide +kernel
theorem dX5_collect_160 : decode cX5_collect 160 = .ok (.getfield 146, 3) := by decide +kernel
theorem dX5_collect_163 : decode cX5_collect 163 = .ok (.iastore, 1) := by decide +kernel
theorem dX5_collect_164 : decode cX5_collect 164 = .ok (.aload_n 0, 1) := by decide +kernel
theorem dX5_collect_165 : decode cX5_collect 165 = .ok (.getfield 40, 3) := by decide +kernel
theorem dX5_collect_168 : decode cX5_collect 168 = .ok (.bipush 55, 2) := by decide +kernel
theorem dX5_collect_170 : decode cX5_collect 170 = .ok (.aload_n 0, 1) := by decide +kernel
theorem dX5_collect_171 : decode cX5_collect 171 = .ok (.getfield 143, 3) := by decide +kernel
theorem dX5_collect_174 : decode cX5_collect 174 = .ok (.imul, 1) := by decide +kernel
theorem dX5_collect_175 : decode cX5_collect 175 = .ok (.bipush 53, 2) := by decide +kernel
theorem dX5_collect_177 : decode cX5_collect 177 = .ok (.iadd, 1) := by decide +kernel
theorem dX5_collect_178 : decode cX5_collect 178 = .ok (.iconst 1, 1) := by decide +kernel
theorem dX5_collect_179 : decode cX5_collect 179 = .ok (.iadd, 1) := by decide +kernel
theorem dX5_collect_180 : decode cX5_collect 180 = .ok (.aload_n 0, 1) := by decide +kernel
theorem dX5_collect_181 : decode cX5_collect 181 = .ok (.getfield 149, 3) := by decide +kernel
theorem dX5_collect_184 : decode cX5_collect 184 = .ok (.iastore, 1) := by decide +kernel
theorem dX5_collect_185 : decode cX5_collect 185 = .ok (.aload_n 0, 1) := by decide +kernel
theorem dX5_collect_186 : decode cX5_collect 186 = .ok (.dup, 1) := by decide +kernel
theorem dX5_collect_187 : decode cX5_collect 187 = .ok (.getfield 143, 3) := by decide +kernel
theorem dX5_collect_190 : decode cX5_collect 190 = .ok (.iconst 1, 1) := by decide +kernel
theorem dX5_collect_191 : decode cX5_collect 191 = .ok (.iadd, 1) := by decide +kernel
theorem dX5_collect_192 : decode cX5_collect 192 = .ok (.putfield 143, 3) := by decide +kernel
theorem dX5_collect_195 : decode cX5_collect 195 = .ok (.iconst 1, 1) := by decide +kernel
theorem dX5_collect_196 : decode cX5_collect 196 = .ok (.ireturn, 1) := by decide +kernel
set_option maxRecDepth 20000 in
theorem ggX5_takeFound_X5_copyRow : GoodIn wsX5_takeFound wsX5_copyRow := goodIn_r _ [8] (by decide +kernel) (by decide +kernel)
set_option maxRecDepth 20000 in
theorem gX5_takeFound_X5_copyRow : GoodIn wsX5_takeFound (va_wsS RX5 55 yX5_copyRow wsX5_copyRow) := goodIn_app (goodIn_of _ (by decide +kernel)) ggX5_takeFound_X5_copyRow
theorem dX5_takeFound_0 : decode cX5_takeFound 0 = .ok (.aload_n 0, 1) := by decide +kernel
theorem dX5_takeFound_1 : decode cX5_takeFound 1 = .ok (.getfield 40, 3) := by decide +kernel
theorem dX5_takeFound_4 : decode cX5_takeFound 4 = .ok (.bipush 55, 2) := by decide +kernel
theorem dX5_takeFound_6 : decode cX5_takeFound 6 = .ok (.iload_n 1, 1) := by decide +kernel
theorem dX5_takeFound_7 : decode cX5_takeFound 7 = .ok (.imul, 1) := by decide +kernel
theorem dX5_takeFound_8 : decode cX5_takeFound 8 = .ok (.aload_n 0, 1) := by decide +kernel
theorem dX5_takeFound_9 : decode cX5_takeFound 9 = .ok (.getfield 7, 3) := by decide +kernel
theorem dX5_takeFound_12 : decode cX5_takeFound 12 = .ok (.iconst 0, 1) := by decide +kernel
theorem dX5_takeFound_13 : decode cX5_takeFound 13 = .ok (.bipush 53, 2) := by decide +kernel
theorem dX5_takeFound_15 : decode cX5_takeFound 15 = .ok (.invokestatic 55, 3) := by decide +kernel
theorem dX5_takeFound_18 : decode cX5_takeFound 18 = .ok (.aload_n 0, 1) := by decide +kernel
theorem dX5_takeFound_19 : decode cX5_takeFound 19 = .ok (.aload_n 0, 1) := by decide +kernel
theorem dX5_takeFound_20 : decode cX5_takeFound 20 = .ok (.getfield 40, 3) := by decide +kernel
theorem dX5_takeFound_23 : decode cX5_takeFound 23 = .ok (.bipush 55, 2) := by decide +kernel
theorem dX5_takeFound_25 : decode cX5_takeFound 25 = .ok (.iload_n 1, 1) := by decide +kernel
theorem dX5_takeFound_26 : decode cX5_takeFound 26 = .ok (.imul, 1) := by decide +kernel
theorem dX5_takeFound_27 : decode cX5_takeFound 27 = .ok (.bipush 53, 2) := by decide +kernel
theorem dX5_takeFound_29 : decode cX5_takeFound 29 = .ok (.iadd, 1) := by decide +kernel
theorem dX5_takeFound_30 : decode cX5_takeFound 30 = .ok (.iaload, 1) := by decide +kernel
theorem dX5_takeFound_31 : decode cX5_takeFound 31 = .ok (.putfield 146, 3) := by decide +kernel
theorem dX5_takeFound_34 : decode cX5_takeFound 34 = .ok (.aload_n 0, 1) := by decide +kernel
theorem dX5_takeFound_35 : decode cX5_takeFound 35 = .ok (.aload_n 0, 1) := by decide +kernel
theorem dX5_takeFound_36 : decode cX5_takeFound 36 = .ok (.getfield 40, 3) := by decide +kernel
theorem dX5_takeFound_39 : decode cX5_takeFound 39 = .ok (.bipush 55, 2) := by decide +kernel
theorem dX5_takeFound_41 : decode cX5_takeFound 41 = .ok (.iload_n 1, 1) := by decide +kernel
theorem dX5_takeFound_42 : decode cX5_takeFound 42 = .ok (.imul, 1) := by decide +kernel
theorem dX5_takeFound_43 : decode cX5_takeFound 43 = .ok (.bipush 53, 2) := by decide +kernel
theorem dX5_takeFound_45 : decode cX5_takeFound 45 = .ok (.iadd, 1) := by decide +kernel
theorem dX5_takeFound_46 : decode cX5_takeFound 46 = .ok (.iconst 1, 1) := by decide +kernel
theorem dX5_takeFound_47 : decode cX5_takeFound 47 = .ok (.iadd, 1) := by decide +kernel
theorem dX5_takeFound_48 : decode cX5_takeFound 48 = .ok (.iaload, 1) := by decide +kernel
theorem dX5_takeFound_49 : decode cX5_takeFound 49 = .ok (.putfield 149, 3) := by decide +kernel
theorem dX5_takeFound_52 : decode cX5_takeFound 52 = .ok (.return_, 1) := by decide +kernel
set_option maxRecDepth 20000 in
theorem ggX5_follow_X5_takeFound : GoodIn wsX5_follow wsX5_takeFound := goodIn_r _ [8, 9, 2, 1, 3, 10, 11, 7, 12, 42, 43, 44, 45, 46, 47, 48, 49, 50, 51, 52, 53, 54, 55, 56, 57, 58, 59] (by decide +kernel) (by decide +kernel)
set_option maxRecDepth 20000 in
theorem gX5_follow_X5_takeFound : GoodIn wsX5_follow (wsV RX5 152 RX5 yX5_takeFound wsX5_takeFound) := goodIn_app (goodIn_of _ (by decide +kernel)) ggX5_follow_X5_takeFound
set_option maxRecDepth 20000 in
theorem ggX5_follow_X5_isLook : GoodIn wsX5_follow wsX5_isLook := goodIn_r _ [16, 2, 42, 43, 44, 45, 46, 47, 48, 49, 50, 51, 52, 53, 54, 55, 56, 57, 58, 59] (by decide +kernel) (by decide +kernel)
set_option maxRecDepth 20000 in
theorem gX5_follow_X5_isLook : GoodIn wsX5_follow (wsV RX5 86 RX5 yX5_isLook wsX5_isLook) := goodIn_app (goodIn_of _ (by decide +kernel)) ggX5_follow_X5_isLook
set_option maxRecDepth 20000 in
theorem ggX5_follow_X5_change : GoodIn wsX5_follow wsX5_change := goodIn_r _ [20, 2, 21, 22, 23, 7, 24, 25, 26, 27, 28, 29, 30, 31, 32, 33, 34, 35, 36, 42, 43, 44, 45, 46, 47, 48, 49, 50, 51, 52, 53, 54, 55, 56, 57, 58, 59] (by decide +kernel) (by decide +kernel)
set_option maxRecDepth 20000 in
theorem gX5_follow_X5_change : GoodIn wsX5_follow (wsV RX5 94 RX5 yX5_change wsX5_change) := goodIn_app (goodIn_of _ (by decide +kernel)) ggX5_follow_X5_change
set_option maxRecDepth 20000 in
theorem ggX5_follow_X5_collect : GoodIn wsX5_follow wsX5_collect := goodIn_r _ [40, 41, 9, 1, 3, 2, 10, 11, 7, 12, 42, 43, 44, 45, 46, 47, 48, 49, 50, 51, 52, 53, 54, 55, 56, 57, 58, 59] (by decide +kernel) (by decide +kernel)
set_option maxRecDepth 20000 in
theorem gX5_follow_X5_collect : GoodIn wsX5_follow (wsV RX5 155 RX5 yX5_collect wsX5_collect) := goodIn_app (goodIn_of _ (by decide +kernel)) ggX5_follow_X5_collect
theorem dX5_follow_0 : decode cX5_follow 0 = .ok (.iconst 1, 1) := by decide +kernel
theorem dX5_follow_1 : decode cX5_follow 1 = .ok (.istore 4, 2) := by decide +kernel
theorem dX5_follow_3 : decode cX5_follow 3 = .ok (.aload_n 0, 1) := by decide +kernel
theorem dX5_follow_4 : decode cX5_follow 4 = .ok (.iload_n 1, 1) := by decide +kernel
theorem dX5_follow_5 : decode cX5_follow 5 = .ok (.invokevirtual 152, 3) := by decide +kernel
theorem dX5_follow_8 : decode cX5_follow 8 = .ok (.aload_n 0, 1) := by decide +kernel
theorem dX5_follow_9 : decode cX5_follow 9 = .ok (.getfield 146, 3) := by decide +kernel
theorem dX5_follow_12 : decode cX5_follow 12 = .ok (.ifCond .ne 42, 3) := by decide +kernel
theorem dX5_follow_15 : decode cX5_follow 15 = .ok (.aload_n 0, 1) := by decide +kernel
theorem dX5_follow_16 : decode cX5_follow 16 = .ok (.iload_n 2, 1) := by decide +kernel
theorem dX5_follow_17 : decode cX5_follow 17 = .ok (.invokevirtual 86, 3) := by decide +kernel
theorem dX5_follow_20 : decode cX5_follow 20 = .ok (.ifCond .ne 34, 3) := by decide +kernel
theorem dX5_follow_23 : decode cX5_follow 23 = .ok (.aload_n 0, 1) := by decide +kernel
theorem dX5_follow_24 : decode cX5_follow 24 = .ok (.iload_n 2, 1) := by decide +kernel
theorem dX5_follow_25 : decode cX5_follow 25 = .ok (.invokevirtual 94, 3) := by decide +kernel
theorem dX5_follow_28 : decode cX5_follow 28 = .ok (.aload_n 0, 1) := by decide +kernel
theorem dX5_follow_29 : decode cX5_follow 29 = .ok (.aload_n 0, 1) := by decide +kernel
theorem dX5_follow_30 : decode cX5_follow 30 = .ok (.getfield 7, 3) := by decide +kernel
theorem dX5_follow_33 : decode cX5_follow 33 = .ok (.iconst 0, 1) := by decide +kernel
theorem dX5_follow_34 : decode cX5_follow 34 = .ok (.iload_n 2, 1) := by decide +kernel
theorem dX5_follow_35 : decode cX5_follow 35 = .ok (.iadd, 1) := by decide +kernel
theorem dX5_follow_36 : decode cX5_follow 36 = .ok (.iaload, 1) := by decide +kernel
theorem dX5_follow_37 : decode cX5_follow 37 = .ok (.ifCond .ne 7, 3) := by decide +kernel
theorem dX5_follow_40 : decode cX5_follow 40 = .ok (.iconst 1, 1) := by decide +kernel
theorem dX5_follow_41 : decode cX5_follow 41 = .ok (.goto 4, 3) := by decide +kernel
theorem dX5_follow_44 : decode cX5_follow 44 = .ok (.iconst 0, 1) := by decide +kernel
theorem dX5_follow_45 : decode cX5_follow 45 = .ok (.putfield 146, 3) := by decide +kernel
theorem dX5_follow_48 : decode cX5_follow 48 = .ok (.aload_n 0, 1) := by decide +kernel
theorem dX5_follow_49 : decode cX5_follow 49 = .ok (.invokevirtual 155, 3) := by decide +kernel
theorem dX5_follow_52 : decode cX5_follow 52 = .ok (.istore 4, 2) := by decide +kernel
theorem dX5_follow_54 : decode cX5_follow 54 = .ok (.aload_n 0, 1) := by decide +kernel
theorem dX5_follow_55 : decode cX5_follow 55 = .ok (.iload_n 1, 1) := by decide +kernel
theorem dX5_follow_56 : decode cX5_follow 56 = .ok (.invokevirtual 152, 3) := by decide +kernel
theorem dX5_follow_59 : decode cX5_follow 59 = .ok (.iload 4, 2) := by decide +kernel
theorem dX5_follow_61 : decode cX5_follow 61 = .ok (.ifCond .eq 49, 3) := by decide +kernel
theorem dX5_follow_64 : decode cX5_follow 64 = .ok (.aload_n 0, 1) := by decide +kernel
theorem dX5_follow_65 : decode cX5_follow 65 = .ok (.getfield 149, 3) := by decide +kernel
theorem dX5_follow_68 : decode cX5_follow 68 = .ok (.ifCond .ne 42, 3) := by decide +kernel
theorem dX5_follow_71 : decode cX5_follow 71 = .ok (.aload_n 0, 1) := by decide +kernel
theorem dX5_follow_72 : decode cX5_follow 72 = .ok (.iload_n 3, 1) := by decide +kernel
theorem dX5_follow_73 : decode cX5_follow 73 = .ok (.invokevirtual 86, 3) := by decide +kernel
theorem dX5_follow_76 : decode cX5_follow 76 = .ok (.ifCond .ne 34, 3) := by decide +kernel
theorem dX5_follow_79 : decode cX5_follow 79 = .ok (.aload_n 0, 1) := by decide +kernel
theorem dX5_follow_80 : decode cX5_follow 80 = .ok (.iload_n 3, 1) := by decide +kernel
theorem dX5_follow_81 : decode cX5_follow 81 = .ok (.invokevirtual 94, 3) := by decide +kernel
theorem dX5_follow_84 : decode cX5_follow 84 = .ok (.aload_n 0, 1) := by decide +kernel
theorem dX5_follow_85 : decode cX5_follow 85 = .ok (.aload_n 0, 1) := by decide +kernel
theorem dX5_follow_86 : decode cX5_follow 86 = .ok (.getfield 7, 3) := by decide +kernel
theorem dX5_follow_89 : decode cX5_follow 89 = .ok (.iconst 0, 1) := by decide +kernel
theorem dX5_follow_90 : decode cX5_follow 90 = .ok (.iload_n 3, 1) := by decide +kernel
theorem dX5_follow_91 : decode cX5_follow 91 = .ok (.iadd, 1) := by decide +kernel
theorem dX5_follow_92 : decode cX5_follow 92 = .ok (.iaload, 1) := by decide +kernel
theorem dX5_follow_93 : decode cX5_follow 93 = .ok (.ifCond .ne 7, 3) := by decide +kernel
theorem dX5_follow_96 : decode cX5_follow 96 = .ok (.iconst 1, 1) := by decide +kernel
theorem dX5_follow_97 : decode cX5_follow 97 = .ok (.goto 4, 3) := by decide +kernel
theorem dX5_follow_100 : decode cX5_follow 100 = .ok (.iconst 0, 1) := by decide +kernel
theorem dX5_follow_101 : decode cX5_follow 101 = .ok (.putfield 149, 3) := by decide +kernel
theorem dX5_follow_104 : decode cX5_follow 104 = .ok (.aload_n 0, 1) := by decide +kernel
theorem dX5_follow_105 : decode cX5_follow 105 = .ok (.invokevirtual 155, 3) := by decide +kernel
theorem dX5_follow_108 : decode cX5_follow 108 = .ok (.istore 4, 2) := by decide +kernel
theorem dX5_follow_110 : decode cX5_follow 110 = .ok (.iload 4, 2) := by decide +kernel
theorem dX5_follow_112 : decode cX5_follow 112 = .ok (.ireturn, 1) := by decide +kernel
set_option maxRecDepth 20000 in
theorem ggX5_countFound_X5_takeFound : GoodIn wsX5_countFound wsX5_takeFound := goodIn_r _ [9, 10, 2, 3, 4, 11, 12, 8, 13, 18, 19, 20, 21, 22, 23, 24, 25, 26, 27, 28, 29, 30, 31, 32, 33, 34, 35] (by decide +kernel) (by decide +kernel)
set_option maxRecDepth 20000 in
theorem gX5_countFound_X5_takeFound : GoodIn wsX5_countFound (wsV RX5 152 RX5 yX5_takeFound wsX5_takeFound) := goodIn_app (goodIn_of _ (by decide +kernel)) ggX5_countFound_X5_takeFound
set_option maxRecDepth 20000 in
theorem ggX5_countFound_X5_isLook : GoodIn wsX5_countFound wsX5_isLook := goodIn_r _ [17, 2, 18, 19, 20, 21, 22, 23, 24, 25, 26, 27, 28, 29, 30, 31, 32, 33, 34, 35] (by decide +kernel) (by decide +kernel)
set_option maxRecDepth 20000 in
theorem gX5_countFound_X5_isLook : GoodIn wsX5_countFound (wsV RX5 86 RX5 yX5_isLook wsX5_isLook) := goodIn_app (goodIn_of _ (by decide +kernel)) ggX5_countFound_X5_isLook
theorem dX5_countFound_0 : decode cX5_countFound 0 = .ok (.iconst 0, 1) := by decide +kernel
theorem dX5_countFound_1 : decode cX5_countFound 1 = .ok (.istore 4, 2) := by decide +kernel
theorem dX5_countFound_3 : decode cX5_countFound 3 = .ok (.iconst 0, 1) := by decide +kernel
theorem dX5_countFound_4 : decode cX5_countFound 4 = .ok (.istore 5, 2) := by decide +kernel
theorem dX5_countFound_6 : decode cX5_countFound 6 = .ok (.iload 5, 2) := by decide +kernel
theorem dX5_countFound_8 : decode cX5_countFound 8 = .ok (.aload_n 0, 1) := by decide +kernel
theorem dX5_countFound_9 : decode cX5_countFound 9 = .ok (.getfield 143, 3) := by decide +kernel
theorem dX5_countFound_12 : decode cX5_countFound 12 = .ok (.if_icmp .ge 126, 3) := by decide +kernel
theorem dX5_countFound_15 : decode cX5_countFound 15 = .ok (.aload_n 0, 1) := by decide +kernel
theorem dX5_countFound_16 : decode cX5_countFound 16 = .ok (.iload 5, 2) := by decide +kernel
theorem dX5_countFound_18 : decode cX5_countFound 18 = .ok (.invokevirtual 152, 3) := by decide +kernel
theorem dX5_countFound_21 : decode cX5_countFound 21 = .ok (.aload_n 0, 1) := by decide +kernel
theorem dX5_countFound_22 : decode cX5_countFound 22 = .ok (.getfield 7, 3) := by decide +kernel
theorem dX5_countFound_25 : decode cX5_countFound 25 = .ok (.iconst 0, 1) := by decide +kernel
theorem dX5_countFound_26 : decode cX5_countFound 26 = .ok (.iload_n 1, 1) := by decide +kernel
theorem dX5_countFound_27 : decode cX5_countFound 27 = .ok (.iadd, 1) := by decide +kernel
theorem dX5_countFound_28 : decode cX5_countFound 28 = .ok (.iaload, 1) := by decide +kernel
theorem dX5_countFound_29 : decode cX5_countFound 29 = .ok (.iconst 4, 1) := by decide +kernel
theorem dX5_countFound_30 : decode cX5_countFound 30 = .ok (.if_icmp .ne 19, 3) := by decide +kernel
theorem dX5_countFound_33 : decode cX5_countFound 33 = .ok (.aload_n 0, 1) := by decide +kernel
theorem dX5_countFound_34 : decode cX5_countFound 34 = .ok (.getfield 7, 3) := by decide +kernel
theorem dX5_countFound_37 : decode cX5_countFound 37 = .ok (.iconst 0, 1) := by decide +kernel
theorem dX5_countFound_38 : decode cX5_countFound 38 = .ok (.iload_n 2, 1) := by decide +kernel
theorem dX5_countFound_39 : decode cX5_countFound 39 = .ok (.iadd, 1) := by decide +kernel
theorem dX5_countFound_40 : decode cX5_countFound 40 = .ok (.iaload, 1) := by decide +kernel
theorem dX5_countFound_41 : decode cX5_countFound 41 = .ok (.iconst 4, 1) := by decide +kernel
theorem dX5_countFound_42 : decode cX5_countFound 42 = .ok (.if_icmp .ne 7, 3) := by decide +kernel
theorem dX5_countFound_45 : decode cX5_countFound 45 = .ok (.iconst 1, 1) := by decide +kernel
theorem dX5_countFound_46 : decode cX5_countFound 46 = .ok (.goto 4, 3) := by decide +kernel
theorem dX5_countFound_49 : decode cX5_countFound 49 = .ok (.iconst 0, 1) := by decide +kernel
theorem dX5_countFound_50 : decode cX5_countFound 50 = .ok (.istore 6, 2) := by decide +kernel
theorem dX5_countFound_52 : decode cX5_countFound 52 = .ok (.aload_n 0, 1) := by decide +kernel
theorem dX5_countFound_53 : decode cX5_countFound 53 = .ok (.getfield 146, 3) := by decide +kernel
theorem dX5_countFound_56 : decode cX5_countFound 56 = .ok (.ifCond .eq 10, 3) := by decide +kernel
theorem dX5_countFound_59 : decode cX5_countFound 59 = .ok (.aload_n 0, 1) := by decide +kernel
theorem dX5_countFound_60 : decode cX5_countFound 60 = .ok (.getfield 149, 3) := by decide +kernel
theorem dX5_countFound_63 : decode cX5_countFound 63 = .ok (.ifCond .ne 39, 3) := by decide +kernel
theorem dX5_countFound_66 : decode cX5_countFound 66 = .ok (.aload_n 0, 1) := by decide +kernel
theorem dX5_countFound_67 : decode cX5_countFound 67 = .ok (.getfield 146, 3) := by decide +kernel
theorem dX5_countFound_70 : decode cX5_countFound 70 = .ok (.iconst 1, 1) := by decide +kernel
theorem dX5_countFound_71 : decode cX5_countFound 71 = .ok (.if_icmp .eq 11, 3) := by decide +kernel
theorem dX5_countFound_74 : decode cX5_countFound 74 = .ok (.aload_n 0, 1) := by decide +kernel
theorem dX5_countFound_75 : decode cX5_countFound 75 = .ok (.iload_n 1, 1) := by decide +kernel
theorem dX5_countFound_76 : decode cX5_countFound 76 = .ok (.invokevirtual 86, 3) := by decide +kernel
theorem dX5_countFound_79 : decode cX5_countFound 79 = .ok (.ifCond .eq 23, 3) := by decide +kernel
theorem dX5_countFound_82 : decode cX5_countFound 82 = .ok (.aload_n 0, 1) := by decide +kernel
theorem dX5_countFound_83 : decode cX5_countFound 83 = .ok (.getfield 149, 3) := by decide +kernel
theorem dX5_countFound_86 : decode cX5_countFound 86 = .ok (.iconst 1, 1) := by decide +kernel
theorem dX5_countFound_87 : decode cX5_countFound 87 = .ok (.if_icmp .eq 11, 3) := by decide +kernel
theorem dX5_countFound_90 : decode cX5_countFound 90 = .ok (.aload_n 0, 1) := by decide +kernel
theorem dX5_countFound_91 : decode cX5_countFound 91 = .ok (.iload_n 2, 1) := by decide +kernel
theorem dX5_countFound_92 : decode cX5_countFound 92 = .ok (.invokevirtual 86, 3) := by decide +kernel
theorem dX5_countFound_95 : decode cX5_countFound 95 = .ok (.ifCond .eq 7, 3) := by decide +kernel
theorem dX5_countFound_98 : decode cX5_countFound 98 = .ok (.iconst 1, 1) := by decide +kernel
theorem dX5_countFound_99 : decode cX5_countFound 99 = .ok (.goto 4, 3) := by decide +kernel
theorem dX5_countFound_102 : decode cX5_countFound 102 = .ok (.iconst 0, 1) := by decide +kernel
theorem dX5_countFound_103 : decode cX5_countFound 103 = .ok (.istore 7, 2) := by decide +kernel
theorem dX5_countFound_105 : decode cX5_countFound 105 = .ok (.iload 4, 2) := by decide +kernel
theorem dX5_countFound_107 : decode cX5_countFound 107 = .ok (.iload_n 3, 1) := by decide +kernel
theorem dX5_countFound_108 : decode cX5_countFound 108 = .ok (.ifCond .eq 11, 3) := by decide +kernel
theorem dX5_countFound_111 : decode cX5_countFound 111 = .ok (.iload 6, 2) := by decide +kernel
theorem dX5_countFound_113 : decode cX5_countFound 113 = .ok (.ifCond .eq 15, 3) := by decide +kernel
theorem dX5_countFound_116 : decode cX5_countFound 116 = .ok (.goto 8, 3) := by decide +kernel
theorem dX5_countFound_119 : decode cX5_countFound 119 = .ok (.iload 7, 2) := by decide +kernel
theorem dX5_countFound_121 : decode cX5_countFound 121 = .ok (.ifCond .eq 7, 3) := by decide +kernel
theorem dX5_countFound_124 : decode cX5_countFound 124 = .ok (.iconst 1, 1) := by decide +kernel
theorem dX5_countFound_125 : decode cX5_countFound 125 = .ok (.goto 4, 3) := by decide +kernel
theorem dX5_countFound_128 : decode cX5_countFound 128 = .ok (.iconst 0, 1) := by decide +kernel
theorem dX5_countFound_129 : decode cX5_countFound 129 = .ok (.iadd, 1) := by decide +kernel
theorem dX5_countFound_130 : decode cX5_countFound 130 = .ok (.istore 4, 2) := by decide +kernel
theorem dX5_countFound_132 : decode cX5_countFound 132 = .ok (.iinc 5 1, 3) := by decide +kernel
theorem dX5_countFound_135 : decode cX5_countFound 135 = .ok (.goto (-129), 3) := by decide +kernel
theorem dX5_countFound_138 : decode cX5_countFound 138 = .ok (.iload 4, 2) := by decide +kernel
theorem dX5_countFound_140 : decode cX5_countFound 140 = .ok (.ireturn, 1) := by decide +kernel
set_option maxRecDepth 20000 in
theorem ggX5_orders_X5_isVisitor : GoodIn wsX5_orders wsX5_isVisitor := goodIn_r _ [9, 10, 11, 8, 12] (by decide +kernel) (by decide +kernel)
set_option maxRecDepth 20000 in
theorem gX5_orders_X5_isVisitor : GoodIn wsX5_orders (va_wsS RX5 100 yX5_isVisitor wsX5_isVisitor) := goodIn_app (goodIn_of _ (by decide +kernel)) ggX5_orders_X5_isVisitor
set_option maxRecDepth 20000 in
theorem ggX5_orders_X5_in : GoodIn wsX5_orders wsX5_in := goodIn_r _ [12] (by decide +kernel) (by decide +kernel)
set_option maxRecDepth 20000 in
theorem gX5_orders_X5_in : GoodIn wsX5_orders (va_wsS RX5 47 yX5_in wsX5_in) := goodIn_app (goodIn_of _ (by decide +kernel)) ggX5_orders_X5_in
set_option maxRecDepth 20000 in
theorem ggX5_orders_X5_copyRow : GoodIn wsX5_orders wsX5_copyRow := goodIn_r _ [15] (by decide +kernel) (by decide +kernel)
set_option maxRecDepth 20000 in
theorem gX5_orders_X5_copyRow : GoodIn wsX5_orders (va_wsS RX5 55 yX5_copyRow wsX5_copyRow) := goodIn_app (goodIn_of _ (by decide +kernel)) ggX5_orders_X5_copyRow
set_option maxRecDepth 20000 in
theorem ggX5_orders_X5_collect : GoodIn wsX5_orders wsX5_collect := goodIn_r _ [19, 3, 20, 4, 5, 1, 13, 14, 8, 15, 57, 58, 59, 60, 61, 62, 63, 64, 65, 66, 67, 68, 69, 70, 71, 72, 73, 74] (by decide +kernel) (by decide +kernel)
set_option maxRecDepth 20000 in
theorem gX5_orders_X5_collect : GoodIn wsX5_orders (wsV RX5 155 RX5 yX5_collect wsX5_collect) := goodIn_app (goodIn_of _ (by decide +kernel)) ggX5_orders_X5_collect
set_option maxRecDepth 20000 in
theorem ggX5_orders_X5_follow : GoodIn wsX5_orders wsX5_follow := goodIn_r _ [24, 4, 1, 5, 25, 26, 27, 8, 28, 20, 13, 14, 15, 29, 30, 31, 32, 33, 34, 35, 36, 37, 38, 39, 40, 41, 42, 43, 44, 45, 46, 47, 48, 49, 50, 51, 52, 16, 17, 18, 19, 3, 57, 58, 59, 60, 61, 62, 63, 64, 65, 66, 67, 68, 69, 70, 71, 72, 73, 74] (by decide +kernel) (by decide +kernel)
set_option maxRecDepth 20000 in
theorem gX5_orders_X5_follow : GoodIn wsX5_orders (wsV RX5 159 RX5 yX5_follow wsX5_follow) := goodIn_app (goodIn_of _ (by decide +kernel)) ggX5_orders_X5_follow
set_option maxRecDepth 20000 in
theorem ggX5_orders_X5_countFound : GoodIn wsX5_orders wsX5_countFound := goodIn_r _ [56, 3, 1, 4, 5, 25, 26, 27, 8, 28, 20, 13, 14, 15, 29, 30, 31, 32, 57, 58, 59, 60, 61, 62, 63, 64, 65, 66, 67, 68, 69, 70, 71, 72, 73, 74] (by decide +kernel) (by decide +kernel)
set_option maxRecDepth 20000 in
theorem gX5_orders_X5_countFound : GoodIn wsX5_orders (wsV RX5 162 RX5 yX5_countFound wsX5_countFound) := goodIn_app (goodIn_of _ (by decide +kernel)) ggX5_orders_X5_countFound
theorem dX5_orders_0 : decode cX5_orders 0 = .ok (.iload_n 1, 1) := by decide +kernel
theorem dX5_orders_1 : decode cX5_orders 1 = .ok (.invokestatic 100, 3) := by decide +kernel
theorem dX5_orders_4 : decode cX5_orders 4 = .ok (.ifCond .eq 10, 3) := by decide +kernel
theorem dX5_orders_7 : decode cX5_orders 7 = .ok (.iload_n 2, 1) := by decide +kernel
theorem dX5_orders_8 : decode cX5_orders 8 = .ok (.invokestatic 100, 3) := by decide +kernel
theorem dX5_orders_11 : decode cX5_orders 11 = .ok (.ifCond .ne 5, 3) := by decide +kernel
theorem dX5_orders_14 : decode cX5_orders 14 = .ok (.iconst (-1), 1) := by decide +kernel
theorem dX5_orders_15 : decode cX5_orders 15 = .ok (.ireturn, 1) := by decide +kernel
theorem dX5_orders_16 : decode cX5_orders 16 = .ok (.iload_n 3, 1) := by decide +kernel
theorem dX5_orders_17 : decode cX5_orders 17 = .ok (.iconst 0, 1) := by decide +kernel
theorem dX5_orders_18 : decode cX5_orders 18 = .ok (.iconst 2, 1) := by decide +kernel
theorem dX5_orders_19 : decode cX5_orders 19 = .ok (.invokestatic 47, 3) := by decide +kernel
theorem dX5_orders_22 : decode cX5_orders 22 = .ok (.ifCond .eq 8, 3) := by decide +kernel
theorem dX5_orders_25 : decode cX5_orders 25 = .ok (.iload_n 1, 1) := by decide +kernel
theorem dX5_orders_26 : decode cX5_orders 26 = .ok (.iload_n 2, 1) := by decide +kernel
theorem dX5_orders_27 : decode cX5_orders 27 = .ok (.if_icmp .ne 6, 3) := by decide +kernel
theorem dX5_orders_30 : decode cX5_orders 30 = .ok (.bipush (-2), 2) := by decide +kernel
theorem dX5_orders_32 : decode cX5_orders 32 = .ok (.ireturn, 1) := by decide +kernel
theorem dX5_orders_33 : decode cX5_orders 33 = .ok (.aload_n 0, 1) := by decide +kernel
theorem dX5_orders_34 : decode cX5_orders 34 = .ok (.getfield 7, 3) := by decide +kernel
theorem dX5_orders_37 : decode cX5_orders 37 = .ok (.iconst 0, 1) := by decide +kernel
theorem dX5_orders_38 : decode cX5_orders 38 = .ok (.aload_n 0, 1) := by decide +kernel
theorem dX5_orders_39 : decode cX5_orders 39 = .ok (.getfield 13, 3) := by decide +kernel
theorem dX5_orders_42 : decode cX5_orders 42 = .ok (.iconst 0, 1) := by decide +kernel
theorem dX5_orders_43 : decode cX5_orders 43 = .ok (.bipush 86, 2) := by decide +kernel
theorem dX5_orders_45 : decode cX5_orders 45 = .ok (.invokestatic 55, 3) := by decide +kernel
theorem dX5_orders_48 : decode cX5_orders 48 = .ok (.aload_n 0, 1) := by decide +kernel
theorem dX5_orders_49 : decode cX5_orders 49 = .ok (.iconst 0, 1) := by decide +kernel
theorem dX5_orders_50 : decode cX5_orders 50 = .ok (.putfield 143, 3) := by decide +kernel
theorem dX5_orders_53 : decode cX5_orders 53 = .ok (.aload_n 0, 1) := by decide +kernel
theorem dX5_orders_54 : decode cX5_orders 54 = .ok (.iconst 0, 1) := by decide +kernel
theorem dX5_orders_55 : decode cX5_orders 55 = .ok (.putfield 146, 3) := by decide +kernel
theorem dX5_orders_58 : decode cX5_orders 58 = .ok (.aload_n 0, 1) := by decide +kernel
theorem dX5_orders_59 : decode cX5_orders 59 = .ok (.iconst 0, 1) := by decide +kernel
theorem dX5_orders_60 : decode cX5_orders 60 = .ok (.putfield 149, 3) := by decide +kernel
theorem dX5_orders_63 : decode cX5_orders 63 = .ok (.aload_n 0, 1) := by decide +kernel
theorem dX5_orders_64 : decode cX5_orders 64 = .ok (.invokevirtual 155, 3) := by decide +kernel
theorem dX5_orders_67 : decode cX5_orders 67 = .ok (.istore 4, 2) := by decide +kernel
theorem dX5_orders_69 : decode cX5_orders 69 = .ok (.iconst 0, 1) := by decide +kernel
theorem dX5_orders_70 : decode cX5_orders 70 = .ok (.istore 5, 2) := by decide +kernel
theorem dX5_orders_72 : decode cX5_orders 72 = .ok (.iload 5, 2) := by decide +kernel
theorem dX5_orders_74 : decode cX5_orders 74 = .ok (.aload_n 0, 1) := by decide +kernel
theorem dX5_orders_75 : decode cX5_orders 75 = .ok (.getfield 143, 3) := by decide +kernel
theorem dX5_orders_78 : decode cX5_orders 78 = .ok (.if_icmp .ge 24, 3) := by decide +kernel
theorem dX5_orders_81 : decode cX5_orders 81 = .ok (.iload 4, 2) := by decide +kernel
theorem dX5_orders_83 : decode cX5_orders 83 = .ok (.ifCond .eq 19, 3) := by decide +kernel
theorem dX5_orders_86 : decode cX5_orders 86 = .ok (.aload_n 0, 1) := by decide +kernel
theorem dX5_orders_87 : decode cX5_orders 87 = .ok (.iload 5, 2) := by decide +kernel
theorem dX5_orders_89 : decode cX5_orders 89 = .ok (.iload_n 1, 1) := by decide +kernel
theorem dX5_orders_90 : decode cX5_orders 90 = .ok (.iload_n 2, 1) := by decide +kernel
theorem dX5_orders_91 : decode cX5_orders 91 = .ok (.invokevirtual 159, 3) := by decide +kernel
theorem dX5_orders_94 : decode cX5_orders 94 = .ok (.istore 4, 2) := by decide +kernel
theorem dX5_orders_96 : decode cX5_orders 96 = .ok (.iinc 5 1, 3) := by decide +kernel
theorem dX5_orders_99 : decode cX5_orders 99 = .ok (.goto (-27), 3) := by decide +kernel
theorem dX5_orders_102 : decode cX5_orders 102 = .ok (.iload 4, 2) := by decide +kernel
theorem dX5_orders_104 : decode cX5_orders 104 = .ok (.ifCond .ne 8, 3) := by decide +kernel
theorem dX5_orders_107 : decode cX5_orders 107 = .ok (.bipush (-5), 2) := by decide +kernel
theorem dX5_orders_109 : decode cX5_orders 109 = .ok (.goto 30, 3) := by decide +kernel
theorem dX5_orders_112 : decode cX5_orders 112 = .ok (.iload_n 3, 1) := by decide +kernel
theorem dX5_orders_113 : decode cX5_orders 113 = .ok (.ifCond .ne 10, 3) := by decide +kernel
theorem dX5_orders_116 : decode cX5_orders 116 = .ok (.aload_n 0, 1) := by decide +kernel
theorem dX5_orders_117 : decode cX5_orders 117 = .ok (.getfield 143, 3) := by decide +kernel
theorem dX5_orders_120 : decode cX5_orders 120 = .ok (.goto 19, 3) := by decide +kernel
theorem dX5_orders_123 : decode cX5_orders 123 = .ok (.aload_n 0, 1) := by decide +kernel
theorem dX5_orders_124 : decode cX5_orders 124 = .ok (.iload_n 1, 1) := by decide +kernel
theorem dX5_orders_125 : decode cX5_orders 125 = .ok (.iload_n 2, 1) := by decide +kernel
theorem dX5_orders_126 : decode cX5_orders 126 = .ok (.iload_n 3, 1) := by decide +kernel
theorem dX5_orders_127 : decode cX5_orders 127 = .ok (.iconst 1, 1) := by decide +kernel
theorem dX5_orders_128 : decode cX5_orders 128 = .ok (.if_icmp .ne 7, 3) := by decide +kernel
theorem dX5_orders_131 : decode cX5_orders 131 = .ok (.iconst 1, 1) := by decide +kernel
theorem dX5_orders_132 : decode cX5_orders 132 = .ok (.goto 4, 3) := by decide +kernel
theorem dX5_orders_135 : decode cX5_orders 135 = .ok (.iconst 0, 1) := by decide +kernel
theorem dX5_orders_136 : decode cX5_orders 136 = .ok (.invokevirtual 162, 3) := by decide +kernel
theorem dX5_orders_139 : decode cX5_orders 139 = .ok (.istore 5, 2) := by decide +kernel
theorem dX5_orders_141 : decode cX5_orders 141 = .ok (.aload_n 0, 1) := by decide +kernel
theorem dX5_orders_142 : decode cX5_orders 142 = .ok (.getfield 13, 3) := by decide +kernel
theorem dX5_orders_145 : decode cX5_orders 145 = .ok (.iconst 0, 1) := by decide +kernel
theorem dX5_orders_146 : decode cX5_orders 146 = .ok (.aload_n 0, 1) := by decide +kernel
theorem dX5_orders_147 : decode cX5_orders 147 = .ok (.getfield 7, 3) := by decide +kernel
theorem dX5_orders_150 : decode cX5_orders 150 = .ok (.iconst 0, 1) := by decide +kernel
theorem dX5_orders_151 : decode cX5_orders 151 = .ok (.bipush 86, 2) := by decide +kernel
theorem dX5_orders_153 : decode cX5_orders 153 = .ok (.invokestatic 55, 3) := by decide +kernel
theorem dX5_orders_156 : decode cX5_orders 156 = .ok (.iload 5, 2) := by decide +kernel
theorem dX5_orders_158 : decode cX5_orders 158 = .ok (.ireturn, 1) := by decide +kernel
theorem dJ6_bitCount_0f7a4_0 : decode cJ6_bitCount_0f7a4 0 = .ok (.iload_n 0, 1) := by decide +kernel
theorem dJ6_bitCount_0f7a4_1 : decode cJ6_bitCount_0f7a4 1 = .ok (.iload_n 0, 1) := by decide +kernel
theorem dJ6_bitCount_0f7a4_2 : decode cJ6_bitCount_0f7a4 2 = .ok (.iconst 1, 1) := by decide +kernel
theorem dJ6_bitCount_0f7a4_3 : decode cJ6_bitCount_0f7a4 3 = .ok (.iushr, 1) := by decide +kernel
theorem dJ6_bitCount_0f7a4_4 : decode cJ6_bitCount_0f7a4 4 = .ok (.ldc_w 265, 3) := by decide +kernel
theorem dJ6_bitCount_0f7a4_7 : decode cJ6_bitCount_0f7a4 7 = .ok (.iand, 1) := by decide +kernel
theorem dJ6_bitCount_0f7a4_8 : decode cJ6_bitCount_0f7a4 8 = .ok (.isub, 1) := by decide +kernel
theorem dJ6_bitCount_0f7a4_9 : decode cJ6_bitCount_0f7a4 9 = .ok (.istore_n 0, 1) := by decide +kernel
theorem dJ6_bitCount_0f7a4_10 : decode cJ6_bitCount_0f7a4 10 = .ok (.iload_n 0, 1) := by decide +kernel
theorem dJ6_bitCount_0f7a4_11 : decode cJ6_bitCount_0f7a4 11 = .ok (.ldc_w 266, 3) := by decide +kernel
theorem dJ6_bitCount_0f7a4_14 : decode cJ6_bitCount_0f7a4 14 = .ok (.iand, 1) := by decide +kernel
theorem dJ6_bitCount_0f7a4_15 : decode cJ6_bitCount_0f7a4 15 = .ok (.iload_n 0, 1) := by decide +kernel
theorem dJ6_bitCount_0f7a4_16 : decode cJ6_bitCount_0f7a4 16 = .ok (.iconst 2, 1) := by decide +kernel
theorem dJ6_bitCount_0f7a4_17 : decode cJ6_bitCount_0f7a4 17 = .ok (.iushr, 1) := by decide +kernel
theorem dJ6_bitCount_0f7a4_18 : decode cJ6_bitCount_0f7a4 18 = .ok (.ldc_w 266, 3) := by decide +kernel
theorem dJ6_bitCount_0f7a4_21 : decode cJ6_bitCount_0f7a4 21 = .ok (.iand, 1) := by decide +kernel
theorem dJ6_bitCount_0f7a4_22 : decode cJ6_bitCount_0f7a4 22 = .ok (.iadd, 1) := by decide +kernel
theorem dJ6_bitCount_0f7a4_23 : decode cJ6_bitCount_0f7a4 23 = .ok (.istore_n 0, 1) := by decide +kernel
theorem dJ6_bitCount_0f7a4_24 : decode cJ6_bitCount_0f7a4 24 = .ok (.iload_n 0, 1) := by decide +kernel
theorem dJ6_bitCount_0f7a4_25 : decode cJ6_bitCount_0f7a4 25 = .ok (.iload_n 0, 1) := by decide +kernel
theorem dJ6_bitCount_0f7a4_26 : decode cJ6_bitCount_0f7a4 26 = .ok (.iconst 4, 1) := by decide +kernel
theorem dJ6_bitCount_0f7a4_27 : decode cJ6_bitCount_0f7a4 27 = .ok (.iushr, 1) := by decide +kernel
theorem dJ6_bitCount_0f7a4_28 : decode cJ6_bitCount_0f7a4 28 = .ok (.iadd, 1) := by decide +kernel
theorem dJ6_bitCount_0f7a4_29 : decode cJ6_bitCount_0f7a4 29 = .ok (.ldc_w 267, 3) := by decide +kernel
theorem dJ6_bitCount_0f7a4_32 : decode cJ6_bitCount_0f7a4 32 = .ok (.iand, 1) := by decide +kernel
theorem dJ6_bitCount_0f7a4_33 : decode cJ6_bitCount_0f7a4 33 = .ok (.istore_n 0, 1) := by decide +kernel
theorem dJ6_bitCount_0f7a4_34 : decode cJ6_bitCount_0f7a4 34 = .ok (.iload_n 0, 1) := by decide +kernel
theorem dJ6_bitCount_0f7a4_35 : decode cJ6_bitCount_0f7a4 35 = .ok (.iload_n 0, 1) := by decide +kernel
theorem dJ6_bitCount_0f7a4_36 : decode cJ6_bitCount_0f7a4 36 = .ok (.bipush 8, 2) := by decide +kernel
theorem dJ6_bitCount_0f7a4_38 : decode cJ6_bitCount_0f7a4 38 = .ok (.iushr, 1) := by decide +kernel
theorem dJ6_bitCount_0f7a4_39 : decode cJ6_bitCount_0f7a4 39 = .ok (.iadd, 1) := by decide +kernel
theorem dJ6_bitCount_0f7a4_40 : decode cJ6_bitCount_0f7a4 40 = .ok (.istore_n 0, 1) := by decide +kernel
theorem dJ6_bitCount_0f7a4_41 : decode cJ6_bitCount_0f7a4 41 = .ok (.iload_n 0, 1) := by decide +kernel
theorem dJ6_bitCount_0f7a4_42 : decode cJ6_bitCount_0f7a4 42 = .ok (.iload_n 0, 1) := by decide +kernel
theorem dJ6_bitCount_0f7a4_43 : decode cJ6_bitCount_0f7a4 43 = .ok (.bipush 16, 2) := by decide +kernel
theorem dJ6_bitCount_0f7a4_45 : decode cJ6_bitCount_0f7a4 45 = .ok (.iushr, 1) := by decide +kernel
theorem dJ6_bitCount_0f7a4_46 : decode cJ6_bitCount_0f7a4 46 = .ok (.iadd, 1) := by decide +kernel
theorem dJ6_bitCount_0f7a4_47 : decode cJ6_bitCount_0f7a4 47 = .ok (.istore_n 0, 1) := by decide +kernel
theorem dJ6_bitCount_0f7a4_48 : decode cJ6_bitCount_0f7a4 48 = .ok (.iload_n 0, 1) := by decide +kernel
theorem dJ6_bitCount_0f7a4_49 : decode cJ6_bitCount_0f7a4 49 = .ok (.bipush 63, 2) := by decide +kernel
theorem dJ6_bitCount_0f7a4_51 : decode cJ6_bitCount_0f7a4 51 = .ok (.iand, 1) := by decide +kernel
theorem dJ6_bitCount_0f7a4_52 : decode cJ6_bitCount_0f7a4 52 = .ok (.ireturn, 1) := by decide +kernel
abbrev vwCl : List vw_C := [(RX0, TX0, 4), (RX1, TX1, 1), (RX2, TX2, 5), (RX3, TX3, 5), (RX4, TX4, 10), (RX5, TX5, 18)]
end
section
/-! The state of a walk in one predicate: U G X cells slots ws pc lv st. G: launch, tables, kinds of arrays, the address of FAR_TOUCHES. X: the rest of a method's run. -/
abbrev Gx : Type := Launch × va_G × (Nat → ClassId) × Nat
abbrev aI (G : Gx) (n : Nat) (f : Nat → Int32) : va_E := .inl (G.2.2.1 0, n, .inl f)
abbrev aB (G : Gx) (n : Nat) (f : Nat → Int32) : va_E := .inl (G.2.2.1 1, n, .inl f)
abbrev aC (G : Gx) (n : Nat) (f : Nat → Int32) : va_E := .inl (G.2.2.1 2, n, .inl f)
abbrev aL (G : Gx) (n : Nat) (f : Nat → Option Nat) : va_E := .inl (G.2.2.1 3, n, .inr (.inr (.inr (.inr f))))
abbrev aS (G : Gx) (n : Nat) (f : Nat → Option Nat) : va_E := .inl (G.2.2.1 4, n, .inr (.inr (.inr (.inr f))))
def tysOf (ty : Nat → ClassId) : List (ClassId × FieldType) := [(ty 0, .int), (ty 1, .byte), (ty 2, .char), (ty 3, .object "NudgeLocks$Lock"), (ty 4, .object "NudgeLocks$State")]
def farT (j : Nat) : Int32 := [0, 1, 1, 0, 0, 1, 0, 1, 0, 1, 0, 1, 0, 0, 0, 0, 1, 0, 0, 1, 1, 0, 0, 0, 0, 0, 0, 1, 1, 0, 0, 0].getD j (0 : Int32)
abbrev nw0 : Cond := .fieldLinkNest "NudgeLocks" 62 "NudgeLocks$State" "lock" "LNudgeLocks$Lock;" "NudgeLocks"
abbrev nw1 : Cond := .fieldLinkNest "NudgeLocks" 98 "NudgeLocks$State" "x" "I" "NudgeLocks"
abbrev nw2 : Cond := .methodLinkNest "NudgeLocks$Lock" 29 ⟨"NudgeLocks", "isCard", "(I)Z"⟩ "NudgeLocks"
abbrev nw3 : Cond := .methodLinkNest "NudgeLocks$Lock" 74 ⟨"NudgeLocks", "isVisitor", "(I)Z"⟩ "NudgeLocks"
def Env1 (G : Gx) (A : Nat → Prop) (U : State) : Prop := va_K G.2.1 vwCl (tysOf G.2.2.1) U ∧ (va_Nw nw0 U ∧ va_Nw nw1 U ∧ va_Nw nw2 U ∧ va_Nw nw3 U) ∧ va_Z "NudgeLocks$Lock" "FAR_TOUCHES" "[I" (.ref G.2.2.2) A U U.heap ∧ va_T .int G.2.2.2 32 (fun j => .int (farT j)) A U U.heap
def Qm (G : Gx) (wc : va_W) (sz : Nat) (post : Option Value → va_W → Prop) : Array Value → State → Outcome → State → Prop := fun _ st o t => (∃ (v : Option Value) (u : va_W), o = .returned v ∧ post v u ∧ va_P G.2.1 vwCl u t.heap ∧ va_D (va_A wc sz) u) ∧ va_F (va_A wc sz) st t
def Pm (G : Gx) (av : List Value) (wc : va_W) (sz : Nat) : Array Value → State → Prop := va_Pc av (fun U => U.heap.size = sz ∧ va_P G.2.1 vwCl wc U.heap ∧ va_D (fun _ => True) wc ∧ Env1 G (va_A wc sz) U)
/-- a contract in the one form of this proof: from the cells wc it answers v and leaves the cells u with 'post v u' -/
def MC (G : Gx) (y : MethodName) (ws : List Cond) (rm : Room) (av : List Value) (wc : va_W) (post : Option Value → va_W → Prop) (mc ms : Nat) : Prop := ∀ sz : Nat, Met G.1 y ws rm (Pm G av wc sz) (Qm G wc sz post) mc ms (va_A wc sz)
/-- the answer and the cells behind are known -/
abbrev MF (G : Gx) (y : MethodName) (ws : List Cond) (rm : Room) (av : List Value) (wc : va_W) (v : Option Value) (u : va_W) : Prop := MC G y ws rm av wc (fun v' u' => v' = v ∧ u' = u) 0 0
abbrev Cx : Type := Program × Env × Room × State × MethodId × Array Value × List Frame × Method × Code × (Nat → Prop) × Nat × (State → Prop)
def gR (X : Cx) : Room := X.2.2.1
def gL (X : Cx) : Nat := X.2.2.2.2.2.2.2.2.2.2.1
def U (G : Gx) (X : Cx) (cells slots : Nat) (ws : va_W) (pc : Nat) (lv : List (Nat × Value)) (st : List Value) : Prop :=
  match X with
  | (p, e, R, s, m, args, below, meth, c, A, nL, Q) => ∀ (H : Heap) (locs : List Loc) (ls : Array Slot), va_P G.2.1 vwCl ws H → va_D A ws → va_S A s.heap H locs → lv_has ls nL lv → W p G.1 e R s m args below meth c H locs cells slots Q (F0 m pc ls st)
def CX (G : Gx) (X : Cx) (cc : ByteArray) (own : String) (Ts : List Cond) : Prop :=
  match X with
  | (p, _, _, s, m, args, _, meth, c, A, nL, _) => CallFix p m c cc nL s args Ts own ∧ Env1 G A s ∧ (∀ q : Nat, s.heap.size ≤ q → A q) ∧ meth.locks = false
def RT (G : Gx) (X : Cx) (y : MethodName) (ret : Option FieldType) (wc : va_W) (post : Option Value → va_W → Prop) (mc ms : Nat) : Prop :=
  match X with
  | (_, _, _, s, _, args, below, meth, _, A, _, Q) => meth.sig.returnType = ret ∧ meth.name = y.name ∧ A = va_A wc s.heap.size ∧ Q = MQ below (Qm G wc s.heap.size post) args s mc ms A
theorem Env1.moved {G : Gx} {A B : Nat → Prop} {s U : State} {H : Heap} {locs : List Loc} (h : Env1 G A s) (hS : va_S A s.heap H locs) (hW : s.WarmedH U.vm) (hU : U.heap = H) (hAB : ∀ q, B q → A q) : Env1 G B U := by
  obtain ⟨h1, ⟨n0, n1, n2, n3⟩, h3, h4⟩ := h
  refine ⟨va_K.moved hW.alike h1, ⟨va_Nw.warmF hW n0, va_Nw.warmF hW n1, va_Nw.warmM hW n2, va_Nw.warmM hW n3⟩, ?_, ?_⟩
  · rw [hU]
    exact (((h3.kept hS.2.1).narrow hAB).moved hW.alike)
  · rw [hU]
    exact (((h4.kept hS.2.1).narrow hAB).moved hW.alike)
theorem Pm.blind {G : Gx} {av : List Value} {wc : va_W} {sz : Nat} : FrameBlind (Pm G av wc sz) := by
  intro a U g mk h
  obtain ⟨h0, h1, h2, h3, h4, ⟨n0, n1, n2, n3⟩, h5, h6⟩ := h
  exact ⟨h0, h1, h2, h3, va_K.moved (u := U) (U := U.calling g mk a) (Vm.Alike.refl U.vm) h4, ⟨va_Nw.same (u := U) rfl rfl n0, va_Nw.same (u := U) rfl rfl n1, va_Nw.same (u := U) rfl rfl n2, va_Nw.same (u := U) rfl rfl n3⟩, va_Z.moved (u := U) (U := U.calling g mk a) (Vm.Alike.refl U.vm) h5, va_T.moved (u := U) (U := U.calling g mk a) (Vm.Alike.refl U.vm) h6⟩
theorem mc_of {G : Gx} {y : MethodName} {ws ws' : List Cond} {rm : Room} {av : List Value} {wc : va_W} {post : Option Value → va_W → Prop} {mc ms : Nat} {cc : ByteArray} {maxL : Nat} {ret : Option FieldType} (hy : plainName y.cls = true) (hw : ws = Cond.code y cc maxL ret :: ws') (hlen : (lg_sl av).length ≤ maxL)
    (body : ∀ X : Cx, CX G X cc y.cls ws → gR X = rm → gL X = maxL → RT G X y ret wc post mc ms → U G X 0 0 wc 0 (lv_args 0 av) []) : MC G y ws rm av wc post mc ms := by
  intro sz
  refine Met.ofW (cc := cc) (maxL := maxL) (ret := ret) hy hw ?_
  intro p e s m args below meth c s₁ B hml hv
  obtain ⟨rfl, hsz, hP, hD0, hE⟩ := hv
  subst hsz
  have hD := hD0.self (sz := s.heap.size)
  have hts := atoms_spec (ws := ws) B.pre
  have hown : s.vm.findClass y.cls = some m.cls := findClass_of_methodNamed B.named
  have hU := body (p, e, (headSpec ws rm).room, s, m, av.toArray, below, meth, c, va_A wc s.heap.size, maxL, MQ below (Qm G wc s.heap.size post) av.toArray s mc ms (va_A wc s.heap.size)) ⟨⟨B.exec, B.bytes, hml, hown, hts⟩, hE, fun q h => Or.inr h, B.notSynchronized⟩ rfl rfl ⟨B.returns, (name_of_methodNamed B.named B.method).1, rfl, rfl⟩
  have hl := lv_entry av (n := maxL) hlen
  rw [lg_entry_eq]
  exact hU s.heap [] _ hP hD va_S.rf hl
section
variable {G : Gx} {X : Cx} {cc : ByteArray} {own : String} {Ts : List Cond} {cells slots : Nat} {ws : va_W} {pc pc' : Nat} {lv : List (Nat × Value)} {st : List Value} {st0 : List Value}
set_option maxHeartbeats 1000000 in
theorem u_iconst (h : CX G X cc own Ts) {n : Int} {v : Int32} (hdg : decode cc pc = .ok (.iconst n, 1)) (hv : Int32.ofInt n = v) (hpc : pc + 1 = pc') (kk : U G X cells slots ws pc' lv (.int v :: st)) : U G X cells slots ws pc lv st := by
  obtain ⟨p, e, R, s, m, args, below, meth, c, A, nL, Q⟩ := X
  obtain ⟨⟨hx, hb, hml, hown, hts⟩, hE, hA, hlk⟩ := h
  subst hpc
  intro H locs ls hP hD hS hl
  exact lv_iconst hx hb hdg hv (kk H locs ls hP hD hS hl)

set_option maxHeartbeats 1000000 in
theorem u_bipush (h : CX G X cc own Ts) {n : Int} {v : Int32} (hdg : decode cc pc = .ok (.bipush n, 2)) (hv : (Int8.ofInt n).toInt32 = v) (hpc : pc + 2 = pc') (kk : U G X cells slots ws pc' lv (.int v :: st)) : U G X cells slots ws pc lv st := by
  obtain ⟨p, e, R, s, m, args, below, meth, c, A, nL, Q⟩ := X
  obtain ⟨⟨hx, hb, hml, hown, hts⟩, hE, hA, hlk⟩ := h
  subst hpc
  intro H locs ls hP hD hS hl
  exact lv_bipush hx hb hdg hv (kk H locs ls hP hD hS hl)

set_option maxHeartbeats 1000000 in
theorem u_sipush (h : CX G X cc own Ts) {n : Int} {v : Int32} (hdg : decode cc pc = .ok (.sipush n, 3)) (hv : (Int16.ofInt n).toInt32 = v) (hpc : pc + 3 = pc') (kk : U G X cells slots ws pc' lv (.int v :: st)) : U G X cells slots ws pc lv st := by
  obtain ⟨p, e, R, s, m, args, below, meth, c, A, nL, Q⟩ := X
  obtain ⟨⟨hx, hb, hml, hown, hts⟩, hE, hA, hlk⟩ := h
  subst hpc
  intro H locs ls hP hD hS hl
  exact lv_sipush hx hb hdg hv (kk H locs ls hP hD hS hl)

set_option maxHeartbeats 1000000 in
theorem u_ldc (h : CX G X cc own Ts) {index : Nat} {v : Int32} (hdg : decode cc pc = .ok (.ldc index, 2)) (hw : Cond.constant own index v ∈ Ts) (hpc : pc + 2 = pc') (kk : U G X cells slots ws pc' lv (.int v :: st)) : U G X cells slots ws pc lv st := by
  obtain ⟨p, e, R, s, m, args, below, meth, c, A, nL, Q⟩ := X
  obtain ⟨⟨hx, hb, hml, hown, hts⟩, hE, hA, hlk⟩ := h
  subst hpc
  intro H locs ls hP hD hS hl
  exact lv_ldc hx hb hown (hts _ hw) hdg (kk H locs ls hP hD hS hl)

set_option maxHeartbeats 1000000 in
theorem u_ldc2 (h : CX G X cc own Ts) {index : Nat} {v : Int64} (hdg : decode cc pc = .ok (.ldc2_w index, 3)) (hw : Cond.constantLong own index v ∈ Ts) (hpc : pc + 3 = pc') (kk : U G X cells slots ws pc' lv (.long v :: st)) : U G X cells slots ws pc lv st := by
  obtain ⟨p, e, R, s, m, args, below, meth, c, A, nL, Q⟩ := X
  obtain ⟨⟨hx, hb, hml, hown, hts⟩, hE, hA, hlk⟩ := h
  subst hpc
  intro H locs ls hP hD hS hl
  exact lv_ldc2 hx hb hown (hts _ hw) hdg (kk H locs ls hP hD hS hl)

set_option maxHeartbeats 1000000 in
theorem u_iload_n (h : CX G X cc own Ts) {k : Fin 4} {i : Nat} {x : Int32} (hdg : decode cc pc = .ok (.iload_n k, 1)) (hi : (k : Nat) = i) (j : Nat) (hj : lv[j]? = some (i, .int x)) (hpc : pc + 1 = pc') (kk : U G X cells slots ws pc' lv (.int x :: st)) : U G X cells slots ws pc lv st := by
  obtain ⟨p, e, R, s, m, args, below, meth, c, A, nL, Q⟩ := X
  obtain ⟨⟨hx, hb, hml, hown, hts⟩, hE, hA, hlk⟩ := h
  subst hpc
  intro H locs ls hP hD hS hl
  exact lv_iload_n hx hb hdg hi (lv_at hl j hj) (kk H locs ls hP hD hS hl)

set_option maxHeartbeats 1000000 in
theorem u_iload (h : CX G X cc own Ts) {i : Nat} {x : Int32} (hdg : decode cc pc = .ok (.iload i, 2)) (j : Nat) (hj : lv[j]? = some (i, .int x)) (hpc : pc + 2 = pc') (kk : U G X cells slots ws pc' lv (.int x :: st)) : U G X cells slots ws pc lv st := by
  obtain ⟨p, e, R, s, m, args, below, meth, c, A, nL, Q⟩ := X
  obtain ⟨⟨hx, hb, hml, hown, hts⟩, hE, hA, hlk⟩ := h
  subst hpc
  intro H locs ls hP hD hS hl
  exact lv_iload hx hb hdg (lv_at hl j hj) (kk H locs ls hP hD hS hl)

set_option maxHeartbeats 1000000 in
theorem u_aload_n (h : CX G X cc own Ts) {k : Fin 4} {i : Nat} {x : Nat} (hdg : decode cc pc = .ok (.aload_n k, 1)) (hi : (k : Nat) = i) (j : Nat) (hj : lv[j]? = some (i, .ref x)) (hpc : pc + 1 = pc') (kk : U G X cells slots ws pc' lv (.ref x :: st)) : U G X cells slots ws pc lv st := by
  obtain ⟨p, e, R, s, m, args, below, meth, c, A, nL, Q⟩ := X
  obtain ⟨⟨hx, hb, hml, hown, hts⟩, hE, hA, hlk⟩ := h
  subst hpc
  intro H locs ls hP hD hS hl
  exact lv_aload_n hx hb hdg hi (lv_at hl j hj) (kk H locs ls hP hD hS hl)

set_option maxHeartbeats 1000000 in
theorem u_aload (h : CX G X cc own Ts) {i : Nat} {x : Nat} (hdg : decode cc pc = .ok (.aload i, 2)) (j : Nat) (hj : lv[j]? = some (i, .ref x)) (hpc : pc + 2 = pc') (kk : U G X cells slots ws pc' lv (.ref x :: st)) : U G X cells slots ws pc lv st := by
  obtain ⟨p, e, R, s, m, args, below, meth, c, A, nL, Q⟩ := X
  obtain ⟨⟨hx, hb, hml, hown, hts⟩, hE, hA, hlk⟩ := h
  subst hpc
  intro H locs ls hP hD hS hl
  exact lv_aload hx hb hdg (lv_at hl j hj) (kk H locs ls hP hD hS hl)

set_option maxHeartbeats 1000000 in
theorem u_aload_nN (h : CX G X cc own Ts) {k : Fin 4} {i : Nat} (hdg : decode cc pc = .ok (.aload_n k, 1)) (hi : (k : Nat) = i) (j : Nat) (hj : lv[j]? = some (i, .null)) (hpc : pc + 1 = pc') (kk : U G X cells slots ws pc' lv (.null :: st)) : U G X cells slots ws pc lv st := by
  obtain ⟨p, e, R, s, m, args, below, meth, c, A, nL, Q⟩ := X
  obtain ⟨⟨hx, hb, hml, hown, hts⟩, hE, hA, hlk⟩ := h
  subst hpc
  intro H locs ls hP hD hS hl
  exact lv_aload_nN hx hb hdg hi (lv_at hl j hj) (kk H locs ls hP hD hS hl)

set_option maxHeartbeats 1000000 in
theorem u_aloadN (h : CX G X cc own Ts) {i : Nat} (hdg : decode cc pc = .ok (.aload i, 2)) (j : Nat) (hj : lv[j]? = some (i, .null)) (hpc : pc + 2 = pc') (kk : U G X cells slots ws pc' lv (.null :: st)) : U G X cells slots ws pc lv st := by
  obtain ⟨p, e, R, s, m, args, below, meth, c, A, nL, Q⟩ := X
  obtain ⟨⟨hx, hb, hml, hown, hts⟩, hE, hA, hlk⟩ := h
  subst hpc
  intro H locs ls hP hD hS hl
  exact lv_aloadN hx hb hdg (lv_at hl j hj) (kk H locs ls hP hD hS hl)

set_option maxHeartbeats 1000000 in
theorem u_istore_n (h : CX G X cc own Ts) {k : Fin 4} {i : Nat} {x : Int32} {lv' : List (Nat × Value)} (hdg : decode cc pc = .ok (.istore_n k, 1)) (hi : (k : Nat) = i) (hn : i < gL X) (hl' : (i, Value.int x) :: lv.filter (fun q => !(q.1 == i) && !(q.1 + 1 == i && q.2.category == 2)) = lv') (hpc : pc + 1 = pc') (kk : U G X cells slots ws pc' lv' st) : U G X cells slots ws pc lv (Value.int x :: st) := by
  obtain ⟨p, e, R, s, m, args, below, meth, c, A, nL, Q⟩ := X
  obtain ⟨⟨hx, hb, hml, hown, hts⟩, hE, hA, hlk⟩ := h
  subst hpc
  intro H locs ls hP hD hS hl
  exact lv_istore_n hx hb hdg hi hl hn hl' (fun ls hl => kk H locs ls hP hD hS hl)

set_option maxHeartbeats 1000000 in
theorem u_istore (h : CX G X cc own Ts) {i : Nat} {x : Int32} {lv' : List (Nat × Value)} (hdg : decode cc pc = .ok (.istore i, 2)) (hn : i < gL X) (hl' : (i, Value.int x) :: lv.filter (fun q => !(q.1 == i) && !(q.1 + 1 == i && q.2.category == 2)) = lv') (hpc : pc + 2 = pc') (kk : U G X cells slots ws pc' lv' st) : U G X cells slots ws pc lv (Value.int x :: st) := by
  obtain ⟨p, e, R, s, m, args, below, meth, c, A, nL, Q⟩ := X
  obtain ⟨⟨hx, hb, hml, hown, hts⟩, hE, hA, hlk⟩ := h
  subst hpc
  intro H locs ls hP hD hS hl
  exact lv_istore hx hb hdg hl hn hl' (fun ls hl => kk H locs ls hP hD hS hl)

set_option maxHeartbeats 1000000 in
theorem u_astore_n (h : CX G X cc own Ts) {k : Fin 4} {i : Nat} {x : Nat} {lv' : List (Nat × Value)} (hdg : decode cc pc = .ok (.astore_n k, 1)) (hi : (k : Nat) = i) (hn : i < gL X) (hl' : (i, Value.ref x) :: lv.filter (fun q => !(q.1 == i) && !(q.1 + 1 == i && q.2.category == 2)) = lv') (hpc : pc + 1 = pc') (kk : U G X cells slots ws pc' lv' st) : U G X cells slots ws pc lv (Value.ref x :: st) := by
  obtain ⟨p, e, R, s, m, args, below, meth, c, A, nL, Q⟩ := X
  obtain ⟨⟨hx, hb, hml, hown, hts⟩, hE, hA, hlk⟩ := h
  subst hpc
  intro H locs ls hP hD hS hl
  exact lv_astore_n hx hb hdg hi hl hn hl' (fun ls hl => kk H locs ls hP hD hS hl)

set_option maxHeartbeats 1000000 in
theorem u_astore (h : CX G X cc own Ts) {i : Nat} {x : Nat} {lv' : List (Nat × Value)} (hdg : decode cc pc = .ok (.astore i, 2)) (hn : i < gL X) (hl' : (i, Value.ref x) :: lv.filter (fun q => !(q.1 == i) && !(q.1 + 1 == i && q.2.category == 2)) = lv') (hpc : pc + 2 = pc') (kk : U G X cells slots ws pc' lv' st) : U G X cells slots ws pc lv (Value.ref x :: st) := by
  obtain ⟨p, e, R, s, m, args, below, meth, c, A, nL, Q⟩ := X
  obtain ⟨⟨hx, hb, hml, hown, hts⟩, hE, hA, hlk⟩ := h
  subst hpc
  intro H locs ls hP hD hS hl
  exact lv_astore hx hb hdg hl hn hl' (fun ls hl => kk H locs ls hP hD hS hl)

set_option maxHeartbeats 1000000 in
theorem u_astore_nN (h : CX G X cc own Ts) {k : Fin 4} {i : Nat} {lv' : List (Nat × Value)} (hdg : decode cc pc = .ok (.astore_n k, 1)) (hi : (k : Nat) = i) (hn : i < gL X) (hl' : (i, Value.null) :: lv.filter (fun q => !(q.1 == i) && !(q.1 + 1 == i && q.2.category == 2)) = lv') (hpc : pc + 1 = pc') (kk : U G X cells slots ws pc' lv' st) : U G X cells slots ws pc lv (Value.null :: st) := by
  obtain ⟨p, e, R, s, m, args, below, meth, c, A, nL, Q⟩ := X
  obtain ⟨⟨hx, hb, hml, hown, hts⟩, hE, hA, hlk⟩ := h
  subst hpc
  intro H locs ls hP hD hS hl
  exact lv_astore_nN hx hb hdg hi hl hn hl' (fun ls hl => kk H locs ls hP hD hS hl)

set_option maxHeartbeats 1000000 in
theorem u_astoreN (h : CX G X cc own Ts) {i : Nat} {lv' : List (Nat × Value)} (hdg : decode cc pc = .ok (.astore i, 2)) (hn : i < gL X) (hl' : (i, Value.null) :: lv.filter (fun q => !(q.1 == i) && !(q.1 + 1 == i && q.2.category == 2)) = lv') (hpc : pc + 2 = pc') (kk : U G X cells slots ws pc' lv' st) : U G X cells slots ws pc lv (Value.null :: st) := by
  obtain ⟨p, e, R, s, m, args, below, meth, c, A, nL, Q⟩ := X
  obtain ⟨⟨hx, hb, hml, hown, hts⟩, hE, hA, hlk⟩ := h
  subst hpc
  intro H locs ls hP hD hS hl
  exact lv_astoreN hx hb hdg hl hn hl' (fun ls hl => kk H locs ls hP hD hS hl)

set_option maxHeartbeats 1000000 in
theorem u_iinc (h : CX G X cc own Ts) {i k : Nat} {n : Int} {x v : Int32} {lv' : List (Nat × Value)} (hdg : decode cc pc = .ok (.iinc i n, 3)) (hk : lv[k]? = some (i, .int x)) (hv : x + Int32.ofInt n = v) (hn : i < gL X) (hl' : (i, Value.int v) :: lv.filter (fun q => !(q.1 == i) && !(q.1 + 1 == i && q.2.category == 2)) = lv') (hpc : pc + 3 = pc') (kk : U G X cells slots ws pc' lv' st) : U G X cells slots ws pc lv st := by
  obtain ⟨p, e, R, s, m, args, below, meth, c, A, nL, Q⟩ := X
  obtain ⟨⟨hx, hb, hml, hown, hts⟩, hE, hA, hlk⟩ := h
  subst hpc
  intro H locs ls hP hD hS hl
  exact lv_iinc hx hb hdg hl hk hv hn hl' (fun ls hl => kk H locs ls hP hD hS hl)

set_option maxHeartbeats 1000000 in
theorem u_iadd (h : CX G X cc own Ts) {x y v : Int32} (hdg : decode cc pc = .ok (.iadd, 1)) (hv : x + y = v) (hpc : pc + 1 = pc') (kk : U G X cells slots ws pc' lv (.int v :: st)) : U G X cells slots ws pc lv (.int y :: .int x :: st) := by
  obtain ⟨p, e, R, s, m, args, below, meth, c, A, nL, Q⟩ := X
  obtain ⟨⟨hx, hb, hml, hown, hts⟩, hE, hA, hlk⟩ := h
  subst hpc
  intro H locs ls hP hD hS hl
  subst hv
  exact lv_iadd hx hb hdg (kk H locs ls hP hD hS hl)

set_option maxHeartbeats 1000000 in
theorem u_isub (h : CX G X cc own Ts) {x y v : Int32} (hdg : decode cc pc = .ok (.isub, 1)) (hv : x - y = v) (hpc : pc + 1 = pc') (kk : U G X cells slots ws pc' lv (.int v :: st)) : U G X cells slots ws pc lv (.int y :: .int x :: st) := by
  obtain ⟨p, e, R, s, m, args, below, meth, c, A, nL, Q⟩ := X
  obtain ⟨⟨hx, hb, hml, hown, hts⟩, hE, hA, hlk⟩ := h
  subst hpc
  intro H locs ls hP hD hS hl
  subst hv
  exact lv_isub hx hb hdg (kk H locs ls hP hD hS hl)

set_option maxHeartbeats 1000000 in
theorem u_imul (h : CX G X cc own Ts) {x y v : Int32} (hdg : decode cc pc = .ok (.imul, 1)) (hv : x * y = v) (hpc : pc + 1 = pc') (kk : U G X cells slots ws pc' lv (.int v :: st)) : U G X cells slots ws pc lv (.int y :: .int x :: st) := by
  obtain ⟨p, e, R, s, m, args, below, meth, c, A, nL, Q⟩ := X
  obtain ⟨⟨hx, hb, hml, hown, hts⟩, hE, hA, hlk⟩ := h
  subst hpc
  intro H locs ls hP hD hS hl
  subst hv
  exact lv_imul hx hb hdg (kk H locs ls hP hD hS hl)

set_option maxHeartbeats 1000000 in
theorem u_iand (h : CX G X cc own Ts) {x y v : Int32} (hdg : decode cc pc = .ok (.iand, 1)) (hv : x &&& y = v) (hpc : pc + 1 = pc') (kk : U G X cells slots ws pc' lv (.int v :: st)) : U G X cells slots ws pc lv (.int y :: .int x :: st) := by
  obtain ⟨p, e, R, s, m, args, below, meth, c, A, nL, Q⟩ := X
  obtain ⟨⟨hx, hb, hml, hown, hts⟩, hE, hA, hlk⟩ := h
  subst hpc
  intro H locs ls hP hD hS hl
  subst hv
  exact lv_iand hx hb hdg (kk H locs ls hP hD hS hl)

set_option maxHeartbeats 1000000 in
theorem u_ior (h : CX G X cc own Ts) {x y v : Int32} (hdg : decode cc pc = .ok (.ior, 1)) (hv : x ||| y = v) (hpc : pc + 1 = pc') (kk : U G X cells slots ws pc' lv (.int v :: st)) : U G X cells slots ws pc lv (.int y :: .int x :: st) := by
  obtain ⟨p, e, R, s, m, args, below, meth, c, A, nL, Q⟩ := X
  obtain ⟨⟨hx, hb, hml, hown, hts⟩, hE, hA, hlk⟩ := h
  subst hpc
  intro H locs ls hP hD hS hl
  subst hv
  exact lv_ior hx hb hdg (kk H locs ls hP hD hS hl)

set_option maxHeartbeats 1000000 in
theorem u_ishl (h : CX G X cc own Ts) {x y v : Int32} (hdg : decode cc pc = .ok (.ishl, 1)) (hv : x <<< (y &&& 31) = v) (hpc : pc + 1 = pc') (kk : U G X cells slots ws pc' lv (.int v :: st)) : U G X cells slots ws pc lv (.int y :: .int x :: st) := by
  obtain ⟨p, e, R, s, m, args, below, meth, c, A, nL, Q⟩ := X
  obtain ⟨⟨hx, hb, hml, hown, hts⟩, hE, hA, hlk⟩ := h
  subst hpc
  intro H locs ls hP hD hS hl
  subst hv
  exact lv_ishl hx hb hdg (kk H locs ls hP hD hS hl)

set_option maxHeartbeats 1000000 in
theorem u_ishr (h : CX G X cc own Ts) {x y v : Int32} (hdg : decode cc pc = .ok (.ishr, 1)) (hv : x >>> (y &&& 31) = v) (hpc : pc + 1 = pc') (kk : U G X cells slots ws pc' lv (.int v :: st)) : U G X cells slots ws pc lv (.int y :: .int x :: st) := by
  obtain ⟨p, e, R, s, m, args, below, meth, c, A, nL, Q⟩ := X
  obtain ⟨⟨hx, hb, hml, hown, hts⟩, hE, hA, hlk⟩ := h
  subst hpc
  intro H locs ls hP hD hS hl
  subst hv
  exact lv_ishr hx hb hdg (kk H locs ls hP hD hS hl)

set_option maxHeartbeats 1000000 in
theorem u_iushr (h : CX G X cc own Ts) {x y v : Int32} (hdg : decode cc pc = .ok (.iushr, 1)) (hv : (x.toUInt32 >>> (y.toUInt32 &&& Int32.toUInt32 31)).toInt32 = v) (hpc : pc + 1 = pc') (kk : U G X cells slots ws pc' lv (.int v :: st)) : U G X cells slots ws pc lv (.int y :: .int x :: st) := by
  obtain ⟨p, e, R, s, m, args, below, meth, c, A, nL, Q⟩ := X
  obtain ⟨⟨hx, hb, hml, hown, hts⟩, hE, hA, hlk⟩ := h
  subst hpc
  intro H locs ls hP hD hS hl
  exact lv_iushr hx hb hdg hv (kk H locs ls hP hD hS hl)

set_option maxHeartbeats 1000000 in
theorem u_idiv (h : CX G X cc own Ts) {x y v : Int32} (hdg : decode cc pc = .ok (.idiv, 1)) (hne : ¬ y = 0) (hv : x / y = v) (hpc : pc + 1 = pc') (kk : U G X cells slots ws pc' lv (.int v :: st)) : U G X cells slots ws pc lv (.int y :: .int x :: st) := by
  obtain ⟨p, e, R, s, m, args, below, meth, c, A, nL, Q⟩ := X
  obtain ⟨⟨hx, hb, hml, hown, hts⟩, hE, hA, hlk⟩ := h
  subst hpc
  intro H locs ls hP hD hS hl
  subst hv
  exact lv_idiv hx hb hdg hne (kk H locs ls hP hD hS hl)

set_option maxHeartbeats 1000000 in
theorem u_irem (h : CX G X cc own Ts) {x y v : Int32} (hdg : decode cc pc = .ok (.irem, 1)) (hne : ¬ y = 0) (hv : x - x / y * y = v) (hpc : pc + 1 = pc') (kk : U G X cells slots ws pc' lv (.int v :: st)) : U G X cells slots ws pc lv (.int y :: .int x :: st) := by
  obtain ⟨p, e, R, s, m, args, below, meth, c, A, nL, Q⟩ := X
  obtain ⟨⟨hx, hb, hml, hown, hts⟩, hE, hA, hlk⟩ := h
  subst hpc
  intro H locs ls hP hD hS hl
  subst hv
  exact lv_irem hx hb hdg hne (kk H locs ls hP hD hS hl)

set_option maxHeartbeats 1000000 in
theorem u_ladd (h : CX G X cc own Ts) {x y v : Int64} (hdg : decode cc pc = .ok (.ladd, 1)) (hv : x + y = v) (hpc : pc + 1 = pc') (kk : U G X cells slots ws pc' lv (.long v :: st)) : U G X cells slots ws pc lv (.long y :: .long x :: st) := by
  obtain ⟨p, e, R, s, m, args, below, meth, c, A, nL, Q⟩ := X
  obtain ⟨⟨hx, hb, hml, hown, hts⟩, hE, hA, hlk⟩ := h
  subst hpc
  intro H locs ls hP hD hS hl
  subst hv
  exact lv_ladd hx hb hdg (kk H locs ls hP hD hS hl)

set_option maxHeartbeats 1000000 in
theorem u_lmul (h : CX G X cc own Ts) {x y v : Int64} (hdg : decode cc pc = .ok (.lmul, 1)) (hv : x * y = v) (hpc : pc + 1 = pc') (kk : U G X cells slots ws pc' lv (.long v :: st)) : U G X cells slots ws pc lv (.long y :: .long x :: st) := by
  obtain ⟨p, e, R, s, m, args, below, meth, c, A, nL, Q⟩ := X
  obtain ⟨⟨hx, hb, hml, hown, hts⟩, hE, hA, hlk⟩ := h
  subst hpc
  intro H locs ls hP hD hS hl
  subst hv
  exact lv_lmul hx hb hdg (kk H locs ls hP hD hS hl)

set_option maxHeartbeats 1000000 in
theorem u_lrem (h : CX G X cc own Ts) {x y v : Int64} (hdg : decode cc pc = .ok (.lrem, 1)) (hne : ¬ y = 0) (hv : x - x / y * y = v) (hpc : pc + 1 = pc') (kk : U G X cells slots ws pc' lv (.long v :: st)) : U G X cells slots ws pc lv (.long y :: .long x :: st) := by
  obtain ⟨p, e, R, s, m, args, below, meth, c, A, nL, Q⟩ := X
  obtain ⟨⟨hx, hb, hml, hown, hts⟩, hE, hA, hlk⟩ := h
  subst hpc
  intro H locs ls hP hD hS hl
  subst hv
  exact lv_lrem hx hb hdg hne (kk H locs ls hP hD hS hl)

set_option maxHeartbeats 1000000 in
theorem u_i2l (h : CX G X cc own Ts) {x : Int32} {v : Int64} (hdg : decode cc pc = .ok (.i2l, 1)) (hv : x.toInt64 = v) (hpc : pc + 1 = pc') (kk : U G X cells slots ws pc' lv (.long v :: st)) : U G X cells slots ws pc lv (.int x :: st) := by
  obtain ⟨p, e, R, s, m, args, below, meth, c, A, nL, Q⟩ := X
  obtain ⟨⟨hx, hb, hml, hown, hts⟩, hE, hA, hlk⟩ := h
  subst hpc
  intro H locs ls hP hD hS hl
  exact lv_i2l hx hb hdg hv (kk H locs ls hP hD hS hl)

set_option maxHeartbeats 1000000 in
theorem u_l2i (h : CX G X cc own Ts) {x : Int64} {v : Int32} (hdg : decode cc pc = .ok (.l2i, 1)) (hv : x.toInt32 = v) (hpc : pc + 1 = pc') (kk : U G X cells slots ws pc' lv (.int v :: st)) : U G X cells slots ws pc lv (.long x :: st) := by
  obtain ⟨p, e, R, s, m, args, below, meth, c, A, nL, Q⟩ := X
  obtain ⟨⟨hx, hb, hml, hown, hts⟩, hE, hA, hlk⟩ := h
  subst hpc
  intro H locs ls hP hD hS hl
  exact lv_l2i hx hb hdg hv (kk H locs ls hP hD hS hl)

set_option maxHeartbeats 1000000 in
theorem u_i2b (h : CX G X cc own Ts) {x v : Int32} (hdg : decode cc pc = .ok (.i2b, 1)) (hv : x.toInt8.toInt32 = v) (hpc : pc + 1 = pc') (kk : U G X cells slots ws pc' lv (.int v :: st)) : U G X cells slots ws pc lv (.int x :: st) := by
  obtain ⟨p, e, R, s, m, args, below, meth, c, A, nL, Q⟩ := X
  obtain ⟨⟨hx, hb, hml, hown, hts⟩, hE, hA, hlk⟩ := h
  subst hpc
  intro H locs ls hP hD hS hl
  exact lv_i2b hx hb hdg hv (kk H locs ls hP hD hS hl)

set_option maxHeartbeats 1000000 in
theorem u_i2c (h : CX G X cc own Ts) {x v : Int32} (hdg : decode cc pc = .ok (.i2c, 1)) (hv : (x.toUInt32 % 65536).toInt32 = v) (hpc : pc + 1 = pc') (kk : U G X cells slots ws pc' lv (.int v :: st)) : U G X cells slots ws pc lv (.int x :: st) := by
  obtain ⟨p, e, R, s, m, args, below, meth, c, A, nL, Q⟩ := X
  obtain ⟨⟨hx, hb, hml, hown, hts⟩, hE, hA, hlk⟩ := h
  subst hpc
  intro H locs ls hP hD hS hl
  exact lv_i2c hx hb hdg hv (kk H locs ls hP hD hS hl)

set_option maxHeartbeats 1000000 in
theorem u_dup (h : CX G X cc own Ts) {va : Value} (hdg : decode cc pc = .ok (.dup, 1)) (hva : va.category = 1) (hpc : pc + 1 = pc') (kk : U G X cells slots ws pc' lv (va :: va :: st)) : U G X cells slots ws pc lv (va :: st) := by
  obtain ⟨p, e, R, s, m, args, below, meth, c, A, nL, Q⟩ := X
  obtain ⟨⟨hx, hb, hml, hown, hts⟩, hE, hA, hlk⟩ := h
  subst hpc
  intro H locs ls hP hD hS hl
  exact lv_dup hx hb hdg hva (kk H locs ls hP hD hS hl)

set_option maxHeartbeats 1000000 in
theorem u_pop (h : CX G X cc own Ts) {va : Value} (hdg : decode cc pc = .ok (.pop, 1)) (hva : va.category = 1) (hpc : pc + 1 = pc') (kk : U G X cells slots ws pc' lv st) : U G X cells slots ws pc lv (va :: st) := by
  obtain ⟨p, e, R, s, m, args, below, meth, c, A, nL, Q⟩ := X
  obtain ⟨⟨hx, hb, hml, hown, hts⟩, hE, hA, hlk⟩ := h
  subst hpc
  intro H locs ls hP hD hS hl
  exact lv_pop hx hb hdg hva (kk H locs ls hP hD hS hl)

set_option maxHeartbeats 1000000 in
theorem u_dup2 (h : CX G X cc own Ts) {va vb : Value} (hdg : decode cc pc = .ok (.dup2, 1)) (hva : va.category = 1) (hvb : vb.category = 1) (hpc : pc + 1 = pc') (kk : U G X cells slots ws pc' lv (va :: vb :: va :: vb :: st)) : U G X cells slots ws pc lv (va :: vb :: st) := by
  obtain ⟨p, e, R, s, m, args, below, meth, c, A, nL, Q⟩ := X
  obtain ⟨⟨hx, hb, hml, hown, hts⟩, hE, hA, hlk⟩ := h
  subst hpc
  intro H locs ls hP hD hS hl
  exact lv_dup2_11 hx hb hdg hva hvb (kk H locs ls hP hD hS hl)

set_option maxHeartbeats 1000000 in
theorem u_null (h : CX G X cc own Ts) (hdg : decode cc pc = .ok (.aconst_null, 1)) (hpc : pc + 1 = pc') (kk : U G X cells slots ws pc' lv (.null :: st)) : U G X cells slots ws pc lv st := by
  obtain ⟨p, e, R, s, m, args, below, meth, c, A, nL, Q⟩ := X
  obtain ⟨⟨hx, hb, hml, hown, hts⟩, hE, hA, hlk⟩ := h
  subst hpc
  intro H locs ls hP hD hS hl
  exact lv_null hx hb hdg (kk H locs ls hP hD hS hl)

set_option maxHeartbeats 1000000 in
theorem u_goto (h : CX G X cc own Ts) {off : Int} {tgt : Nat} (hdg : decode cc pc = .ok (.goto off, 3)) (ht : (pc : Int) + off = (tgt : Int)) (kk : U G X cells slots ws tgt lv st) : U G X cells slots ws pc lv st := by
  obtain ⟨p, e, R, s, m, args, below, meth, c, A, nL, Q⟩ := X
  obtain ⟨⟨hx, hb, hml, hown, hts⟩, hE, hA, hlk⟩ := h
  intro H locs ls hP hD hS hl
  exact lv_goto hx hb hdg ht (kk H locs ls hP hD hS hl)

set_option maxHeartbeats 1000000 in
theorem u_if_eq (h : CX G X cc own Ts) {x : Int32} {off : Int} {tgt : Nat} (hdg : decode cc pc = .ok (.ifCond .eq off, 3)) (ht : (pc : Int) + off = (tgt : Int)) (hpc : pc + 3 = pc') (kt : x = 0 → U G X cells slots ws tgt lv st) (kf : ¬ x = 0 → U G X cells slots ws pc' lv st) : U G X cells slots ws pc lv (.int x :: st) := by
  obtain ⟨p, e, R, s, m, args, below, meth, c, A, nL, Q⟩ := X
  obtain ⟨⟨hx, hb, hml, hown, hts⟩, hE, hA, hlk⟩ := h
  subst hpc
  intro H locs ls hP hD hS hl
  exact lv_if_eq hx hb hdg ht (fun q => kt q H locs ls hP hD hS hl) (fun q => kf q H locs ls hP hD hS hl)

set_option maxHeartbeats 1000000 in
theorem u_icmp_eq (h : CX G X cc own Ts) {x y : Int32} {off : Int} {tgt : Nat} (hdg : decode cc pc = .ok (.if_icmp .eq off, 3)) (ht : (pc : Int) + off = (tgt : Int)) (hpc : pc + 3 = pc') (kt : x = y → U G X cells slots ws tgt lv st) (kf : ¬ x = y → U G X cells slots ws pc' lv st) : U G X cells slots ws pc lv (.int y :: .int x :: st) := by
  obtain ⟨p, e, R, s, m, args, below, meth, c, A, nL, Q⟩ := X
  obtain ⟨⟨hx, hb, hml, hown, hts⟩, hE, hA, hlk⟩ := h
  subst hpc
  intro H locs ls hP hD hS hl
  exact lv_icmp_eq hx hb hdg ht (fun q => kt q H locs ls hP hD hS hl) (fun q => kf q H locs ls hP hD hS hl)

set_option maxHeartbeats 1000000 in
theorem u_if_ne (h : CX G X cc own Ts) {x : Int32} {off : Int} {tgt : Nat} (hdg : decode cc pc = .ok (.ifCond .ne off, 3)) (ht : (pc : Int) + off = (tgt : Int)) (hpc : pc + 3 = pc') (kt : ¬ x = 0 → U G X cells slots ws tgt lv st) (kf : x = 0 → U G X cells slots ws pc' lv st) : U G X cells slots ws pc lv (.int x :: st) := by
  obtain ⟨p, e, R, s, m, args, below, meth, c, A, nL, Q⟩ := X
  obtain ⟨⟨hx, hb, hml, hown, hts⟩, hE, hA, hlk⟩ := h
  subst hpc
  intro H locs ls hP hD hS hl
  exact lv_if_ne hx hb hdg ht (fun q => kt q H locs ls hP hD hS hl) (fun q => kf q H locs ls hP hD hS hl)

set_option maxHeartbeats 1000000 in
theorem u_icmp_ne (h : CX G X cc own Ts) {x y : Int32} {off : Int} {tgt : Nat} (hdg : decode cc pc = .ok (.if_icmp .ne off, 3)) (ht : (pc : Int) + off = (tgt : Int)) (hpc : pc + 3 = pc') (kt : ¬ x = y → U G X cells slots ws tgt lv st) (kf : x = y → U G X cells slots ws pc' lv st) : U G X cells slots ws pc lv (.int y :: .int x :: st) := by
  obtain ⟨p, e, R, s, m, args, below, meth, c, A, nL, Q⟩ := X
  obtain ⟨⟨hx, hb, hml, hown, hts⟩, hE, hA, hlk⟩ := h
  subst hpc
  intro H locs ls hP hD hS hl
  exact lv_icmp_ne hx hb hdg ht (fun q => kt q H locs ls hP hD hS hl) (fun q => kf q H locs ls hP hD hS hl)

set_option maxHeartbeats 1000000 in
theorem u_if_lt (h : CX G X cc own Ts) {x : Int32} {off : Int} {tgt : Nat} (hdg : decode cc pc = .ok (.ifCond .lt off, 3)) (ht : (pc : Int) + off = (tgt : Int)) (hpc : pc + 3 = pc') (kt : x < 0 → U G X cells slots ws tgt lv st) (kf : ¬ x < 0 → U G X cells slots ws pc' lv st) : U G X cells slots ws pc lv (.int x :: st) := by
  obtain ⟨p, e, R, s, m, args, below, meth, c, A, nL, Q⟩ := X
  obtain ⟨⟨hx, hb, hml, hown, hts⟩, hE, hA, hlk⟩ := h
  subst hpc
  intro H locs ls hP hD hS hl
  exact lv_if_lt hx hb hdg ht (fun q => kt q H locs ls hP hD hS hl) (fun q => kf q H locs ls hP hD hS hl)

set_option maxHeartbeats 1000000 in
theorem u_icmp_lt (h : CX G X cc own Ts) {x y : Int32} {off : Int} {tgt : Nat} (hdg : decode cc pc = .ok (.if_icmp .lt off, 3)) (ht : (pc : Int) + off = (tgt : Int)) (hpc : pc + 3 = pc') (kt : x < y → U G X cells slots ws tgt lv st) (kf : ¬ x < y → U G X cells slots ws pc' lv st) : U G X cells slots ws pc lv (.int y :: .int x :: st) := by
  obtain ⟨p, e, R, s, m, args, below, meth, c, A, nL, Q⟩ := X
  obtain ⟨⟨hx, hb, hml, hown, hts⟩, hE, hA, hlk⟩ := h
  subst hpc
  intro H locs ls hP hD hS hl
  exact lv_icmp_lt hx hb hdg ht (fun q => kt q H locs ls hP hD hS hl) (fun q => kf q H locs ls hP hD hS hl)

set_option maxHeartbeats 1000000 in
theorem u_if_ge (h : CX G X cc own Ts) {x : Int32} {off : Int} {tgt : Nat} (hdg : decode cc pc = .ok (.ifCond .ge off, 3)) (ht : (pc : Int) + off = (tgt : Int)) (hpc : pc + 3 = pc') (kt : 0 ≤ x → U G X cells slots ws tgt lv st) (kf : ¬ 0 ≤ x → U G X cells slots ws pc' lv st) : U G X cells slots ws pc lv (.int x :: st) := by
  obtain ⟨p, e, R, s, m, args, below, meth, c, A, nL, Q⟩ := X
  obtain ⟨⟨hx, hb, hml, hown, hts⟩, hE, hA, hlk⟩ := h
  subst hpc
  intro H locs ls hP hD hS hl
  exact lv_if_ge hx hb hdg ht (fun q => kt q H locs ls hP hD hS hl) (fun q => kf q H locs ls hP hD hS hl)

set_option maxHeartbeats 1000000 in
theorem u_icmp_ge (h : CX G X cc own Ts) {x y : Int32} {off : Int} {tgt : Nat} (hdg : decode cc pc = .ok (.if_icmp .ge off, 3)) (ht : (pc : Int) + off = (tgt : Int)) (hpc : pc + 3 = pc') (kt : y ≤ x → U G X cells slots ws tgt lv st) (kf : ¬ y ≤ x → U G X cells slots ws pc' lv st) : U G X cells slots ws pc lv (.int y :: .int x :: st) := by
  obtain ⟨p, e, R, s, m, args, below, meth, c, A, nL, Q⟩ := X
  obtain ⟨⟨hx, hb, hml, hown, hts⟩, hE, hA, hlk⟩ := h
  subst hpc
  intro H locs ls hP hD hS hl
  exact lv_icmp_ge hx hb hdg ht (fun q => kt q H locs ls hP hD hS hl) (fun q => kf q H locs ls hP hD hS hl)

set_option maxHeartbeats 1000000 in
theorem u_if_gt (h : CX G X cc own Ts) {x : Int32} {off : Int} {tgt : Nat} (hdg : decode cc pc = .ok (.ifCond .gt off, 3)) (ht : (pc : Int) + off = (tgt : Int)) (hpc : pc + 3 = pc') (kt : 0 < x → U G X cells slots ws tgt lv st) (kf : ¬ 0 < x → U G X cells slots ws pc' lv st) : U G X cells slots ws pc lv (.int x :: st) := by
  obtain ⟨p, e, R, s, m, args, below, meth, c, A, nL, Q⟩ := X
  obtain ⟨⟨hx, hb, hml, hown, hts⟩, hE, hA, hlk⟩ := h
  subst hpc
  intro H locs ls hP hD hS hl
  exact lv_if_gt hx hb hdg ht (fun q => kt q H locs ls hP hD hS hl) (fun q => kf q H locs ls hP hD hS hl)

set_option maxHeartbeats 1000000 in
theorem u_icmp_gt (h : CX G X cc own Ts) {x y : Int32} {off : Int} {tgt : Nat} (hdg : decode cc pc = .ok (.if_icmp .gt off, 3)) (ht : (pc : Int) + off = (tgt : Int)) (hpc : pc + 3 = pc') (kt : y < x → U G X cells slots ws tgt lv st) (kf : ¬ y < x → U G X cells slots ws pc' lv st) : U G X cells slots ws pc lv (.int y :: .int x :: st) := by
  obtain ⟨p, e, R, s, m, args, below, meth, c, A, nL, Q⟩ := X
  obtain ⟨⟨hx, hb, hml, hown, hts⟩, hE, hA, hlk⟩ := h
  subst hpc
  intro H locs ls hP hD hS hl
  exact lv_icmp_gt hx hb hdg ht (fun q => kt q H locs ls hP hD hS hl) (fun q => kf q H locs ls hP hD hS hl)

set_option maxHeartbeats 1000000 in
theorem u_if_le (h : CX G X cc own Ts) {x : Int32} {off : Int} {tgt : Nat} (hdg : decode cc pc = .ok (.ifCond .le off, 3)) (ht : (pc : Int) + off = (tgt : Int)) (hpc : pc + 3 = pc') (kt : x ≤ 0 → U G X cells slots ws tgt lv st) (kf : ¬ x ≤ 0 → U G X cells slots ws pc' lv st) : U G X cells slots ws pc lv (.int x :: st) := by
  obtain ⟨p, e, R, s, m, args, below, meth, c, A, nL, Q⟩ := X
  obtain ⟨⟨hx, hb, hml, hown, hts⟩, hE, hA, hlk⟩ := h
  subst hpc
  intro H locs ls hP hD hS hl
  exact lv_if_le hx hb hdg ht (fun q => kt q H locs ls hP hD hS hl) (fun q => kf q H locs ls hP hD hS hl)

set_option maxHeartbeats 1000000 in
theorem u_icmp_le (h : CX G X cc own Ts) {x y : Int32} {off : Int} {tgt : Nat} (hdg : decode cc pc = .ok (.if_icmp .le off, 3)) (ht : (pc : Int) + off = (tgt : Int)) (hpc : pc + 3 = pc') (kt : x ≤ y → U G X cells slots ws tgt lv st) (kf : ¬ x ≤ y → U G X cells slots ws pc' lv st) : U G X cells slots ws pc lv (.int y :: .int x :: st) := by
  obtain ⟨p, e, R, s, m, args, below, meth, c, A, nL, Q⟩ := X
  obtain ⟨⟨hx, hb, hml, hown, hts⟩, hE, hA, hlk⟩ := h
  subst hpc
  intro H locs ls hP hD hS hl
  exact lv_icmp_le hx hb hdg ht (fun q => kt q H locs ls hP hD hS hl) (fun q => kf q H locs ls hP hD hS hl)

set_option maxHeartbeats 1000000 in
theorem u_ifnonnull (h : CX G X cc own Ts) {x : Nat} {off : Int} {tgt : Nat} (hdg : decode cc pc = .ok (.ifnonnull off, 3)) (ht : (pc : Int) + off = (tgt : Int)) (kk : U G X cells slots ws tgt lv st) : U G X cells slots ws pc lv (.ref x :: st) := by
  obtain ⟨p, e, R, s, m, args, below, meth, c, A, nL, Q⟩ := X
  obtain ⟨⟨hx, hb, hml, hown, hts⟩, hE, hA, hlk⟩ := h
  intro H locs ls hP hD hS hl
  exact lv_ifnonnull hx hb hdg ht (kk H locs ls hP hD hS hl)

set_option maxHeartbeats 1000000 in
theorem u_ifnonnullN (h : CX G X cc own Ts) {off : Int} (hdg : decode cc pc = .ok (.ifnonnull off, 3)) (hpc : pc + 3 = pc') (kk : U G X cells slots ws pc' lv st) : U G X cells slots ws pc lv (.null :: st) := by
  obtain ⟨p, e, R, s, m, args, below, meth, c, A, nL, Q⟩ := X
  obtain ⟨⟨hx, hb, hml, hown, hts⟩, hE, hA, hlk⟩ := h
  subst hpc
  intro H locs ls hP hD hS hl
  exact lv_ifnonnullN hx hb hdg (kk H locs ls hP hD hS hl)

set_option maxHeartbeats 1000000 in
theorem u_ifnull (h : CX G X cc own Ts) {x : Nat} {off : Int} (hdg : decode cc pc = .ok (.ifnull off, 3)) (hpc : pc + 3 = pc') (kk : U G X cells slots ws pc' lv st) : U G X cells slots ws pc lv (.ref x :: st) := by
  obtain ⟨p, e, R, s, m, args, below, meth, c, A, nL, Q⟩ := X
  obtain ⟨⟨hx, hb, hml, hown, hts⟩, hE, hA, hlk⟩ := h
  subst hpc
  intro H locs ls hP hD hS hl
  exact lv_ifnull hx hb hdg (kk H locs ls hP hD hS hl)

set_option maxHeartbeats 1000000 in
theorem u_ifnullN (h : CX G X cc own Ts) {off : Int} {tgt : Nat} (hdg : decode cc pc = .ok (.ifnull off, 3)) (ht : (pc : Int) + off = (tgt : Int)) (kk : U G X cells slots ws tgt lv st) : U G X cells slots ws pc lv (.null :: st) := by
  obtain ⟨p, e, R, s, m, args, below, meth, c, A, nL, Q⟩ := X
  obtain ⟨⟨hx, hb, hml, hown, hts⟩, hE, hA, hlk⟩ := h
  intro H locs ls hP hD hS hl
  exact lv_ifnullN hx hb hdg ht (kk H locs ls hP hD hS hl)

set_option maxHeartbeats 1000000 in
theorem u_tableIn (h : CX G X cc own Ts) {dflt lo hi : Int} {offs : Array Int} {len : Nat} {x : Int32} {off : Int} {tgt : Nat} (hdg : decode cc pc = .ok (.tableswitch dflt lo hi offs, len)) (h1 : ¬ x.toInt < lo) (h2 : ¬ hi < x.toInt) (ho : offs[(x.toInt - lo).toNat]? = some off) (ht : (pc : Int) + off = (tgt : Int)) (kk : U G X cells slots ws tgt lv st) : U G X cells slots ws pc lv (.int x :: st) := by
  obtain ⟨p, e, R, s, m, args, below, meth, c, A, nL, Q⟩ := X
  obtain ⟨⟨hx, hb, hml, hown, hts⟩, hE, hA, hlk⟩ := h
  intro H locs ls hP hD hS hl
  exact lv_tableIn hx hb hdg h1 h2 ho ht (kk H locs ls hP hD hS hl)

set_option maxHeartbeats 1000000 in
theorem u_tableOut (h : CX G X cc own Ts) {dflt lo hi : Int} {offs : Array Int} {len : Nat} {x : Int32} {tgt : Nat} (hdg : decode cc pc = .ok (.tableswitch dflt lo hi offs, len)) (ho : x.toInt < lo ∨ hi < x.toInt) (ht : (pc : Int) + dflt = (tgt : Int)) (kk : U G X cells slots ws tgt lv st) : U G X cells slots ws pc lv (.int x :: st) := by
  obtain ⟨p, e, R, s, m, args, below, meth, c, A, nL, Q⟩ := X
  obtain ⟨⟨hx, hb, hml, hown, hts⟩, hE, hA, hlk⟩ := h
  intro H locs ls hP hD hS hl
  exact lv_tableOut hx hb hdg ho ht (kk H locs ls hP hD hS hl)

set_option maxHeartbeats 1000000 in
theorem u_lookup (h : CX G X cc own Ts) {dflt : Int} {ps : Array (Int × Int)} {len : Nat} {x : Int32} {off : Int} {tgt : Nat} (hdg : decode cc pc = .ok (.lookupswitch dflt ps, len)) (hp : (ps.toList.zip (ps.toList.drop 1)).all (fun (a, next) => a.1 < next.1) = true) (ho : Op.lookupswitch.offset ps.toList dflt x.toInt = off) (ht : (pc : Int) + off = (tgt : Int)) (kk : U G X cells slots ws tgt lv st) : U G X cells slots ws pc lv (.int x :: st) := by
  obtain ⟨p, e, R, s, m, args, below, meth, c, A, nL, Q⟩ := X
  obtain ⟨⟨hx, hb, hml, hown, hts⟩, hE, hA, hlk⟩ := h
  intro H locs ls hP hD hS hl
  exact lv_lookup hx hb hdg hp ho ht (kk H locs ls hP hD hS hl)

set_option maxHeartbeats 1000000 in
theorem u_wp {ws' : va_W} (is : List Nat) (hn : va_nd is = true) (hs : is.map (fun i => ws[i]?) = ws'.map some) (kk : U G X cells slots ws' pc lv st) : U G X cells slots ws pc lv st := by
  obtain ⟨p, e, R, s, m, args, below, meth, c, A, nL, Q⟩ := X
  intro H locs ls hP hD hS hl
  refine kk H locs ls (hP.sub is ?_) (hD.sub is hn hs) hS hl
  have h1 : is.filterMap (fun i => ws[i]?) = ((is.map (fun i => ws[i]?)).filterMap id) := by rw [List.filterMap_map]; rfl
  rw [h1, hs, List.filterMap_map]
  simp

set_option maxHeartbeats 1000000 in
theorem u_lv {lv' : List (Nat × Value)} (ks : List Nat) (hl' : lv_pick lv ks = lv') (kk : U G X cells slots ws pc lv' st) : U G X cells slots ws pc lv st := by
  obtain ⟨p, e, R, s, m, args, below, meth, c, A, nL, Q⟩ := X
  intro H locs ls hP hD hS hl
  exact kk H locs ls hP hD hS (lv_sub hl ks hl')

set_option maxHeartbeats 1000000 in
theorem u_wd {k n : Nat} (h1 : cells ≤ k) (h2 : slots ≤ n) (kk : U G X k n ws pc lv st) : U G X cells slots ws pc lv st := by
  obtain ⟨p, e, R, s, m, args, below, meth, c, A, nL, Q⟩ := X
  intro H locs ls hP hD hS hl
  exact W.widen h1 h2 (kk H locs ls hP hD hS hl)

set_option maxHeartbeats 1000000 in
theorem u_ap {i j : Nat} {x y : Nat × va_E} (hi : ws[i]? = some x) (hj : ws[j]? = some y) (hne : i ≠ j) (kk : x.1 ≠ y.1 → U G X cells slots ws pc lv st) : U G X cells slots ws pc lv st := by
  obtain ⟨p, e, R, s, m, args, below, meth, c, A, nL, Q⟩ := X
  intro H locs ls hP hD hS hl
  exact kk (fun q => hne (hD.1 i j x y hi hj q)) H locs ls hP hD hS hl

/-- a field that a method links: the place of its kind, its slot, the words -/
def FL (Ts : List Cond) (own : String) (index ci k : Nat) : Prop := ∃ (C : String) (T : u_T) (N : Nat), vwCl[ci]? = some (C, T, N) ∧ k < N ∧ (∀ w ∈ u_ws C T N, w ∈ Ts) ∧ Cond.fieldLink own index (T k).1 (T k).2.1 (T k).2.2.1 ∈ Ts

set_option maxHeartbeats 1000000 in
theorem u_get (h : CX G X cc own Ts) {index ci k a : Nat} (hf : FL Ts own index ci k) (q0 : Nat) {fs : List Value} {v : Value} (he : ws[q0]? = some (a, .inr (ci, fs))) (hv : fs[k]? = some v) (hdg : decode cc pc = .ok (.getfield index, 3)) (hpc : pc + 3 = pc') (kk : U G X cells slots ws pc' lv (v :: st)) : U G X cells slots ws pc lv (.ref a :: st) := by
  obtain ⟨p, e, R, s, m, args, below, meth, c, A, nL, Q⟩ := X
  obtain ⟨⟨hx, hb, hml, hown, hts⟩, hE, hA, hlk⟩ := h
  subst hpc
  intro H locs ls hP hD hS hl
  obtain ⟨C, T, N, f1, f2, f3, f4⟩ := hf
  exact va_get hx hb hts f3 hown hE.1 hP q0 he f1 k f2 (hts _ f4) (fun _ h9 => h9) hv hdg (kk H locs ls hP hD hS hl)

/-- a field that a method writes: as FL, with its type -/
def FW (Ts : List Cond) (own : String) (index ci k : Nat) (fin : Bool) (ty : FieldType) : Prop := ∃ (C : String) (T : u_T) (N : Nat) (ty0 : Nat → FieldType), vwCl[ci]? = some (C, T, N) ∧ k < N ∧ (∀ w ∈ u_ws C T N, w ∈ Ts) ∧ Cond.fieldLink own index (T k).1 (T k).2.1 (T k).2.2.1 ∈ Ts ∧ (∀ k, k < N → parseFieldDescriptor (T k).2.2.1 = some (ty0 k)) ∧ (∀ a, a < N → ∀ b, b < N → a ≠ b → (T a).2.1 ≠ (T b).2.1) ∧ (T k).2.2.2 = fin ∧ parseFieldDescriptor (T k).2.2.1 = some ty ∧ (T k).1 = own

set_option maxHeartbeats 1000000 in
theorem u_put (h : CX G X cc own Ts) {index ci k a : Nat} {ty : FieldType} (hf : FW Ts own index ci k false ty) (q0 : Nat) {fs : List Value} {v : Value} {ws' : va_W} (he : ws[q0]? = some (a, .inr (ci, fs))) (hk : k < fs.length) (hn : narrow ty v = v) (hfit : fits ty v = true) (hw : ws.set q0 (a, .inr (ci, fs.set k v)) = ws') (hdg : decode cc pc = .ok (.putfield index, 3)) (hpc : pc + 3 = pc') (kk : U G X cells slots ws' pc' lv st) : U G X cells slots ws pc lv (v :: .ref a :: st) := by
  obtain ⟨p, e, R, s, m, args, below, meth, c, A, nL, Q⟩ := X
  obtain ⟨⟨hx, hb, hml, hown, hts⟩, hE, hA, hlk⟩ := h
  subst hpc
  intro H locs ls hP hD hS hl
  subst hw
  obtain ⟨C, T, N, ty0, f1, f2, f3, f4, f5, f6, f7, f8, f9⟩ := hf
  exact va_put hx hb hts f3 ty0 f5 f6 hown hE.1 hP hD hS q0 he f1 k f2 (hts _ f4) (fun _ h9 => h9) f7 f8 hn hfit hk hdg (fun H locs hP hD hS => kk H locs ls hP hD hS hl)

set_option maxHeartbeats 1000000 in
theorem u_putF (h : CX G X cc own Ts) {y : MethodName} {ret : Option FieldType} {wc : va_W} {post : Option Value → va_W → Prop} {mc ms : Nat} (hR : RT G X y ret wc post mc ms) (hy : y.name = "<init>") {index ci k a : Nat} {ty : FieldType} (hf : FW Ts own index ci k true ty) (q0 : Nat) {fs : List Value} {v : Value} {ws' : va_W} (he : ws[q0]? = some (a, .inr (ci, fs))) (hk : k < fs.length) (hn : narrow ty v = v) (hfit : fits ty v = true) (hw : ws.set q0 (a, .inr (ci, fs.set k v)) = ws') (hdg : decode cc pc = .ok (.putfield index, 3)) (hpc : pc + 3 = pc') (kk : U G X cells slots ws' pc' lv st) : U G X cells slots ws pc lv (v :: .ref a :: st) := by
  obtain ⟨p, e, R, s, m, args, below, meth, c, A, nL, Q⟩ := X
  obtain ⟨⟨hx, hb, hml, hown, hts⟩, hE, hA, hlk⟩ := h
  subst hpc
  intro H locs ls hP hD hS hl
  subst hw
  obtain ⟨C, T, N, ty0, f1, f2, f3, f4, f5, f6, f7, f8, f9⟩ := hf
  exact va_putF hx hb hts f3 ty0 f5 f6 hown hE.1 hP hD hS q0 he f1 k f2 (hts _ f4) (fun _ h9 => h9) f7 (hR.2.1.trans hy) f9 f8 hn hfit hk hdg (fun H locs hP hD hS => kk H locs ls hP hD hS hl)

set_option maxHeartbeats 1000000 in
theorem u_getN_lock (h : CX G X cc "NudgeLocks" Ts) (hin : ∀ w ∈ u_ws RX3 TX3 5, w ∈ Ts) {a : Nat} (q0 : Nat) {fs : List Value} {v : Value} (he : ws[q0]? = some (a, .inr (3, fs))) (hv : fs[0]? = some v) (hdg : decode cc pc = .ok (.getfield 62, 3)) (hpc : pc + 3 = pc') (kk : U G X cells slots ws pc' lv (v :: st)) : U G X cells slots ws pc lv (.ref a :: st) := by
  obtain ⟨p, e, R, s, m, args, below, meth, c, A, nL, Q⟩ := X
  obtain ⟨⟨hx, hb, hml, hown, hts⟩, hE, hA, hlk⟩ := h
  subst hpc
  intro H locs ls hP hD hS hl
  exact va_getN (C := RX3) (T := TX3) (N := 5) (host := "NudgeLocks") (ref := "NudgeLocks$State") hx hb hts hin hown hE.1 hP q0 he rfl 0 (by decide) (va_Nw.use rfl hE.2.1.1) (fun _ h9 => h9) hv hdg (kk H locs ls hP hD hS hl)

set_option maxHeartbeats 1000000 in
theorem u_getN_x (h : CX G X cc "NudgeLocks" Ts) (hin : ∀ w ∈ u_ws RX3 TX3 5, w ∈ Ts) {a : Nat} (q0 : Nat) {fs : List Value} {v : Value} (he : ws[q0]? = some (a, .inr (3, fs))) (hv : fs[4]? = some v) (hdg : decode cc pc = .ok (.getfield 98, 3)) (hpc : pc + 3 = pc') (kk : U G X cells slots ws pc' lv (v :: st)) : U G X cells slots ws pc lv (.ref a :: st) := by
  obtain ⟨p, e, R, s, m, args, below, meth, c, A, nL, Q⟩ := X
  obtain ⟨⟨hx, hb, hml, hown, hts⟩, hE, hA, hlk⟩ := h
  subst hpc
  intro H locs ls hP hD hS hl
  exact va_getN (C := RX3) (T := TX3) (N := 5) (host := "NudgeLocks") (ref := "NudgeLocks$State") hx hb hts hin hown hE.1 hP q0 he rfl 4 (by decide) (va_Nw.use rfl hE.2.1.2.1) (fun _ h9 => h9) hv hdg (kk H locs ls hP hD hS hl)

set_option maxHeartbeats 1000000 in
theorem u_putN_x (h : CX G X cc "NudgeLocks" Ts) (hin : ∀ w ∈ u_ws RX3 TX3 5, w ∈ Ts) {a : Nat} (q0 : Nat) {fs : List Value} {v : Int32} {ws' : va_W} (he : ws[q0]? = some (a, .inr (3, fs))) (hk : 4 < fs.length) (hw : ws.set q0 (a, .inr (3, fs.set 4 (.int v))) = ws') (hdg : decode cc pc = .ok (.putfield 98, 3)) (hpc : pc + 3 = pc') (kk : U G X cells slots ws' pc' lv st) : U G X cells slots ws pc lv (.int v :: .ref a :: st) := by
  obtain ⟨p, e, R, s, m, args, below, meth, c, A, nL, Q⟩ := X
  obtain ⟨⟨hx, hb, hml, hown, hts⟩, hE, hA, hlk⟩ := h
  subst hpc
  intro H locs ls hP hD hS hl
  subst hw
  exact va_putN (C := RX3) (T := TX3) (N := 5) (host := "NudgeLocks") (ref := "NudgeLocks$State") (ty := .int) hx hb hts hin tyX3 tyX3_ok nmX3 hown hE.1 hP hD hS q0 he rfl 4 (by decide) (va_Nw.use rfl hE.2.1.2.1) (fun _ h9 => h9) rfl (by decide +kernel) rfl rfl hk hdg (fun H locs hP hD hS => kk H locs ls hP hD hS hl)

set_option maxHeartbeats 1000000 in
theorem u_iald (h : CX G X cc own Ts) {a : Nat} {n len : Nat} {f : Nat → Int32} (q0 : Nat) (he : ws[q0]? = some (a, aI G len f)) (hin : n < len) (hlen : len < 2 ^ 31) (hdg : decode cc pc = .ok (.iaload, 1)) (hpc : pc + 1 = pc') (kk : U G X cells slots ws pc' lv (.int (f n) :: st)) : U G X cells slots ws pc lv (.int (nI n) :: .ref a :: st) := by
  obtain ⟨p, e, R, s, m, args, below, meth, c, A, nL, Q⟩ := X
  obtain ⟨⟨hx, hb, hml, hown, hts⟩, hE, hA, hlk⟩ := h
  subst hpc
  intro H locs ls hP hD hS hl
  exact va_iald hx hb hE.1 hP q0 0 he rfl (vp_in_nI hin hlen) hdg (by rw [nI_clamp (Nat.lt_trans hin hlen)]; exact kk H locs ls hP hD hS hl)

set_option maxHeartbeats 1000000 in
theorem u_bald (h : CX G X cc own Ts) {a : Nat} {n len : Nat} {f : Nat → Int32} (q0 : Nat) (he : ws[q0]? = some (a, aB G len f)) (hin : n < len) (hlen : len < 2 ^ 31) (hdg : decode cc pc = .ok (.baload, 1)) (hpc : pc + 1 = pc') (kk : U G X cells slots ws pc' lv (.int (f n) :: st)) : U G X cells slots ws pc lv (.int (nI n) :: .ref a :: st) := by
  obtain ⟨p, e, R, s, m, args, below, meth, c, A, nL, Q⟩ := X
  obtain ⟨⟨hx, hb, hml, hown, hts⟩, hE, hA, hlk⟩ := h
  subst hpc
  intro H locs ls hP hD hS hl
  exact va_bald hx hb hE.1 hP q0 1 he rfl (vp_in_nI hin hlen) hdg (by rw [nI_clamp (Nat.lt_trans hin hlen)]; exact kk H locs ls hP hD hS hl)

set_option maxHeartbeats 1000000 in
theorem u_cald (h : CX G X cc own Ts) {a : Nat} {n len : Nat} {f : Nat → Int32} (q0 : Nat) (he : ws[q0]? = some (a, aC G len f)) (hin : n < len) (hlen : len < 2 ^ 31) (hdg : decode cc pc = .ok (.caload, 1)) (hpc : pc + 1 = pc') (kk : U G X cells slots ws pc' lv (.int (f n) :: st)) : U G X cells slots ws pc lv (.int (nI n) :: .ref a :: st) := by
  obtain ⟨p, e, R, s, m, args, below, meth, c, A, nL, Q⟩ := X
  obtain ⟨⟨hx, hb, hml, hown, hts⟩, hE, hA, hlk⟩ := h
  subst hpc
  intro H locs ls hP hD hS hl
  exact va_cald hx hb hE.1 hP q0 2 he rfl (vp_in_nI hin hlen) hdg (by rw [nI_clamp (Nat.lt_trans hin hlen)]; exact kk H locs ls hP hD hS hl)

set_option maxHeartbeats 1000000 in
theorem u_iast (h : CX G X cc own Ts) {a : Nat} {n len : Nat} {f : Nat → Int32} {x v : Int32} {ws' : va_W} (q0 : Nat) (he : ws[q0]? = some (a, aI G len f)) (hin : n < len) (hlen : len < 2 ^ 31) (hv : x = v) (hw : ws.set q0 (a, aI G len (upd f n v)) = ws') (hdg : decode cc pc = .ok (.iastore, 1)) (hpc : pc + 1 = pc') (kk : U G X cells slots ws' pc' lv st) : U G X cells slots ws pc lv (.int x :: .int (nI n) :: .ref a :: st) := by
  obtain ⟨p, e, R, s, m, args, below, meth, c, A, nL, Q⟩ := X
  obtain ⟨⟨hx, hb, hml, hown, hts⟩, hE, hA, hlk⟩ := h
  subst hpc
  intro H locs ls hP hD hS hl
  subst hw
  subst hv
  refine va_iast hx hb hE.1 hP hD hS q0 0 he rfl (vp_in_nI hin hlen) hdg (fun H locs hP hD hS => ?_)
  rw [nI_clamp (Nat.lt_trans hin hlen)] at hP hD
  exact kk H locs ls hP hD hS hl

set_option maxHeartbeats 1000000 in
theorem u_bast (h : CX G X cc own Ts) {a : Nat} {n len : Nat} {f : Nat → Int32} {x v : Int32} {ws' : va_W} (q0 : Nat) (he : ws[q0]? = some (a, aB G len f)) (hin : n < len) (hlen : len < 2 ^ 31) (hv : vp_nar .byte x = v) (hw : ws.set q0 (a, aB G len (upd f n v)) = ws') (hdg : decode cc pc = .ok (.bastore, 1)) (hpc : pc + 1 = pc') (kk : U G X cells slots ws' pc' lv st) : U G X cells slots ws pc lv (.int x :: .int (nI n) :: .ref a :: st) := by
  obtain ⟨p, e, R, s, m, args, below, meth, c, A, nL, Q⟩ := X
  obtain ⟨⟨hx, hb, hml, hown, hts⟩, hE, hA, hlk⟩ := h
  subst hpc
  intro H locs ls hP hD hS hl
  subst hw
  subst hv
  refine va_bast hx hb hE.1 hP hD hS q0 1 he rfl (vp_in_nI hin hlen) hdg (fun H locs hP hD hS => ?_)
  rw [nI_clamp (Nat.lt_trans hin hlen)] at hP hD
  exact kk H locs ls hP hD hS hl

set_option maxHeartbeats 1000000 in
theorem u_cast (h : CX G X cc own Ts) {a : Nat} {n len : Nat} {f : Nat → Int32} {x v : Int32} {ws' : va_W} (q0 : Nat) (he : ws[q0]? = some (a, aC G len f)) (hin : n < len) (hlen : len < 2 ^ 31) (hv : vp_nar .char x = v) (hw : ws.set q0 (a, aC G len (upd f n v)) = ws') (hdg : decode cc pc = .ok (.castore, 1)) (hpc : pc + 1 = pc') (kk : U G X cells slots ws' pc' lv st) : U G X cells slots ws pc lv (.int x :: .int (nI n) :: .ref a :: st) := by
  obtain ⟨p, e, R, s, m, args, below, meth, c, A, nL, Q⟩ := X
  obtain ⟨⟨hx, hb, hml, hown, hts⟩, hE, hA, hlk⟩ := h
  subst hpc
  intro H locs ls hP hD hS hl
  subst hw
  subst hv
  refine va_cast hx hb hE.1 hP hD hS q0 2 he rfl (vp_in_nI hin hlen) hdg (fun H locs hP hD hS => ?_)
  rw [nI_clamp (Nat.lt_trans hin hlen)] at hP hD
  exact kk H locs ls hP hD hS hl

set_option maxHeartbeats 1000000 in
theorem u_lald (h : CX G X cc own Ts) {a : Nat} {n len : Nat} {f : Nat → Option Nat} {v : Value} (q0 : Nat) (he : ws[q0]? = some (a, aL G len f)) (hin : n < len) (hlen : len < 2 ^ 31) (hv : va_rf (f n) = v) (hdg : decode cc pc = .ok (.aaload, 1)) (hpc : pc + 1 = pc') (kk : U G X cells slots ws pc' lv (v :: st)) : U G X cells slots ws pc lv (.int (nI n) :: .ref a :: st) := by
  obtain ⟨p, e, R, s, m, args, below, meth, c, A, nL, Q⟩ := X
  obtain ⟨⟨hx, hb, hml, hown, hts⟩, hE, hA, hlk⟩ := h
  subst hpc
  intro H locs ls hP hD hS hl
  exact va_aldq hx hb hE.1 hP q0 3 he rfl (vp_in_nI hin hlen) hdg (by rw [nI_clamp (Nat.lt_trans hin hlen), hv]; exact kk H locs ls hP hD hS hl)

set_option maxHeartbeats 1000000 in
theorem u_sald (h : CX G X cc own Ts) {a : Nat} {n len : Nat} {f : Nat → Option Nat} {v : Value} (q0 : Nat) (he : ws[q0]? = some (a, aS G len f)) (hin : n < len) (hlen : len < 2 ^ 31) (hv : va_rf (f n) = v) (hdg : decode cc pc = .ok (.aaload, 1)) (hpc : pc + 1 = pc') (kk : U G X cells slots ws pc' lv (v :: st)) : U G X cells slots ws pc lv (.int (nI n) :: .ref a :: st) := by
  obtain ⟨p, e, R, s, m, args, below, meth, c, A, nL, Q⟩ := X
  obtain ⟨⟨hx, hb, hml, hown, hts⟩, hE, hA, hlk⟩ := h
  subst hpc
  intro H locs ls hP hD hS hl
  exact va_aldq hx hb hE.1 hP q0 4 he rfl (vp_in_nI hin hlen) hdg (by rw [nI_clamp (Nat.lt_trans hin hlen), hv]; exact kk H locs ls hP hD hS hl)

set_option maxHeartbeats 1000000 in
theorem u_last (h : CX G X cc own Ts) {a : Nat} {n len v : Nat} {f : Nat → Option Nat} {vs : List Value} {ws' : va_W} (q0 qk : Nat) (he : ws[q0]? = some (a, aL G len f)) (hv : ws[qk]? = some (v, .inr (1, vs))) (hin : n < len) (hlen : len < 2 ^ 31) (hw : ws.set q0 (a, aL G len (va_up f n (some v))) = ws') (hdg : decode cc pc = .ok (.aastore, 1)) (hpc : pc + 1 = pc') (kk : U G X cells slots ws' pc' lv st) : U G X cells slots ws pc lv (.ref v :: .int (nI n) :: .ref a :: st) := by
  obtain ⟨p, e, R, s, m, args, below, meth, c, A, nL, Q⟩ := X
  obtain ⟨⟨hx, hb, hml, hown, hts⟩, hE, hA, hlk⟩ := h
  subst hpc
  intro H locs ls hP hD hS hl
  subst hw
  refine va_astq hx hb hE.1 hP hD hS q0 3 qk 1 he rfl hv rfl (vp_in_nI hin hlen) hdg (fun H locs hP hD hS => ?_)
  rw [nI_clamp (Nat.lt_trans hin hlen)] at hP hD
  exact kk H locs ls hP hD hS hl

set_option maxHeartbeats 1000000 in
theorem u_sast (h : CX G X cc own Ts) {a : Nat} {n len v : Nat} {f : Nat → Option Nat} {vs : List Value} {ws' : va_W} (q0 qk : Nat) (he : ws[q0]? = some (a, aS G len f)) (hv : ws[qk]? = some (v, .inr (3, vs))) (hin : n < len) (hlen : len < 2 ^ 31) (hw : ws.set q0 (a, aS G len (va_up f n (some v))) = ws') (hdg : decode cc pc = .ok (.aastore, 1)) (hpc : pc + 1 = pc') (kk : U G X cells slots ws' pc' lv st) : U G X cells slots ws pc lv (.ref v :: .int (nI n) :: .ref a :: st) := by
  obtain ⟨p, e, R, s, m, args, below, meth, c, A, nL, Q⟩ := X
  obtain ⟨⟨hx, hb, hml, hown, hts⟩, hE, hA, hlk⟩ := h
  subst hpc
  intro H locs ls hP hD hS hl
  subst hw
  refine va_astq hx hb hE.1 hP hD hS q0 4 qk 3 he rfl hv rfl (vp_in_nI hin hlen) hdg (fun H locs hP hD hS => ?_)
  rw [nI_clamp (Nat.lt_trans hin hlen)] at hP hD
  exact kk H locs ls hP hD hS hl

set_option maxHeartbeats 1000000 in
theorem u_alenI (h : CX G X cc own Ts) {a : Nat} {n len : Nat} {f : Nat → Int32} (q0 : Nat) (he : ws[q0]? = some (a, aI G len f)) (hdg : decode cc pc = .ok (.arraylength, 1)) (hpc : pc + 1 = pc') (kk : U G X cells slots ws pc' lv (.int (nI len) :: st)) : U G X cells slots ws pc lv (.ref a :: st) := by
  obtain ⟨p, e, R, s, m, args, below, meth, c, A, nL, Q⟩ := X
  obtain ⟨⟨hx, hb, hml, hown, hts⟩, hE, hA, hlk⟩ := h
  subst hpc
  intro H locs ls hP hD hS hl
  exact va_alen hx hb hE.1 hP q0 0 he rfl rfl hdg (kk H locs ls hP hD hS hl)

set_option maxHeartbeats 1000000 in
theorem u_alenC (h : CX G X cc own Ts) {a : Nat} {n len : Nat} {f : Nat → Int32} (q0 : Nat) (he : ws[q0]? = some (a, aC G len f)) (hdg : decode cc pc = .ok (.arraylength, 1)) (hpc : pc + 1 = pc') (kk : U G X cells slots ws pc' lv (.int (nI len) :: st)) : U G X cells slots ws pc lv (.ref a :: st) := by
  obtain ⟨p, e, R, s, m, args, below, meth, c, A, nL, Q⟩ := X
  obtain ⟨⟨hx, hb, hml, hown, hts⟩, hE, hA, hlk⟩ := h
  subst hpc
  intro H locs ls hP hD hS hl
  exact va_alen hx hb hE.1 hP q0 2 he rfl rfl hdg (kk H locs ls hP hD hS hl)

set_option maxHeartbeats 1000000 in
theorem u_far (h : CX G X cc own Ts) (hw : Cond.fieldLink own 37 "NudgeLocks$Lock" "FAR_TOUCHES" "[I" ∈ Ts) (hdg : decode cc pc = .ok (.getstatic 37, 3)) (hpc : pc + 3 = pc') (kk : U G X cells slots ws pc' lv (.ref G.2.2.2 :: st)) : U G X cells slots ws pc lv st := by
  obtain ⟨p, e, R, s, m, args, below, meth, c, A, nL, Q⟩ := X
  obtain ⟨⟨hx, hb, hml, hown, hts⟩, hE, hA, hlk⟩ := h
  subst hpc
  intro H locs ls hP hD hS hl
  exact va_gets hx hb hE.2.2.1 hS hown (hts _ hw) (fun _ h9 => h9) hdg (kk H locs ls hP hD hS hl)

set_option maxHeartbeats 1000000 in
theorem u_farlen (h : CX G X cc own Ts) (hdg : decode cc pc = .ok (.arraylength, 1)) (hpc : pc + 1 = pc') (kk : U G X cells slots ws pc' lv (.int 32 :: st)) : U G X cells slots ws pc lv (.ref G.2.2.2 :: st) := by
  obtain ⟨p, e, R, s, m, args, below, meth, c, A, nL, Q⟩ := X
  obtain ⟨⟨hx, hb, hml, hown, hts⟩, hE, hA, hlk⟩ := h
  subst hpc
  intro H locs ls hP hD hS hl
  exact va_tlen hx hb hE.2.2.2 hS rfl hdg (kk H locs ls hP hD hS hl)

set_option maxHeartbeats 1000000 in
theorem u_farld (h : CX G X cc own Ts) {n : Nat} (hin : n < 32) (hdg : decode cc pc = .ok (.iaload, 1)) (hpc : pc + 1 = pc') (kk : U G X cells slots ws pc' lv (.int (farT n) :: st)) : U G X cells slots ws pc lv (.int (nI n) :: .ref G.2.2.2 :: st) := by
  obtain ⟨p, e, R, s, m, args, below, meth, c, A, nL, Q⟩ := X
  obtain ⟨⟨hx, hb, hml, hown, hts⟩, hE, hA, hlk⟩ := h
  subst hpc
  intro H locs ls hP hD hS hl
  exact va_ti hx hb hE.2.2.2 hS (vp_in_nI hin (by decide)) (by rw [nI_clamp (by omega)]) hdg (kk H locs ls hP hD hS hl)

set_option maxHeartbeats 1000000 in
theorem u_iret (h : CX G X cc own Ts) {y : MethodName} {wc : va_W} {post : Option Value → va_W → Prop} {mc ms : Nat} {x : Int32} (hR : RT G X y (some .int) wc post mc ms) (hdg : decode cc pc = .ok (.ireturn, 1)) (h1 : cells ≤ mc) (h2 : slots ≤ ms) (hq : post (some (.int x)) ws) : U G X cells slots ws pc lv [.int x] := by
  obtain ⟨p, e, R, s, m, args, below, meth, c, A, nL, Q⟩ := X
  obtain ⟨⟨hx, hb, hml, hown, hts⟩, hE, hA, hlk⟩ := h
  intro H locs ls hP hD hS hl
  obtain ⟨r1, r2, r3, r4⟩ := hR
  subst r4
  refine W.widen h1 h2 ?_
  exact W.iret hx hb r1 (fun t ht hW => ⟨⟨_, ws, rfl, hq, by rw [ht]; exact hP, by rw [← r3]; exact hD⟩, by rw [← r3]; exact hS.F ht⟩) hS.2.2 hdg hlk

set_option maxHeartbeats 1000000 in
theorem u_vret (h : CX G X cc own Ts) {y : MethodName} {wc : va_W} {post : Option Value → va_W → Prop} {mc ms : Nat} (hR : RT G X y none wc post mc ms) (hdg : decode cc pc = .ok (.return_, 1)) (h1 : cells ≤ mc) (h2 : slots ≤ ms) (hq : post none ws) : U G X cells slots ws pc lv [] := by
  obtain ⟨p, e, R, s, m, args, below, meth, c, A, nL, Q⟩ := X
  obtain ⟨⟨hx, hb, hml, hown, hts⟩, hE, hA, hlk⟩ := h
  intro H locs ls hP hD hS hl
  obtain ⟨r1, r2, r3, r4⟩ := hR
  subst r4
  refine W.widen h1 h2 ?_
  exact W.vret hx hb r1 (fun t ht hW => ⟨⟨_, ws, rfl, hq, by rw [ht]; exact hP, by rw [← r3]; exact hD⟩, by rw [← r3]; exact hS.F ht⟩) hS.2.2 hdg hlk

set_option maxHeartbeats 1000000 in
theorem u_zret (h : CX G X cc own Ts) {y : MethodName} {wc : va_W} {post : Option Value → va_W → Prop} {mc ms : Nat} {x : Int32} (hR : RT G X y (some .boolean) wc post mc ms) (hdg : decode cc pc = .ok (.ireturn, 1)) (hn : narrow .boolean (.int x) = .int x) (h1 : cells ≤ mc) (h2 : slots ≤ ms) (hq : post (some (.int x)) ws) : U G X cells slots ws pc lv [.int x] := by
  obtain ⟨p, e, R, s, m, args, below, meth, c, A, nL, Q⟩ := X
  obtain ⟨⟨hx, hb, hml, hown, hts⟩, hE, hA, hlk⟩ := h
  intro H locs ls hP hD hS hl
  obtain ⟨r1, r2, r3, r4⟩ := hR
  subst r4
  refine W.widen h1 h2 ?_
  exact W.zret hx hb r1 hn (fun t ht hW => ⟨⟨_, ws, rfl, hq, by rw [ht]; exact hP, by rw [← r3]; exact hD⟩, by rw [← r3]; exact hS.F ht⟩) hS.2.2 hdg hlk

set_option maxHeartbeats 1000000 in
theorem u_obj (h : CX G X cc own Ts) {a idx : Nat} (h1 : Cond.methodLink own idx objectInit ∈ Ts) (h2 : Cond.instanceMethod objectInit ∈ Ts) (h3 : Cond.code objectInit ⟨#[0xb1]⟩ 1 none ∈ Ts) (hdg : decode cc pc = .ok (.invokespecial idx, 3)) (hfr : 1 ≤ (gR X).frames) (hlo : (st.map fun v => v.category).sum + 12 ≤ (gR X).locals) (hpc : pc + 3 = pc') (kk : U G X cells slots ws pc' lv st) : U G X cells slots ws pc lv (.ref a :: st) := by
  obtain ⟨p, e, R, s, m, args, below, meth, c, A, nL, Q⟩ := X
  obtain ⟨⟨hx, hb, hml, hown, hts⟩, hE, hA, hlk⟩ := h
  subst hpc
  intro H locs ls hP hD hS hl
  exact W.objInit hx hb hown (hts _ h1) (hts _ h2) (hts _ h3) rfl (by rw [hml]; exact hl.1) rfl hdg hfr (by show 2 * 0 + _ + 12 ≤ _; rw [Nat.mul_zero, Nat.zero_add]; exact hlo) (W.eq (g2 := F0 m (pc + 3) ls st) rfl (kk H locs ls hP hD hS hl))

theorem u_after {p : Program} {e : Env} {R : Room} {s : State} {m : MethodId} {args : Array Value} {below : List Frame} {meth : Method} {c : Code} {H : Heap} {locs : List Loc} {Q : State → Prop} {A : Nat → Prop} {mc ms : Nat} {wc : va_W} {post : Option Value → va_W → Prop} {ls : Array Slot} {rest st0 : List Value} {a : Array Value}
    (hr : va_Run p G.1 e R s m args below meth c H locs cells slots mc ms (F0 m pc ls st0) rest (Qm G wc H.size post a) (va_A wc H.size)) (hS : va_S A s.heap H locs) (hF : ∀ q, va_A wc H.size q → A q)
    (kk : ∀ (v : Option Value) (u : va_W) (H1 : Heap) (locs1 : List Loc), post v u → va_P G.2.1 vwCl u H1 → va_D (va_A wc H.size) u → (∀ q : Nat, q < H.size → ¬ va_A wc H.size q → H1[q]? = H[q]?) → va_S A s.heap H1 locs1 → W p G.1 e R s m args below meth c H1 locs1 (cells + mc) (slots + ms) Q (F0 m (pc + 3) ls (v.toList ++ rest))) : W p G.1 e R s m args below meth c H locs cells slots Q (F0 m pc ls st0) := by
  intro T hT X
  obtain ⟨v, st₀, t, T', L, h0, X', hL, e1, e2, ⟨⟨v', u, hv, hp, hbP, hbD⟩, hz, hk⟩, stp⟩ := hr T hT X
  cases hv
  rw [h0] at hz hk
  obtain ⟨t2, a1, b1⟩ := kk v u T'.heap (locs ++ L) hp (by rw [e1]; exact hbP) hbD (fun q h1 h2 => by rw [e1]; exact hk q h1 h2)
    ⟨Nat.le_trans hS.1 (by rw [e1]; exact hz), fun q h1 h2 => by rw [e1, hk q (Nat.lt_of_lt_of_le h1 hS.1) (fun z => h2 (hF q z))]; exact hS.2.1 q h1 h2, fun q hq => by
      rcases List.mem_append.mp hq with h | h
      · exact hS.2.2 q h
      · exact hF _ (hL q h)⟩ T' rfl X'
  exact ⟨t2, stp t2 a1, b1⟩
/-- what a caller needs of a callee's words: place, descriptor; rooms of caller and callee -/
def CWd (Ts : List Cond) (wsx : List Cond) (y : MethodName) (wsy : List Cond) (bytes : ByteArray) (maxL : Nat) (ret : Option FieldType) (n : Nat) : Prop := GoodIn Ts wsx ∧ (∃ ws', wsy = Cond.code y bytes maxL ret :: ws') ∧ (parseMethodDescriptor y.desc).map (fun d => d.parameters.length) = some n ∧ y.cls ≠ "java/lang/invoke/MethodHandle" ∧ y.cls ≠ "java/lang/invoke/VarHandle"
def fitR (rm R : Room) (maxL mc ms : Nat) : Prop := (rm.cells = mc ∧ rm.slots = ms) ∧ rm.frames + 1 ≤ R.frames ∧ 8 + (maxL + 11) + rm.locals ≤ R.locals

set_option maxHeartbeats 1000000 in
theorem u_callV (h : CX G X cc own Ts) {y : MethodName} {wsy : List Cond} {rm R0 : Room} {As : List Value} {b : Nat} {wc wr : va_W} {post : Option Value → va_W → Prop} {mc ms index n maxL ci qr : Nat} {C : String} {bytes : ByteArray} {ret : Option FieldType} {T : u_T} {N : Nat} {fs : List Value} (hM : MC G y wsy rm (.ref b :: As) wc post mc ms) (hcw : CWd Ts (wsV own index C y wsy) y wsy bytes maxL ret n) (hyC : y.cls = C) (hn : As.length = n) (hR0 : gR X = R0) (hfit : fitR rm R0 maxL mc ms) (hf : cells + mc ≤ R0.cells ∧ slots + ms ≤ R0.slots) (hci : vwCl[ci]? = some (C, T, N)) (hqr : ws[qr]? = some (b, .inr (ci, fs))) (isC isR : List Nat) (hC : isC.map (fun i => ws[i]?) = wc.map some) (hnC : va_nd isC = true) (hR2 : isR.map (fun i => ws[i]?) = wr.map some) (hnR : va_nd isR = true) (hdis : ∀ i ∈ isR, i ∉ isC) (hroom : (st.map fun v => v.category).sum ≤ 8) (hst : st0 = As.reverse ++ .ref b :: st) (hdg : decode cc pc = .ok (.invokevirtual index, 3)) (hpc : pc + 3 = pc') (kk : ∀ (v : Option Value) (u : va_W), post v u → U G X (cells + mc) (slots + ms) (wr ++ u) pc' lv (v.toList ++ st)) : U G X cells slots ws pc lv st0 := by
  obtain ⟨p, e, R, s, m, args, below, meth, c, A, nL, Q⟩ := X
  obtain ⟨⟨hx, hb, hml, hown, hts⟩, hE, hA, hlk⟩ := h
  subst hpc
  intro H locs ls hP hD hS hl
  subst hst
  have hR0 : R = R0 := hR0
  subst hR0
  obtain ⟨c1, ⟨ws', c2⟩, c3, c4, c5⟩ := hcw
  have hst0 : U G (p, e, R, s, m, args, below, meth, c, A, nL, Q) cells slots ws pc lv st → True := fun _ => trivial
  have hFc := va_free (wc := wc) hD hS hA isC hC
  have hPc := hP.sub (ws' := wc) isC (by
    have h1 : isC.filterMap (fun i => ws[i]?) = ((isC.map (fun i => ws[i]?)).filterMap id) := by rw [List.filterMap_map]; rfl
    rw [h1, hC, List.filterMap_map]
    simp)
  have hDc : va_D (fun _ => True) wc := (hD.sub isC hnC hC).weaken (fun _ _ _ _ => trivial)
  refine u_after (va_runV (As := As) (rest := st) ⟨hx, hb, hml, hown, hts⟩ (hM H.size) (cwV n hts c1 c2 hfit.1.1 hfit.1.2 ⟨hyC, c4, c5, c3⟩ hfit.2) ⟨Pm.blind, va_recv hE.1 hP hci hqr, fun U hU hW => ⟨rfl, by rw [hU], by rw [hU]; exact hPc, hDc, Env1.moved hE hS hW hU hFc⟩⟩ rfl hn hl.1 rfl (lv_room hroom) hdg hf) hS hFc (fun v u H1 locs1 hp hP1 hD1 hk1 hS1 => ?_)
  obtain ⟨hP2, hD2⟩ := va_join (wr := wr) (w1 := u) hP hD isC isR hC hR2 hnR hdis hk1 hFc hP1 hD1
  exact kk v u hp H1 locs1 ls hP2 hD2 hS1 hl

set_option maxHeartbeats 1000000 in
theorem u_callI (h : CX G X cc own Ts) {y : MethodName} {wsy : List Cond} {rm R0 : Room} {As : List Value} {b : Nat} {wc wr : va_W} {post : Option Value → va_W → Prop} {mc ms index n maxL : Nat} {bytes : ByteArray} (hM : MC G y wsy rm (.ref b :: As) wc post mc ms) (hcw : CWd Ts wsy y wsy bytes maxL none n) (hy : y.name = "<init>") (hini : Cond.initialized y.cls ∈ Ts) (hlink : Cond.methodLink own index y ∈ Ts) (hinst : Cond.instanceMethod y ∈ Ts) (hn : As.length = n) (hR0 : gR X = R0) (hfit : fitR rm R0 maxL mc ms) (hf : cells + mc ≤ R0.cells ∧ slots + ms ≤ R0.slots) (isC isR : List Nat) (hC : isC.map (fun i => ws[i]?) = wc.map some) (hnC : va_nd isC = true) (hR2 : isR.map (fun i => ws[i]?) = wr.map some) (hnR : va_nd isR = true) (hdis : ∀ i ∈ isR, i ∉ isC) (hroom : (st.map fun v => v.category).sum ≤ 8) (hst : st0 = As.reverse ++ .ref b :: st) (hdg : decode cc pc = .ok (.invokespecial index, 3)) (hpc : pc + 3 = pc') (kk : ∀ (v : Option Value) (u : va_W), post v u → U G X (cells + mc) (slots + ms) (wr ++ u) pc' lv (v.toList ++ st)) : U G X cells slots ws pc lv st0 := by
  obtain ⟨p, e, R, s, m, args, below, meth, c, A, nL, Q⟩ := X
  obtain ⟨⟨hx, hb, hml, hown, hts⟩, hE, hA, hlk⟩ := h
  subst hpc
  intro H locs ls hP hD hS hl
  subst hst
  have hR0 : R = R0 := hR0
  subst hR0
  obtain ⟨c1, ⟨ws', c2⟩, c3, c4, c5⟩ := hcw
  have hFc := va_free (wc := wc) hD hS hA isC hC
  have hPc := hP.sub (ws' := wc) isC (by
    have h1 : isC.filterMap (fun i => ws[i]?) = ((isC.map (fun i => ws[i]?)).filterMap id) := by rw [List.filterMap_map]; rfl
    rw [h1, hC, List.filterMap_map]
    simp)
  have hDc : va_D (fun _ => True) wc := (hD.sub isC hnC hC).weaken (fun _ _ _ _ => trivial)
  refine u_after (va_runI (As := As) (rest := st) ⟨hx, hb, hml, hown, hts⟩ (hM H.size) (cwI n hts c1 c2 hfit.1.1 hfit.1.2 (hts _ hini) (hts _ hlink) (hts _ hinst) hy ⟨c4, c5, c3⟩ hfit.2) ⟨Pm.blind, fun U hU hW => ⟨rfl, by rw [hU], by rw [hU]; exact hPc, hDc, Env1.moved hE hS hW hU hFc⟩⟩ rfl hn hl.1 rfl (lv_room hroom) hdg hf) hS hFc (fun v u H1 locs1 hp hP1 hD1 hk1 hS1 => ?_)
  obtain ⟨hP2, hD2⟩ := va_join (wr := wr) (w1 := u) hP hD isC isR hC hR2 hnR hdis hk1 hFc hP1 hD1
  exact kk v u hp H1 locs1 ls hP2 hD2 hS1 hl

set_option maxHeartbeats 1000000 in
theorem u_callS (h : CX G X cc own Ts) {y : MethodName} {wsy : List Cond} {rm R0 : Room} {As : List Value} {wc wr : va_W} {post : Option Value → va_W → Prop} {mc ms index n maxL : Nat} {bytes : ByteArray} {ret : Option FieldType} (hM : MC G y wsy rm As wc post mc ms) (hcw : CWd Ts (wsS own index y wsy) y wsy bytes maxL ret n) (hyC : y.cls = own) (hn : As.length = n) (hR0 : gR X = R0) (hfit : fitR rm R0 maxL mc ms) (hf : cells + mc ≤ R0.cells ∧ slots + ms ≤ R0.slots) (isC isR : List Nat) (hC : isC.map (fun i => ws[i]?) = wc.map some) (hnC : va_nd isC = true) (hR2 : isR.map (fun i => ws[i]?) = wr.map some) (hnR : va_nd isR = true) (hdis : ∀ i ∈ isR, i ∉ isC) (hroom : (st.map fun v => v.category).sum ≤ 8) (hst : st0 = As.reverse ++ st) (hdg : decode cc pc = .ok (.invokestatic index, 3)) (hpc : pc + 3 = pc') (kk : ∀ (v : Option Value) (u : va_W), post v u → U G X (cells + mc) (slots + ms) (wr ++ u) pc' lv (v.toList ++ st)) : U G X cells slots ws pc lv st0 := by
  obtain ⟨p, e, R, s, m, args, below, meth, c, A, nL, Q⟩ := X
  obtain ⟨⟨hx, hb, hml, hown, hts⟩, hE, hA, hlk⟩ := h
  subst hpc
  intro H locs ls hP hD hS hl
  subst hst
  have hR0 : R = R0 := hR0
  subst hR0
  obtain ⟨c1, ⟨ws', c2⟩, c3, c4, c5⟩ := hcw
  have hFc := va_free (wc := wc) hD hS hA isC hC
  have hPc := hP.sub (ws' := wc) isC (by
    have h1 : isC.filterMap (fun i => ws[i]?) = ((isC.map (fun i => ws[i]?)).filterMap id) := by rw [List.filterMap_map]; rfl
    rw [h1, hC, List.filterMap_map]
    simp)
  have hDc : va_D (fun _ => True) wc := (hD.sub isC hnC hC).weaken (fun _ _ _ _ => trivial)
  refine u_after (va_runS (As := As) (rest := st) ⟨hx, hb, hml, hown, hts⟩ (hM H.size) (cwS n hts c1 c2 hfit.1.1 hfit.1.2 ⟨hyC, c4, c5, c3⟩ hfit.2) ⟨Pm.blind, fun U hU hW => ⟨rfl, by rw [hU], by rw [hU]; exact hPc, hDc, Env1.moved hE hS hW hU hFc⟩⟩ rfl hn hl.1 rfl (lv_room hroom) hdg hf) hS hFc (fun v u H1 locs1 hp hP1 hD1 hk1 hS1 => ?_)
  obtain ⟨hP2, hD2⟩ := va_join (wr := wr) (w1 := u) hP hD isC isR hC hR2 hnR hdis hk1 hFc hP1 hD1
  exact kk v u hp H1 locs1 ls hP2 hD2 hS1 hl

set_option maxHeartbeats 1000000 in
theorem u_callN_isCard (h : CX G X cc "NudgeLocks$Lock" Ts) {wsy : List Cond} {rm R0 : Room} {As : List Value} {wc wr : va_W} {post : Option Value → va_W → Prop} {mc ms n maxL : Nat} {bytes : ByteArray} {ret : Option FieldType} (hM : MC G yX4_isCard wsy rm As wc post mc ms) (hcw : CWd Ts wsy yX4_isCard wsy bytes maxL ret n) (hini : Cond.initialized yX4_isCard.cls ∈ Ts) (hstt : Cond.static yX4_isCard ∈ Ts) (hn : As.length = n) (hR0 : gR X = R0) (hfit : fitR rm R0 maxL mc ms) (hf : cells + mc ≤ R0.cells ∧ slots + ms ≤ R0.slots) (isC isR : List Nat) (hC : isC.map (fun i => ws[i]?) = wc.map some) (hnC : va_nd isC = true) (hR2 : isR.map (fun i => ws[i]?) = wr.map some) (hnR : va_nd isR = true) (hdis : ∀ i ∈ isR, i ∉ isC) (hroom : (st.map fun v => v.category).sum ≤ 8) (hst : st0 = As.reverse ++ st) (hdg : decode cc pc = .ok (.invokestatic 29, 3)) (hpc : pc + 3 = pc') (kk : ∀ (v : Option Value) (u : va_W), post v u → U G X (cells + mc) (slots + ms) (wr ++ u) pc' lv (v.toList ++ st)) : U G X cells slots ws pc lv st0 := by
  obtain ⟨p, e, R, s, m, args, below, meth, c, A, nL, Q⟩ := X
  obtain ⟨⟨hx, hb, hml, hown, hts⟩, hE, hA, hlk⟩ := h
  subst hpc
  intro H locs ls hP hD hS hl
  subst hst
  have hR0 : R = R0 := hR0
  subst hR0
  obtain ⟨c1, ⟨ws', c2⟩, c3, c4, c5⟩ := hcw
  have hFc := va_free (wc := wc) hD hS hA isC hC
  have hPc := hP.sub (ws' := wc) isC (by
    have h1 : isC.filterMap (fun i => ws[i]?) = ((isC.map (fun i => ws[i]?)).filterMap id) := by rw [List.filterMap_map]; rfl
    rw [h1, hC, List.filterMap_map]
    simp)
  have hDc : va_D (fun _ => True) wc := (hD.sub isC hnC hC).weaken (fun _ _ _ _ => trivial)
  refine u_after (va_runSN (As := As) (rest := st) (host := "NudgeLocks") ⟨hx, hb, hml, hown, hts⟩ (hM H.size) ⟨va_cnB n hts c1 c2 hfit.1.1 hfit.1.2 hE.2.1.2.2.1 (hts _ hini) ⟨c4, c5, c3⟩ hfit.2, hts _ hstt, trivial⟩ ⟨Pm.blind, fun U hU hW => ⟨rfl, by rw [hU], by rw [hU]; exact hPc, hDc, Env1.moved hE hS hW hU hFc⟩⟩ rfl hn hl.1 rfl (lv_room hroom) hdg hf) hS hFc (fun v u H1 locs1 hp hP1 hD1 hk1 hS1 => ?_)
  obtain ⟨hP2, hD2⟩ := va_join (wr := wr) (w1 := u) hP hD isC isR hC hR2 hnR hdis hk1 hFc hP1 hD1
  exact kk v u hp H1 locs1 ls hP2 hD2 hS1 hl

set_option maxHeartbeats 1000000 in
theorem u_callN_isVisitor (h : CX G X cc "NudgeLocks$Lock" Ts) {wsy : List Cond} {rm R0 : Room} {As : List Value} {wc wr : va_W} {post : Option Value → va_W → Prop} {mc ms n maxL : Nat} {bytes : ByteArray} {ret : Option FieldType} (hM : MC G yX4_isVisitor wsy rm As wc post mc ms) (hcw : CWd Ts wsy yX4_isVisitor wsy bytes maxL ret n) (hini : Cond.initialized yX4_isVisitor.cls ∈ Ts) (hstt : Cond.static yX4_isVisitor ∈ Ts) (hn : As.length = n) (hR0 : gR X = R0) (hfit : fitR rm R0 maxL mc ms) (hf : cells + mc ≤ R0.cells ∧ slots + ms ≤ R0.slots) (isC isR : List Nat) (hC : isC.map (fun i => ws[i]?) = wc.map some) (hnC : va_nd isC = true) (hR2 : isR.map (fun i => ws[i]?) = wr.map some) (hnR : va_nd isR = true) (hdis : ∀ i ∈ isR, i ∉ isC) (hroom : (st.map fun v => v.category).sum ≤ 8) (hst : st0 = As.reverse ++ st) (hdg : decode cc pc = .ok (.invokestatic 74, 3)) (hpc : pc + 3 = pc') (kk : ∀ (v : Option Value) (u : va_W), post v u → U G X (cells + mc) (slots + ms) (wr ++ u) pc' lv (v.toList ++ st)) : U G X cells slots ws pc lv st0 := by
  obtain ⟨p, e, R, s, m, args, below, meth, c, A, nL, Q⟩ := X
  obtain ⟨⟨hx, hb, hml, hown, hts⟩, hE, hA, hlk⟩ := h
  subst hpc
  intro H locs ls hP hD hS hl
  subst hst
  have hR0 : R = R0 := hR0
  subst hR0
  obtain ⟨c1, ⟨ws', c2⟩, c3, c4, c5⟩ := hcw
  have hFc := va_free (wc := wc) hD hS hA isC hC
  have hPc := hP.sub (ws' := wc) isC (by
    have h1 : isC.filterMap (fun i => ws[i]?) = ((isC.map (fun i => ws[i]?)).filterMap id) := by rw [List.filterMap_map]; rfl
    rw [h1, hC, List.filterMap_map]
    simp)
  have hDc : va_D (fun _ => True) wc := (hD.sub isC hnC hC).weaken (fun _ _ _ _ => trivial)
  refine u_after (va_runSN (As := As) (rest := st) (host := "NudgeLocks") ⟨hx, hb, hml, hown, hts⟩ (hM H.size) ⟨va_cnB n hts c1 c2 hfit.1.1 hfit.1.2 hE.2.1.2.2.2 (hts _ hini) ⟨c4, c5, c3⟩ hfit.2, hts _ hstt, trivial⟩ ⟨Pm.blind, fun U hU hW => ⟨rfl, by rw [hU], by rw [hU]; exact hPc, hDc, Env1.moved hE hS hW hU hFc⟩⟩ rfl hn hl.1 rfl (lv_room hroom) hdg hf) hS hFc (fun v u H1 locs1 hp hP1 hD1 hk1 hS1 => ?_)
  obtain ⟨hP2, hD2⟩ := va_join (wr := wr) (w1 := u) hP hD isC isR hC hR2 hnR hdis hk1 hFc hP1 hD1
  exact kk v u hp H1 locs1 ls hP2 hD2 hS1 hl

def bI (b : Bool) : Int32 := if b then 1 else 0
theorem bI_nar (b : Bool) : narrow .boolean (.int (bI b)) = .int (bI b) := by cases b <;> rfl
theorem bI_t : bI true = 1 := rfl
theorem bI_f : bI false = 0 := rfl
theorem bI_0 {b : Bool} (h : bI b = 0) : b = false := by cases b; rfl; exact absurd h (by decide)
theorem bI_1 {b : Bool} (h : ¬ bI b = 0) : b = true := by cases b; exact absurd rfl h; rfl
theorem u_top {x y : Int32} (e : x = y) (kk : U G X cells slots ws pc lv (.int y :: st)) : U G X cells slots ws pc lv (.int x :: st) := by subst e; exact kk
theorem u_top2 {x y : Int32} {v : Value} (e : x = y) (kk : U G X cells slots ws pc lv (v :: .int y :: st)) : U G X cells slots ws pc lv (v :: .int x :: st) := by subst e; exact kk
theorem u_eqw {ws' : va_W} (e : ws = ws') (kk : U G X cells slots ws' pc lv st) : U G X cells slots ws pc lv st := by subst e; exact kk
theorem u_eql {lv' : List (Nat × Value)} (e : lv = lv') (kk : U G X cells slots ws pc lv' st) : U G X cells slots ws pc lv st := by subst e; exact kk
theorem u_eqs {st' : List Value} (e : st = st') (kk : U G X cells slots ws pc lv st') : U G X cells slots ws pc lv st := by subst e; exact kk

theorem u_icmp_eq_N (h : CX G X cc own Ts) {a b : Nat} {off : Int} {tgt : Nat} (hdg : decode cc pc = .ok (.if_icmp .eq off, 3)) (ht : (pc : Int) + off = (tgt : Int)) (ha : a < 2 ^ 31) (hb : b < 2 ^ 31) (hpc : pc + 3 = pc') (kt : a = b → U G X cells slots ws tgt lv st) (kf : ¬ a = b → U G X cells slots ws pc' lv st) : U G X cells slots ws pc lv (.int (nI b) :: .int (nI a) :: st) := u_icmp_eq h hdg ht hpc (fun q => kt ((nI_eq ha hb).mp q)) (fun q => kf (fun z => q ((nI_eq ha hb).mpr z)))

theorem u_if_eq_N (h : CX G X cc own Ts) {a : Nat} {off : Int} {tgt : Nat} (hdg : decode cc pc = .ok (.ifCond .eq off, 3)) (ht : (pc : Int) + off = (tgt : Int)) (ha : a < 2 ^ 31) (hpc : pc + 3 = pc') (kt : a = 0 → U G X cells slots ws tgt lv st) (kf : ¬ a = 0 → U G X cells slots ws pc' lv st) : U G X cells slots ws pc lv (.int (nI a) :: st) := u_if_eq h hdg ht hpc (fun q => kt ((nI_eq ha (by decide : 0 < 2 ^ 31)).mp q)) (fun q => kf (fun z => q ((nI_eq ha (by decide : 0 < 2 ^ 31)).mpr z)))

theorem u_icmp_ne_N (h : CX G X cc own Ts) {a b : Nat} {off : Int} {tgt : Nat} (hdg : decode cc pc = .ok (.if_icmp .ne off, 3)) (ht : (pc : Int) + off = (tgt : Int)) (ha : a < 2 ^ 31) (hb : b < 2 ^ 31) (hpc : pc + 3 = pc') (kt : ¬ a = b → U G X cells slots ws tgt lv st) (kf : a = b → U G X cells slots ws pc' lv st) : U G X cells slots ws pc lv (.int (nI b) :: .int (nI a) :: st) := u_icmp_ne h hdg ht hpc (fun q => kt (fun z => q ((nI_eq ha hb).mpr z))) (fun q => kf ((nI_eq ha hb).mp q))

theorem u_if_ne_N (h : CX G X cc own Ts) {a : Nat} {off : Int} {tgt : Nat} (hdg : decode cc pc = .ok (.ifCond .ne off, 3)) (ht : (pc : Int) + off = (tgt : Int)) (ha : a < 2 ^ 31) (hpc : pc + 3 = pc') (kt : ¬ a = 0 → U G X cells slots ws tgt lv st) (kf : a = 0 → U G X cells slots ws pc' lv st) : U G X cells slots ws pc lv (.int (nI a) :: st) := u_if_ne h hdg ht hpc (fun q => kt (fun z => q ((nI_eq ha (by decide : 0 < 2 ^ 31)).mpr z))) (fun q => kf ((nI_eq ha (by decide : 0 < 2 ^ 31)).mp q))

theorem u_icmp_lt_N (h : CX G X cc own Ts) {a b : Nat} {off : Int} {tgt : Nat} (hdg : decode cc pc = .ok (.if_icmp .lt off, 3)) (ht : (pc : Int) + off = (tgt : Int)) (ha : a < 2 ^ 31) (hb : b < 2 ^ 31) (hpc : pc + 3 = pc') (kt : a < b → U G X cells slots ws tgt lv st) (kf : b ≤ a → U G X cells slots ws pc' lv st) : U G X cells slots ws pc lv (.int (nI b) :: .int (nI a) :: st) := u_icmp_lt h hdg ht hpc (fun q => kt ((nI_ltI ha hb).mp q)) (fun q => kf (Nat.not_lt.mp (fun z => q ((nI_ltI ha hb).mpr z))))

theorem u_if_lt_N (h : CX G X cc own Ts) {a : Nat} {off : Int} {tgt : Nat} (hdg : decode cc pc = .ok (.ifCond .lt off, 3)) (ht : (pc : Int) + off = (tgt : Int)) (ha : a < 2 ^ 31) (hpc : pc + 3 = pc') (kt : a < 0 → U G X cells slots ws tgt lv st) (kf : 0 ≤ a → U G X cells slots ws pc' lv st) : U G X cells slots ws pc lv (.int (nI a) :: st) := u_if_lt h hdg ht hpc (fun q => kt ((nI_ltI ha (by decide : 0 < 2 ^ 31)).mp q)) (fun q => kf (Nat.not_lt.mp (fun z => q ((nI_ltI ha (by decide : 0 < 2 ^ 31)).mpr z))))

theorem u_icmp_ge_N (h : CX G X cc own Ts) {a b : Nat} {off : Int} {tgt : Nat} (hdg : decode cc pc = .ok (.if_icmp .ge off, 3)) (ht : (pc : Int) + off = (tgt : Int)) (ha : a < 2 ^ 31) (hb : b < 2 ^ 31) (hpc : pc + 3 = pc') (kt : b ≤ a → U G X cells slots ws tgt lv st) (kf : a < b → U G X cells slots ws pc' lv st) : U G X cells slots ws pc lv (.int (nI b) :: .int (nI a) :: st) := u_icmp_ge h hdg ht hpc (fun q => kt ((nI_leI hb ha).mp q)) (fun q => kf (Nat.not_le.mp (fun z => q ((nI_leI hb ha).mpr z))))

theorem u_if_ge_N (h : CX G X cc own Ts) {a : Nat} {off : Int} {tgt : Nat} (hdg : decode cc pc = .ok (.ifCond .ge off, 3)) (ht : (pc : Int) + off = (tgt : Int)) (ha : a < 2 ^ 31) (hpc : pc + 3 = pc') (kt : 0 ≤ a → U G X cells slots ws tgt lv st) (kf : a < 0 → U G X cells slots ws pc' lv st) : U G X cells slots ws pc lv (.int (nI a) :: st) := u_if_ge h hdg ht hpc (fun q => kt ((nI_leI (by decide : 0 < 2 ^ 31) ha).mp q)) (fun q => kf (Nat.not_le.mp (fun z => q ((nI_leI (by decide : 0 < 2 ^ 31) ha).mpr z))))

theorem u_icmp_gt_N (h : CX G X cc own Ts) {a b : Nat} {off : Int} {tgt : Nat} (hdg : decode cc pc = .ok (.if_icmp .gt off, 3)) (ht : (pc : Int) + off = (tgt : Int)) (ha : a < 2 ^ 31) (hb : b < 2 ^ 31) (hpc : pc + 3 = pc') (kt : b < a → U G X cells slots ws tgt lv st) (kf : a ≤ b → U G X cells slots ws pc' lv st) : U G X cells slots ws pc lv (.int (nI b) :: .int (nI a) :: st) := u_icmp_gt h hdg ht hpc (fun q => kt ((nI_ltI hb ha).mp q)) (fun q => kf (Nat.not_lt.mp (fun z => q ((nI_ltI hb ha).mpr z))))

theorem u_if_gt_N (h : CX G X cc own Ts) {a : Nat} {off : Int} {tgt : Nat} (hdg : decode cc pc = .ok (.ifCond .gt off, 3)) (ht : (pc : Int) + off = (tgt : Int)) (ha : a < 2 ^ 31) (hpc : pc + 3 = pc') (kt : 0 < a → U G X cells slots ws tgt lv st) (kf : a ≤ 0 → U G X cells slots ws pc' lv st) : U G X cells slots ws pc lv (.int (nI a) :: st) := u_if_gt h hdg ht hpc (fun q => kt ((nI_ltI (by decide : 0 < 2 ^ 31) ha).mp q)) (fun q => kf (Nat.not_lt.mp (fun z => q ((nI_ltI (by decide : 0 < 2 ^ 31) ha).mpr z))))

theorem u_icmp_le_N (h : CX G X cc own Ts) {a b : Nat} {off : Int} {tgt : Nat} (hdg : decode cc pc = .ok (.if_icmp .le off, 3)) (ht : (pc : Int) + off = (tgt : Int)) (ha : a < 2 ^ 31) (hb : b < 2 ^ 31) (hpc : pc + 3 = pc') (kt : a ≤ b → U G X cells slots ws tgt lv st) (kf : b < a → U G X cells slots ws pc' lv st) : U G X cells slots ws pc lv (.int (nI b) :: .int (nI a) :: st) := u_icmp_le h hdg ht hpc (fun q => kt ((nI_leI ha hb).mp q)) (fun q => kf (Nat.not_le.mp (fun z => q ((nI_leI ha hb).mpr z))))

theorem u_if_le_N (h : CX G X cc own Ts) {a : Nat} {off : Int} {tgt : Nat} (hdg : decode cc pc = .ok (.ifCond .le off, 3)) (ht : (pc : Int) + off = (tgt : Int)) (ha : a < 2 ^ 31) (hpc : pc + 3 = pc') (kt : a ≤ 0 → U G X cells slots ws tgt lv st) (kf : 0 < a → U G X cells slots ws pc' lv st) : U G X cells slots ws pc lv (.int (nI a) :: st) := u_if_le h hdg ht hpc (fun q => kt ((nI_leI ha (by decide : 0 < 2 ^ 31)).mp q)) (fun q => kf (Nat.not_le.mp (fun z => q ((nI_leI ha (by decide : 0 < 2 ^ 31)).mpr z))))

theorem u_if_eq_B (h : CX G X cc own Ts) {b : Bool} {off : Int} {tgt : Nat} (hdg : decode cc pc = .ok (.ifCond .eq off, 3)) (ht : (pc : Int) + off = (tgt : Int)) (hpc : pc + 3 = pc') (kt : b = false → U G X cells slots ws tgt lv st) (kf : b = true → U G X cells slots ws pc' lv st) : U G X cells slots ws pc lv (.int (bI b) :: st) := u_if_eq h hdg ht hpc (fun q => kt (bI_0 q)) (fun q => kf (bI_1 q))

theorem u_if_ne_B (h : CX G X cc own Ts) {b : Bool} {off : Int} {tgt : Nat} (hdg : decode cc pc = .ok (.ifCond .ne off, 3)) (ht : (pc : Int) + off = (tgt : Int)) (hpc : pc + 3 = pc') (kt : b = true → U G X cells slots ws tgt lv st) (kf : b = false → U G X cells slots ws pc' lv st) : U G X cells slots ws pc lv (.int (bI b) :: st) := u_if_ne h hdg ht hpc (fun q => kt (bI_1 q)) (fun q => kf (bI_0 q))

theorem ti_out {x : Int32} {n : Nat} (hn : n < 2 ^ 31) (hx : ∀ k : Nat, k < n → ¬ x = nI k) : x.toInt < 0 ∨ (n : Int) - 1 < x.toInt := by
  rcases Int.lt_or_le x.toInt 0 with q | q
  · exact Or.inl q
  · refine Or.inr ?_
    rcases Int.lt_or_le ((n : Int) - 1) x.toInt with q2 | q2
    · exact q2
    · exfalso
      refine hx x.toInt.toNat (by omega) (Int32.toInt_inj.mp ?_)
      rw [nI_toInt (by omega)]
      omega
theorem ti_in {n : Nat} (hn : n < 2 ^ 31) : (nI n).toInt = (n : Int) := nI_toInt hn
end
end
section
/-! The state as the reference holds it: z, 86 numbers; what a step does to it. -/
abbrev Zf : Type := Nat → Int32
def ix (x : Int32) : Nat := x.toNatClampNeg
theorem ix_nI {n : Nat} (h : n < 2 ^ 31) : ix (nI n) = n := nI_clamp h
def inB (x a b : Int32) : Bool := decide (a ≤ x) && decide (x ≤ b)
def isV (x : Int32) : Bool := inB x 0 5
def isLook (z : Zf) (v : Nat) : Bool :=
  if z 60 = 0 then (decide (z v = 3) && decide (z (12 + v) = 1)) || (decide (z v = 6) && decide (z (6 + v) = -1))
  else if z v = 3 then (if z 60 = 1 then decide (z (42 + ix (z (30 + v))) = 1) else if z 60 = 2 then !decide (z (36 + v) = z 51) else decide (z 52 = 1))
  else false
def costM (k s : Int32) : Int32 :=
  if k = 0 then (if s = 1 ∨ s = 2 ∨ s = 5 ∨ s = 7 then 1 else 0)
  else if k = 1 then (if s = 1 ∨ s = 3 then 1 else 0)
  else if k = 2 then 1
  else if s = 0 then 0 else 1
def chN (z : Zf) (v : Nat) : Zf :=
  if z v = 0 then upd (upd (upd z (6 + v) (-1)) (12 + v) 1) v 1
  else if z v = 1 then upd (upd (upd z (18 + v) (z 49)) v (if z 49 = -1 then 4 else 2)) 49 (nI v)
  else if z v = 2 then upd (upd z (6 + ix (z (18 + v))) (nI v)) v 3
  else if z v = 3 then upd (upd z (18 + v) (-1)) v 4
  else if z v = 4 then upd z v (if z (6 + v) = -1 then 5 else 7)
  else if z v = 5 then upd (upd z v (if z 49 = nI v then 0 else 6)) 49 (if z 49 = nI v then -1 else z 49)
  else if z v = 6 then upd z v 7
  else upd (upd z (12 + ix (z (6 + v))) 0) v 0
def chW (z : Zf) (v : Nat) : Zf :=
  if z v = 0 then upd (upd z (42 + ix (z (24 + v))) 1) v 1
  else if z v = 1 then upd (upd (upd z (30 + v) (z 49)) 49 (z (24 + v))) v 3
  else if z v = 3 then upd z v 4
  else upd (upd (upd (upd z (42 + ix (z (24 + v))) 0) (24 + v) (z (30 + v))) (30 + v) (-1)) v 0
def chT (z : Zf) (v : Nat) : Zf :=
  if z v = 0 then upd (upd (upd z (36 + v) (z 50)) 50 (z 50 + 1)) v 3
  else if z v = 3 then upd z v 4
  else upd (upd (upd z 51 (z 51 + 1)) (36 + v) (-1)) v 0
def chG (z : Zf) (v : Nat) : Zf := upd (upd z 52 (if z v = 0 then z 52 else if z v = 3 then 1 else 0)) v (if z v = 0 then 3 else if z v = 3 then 4 else 0)
def chM (z : Zf) (v : Nat) : Zf := if z 60 = 0 then chN z v else if z 60 = 1 then chW z v else if z 60 = 2 then chT z v else chG z v
/-- the last place of v in line, or -5 -/
def plc (z : Zf) (v : Nat) : Nat → Int32
  | 0 => -5
  | n + 1 => if z (54 + n) = nI v then nI n else plc z v n
/-- out of the places from p on the next one each, n times -/
def shl (z : Zf) (p : Nat) : Nat → Zf
  | 0 => z
  | n + 1 => upd (shl z p n) (54 + (p + n)) (shl z p n (54 + (p + n + 1)))
def sumZ (z : Zf) (c : Nat) : Nat → Int32
  | 0 => 0
  | n + 1 => sumZ z c n + z (c + n)
def cntZ (z : Zf) : Nat → Int32
  | 0 => 0
  | n + 1 => cntZ z n + (if z n = 0 then 0 else 1)
theorem cpy_0 {α : Type} (f g : Nat → α) (sp dp : Nat) : va_cpy f g sp dp 0 = g := by
  funext k
  simp only [va_cpy]
  rw [if_neg (by omega)]
theorem cpy_succ (f g : Nat → Int32) (sp dp n : Nat) : upd (va_cpy f g sp dp n) (dp + n) (f (sp + n)) = va_cpy f g sp dp (n + 1) := by
  funext k
  simp only [va_cpy, upd]
  by_cases h1 : k = dp + n
  · subst h1
    rw [if_pos rfl, if_pos (by omega)]
    congr 1
    omega
  · rw [if_neg h1]
    by_cases h2 : dp ≤ k ∧ k < dp + n
    · rw [if_pos h2, if_pos (by omega)]
    · rw [if_neg h2, if_neg (by omega)]
/-- one step, counted: the reference's makeStep -/
def st3 (z : Zf) (v : Nat) : Zf := upd (upd (upd z (62 + v) (z (62 + v) + 1)) (68 + v) (z (68 + v) + bI (isLook z v))) (80 + v) (z (80 + v) + costM (z 60) (z v))
def lvM (z : Zf) (v : Nat) : Zf := if plc z v (ix (z 53)) = -5 then z else shl (upd z 53 (z 53 - 1)) (ix (plc z v (ix (z 53)))) (ix (z 53) - 1 - ix (plc z v (ix (z 53))))
def st5 (z : Zf) (v : Nat) : Zf := if z v = 0 then lvM (upd z (74 + v) (z (74 + v) + 1)) v else z
def st6 (z : Zf) (v : Nat) (s : Int32) : Zf := if z 60 < 3 ∧ s < 2 ∧ ¬ z v < 2 then upd (upd z (54 + ix (z 53)) (nI v)) 53 (z 53 + 1) else z
def stM (z : Zf) (v : Nat) : Zf := if isLook z v = true then st3 z v else st6 (st5 (chM (st3 z v) v) v) v (z v)
/-- what keeps every place in its row -/
def Wf (z : Zf) : Prop :=
  (∃ k : Nat, k < 4 ∧ z 60 = nI k) ∧ (∃ m : Nat, m ≤ 6 ∧ z 53 = nI m) ∧
  (z 60 = 0 → ∀ v : Nat, v < 6 → z v = 2 → ∃ a : Nat, a < 6 ∧ z (18 + v) = nI a) ∧
  (z 60 = 0 → ∀ v : Nat, v < 6 → ¬ z v = 0 → ¬ z v = 1 → ¬ z v = 2 → ¬ z v = 3 → ¬ z v = 4 → ¬ z v = 5 → ¬ z v = 6 → ∃ a : Nat, a < 6 ∧ z (6 + v) = nI a) ∧
  (z 60 = 1 → ∀ v : Nat, v < 6 → ∃ a : Nat, a < 7 ∧ z (24 + v) = nI a) ∧
  (z 60 = 1 → ∀ v : Nat, v < 6 → z v = 3 → ∃ a : Nat, a < 7 ∧ z (30 + v) = nI a)
theorem Wf.k {z : Zf} (h : Wf z) : ∃ k : Nat, k < 4 ∧ z 60 = nI k := h.1
theorem Wf.m {z : Zf} (h : Wf z) : ∃ m : Nat, m ≤ 6 ∧ z 53 = nI m := h.2.1
theorem Wf.a {z : Zf} (h : Wf z) {v : Nat} (k : z 60 = 0) (hv : v < 6) (hs : z v = 2) : ∃ a : Nat, a < 6 ∧ z (18 + v) = nI a := h.2.2.1 k v hv hs
theorem Wf.n {z : Zf} (h : Wf z) {v : Nat} (k : z 60 = 0) (hv : v < 6) (h0 : ¬ z v = 0) (h1 : ¬ z v = 1) (h2 : ¬ z v = 2) (h3 : ¬ z v = 3) (h4 : ¬ z v = 4) (h5 : ¬ z v = 5) (h6 : ¬ z v = 6) : ∃ a : Nat, a < 6 ∧ z (6 + v) = nI a := h.2.2.2.1 k v hv h0 h1 h2 h3 h4 h5 h6
theorem Wf.o {z : Zf} (h : Wf z) {v : Nat} (k : z 60 = 1) (hv : v < 6) : ∃ a : Nat, a < 7 ∧ z (24 + v) = nI a := h.2.2.2.2.1 k v hv
theorem Wf.w {z : Zf} (h : Wf z) {v : Nat} (k : z 60 = 1) (hv : v < 6) (hs : z v = 3) : ∃ a : Nat, a < 7 ∧ z (30 + v) = nI a := h.2.2.2.2.2 k v hv hs
theorem Wf.far {z : Zf} (h : Wf z) {i : Nat} (hi : 61 ≤ i) (x : Int32) : Wf (upd z i x) := by
  have e : ∀ j : Nat, j < 61 → upd z i x j = z j := fun j hj => by simp only [upd]; rw [if_neg (by omega)]
  obtain ⟨h1, h2, h3, h4, h5, h6⟩ := h
  refine ⟨?_, ?_, ?_, ?_, ?_, ?_⟩
  · rw [e 60 (by omega)]; exact h1
  · rw [e 53 (by omega)]; exact h2
  · rw [e 60 (by omega)]; intro k v hv
    rw [e v (by omega), e (18 + v) (by omega)]; exact h3 k v hv
  · rw [e 60 (by omega)]; intro k v hv
    rw [e v (by omega), e (6 + v) (by omega)]; exact h4 k v hv
  · rw [e 60 (by omega)]; intro k v hv
    rw [e (24 + v) (by omega)]; exact h5 k v hv
  · rw [e 60 (by omega)]; intro k v hv
    rw [e v (by omega), e (30 + v) (by omega)]; exact h6 k v hv
end
section
theorem nI_m5 {p : Nat} (h : p < 2 ^ 31) : ¬ nI p = -5 := by
  intro q
  have h1 := nI_toInt h
  rw [q] at h1
  have h2 : ((-5 : Int32)).toInt = -5 := by decide
  omega
theorem nI_m1 {p : Nat} (h : p < 2 ^ 31) : ¬ nI p = -1 := by
  intro q
  have h1 := nI_toInt h
  rw [q] at h1
  have h2 : ((-1 : Int32)).toInt = -1 := by decide
  omega
theorem isV_nat {x : Int32} (h : isV x = true) : ∃ v : Nat, v < 6 ∧ x = nI v := by
  simp only [isV, inB, Bool.and_eq_true, decide_eq_true_eq] at h
  obtain ⟨j, hj, e⟩ := nI_of2 (M := 5) (n := 5) (by decide) (fun q => absurd h.1 (Int32.not_le.mpr q)) h.2
  exact ⟨j, by omega, e⟩
theorem isV_nI {v : Nat} (h : v < 6) : isV (nI v) = true := by
  simp only [isV, inB, Bool.and_eq_true, decide_eq_true_eq]
  exact ⟨nI_pos' (by omega), nI_le (b := 5) (by omega) (by decide)⟩
theorem plc_cases (z : Zf) (v : Nat) : ∀ n : Nat, plc z v n = -5 ∨ ∃ p : Nat, p < n ∧ plc z v n = nI p
  | 0 => Or.inl rfl
  | n + 1 => by
    simp only [plc]
    by_cases h : z (54 + n) = nI v
    · rw [if_pos h]; exact Or.inr ⟨n, by omega, rfl⟩
    · rw [if_neg h]
      rcases plc_cases z v n with q | ⟨p, hp, q⟩
      · exact Or.inl q
      · exact Or.inr ⟨p, by omega, q⟩
theorem shl_at (z : Zf) (p n : Nat) {j : Nat} (h : j < 54 + p ∨ 54 + p + n ≤ j) : shl z p n j = z j := by
  induction n with
  | zero => rfl
  | succ n ih =>
    simp only [shl, upd]
    rw [if_neg (by omega)]
    exact ih (by omega)
theorem shl_53 (z : Zf) (p n : Nat) : shl z p n 53 = z 53 := shl_at z p n (Or.inl (by omega))
theorem shl_step (z : Zf) {p k : Nat} (h : p ≤ k) : upd (shl z p (k - p)) (54 + k) (shl z p (k - p) (54 + k + 1)) = shl z p (k + 1 - p) := by
  obtain ⟨n, rfl⟩ : ∃ n, k = p + n := ⟨k - p, by omega⟩
  rw [show p + n - p = n by omega, show p + n + 1 - p = n + 1 by omega]
  simp only [shl]
  rw [show 54 + (p + n) + 1 = 54 + (p + n + 1) by omega]
theorem lvM_of {z : Zf} {v m : Nat} (hm : m ≤ 6) (h53 : z 53 = nI m) : lvM z v = if plc z v m = -5 then z else shl (upd z 53 (z 53 - 1)) (ix (plc z v m)) (m - 1 - ix (plc z v m)) := by
  simp only [lvM]
  rw [h53, ix_nI (by omega)]
theorem lvM_53 {z : Zf} {v m : Nat} (hm : m ≤ 6) (h53 : z 53 = nI m) : ∃ n : Nat, n ≤ 6 ∧ lvM z v 53 = nI n := by
  rw [lvM_of hm h53]
  rcases plc_cases z v m with e | ⟨p, hp, e⟩
  · rw [if_pos e]; exact ⟨m, hm, h53⟩
  · rw [if_neg (by rw [e]; exact nI_m5 (by omega)), shl_53, pk_us, h53]
    exact ⟨m - 1, by omega, pk_sub (a := m) (b := 1) (by omega)⟩
theorem chM_hi {z : Zf} {v : Nat} (hW : Wf z) (hv : v < 6) {j : Nat} (hj : 53 ≤ j) : chM z v j = z j := by
  have ne : ∀ (f : Zf) (i : Nat) (x : Int32), i < 53 → upd f i x j = f j := fun f i x hi => by simp only [upd]; rw [if_neg (by omega)]
  simp only [chM]
  split
  next k0 =>
    simp only [chN]
    repeat' split
    all_goals try (simp only [ne _ _ _ (show 6 + v < 53 by omega), ne _ _ _ (show 12 + v < 53 by omega), ne _ _ _ (show 18 + v < 53 by omega), ne _ _ _ (show v < 53 by omega), ne _ _ _ (show 49 < 53 by omega)]; done)
    · next h2 =>
      obtain ⟨a, ha, e⟩ := hW.a k0 hv h2
      rw [e, ix_nI (by omega), ne _ _ _ (by omega), ne _ _ _ (by omega)]
    · next h0 h1 h2 h3 h4 h5 h6 =>
      obtain ⟨a, ha, e⟩ := hW.n k0 hv h0 h1 h2 h3 h4 h5 h6
      rw [e, ix_nI (by omega), ne _ _ _ (by omega), ne _ _ _ (by omega)]
  next k0 =>
    split
    next k1 =>
      obtain ⟨a, ha, e⟩ := hW.o k1 hv
      simp only [chW]
      rw [e, ix_nI (by omega)]
      repeat' split
      all_goals simp only [ne _ _ _ (show 42 + a < 53 by omega), ne _ _ _ (show 30 + v < 53 by omega), ne _ _ _ (show 24 + v < 53 by omega), ne _ _ _ (show v < 53 by omega), ne _ _ _ (show 49 < 53 by omega)]
    next k1 =>
      split
      next k2 =>
        simp only [chT]
        repeat' split
        all_goals simp only [ne _ _ _ (show 36 + v < 53 by omega), ne _ _ _ (show 50 < 53 by omega), ne _ _ _ (show 51 < 53 by omega), ne _ _ _ (show v < 53 by omega)]
      next k2 =>
        simp only [chG]
        rw [ne _ _ _ (by omega), ne _ _ _ (by omega)]
theorem st3_lo {z : Zf} {v j : Nat} (hj : j < 62) : st3 z v j = z j := by
  simp only [st3, upd]
  rw [if_neg (by omega), if_neg (by omega), if_neg (by omega)]
theorem st3_wf {z : Zf} {v : Nat} (h : Wf z) : Wf (st3 z v) := ((h.far (by omega) _).far (by omega) _).far (by omega) _
theorem st5_53 {z : Zf} {v m : Nat} (hv : v < 6) (hm : m ≤ 6) (h53 : z 53 = nI m) : ∃ n : Nat, n ≤ 6 ∧ st5 z v 53 = nI n := by
  simp only [st5]
  split
  · exact lvM_53 hm (by rw [pk_un (by omega)]; exact h53)
  · exact ⟨m, hm, h53⟩
/-- the history as one row of four times 86 -/
def shP (p : Zf) (k : Nat) : Zf := fun j => if j < k then p (j + 86) else p j
theorem shP_0 (p : Zf) : shP p 0 = p := by funext j; simp [shP]
theorem shP_succ (p : Zf) (k : Nat) : upd (shP p k) k (shP p k (k + 86)) = shP p (k + 1) := by
  funext j
  simp only [shP, upd]
  by_cases h : j = k
  · subst h; rw [if_pos rfl, if_neg (by omega), if_pos (by omega)]
  · rw [if_neg h]
    by_cases h2 : j < k
    · rw [if_pos h2, if_pos (by omega)]
    · rw [if_neg h2, if_neg (by omega)]
def recN (st : Nat) : Nat := if st = 4 then 4 else st + 1
def recP (p z : Zf) (st : Nat) : Zf := if st = 4 then va_cpy z (shP p 258) 0 258 86 else va_cpy z p 0 (86 * st) 86
theorem recN_le {st : Nat} (h : st ≤ 4) : recN st ≤ 4 := by unfold recN; split <;> omega
def zrM (z : Zf) (k : Nat) : Zf := fun j => if j < k then 0 else z j
theorem zrM_succ (z : Zf) (k : Nat) : upd (zrM z k) k 0 = zrM z (k + 1) := by
  funext j
  simp only [zrM, upd]
  by_cases h : j = k
  · subst h; rw [if_pos rfl, if_pos (by omega)]
  · rw [if_neg h]
    by_cases h2 : j < k
    · rw [if_pos h2, if_pos (by omega)]
    · rw [if_neg h2, if_neg (by omega)]
def clM (z : Zf) : Nat → Zf
  | 0 => z
  | v + 1 => upd (upd (upd (upd (upd (clM z v) (6 + v) (-1)) (18 + v) (-1)) (24 + v) (nI v)) (30 + v) (-1)) (36 + v) (-1)
def clrM (z : Zf) (k : Int32) : Zf := upd (upd (clM (zrM z 53) 6) 49 (if k = 0 then -1 else 6)) 60 k
/-- the visitor that is inside, looked for from above -/
def insM (z : Zf) : Nat → Int32
  | 0 => -5
  | n + 1 => if z (5 - n) = 4 then nI (5 - n) else insM z n
def atM (z : Zf) (x : Int32) : Nat → Int32
  | 0 => 0
  | n + 1 => atM z x n + (if z n = x then 1 else 0)
def bitM (x : Int32) (v : Nat) : Int32 := (x >>> (nI v &&& 31)) &&& 1
def bitsM (x : Int32) : Nat → Int32
  | 0 => 0
  | n + 1 => bitsM x n + bitM x n
def pickM (x r : Int32) : Nat → Int32
  | 0 => -5
  | n + 1 => if bitM x n = 1 ∧ bitsM x n = r then nI n else pickM x r n
end
section
set_option maxHeartbeats 8000000 in
set_option maxRecDepth 100000 in
theorem kX5_in (G : Gx) (x a b : Int32) : MC G yX5_in wsX5_in ({ frames := 0, cells := 0, slots := 0, locals := 0 } : Room) [.int x, .int a, .int b] [] (fun v' u' => v' = some (.int (bI (inB x a b))) ∧ u' = []) 0 0 := by
  refine mc_of (cc := cX5_in) (maxL := 3) (ret := (some .boolean)) (by decide) rfl (Nat.le_of_ble_eq_true rfl) (fun X h hR hL hRT => ?_)
  refine u_eql (lv' := [(0, .int x), (1, .int a), (2, .int b)]) rfl ?_
  refine u_iload_n h dX5_in_0 rfl 0 rfl rfl ?_
  refine u_iload_n h dX5_in_1 rfl 1 rfl rfl ?_
  refine u_icmp_lt (tgt := 14) h dX5_in_2 (by decide) rfl (fun c1 => ?_) (fun c1 => ?_)
  · refine u_iconst (v := 0) h dX5_in_14 (by decide) rfl ?_
    exact u_zret h hRT dX5_in_15 rfl (by omega) (by omega) (by refine ⟨congrArg (fun b => some (Value.int b)) ?_, rfl⟩; simp [inB, bI, Int32.not_le.mpr c1])
  · refine u_iload_n h dX5_in_5 rfl 0 rfl rfl ?_
    refine u_iload_n h dX5_in_6 rfl 2 rfl rfl ?_
    refine u_icmp_gt (tgt := 14) h dX5_in_7 (by decide) rfl (fun c2 => ?_) (fun c2 => ?_)
    · refine u_iconst (v := 0) h dX5_in_14 (by decide) rfl ?_
      exact u_zret h hRT dX5_in_15 rfl (by omega) (by omega) (by refine ⟨congrArg (fun b => some (Value.int b)) ?_, rfl⟩; simp [inB, bI, Int32.not_lt.mp c1, Int32.not_le.mpr c2])
    · refine u_iconst (v := 1) h dX5_in_10 (by decide) rfl ?_
      refine u_goto (tgt := 15) h dX5_in_11 (by decide) ?_
      exact u_zret h hRT dX5_in_15 rfl (by omega) (by omega) (by refine ⟨congrArg (fun b => some (Value.int b)) ?_, rfl⟩; simp [inB, bI, Int32.not_lt.mp c1, Int32.not_lt.mp c2])

set_option maxRecDepth 20000 in
theorem cwX5_isVisitor_X5_in : CWd wsX5_isVisitor (wsS RX5 47 yX5_in wsX5_in) yX5_in wsX5_in cX5_in 3 (some .boolean) 3 := ⟨gX5_isVisitor_X5_in, ⟨_, rfl⟩, by decide +kernel, by decide, by decide⟩
set_option maxHeartbeats 8000000 in
set_option maxRecDepth 100000 in
theorem kX5_isVisitor (G : Gx) (x : Int32) : MC G yX5_isVisitor wsX5_isVisitor ({ frames := 1, cells := 0, slots := 0, locals := 22 } : Room) [.int x] [] (fun v' u' => v' = some (.int (bI (isV x))) ∧ u' = []) 0 0 := by
  refine mc_of (cc := cX5_isVisitor) (maxL := 1) (ret := (some .boolean)) (by decide) rfl (Nat.le_of_ble_eq_true rfl) (fun X h hR hL hRT => ?_)
  refine u_eql (lv' := [(0, .int x)]) rfl ?_
  refine u_iload_n h dX5_isVisitor_0 rfl 0 rfl rfl ?_
  refine u_iconst (v := 0) h dX5_isVisitor_1 (by decide) rfl ?_
  refine u_iconst (v := 5) h dX5_isVisitor_2 (by decide) rfl ?_
  refine u_callS h (As := [.int x, .int 0, .int 5]) (wc := []) (wr := []) (kX5_in G x 0 5) cwX5_isVisitor_X5_in rfl rfl hR ⟨⟨rfl, rfl⟩, by decide, by decide⟩ ⟨Nat.le_of_ble_eq_true rfl, Nat.le_of_ble_eq_true rfl⟩ [] [] rfl rfl rfl rfl (by decide) (Nat.le_of_ble_eq_true rfl) rfl dX5_isVisitor_3 rfl (fun v9 u9 hp9 => ?_)
  obtain ⟨rfl, rfl⟩ := hp9
  refine u_wp (ws' := []) [] rfl rfl ?_
  refine u_eqs (st' := [.int (bI (inB x 0 5))]) rfl ?_
  exact u_zret h hRT dX5_isVisitor_6 (bI_nar _) (by omega) (by omega) (by exact ⟨rfl, rfl⟩)

set_option maxHeartbeats 8000000 in
set_option maxRecDepth 100000 in
theorem kX5_copyRow (G : Gx) (qa qb la lb sp dp n : Nat) (f k : Nat → Int32) (ha : sp + n ≤ la) (hb : dp + n ≤ lb) (hla : la < 2 ^ 31) (hlb : lb < 2 ^ 31) : MC G yX5_copyRow wsX5_copyRow ({ frames := 0, cells := 0, slots := 0, locals := 0 } : Room) [.ref qa, .int (nI sp), .ref qb, .int (nI dp), .int (nI n)] [(qa, aI G la f), (qb, aI G lb k)] (fun v' u' => v' = none ∧ u' = [(qa, aI G la f), (qb, aI G lb (va_cpy f k sp dp n))]) 0 0 := by
  refine mc_of (cc := cX5_copyRow) (maxL := 6) (ret := none) (by decide) rfl (Nat.le_of_ble_eq_true rfl) (fun X h hR hL hRT => ?_)
  refine u_eql (lv' := [(0, .ref qa), (1, .int (nI sp)), (2, .ref qb), (3, .int (nI dp)), (4, .int (nI n))]) rfl ?_
  refine u_iconst (v := 0) h dX5_copyRow_0 (by decide) rfl ?_
  refine u_istore (lv' := [(5, .int 0), (0, .ref qa), (1, .int (nI sp)), (2, .ref qb), (3, .int (nI dp)), (4, .int (nI n))]) h dX5_copyRow_1 (by rw [hL]; decide) rfl rfl ?_
  have LL : ∀ (k9 : Nat) (i : Nat) (w : Nat → Int32), n - i = k9 → i ≤ n → w = va_cpy f k sp dp i → U G X 0 0 [(qa, aI G la f), (qb, aI G lb w)] 3 [(5, .int (nI i)), (0, .ref qa), (1, .int (nI sp)), (2, .ref qb), (3, .int (nI dp)), (4, .int (nI n))] [] := by
    intro k9
    induction k9 using Nat.strongRecOn with
    | _ k9 ihL =>
      intro i w hk9 hi hw
      subst hk9
      refine u_iload h dX5_copyRow_3 0 rfl rfl ?_
      refine u_iload h dX5_copyRow_5 5 rfl rfl ?_
      refine u_icmp_ge_N (a := i) (b := n) (tgt := 28) h dX5_copyRow_7 (by decide) (by omega) (by omega) rfl (fun c1 => ?_) (fun c1 => ?_)
      · exact u_vret h hRT dX5_copyRow_28 (by omega) (by omega) (by exact ⟨rfl, by rw [hw, show i = n from Nat.le_antisymm hi (by omega)]⟩)
      · refine u_aload_n h dX5_copyRow_10 rfl 3 rfl rfl ?_
        refine u_iload_n h dX5_copyRow_11 rfl 4 rfl rfl ?_
        refine u_iload h dX5_copyRow_12 0 rfl rfl ?_
        refine u_iadd (v := (nI (dp + i))) h dX5_copyRow_14 (nI_add dp i) rfl ?_
        refine u_aload_n h dX5_copyRow_15 rfl 1 rfl rfl ?_
        refine u_iload_n h dX5_copyRow_16 rfl 2 rfl rfl ?_
        refine u_iload h dX5_copyRow_17 0 rfl rfl ?_
        refine u_iadd (v := (nI (sp + i))) h dX5_copyRow_19 (nI_add sp i) rfl ?_
        refine u_iald h (n := (sp + i)) 0 rfl (by omega) (by omega) dX5_copyRow_20 rfl ?_
        refine u_iast h (n := (dp + i)) (v := (f (sp + i))) 1 rfl (by omega) (by omega) rfl (ws' := [(qa, aI G la f), (qb, aI G lb (upd w (dp + i) (f (sp + i))))]) rfl dX5_copyRow_21 rfl ?_
        refine u_iinc (k := 0) (v := (nI (i + 1))) (lv' := [(5, .int (nI (i + 1))), (0, .ref qa), (1, .int (nI sp)), (2, .ref qb), (3, .int (nI dp)), (4, .int (nI n))]) h dX5_copyRow_22 rfl (nI_add i 1) (by rw [hL]; decide) rfl rfl ?_
        refine u_goto (tgt := 3) h dX5_copyRow_25 (by decide) ?_
        exact ihL _ (by omega) (i + 1) (upd w (dp + i) (f (sp + i))) rfl (by omega) (by rw [hw]; exact cpy_succ _ _ _ _ _)
  exact LL _ 0 k rfl (Nat.zero_le _) (cpy_0 _ _ _ _).symm

theorem flX5_notAway_7 : FL wsX5_notAway RX5 7 5 0 := ⟨RX5, TX5, 18, rfl, by decide, by decide +kernel, by decide +kernel⟩
set_option maxHeartbeats 8000000 in
set_option maxRecDepth 100000 in
theorem kX5_notAway (G : Gx) (h0 qz : Nat) (fs : List Value) (hfz : fs[0]? = some (.ref qz)) (z : Zf) : MC G yX5_notAway wsX5_notAway ({ frames := 0, cells := 0, slots := 0, locals := 0 } : Room) [.ref h0] [(h0, .inr (5, fs)), (qz, aI G 86 z)] (fun v' u' => v' = some (.int (cntZ z 6)) ∧ u' = [(h0, .inr (5, fs)), (qz, aI G 86 z)]) 0 0 := by
  refine mc_of (cc := cX5_notAway) (maxL := 3) (ret := (some .int)) (by decide) rfl (Nat.le_of_ble_eq_true rfl) (fun X h hR hL hRT => ?_)
  refine u_eql (lv' := [(0, .ref h0)]) rfl ?_
  refine u_iconst (v := 0) h dX5_notAway_0 (by decide) rfl ?_
  refine u_istore_n (lv' := [(1, .int 0), (0, .ref h0)]) h dX5_notAway_1 rfl (by rw [hL]; decide) rfl rfl ?_
  refine u_iconst (v := 0) h dX5_notAway_2 (by decide) rfl ?_
  refine u_istore_n (lv' := [(2, .int 0), (1, .int 0), (0, .ref h0)]) h dX5_notAway_3 rfl (by rw [hL]; decide) rfl rfl ?_
  have LL : ∀ (k9 : Nat) (v : Nat) (n : Int32), 6 - v = k9 → v ≤ 6 → n = cntZ z v → U G X 0 0 [(h0, .inr (5, fs)), (qz, aI G 86 z)] 4 [(2, .int (nI v)), (1, .int n), (0, .ref h0)] [] := by
    intro k9
    induction k9 using Nat.strongRecOn with
    | _ k9 ihL =>
      intro v n hk9 hi hn
      subst hk9
      refine u_iload_n h dX5_notAway_4 rfl 0 rfl rfl ?_
      refine u_bipush (v := 6) h dX5_notAway_5 (by decide) rfl ?_
      refine u_icmp_ge_N (a := v) (b := 6) (tgt := 35) h dX5_notAway_7 (by decide) (by omega) (by omega) rfl (fun c1 => ?_) (fun c1 => ?_)
      · refine u_iload_n h dX5_notAway_35 rfl 1 rfl rfl ?_
        exact u_iret h hRT dX5_notAway_36 (by omega) (by omega) (by exact ⟨by rw [hn, show v = 6 from Nat.le_antisymm hi (by omega)], rfl⟩)
      · refine u_iload_n h dX5_notAway_10 rfl 1 rfl rfl ?_
        refine u_aload_n h dX5_notAway_11 rfl 2 rfl rfl ?_
        refine u_get h flX5_notAway_7 0 (v := .ref qz) rfl hfz dX5_notAway_12 rfl ?_
        refine u_iconst (v := 0) h dX5_notAway_15 (by decide) rfl ?_
        refine u_iload_n h dX5_notAway_16 rfl 0 rfl rfl ?_
        refine u_iadd (v := (nI v)) h dX5_notAway_17 (by have h9 := nI_add 0 v; rw [Nat.zero_add] at h9; exact h9) rfl ?_
        refine u_iald h (n := v) 1 rfl (by omega) (by omega) dX5_notAway_18 rfl ?_
        refine u_if_ne (tgt := 26) h dX5_notAway_19 (by decide) rfl (fun c2 => ?_) (fun c2 => ?_)
        · refine u_iconst (v := 1) h dX5_notAway_26 (by decide) rfl ?_
          refine u_iadd (v := (n + 1)) h dX5_notAway_27 rfl rfl ?_
          refine u_istore_n (lv' := [(1, .int (n + 1)), (2, .int (nI v)), (0, .ref h0)]) h dX5_notAway_28 rfl (by rw [hL]; decide) rfl rfl ?_
          refine u_iinc (k := 1) (v := (nI (v + 1))) (lv' := [(2, .int (nI (v + 1))), (1, .int (n + 1)), (0, .ref h0)]) h dX5_notAway_29 rfl (nI_add v 1) (by rw [hL]; decide) rfl rfl ?_
          refine u_goto (tgt := 4) h dX5_notAway_32 (by decide) ?_
          exact ihL _ (by omega) (v + 1) (n + 1) rfl (by omega) (by rw [hn]; simp [cntZ, c1, c2])
        · refine u_iconst (v := 0) h dX5_notAway_22 (by decide) rfl ?_
          refine u_goto (tgt := 27) h dX5_notAway_23 (by decide) ?_
          refine u_iadd (v := (n + 0)) h dX5_notAway_27 rfl rfl ?_
          refine u_istore_n (lv' := [(1, .int (n + 0)), (2, .int (nI v)), (0, .ref h0)]) h dX5_notAway_28 rfl (by rw [hL]; decide) rfl rfl ?_
          refine u_iinc (k := 1) (v := (nI (v + 1))) (lv' := [(2, .int (nI (v + 1))), (1, .int (n + 0)), (0, .ref h0)]) h dX5_notAway_29 rfl (nI_add v 1) (by rw [hL]; decide) rfl rfl ?_
          refine u_goto (tgt := 4) h dX5_notAway_32 (by decide) ?_
          exact ihL _ (by omega) (v + 1) (n + 0) rfl (by omega) (by rw [hn]; simp [cntZ, c1, c2])
  exact LL _ 0 0 rfl (Nat.zero_le _) rfl

theorem flX5_isLook_7 : FL wsX5_isLook RX5 7 5 0 := ⟨RX5, TX5, 18, rfl, by decide, by decide +kernel, by decide +kernel⟩
set_option maxHeartbeats 8000000 in
set_option maxRecDepth 100000 in
theorem kX5_isLook (G : Gx) (h0 qz : Nat) (fs : List Value) (hfz : fs[0]? = some (.ref qz)) (z : Zf) (v : Nat) (hv : v < 6) (hW : Wf z) : MC G yX5_isLook wsX5_isLook ({ frames := 0, cells := 0, slots := 0, locals := 0 } : Room) [.ref h0, .int (nI v)] [(h0, .inr (5, fs)), (qz, aI G 86 z)] (fun v' u' => v' = some (.int (bI (isLook z v))) ∧ u' = [(h0, .inr (5, fs)), (qz, aI G 86 z)]) 0 0 := by
  refine mc_of (cc := cX5_isLook) (maxL := 3) (ret := (some .boolean)) (by decide) rfl (Nat.le_of_ble_eq_true rfl) (fun X h hR hL hRT => ?_)
  refine u_eql (lv' := [(0, .ref h0), (1, .int (nI v))]) rfl ?_
  refine u_aload_n h dX5_isLook_0 rfl 0 rfl rfl ?_
  refine u_get h flX5_isLook_7 0 (v := .ref qz) rfl hfz dX5_isLook_1 rfl ?_
  refine u_iconst (v := 0) h dX5_isLook_4 (by decide) rfl ?_
  refine u_iload_n h dX5_isLook_5 rfl 1 rfl rfl ?_
  refine u_iadd (v := (nI v)) h dX5_isLook_6 (by have h9 := nI_add 0 v; rw [Nat.zero_add] at h9; exact h9) rfl ?_
  refine u_iald h (n := v) 1 rfl (by omega) (by omega) dX5_isLook_7 rfl ?_
  refine u_istore_n (lv' := [(2, .int (z v)), (0, .ref h0), (1, .int (nI v))]) h dX5_isLook_8 rfl (by rw [hL]; decide) rfl rfl ?_
  refine u_aload_n h dX5_isLook_9 rfl 1 rfl rfl ?_
  refine u_get h flX5_isLook_7 0 (v := .ref qz) rfl hfz dX5_isLook_10 rfl ?_
  refine u_bipush (v := 60) h dX5_isLook_13 (by decide) rfl ?_
  refine u_iald h (n := 60) 1 rfl (by omega) (by omega) dX5_isLook_15 rfl ?_
  refine u_if_ne (tgt := 62) h dX5_isLook_16 (by decide) rfl (fun c1 => ?_) (fun c1 => ?_)
  · refine u_iload_n h dX5_isLook_62 rfl 0 rfl rfl ?_
    refine u_iconst (v := 3) h dX5_isLook_63 (by decide) rfl ?_
    refine u_icmp_eq (tgt := 69) h dX5_isLook_64 (by decide) rfl (fun c2 => ?_) (fun c2 => ?_)
    · refine u_aload_n h dX5_isLook_69 rfl 1 rfl rfl ?_
      refine u_get h flX5_isLook_7 0 (v := .ref qz) rfl hfz dX5_isLook_70 rfl ?_
      refine u_bipush (v := 60) h dX5_isLook_73 (by decide) rfl ?_
      refine u_iald h (n := 60) 1 rfl (by omega) (by omega) dX5_isLook_75 rfl ?_
      refine u_iconst (v := 1) h dX5_isLook_76 (by decide) rfl ?_
      refine u_icmp_ne (tgt := 109) h dX5_isLook_77 (by decide) rfl (fun c3 => ?_) (fun c3 => ?_)
      · refine u_aload_n h dX5_isLook_109 rfl 1 rfl rfl ?_
        refine u_get h flX5_isLook_7 0 (v := .ref qz) rfl hfz dX5_isLook_110 rfl ?_
        refine u_bipush (v := 60) h dX5_isLook_113 (by decide) rfl ?_
        refine u_iald h (n := 60) 1 rfl (by omega) (by omega) dX5_isLook_115 rfl ?_
        refine u_iconst (v := 2) h dX5_isLook_116 (by decide) rfl ?_
        refine u_icmp_ne (tgt := 147) h dX5_isLook_117 (by decide) rfl (fun c4 => ?_) (fun c4 => ?_)
        · refine u_aload_n h dX5_isLook_147 rfl 1 rfl rfl ?_
          refine u_get h flX5_isLook_7 0 (v := .ref qz) rfl hfz dX5_isLook_148 rfl ?_
          refine u_bipush (v := 52) h dX5_isLook_151 (by decide) rfl ?_
          refine u_iald h (n := 52) 1 rfl (by omega) (by omega) dX5_isLook_153 rfl ?_
          refine u_iconst (v := 1) h dX5_isLook_154 (by decide) rfl ?_
          refine u_icmp_ne (tgt := 162) h dX5_isLook_155 (by decide) rfl (fun c5 => ?_) (fun c5 => ?_)
          · refine u_iconst (v := 0) h dX5_isLook_162 (by decide) rfl ?_
            exact u_zret h hRT dX5_isLook_163 rfl (by omega) (by omega) (by refine ⟨congrArg (fun b => some (Value.int b)) ?_, rfl⟩; first | (simp [isLook, bI, c1, c2, c3, c4, c5]; done) | (exfalso; simp_all; done) | (simp_all [isLook, bI, c1, c2, c3, c4, c5]; done))
          · refine u_iconst (v := 1) h dX5_isLook_158 (by decide) rfl ?_
            refine u_goto (tgt := 163) h dX5_isLook_159 (by decide) ?_
            exact u_zret h hRT dX5_isLook_163 rfl (by omega) (by omega) (by refine ⟨congrArg (fun b => some (Value.int b)) ?_, rfl⟩; first | (simp [isLook, bI, c1, c2, c3, c4, c5]; done) | (exfalso; simp_all; done) | (simp_all [isLook, bI, c1, c2, c3, c4, c5]; done))
        · refine u_aload_n h dX5_isLook_120 rfl 1 rfl rfl ?_
          refine u_get h flX5_isLook_7 0 (v := .ref qz) rfl hfz dX5_isLook_121 rfl ?_
          refine u_bipush (v := 36) h dX5_isLook_124 (by decide) rfl ?_
          refine u_iload_n h dX5_isLook_126 rfl 2 rfl rfl ?_
          refine u_iadd (v := (nI (36 + v))) h dX5_isLook_127 (nI_add 36 v) rfl ?_
          refine u_iald h (n := (36 + v)) 1 rfl (by omega) (by omega) dX5_isLook_128 rfl ?_
          refine u_aload_n h dX5_isLook_129 rfl 1 rfl rfl ?_
          refine u_get h flX5_isLook_7 0 (v := .ref qz) rfl hfz dX5_isLook_130 rfl ?_
          refine u_bipush (v := 51) h dX5_isLook_133 (by decide) rfl ?_
          refine u_iald h (n := 51) 1 rfl (by omega) (by omega) dX5_isLook_135 rfl ?_
          refine u_icmp_eq (tgt := 143) h dX5_isLook_136 (by decide) rfl (fun c6 => ?_) (fun c6 => ?_)
          · refine u_iconst (v := 0) h dX5_isLook_143 (by decide) rfl ?_
            refine u_goto (tgt := 163) h dX5_isLook_144 (by decide) ?_
            exact u_zret h hRT dX5_isLook_163 rfl (by omega) (by omega) (by refine ⟨congrArg (fun b => some (Value.int b)) ?_, rfl⟩; first | (simp [isLook, bI, c1, c2, c3, c4, c6]; done) | (exfalso; simp_all; done) | (simp_all [isLook, bI, c1, c2, c3, c4, c6]; done))
          · refine u_iconst (v := 1) h dX5_isLook_139 (by decide) rfl ?_
            refine u_goto (tgt := 163) h dX5_isLook_140 (by decide) ?_
            exact u_zret h hRT dX5_isLook_163 rfl (by omega) (by omega) (by refine ⟨congrArg (fun b => some (Value.int b)) ?_, rfl⟩; first | (simp [isLook, bI, c1, c2, c3, c4, c6]; done) | (exfalso; simp_all; done) | (simp_all [isLook, bI, c1, c2, c3, c4, c6]; done))
      · refine u_aload_n h dX5_isLook_80 rfl 1 rfl rfl ?_
        refine u_get h flX5_isLook_7 0 (v := .ref qz) rfl hfz dX5_isLook_81 rfl ?_
        refine u_bipush (v := 42) h dX5_isLook_84 (by decide) rfl ?_
        refine u_aload_n h dX5_isLook_86 rfl 1 rfl rfl ?_
        refine u_get h flX5_isLook_7 0 (v := .ref qz) rfl hfz dX5_isLook_87 rfl ?_
        refine u_bipush (v := 30) h dX5_isLook_90 (by decide) rfl ?_
        refine u_iload_n h dX5_isLook_92 rfl 2 rfl rfl ?_
        refine u_iadd (v := (nI (30 + v))) h dX5_isLook_93 (nI_add 30 v) rfl ?_
        refine u_iald h (n := (30 + v)) 1 rfl (by omega) (by omega) dX5_isLook_94 rfl ?_
        obtain ⟨a7, ha7, ea7⟩ := hW.w c3 hv c2
        refine u_top (y := nI a7) ea7 ?_
        refine u_iadd (v := (nI (42 + a7))) h dX5_isLook_95 (nI_add 42 a7) rfl ?_
        refine u_iald h (n := (42 + a7)) 1 rfl (by omega) (by omega) dX5_isLook_96 rfl ?_
        refine u_iconst (v := 1) h dX5_isLook_97 (by decide) rfl ?_
        refine u_icmp_ne (tgt := 105) h dX5_isLook_98 (by decide) rfl (fun c8 => ?_) (fun c8 => ?_)
        · refine u_iconst (v := 0) h dX5_isLook_105 (by decide) rfl ?_
          refine u_goto (tgt := 163) h dX5_isLook_106 (by decide) ?_
          exact u_zret h hRT dX5_isLook_163 rfl (by omega) (by omega) (by refine ⟨congrArg (fun b => some (Value.int b)) ?_, rfl⟩; first | (simp [isLook, bI, c1, c2, c3, ea7, c8, ix_nI (show a7 < 2 ^ 31 by omega)]; done) | (exfalso; simp_all; done) | (simp_all [isLook, bI, c1, c2, c3, ea7, c8, ix_nI (show a7 < 2 ^ 31 by omega)]; done))
        · refine u_iconst (v := 1) h dX5_isLook_101 (by decide) rfl ?_
          refine u_goto (tgt := 163) h dX5_isLook_102 (by decide) ?_
          exact u_zret h hRT dX5_isLook_163 rfl (by omega) (by omega) (by refine ⟨congrArg (fun b => some (Value.int b)) ?_, rfl⟩; first | (simp [isLook, bI, c1, c2, c3, ea7, c8, ix_nI (show a7 < 2 ^ 31 by omega)]; done) | (exfalso; simp_all; done) | (simp_all [isLook, bI, c1, c2, c3, ea7, c8, ix_nI (show a7 < 2 ^ 31 by omega)]; done))
    · refine u_iconst (v := 0) h dX5_isLook_67 (by decide) rfl ?_
      exact u_zret h hRT dX5_isLook_68 rfl (by omega) (by omega) (by refine ⟨congrArg (fun b => some (Value.int b)) ?_, rfl⟩; first | (simp [isLook, bI, c1, c2]; done) | (exfalso; simp_all; done) | (simp_all [isLook, bI, c1, c2]; done))
  · refine u_iload_n h dX5_isLook_19 rfl 0 rfl rfl ?_
    refine u_iconst (v := 3) h dX5_isLook_20 (by decide) rfl ?_
    refine u_icmp_ne (tgt := 37) h dX5_isLook_21 (by decide) rfl (fun c9 => ?_) (fun c9 => ?_)
    · refine u_iload_n h dX5_isLook_37 rfl 0 rfl rfl ?_
      refine u_bipush (v := 6) h dX5_isLook_38 (by decide) rfl ?_
      refine u_icmp_ne (tgt := 60) h dX5_isLook_40 (by decide) rfl (fun c10 => ?_) (fun c10 => ?_)
      · refine u_iconst (v := 0) h dX5_isLook_60 (by decide) rfl ?_
        exact u_zret h hRT dX5_isLook_61 rfl (by omega) (by omega) (by refine ⟨congrArg (fun b => some (Value.int b)) ?_, rfl⟩; first | (simp [isLook, bI, c1, c9, c10]; done) | (exfalso; simp_all; done) | (simp_all [isLook, bI, c1, c9, c10]; done))
      · refine u_aload_n h dX5_isLook_43 rfl 1 rfl rfl ?_
        refine u_get h flX5_isLook_7 0 (v := .ref qz) rfl hfz dX5_isLook_44 rfl ?_
        refine u_bipush (v := 6) h dX5_isLook_47 (by decide) rfl ?_
        refine u_iload_n h dX5_isLook_49 rfl 2 rfl rfl ?_
        refine u_iadd (v := (nI (6 + v))) h dX5_isLook_50 (nI_add 6 v) rfl ?_
        refine u_iald h (n := (6 + v)) 1 rfl (by omega) (by omega) dX5_isLook_51 rfl ?_
        refine u_iconst (v := (-1)) h dX5_isLook_52 (by decide) rfl ?_
        refine u_icmp_ne (tgt := 60) h dX5_isLook_53 (by decide) rfl (fun c11 => ?_) (fun c11 => ?_)
        · refine u_iconst (v := 0) h dX5_isLook_60 (by decide) rfl ?_
          exact u_zret h hRT dX5_isLook_61 rfl (by omega) (by omega) (by refine ⟨congrArg (fun b => some (Value.int b)) ?_, rfl⟩; first | (simp [isLook, bI, c1, c9, c10, c11]; done) | (exfalso; simp_all; done) | (simp_all [isLook, bI, c1, c9, c10, c11]; done))
        · refine u_iconst (v := 1) h dX5_isLook_56 (by decide) rfl ?_
          refine u_goto (tgt := 61) h dX5_isLook_57 (by decide) ?_
          exact u_zret h hRT dX5_isLook_61 rfl (by omega) (by omega) (by refine ⟨congrArg (fun b => some (Value.int b)) ?_, rfl⟩; first | (simp [isLook, bI, c1, c9, c10, c11]; done) | (exfalso; simp_all; done) | (simp_all [isLook, bI, c1, c9, c10, c11]; done))
    · refine u_aload_n h dX5_isLook_24 rfl 1 rfl rfl ?_
      refine u_get h flX5_isLook_7 0 (v := .ref qz) rfl hfz dX5_isLook_25 rfl ?_
      refine u_bipush (v := 12) h dX5_isLook_28 (by decide) rfl ?_
      refine u_iload_n h dX5_isLook_30 rfl 2 rfl rfl ?_
      refine u_iadd (v := (nI (12 + v))) h dX5_isLook_31 (nI_add 12 v) rfl ?_
      refine u_iald h (n := (12 + v)) 1 rfl (by omega) (by omega) dX5_isLook_32 rfl ?_
      refine u_iconst (v := 1) h dX5_isLook_33 (by decide) rfl ?_
      refine u_icmp_eq (tgt := 56) h dX5_isLook_34 (by decide) rfl (fun c12 => ?_) (fun c12 => ?_)
      · refine u_iconst (v := 1) h dX5_isLook_56 (by decide) rfl ?_
        refine u_goto (tgt := 61) h dX5_isLook_57 (by decide) ?_
        exact u_zret h hRT dX5_isLook_61 rfl (by omega) (by omega) (by refine ⟨congrArg (fun b => some (Value.int b)) ?_, rfl⟩; first | (simp [isLook, bI, c1, c9, c12]; done) | (exfalso; simp_all; done) | (simp_all [isLook, bI, c1, c9, c12]; done))
      · refine u_iload_n h dX5_isLook_37 rfl 0 rfl rfl ?_
        refine u_bipush (v := 6) h dX5_isLook_38 (by decide) rfl ?_
        refine u_icmp_ne (tgt := 60) h dX5_isLook_40 (by decide) rfl (fun c13 => ?_) (fun c13 => ?_)
        · refine u_iconst (v := 0) h dX5_isLook_60 (by decide) rfl ?_
          exact u_zret h hRT dX5_isLook_61 rfl (by omega) (by omega) (by refine ⟨congrArg (fun b => some (Value.int b)) ?_, rfl⟩; first | (simp [isLook, bI, c1, c9, c12, c13]; done) | (exfalso; simp_all; done) | (simp_all [isLook, bI, c1, c9, c12, c13]; done))
        · refine u_aload_n h dX5_isLook_43 rfl 1 rfl rfl ?_
          refine u_get h flX5_isLook_7 0 (v := .ref qz) rfl hfz dX5_isLook_44 rfl ?_
          refine u_bipush (v := 6) h dX5_isLook_47 (by decide) rfl ?_
          refine u_iload_n h dX5_isLook_49 rfl 2 rfl rfl ?_
          refine u_iadd (v := (nI (6 + v))) h dX5_isLook_50 (nI_add 6 v) rfl ?_
          refine u_iald h (n := (6 + v)) 1 rfl (by omega) (by omega) dX5_isLook_51 rfl ?_
          refine u_iconst (v := (-1)) h dX5_isLook_52 (by decide) rfl ?_
          refine u_icmp_ne (tgt := 60) h dX5_isLook_53 (by decide) rfl (fun c14 => ?_) (fun c14 => ?_)
          · refine u_iconst (v := 0) h dX5_isLook_60 (by decide) rfl ?_
            exact u_zret h hRT dX5_isLook_61 rfl (by omega) (by omega) (by refine ⟨congrArg (fun b => some (Value.int b)) ?_, rfl⟩; first | (simp [isLook, bI, c1, c9, c12, c13, c14]; done) | (exfalso; simp_all; done) | (simp_all [isLook, bI, c1, c9, c12, c13, c14]; done))
          · refine u_iconst (v := 1) h dX5_isLook_56 (by decide) rfl ?_
            refine u_goto (tgt := 61) h dX5_isLook_57 (by decide) ?_
            exact u_zret h hRT dX5_isLook_61 rfl (by omega) (by omega) (by refine ⟨congrArg (fun b => some (Value.int b)) ?_, rfl⟩; first | (simp [isLook, bI, c1, c9, c12, c13, c14]; done) | (exfalso; simp_all; done) | (simp_all [isLook, bI, c1, c9, c12, c13, c14]; done))

set_option maxHeartbeats 8000000 in
set_option maxRecDepth 100000 in
theorem kX5_cost (G : Gx) (k s : Int32) : MC G yX5_cost wsX5_cost ({ frames := 0, cells := 0, slots := 0, locals := 0 } : Room) [.int k, .int s] [] (fun v' u' => v' = some (.int (costM k s)) ∧ u' = []) 0 0 := by
  refine mc_of (cc := cX5_cost) (maxL := 2) (ret := (some .int)) (by decide) rfl (Nat.le_of_ble_eq_true rfl) (fun X h hR hL hRT => ?_)
  refine u_eql (lv' := [(0, .int k), (1, .int s)]) rfl ?_
  refine u_iload_n h dX5_cost_0 rfl 0 rfl rfl ?_
  by_cases k1 : k = 0
  · refine u_tableIn (off := 27) (tgt := 28) h dX5_cost_1 (by rw [k1]; decide) (by rw [k1]; decide) (by rw [k1]; rfl) (by decide) ?_
    refine u_iload_n h dX5_cost_28 rfl 1 rfl rfl ?_
    refine u_iconst (v := 1) h dX5_cost_29 (by decide) rfl ?_
    refine u_icmp_eq (tgt := 49) h dX5_cost_30 (by decide) rfl (fun c2 => ?_) (fun c2 => ?_)
    · refine u_iconst (v := 1) h dX5_cost_49 (by decide) rfl ?_
      refine u_goto (tgt := 54) h dX5_cost_50 (by decide) ?_
      exact u_iret h hRT dX5_cost_54 (by omega) (by omega) (by refine ⟨congrArg (fun b => some (Value.int b)) ?_, rfl⟩; first | (simp [costM, k1, c2]; done) | (exfalso; simp_all; done) | (simp_all [costM, k1, c2]; done))
    · refine u_iload_n h dX5_cost_33 rfl 1 rfl rfl ?_
      refine u_iconst (v := 2) h dX5_cost_34 (by decide) rfl ?_
      refine u_icmp_eq (tgt := 49) h dX5_cost_35 (by decide) rfl (fun c3 => ?_) (fun c3 => ?_)
      · refine u_iconst (v := 1) h dX5_cost_49 (by decide) rfl ?_
        refine u_goto (tgt := 54) h dX5_cost_50 (by decide) ?_
        exact u_iret h hRT dX5_cost_54 (by omega) (by omega) (by refine ⟨congrArg (fun b => some (Value.int b)) ?_, rfl⟩; first | (simp [costM, k1, c2, c3]; done) | (exfalso; simp_all; done) | (simp_all [costM, k1, c2, c3]; done))
      · refine u_iload_n h dX5_cost_38 rfl 1 rfl rfl ?_
        refine u_iconst (v := 5) h dX5_cost_39 (by decide) rfl ?_
        refine u_icmp_eq (tgt := 49) h dX5_cost_40 (by decide) rfl (fun c4 => ?_) (fun c4 => ?_)
        · refine u_iconst (v := 1) h dX5_cost_49 (by decide) rfl ?_
          refine u_goto (tgt := 54) h dX5_cost_50 (by decide) ?_
          exact u_iret h hRT dX5_cost_54 (by omega) (by omega) (by refine ⟨congrArg (fun b => some (Value.int b)) ?_, rfl⟩; first | (simp [costM, k1, c2, c3, c4]; done) | (exfalso; simp_all; done) | (simp_all [costM, k1, c2, c3, c4]; done))
        · refine u_iload_n h dX5_cost_43 rfl 1 rfl rfl ?_
          refine u_bipush (v := 7) h dX5_cost_44 (by decide) rfl ?_
          refine u_icmp_ne (tgt := 53) h dX5_cost_46 (by decide) rfl (fun c5 => ?_) (fun c5 => ?_)
          · refine u_iconst (v := 0) h dX5_cost_53 (by decide) rfl ?_
            exact u_iret h hRT dX5_cost_54 (by omega) (by omega) (by refine ⟨congrArg (fun b => some (Value.int b)) ?_, rfl⟩; first | (simp [costM, k1, c2, c3, c4, c5]; done) | (exfalso; simp_all; done) | (simp_all [costM, k1, c2, c3, c4, c5]; done))
          · refine u_iconst (v := 1) h dX5_cost_49 (by decide) rfl ?_
            refine u_goto (tgt := 54) h dX5_cost_50 (by decide) ?_
            exact u_iret h hRT dX5_cost_54 (by omega) (by omega) (by refine ⟨congrArg (fun b => some (Value.int b)) ?_, rfl⟩; first | (simp [costM, k1, c2, c3, c4, c5]; done) | (exfalso; simp_all; done) | (simp_all [costM, k1, c2, c3, c4, c5]; done))
  by_cases k6 : k = 1
  · refine u_tableIn (off := 54) (tgt := 55) h dX5_cost_1 (by rw [k6]; decide) (by rw [k6]; decide) (by rw [k6]; rfl) (by decide) ?_
    refine u_iload_n h dX5_cost_55 rfl 1 rfl rfl ?_
    refine u_iconst (v := 1) h dX5_cost_56 (by decide) rfl ?_
    refine u_icmp_eq (tgt := 65) h dX5_cost_57 (by decide) rfl (fun c7 => ?_) (fun c7 => ?_)
    · refine u_iconst (v := 1) h dX5_cost_65 (by decide) rfl ?_
      refine u_goto (tgt := 70) h dX5_cost_66 (by decide) ?_
      exact u_iret h hRT dX5_cost_70 (by omega) (by omega) (by refine ⟨congrArg (fun b => some (Value.int b)) ?_, rfl⟩; first | (simp [costM, k6, c7]; done) | (exfalso; simp_all; done) | (simp_all [costM, k6, c7]; done))
    · refine u_iload_n h dX5_cost_60 rfl 1 rfl rfl ?_
      refine u_iconst (v := 3) h dX5_cost_61 (by decide) rfl ?_
      refine u_icmp_ne (tgt := 69) h dX5_cost_62 (by decide) rfl (fun c8 => ?_) (fun c8 => ?_)
      · refine u_iconst (v := 0) h dX5_cost_69 (by decide) rfl ?_
        exact u_iret h hRT dX5_cost_70 (by omega) (by omega) (by refine ⟨congrArg (fun b => some (Value.int b)) ?_, rfl⟩; first | (simp [costM, k6, c7, c8]; done) | (exfalso; simp_all; done) | (simp_all [costM, k6, c7, c8]; done))
      · refine u_iconst (v := 1) h dX5_cost_65 (by decide) rfl ?_
        refine u_goto (tgt := 70) h dX5_cost_66 (by decide) ?_
        exact u_iret h hRT dX5_cost_70 (by omega) (by omega) (by refine ⟨congrArg (fun b => some (Value.int b)) ?_, rfl⟩; first | (simp [costM, k6, c7, c8]; done) | (exfalso; simp_all; done) | (simp_all [costM, k6, c7, c8]; done))
  by_cases k9 : k = 2
  · refine u_tableIn (off := 70) (tgt := 71) h dX5_cost_1 (by rw [k9]; decide) (by rw [k9]; decide) (by rw [k9]; rfl) (by decide) ?_
    refine u_iconst (v := 1) h dX5_cost_71 (by decide) rfl ?_
    exact u_iret h hRT dX5_cost_72 (by omega) (by omega) (by refine ⟨congrArg (fun b => some (Value.int b)) ?_, rfl⟩; first | (simp [costM, k9]; done) | (exfalso; simp_all; done) | (simp_all [costM, k9]; done))
  refine u_tableOut (tgt := 73) h dX5_cost_1 (ti_out (n := 3) (by decide) (fun k9 hk9 => by rcases (show k9 = 0 ∨ k9 = 1 ∨ k9 = 2 by omega) with rfl | rfl | rfl <;> assumption)) (by decide) ?_
  refine u_iload_n h dX5_cost_73 rfl 1 rfl rfl ?_
  refine u_if_ne (tgt := 81) h dX5_cost_74 (by decide) rfl (fun c10 => ?_) (fun c10 => ?_)
  · refine u_iconst (v := 1) h dX5_cost_81 (by decide) rfl ?_
    exact u_iret h hRT dX5_cost_82 (by omega) (by omega) (by refine ⟨congrArg (fun b => some (Value.int b)) ?_, rfl⟩; first | (simp [costM, c10, k1, k6, k9]; done) | (exfalso; simp_all; done) | (simp_all [costM, c10, k1, k6, k9]; done))
  · refine u_iconst (v := 0) h dX5_cost_77 (by decide) rfl ?_
    refine u_goto (tgt := 82) h dX5_cost_78 (by decide) ?_
    exact u_iret h hRT dX5_cost_82 (by omega) (by omega) (by refine ⟨congrArg (fun b => some (Value.int b)) ?_, rfl⟩; first | (simp [costM, c10, k1, k6, k9]; done) | (exfalso; simp_all; done) | (simp_all [costM, c10, k1, k6, k9]; done))

theorem flX5_changeNudges_7 : FL wsX5_changeNudges RX5 7 5 0 := ⟨RX5, TX5, 18, rfl, by decide, by decide +kernel, by decide +kernel⟩
set_option maxHeartbeats 8000000 in
set_option maxRecDepth 100000 in
theorem kX5_changeNudges (G : Gx) (h0 qz : Nat) (fs : List Value) (hfz : fs[0]? = some (.ref qz)) (z : Zf) (v : Nat) (hv : v < 6) (hW : Wf z) (hk : z 60 = 0) : MC G yX5_changeNudges wsX5_changeNudges ({ frames := 0, cells := 0, slots := 0, locals := 0 } : Room) [.ref h0, .int (nI v)] [(h0, .inr (5, fs)), (qz, aI G 86 z)] (fun v' u' => v' = none ∧ u' = [(h0, .inr (5, fs)), (qz, aI G 86 (chN z v))]) 0 0 := by
  refine mc_of (cc := cX5_changeNudges) (maxL := 4) (ret := none) (by decide) rfl (Nat.le_of_ble_eq_true rfl) (fun X h hR hL hRT => ?_)
  refine u_eql (lv' := [(0, .ref h0), (1, .int (nI v))]) rfl ?_
  refine u_aload_n h dX5_changeNudges_0 rfl 0 rfl rfl ?_
  refine u_get h flX5_changeNudges_7 0 (v := .ref qz) rfl hfz dX5_changeNudges_1 rfl ?_
  refine u_iconst (v := 0) h dX5_changeNudges_4 (by decide) rfl ?_
  refine u_iload_n h dX5_changeNudges_5 rfl 1 rfl rfl ?_
  refine u_iadd (v := (nI v)) h dX5_changeNudges_6 (by have h9 := nI_add 0 v; rw [Nat.zero_add] at h9; exact h9) rfl ?_
  refine u_iald h (n := v) 1 rfl (by omega) (by omega) dX5_changeNudges_7 rfl ?_
  refine u_istore_n (lv' := [(2, .int (z v)), (0, .ref h0), (1, .int (nI v))]) h dX5_changeNudges_8 rfl (by rw [hL]; decide) rfl rfl ?_
  refine u_aload_n h dX5_changeNudges_9 rfl 1 rfl rfl ?_
  refine u_get h flX5_changeNudges_7 0 (v := .ref qz) rfl hfz dX5_changeNudges_10 rfl ?_
  refine u_bipush (v := 6) h dX5_changeNudges_13 (by decide) rfl ?_
  refine u_iload_n h dX5_changeNudges_15 rfl 2 rfl rfl ?_
  refine u_iadd (v := (nI (6 + v))) h dX5_changeNudges_16 (nI_add 6 v) rfl ?_
  refine u_iald h (n := (6 + v)) 1 rfl (by omega) (by omega) dX5_changeNudges_17 rfl ?_
  refine u_istore_n (lv' := [(3, .int (z (6 + v))), (2, .int (z v)), (0, .ref h0), (1, .int (nI v))]) h dX5_changeNudges_18 rfl (by rw [hL]; decide) rfl rfl ?_
  refine u_iload_n h dX5_changeNudges_19 rfl 1 rfl rfl ?_
  by_cases k1 : (z v) = 0
  · refine u_tableIn (off := 44) (tgt := 64) h dX5_changeNudges_20 (by rw [k1]; decide) (by rw [k1]; decide) (by rw [k1]; rfl) (by decide) ?_
    refine u_aload_n h dX5_changeNudges_64 rfl 2 rfl rfl ?_
    refine u_get h flX5_changeNudges_7 0 (v := .ref qz) rfl hfz dX5_changeNudges_65 rfl ?_
    refine u_bipush (v := 6) h dX5_changeNudges_68 (by decide) rfl ?_
    refine u_iload_n h dX5_changeNudges_70 rfl 3 rfl rfl ?_
    refine u_iadd (v := (nI (6 + v))) h dX5_changeNudges_71 (nI_add 6 v) rfl ?_
    refine u_iconst (v := (-1)) h dX5_changeNudges_72 (by decide) rfl ?_
    refine u_iast h (n := (6 + v)) (v := (-1)) 1 rfl (by omega) (by omega) rfl (ws' := [(h0, .inr (5, fs)), (qz, aI G 86 (upd z (6 + v) (-1)))]) rfl dX5_changeNudges_73 rfl ?_
    refine u_aload_n h dX5_changeNudges_74 rfl 2 rfl rfl ?_
    refine u_get h flX5_changeNudges_7 0 (v := .ref qz) rfl hfz dX5_changeNudges_75 rfl ?_
    refine u_bipush (v := 12) h dX5_changeNudges_78 (by decide) rfl ?_
    refine u_iload_n h dX5_changeNudges_80 rfl 3 rfl rfl ?_
    refine u_iadd (v := (nI (12 + v))) h dX5_changeNudges_81 (nI_add 12 v) rfl ?_
    refine u_iconst (v := 1) h dX5_changeNudges_82 (by decide) rfl ?_
    refine u_iast h (n := (12 + v)) (v := 1) 1 rfl (by omega) (by omega) rfl (ws' := [(h0, .inr (5, fs)), (qz, aI G 86 (upd (upd z (6 + v) (-1)) (12 + v) 1))]) rfl dX5_changeNudges_83 rfl ?_
    refine u_aload_n h dX5_changeNudges_84 rfl 2 rfl rfl ?_
    refine u_get h flX5_changeNudges_7 0 (v := .ref qz) rfl hfz dX5_changeNudges_85 rfl ?_
    refine u_iconst (v := 0) h dX5_changeNudges_88 (by decide) rfl ?_
    refine u_iload_n h dX5_changeNudges_89 rfl 3 rfl rfl ?_
    refine u_iadd (v := (nI v)) h dX5_changeNudges_90 (by have h9 := nI_add 0 v; rw [Nat.zero_add] at h9; exact h9) rfl ?_
    refine u_iconst (v := 1) h dX5_changeNudges_91 (by decide) rfl ?_
    refine u_iast h (n := v) (v := 1) 1 rfl (by omega) (by omega) rfl (ws' := [(h0, .inr (5, fs)), (qz, aI G 86 (upd (upd (upd z (6 + v) (-1)) (12 + v) 1) v 1))]) rfl dX5_changeNudges_92 rfl ?_
    refine u_goto (tgt := 310) h dX5_changeNudges_93 (by decide) ?_
    exact u_vret h hRT dX5_changeNudges_310 (by omega) (by omega) (by refine ⟨rfl, ?_⟩; first | (simp [chN, k1]; done) | (exfalso; simp_all; done) | (simp_all [chN, k1]; done))
  by_cases k2 : (z v) = 1
  · refine u_tableIn (off := 76) (tgt := 96) h dX5_changeNudges_20 (by rw [k2]; decide) (by rw [k2]; decide) (by rw [k2]; rfl) (by decide) ?_
    refine u_aload_n h dX5_changeNudges_96 rfl 2 rfl rfl ?_
    refine u_get h flX5_changeNudges_7 0 (v := .ref qz) rfl hfz dX5_changeNudges_97 rfl ?_
    refine u_bipush (v := 18) h dX5_changeNudges_100 (by decide) rfl ?_
    refine u_iload_n h dX5_changeNudges_102 rfl 3 rfl rfl ?_
    refine u_iadd (v := (nI (18 + v))) h dX5_changeNudges_103 (nI_add 18 v) rfl ?_
    refine u_aload_n h dX5_changeNudges_104 rfl 2 rfl rfl ?_
    refine u_get h flX5_changeNudges_7 0 (v := .ref qz) rfl hfz dX5_changeNudges_105 rfl ?_
    refine u_bipush (v := 49) h dX5_changeNudges_108 (by decide) rfl ?_
    refine u_iald h (n := 49) 1 rfl (by omega) (by omega) dX5_changeNudges_110 rfl ?_
    refine u_iast h (n := (18 + v)) (v := (z 49)) 1 rfl (by omega) (by omega) rfl (ws' := [(h0, .inr (5, fs)), (qz, aI G 86 (upd z (18 + v) (z 49)))]) rfl dX5_changeNudges_111 rfl ?_
    refine u_aload_n h dX5_changeNudges_112 rfl 2 rfl rfl ?_
    refine u_get h flX5_changeNudges_7 0 (v := .ref qz) rfl hfz dX5_changeNudges_113 rfl ?_
    refine u_iconst (v := 0) h dX5_changeNudges_116 (by decide) rfl ?_
    refine u_iload_n h dX5_changeNudges_117 rfl 3 rfl rfl ?_
    refine u_iadd (v := (nI v)) h dX5_changeNudges_118 (by have h9 := nI_add 0 v; rw [Nat.zero_add] at h9; exact h9) rfl ?_
    refine u_aload_n h dX5_changeNudges_119 rfl 2 rfl rfl ?_
    refine u_get h flX5_changeNudges_7 0 (v := .ref qz) rfl hfz dX5_changeNudges_120 rfl ?_
    refine u_bipush (v := 49) h dX5_changeNudges_123 (by decide) rfl ?_
    refine u_iald h (n := 49) 1 rfl (by omega) (by omega) dX5_changeNudges_125 rfl ?_
    refine u_top (y := (z 49)) (by rw [pk_un (by omega)]) ?_
    refine u_iconst (v := (-1)) h dX5_changeNudges_126 (by decide) rfl ?_
    refine u_icmp_ne (tgt := 134) h dX5_changeNudges_127 (by decide) rfl (fun c3 => ?_) (fun c3 => ?_)
    · refine u_iconst (v := 2) h dX5_changeNudges_134 (by decide) rfl ?_
      refine u_iast h (n := v) (v := 2) 1 rfl (by omega) (by omega) rfl (ws' := [(h0, .inr (5, fs)), (qz, aI G 86 (upd (upd z (18 + v) (z 49)) v 2))]) rfl dX5_changeNudges_135 rfl ?_
      refine u_aload_n h dX5_changeNudges_136 rfl 2 rfl rfl ?_
      refine u_get h flX5_changeNudges_7 0 (v := .ref qz) rfl hfz dX5_changeNudges_137 rfl ?_
      refine u_bipush (v := 49) h dX5_changeNudges_140 (by decide) rfl ?_
      refine u_iload_n h dX5_changeNudges_142 rfl 3 rfl rfl ?_
      refine u_iast h (n := 49) (v := (nI v)) 1 rfl (by omega) (by omega) rfl (ws' := [(h0, .inr (5, fs)), (qz, aI G 86 (upd (upd (upd z (18 + v) (z 49)) v 2) 49 (nI v)))]) rfl dX5_changeNudges_143 rfl ?_
      refine u_goto (tgt := 310) h dX5_changeNudges_144 (by decide) ?_
      exact u_vret h hRT dX5_changeNudges_310 (by omega) (by omega) (by refine ⟨rfl, ?_⟩; first | (simp [chN, k2, c3]; done) | (exfalso; simp_all; done) | (simp_all [chN, k2, c3]; done))
    · refine u_iconst (v := 4) h dX5_changeNudges_130 (by decide) rfl ?_
      refine u_goto (tgt := 135) h dX5_changeNudges_131 (by decide) ?_
      refine u_iast h (n := v) (v := 4) 1 rfl (by omega) (by omega) rfl (ws' := [(h0, .inr (5, fs)), (qz, aI G 86 (upd (upd z (18 + v) (z 49)) v 4))]) rfl dX5_changeNudges_135 rfl ?_
      refine u_aload_n h dX5_changeNudges_136 rfl 2 rfl rfl ?_
      refine u_get h flX5_changeNudges_7 0 (v := .ref qz) rfl hfz dX5_changeNudges_137 rfl ?_
      refine u_bipush (v := 49) h dX5_changeNudges_140 (by decide) rfl ?_
      refine u_iload_n h dX5_changeNudges_142 rfl 3 rfl rfl ?_
      refine u_iast h (n := 49) (v := (nI v)) 1 rfl (by omega) (by omega) rfl (ws' := [(h0, .inr (5, fs)), (qz, aI G 86 (upd (upd (upd z (18 + v) (z 49)) v 4) 49 (nI v)))]) rfl dX5_changeNudges_143 rfl ?_
      refine u_goto (tgt := 310) h dX5_changeNudges_144 (by decide) ?_
      exact u_vret h hRT dX5_changeNudges_310 (by omega) (by omega) (by refine ⟨rfl, ?_⟩; first | (simp [chN, k2, c3]; done) | (exfalso; simp_all; done) | (simp_all [chN, k2, c3]; done))
  by_cases k4 : (z v) = 2
  · refine u_tableIn (off := 127) (tgt := 147) h dX5_changeNudges_20 (by rw [k4]; decide) (by rw [k4]; decide) (by rw [k4]; rfl) (by decide) ?_
    refine u_aload_n h dX5_changeNudges_147 rfl 2 rfl rfl ?_
    refine u_get h flX5_changeNudges_7 0 (v := .ref qz) rfl hfz dX5_changeNudges_148 rfl ?_
    refine u_bipush (v := 6) h dX5_changeNudges_151 (by decide) rfl ?_
    refine u_aload_n h dX5_changeNudges_153 rfl 2 rfl rfl ?_
    refine u_get h flX5_changeNudges_7 0 (v := .ref qz) rfl hfz dX5_changeNudges_154 rfl ?_
    refine u_bipush (v := 18) h dX5_changeNudges_157 (by decide) rfl ?_
    refine u_iload_n h dX5_changeNudges_159 rfl 3 rfl rfl ?_
    refine u_iadd (v := (nI (18 + v))) h dX5_changeNudges_160 (nI_add 18 v) rfl ?_
    refine u_iald h (n := (18 + v)) 1 rfl (by omega) (by omega) dX5_changeNudges_161 rfl ?_
    obtain ⟨a5, ha5, ea5⟩ := hW.a hk hv k4
    refine u_top (y := nI a5) ea5 ?_
    refine u_iadd (v := (nI (6 + a5))) h dX5_changeNudges_162 (nI_add 6 a5) rfl ?_
    refine u_iload_n h dX5_changeNudges_163 rfl 3 rfl rfl ?_
    refine u_iast h (n := (6 + a5)) (v := (nI v)) 1 rfl (by omega) (by omega) rfl (ws' := [(h0, .inr (5, fs)), (qz, aI G 86 (upd z (6 + a5) (nI v)))]) rfl dX5_changeNudges_164 rfl ?_
    refine u_aload_n h dX5_changeNudges_165 rfl 2 rfl rfl ?_
    refine u_get h flX5_changeNudges_7 0 (v := .ref qz) rfl hfz dX5_changeNudges_166 rfl ?_
    refine u_iconst (v := 0) h dX5_changeNudges_169 (by decide) rfl ?_
    refine u_iload_n h dX5_changeNudges_170 rfl 3 rfl rfl ?_
    refine u_iadd (v := (nI v)) h dX5_changeNudges_171 (by have h9 := nI_add 0 v; rw [Nat.zero_add] at h9; exact h9) rfl ?_
    refine u_iconst (v := 3) h dX5_changeNudges_172 (by decide) rfl ?_
    refine u_iast h (n := v) (v := 3) 1 rfl (by omega) (by omega) rfl (ws' := [(h0, .inr (5, fs)), (qz, aI G 86 (upd (upd z (6 + a5) (nI v)) v 3))]) rfl dX5_changeNudges_173 rfl ?_
    refine u_goto (tgt := 310) h dX5_changeNudges_174 (by decide) ?_
    exact u_vret h hRT dX5_changeNudges_310 (by omega) (by omega) (by refine ⟨rfl, ?_⟩; first | (simp [chN, k4, ea5, ix_nI (show a5 < 2 ^ 31 by omega)]; done) | (exfalso; simp_all; done) | (simp_all [chN, k4, ea5, ix_nI (show a5 < 2 ^ 31 by omega)]; done))
  by_cases k6 : (z v) = 3
  · refine u_tableIn (off := 157) (tgt := 177) h dX5_changeNudges_20 (by rw [k6]; decide) (by rw [k6]; decide) (by rw [k6]; rfl) (by decide) ?_
    refine u_aload_n h dX5_changeNudges_177 rfl 2 rfl rfl ?_
    refine u_get h flX5_changeNudges_7 0 (v := .ref qz) rfl hfz dX5_changeNudges_178 rfl ?_
    refine u_bipush (v := 18) h dX5_changeNudges_181 (by decide) rfl ?_
    refine u_iload_n h dX5_changeNudges_183 rfl 3 rfl rfl ?_
    refine u_iadd (v := (nI (18 + v))) h dX5_changeNudges_184 (nI_add 18 v) rfl ?_
    refine u_iconst (v := (-1)) h dX5_changeNudges_185 (by decide) rfl ?_
    refine u_iast h (n := (18 + v)) (v := (-1)) 1 rfl (by omega) (by omega) rfl (ws' := [(h0, .inr (5, fs)), (qz, aI G 86 (upd z (18 + v) (-1)))]) rfl dX5_changeNudges_186 rfl ?_
    refine u_aload_n h dX5_changeNudges_187 rfl 2 rfl rfl ?_
    refine u_get h flX5_changeNudges_7 0 (v := .ref qz) rfl hfz dX5_changeNudges_188 rfl ?_
    refine u_iconst (v := 0) h dX5_changeNudges_191 (by decide) rfl ?_
    refine u_iload_n h dX5_changeNudges_192 rfl 3 rfl rfl ?_
    refine u_iadd (v := (nI v)) h dX5_changeNudges_193 (by have h9 := nI_add 0 v; rw [Nat.zero_add] at h9; exact h9) rfl ?_
    refine u_iconst (v := 4) h dX5_changeNudges_194 (by decide) rfl ?_
    refine u_iast h (n := v) (v := 4) 1 rfl (by omega) (by omega) rfl (ws' := [(h0, .inr (5, fs)), (qz, aI G 86 (upd (upd z (18 + v) (-1)) v 4))]) rfl dX5_changeNudges_195 rfl ?_
    refine u_goto (tgt := 310) h dX5_changeNudges_196 (by decide) ?_
    exact u_vret h hRT dX5_changeNudges_310 (by omega) (by omega) (by refine ⟨rfl, ?_⟩; first | (simp [chN, k6]; done) | (exfalso; simp_all; done) | (simp_all [chN, k6]; done))
  by_cases k7 : (z v) = 4
  · refine u_tableIn (off := 179) (tgt := 199) h dX5_changeNudges_20 (by rw [k7]; decide) (by rw [k7]; decide) (by rw [k7]; rfl) (by decide) ?_
    refine u_aload_n h dX5_changeNudges_199 rfl 2 rfl rfl ?_
    refine u_get h flX5_changeNudges_7 0 (v := .ref qz) rfl hfz dX5_changeNudges_200 rfl ?_
    refine u_iconst (v := 0) h dX5_changeNudges_203 (by decide) rfl ?_
    refine u_iload_n h dX5_changeNudges_204 rfl 3 rfl rfl ?_
    refine u_iadd (v := (nI v)) h dX5_changeNudges_205 (by have h9 := nI_add 0 v; rw [Nat.zero_add] at h9; exact h9) rfl ?_
    refine u_iload_n h dX5_changeNudges_206 rfl 0 rfl rfl ?_
    refine u_iconst (v := (-1)) h dX5_changeNudges_207 (by decide) rfl ?_
    refine u_icmp_ne (tgt := 215) h dX5_changeNudges_208 (by decide) rfl (fun c8 => ?_) (fun c8 => ?_)
    · refine u_bipush (v := 7) h dX5_changeNudges_215 (by decide) rfl ?_
      refine u_iast h (n := v) (v := 7) 1 rfl (by omega) (by omega) rfl (ws' := [(h0, .inr (5, fs)), (qz, aI G 86 (upd z v 7))]) rfl dX5_changeNudges_217 rfl ?_
      refine u_goto (tgt := 310) h dX5_changeNudges_218 (by decide) ?_
      exact u_vret h hRT dX5_changeNudges_310 (by omega) (by omega) (by refine ⟨rfl, ?_⟩; first | (simp [chN, k7, c8]; done) | (exfalso; simp_all; done) | (simp_all [chN, k7, c8]; done))
    · refine u_iconst (v := 5) h dX5_changeNudges_211 (by decide) rfl ?_
      refine u_goto (tgt := 217) h dX5_changeNudges_212 (by decide) ?_
      refine u_iast h (n := v) (v := 5) 1 rfl (by omega) (by omega) rfl (ws' := [(h0, .inr (5, fs)), (qz, aI G 86 (upd z v 5))]) rfl dX5_changeNudges_217 rfl ?_
      refine u_goto (tgt := 310) h dX5_changeNudges_218 (by decide) ?_
      exact u_vret h hRT dX5_changeNudges_310 (by omega) (by omega) (by refine ⟨rfl, ?_⟩; first | (simp [chN, k7, c8]; done) | (exfalso; simp_all; done) | (simp_all [chN, k7, c8]; done))
  by_cases k9 : (z v) = 5
  · refine u_tableIn (off := 201) (tgt := 221) h dX5_changeNudges_20 (by rw [k9]; decide) (by rw [k9]; decide) (by rw [k9]; rfl) (by decide) ?_
    refine u_aload_n h dX5_changeNudges_221 rfl 2 rfl rfl ?_
    refine u_get h flX5_changeNudges_7 0 (v := .ref qz) rfl hfz dX5_changeNudges_222 rfl ?_
    refine u_iconst (v := 0) h dX5_changeNudges_225 (by decide) rfl ?_
    refine u_iload_n h dX5_changeNudges_226 rfl 3 rfl rfl ?_
    refine u_iadd (v := (nI v)) h dX5_changeNudges_227 (by have h9 := nI_add 0 v; rw [Nat.zero_add] at h9; exact h9) rfl ?_
    refine u_aload_n h dX5_changeNudges_228 rfl 2 rfl rfl ?_
    refine u_get h flX5_changeNudges_7 0 (v := .ref qz) rfl hfz dX5_changeNudges_229 rfl ?_
    refine u_bipush (v := 49) h dX5_changeNudges_232 (by decide) rfl ?_
    refine u_iald h (n := 49) 1 rfl (by omega) (by omega) dX5_changeNudges_234 rfl ?_
    refine u_iload_n h dX5_changeNudges_235 rfl 3 rfl rfl ?_
    refine u_icmp_ne (tgt := 243) h dX5_changeNudges_236 (by decide) rfl (fun c10 => ?_) (fun c10 => ?_)
    · refine u_bipush (v := 6) h dX5_changeNudges_243 (by decide) rfl ?_
      refine u_iast h (n := v) (v := 6) 1 rfl (by omega) (by omega) rfl (ws' := [(h0, .inr (5, fs)), (qz, aI G 86 (upd z v 6))]) rfl dX5_changeNudges_245 rfl ?_
      refine u_aload_n h dX5_changeNudges_246 rfl 2 rfl rfl ?_
      refine u_get h flX5_changeNudges_7 0 (v := .ref qz) rfl hfz dX5_changeNudges_247 rfl ?_
      refine u_bipush (v := 49) h dX5_changeNudges_250 (by decide) rfl ?_
      refine u_aload_n h dX5_changeNudges_252 rfl 2 rfl rfl ?_
      refine u_get h flX5_changeNudges_7 0 (v := .ref qz) rfl hfz dX5_changeNudges_253 rfl ?_
      refine u_bipush (v := 49) h dX5_changeNudges_256 (by decide) rfl ?_
      refine u_iald h (n := 49) 1 rfl (by omega) (by omega) dX5_changeNudges_258 rfl ?_
      refine u_top (y := (z 49)) (by rw [pk_un (by omega)]) ?_
      refine u_iload_n h dX5_changeNudges_259 rfl 3 rfl rfl ?_
      refine u_icmp_ne (tgt := 267) h dX5_changeNudges_260 (by decide) rfl (fun c11 => ?_) (fun c11 => ?_)
      · refine u_aload_n h dX5_changeNudges_267 rfl 2 rfl rfl ?_
        refine u_get h flX5_changeNudges_7 0 (v := .ref qz) rfl hfz dX5_changeNudges_268 rfl ?_
        refine u_bipush (v := 49) h dX5_changeNudges_271 (by decide) rfl ?_
        refine u_iald h (n := 49) 1 rfl (by omega) (by omega) dX5_changeNudges_273 rfl ?_
        refine u_top (y := (z 49)) (by rw [pk_un (by omega)]) ?_
        refine u_iast h (n := 49) (v := (z 49)) 1 rfl (by omega) (by omega) rfl (ws' := [(h0, .inr (5, fs)), (qz, aI G 86 (upd (upd z v 6) 49 (z 49)))]) rfl dX5_changeNudges_274 rfl ?_
        refine u_goto (tgt := 310) h dX5_changeNudges_275 (by decide) ?_
        exact u_vret h hRT dX5_changeNudges_310 (by omega) (by omega) (by refine ⟨rfl, ?_⟩; first | (simp [chN, k9, c10, c11]; done) | (exfalso; simp_all; done) | (simp_all [chN, k9, c10, c11]; done))
      · refine u_iconst (v := (-1)) h dX5_changeNudges_263 (by decide) rfl ?_
        refine u_goto (tgt := 274) h dX5_changeNudges_264 (by decide) ?_
        refine u_iast h (n := 49) (v := (-1)) 1 rfl (by omega) (by omega) rfl (ws' := [(h0, .inr (5, fs)), (qz, aI G 86 (upd (upd z v 6) 49 (-1)))]) rfl dX5_changeNudges_274 rfl ?_
        refine u_goto (tgt := 310) h dX5_changeNudges_275 (by decide) ?_
        exact u_vret h hRT dX5_changeNudges_310 (by omega) (by omega) (by refine ⟨rfl, ?_⟩; first | (simp [chN, k9, c10, c11]; done) | (exfalso; simp_all; done) | (simp_all [chN, k9, c10, c11]; done))
    · refine u_iconst (v := 0) h dX5_changeNudges_239 (by decide) rfl ?_
      refine u_goto (tgt := 245) h dX5_changeNudges_240 (by decide) ?_
      refine u_iast h (n := v) (v := 0) 1 rfl (by omega) (by omega) rfl (ws' := [(h0, .inr (5, fs)), (qz, aI G 86 (upd z v 0))]) rfl dX5_changeNudges_245 rfl ?_
      refine u_aload_n h dX5_changeNudges_246 rfl 2 rfl rfl ?_
      refine u_get h flX5_changeNudges_7 0 (v := .ref qz) rfl hfz dX5_changeNudges_247 rfl ?_
      refine u_bipush (v := 49) h dX5_changeNudges_250 (by decide) rfl ?_
      refine u_aload_n h dX5_changeNudges_252 rfl 2 rfl rfl ?_
      refine u_get h flX5_changeNudges_7 0 (v := .ref qz) rfl hfz dX5_changeNudges_253 rfl ?_
      refine u_bipush (v := 49) h dX5_changeNudges_256 (by decide) rfl ?_
      refine u_iald h (n := 49) 1 rfl (by omega) (by omega) dX5_changeNudges_258 rfl ?_
      refine u_top (y := (z 49)) (by rw [pk_un (by omega)]) ?_
      refine u_iload_n h dX5_changeNudges_259 rfl 3 rfl rfl ?_
      refine u_icmp_ne (tgt := 267) h dX5_changeNudges_260 (by decide) rfl (fun c12 => ?_) (fun c12 => ?_)
      · refine u_aload_n h dX5_changeNudges_267 rfl 2 rfl rfl ?_
        refine u_get h flX5_changeNudges_7 0 (v := .ref qz) rfl hfz dX5_changeNudges_268 rfl ?_
        refine u_bipush (v := 49) h dX5_changeNudges_271 (by decide) rfl ?_
        refine u_iald h (n := 49) 1 rfl (by omega) (by omega) dX5_changeNudges_273 rfl ?_
        refine u_top (y := (z 49)) (by rw [pk_un (by omega)]) ?_
        refine u_iast h (n := 49) (v := (z 49)) 1 rfl (by omega) (by omega) rfl (ws' := [(h0, .inr (5, fs)), (qz, aI G 86 (upd (upd z v 0) 49 (z 49)))]) rfl dX5_changeNudges_274 rfl ?_
        refine u_goto (tgt := 310) h dX5_changeNudges_275 (by decide) ?_
        exact u_vret h hRT dX5_changeNudges_310 (by omega) (by omega) (by refine ⟨rfl, ?_⟩; first | (simp [chN, k9, c10, c12]; done) | (exfalso; simp_all; done) | (simp_all [chN, k9, c10, c12]; done))
      · refine u_iconst (v := (-1)) h dX5_changeNudges_263 (by decide) rfl ?_
        refine u_goto (tgt := 274) h dX5_changeNudges_264 (by decide) ?_
        refine u_iast h (n := 49) (v := (-1)) 1 rfl (by omega) (by omega) rfl (ws' := [(h0, .inr (5, fs)), (qz, aI G 86 (upd (upd z v 0) 49 (-1)))]) rfl dX5_changeNudges_274 rfl ?_
        refine u_goto (tgt := 310) h dX5_changeNudges_275 (by decide) ?_
        exact u_vret h hRT dX5_changeNudges_310 (by omega) (by omega) (by refine ⟨rfl, ?_⟩; first | (simp [chN, k9, c10, c12]; done) | (exfalso; simp_all; done) | (simp_all [chN, k9, c10, c12]; done))
  by_cases k13 : (z v) = 6
  · refine u_tableIn (off := 258) (tgt := 278) h dX5_changeNudges_20 (by rw [k13]; decide) (by rw [k13]; decide) (by rw [k13]; rfl) (by decide) ?_
    refine u_aload_n h dX5_changeNudges_278 rfl 2 rfl rfl ?_
    refine u_get h flX5_changeNudges_7 0 (v := .ref qz) rfl hfz dX5_changeNudges_279 rfl ?_
    refine u_iconst (v := 0) h dX5_changeNudges_282 (by decide) rfl ?_
    refine u_iload_n h dX5_changeNudges_283 rfl 3 rfl rfl ?_
    refine u_iadd (v := (nI v)) h dX5_changeNudges_284 (by have h9 := nI_add 0 v; rw [Nat.zero_add] at h9; exact h9) rfl ?_
    refine u_bipush (v := 7) h dX5_changeNudges_285 (by decide) rfl ?_
    refine u_iast h (n := v) (v := 7) 1 rfl (by omega) (by omega) rfl (ws' := [(h0, .inr (5, fs)), (qz, aI G 86 (upd z v 7))]) rfl dX5_changeNudges_287 rfl ?_
    refine u_goto (tgt := 310) h dX5_changeNudges_288 (by decide) ?_
    exact u_vret h hRT dX5_changeNudges_310 (by omega) (by omega) (by refine ⟨rfl, ?_⟩; first | (simp [chN, k13]; done) | (exfalso; simp_all; done) | (simp_all [chN, k13]; done))
  refine u_tableOut (tgt := 291) h dX5_changeNudges_20 (ti_out (n := 7) (by decide) (fun k9 hk9 => by rcases (show k9 = 0 ∨ k9 = 1 ∨ k9 = 2 ∨ k9 = 3 ∨ k9 = 4 ∨ k9 = 5 ∨ k9 = 6 by omega) with rfl | rfl | rfl | rfl | rfl | rfl | rfl <;> assumption)) (by decide) ?_
  refine u_aload_n h dX5_changeNudges_291 rfl 2 rfl rfl ?_
  refine u_get h flX5_changeNudges_7 0 (v := .ref qz) rfl hfz dX5_changeNudges_292 rfl ?_
  refine u_bipush (v := 12) h dX5_changeNudges_295 (by decide) rfl ?_
  refine u_iload_n h dX5_changeNudges_297 rfl 0 rfl rfl ?_
  obtain ⟨a14, ha14, ea14⟩ := hW.n hk hv k1 k2 k4 k6 k7 k9 k13
  refine u_top (y := nI a14) ea14 ?_
  refine u_iadd (v := (nI (12 + a14))) h dX5_changeNudges_298 (nI_add 12 a14) rfl ?_
  refine u_iconst (v := 0) h dX5_changeNudges_299 (by decide) rfl ?_
  refine u_iast h (n := (12 + a14)) (v := 0) 1 rfl (by omega) (by omega) rfl (ws' := [(h0, .inr (5, fs)), (qz, aI G 86 (upd z (12 + a14) 0))]) rfl dX5_changeNudges_300 rfl ?_
  refine u_aload_n h dX5_changeNudges_301 rfl 2 rfl rfl ?_
  refine u_get h flX5_changeNudges_7 0 (v := .ref qz) rfl hfz dX5_changeNudges_302 rfl ?_
  refine u_iconst (v := 0) h dX5_changeNudges_305 (by decide) rfl ?_
  refine u_iload_n h dX5_changeNudges_306 rfl 3 rfl rfl ?_
  refine u_iadd (v := (nI v)) h dX5_changeNudges_307 (by have h9 := nI_add 0 v; rw [Nat.zero_add] at h9; exact h9) rfl ?_
  refine u_iconst (v := 0) h dX5_changeNudges_308 (by decide) rfl ?_
  refine u_iast h (n := v) (v := 0) 1 rfl (by omega) (by omega) rfl (ws' := [(h0, .inr (5, fs)), (qz, aI G 86 (upd (upd z (12 + a14) 0) v 0))]) rfl dX5_changeNudges_309 rfl ?_
  exact u_vret h hRT dX5_changeNudges_310 (by omega) (by omega) (by refine ⟨rfl, ?_⟩; first | (simp [chN, ea14, k1, k2, k4, k6, k7, k9, k13, ix_nI (show a14 < 2 ^ 31 by omega)]; done) | (exfalso; simp_all; done) | (simp_all [chN, ea14, k1, k2, k4, k6, k7, k9, k13, ix_nI (show a14 < 2 ^ 31 by omega)]; done))

theorem flX5_changeWatching_7 : FL wsX5_changeWatching RX5 7 5 0 := ⟨RX5, TX5, 18, rfl, by decide, by decide +kernel, by decide +kernel⟩
set_option maxHeartbeats 8000000 in
set_option maxRecDepth 100000 in
theorem kX5_changeWatching (G : Gx) (h0 qz : Nat) (fs : List Value) (hfz : fs[0]? = some (.ref qz)) (z : Zf) (v : Nat) (hv : v < 6) (hW : Wf z) (hk : z 60 = 1) : MC G yX5_changeWatching wsX5_changeWatching ({ frames := 0, cells := 0, slots := 0, locals := 0 } : Room) [.ref h0, .int (nI v)] [(h0, .inr (5, fs)), (qz, aI G 86 z)] (fun v' u' => v' = none ∧ u' = [(h0, .inr (5, fs)), (qz, aI G 86 (chW z v))]) 0 0 := by
  refine mc_of (cc := cX5_changeWatching) (maxL := 2) (ret := none) (by decide) rfl (Nat.le_of_ble_eq_true rfl) (fun X h hR hL hRT => ?_)
  refine u_eql (lv' := [(0, .ref h0), (1, .int (nI v))]) rfl ?_
  refine u_aload_n h dX5_changeWatching_0 rfl 0 rfl rfl ?_
  refine u_get h flX5_changeWatching_7 0 (v := .ref qz) rfl hfz dX5_changeWatching_1 rfl ?_
  refine u_iconst (v := 0) h dX5_changeWatching_4 (by decide) rfl ?_
  refine u_iload_n h dX5_changeWatching_5 rfl 1 rfl rfl ?_
  refine u_iadd (v := (nI v)) h dX5_changeWatching_6 (by have h9 := nI_add 0 v; rw [Nat.zero_add] at h9; exact h9) rfl ?_
  refine u_iald h (n := v) 1 rfl (by omega) (by omega) dX5_changeWatching_7 rfl ?_
  by_cases k1 : (z v) = 0
  · refine u_tableIn (off := 32) (tgt := 40) h dX5_changeWatching_8 (by rw [k1]; decide) (by rw [k1]; decide) (by rw [k1]; rfl) (by decide) ?_
    refine u_aload_n h dX5_changeWatching_40 rfl 0 rfl rfl ?_
    refine u_get h flX5_changeWatching_7 0 (v := .ref qz) rfl hfz dX5_changeWatching_41 rfl ?_
    refine u_bipush (v := 42) h dX5_changeWatching_44 (by decide) rfl ?_
    refine u_aload_n h dX5_changeWatching_46 rfl 0 rfl rfl ?_
    refine u_get h flX5_changeWatching_7 0 (v := .ref qz) rfl hfz dX5_changeWatching_47 rfl ?_
    refine u_bipush (v := 24) h dX5_changeWatching_50 (by decide) rfl ?_
    refine u_iload_n h dX5_changeWatching_52 rfl 1 rfl rfl ?_
    refine u_iadd (v := (nI (24 + v))) h dX5_changeWatching_53 (nI_add 24 v) rfl ?_
    refine u_iald h (n := (24 + v)) 1 rfl (by omega) (by omega) dX5_changeWatching_54 rfl ?_
    obtain ⟨a2, ha2, ea2⟩ := hW.o hk hv
    refine u_top (y := nI a2) ea2 ?_
    refine u_iadd (v := (nI (42 + a2))) h dX5_changeWatching_55 (nI_add 42 a2) rfl ?_
    refine u_iconst (v := 1) h dX5_changeWatching_56 (by decide) rfl ?_
    refine u_iast h (n := (42 + a2)) (v := 1) 1 rfl (by omega) (by omega) rfl (ws' := [(h0, .inr (5, fs)), (qz, aI G 86 (upd z (42 + a2) 1))]) rfl dX5_changeWatching_57 rfl ?_
    refine u_aload_n h dX5_changeWatching_58 rfl 0 rfl rfl ?_
    refine u_get h flX5_changeWatching_7 0 (v := .ref qz) rfl hfz dX5_changeWatching_59 rfl ?_
    refine u_iconst (v := 0) h dX5_changeWatching_62 (by decide) rfl ?_
    refine u_iload_n h dX5_changeWatching_63 rfl 1 rfl rfl ?_
    refine u_iadd (v := (nI v)) h dX5_changeWatching_64 (by have h9 := nI_add 0 v; rw [Nat.zero_add] at h9; exact h9) rfl ?_
    refine u_iconst (v := 1) h dX5_changeWatching_65 (by decide) rfl ?_
    refine u_iast h (n := v) (v := 1) 1 rfl (by omega) (by omega) rfl (ws' := [(h0, .inr (5, fs)), (qz, aI G 86 (upd (upd z (42 + a2) 1) v 1))]) rfl dX5_changeWatching_66 rfl ?_
    refine u_goto (tgt := 181) h dX5_changeWatching_67 (by decide) ?_
    exact u_vret h hRT dX5_changeWatching_181 (by omega) (by omega) (by refine ⟨rfl, ?_⟩; first | (simp [chW, k1, ea2, ix_nI (show a2 < 2 ^ 31 by omega)]; done) | (exfalso; simp_all; done) | (simp_all [chW, k1, ea2, ix_nI (show a2 < 2 ^ 31 by omega)]; done))
  by_cases k3 : (z v) = 1
  · refine u_tableIn (off := 62) (tgt := 70) h dX5_changeWatching_8 (by rw [k3]; decide) (by rw [k3]; decide) (by rw [k3]; rfl) (by decide) ?_
    refine u_aload_n h dX5_changeWatching_70 rfl 0 rfl rfl ?_
    refine u_get h flX5_changeWatching_7 0 (v := .ref qz) rfl hfz dX5_changeWatching_71 rfl ?_
    refine u_bipush (v := 30) h dX5_changeWatching_74 (by decide) rfl ?_
    refine u_iload_n h dX5_changeWatching_76 rfl 1 rfl rfl ?_
    refine u_iadd (v := (nI (30 + v))) h dX5_changeWatching_77 (nI_add 30 v) rfl ?_
    refine u_aload_n h dX5_changeWatching_78 rfl 0 rfl rfl ?_
    refine u_get h flX5_changeWatching_7 0 (v := .ref qz) rfl hfz dX5_changeWatching_79 rfl ?_
    refine u_bipush (v := 49) h dX5_changeWatching_82 (by decide) rfl ?_
    refine u_iald h (n := 49) 1 rfl (by omega) (by omega) dX5_changeWatching_84 rfl ?_
    refine u_iast h (n := (30 + v)) (v := (z 49)) 1 rfl (by omega) (by omega) rfl (ws' := [(h0, .inr (5, fs)), (qz, aI G 86 (upd z (30 + v) (z 49)))]) rfl dX5_changeWatching_85 rfl ?_
    refine u_aload_n h dX5_changeWatching_86 rfl 0 rfl rfl ?_
    refine u_get h flX5_changeWatching_7 0 (v := .ref qz) rfl hfz dX5_changeWatching_87 rfl ?_
    refine u_bipush (v := 49) h dX5_changeWatching_90 (by decide) rfl ?_
    refine u_aload_n h dX5_changeWatching_92 rfl 0 rfl rfl ?_
    refine u_get h flX5_changeWatching_7 0 (v := .ref qz) rfl hfz dX5_changeWatching_93 rfl ?_
    refine u_bipush (v := 24) h dX5_changeWatching_96 (by decide) rfl ?_
    refine u_iload_n h dX5_changeWatching_98 rfl 1 rfl rfl ?_
    refine u_iadd (v := (nI (24 + v))) h dX5_changeWatching_99 (nI_add 24 v) rfl ?_
    refine u_iald h (n := (24 + v)) 1 rfl (by omega) (by omega) dX5_changeWatching_100 rfl ?_
    refine u_top (y := (z (24 + v))) (by rw [pk_un (by omega)]) ?_
    refine u_iast h (n := 49) (v := (z (24 + v))) 1 rfl (by omega) (by omega) rfl (ws' := [(h0, .inr (5, fs)), (qz, aI G 86 (upd (upd z (30 + v) (z 49)) 49 (z (24 + v))))]) rfl dX5_changeWatching_101 rfl ?_
    refine u_aload_n h dX5_changeWatching_102 rfl 0 rfl rfl ?_
    refine u_get h flX5_changeWatching_7 0 (v := .ref qz) rfl hfz dX5_changeWatching_103 rfl ?_
    refine u_iconst (v := 0) h dX5_changeWatching_106 (by decide) rfl ?_
    refine u_iload_n h dX5_changeWatching_107 rfl 1 rfl rfl ?_
    refine u_iadd (v := (nI v)) h dX5_changeWatching_108 (by have h9 := nI_add 0 v; rw [Nat.zero_add] at h9; exact h9) rfl ?_
    refine u_iconst (v := 3) h dX5_changeWatching_109 (by decide) rfl ?_
    refine u_iast h (n := v) (v := 3) 1 rfl (by omega) (by omega) rfl (ws' := [(h0, .inr (5, fs)), (qz, aI G 86 (upd (upd (upd z (30 + v) (z 49)) 49 (z (24 + v))) v 3))]) rfl dX5_changeWatching_110 rfl ?_
    refine u_goto (tgt := 181) h dX5_changeWatching_111 (by decide) ?_
    exact u_vret h hRT dX5_changeWatching_181 (by omega) (by omega) (by refine ⟨rfl, ?_⟩; first | (simp [chW, k3]; done) | (exfalso; simp_all; done) | (simp_all [chW, k3]; done))
  by_cases k4 : (z v) = 2
  · refine u_tableIn (off := 118) (tgt := 126) h dX5_changeWatching_8 (by rw [k4]; decide) (by rw [k4]; decide) (by rw [k4]; rfl) (by decide) ?_
    refine u_aload_n h dX5_changeWatching_126 rfl 0 rfl rfl ?_
    refine u_get h flX5_changeWatching_7 0 (v := .ref qz) rfl hfz dX5_changeWatching_127 rfl ?_
    refine u_bipush (v := 42) h dX5_changeWatching_130 (by decide) rfl ?_
    refine u_aload_n h dX5_changeWatching_132 rfl 0 rfl rfl ?_
    refine u_get h flX5_changeWatching_7 0 (v := .ref qz) rfl hfz dX5_changeWatching_133 rfl ?_
    refine u_bipush (v := 24) h dX5_changeWatching_136 (by decide) rfl ?_
    refine u_iload_n h dX5_changeWatching_138 rfl 1 rfl rfl ?_
    refine u_iadd (v := (nI (24 + v))) h dX5_changeWatching_139 (nI_add 24 v) rfl ?_
    refine u_iald h (n := (24 + v)) 1 rfl (by omega) (by omega) dX5_changeWatching_140 rfl ?_
    obtain ⟨a5, ha5, ea5⟩ := hW.o hk hv
    refine u_top (y := nI a5) ea5 ?_
    refine u_iadd (v := (nI (42 + a5))) h dX5_changeWatching_141 (nI_add 42 a5) rfl ?_
    refine u_iconst (v := 0) h dX5_changeWatching_142 (by decide) rfl ?_
    refine u_iast h (n := (42 + a5)) (v := 0) 1 rfl (by omega) (by omega) rfl (ws' := [(h0, .inr (5, fs)), (qz, aI G 86 (upd z (42 + a5) 0))]) rfl dX5_changeWatching_143 rfl ?_
    refine u_aload_n h dX5_changeWatching_144 rfl 0 rfl rfl ?_
    refine u_get h flX5_changeWatching_7 0 (v := .ref qz) rfl hfz dX5_changeWatching_145 rfl ?_
    refine u_bipush (v := 24) h dX5_changeWatching_148 (by decide) rfl ?_
    refine u_iload_n h dX5_changeWatching_150 rfl 1 rfl rfl ?_
    refine u_iadd (v := (nI (24 + v))) h dX5_changeWatching_151 (nI_add 24 v) rfl ?_
    refine u_aload_n h dX5_changeWatching_152 rfl 0 rfl rfl ?_
    refine u_get h flX5_changeWatching_7 0 (v := .ref qz) rfl hfz dX5_changeWatching_153 rfl ?_
    refine u_bipush (v := 30) h dX5_changeWatching_156 (by decide) rfl ?_
    refine u_iload_n h dX5_changeWatching_158 rfl 1 rfl rfl ?_
    refine u_iadd (v := (nI (30 + v))) h dX5_changeWatching_159 (nI_add 30 v) rfl ?_
    refine u_iald h (n := (30 + v)) 1 rfl (by omega) (by omega) dX5_changeWatching_160 rfl ?_
    refine u_top (y := (z (30 + v))) (by rw [pk_un (by omega)]) ?_
    refine u_iast h (n := (24 + v)) (v := (z (30 + v))) 1 rfl (by omega) (by omega) rfl (ws' := [(h0, .inr (5, fs)), (qz, aI G 86 (upd (upd z (42 + a5) 0) (24 + v) (z (30 + v))))]) rfl dX5_changeWatching_161 rfl ?_
    refine u_aload_n h dX5_changeWatching_162 rfl 0 rfl rfl ?_
    refine u_get h flX5_changeWatching_7 0 (v := .ref qz) rfl hfz dX5_changeWatching_163 rfl ?_
    refine u_bipush (v := 30) h dX5_changeWatching_166 (by decide) rfl ?_
    refine u_iload_n h dX5_changeWatching_168 rfl 1 rfl rfl ?_
    refine u_iadd (v := (nI (30 + v))) h dX5_changeWatching_169 (nI_add 30 v) rfl ?_
    refine u_iconst (v := (-1)) h dX5_changeWatching_170 (by decide) rfl ?_
    refine u_iast h (n := (30 + v)) (v := (-1)) 1 rfl (by omega) (by omega) rfl (ws' := [(h0, .inr (5, fs)), (qz, aI G 86 (upd (upd (upd z (42 + a5) 0) (24 + v) (z (30 + v))) (30 + v) (-1)))]) rfl dX5_changeWatching_171 rfl ?_
    refine u_aload_n h dX5_changeWatching_172 rfl 0 rfl rfl ?_
    refine u_get h flX5_changeWatching_7 0 (v := .ref qz) rfl hfz dX5_changeWatching_173 rfl ?_
    refine u_iconst (v := 0) h dX5_changeWatching_176 (by decide) rfl ?_
    refine u_iload_n h dX5_changeWatching_177 rfl 1 rfl rfl ?_
    refine u_iadd (v := (nI v)) h dX5_changeWatching_178 (by have h9 := nI_add 0 v; rw [Nat.zero_add] at h9; exact h9) rfl ?_
    refine u_iconst (v := 0) h dX5_changeWatching_179 (by decide) rfl ?_
    refine u_iast h (n := v) (v := 0) 1 rfl (by omega) (by omega) rfl (ws' := [(h0, .inr (5, fs)), (qz, aI G 86 (upd (upd (upd (upd z (42 + a5) 0) (24 + v) (z (30 + v))) (30 + v) (-1)) v 0))]) rfl dX5_changeWatching_180 rfl ?_
    exact u_vret h hRT dX5_changeWatching_181 (by omega) (by omega) (by refine ⟨rfl, ?_⟩; first | (simp [chW, k4, ea5, ix_nI (show a5 < 2 ^ 31 by omega)]; done) | (exfalso; simp_all; done) | (simp_all [chW, k4, ea5, ix_nI (show a5 < 2 ^ 31 by omega)]; done))
  by_cases k6 : (z v) = 3
  · refine u_tableIn (off := 106) (tgt := 114) h dX5_changeWatching_8 (by rw [k6]; decide) (by rw [k6]; decide) (by rw [k6]; rfl) (by decide) ?_
    refine u_aload_n h dX5_changeWatching_114 rfl 0 rfl rfl ?_
    refine u_get h flX5_changeWatching_7 0 (v := .ref qz) rfl hfz dX5_changeWatching_115 rfl ?_
    refine u_iconst (v := 0) h dX5_changeWatching_118 (by decide) rfl ?_
    refine u_iload_n h dX5_changeWatching_119 rfl 1 rfl rfl ?_
    refine u_iadd (v := (nI v)) h dX5_changeWatching_120 (by have h9 := nI_add 0 v; rw [Nat.zero_add] at h9; exact h9) rfl ?_
    refine u_iconst (v := 4) h dX5_changeWatching_121 (by decide) rfl ?_
    refine u_iast h (n := v) (v := 4) 1 rfl (by omega) (by omega) rfl (ws' := [(h0, .inr (5, fs)), (qz, aI G 86 (upd z v 4))]) rfl dX5_changeWatching_122 rfl ?_
    refine u_goto (tgt := 181) h dX5_changeWatching_123 (by decide) ?_
    exact u_vret h hRT dX5_changeWatching_181 (by omega) (by omega) (by refine ⟨rfl, ?_⟩; first | (simp [chW, k6]; done) | (exfalso; simp_all; done) | (simp_all [chW, k6]; done))
  refine u_tableOut (tgt := 126) h dX5_changeWatching_8 (ti_out (n := 4) (by decide) (fun k9 hk9 => by rcases (show k9 = 0 ∨ k9 = 1 ∨ k9 = 2 ∨ k9 = 3 by omega) with rfl | rfl | rfl | rfl <;> assumption)) (by decide) ?_
  refine u_aload_n h dX5_changeWatching_126 rfl 0 rfl rfl ?_
  refine u_get h flX5_changeWatching_7 0 (v := .ref qz) rfl hfz dX5_changeWatching_127 rfl ?_
  refine u_bipush (v := 42) h dX5_changeWatching_130 (by decide) rfl ?_
  refine u_aload_n h dX5_changeWatching_132 rfl 0 rfl rfl ?_
  refine u_get h flX5_changeWatching_7 0 (v := .ref qz) rfl hfz dX5_changeWatching_133 rfl ?_
  refine u_bipush (v := 24) h dX5_changeWatching_136 (by decide) rfl ?_
  refine u_iload_n h dX5_changeWatching_138 rfl 1 rfl rfl ?_
  refine u_iadd (v := (nI (24 + v))) h dX5_changeWatching_139 (nI_add 24 v) rfl ?_
  refine u_iald h (n := (24 + v)) 1 rfl (by omega) (by omega) dX5_changeWatching_140 rfl ?_
  obtain ⟨a7, ha7, ea7⟩ := hW.o hk hv
  refine u_top (y := nI a7) ea7 ?_
  refine u_iadd (v := (nI (42 + a7))) h dX5_changeWatching_141 (nI_add 42 a7) rfl ?_
  refine u_iconst (v := 0) h dX5_changeWatching_142 (by decide) rfl ?_
  refine u_iast h (n := (42 + a7)) (v := 0) 1 rfl (by omega) (by omega) rfl (ws' := [(h0, .inr (5, fs)), (qz, aI G 86 (upd z (42 + a7) 0))]) rfl dX5_changeWatching_143 rfl ?_
  refine u_aload_n h dX5_changeWatching_144 rfl 0 rfl rfl ?_
  refine u_get h flX5_changeWatching_7 0 (v := .ref qz) rfl hfz dX5_changeWatching_145 rfl ?_
  refine u_bipush (v := 24) h dX5_changeWatching_148 (by decide) rfl ?_
  refine u_iload_n h dX5_changeWatching_150 rfl 1 rfl rfl ?_
  refine u_iadd (v := (nI (24 + v))) h dX5_changeWatching_151 (nI_add 24 v) rfl ?_
  refine u_aload_n h dX5_changeWatching_152 rfl 0 rfl rfl ?_
  refine u_get h flX5_changeWatching_7 0 (v := .ref qz) rfl hfz dX5_changeWatching_153 rfl ?_
  refine u_bipush (v := 30) h dX5_changeWatching_156 (by decide) rfl ?_
  refine u_iload_n h dX5_changeWatching_158 rfl 1 rfl rfl ?_
  refine u_iadd (v := (nI (30 + v))) h dX5_changeWatching_159 (nI_add 30 v) rfl ?_
  refine u_iald h (n := (30 + v)) 1 rfl (by omega) (by omega) dX5_changeWatching_160 rfl ?_
  refine u_top (y := (z (30 + v))) (by rw [pk_un (by omega)]) ?_
  refine u_iast h (n := (24 + v)) (v := (z (30 + v))) 1 rfl (by omega) (by omega) rfl (ws' := [(h0, .inr (5, fs)), (qz, aI G 86 (upd (upd z (42 + a7) 0) (24 + v) (z (30 + v))))]) rfl dX5_changeWatching_161 rfl ?_
  refine u_aload_n h dX5_changeWatching_162 rfl 0 rfl rfl ?_
  refine u_get h flX5_changeWatching_7 0 (v := .ref qz) rfl hfz dX5_changeWatching_163 rfl ?_
  refine u_bipush (v := 30) h dX5_changeWatching_166 (by decide) rfl ?_
  refine u_iload_n h dX5_changeWatching_168 rfl 1 rfl rfl ?_
  refine u_iadd (v := (nI (30 + v))) h dX5_changeWatching_169 (nI_add 30 v) rfl ?_
  refine u_iconst (v := (-1)) h dX5_changeWatching_170 (by decide) rfl ?_
  refine u_iast h (n := (30 + v)) (v := (-1)) 1 rfl (by omega) (by omega) rfl (ws' := [(h0, .inr (5, fs)), (qz, aI G 86 (upd (upd (upd z (42 + a7) 0) (24 + v) (z (30 + v))) (30 + v) (-1)))]) rfl dX5_changeWatching_171 rfl ?_
  refine u_aload_n h dX5_changeWatching_172 rfl 0 rfl rfl ?_
  refine u_get h flX5_changeWatching_7 0 (v := .ref qz) rfl hfz dX5_changeWatching_173 rfl ?_
  refine u_iconst (v := 0) h dX5_changeWatching_176 (by decide) rfl ?_
  refine u_iload_n h dX5_changeWatching_177 rfl 1 rfl rfl ?_
  refine u_iadd (v := (nI v)) h dX5_changeWatching_178 (by have h9 := nI_add 0 v; rw [Nat.zero_add] at h9; exact h9) rfl ?_
  refine u_iconst (v := 0) h dX5_changeWatching_179 (by decide) rfl ?_
  refine u_iast h (n := v) (v := 0) 1 rfl (by omega) (by omega) rfl (ws' := [(h0, .inr (5, fs)), (qz, aI G 86 (upd (upd (upd (upd z (42 + a7) 0) (24 + v) (z (30 + v))) (30 + v) (-1)) v 0))]) rfl dX5_changeWatching_180 rfl ?_
  exact u_vret h hRT dX5_changeWatching_181 (by omega) (by omega) (by refine ⟨rfl, ?_⟩; first | (simp [chW, ea7, k1, k3, k4, k6, ix_nI (show a7 < 2 ^ 31 by omega)]; done) | (exfalso; simp_all; done) | (simp_all [chW, ea7, k1, k3, k4, k6, ix_nI (show a7 < 2 ^ 31 by omega)]; done))

theorem flX5_changeTickets_7 : FL wsX5_changeTickets RX5 7 5 0 := ⟨RX5, TX5, 18, rfl, by decide, by decide +kernel, by decide +kernel⟩
set_option maxHeartbeats 8000000 in
set_option maxRecDepth 100000 in
theorem kX5_changeTickets (G : Gx) (h0 qz : Nat) (fs : List Value) (hfz : fs[0]? = some (.ref qz)) (z : Zf) (v : Nat) (hv : v < 6) : MC G yX5_changeTickets wsX5_changeTickets ({ frames := 0, cells := 0, slots := 0, locals := 0 } : Room) [.ref h0, .int (nI v)] [(h0, .inr (5, fs)), (qz, aI G 86 z)] (fun v' u' => v' = none ∧ u' = [(h0, .inr (5, fs)), (qz, aI G 86 (chT z v))]) 0 0 := by
  refine mc_of (cc := cX5_changeTickets) (maxL := 2) (ret := none) (by decide) rfl (Nat.le_of_ble_eq_true rfl) (fun X h hR hL hRT => ?_)
  refine u_eql (lv' := [(0, .ref h0), (1, .int (nI v))]) rfl ?_
  refine u_aload_n h dX5_changeTickets_0 rfl 0 rfl rfl ?_
  refine u_get h flX5_changeTickets_7 0 (v := .ref qz) rfl hfz dX5_changeTickets_1 rfl ?_
  refine u_iconst (v := 0) h dX5_changeTickets_4 (by decide) rfl ?_
  refine u_iload_n h dX5_changeTickets_5 rfl 1 rfl rfl ?_
  refine u_iadd (v := (nI v)) h dX5_changeTickets_6 (by have h9 := nI_add 0 v; rw [Nat.zero_add] at h9; exact h9) rfl ?_
  refine u_iald h (n := v) 1 rfl (by omega) (by omega) dX5_changeTickets_7 rfl ?_
  by_cases k1 : (z v) = 0
  · refine u_lookup (off := 28) (tgt := 36) h dX5_changeTickets_8 (by decide) (by rw [k1]; rfl) (by decide) ?_
    refine u_aload_n h dX5_changeTickets_36 rfl 0 rfl rfl ?_
    refine u_get h flX5_changeTickets_7 0 (v := .ref qz) rfl hfz dX5_changeTickets_37 rfl ?_
    refine u_bipush (v := 36) h dX5_changeTickets_40 (by decide) rfl ?_
    refine u_iload_n h dX5_changeTickets_42 rfl 1 rfl rfl ?_
    refine u_iadd (v := (nI (36 + v))) h dX5_changeTickets_43 (nI_add 36 v) rfl ?_
    refine u_aload_n h dX5_changeTickets_44 rfl 0 rfl rfl ?_
    refine u_get h flX5_changeTickets_7 0 (v := .ref qz) rfl hfz dX5_changeTickets_45 rfl ?_
    refine u_bipush (v := 50) h dX5_changeTickets_48 (by decide) rfl ?_
    refine u_iald h (n := 50) 1 rfl (by omega) (by omega) dX5_changeTickets_50 rfl ?_
    refine u_iast h (n := (36 + v)) (v := (z 50)) 1 rfl (by omega) (by omega) rfl (ws' := [(h0, .inr (5, fs)), (qz, aI G 86 (upd z (36 + v) (z 50)))]) rfl dX5_changeTickets_51 rfl ?_
    refine u_aload_n h dX5_changeTickets_52 rfl 0 rfl rfl ?_
    refine u_get h flX5_changeTickets_7 0 (v := .ref qz) rfl hfz dX5_changeTickets_53 rfl ?_
    refine u_bipush (v := 50) h dX5_changeTickets_56 (by decide) rfl ?_
    refine u_dup2 h dX5_changeTickets_58 rfl rfl rfl ?_
    refine u_iald h (n := 50) 1 rfl (by omega) (by omega) dX5_changeTickets_59 rfl ?_
    refine u_top (y := (z 50)) (by rw [pk_un (by omega)]) ?_
    refine u_iconst (v := 1) h dX5_changeTickets_60 (by decide) rfl ?_
    refine u_iadd (v := ((z 50) + 1)) h dX5_changeTickets_61 rfl rfl ?_
    refine u_iast h (n := 50) (v := ((z 50) + 1)) 1 rfl (by omega) (by omega) rfl (ws' := [(h0, .inr (5, fs)), (qz, aI G 86 (upd (upd z (36 + v) (z 50)) 50 ((z 50) + 1)))]) rfl dX5_changeTickets_62 rfl ?_
    refine u_aload_n h dX5_changeTickets_63 rfl 0 rfl rfl ?_
    refine u_get h flX5_changeTickets_7 0 (v := .ref qz) rfl hfz dX5_changeTickets_64 rfl ?_
    refine u_iconst (v := 0) h dX5_changeTickets_67 (by decide) rfl ?_
    refine u_iload_n h dX5_changeTickets_68 rfl 1 rfl rfl ?_
    refine u_iadd (v := (nI v)) h dX5_changeTickets_69 (by have h9 := nI_add 0 v; rw [Nat.zero_add] at h9; exact h9) rfl ?_
    refine u_iconst (v := 3) h dX5_changeTickets_70 (by decide) rfl ?_
    refine u_iast h (n := v) (v := 3) 1 rfl (by omega) (by omega) rfl (ws' := [(h0, .inr (5, fs)), (qz, aI G 86 (upd (upd (upd z (36 + v) (z 50)) 50 ((z 50) + 1)) v 3))]) rfl dX5_changeTickets_71 rfl ?_
    refine u_goto (tgt := 117) h dX5_changeTickets_72 (by decide) ?_
    exact u_vret h hRT dX5_changeTickets_117 (by omega) (by omega) (by refine ⟨rfl, ?_⟩; first | (simp [chT, k1]; done) | (exfalso; simp_all; done) | (simp_all [chT, k1]; done))
  by_cases k2 : (z v) = 3
  · refine u_lookup (off := 67) (tgt := 75) h dX5_changeTickets_8 (by decide) (by rw [k2]; rfl) (by decide) ?_
    refine u_aload_n h dX5_changeTickets_75 rfl 0 rfl rfl ?_
    refine u_get h flX5_changeTickets_7 0 (v := .ref qz) rfl hfz dX5_changeTickets_76 rfl ?_
    refine u_iconst (v := 0) h dX5_changeTickets_79 (by decide) rfl ?_
    refine u_iload_n h dX5_changeTickets_80 rfl 1 rfl rfl ?_
    refine u_iadd (v := (nI v)) h dX5_changeTickets_81 (by have h9 := nI_add 0 v; rw [Nat.zero_add] at h9; exact h9) rfl ?_
    refine u_iconst (v := 4) h dX5_changeTickets_82 (by decide) rfl ?_
    refine u_iast h (n := v) (v := 4) 1 rfl (by omega) (by omega) rfl (ws' := [(h0, .inr (5, fs)), (qz, aI G 86 (upd z v 4))]) rfl dX5_changeTickets_83 rfl ?_
    refine u_goto (tgt := 117) h dX5_changeTickets_84 (by decide) ?_
    exact u_vret h hRT dX5_changeTickets_117 (by omega) (by omega) (by refine ⟨rfl, ?_⟩; first | (simp [chT, k2]; done) | (exfalso; simp_all; done) | (simp_all [chT, k2]; done))
  refine u_lookup (off := 79) (tgt := 87) h dX5_changeTickets_8 (by decide) ((lv_osw (k := 0) k1 (by decide)).trans ((lv_osw (k := 3) k2 (by decide)).trans (rfl))) (by decide) ?_
  refine u_aload_n h dX5_changeTickets_87 rfl 0 rfl rfl ?_
  refine u_get h flX5_changeTickets_7 0 (v := .ref qz) rfl hfz dX5_changeTickets_88 rfl ?_
  refine u_bipush (v := 51) h dX5_changeTickets_91 (by decide) rfl ?_
  refine u_dup2 h dX5_changeTickets_93 rfl rfl rfl ?_
  refine u_iald h (n := 51) 1 rfl (by omega) (by omega) dX5_changeTickets_94 rfl ?_
  refine u_iconst (v := 1) h dX5_changeTickets_95 (by decide) rfl ?_
  refine u_iadd (v := ((z 51) + 1)) h dX5_changeTickets_96 rfl rfl ?_
  refine u_iast h (n := 51) (v := ((z 51) + 1)) 1 rfl (by omega) (by omega) rfl (ws' := [(h0, .inr (5, fs)), (qz, aI G 86 (upd z 51 ((z 51) + 1)))]) rfl dX5_changeTickets_97 rfl ?_
  refine u_aload_n h dX5_changeTickets_98 rfl 0 rfl rfl ?_
  refine u_get h flX5_changeTickets_7 0 (v := .ref qz) rfl hfz dX5_changeTickets_99 rfl ?_
  refine u_bipush (v := 36) h dX5_changeTickets_102 (by decide) rfl ?_
  refine u_iload_n h dX5_changeTickets_104 rfl 1 rfl rfl ?_
  refine u_iadd (v := (nI (36 + v))) h dX5_changeTickets_105 (nI_add 36 v) rfl ?_
  refine u_iconst (v := (-1)) h dX5_changeTickets_106 (by decide) rfl ?_
  refine u_iast h (n := (36 + v)) (v := (-1)) 1 rfl (by omega) (by omega) rfl (ws' := [(h0, .inr (5, fs)), (qz, aI G 86 (upd (upd z 51 ((z 51) + 1)) (36 + v) (-1)))]) rfl dX5_changeTickets_107 rfl ?_
  refine u_aload_n h dX5_changeTickets_108 rfl 0 rfl rfl ?_
  refine u_get h flX5_changeTickets_7 0 (v := .ref qz) rfl hfz dX5_changeTickets_109 rfl ?_
  refine u_iconst (v := 0) h dX5_changeTickets_112 (by decide) rfl ?_
  refine u_iload_n h dX5_changeTickets_113 rfl 1 rfl rfl ?_
  refine u_iadd (v := (nI v)) h dX5_changeTickets_114 (by have h9 := nI_add 0 v; rw [Nat.zero_add] at h9; exact h9) rfl ?_
  refine u_iconst (v := 0) h dX5_changeTickets_115 (by decide) rfl ?_
  refine u_iast h (n := v) (v := 0) 1 rfl (by omega) (by omega) rfl (ws' := [(h0, .inr (5, fs)), (qz, aI G 86 (upd (upd (upd z 51 ((z 51) + 1)) (36 + v) (-1)) v 0))]) rfl dX5_changeTickets_116 rfl ?_
  exact u_vret h hRT dX5_changeTickets_117 (by omega) (by omega) (by refine ⟨rfl, ?_⟩; first | (simp [chT, k1, k2]; done) | (exfalso; simp_all; done) | (simp_all [chT, k1, k2]; done))

theorem flX5_changeGrabbing_7 : FL wsX5_changeGrabbing RX5 7 5 0 := ⟨RX5, TX5, 18, rfl, by decide, by decide +kernel, by decide +kernel⟩
set_option maxHeartbeats 8000000 in
set_option maxRecDepth 100000 in
theorem kX5_changeGrabbing (G : Gx) (h0 qz : Nat) (fs : List Value) (hfz : fs[0]? = some (.ref qz)) (z : Zf) (v : Nat) (hv : v < 6) : MC G yX5_changeGrabbing wsX5_changeGrabbing ({ frames := 0, cells := 0, slots := 0, locals := 0 } : Room) [.ref h0, .int (nI v)] [(h0, .inr (5, fs)), (qz, aI G 86 z)] (fun v' u' => v' = none ∧ u' = [(h0, .inr (5, fs)), (qz, aI G 86 (chG z v))]) 0 0 := by
  refine mc_of (cc := cX5_changeGrabbing) (maxL := 3) (ret := none) (by decide) rfl (Nat.le_of_ble_eq_true rfl) (fun X h hR hL hRT => ?_)
  refine u_eql (lv' := [(0, .ref h0), (1, .int (nI v))]) rfl ?_
  refine u_aload_n h dX5_changeGrabbing_0 rfl 0 rfl rfl ?_
  refine u_get h flX5_changeGrabbing_7 0 (v := .ref qz) rfl hfz dX5_changeGrabbing_1 rfl ?_
  refine u_iconst (v := 0) h dX5_changeGrabbing_4 (by decide) rfl ?_
  refine u_iload_n h dX5_changeGrabbing_5 rfl 1 rfl rfl ?_
  refine u_iadd (v := (nI v)) h dX5_changeGrabbing_6 (by have h9 := nI_add 0 v; rw [Nat.zero_add] at h9; exact h9) rfl ?_
  refine u_iald h (n := v) 1 rfl (by omega) (by omega) dX5_changeGrabbing_7 rfl ?_
  refine u_istore_n (lv' := [(2, .int (z v)), (0, .ref h0), (1, .int (nI v))]) h dX5_changeGrabbing_8 rfl (by rw [hL]; decide) rfl rfl ?_
  refine u_aload_n h dX5_changeGrabbing_9 rfl 1 rfl rfl ?_
  refine u_get h flX5_changeGrabbing_7 0 (v := .ref qz) rfl hfz dX5_changeGrabbing_10 rfl ?_
  refine u_bipush (v := 52) h dX5_changeGrabbing_13 (by decide) rfl ?_
  refine u_iload_n h dX5_changeGrabbing_15 rfl 0 rfl rfl ?_
  refine u_if_ne (tgt := 29) h dX5_changeGrabbing_16 (by decide) rfl (fun c1 => ?_) (fun c1 => ?_)
  · refine u_iload_n h dX5_changeGrabbing_29 rfl 0 rfl rfl ?_
    refine u_iconst (v := 3) h dX5_changeGrabbing_30 (by decide) rfl ?_
    refine u_icmp_ne (tgt := 38) h dX5_changeGrabbing_31 (by decide) rfl (fun c2 => ?_) (fun c2 => ?_)
    · refine u_iconst (v := 0) h dX5_changeGrabbing_38 (by decide) rfl ?_
      refine u_iast h (n := 52) (v := 0) 1 rfl (by omega) (by omega) rfl (ws' := [(h0, .inr (5, fs)), (qz, aI G 86 (upd z 52 0))]) rfl dX5_changeGrabbing_39 rfl ?_
      refine u_aload_n h dX5_changeGrabbing_40 rfl 1 rfl rfl ?_
      refine u_get h flX5_changeGrabbing_7 0 (v := .ref qz) rfl hfz dX5_changeGrabbing_41 rfl ?_
      refine u_iconst (v := 0) h dX5_changeGrabbing_44 (by decide) rfl ?_
      refine u_iload_n h dX5_changeGrabbing_45 rfl 2 rfl rfl ?_
      refine u_iadd (v := (nI v)) h dX5_changeGrabbing_46 (by have h9 := nI_add 0 v; rw [Nat.zero_add] at h9; exact h9) rfl ?_
      refine u_iload_n h dX5_changeGrabbing_47 rfl 0 rfl rfl ?_
      refine u_if_ne (tgt := 55) h dX5_changeGrabbing_48 (by decide) rfl (fun c3 => ?_) (fun c3 => ?_)
      · refine u_iload_n h dX5_changeGrabbing_55 rfl 0 rfl rfl ?_
        refine u_iconst (v := 3) h dX5_changeGrabbing_56 (by decide) rfl ?_
        refine u_icmp_ne (tgt := 64) h dX5_changeGrabbing_57 (by decide) rfl (fun c4 => ?_) (fun c4 => ?_)
        · refine u_iconst (v := 0) h dX5_changeGrabbing_64 (by decide) rfl ?_
          refine u_iast h (n := v) (v := 0) 1 rfl (by omega) (by omega) rfl (ws' := [(h0, .inr (5, fs)), (qz, aI G 86 (upd (upd z 52 0) v 0))]) rfl dX5_changeGrabbing_65 rfl ?_
          exact u_vret h hRT dX5_changeGrabbing_66 (by omega) (by omega) (by refine ⟨rfl, ?_⟩; first | (simp [chG, c1, c2, c3, c4]; done) | (exfalso; simp_all; done) | (simp_all [chG, c1, c2, c3, c4]; done))
        · refine u_iconst (v := 4) h dX5_changeGrabbing_60 (by decide) rfl ?_
          refine u_goto (tgt := 65) h dX5_changeGrabbing_61 (by decide) ?_
          refine u_iast h (n := v) (v := 4) 1 rfl (by omega) (by omega) rfl (ws' := [(h0, .inr (5, fs)), (qz, aI G 86 (upd (upd z 52 0) v 4))]) rfl dX5_changeGrabbing_65 rfl ?_
          exact u_vret h hRT dX5_changeGrabbing_66 (by omega) (by omega) (by refine ⟨rfl, ?_⟩; first | (simp [chG, c1, c2, c3, c4]; done) | (exfalso; simp_all; done) | (simp_all [chG, c1, c2, c3, c4]; done))
      · refine u_iconst (v := 3) h dX5_changeGrabbing_51 (by decide) rfl ?_
        refine u_goto (tgt := 65) h dX5_changeGrabbing_52 (by decide) ?_
        refine u_iast h (n := v) (v := 3) 1 rfl (by omega) (by omega) rfl (ws' := [(h0, .inr (5, fs)), (qz, aI G 86 (upd (upd z 52 0) v 3))]) rfl dX5_changeGrabbing_65 rfl ?_
        exact u_vret h hRT dX5_changeGrabbing_66 (by omega) (by omega) (by refine ⟨rfl, ?_⟩; first | (simp [chG, c1, c2, c3]; done) | (exfalso; simp_all; done) | (simp_all [chG, c1, c2, c3]; done))
    · refine u_iconst (v := 1) h dX5_changeGrabbing_34 (by decide) rfl ?_
      refine u_goto (tgt := 39) h dX5_changeGrabbing_35 (by decide) ?_
      refine u_iast h (n := 52) (v := 1) 1 rfl (by omega) (by omega) rfl (ws' := [(h0, .inr (5, fs)), (qz, aI G 86 (upd z 52 1))]) rfl dX5_changeGrabbing_39 rfl ?_
      refine u_aload_n h dX5_changeGrabbing_40 rfl 1 rfl rfl ?_
      refine u_get h flX5_changeGrabbing_7 0 (v := .ref qz) rfl hfz dX5_changeGrabbing_41 rfl ?_
      refine u_iconst (v := 0) h dX5_changeGrabbing_44 (by decide) rfl ?_
      refine u_iload_n h dX5_changeGrabbing_45 rfl 2 rfl rfl ?_
      refine u_iadd (v := (nI v)) h dX5_changeGrabbing_46 (by have h9 := nI_add 0 v; rw [Nat.zero_add] at h9; exact h9) rfl ?_
      refine u_iload_n h dX5_changeGrabbing_47 rfl 0 rfl rfl ?_
      refine u_if_ne (tgt := 55) h dX5_changeGrabbing_48 (by decide) rfl (fun c5 => ?_) (fun c5 => ?_)
      · refine u_iload_n h dX5_changeGrabbing_55 rfl 0 rfl rfl ?_
        refine u_iconst (v := 3) h dX5_changeGrabbing_56 (by decide) rfl ?_
        refine u_icmp_ne (tgt := 64) h dX5_changeGrabbing_57 (by decide) rfl (fun c6 => ?_) (fun c6 => ?_)
        · refine u_iconst (v := 0) h dX5_changeGrabbing_64 (by decide) rfl ?_
          refine u_iast h (n := v) (v := 0) 1 rfl (by omega) (by omega) rfl (ws' := [(h0, .inr (5, fs)), (qz, aI G 86 (upd (upd z 52 1) v 0))]) rfl dX5_changeGrabbing_65 rfl ?_
          exact u_vret h hRT dX5_changeGrabbing_66 (by omega) (by omega) (by refine ⟨rfl, ?_⟩; first | (simp [chG, c1, c2, c5, c6]; done) | (exfalso; simp_all; done) | (simp_all [chG, c1, c2, c5, c6]; done))
        · refine u_iconst (v := 4) h dX5_changeGrabbing_60 (by decide) rfl ?_
          refine u_goto (tgt := 65) h dX5_changeGrabbing_61 (by decide) ?_
          refine u_iast h (n := v) (v := 4) 1 rfl (by omega) (by omega) rfl (ws' := [(h0, .inr (5, fs)), (qz, aI G 86 (upd (upd z 52 1) v 4))]) rfl dX5_changeGrabbing_65 rfl ?_
          exact u_vret h hRT dX5_changeGrabbing_66 (by omega) (by omega) (by refine ⟨rfl, ?_⟩; first | (simp [chG, c1, c2, c5, c6]; done) | (exfalso; simp_all; done) | (simp_all [chG, c1, c2, c5, c6]; done))
      · refine u_iconst (v := 3) h dX5_changeGrabbing_51 (by decide) rfl ?_
        refine u_goto (tgt := 65) h dX5_changeGrabbing_52 (by decide) ?_
        refine u_iast h (n := v) (v := 3) 1 rfl (by omega) (by omega) rfl (ws' := [(h0, .inr (5, fs)), (qz, aI G 86 (upd (upd z 52 1) v 3))]) rfl dX5_changeGrabbing_65 rfl ?_
        exact u_vret h hRT dX5_changeGrabbing_66 (by omega) (by omega) (by refine ⟨rfl, ?_⟩; first | (simp [chG, c1, c2, c5]; done) | (exfalso; simp_all; done) | (simp_all [chG, c1, c2, c5]; done))
  · refine u_aload_n h dX5_changeGrabbing_19 rfl 1 rfl rfl ?_
    refine u_get h flX5_changeGrabbing_7 0 (v := .ref qz) rfl hfz dX5_changeGrabbing_20 rfl ?_
    refine u_bipush (v := 52) h dX5_changeGrabbing_23 (by decide) rfl ?_
    refine u_iald h (n := 52) 1 rfl (by omega) (by omega) dX5_changeGrabbing_25 rfl ?_
    refine u_goto (tgt := 39) h dX5_changeGrabbing_26 (by decide) ?_
    refine u_iast h (n := 52) (v := (z 52)) 1 rfl (by omega) (by omega) rfl (ws' := [(h0, .inr (5, fs)), (qz, aI G 86 (upd z 52 (z 52)))]) rfl dX5_changeGrabbing_39 rfl ?_
    refine u_aload_n h dX5_changeGrabbing_40 rfl 1 rfl rfl ?_
    refine u_get h flX5_changeGrabbing_7 0 (v := .ref qz) rfl hfz dX5_changeGrabbing_41 rfl ?_
    refine u_iconst (v := 0) h dX5_changeGrabbing_44 (by decide) rfl ?_
    refine u_iload_n h dX5_changeGrabbing_45 rfl 2 rfl rfl ?_
    refine u_iadd (v := (nI v)) h dX5_changeGrabbing_46 (by have h9 := nI_add 0 v; rw [Nat.zero_add] at h9; exact h9) rfl ?_
    refine u_iload_n h dX5_changeGrabbing_47 rfl 0 rfl rfl ?_
    refine u_if_ne (tgt := 55) h dX5_changeGrabbing_48 (by decide) rfl (fun c7 => ?_) (fun c7 => ?_)
    · refine u_iload_n h dX5_changeGrabbing_55 rfl 0 rfl rfl ?_
      refine u_iconst (v := 3) h dX5_changeGrabbing_56 (by decide) rfl ?_
      refine u_icmp_ne (tgt := 64) h dX5_changeGrabbing_57 (by decide) rfl (fun c8 => ?_) (fun c8 => ?_)
      · refine u_iconst (v := 0) h dX5_changeGrabbing_64 (by decide) rfl ?_
        refine u_iast h (n := v) (v := 0) 1 rfl (by omega) (by omega) rfl (ws' := [(h0, .inr (5, fs)), (qz, aI G 86 (upd (upd z 52 (z 52)) v 0))]) rfl dX5_changeGrabbing_65 rfl ?_
        exact u_vret h hRT dX5_changeGrabbing_66 (by omega) (by omega) (by refine ⟨rfl, ?_⟩; first | (simp [chG, c1, c7, c8]; done) | (exfalso; simp_all; done) | (simp_all [chG, c1, c7, c8]; done))
      · refine u_iconst (v := 4) h dX5_changeGrabbing_60 (by decide) rfl ?_
        refine u_goto (tgt := 65) h dX5_changeGrabbing_61 (by decide) ?_
        refine u_iast h (n := v) (v := 4) 1 rfl (by omega) (by omega) rfl (ws' := [(h0, .inr (5, fs)), (qz, aI G 86 (upd (upd z 52 (z 52)) v 4))]) rfl dX5_changeGrabbing_65 rfl ?_
        exact u_vret h hRT dX5_changeGrabbing_66 (by omega) (by omega) (by refine ⟨rfl, ?_⟩; first | (simp [chG, c1, c7, c8]; done) | (exfalso; simp_all; done) | (simp_all [chG, c1, c7, c8]; done))
    · refine u_iconst (v := 3) h dX5_changeGrabbing_51 (by decide) rfl ?_
      refine u_goto (tgt := 65) h dX5_changeGrabbing_52 (by decide) ?_
      refine u_iast h (n := v) (v := 3) 1 rfl (by omega) (by omega) rfl (ws' := [(h0, .inr (5, fs)), (qz, aI G 86 (upd (upd z 52 (z 52)) v 3))]) rfl dX5_changeGrabbing_65 rfl ?_
      exact u_vret h hRT dX5_changeGrabbing_66 (by omega) (by omega) (by refine ⟨rfl, ?_⟩; first | (simp [chG, c1, c7]; done) | (exfalso; simp_all; done) | (simp_all [chG, c1, c7]; done))

theorem flX5_change_7 : FL wsX5_change RX5 7 5 0 := ⟨RX5, TX5, 18, rfl, by decide, by decide +kernel, by decide +kernel⟩
set_option maxRecDepth 20000 in
theorem cwX5_change_X5_changeNudges : CWd wsX5_change (wsV RX5 70 RX5 yX5_changeNudges wsX5_changeNudges) yX5_changeNudges wsX5_changeNudges cX5_changeNudges 4 none 1 := ⟨gX5_change_X5_changeNudges, ⟨_, rfl⟩, by decide +kernel, by decide, by decide⟩
set_option maxRecDepth 20000 in
theorem cwX5_change_X5_changeWatching : CWd wsX5_change (wsV RX5 73 RX5 yX5_changeWatching wsX5_changeWatching) yX5_changeWatching wsX5_changeWatching cX5_changeWatching 2 none 1 := ⟨gX5_change_X5_changeWatching, ⟨_, rfl⟩, by decide +kernel, by decide, by decide⟩
set_option maxRecDepth 20000 in
theorem cwX5_change_X5_changeTickets : CWd wsX5_change (wsV RX5 76 RX5 yX5_changeTickets wsX5_changeTickets) yX5_changeTickets wsX5_changeTickets cX5_changeTickets 2 none 1 := ⟨gX5_change_X5_changeTickets, ⟨_, rfl⟩, by decide +kernel, by decide, by decide⟩
set_option maxRecDepth 20000 in
theorem cwX5_change_X5_changeGrabbing : CWd wsX5_change (wsV RX5 79 RX5 yX5_changeGrabbing wsX5_changeGrabbing) yX5_changeGrabbing wsX5_changeGrabbing cX5_changeGrabbing 3 none 1 := ⟨gX5_change_X5_changeGrabbing, ⟨_, rfl⟩, by decide +kernel, by decide, by decide⟩
set_option maxHeartbeats 8000000 in
set_option maxRecDepth 100000 in
theorem kX5_change (G : Gx) (h0 qz : Nat) (fs : List Value) (hfz : fs[0]? = some (.ref qz)) (z : Zf) (v : Nat) (hv : v < 6) (hW : Wf z) : MC G yX5_change wsX5_change ({ frames := 1, cells := 0, slots := 0, locals := 23 } : Room) [.ref h0, .int (nI v)] [(h0, .inr (5, fs)), (qz, aI G 86 z)] (fun v' u' => v' = none ∧ u' = [(h0, .inr (5, fs)), (qz, aI G 86 (chM z v))]) 0 0 := by
  refine mc_of (cc := cX5_change) (maxL := 2) (ret := none) (by decide) rfl (Nat.le_of_ble_eq_true rfl) (fun X h hR hL hRT => ?_)
  refine u_eql (lv' := [(0, .ref h0), (1, .int (nI v))]) rfl ?_
  refine u_aload_n h dX5_change_0 rfl 0 rfl rfl ?_
  refine u_get h flX5_change_7 0 (v := .ref qz) rfl hfz dX5_change_1 rfl ?_
  refine u_bipush (v := 60) h dX5_change_4 (by decide) rfl ?_
  refine u_iald h (n := 60) 1 rfl (by omega) (by omega) dX5_change_6 rfl ?_
  by_cases k1 : (z 60) = 0
  · refine u_tableIn (off := 25) (tgt := 32) h dX5_change_7 (by rw [k1]; decide) (by rw [k1]; decide) (by rw [k1]; rfl) (by decide) ?_
    refine u_aload_n h dX5_change_32 rfl 0 rfl rfl ?_
    refine u_iload_n h dX5_change_33 rfl 1 rfl rfl ?_
    refine u_callV h (As := [.int (nI v)]) (wc := [(h0, .inr (5, fs)), (qz, aI G 86 z)]) (wr := []) (kX5_changeNudges G h0 qz fs hfz z v hv hW k1) cwX5_change_X5_changeNudges rfl rfl hR ⟨⟨rfl, rfl⟩, by decide, by decide⟩ ⟨Nat.le_of_ble_eq_true rfl, Nat.le_of_ble_eq_true rfl⟩ (ci := 5) (qr := 0) rfl rfl [0, 1] [] rfl rfl rfl rfl (by decide) (Nat.le_of_ble_eq_true rfl) rfl dX5_change_34 rfl (fun v9 u9 hp9 => ?_)
    obtain ⟨rfl, rfl⟩ := hp9
    refine u_wp (ws' := [(h0, .inr (5, fs)), (qz, aI G 86 (chN z v))]) [0, 1] rfl rfl ?_
    refine u_eqs (st' := []) rfl ?_
    refine u_goto (tgt := 61) h dX5_change_37 (by decide) ?_
    exact u_vret h hRT dX5_change_61 (by omega) (by omega) (by refine ⟨rfl, ?_⟩; first | (simp [chM, k1]; done) | (exfalso; simp_all; done) | (simp_all [chM, k1]; done))
  by_cases k2 : (z 60) = 1
  · refine u_tableIn (off := 33) (tgt := 40) h dX5_change_7 (by rw [k2]; decide) (by rw [k2]; decide) (by rw [k2]; rfl) (by decide) ?_
    refine u_aload_n h dX5_change_40 rfl 0 rfl rfl ?_
    refine u_iload_n h dX5_change_41 rfl 1 rfl rfl ?_
    refine u_callV h (As := [.int (nI v)]) (wc := [(h0, .inr (5, fs)), (qz, aI G 86 z)]) (wr := []) (kX5_changeWatching G h0 qz fs hfz z v hv hW k2) cwX5_change_X5_changeWatching rfl rfl hR ⟨⟨rfl, rfl⟩, by decide, by decide⟩ ⟨Nat.le_of_ble_eq_true rfl, Nat.le_of_ble_eq_true rfl⟩ (ci := 5) (qr := 0) rfl rfl [0, 1] [] rfl rfl rfl rfl (by decide) (Nat.le_of_ble_eq_true rfl) rfl dX5_change_42 rfl (fun v9 u9 hp9 => ?_)
    obtain ⟨rfl, rfl⟩ := hp9
    refine u_wp (ws' := [(h0, .inr (5, fs)), (qz, aI G 86 (chW z v))]) [0, 1] rfl rfl ?_
    refine u_eqs (st' := []) rfl ?_
    refine u_goto (tgt := 61) h dX5_change_45 (by decide) ?_
    exact u_vret h hRT dX5_change_61 (by omega) (by omega) (by refine ⟨rfl, ?_⟩; first | (simp [chM, k2]; done) | (exfalso; simp_all; done) | (simp_all [chM, k2]; done))
  by_cases k3 : (z 60) = 2
  · refine u_tableIn (off := 41) (tgt := 48) h dX5_change_7 (by rw [k3]; decide) (by rw [k3]; decide) (by rw [k3]; rfl) (by decide) ?_
    refine u_aload_n h dX5_change_48 rfl 0 rfl rfl ?_
    refine u_iload_n h dX5_change_49 rfl 1 rfl rfl ?_
    refine u_callV h (As := [.int (nI v)]) (wc := [(h0, .inr (5, fs)), (qz, aI G 86 z)]) (wr := []) (kX5_changeTickets G h0 qz fs hfz z v hv) cwX5_change_X5_changeTickets rfl rfl hR ⟨⟨rfl, rfl⟩, by decide, by decide⟩ ⟨Nat.le_of_ble_eq_true rfl, Nat.le_of_ble_eq_true rfl⟩ (ci := 5) (qr := 0) rfl rfl [0, 1] [] rfl rfl rfl rfl (by decide) (Nat.le_of_ble_eq_true rfl) rfl dX5_change_50 rfl (fun v9 u9 hp9 => ?_)
    obtain ⟨rfl, rfl⟩ := hp9
    refine u_wp (ws' := [(h0, .inr (5, fs)), (qz, aI G 86 (chT z v))]) [0, 1] rfl rfl ?_
    refine u_eqs (st' := []) rfl ?_
    refine u_goto (tgt := 61) h dX5_change_53 (by decide) ?_
    exact u_vret h hRT dX5_change_61 (by omega) (by omega) (by refine ⟨rfl, ?_⟩; first | (simp [chM, k3]; done) | (exfalso; simp_all; done) | (simp_all [chM, k3]; done))
  refine u_tableOut (tgt := 56) h dX5_change_7 (ti_out (n := 3) (by decide) (fun k9 hk9 => by rcases (show k9 = 0 ∨ k9 = 1 ∨ k9 = 2 by omega) with rfl | rfl | rfl <;> assumption)) (by decide) ?_
  refine u_aload_n h dX5_change_56 rfl 0 rfl rfl ?_
  refine u_iload_n h dX5_change_57 rfl 1 rfl rfl ?_
  refine u_callV h (As := [.int (nI v)]) (wc := [(h0, .inr (5, fs)), (qz, aI G 86 z)]) (wr := []) (kX5_changeGrabbing G h0 qz fs hfz z v hv) cwX5_change_X5_changeGrabbing rfl rfl hR ⟨⟨rfl, rfl⟩, by decide, by decide⟩ ⟨Nat.le_of_ble_eq_true rfl, Nat.le_of_ble_eq_true rfl⟩ (ci := 5) (qr := 0) rfl rfl [0, 1] [] rfl rfl rfl rfl (by decide) (Nat.le_of_ble_eq_true rfl) rfl dX5_change_58 rfl (fun v9 u9 hp9 => ?_)
  obtain ⟨rfl, rfl⟩ := hp9
  refine u_wp (ws' := [(h0, .inr (5, fs)), (qz, aI G 86 (chG z v))]) [0, 1] rfl rfl ?_
  refine u_eqs (st' := []) rfl ?_
  exact u_vret h hRT dX5_change_61 (by omega) (by omega) (by refine ⟨rfl, ?_⟩; first | (simp [chM, k1, k2, k3]; done) | (exfalso; simp_all; done) | (simp_all [chM, k1, k2, k3]; done))
end
section
theorem flX5_placeOf_7 : FL wsX5_placeOf RX5 7 5 0 := ⟨RX5, TX5, 18, rfl, by decide, by decide +kernel, by decide +kernel⟩
set_option maxHeartbeats 8000000 in
set_option maxRecDepth 100000 in
theorem kX5_placeOf (G : Gx) (h0 qz : Nat) (fs : List Value) (hfz : fs[0]? = some (.ref qz)) (z : Zf) (v : Nat) (hv : v < 6) (m : Nat) (hm : m ≤ 6) (h53 : z 53 = nI m) : MC G yX5_placeOf wsX5_placeOf ({ frames := 0, cells := 0, slots := 0, locals := 0 } : Room) [.ref h0, .int (nI v)] [(h0, .inr (5, fs)), (qz, aI G 86 z)] (fun v' u' => v' = some (.int (plc z v m)) ∧ u' = [(h0, .inr (5, fs)), (qz, aI G 86 z)]) 0 0 := by
  refine mc_of (cc := cX5_placeOf) (maxL := 4) (ret := (some .int)) (by decide) rfl (Nat.le_of_ble_eq_true rfl) (fun X h hR hL hRT => ?_)
  refine u_eql (lv' := [(0, .ref h0), (1, .int (nI v))]) rfl ?_
  refine u_bipush (v := (-5)) h dX5_placeOf_0 (by decide) rfl ?_
  refine u_istore_n (lv' := [(2, .int (-5)), (0, .ref h0), (1, .int (nI v))]) h dX5_placeOf_2 rfl (by rw [hL]; decide) rfl rfl ?_
  refine u_iconst (v := 0) h dX5_placeOf_3 (by decide) rfl ?_
  refine u_istore_n (lv' := [(3, .int 0), (2, .int (-5)), (0, .ref h0), (1, .int (nI v))]) h dX5_placeOf_4 rfl (by rw [hL]; decide) rfl rfl ?_
  have LL : ∀ (k9 : Nat) (k : Nat) (p : Int32), m - k = k9 → k ≤ m → p = plc z v k → U G X 0 0 [(h0, .inr (5, fs)), (qz, aI G 86 z)] 5 [(3, .int (nI k)), (2, .int p), (0, .ref h0), (1, .int (nI v))] [] := by
    intro k9
    induction k9 using Nat.strongRecOn with
    | _ k9 ihL =>
      intro k p hk9 hk hp
      subst hk9
      refine u_iload_n h dX5_placeOf_5 rfl 0 rfl rfl ?_
      refine u_aload_n h dX5_placeOf_6 rfl 2 rfl rfl ?_
      refine u_get h flX5_placeOf_7 0 (v := .ref qz) rfl hfz dX5_placeOf_7 rfl ?_
      refine u_bipush (v := 53) h dX5_placeOf_10 (by decide) rfl ?_
      refine u_iald h (n := 53) 1 rfl (by omega) (by omega) dX5_placeOf_12 rfl ?_
      refine u_top (y := nI m) (h53) ?_
      refine u_icmp_ge_N (a := k) (b := m) (tgt := 41) h dX5_placeOf_13 (by decide) (by omega) (by omega) rfl (fun c1 => ?_) (fun c1 => ?_)
      · refine u_iload_n h dX5_placeOf_41 rfl 1 rfl rfl ?_
        exact u_iret h hRT dX5_placeOf_42 (by omega) (by omega) (by exact ⟨by rw [hp, show k = m from by omega], rfl⟩)
      · refine u_aload_n h dX5_placeOf_16 rfl 2 rfl rfl ?_
        refine u_get h flX5_placeOf_7 0 (v := .ref qz) rfl hfz dX5_placeOf_17 rfl ?_
        refine u_bipush (v := 54) h dX5_placeOf_20 (by decide) rfl ?_
        refine u_iload_n h dX5_placeOf_22 rfl 0 rfl rfl ?_
        refine u_iadd (v := (nI (54 + k))) h dX5_placeOf_23 (nI_add 54 k) rfl ?_
        refine u_iald h (n := (54 + k)) 1 rfl (by omega) (by omega) dX5_placeOf_24 rfl ?_
        refine u_iload_n h dX5_placeOf_25 rfl 3 rfl rfl ?_
        refine u_icmp_ne (tgt := 33) h dX5_placeOf_26 (by decide) rfl (fun c2 => ?_) (fun c2 => ?_)
        · refine u_iload_n h dX5_placeOf_33 rfl 1 rfl rfl ?_
          refine u_istore_n (lv' := [(2, .int p), (3, .int (nI k)), (0, .ref h0), (1, .int (nI v))]) h dX5_placeOf_34 rfl (by rw [hL]; decide) rfl rfl ?_
          refine u_iinc (k := 1) (v := (nI (k + 1))) (lv' := [(3, .int (nI (k + 1))), (2, .int p), (0, .ref h0), (1, .int (nI v))]) h dX5_placeOf_35 rfl (nI_add k 1) (by rw [hL]; decide) rfl rfl ?_
          refine u_goto (tgt := 5) h dX5_placeOf_38 (by decide) ?_
          exact ihL _ (by omega) (k + 1) p rfl (by omega) (by simp [plc, hp, c1, c2])
        · refine u_iload_n h dX5_placeOf_29 rfl 0 rfl rfl ?_
          refine u_goto (tgt := 34) h dX5_placeOf_30 (by decide) ?_
          refine u_istore_n (lv' := [(2, .int (nI k)), (3, .int (nI k)), (0, .ref h0), (1, .int (nI v))]) h dX5_placeOf_34 rfl (by rw [hL]; decide) rfl rfl ?_
          refine u_iinc (k := 1) (v := (nI (k + 1))) (lv' := [(3, .int (nI (k + 1))), (2, .int (nI k)), (0, .ref h0), (1, .int (nI v))]) h dX5_placeOf_35 rfl (nI_add k 1) (by rw [hL]; decide) rfl rfl ?_
          refine u_goto (tgt := 5) h dX5_placeOf_38 (by decide) ?_
          exact ihL _ (by omega) (k + 1) (nI k) rfl (by omega) (by simp [plc, hp, c1, c2])
  exact LL _ 0 (-5) rfl (Nat.zero_le _) rfl

theorem flX5_leaveLine_7 : FL wsX5_leaveLine RX5 7 5 0 := ⟨RX5, TX5, 18, rfl, by decide, by decide +kernel, by decide +kernel⟩
set_option maxRecDepth 20000 in
theorem cwX5_leaveLine_X5_placeOf : CWd wsX5_leaveLine (wsV RX5 82 RX5 yX5_placeOf wsX5_placeOf) yX5_placeOf wsX5_placeOf cX5_placeOf 4 (some .int) 1 := ⟨gX5_leaveLine_X5_placeOf, ⟨_, rfl⟩, by decide +kernel, by decide, by decide⟩
set_option maxHeartbeats 8000000 in
set_option maxRecDepth 100000 in
theorem kX5_leaveLine (G : Gx) (h0 qz : Nat) (fs : List Value) (hfz : fs[0]? = some (.ref qz)) (z : Zf) (v : Nat) (hv : v < 6) (m : Nat) (hm : m ≤ 6) (h53 : z 53 = nI m) : MC G yX5_leaveLine wsX5_leaveLine ({ frames := 1, cells := 0, slots := 0, locals := 25 } : Room) [.ref h0, .int (nI v)] [(h0, .inr (5, fs)), (qz, aI G 86 z)] (fun v' u' => v' = none ∧ u' = [(h0, .inr (5, fs)), (qz, aI G 86 (lvM z v))]) 0 0 := by
  refine mc_of (cc := cX5_leaveLine) (maxL := 4) (ret := none) (by decide) rfl (Nat.le_of_ble_eq_true rfl) (fun X h hR hL hRT => ?_)
  refine u_eql (lv' := [(0, .ref h0), (1, .int (nI v))]) rfl ?_
  refine u_aload_n h dX5_leaveLine_0 rfl 0 rfl rfl ?_
  refine u_iload_n h dX5_leaveLine_1 rfl 1 rfl rfl ?_
  refine u_callV h (As := [.int (nI v)]) (wc := [(h0, .inr (5, fs)), (qz, aI G 86 z)]) (wr := []) (kX5_placeOf G h0 qz fs hfz z v hv m hm h53) cwX5_leaveLine_X5_placeOf rfl rfl hR ⟨⟨rfl, rfl⟩, by decide, by decide⟩ ⟨Nat.le_of_ble_eq_true rfl, Nat.le_of_ble_eq_true rfl⟩ (ci := 5) (qr := 0) rfl rfl [0, 1] [] rfl rfl rfl rfl (by decide) (Nat.le_of_ble_eq_true rfl) rfl dX5_leaveLine_2 rfl (fun v9 u9 hp9 => ?_)
  obtain ⟨rfl, rfl⟩ := hp9
  refine u_wp (ws' := [(h0, .inr (5, fs)), (qz, aI G 86 z)]) [0, 1] rfl rfl ?_
  refine u_eqs (st' := [.int (plc z v m)]) rfl ?_
  refine u_istore_n (lv' := [(2, .int (plc z v m)), (0, .ref h0), (1, .int (nI v))]) h dX5_leaveLine_5 rfl (by rw [hL]; decide) rfl rfl ?_
  rcases plc_cases z v m with ep | ⟨p, hp, ep⟩
  · refine u_eql (lv' := [(2, .int (-5)), (0, .ref h0), (1, .int (nI v))]) (by rw [ep]) ?_
    refine u_iload_n h dX5_leaveLine_6 rfl 0 rfl rfl ?_
    refine u_bipush (v := (-5)) h dX5_leaveLine_7 (by decide) rfl ?_
    refine u_icmp_eq (tgt := 62) h dX5_leaveLine_9 (by decide) rfl (fun c1 => ?_) (fun c1 => ?_)
    · exact u_vret h hRT dX5_leaveLine_62 (by omega) (by omega) (by exact ⟨rfl, by rw [lvM_of hm h53, if_pos ep]⟩)
    · exact absurd rfl c1
  · refine u_eql (lv' := [(2, .int (nI p)), (0, .ref h0), (1, .int (nI v))]) (by rw [ep]) ?_
    refine u_iload_n h dX5_leaveLine_6 rfl 0 rfl rfl ?_
    refine u_bipush (v := (-5)) h dX5_leaveLine_7 (by decide) rfl ?_
    refine u_icmp_eq (tgt := 62) h dX5_leaveLine_9 (by decide) rfl (fun c2 => ?_) (fun c2 => ?_)
    · exact absurd c2 (nI_m5 (by omega))
    · refine u_aload_n h dX5_leaveLine_12 rfl 1 rfl rfl ?_
      refine u_get h flX5_leaveLine_7 0 (v := .ref qz) rfl hfz dX5_leaveLine_13 rfl ?_
      refine u_bipush (v := 53) h dX5_leaveLine_16 (by decide) rfl ?_
      refine u_dup2 h dX5_leaveLine_18 rfl rfl rfl ?_
      refine u_iald h (n := 53) 1 rfl (by omega) (by omega) dX5_leaveLine_19 rfl ?_
      refine u_top (y := nI m) h53 ?_
      refine u_iconst (v := 1) h dX5_leaveLine_20 (by decide) rfl ?_
      refine u_isub (v := (nI (m - 1))) h dX5_leaveLine_21 (pk_sub (a := m) (b := 1) (by omega)) rfl ?_
      refine u_iast h (n := 53) (v := (nI (m - 1))) 1 rfl (by omega) (by omega) rfl (ws' := [(h0, .inr (5, fs)), (qz, aI G 86 (upd z 53 (nI (m - 1))))]) rfl dX5_leaveLine_22 rfl ?_
      refine u_iload_n h dX5_leaveLine_23 rfl 0 rfl rfl ?_
      refine u_istore_n (lv' := [(3, .int (nI p)), (2, .int (nI p)), (0, .ref h0), (1, .int (nI v))]) h dX5_leaveLine_24 rfl (by rw [hL]; decide) rfl rfl ?_
      have LL : ∀ (k9 : Nat) (k : Nat) (w : Zf), m - k = k9 → p ≤ k ∧ k ≤ m - 1 → w = shl (upd z 53 (nI (m - 1))) p (k - p) → U G X 0 0 [(h0, .inr (5, fs)), (qz, aI G 86 w)] 25 [(3, .int (nI k)), (2, .int (nI p)), (0, .ref h0), (1, .int (nI v))] [] := by
        intro k9
        induction k9 using Nat.strongRecOn with
        | _ k9 ihL =>
          intro k w hk9 hk hw
          subst hk9
          refine u_iload_n h dX5_leaveLine_25 rfl 0 rfl rfl ?_
          refine u_aload_n h dX5_leaveLine_26 rfl 2 rfl rfl ?_
          refine u_get h flX5_leaveLine_7 0 (v := .ref qz) rfl hfz dX5_leaveLine_27 rfl ?_
          refine u_bipush (v := 53) h dX5_leaveLine_30 (by decide) rfl ?_
          refine u_iald h (n := 53) 1 rfl (by omega) (by omega) dX5_leaveLine_32 rfl ?_
          refine u_top (y := nI (m - 1)) (by rw [hw, shl_53, pk_us]) ?_
          refine u_icmp_ge_N (a := k) (b := (m - 1)) (tgt := 62) h dX5_leaveLine_33 (by decide) (by omega) (by omega) rfl (fun c3 => ?_) (fun c3 => ?_)
          · exact u_vret h hRT dX5_leaveLine_62 (by omega) (by omega) (by exact ⟨rfl, by rw [lvM_of hm h53, if_neg (by rw [ep]; exact nI_m5 (by omega)), ep, ix_nI (by omega), hw, show k = m - 1 by omega, h53, show nI m - 1 = nI (m - 1) from pk_sub (a := m) (b := 1) (by omega)]⟩)
          · refine u_aload_n h dX5_leaveLine_36 rfl 2 rfl rfl ?_
            refine u_get h flX5_leaveLine_7 0 (v := .ref qz) rfl hfz dX5_leaveLine_37 rfl ?_
            refine u_bipush (v := 54) h dX5_leaveLine_40 (by decide) rfl ?_
            refine u_iload_n h dX5_leaveLine_42 rfl 0 rfl rfl ?_
            refine u_iadd (v := (nI (54 + k))) h dX5_leaveLine_43 (nI_add 54 k) rfl ?_
            refine u_aload_n h dX5_leaveLine_44 rfl 2 rfl rfl ?_
            refine u_get h flX5_leaveLine_7 0 (v := .ref qz) rfl hfz dX5_leaveLine_45 rfl ?_
            refine u_bipush (v := 54) h dX5_leaveLine_48 (by decide) rfl ?_
            refine u_iload_n h dX5_leaveLine_50 rfl 0 rfl rfl ?_
            refine u_iadd (v := (nI (54 + k))) h dX5_leaveLine_51 (nI_add 54 k) rfl ?_
            refine u_iconst (v := 1) h dX5_leaveLine_52 (by decide) rfl ?_
            refine u_iadd (v := (nI ((54 + k) + 1))) h dX5_leaveLine_53 (nI_add (54 + k) 1) rfl ?_
            refine u_iald h (n := ((54 + k) + 1)) 1 rfl (by omega) (by omega) dX5_leaveLine_54 rfl ?_
            refine u_iast h (n := (54 + k)) (v := (w ((54 + k) + 1))) 1 rfl (by omega) (by omega) rfl (ws' := [(h0, .inr (5, fs)), (qz, aI G 86 (upd w (54 + k) (w ((54 + k) + 1))))]) rfl dX5_leaveLine_55 rfl ?_
            refine u_iinc (k := 0) (v := (nI (k + 1))) (lv' := [(3, .int (nI (k + 1))), (2, .int (nI p)), (0, .ref h0), (1, .int (nI v))]) h dX5_leaveLine_56 rfl (nI_add k 1) (by rw [hL]; decide) rfl rfl ?_
            refine u_goto (tgt := 25) h dX5_leaveLine_59 (by decide) ?_
            exact ihL _ (by omega) (k + 1) (upd w (54 + k) (w ((54 + k) + 1))) rfl ⟨by omega, by omega⟩ (by rw [hw]; exact shl_step _ hk.1)
      exact LL _ p (upd z 53 (nI (m - 1))) rfl ⟨Nat.le_refl _, by omega⟩ (by rw [Nat.sub_self]; rfl)

theorem flX5_makeStep_7 : FL wsX5_makeStep RX5 7 5 0 := ⟨RX5, TX5, 18, rfl, by decide, by decide +kernel, by decide +kernel⟩
set_option maxRecDepth 20000 in
theorem cwX5_makeStep_X5_isLook : CWd wsX5_makeStep (wsV RX5 86 RX5 yX5_isLook wsX5_isLook) yX5_isLook wsX5_isLook cX5_isLook 3 (some .boolean) 1 := ⟨gX5_makeStep_X5_isLook, ⟨_, rfl⟩, by decide +kernel, by decide, by decide⟩
set_option maxRecDepth 20000 in
theorem cwX5_makeStep_X5_cost : CWd wsX5_makeStep (wsS RX5 90 yX5_cost wsX5_cost) yX5_cost wsX5_cost cX5_cost 2 (some .int) 2 := ⟨gX5_makeStep_X5_cost, ⟨_, rfl⟩, by decide +kernel, by decide, by decide⟩
set_option maxRecDepth 20000 in
theorem cwX5_makeStep_X5_change : CWd wsX5_makeStep (wsV RX5 94 RX5 yX5_change wsX5_change) yX5_change wsX5_change cX5_change 2 none 1 := ⟨gX5_makeStep_X5_change, ⟨_, rfl⟩, by decide +kernel, by decide, by decide⟩
set_option maxRecDepth 20000 in
theorem cwX5_makeStep_X5_leaveLine : CWd wsX5_makeStep (wsV RX5 97 RX5 yX5_leaveLine wsX5_leaveLine) yX5_leaveLine wsX5_leaveLine cX5_leaveLine 4 none 1 := ⟨gX5_makeStep_X5_leaveLine, ⟨_, rfl⟩, by decide +kernel, by decide, by decide⟩
set_option maxHeartbeats 8000000 in
set_option maxRecDepth 100000 in
theorem kX5_makeStep (G : Gx) (h0 qz : Nat) (fs : List Value) (hfz : fs[0]? = some (.ref qz)) (z : Zf) (v : Nat) (hv : v < 6) (hW : Wf z) : MC G yX5_makeStep wsX5_makeStep ({ frames := 2, cells := 0, slots := 0, locals := 48 } : Room) [.ref h0, .int (nI v)] [(h0, .inr (5, fs)), (qz, aI G 86 z)] (fun v' u' => v' = none ∧ u' = [(h0, .inr (5, fs)), (qz, aI G 86 (stM z v))]) 0 0 := by
  refine mc_of (cc := cX5_makeStep) (maxL := 4) (ret := none) (by decide) rfl (Nat.le_of_ble_eq_true rfl) (fun X h hR hL hRT => ?_)
  refine u_eql (lv' := [(0, .ref h0), (1, .int (nI v))]) rfl ?_
  refine u_aload_n h dX5_makeStep_0 rfl 0 rfl rfl ?_
  refine u_get h flX5_makeStep_7 0 (v := .ref qz) rfl hfz dX5_makeStep_1 rfl ?_
  refine u_iconst (v := 0) h dX5_makeStep_4 (by decide) rfl ?_
  refine u_iload_n h dX5_makeStep_5 rfl 1 rfl rfl ?_
  refine u_iadd (v := (nI v)) h dX5_makeStep_6 (by have h9 := nI_add 0 v; rw [Nat.zero_add] at h9; exact h9) rfl ?_
  refine u_iald h (n := v) 1 rfl (by omega) (by omega) dX5_makeStep_7 rfl ?_
  refine u_istore_n (lv' := [(2, .int (z v)), (0, .ref h0), (1, .int (nI v))]) h dX5_makeStep_8 rfl (by rw [hL]; decide) rfl rfl ?_
  refine u_aload_n h dX5_makeStep_9 rfl 1 rfl rfl ?_
  refine u_iload_n h dX5_makeStep_10 rfl 2 rfl rfl ?_
  refine u_callV h (As := [.int (nI v)]) (wc := [(h0, .inr (5, fs)), (qz, aI G 86 z)]) (wr := []) (kX5_isLook G h0 qz fs hfz z v hv hW) cwX5_makeStep_X5_isLook rfl rfl hR ⟨⟨rfl, rfl⟩, by decide, by decide⟩ ⟨Nat.le_of_ble_eq_true rfl, Nat.le_of_ble_eq_true rfl⟩ (ci := 5) (qr := 0) rfl rfl [0, 1] [] rfl rfl rfl rfl (by decide) (Nat.le_of_ble_eq_true rfl) rfl dX5_makeStep_11 rfl (fun v9 u9 hp9 => ?_)
  obtain ⟨rfl, rfl⟩ := hp9
  refine u_wp (ws' := [(h0, .inr (5, fs)), (qz, aI G 86 z)]) [0, 1] rfl rfl ?_
  refine u_eqs (st' := [.int (bI (isLook z v))]) rfl ?_
  refine u_istore_n (lv' := [(3, .int (bI (isLook z v))), (2, .int (z v)), (0, .ref h0), (1, .int (nI v))]) h dX5_makeStep_14 rfl (by rw [hL]; decide) rfl rfl ?_
  refine u_aload_n h dX5_makeStep_15 rfl 2 rfl rfl ?_
  refine u_get h flX5_makeStep_7 0 (v := .ref qz) rfl hfz dX5_makeStep_16 rfl ?_
  refine u_bipush (v := 62) h dX5_makeStep_19 (by decide) rfl ?_
  refine u_iload_n h dX5_makeStep_21 rfl 3 rfl rfl ?_
  refine u_iadd (v := (nI (62 + v))) h dX5_makeStep_22 (nI_add 62 v) rfl ?_
  refine u_dup2 h dX5_makeStep_23 rfl rfl rfl ?_
  refine u_iald h (n := (62 + v)) 1 rfl (by omega) (by omega) dX5_makeStep_24 rfl ?_
  refine u_iconst (v := 1) h dX5_makeStep_25 (by decide) rfl ?_
  refine u_iadd (v := ((z (62 + v)) + 1)) h dX5_makeStep_26 rfl rfl ?_
  refine u_iast h (n := (62 + v)) (v := ((z (62 + v)) + 1)) 1 rfl (by omega) (by omega) rfl (ws' := [(h0, .inr (5, fs)), (qz, aI G 86 (upd z (62 + v) ((z (62 + v)) + 1)))]) rfl dX5_makeStep_27 rfl ?_
  refine u_aload_n h dX5_makeStep_28 rfl 2 rfl rfl ?_
  refine u_get h flX5_makeStep_7 0 (v := .ref qz) rfl hfz dX5_makeStep_29 rfl ?_
  refine u_bipush (v := 68) h dX5_makeStep_32 (by decide) rfl ?_
  refine u_iload_n h dX5_makeStep_34 rfl 3 rfl rfl ?_
  refine u_iadd (v := (nI (68 + v))) h dX5_makeStep_35 (nI_add 68 v) rfl ?_
  refine u_dup2 h dX5_makeStep_36 rfl rfl rfl ?_
  refine u_iald h (n := (68 + v)) 1 rfl (by omega) (by omega) dX5_makeStep_37 rfl ?_
  refine u_top (y := (z (68 + v))) (by rw [pk_un (by omega)]) ?_
  refine u_iload_n h dX5_makeStep_38 rfl 0 rfl rfl ?_
  have J1 : ∀ x2 : Int32, x2 = (bI (isLook z v)) → U G X 0 0 [(h0, .inr (5, fs)), (qz, aI G 86 (upd z (62 + v) ((z (62 + v)) + 1)))] 47 [(3, .int (bI (isLook z v))), (2, .int (z v)), (0, .ref h0), (1, .int (nI v))] [.int x2, .int (z (68 + v)), .int (nI (68 + v)), .ref qz] := by
    intro x2 e9
    subst e9
    refine u_iadd (v := ((z (68 + v)) + (bI (isLook z v)))) h dX5_makeStep_47 rfl rfl ?_
    refine u_iast h (n := (68 + v)) (v := ((z (68 + v)) + (bI (isLook z v)))) 1 rfl (by omega) (by omega) rfl (ws' := [(h0, .inr (5, fs)), (qz, aI G 86 (upd (upd z (62 + v) ((z (62 + v)) + 1)) (68 + v) ((z (68 + v)) + (bI (isLook z v)))))]) rfl dX5_makeStep_48 rfl ?_
    refine u_aload_n h dX5_makeStep_49 rfl 2 rfl rfl ?_
    refine u_get h flX5_makeStep_7 0 (v := .ref qz) rfl hfz dX5_makeStep_50 rfl ?_
    refine u_bipush (v := 80) h dX5_makeStep_53 (by decide) rfl ?_
    refine u_iload_n h dX5_makeStep_55 rfl 3 rfl rfl ?_
    refine u_iadd (v := (nI (80 + v))) h dX5_makeStep_56 (nI_add 80 v) rfl ?_
    refine u_dup2 h dX5_makeStep_57 rfl rfl rfl ?_
    refine u_iald h (n := (80 + v)) 1 rfl (by omega) (by omega) dX5_makeStep_58 rfl ?_
    refine u_top (y := (z (80 + v))) (by rw [pk_un (by omega), pk_un (by omega)]) ?_
    refine u_aload_n h dX5_makeStep_59 rfl 2 rfl rfl ?_
    refine u_get h flX5_makeStep_7 0 (v := .ref qz) rfl hfz dX5_makeStep_60 rfl ?_
    refine u_bipush (v := 60) h dX5_makeStep_63 (by decide) rfl ?_
    refine u_iald h (n := 60) 1 rfl (by omega) (by omega) dX5_makeStep_65 rfl ?_
    refine u_top (y := (z 60)) (by rw [pk_un (by omega), pk_un (by omega)]) ?_
    refine u_iload_n h dX5_makeStep_66 rfl 1 rfl rfl ?_
    refine u_callS h (As := [.int (z 60), .int (z v)]) (wc := []) (wr := [(h0, .inr (5, fs)), (qz, aI G 86 (upd (upd z (62 + v) ((z (62 + v)) + 1)) (68 + v) ((z (68 + v)) + (bI (isLook z v)))))]) (kX5_cost G (z 60) (z v)) cwX5_makeStep_X5_cost rfl rfl hR ⟨⟨rfl, rfl⟩, by decide, by decide⟩ ⟨Nat.le_of_ble_eq_true rfl, Nat.le_of_ble_eq_true rfl⟩ [] [0, 1] rfl rfl rfl rfl (by decide) (Nat.le_of_ble_eq_true rfl) rfl dX5_makeStep_67 rfl (fun v9 u9 hp9 => ?_)
    obtain ⟨rfl, rfl⟩ := hp9
    refine u_wp (ws' := [(h0, .inr (5, fs)), (qz, aI G 86 (upd (upd z (62 + v) ((z (62 + v)) + 1)) (68 + v) ((z (68 + v)) + (bI (isLook z v)))))]) [0, 1] rfl rfl ?_
    refine u_eqs (st' := [.int (costM (z 60) (z v)), .int (z (80 + v)), .int (nI (80 + v)), .ref qz]) rfl ?_
    refine u_iadd (v := ((z (80 + v)) + (costM (z 60) (z v)))) h dX5_makeStep_70 rfl rfl ?_
    refine u_iast h (n := (80 + v)) (v := ((z (80 + v)) + (costM (z 60) (z v)))) 1 rfl (by omega) (by omega) rfl (ws' := [(h0, .inr (5, fs)), (qz, aI G 86 (upd (upd (upd z (62 + v) ((z (62 + v)) + 1)) (68 + v) ((z (68 + v)) + (bI (isLook z v)))) (80 + v) ((z (80 + v)) + (costM (z 60) (z v)))))]) rfl dX5_makeStep_71 rfl ?_
    refine u_eqw (ws' := [(h0, .inr (5, fs)), (qz, aI G 86 (st3 z v))]) (by simp [st3]) ?_
    refine u_iload_n h dX5_makeStep_72 rfl 0 rfl rfl ?_
    refine u_if_eq_B (tgt := 77) h dX5_makeStep_73 (by decide) rfl (fun c3 => ?_) (fun c3 => ?_)
    · refine u_aload_n h dX5_makeStep_77 rfl 2 rfl rfl ?_
      refine u_iload_n h dX5_makeStep_78 rfl 3 rfl rfl ?_
      refine u_callV h (As := [.int (nI v)]) (wc := [(h0, .inr (5, fs)), (qz, aI G 86 (st3 z v))]) (wr := []) (kX5_change G h0 qz fs hfz (st3 z v) v hv (st3_wf hW)) cwX5_makeStep_X5_change rfl rfl hR ⟨⟨rfl, rfl⟩, by decide, by decide⟩ ⟨Nat.le_of_ble_eq_true rfl, Nat.le_of_ble_eq_true rfl⟩ (ci := 5) (qr := 0) rfl rfl [0, 1] [] rfl rfl rfl rfl (by decide) (Nat.le_of_ble_eq_true rfl) rfl dX5_makeStep_79 rfl (fun v9 u9 hp9 => ?_)
      obtain ⟨rfl, rfl⟩ := hp9
      refine u_wp (ws' := [(h0, .inr (5, fs)), (qz, aI G 86 (chM (st3 z v) v))]) [0, 1] rfl rfl ?_
      refine u_eqs (st' := []) rfl ?_
      obtain ⟨m, hm, h53⟩ := hW.m
      have h4 : chM (st3 z v) v 53 = nI m := by rw [chM_hi (st3_wf hW) hv (by omega), st3_lo (by omega)]; exact h53
      refine u_aload_n h dX5_makeStep_82 rfl 2 rfl rfl ?_
      refine u_get h flX5_makeStep_7 0 (v := .ref qz) rfl hfz dX5_makeStep_83 rfl ?_
      refine u_iconst (v := 0) h dX5_makeStep_86 (by decide) rfl ?_
      refine u_iload_n h dX5_makeStep_87 rfl 3 rfl rfl ?_
      refine u_iadd (v := (nI v)) h dX5_makeStep_88 (by have h9 := nI_add 0 v; rw [Nat.zero_add] at h9; exact h9) rfl ?_
      refine u_iald h (n := v) 1 rfl (by omega) (by omega) dX5_makeStep_89 rfl ?_
      refine u_if_ne (tgt := 111) h dX5_makeStep_90 (by decide) rfl (fun c4 => ?_) (fun c4 => ?_)
      · refine u_eqw (ws' := [(h0, .inr (5, fs)), (qz, aI G 86 (st5 (chM (st3 z v) v) v))]) (by simp [st5, c3, c4]) ?_
        refine u_aload_n h dX5_makeStep_111 rfl 2 rfl rfl ?_
        refine u_get h flX5_makeStep_7 0 (v := .ref qz) rfl hfz dX5_makeStep_112 rfl ?_
        refine u_bipush (v := 60) h dX5_makeStep_115 (by decide) rfl ?_
        refine u_iald h (n := 60) 1 rfl (by omega) (by omega) dX5_makeStep_117 rfl ?_
        refine u_iconst (v := 3) h dX5_makeStep_118 (by decide) rfl ?_
        refine u_icmp_ge (tgt := 166) h dX5_makeStep_119 (by decide) rfl (fun c5 => ?_) (fun c5 => ?_)
        · exact u_vret h hRT dX5_makeStep_166 (by omega) (by omega) (by refine ⟨rfl, ?_⟩; first | (simp [stM, st6, c3, c4, c5, Int32.not_lt.mpr c5]; done) | (exfalso; simp_all; done) | (simp_all [stM, st6, c3, c4, c5, Int32.not_lt.mpr c5]; done))
        · refine u_iload_n h dX5_makeStep_122 rfl 1 rfl rfl ?_
          refine u_iconst (v := 2) h dX5_makeStep_123 (by decide) rfl ?_
          refine u_icmp_ge (tgt := 166) h dX5_makeStep_124 (by decide) rfl (fun c6 => ?_) (fun c6 => ?_)
          · exact u_vret h hRT dX5_makeStep_166 (by omega) (by omega) (by refine ⟨rfl, ?_⟩; first | (simp [stM, st6, c3, c4, c5, Int32.not_le.mp c5, c6, Int32.not_lt.mpr c6]; done) | (exfalso; simp_all; done) | (simp_all [stM, st6, c3, c4, c5, Int32.not_le.mp c5, c6, Int32.not_lt.mpr c6]; done))
          · refine u_aload_n h dX5_makeStep_127 rfl 2 rfl rfl ?_
            refine u_get h flX5_makeStep_7 0 (v := .ref qz) rfl hfz dX5_makeStep_128 rfl ?_
            refine u_iconst (v := 0) h dX5_makeStep_131 (by decide) rfl ?_
            refine u_iload_n h dX5_makeStep_132 rfl 3 rfl rfl ?_
            refine u_iadd (v := (nI v)) h dX5_makeStep_133 (by have h9 := nI_add 0 v; rw [Nat.zero_add] at h9; exact h9) rfl ?_
            refine u_iald h (n := v) 1 rfl (by omega) (by omega) dX5_makeStep_134 rfl ?_
            refine u_iconst (v := 2) h dX5_makeStep_135 (by decide) rfl ?_
            refine u_icmp_lt (tgt := 166) h dX5_makeStep_136 (by decide) rfl (fun c7 => ?_) (fun c7 => ?_)
            · exact u_vret h hRT dX5_makeStep_166 (by omega) (by omega) (by refine ⟨rfl, ?_⟩; first | (simp [stM, st6, c3, c4, c5, Int32.not_le.mp c5, c6, Int32.not_le.mp c6, c7, Int32.not_le.mpr c7]; done) | (exfalso; simp_all; done) | (simp_all [stM, st6, c3, c4, c5, Int32.not_le.mp c5, c6, Int32.not_le.mp c6, c7, Int32.not_le.mpr c7]; done))
            · refine u_aload_n h dX5_makeStep_139 rfl 2 rfl rfl ?_
              refine u_get h flX5_makeStep_7 0 (v := .ref qz) rfl hfz dX5_makeStep_140 rfl ?_
              refine u_bipush (v := 54) h dX5_makeStep_143 (by decide) rfl ?_
              refine u_aload_n h dX5_makeStep_145 rfl 2 rfl rfl ?_
              refine u_get h flX5_makeStep_7 0 (v := .ref qz) rfl hfz dX5_makeStep_146 rfl ?_
              refine u_bipush (v := 53) h dX5_makeStep_149 (by decide) rfl ?_
              refine u_iald h (n := 53) 1 rfl (by omega) (by omega) dX5_makeStep_151 rfl ?_
              obtain ⟨n, hn, e5⟩ := st5_53 hv hm h4
              refine u_top (y := nI n) e5 ?_
              refine u_iadd (v := (nI (54 + n))) h dX5_makeStep_152 (nI_add 54 n) rfl ?_
              refine u_iload_n h dX5_makeStep_153 rfl 3 rfl rfl ?_
              refine u_iast h (n := (54 + n)) (v := (nI v)) 1 rfl (by omega) (by omega) rfl (ws' := [(h0, .inr (5, fs)), (qz, aI G 86 (upd (st5 (chM (st3 z v) v) v) (54 + n) (nI v)))]) rfl dX5_makeStep_154 rfl ?_
              refine u_aload_n h dX5_makeStep_155 rfl 2 rfl rfl ?_
              refine u_get h flX5_makeStep_7 0 (v := .ref qz) rfl hfz dX5_makeStep_156 rfl ?_
              refine u_bipush (v := 53) h dX5_makeStep_159 (by decide) rfl ?_
              refine u_dup2 h dX5_makeStep_161 rfl rfl rfl ?_
              refine u_iald h (n := 53) 1 rfl (by omega) (by omega) dX5_makeStep_162 rfl ?_
              refine u_top (y := ((st5 (chM (st3 z v) v) v) 53)) (by rw [pk_un (by omega)]) ?_
              refine u_iconst (v := 1) h dX5_makeStep_163 (by decide) rfl ?_
              refine u_iadd (v := (((st5 (chM (st3 z v) v) v) 53) + 1)) h dX5_makeStep_164 rfl rfl ?_
              refine u_iast h (n := 53) (v := (((st5 (chM (st3 z v) v) v) 53) + 1)) 1 rfl (by omega) (by omega) rfl (ws' := [(h0, .inr (5, fs)), (qz, aI G 86 (upd (upd (st5 (chM (st3 z v) v) v) (54 + n) (nI v)) 53 (((st5 (chM (st3 z v) v) v) 53) + 1)))]) rfl dX5_makeStep_165 rfl ?_
              exact u_vret h hRT dX5_makeStep_166 (by omega) (by omega) (by refine ⟨rfl, ?_⟩; first | (simp [stM, st6, c3, c4, c5, Int32.not_le.mp c5, c6, Int32.not_le.mp c6, c7, Int32.not_lt.mp c7, e5, ix_nI (show n < 2 ^ 31 by omega)]; done) | (exfalso; simp_all; done) | (simp_all [stM, st6, c3, c4, c5, Int32.not_le.mp c5, c6, Int32.not_le.mp c6, c7, Int32.not_lt.mp c7, e5, ix_nI (show n < 2 ^ 31 by omega)]; done))
      · refine u_aload_n h dX5_makeStep_93 rfl 2 rfl rfl ?_
        refine u_get h flX5_makeStep_7 0 (v := .ref qz) rfl hfz dX5_makeStep_94 rfl ?_
        refine u_bipush (v := 74) h dX5_makeStep_97 (by decide) rfl ?_
        refine u_iload_n h dX5_makeStep_99 rfl 3 rfl rfl ?_
        refine u_iadd (v := (nI (74 + v))) h dX5_makeStep_100 (nI_add 74 v) rfl ?_
        refine u_dup2 h dX5_makeStep_101 rfl rfl rfl ?_
        refine u_iald h (n := (74 + v)) 1 rfl (by omega) (by omega) dX5_makeStep_102 rfl ?_
        refine u_iconst (v := 1) h dX5_makeStep_103 (by decide) rfl ?_
        refine u_iadd (v := (((chM (st3 z v) v) (74 + v)) + 1)) h dX5_makeStep_104 rfl rfl ?_
        refine u_iast h (n := (74 + v)) (v := (((chM (st3 z v) v) (74 + v)) + 1)) 1 rfl (by omega) (by omega) rfl (ws' := [(h0, .inr (5, fs)), (qz, aI G 86 (upd (chM (st3 z v) v) (74 + v) (((chM (st3 z v) v) (74 + v)) + 1)))]) rfl dX5_makeStep_105 rfl ?_
        refine u_aload_n h dX5_makeStep_106 rfl 2 rfl rfl ?_
        refine u_iload_n h dX5_makeStep_107 rfl 3 rfl rfl ?_
        refine u_callV h (As := [.int (nI v)]) (wc := [(h0, .inr (5, fs)), (qz, aI G 86 (upd (chM (st3 z v) v) (74 + v) (((chM (st3 z v) v) (74 + v)) + 1)))]) (wr := []) (kX5_leaveLine G h0 qz fs hfz (upd (chM (st3 z v) v) (74 + v) (((chM (st3 z v) v) (74 + v)) + 1)) v hv m hm (by rw [pk_un (by omega)]; exact h4)) cwX5_makeStep_X5_leaveLine rfl rfl hR ⟨⟨rfl, rfl⟩, by decide, by decide⟩ ⟨Nat.le_of_ble_eq_true rfl, Nat.le_of_ble_eq_true rfl⟩ (ci := 5) (qr := 0) rfl rfl [0, 1] [] rfl rfl rfl rfl (by decide) (Nat.le_of_ble_eq_true rfl) rfl dX5_makeStep_108 rfl (fun v9 u9 hp9 => ?_)
        obtain ⟨rfl, rfl⟩ := hp9
        refine u_wp (ws' := [(h0, .inr (5, fs)), (qz, aI G 86 (lvM (upd (chM (st3 z v) v) (74 + v) (((chM (st3 z v) v) (74 + v)) + 1)) v))]) [0, 1] rfl rfl ?_
        refine u_eqs (st' := []) rfl ?_
        refine u_eqw (ws' := [(h0, .inr (5, fs)), (qz, aI G 86 (st5 (chM (st3 z v) v) v))]) (by simp [st5, c3, c4]) ?_
        refine u_aload_n h dX5_makeStep_111 rfl 2 rfl rfl ?_
        refine u_get h flX5_makeStep_7 0 (v := .ref qz) rfl hfz dX5_makeStep_112 rfl ?_
        refine u_bipush (v := 60) h dX5_makeStep_115 (by decide) rfl ?_
        refine u_iald h (n := 60) 1 rfl (by omega) (by omega) dX5_makeStep_117 rfl ?_
        refine u_iconst (v := 3) h dX5_makeStep_118 (by decide) rfl ?_
        refine u_icmp_ge (tgt := 166) h dX5_makeStep_119 (by decide) rfl (fun c8 => ?_) (fun c8 => ?_)
        · exact u_vret h hRT dX5_makeStep_166 (by omega) (by omega) (by refine ⟨rfl, ?_⟩; first | (simp [stM, st6, c3, c4, c8, Int32.not_lt.mpr c8]; done) | (exfalso; simp_all; done) | (simp_all [stM, st6, c3, c4, c8, Int32.not_lt.mpr c8]; done))
        · refine u_iload_n h dX5_makeStep_122 rfl 1 rfl rfl ?_
          refine u_iconst (v := 2) h dX5_makeStep_123 (by decide) rfl ?_
          refine u_icmp_ge (tgt := 166) h dX5_makeStep_124 (by decide) rfl (fun c9 => ?_) (fun c9 => ?_)
          · exact u_vret h hRT dX5_makeStep_166 (by omega) (by omega) (by refine ⟨rfl, ?_⟩; first | (simp [stM, st6, c3, c4, c8, Int32.not_le.mp c8, c9, Int32.not_lt.mpr c9]; done) | (exfalso; simp_all; done) | (simp_all [stM, st6, c3, c4, c8, Int32.not_le.mp c8, c9, Int32.not_lt.mpr c9]; done))
          · refine u_aload_n h dX5_makeStep_127 rfl 2 rfl rfl ?_
            refine u_get h flX5_makeStep_7 0 (v := .ref qz) rfl hfz dX5_makeStep_128 rfl ?_
            refine u_iconst (v := 0) h dX5_makeStep_131 (by decide) rfl ?_
            refine u_iload_n h dX5_makeStep_132 rfl 3 rfl rfl ?_
            refine u_iadd (v := (nI v)) h dX5_makeStep_133 (by have h9 := nI_add 0 v; rw [Nat.zero_add] at h9; exact h9) rfl ?_
            refine u_iald h (n := v) 1 rfl (by omega) (by omega) dX5_makeStep_134 rfl ?_
            refine u_iconst (v := 2) h dX5_makeStep_135 (by decide) rfl ?_
            refine u_icmp_lt (tgt := 166) h dX5_makeStep_136 (by decide) rfl (fun c10 => ?_) (fun c10 => ?_)
            · exact u_vret h hRT dX5_makeStep_166 (by omega) (by omega) (by refine ⟨rfl, ?_⟩; first | (simp [stM, st6, c3, c4, c8, Int32.not_le.mp c8, c9, Int32.not_le.mp c9, c10, Int32.not_le.mpr c10]; done) | (exfalso; simp_all; done) | (simp_all [stM, st6, c3, c4, c8, Int32.not_le.mp c8, c9, Int32.not_le.mp c9, c10, Int32.not_le.mpr c10]; done))
            · refine u_aload_n h dX5_makeStep_139 rfl 2 rfl rfl ?_
              refine u_get h flX5_makeStep_7 0 (v := .ref qz) rfl hfz dX5_makeStep_140 rfl ?_
              refine u_bipush (v := 54) h dX5_makeStep_143 (by decide) rfl ?_
              refine u_aload_n h dX5_makeStep_145 rfl 2 rfl rfl ?_
              refine u_get h flX5_makeStep_7 0 (v := .ref qz) rfl hfz dX5_makeStep_146 rfl ?_
              refine u_bipush (v := 53) h dX5_makeStep_149 (by decide) rfl ?_
              refine u_iald h (n := 53) 1 rfl (by omega) (by omega) dX5_makeStep_151 rfl ?_
              obtain ⟨n, hn, e5⟩ := st5_53 hv hm h4
              refine u_top (y := nI n) e5 ?_
              refine u_iadd (v := (nI (54 + n))) h dX5_makeStep_152 (nI_add 54 n) rfl ?_
              refine u_iload_n h dX5_makeStep_153 rfl 3 rfl rfl ?_
              refine u_iast h (n := (54 + n)) (v := (nI v)) 1 rfl (by omega) (by omega) rfl (ws' := [(h0, .inr (5, fs)), (qz, aI G 86 (upd (st5 (chM (st3 z v) v) v) (54 + n) (nI v)))]) rfl dX5_makeStep_154 rfl ?_
              refine u_aload_n h dX5_makeStep_155 rfl 2 rfl rfl ?_
              refine u_get h flX5_makeStep_7 0 (v := .ref qz) rfl hfz dX5_makeStep_156 rfl ?_
              refine u_bipush (v := 53) h dX5_makeStep_159 (by decide) rfl ?_
              refine u_dup2 h dX5_makeStep_161 rfl rfl rfl ?_
              refine u_iald h (n := 53) 1 rfl (by omega) (by omega) dX5_makeStep_162 rfl ?_
              refine u_top (y := ((st5 (chM (st3 z v) v) v) 53)) (by rw [pk_un (by omega)]) ?_
              refine u_iconst (v := 1) h dX5_makeStep_163 (by decide) rfl ?_
              refine u_iadd (v := (((st5 (chM (st3 z v) v) v) 53) + 1)) h dX5_makeStep_164 rfl rfl ?_
              refine u_iast h (n := 53) (v := (((st5 (chM (st3 z v) v) v) 53) + 1)) 1 rfl (by omega) (by omega) rfl (ws' := [(h0, .inr (5, fs)), (qz, aI G 86 (upd (upd (st5 (chM (st3 z v) v) v) (54 + n) (nI v)) 53 (((st5 (chM (st3 z v) v) v) 53) + 1)))]) rfl dX5_makeStep_165 rfl ?_
              exact u_vret h hRT dX5_makeStep_166 (by omega) (by omega) (by refine ⟨rfl, ?_⟩; first | (simp [stM, st6, c3, c4, c8, Int32.not_le.mp c8, c9, Int32.not_le.mp c9, c10, Int32.not_lt.mp c10, e5, ix_nI (show n < 2 ^ 31 by omega)]; done) | (exfalso; simp_all; done) | (simp_all [stM, st6, c3, c4, c8, Int32.not_le.mp c8, c9, Int32.not_le.mp c9, c10, Int32.not_lt.mp c10, e5, ix_nI (show n < 2 ^ 31 by omega)]; done))
    · exact u_vret h hRT dX5_makeStep_76 (by omega) (by omega) (by refine ⟨rfl, ?_⟩; simp [stM, c3])
  refine u_if_eq_B (tgt := 46) h dX5_makeStep_39 (by decide) rfl (fun c11 => ?_) (fun c11 => ?_)
  · refine u_iconst (v := 0) h dX5_makeStep_46 (by decide) rfl ?_
    exact J1 _ (by simp [bI, c11])
  · refine u_iconst (v := 1) h dX5_makeStep_42 (by decide) rfl ?_
    refine u_goto (tgt := 47) h dX5_makeStep_43 (by decide) ?_
    exact J1 _ (by simp [bI, c11])
end
