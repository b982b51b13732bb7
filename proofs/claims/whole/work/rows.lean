section
-- ===== PART A: goes FIRST, ahead of the names: the tables' words, and 'selects' of the private methods out of them =====
/-- a private method of a class that the tables say can be made, by its rows of tables_1 -/
def lw_okq (q : MethodName × Nat) : Prop := (q.1.cls ≠ "java/lang/invoke/MethodHandle" ∧ q.1.cls ≠ "java/lang/invoke/VarHandle") ∧ Cond.instantiable q.1.cls q.2 ∈ tables_1 ∧ Cond.privateMethod q.1 ∈ tables_1 ∧ Cond.instanceMethod q.1 ∈ tables_1
theorem lw_p0 : lw_okq (⟨"BellCars", "startAnew", "()V"⟩, 11) := ⟨⟨by decide +kernel, by decide +kernel⟩, List.mem_of_getElem? (i := 12) (by decide +kernel), List.mem_of_getElem? (i := 160) (by decide +kernel), List.mem_of_getElem? (i := 161) (by decide +kernel)⟩
theorem lw_p1 : lw_okq (⟨"BellCars$Text", "advance", "()V"⟩, 7) := ⟨⟨by decide +kernel, by decide +kernel⟩, List.mem_of_getElem? (i := 20) (by decide +kernel), List.mem_of_getElem? (i := 229) (by decide +kernel), List.mem_of_getElem? (i := 230) (by decide +kernel)⟩
theorem lw_p2 : lw_okq (⟨"BellCars$Text", "passBytes", "(II)V"⟩, 7) := ⟨⟨by decide +kernel, by decide +kernel⟩, List.mem_of_getElem? (i := 20) (by decide +kernel), List.mem_of_getElem? (i := 233) (by decide +kernel), List.mem_of_getElem? (i := 234) (by decide +kernel)⟩
theorem lw_p3 : lw_okq (⟨"BellCars$Text", "takeLetters", "(I)V"⟩, 7) := ⟨⟨by decide +kernel, by decide +kernel⟩, List.mem_of_getElem? (i := 20) (by decide +kernel), List.mem_of_getElem? (i := 237) (by decide +kernel), List.mem_of_getElem? (i := 238) (by decide +kernel)⟩
theorem lw_p4 : lw_okq (⟨"BellCars$Text", "takeNumber", "(I)V"⟩, 7) := ⟨⟨by decide +kernel, by decide +kernel⟩, List.mem_of_getElem? (i := 20) (by decide +kernel), List.mem_of_getElem? (i := 241) (by decide +kernel), List.mem_of_getElem? (i := 242) (by decide +kernel)⟩
theorem lw_p5 : lw_okq (⟨"BellCars$Text", "readItem", "(LBellCars$Told;)Z"⟩, 7) := ⟨⟨by decide +kernel, by decide +kernel⟩, List.mem_of_getElem? (i := 20) (by decide +kernel), List.mem_of_getElem? (i := 248) (by decide +kernel), List.mem_of_getElem? (i := 249) (by decide +kernel)⟩
theorem lw_p6 : lw_okq (⟨"BellCars$Text", "readRider", "(LBellCars$Told;I)Z"⟩, 7) := ⟨⟨by decide +kernel, by decide +kernel⟩, List.mem_of_getElem? (i := 20) (by decide +kernel), List.mem_of_getElem? (i := 252) (by decide +kernel), List.mem_of_getElem? (i := 253) (by decide +kernel)⟩
theorem lw_p7 : lw_okq (⟨"BellCars$Text", "comesNumber", "(II)Z"⟩, 7) := ⟨⟨by decide +kernel, by decide +kernel⟩, List.mem_of_getElem? (i := 20) (by decide +kernel), List.mem_of_getElem? (i := 256) (by decide +kernel), List.mem_of_getElem? (i := 257) (by decide +kernel)⟩
theorem lw_p8 : lw_okq (⟨"BellCars$Text", "comesEnd", "(LBellCars$Told;)Z"⟩, 7) := ⟨⟨by decide +kernel, by decide +kernel⟩, List.mem_of_getElem? (i := 20) (by decide +kernel), List.mem_of_getElem? (i := 260) (by decide +kernel), List.mem_of_getElem? (i := 261) (by decide +kernel)⟩
theorem lw_p9 : lw_okq (⟨"BellCars$Text", "readLine", "(LBellCars$Told;)Z"⟩, 7) := ⟨⟨by decide +kernel, by decide +kernel⟩, List.mem_of_getElem? (i := 20) (by decide +kernel), List.mem_of_getElem? (i := 264) (by decide +kernel), List.mem_of_getElem? (i := 265) (by decide +kernel)⟩
theorem lw_p10 : lw_okq (⟨"BellCars", "isRider", "(I)Z"⟩, 11) := ⟨⟨by decide +kernel, by decide +kernel⟩, List.mem_of_getElem? (i := 12) (by decide +kernel), List.mem_of_getElem? (i := 277) (by decide +kernel), List.mem_of_getElem? (i := 278) (by decide +kernel)⟩
theorem lw_p11 : lw_okq (⟨"BellCars", "whom", "(LBellCars$Moment;II)I"⟩, 11) := ⟨⟨by decide +kernel, by decide +kernel⟩, List.mem_of_getElem? (i := 12) (by decide +kernel), List.mem_of_getElem? (i := 285) (by decide +kernel), List.mem_of_getElem? (i := 286) (by decide +kernel)⟩
theorem lw_p12 : lw_okq (⟨"BellCars", "nearest", "(LBellCars$Moment;II)I"⟩, 11) := ⟨⟨by decide +kernel, by decide +kernel⟩, List.mem_of_getElem? (i := 12) (by decide +kernel), List.mem_of_getElem? (i := 289) (by decide +kernel), List.mem_of_getElem? (i := 290) (by decide +kernel)⟩
theorem lw_p13 : lw_okq (⟨"BellCars", "fairest", "(LBellCars$Moment;I)I"⟩, 11) := ⟨⟨by decide +kernel, by decide +kernel⟩, List.mem_of_getElem? (i := 12) (by decide +kernel), List.mem_of_getElem? (i := 296) (by decide +kernel), List.mem_of_getElem? (i := 297) (by decide +kernel)⟩
theorem lw_p14 : lw_okq (⟨"BellCars", "nextAboard", "(LBellCars$Moment;I)I"⟩, 11) := ⟨⟨by decide +kernel, by decide +kernel⟩, List.mem_of_getElem? (i := 12) (by decide +kernel), List.mem_of_getElem? (i := 300) (by decide +kernel), List.mem_of_getElem? (i := 301) (by decide +kernel)⟩
theorem lw_p15 : lw_okq (⟨"BellCars", "downByRing", "(LBellCars$Moment;II)I"⟩, 11) := ⟨⟨by decide +kernel, by decide +kernel⟩, List.mem_of_getElem? (i := 12) (by decide +kernel), List.mem_of_getElem? (i := 304) (by decide +kernel), List.mem_of_getElem? (i := 305) (by decide +kernel)⟩
def lw_privs_1 : List (MethodName × Nat) := [(⟨"BellCars", "startAnew", "()V"⟩, 11), (⟨"BellCars$Text", "advance", "()V"⟩, 7), (⟨"BellCars$Text", "passBytes", "(II)V"⟩, 7), (⟨"BellCars$Text", "takeLetters", "(I)V"⟩, 7), (⟨"BellCars$Text", "takeNumber", "(I)V"⟩, 7), (⟨"BellCars$Text", "readItem", "(LBellCars$Told;)Z"⟩, 7), (⟨"BellCars$Text", "readRider", "(LBellCars$Told;I)Z"⟩, 7), (⟨"BellCars$Text", "comesNumber", "(II)Z"⟩, 7), (⟨"BellCars$Text", "comesEnd", "(LBellCars$Told;)Z"⟩, 7), (⟨"BellCars$Text", "readLine", "(LBellCars$Told;)Z"⟩, 7), (⟨"BellCars", "isRider", "(I)Z"⟩, 11), (⟨"BellCars", "whom", "(LBellCars$Moment;II)I"⟩, 11), (⟨"BellCars", "nearest", "(LBellCars$Moment;II)I"⟩, 11), (⟨"BellCars", "fairest", "(LBellCars$Moment;I)I"⟩, 11), (⟨"BellCars", "nextAboard", "(LBellCars$Moment;I)I"⟩, 11), (⟨"BellCars", "downByRing", "(LBellCars$Moment;II)I"⟩, 11)]
theorem lw_r1 : ∀ q ∈ lw_privs_1, lw_okq q := List.forall_mem_cons.mpr ⟨lw_p0, List.forall_mem_cons.mpr ⟨lw_p1, List.forall_mem_cons.mpr ⟨lw_p2, List.forall_mem_cons.mpr ⟨lw_p3, List.forall_mem_cons.mpr ⟨lw_p4, List.forall_mem_cons.mpr ⟨lw_p5, List.forall_mem_cons.mpr ⟨lw_p6, List.forall_mem_cons.mpr ⟨lw_p7, List.forall_mem_cons.mpr ⟨lw_p8, List.forall_mem_cons.mpr ⟨lw_p9, List.forall_mem_cons.mpr ⟨lw_p10, List.forall_mem_cons.mpr ⟨lw_p11, List.forall_mem_cons.mpr ⟨lw_p12, List.forall_mem_cons.mpr ⟨lw_p13, List.forall_mem_cons.mpr ⟨lw_p14, List.forall_mem_cons.mpr ⟨lw_p15, fun _ h => absurd h List.not_mem_nil⟩⟩⟩⟩⟩⟩⟩⟩⟩⟩⟩⟩⟩⟩⟩⟩
theorem lw_p16 : lw_okq (⟨"BellCars", "downByDoubleRing", "(LBellCars$Moment;I)I"⟩, 11) := ⟨⟨by decide +kernel, by decide +kernel⟩, List.mem_of_getElem? (i := 12) (by decide +kernel), List.mem_of_getElem? (i := 312) (by decide +kernel), List.mem_of_getElem? (i := 313) (by decide +kernel)⟩
theorem lw_p17 : lw_okq (⟨"BellCars", "isPair", "(II)Z"⟩, 11) := ⟨⟨by decide +kernel, by decide +kernel⟩, List.mem_of_getElem? (i := 12) (by decide +kernel), List.mem_of_getElem? (i := 320) (by decide +kernel), List.mem_of_getElem? (i := 321) (by decide +kernel)⟩
theorem lw_p18 : lw_okq (⟨"BellCars$Past", "placeOf", "(I)I"⟩, 3) := ⟨⟨by decide +kernel, by decide +kernel⟩, List.mem_of_getElem? (i := 128) (by decide +kernel), List.mem_of_getElem? (i := 332) (by decide +kernel), List.mem_of_getElem? (i := 333) (by decide +kernel)⟩
theorem lw_p19 : lw_okq (⟨"BellCars", "ride", "(LBellCars$Moment;)V"⟩, 11) := ⟨⟨by decide +kernel, by decide +kernel⟩, List.mem_of_getElem? (i := 12) (by decide +kernel), List.mem_of_getElem? (i := 340) (by decide +kernel), List.mem_of_getElem? (i := 341) (by decide +kernel)⟩
theorem lw_p20 : lw_okq (⟨"BellCars", "rowsFrom", "(LBellCars$Moment;IIII)I"⟩, 11) := ⟨⟨by decide +kernel, by decide +kernel⟩, List.mem_of_getElem? (i := 12) (by decide +kernel), List.mem_of_getElem? (i := 398) (by decide +kernel), List.mem_of_getElem? (i := 399) (by decide +kernel)⟩
theorem lw_p21 : lw_okq (⟨"BellCars", "downInRow", "(LBellCars$Moment;IIII)I"⟩, 11) := ⟨⟨by decide +kernel, by decide +kernel⟩, List.mem_of_getElem? (i := 12) (by decide +kernel), List.mem_of_getElem? (i := 402) (by decide +kernel), List.mem_of_getElem? (i := 403) (by decide +kernel)⟩
theorem lw_p22 : lw_okq (⟨"BellCars", "ringerAt", "(LBellCars$Moment;II)I"⟩, 11) := ⟨⟨by decide +kernel, by decide +kernel⟩, List.mem_of_getElem? (i := 12) (by decide +kernel), List.mem_of_getElem? (i := 406) (by decide +kernel), List.mem_of_getElem? (i := 407) (by decide +kernel)⟩
theorem lw_p23 : lw_okq (⟨"BellCars", "firstRinger", "(LBellCars$Moment;IIII)I"⟩, 11) := ⟨⟨by decide +kernel, by decide +kernel⟩, List.mem_of_getElem? (i := 12) (by decide +kernel), List.mem_of_getElem? (i := 410) (by decide +kernel), List.mem_of_getElem? (i := 411) (by decide +kernel)⟩
theorem lw_p24 : lw_okq (⟨"BellCars", "isPairAboard", "(II)Z"⟩, 11) := ⟨⟨by decide +kernel, by decide +kernel⟩, List.mem_of_getElem? (i := 12) (by decide +kernel), List.mem_of_getElem? (i := 423) (by decide +kernel), List.mem_of_getElem? (i := 424) (by decide +kernel)⟩
theorem lw_p25 : lw_okq (⟨"BellCars", "oddsUpper", "(III)I"⟩, 11) := ⟨⟨by decide +kernel, by decide +kernel⟩, List.mem_of_getElem? (i := 12) (by decide +kernel), List.mem_of_getElem? (i := 427) (by decide +kernel), List.mem_of_getElem? (i := 428) (by decide +kernel)⟩
theorem lw_p26 : lw_okq (⟨"BellCars", "aheadOf", "(II)I"⟩, 11) := ⟨⟨by decide +kernel, by decide +kernel⟩, List.mem_of_getElem? (i := 12) (by decide +kernel), List.mem_of_getElem? (i := 431) (by decide +kernel), List.mem_of_getElem? (i := 432) (by decide +kernel)⟩
theorem lw_p27 : lw_okq (⟨"BellCars", "oddsLower", "(II)I"⟩, 11) := ⟨⟨by decide +kernel, by decide +kernel⟩, List.mem_of_getElem? (i := 12) (by decide +kernel), List.mem_of_getElem? (i := 438) (by decide +kernel), List.mem_of_getElem? (i := 439) (by decide +kernel)⟩
theorem lw_p28 : lw_okq (⟨"BellCars", "circleOf", "(LBellCars$Moment;I)I"⟩, 11) := ⟨⟨by decide +kernel, by decide +kernel⟩, List.mem_of_getElem? (i := 12) (by decide +kernel), List.mem_of_getElem? (i := 449) (by decide +kernel), List.mem_of_getElem? (i := 450) (by decide +kernel)⟩
theorem lw_p29 : lw_okq (⟨"BellCars", "fittingLaws", "(I)I"⟩, 11) := ⟨⟨by decide +kernel, by decide +kernel⟩, List.mem_of_getElem? (i := 12) (by decide +kernel), List.mem_of_getElem? (i := 472) (by decide +kernel), List.mem_of_getElem? (i := 473) (by decide +kernel)⟩
theorem lw_p30 : lw_okq (⟨"BellCars", "fitsSeen", "(II)Z"⟩, 11) := ⟨⟨by decide +kernel, by decide +kernel⟩, List.mem_of_getElem? (i := 12) (by decide +kernel), List.mem_of_getElem? (i := 476) (by decide +kernel), List.mem_of_getElem? (i := 477) (by decide +kernel)⟩
theorem lw_p31 : lw_okq (⟨"BellCars", "riderMark", "(I)I"⟩, 11) := ⟨⟨by decide +kernel, by decide +kernel⟩, List.mem_of_getElem? (i := 12) (by decide +kernel), List.mem_of_getElem? (i := 489) (by decide +kernel), List.mem_of_getElem? (i := 490) (by decide +kernel)⟩
def lw_privs_2 : List (MethodName × Nat) := [(⟨"BellCars", "downByDoubleRing", "(LBellCars$Moment;I)I"⟩, 11), (⟨"BellCars", "isPair", "(II)Z"⟩, 11), (⟨"BellCars$Past", "placeOf", "(I)I"⟩, 3), (⟨"BellCars", "ride", "(LBellCars$Moment;)V"⟩, 11), (⟨"BellCars", "rowsFrom", "(LBellCars$Moment;IIII)I"⟩, 11), (⟨"BellCars", "downInRow", "(LBellCars$Moment;IIII)I"⟩, 11), (⟨"BellCars", "ringerAt", "(LBellCars$Moment;II)I"⟩, 11), (⟨"BellCars", "firstRinger", "(LBellCars$Moment;IIII)I"⟩, 11), (⟨"BellCars", "isPairAboard", "(II)Z"⟩, 11), (⟨"BellCars", "oddsUpper", "(III)I"⟩, 11), (⟨"BellCars", "aheadOf", "(II)I"⟩, 11), (⟨"BellCars", "oddsLower", "(II)I"⟩, 11), (⟨"BellCars", "circleOf", "(LBellCars$Moment;I)I"⟩, 11), (⟨"BellCars", "fittingLaws", "(I)I"⟩, 11), (⟨"BellCars", "fitsSeen", "(II)Z"⟩, 11), (⟨"BellCars", "riderMark", "(I)I"⟩, 11)]
theorem lw_r2 : ∀ q ∈ lw_privs_2, lw_okq q := List.forall_mem_cons.mpr ⟨lw_p16, List.forall_mem_cons.mpr ⟨lw_p17, List.forall_mem_cons.mpr ⟨lw_p18, List.forall_mem_cons.mpr ⟨lw_p19, List.forall_mem_cons.mpr ⟨lw_p20, List.forall_mem_cons.mpr ⟨lw_p21, List.forall_mem_cons.mpr ⟨lw_p22, List.forall_mem_cons.mpr ⟨lw_p23, List.forall_mem_cons.mpr ⟨lw_p24, List.forall_mem_cons.mpr ⟨lw_p25, List.forall_mem_cons.mpr ⟨lw_p26, List.forall_mem_cons.mpr ⟨lw_p27, List.forall_mem_cons.mpr ⟨lw_p28, List.forall_mem_cons.mpr ⟨lw_p29, List.forall_mem_cons.mpr ⟨lw_p30, List.forall_mem_cons.mpr ⟨lw_p31, fun _ h => absurd h List.not_mem_nil⟩⟩⟩⟩⟩⟩⟩⟩⟩⟩⟩⟩⟩⟩⟩⟩
theorem lw_p32 : lw_okq (⟨"BellCars", "nunMark", "(I)I"⟩, 11) := ⟨⟨by decide +kernel, by decide +kernel⟩, List.mem_of_getElem? (i := 12) (by decide +kernel), List.mem_of_getElem? (i := 493) (by decide +kernel), List.mem_of_getElem? (i := 494) (by decide +kernel)⟩
theorem lw_p33 : lw_okq (⟨"BellCars", "boyMark", "(I)I"⟩, 11) := ⟨⟨by decide +kernel, by decide +kernel⟩, List.mem_of_getElem? (i := 12) (by decide +kernel), List.mem_of_getElem? (i := 498) (by decide +kernel), List.mem_of_getElem? (i := 499) (by decide +kernel)⟩
theorem lw_p34 : lw_okq (⟨"BellCars", "thinkersOf", "(I)I"⟩, 11) := ⟨⟨by decide +kernel, by decide +kernel⟩, List.mem_of_getElem? (i := 12) (by decide +kernel), List.mem_of_getElem? (i := 503) (by decide +kernel), List.mem_of_getElem? (i := 504) (by decide +kernel)⟩
theorem lw_p35 : lw_okq (⟨"BellCars", "widowerMark", "(I)I"⟩, 11) := ⟨⟨by decide +kernel, by decide +kernel⟩, List.mem_of_getElem? (i := 12) (by decide +kernel), List.mem_of_getElem? (i := 507) (by decide +kernel), List.mem_of_getElem? (i := 508) (by decide +kernel)⟩
theorem lw_p36 : lw_okq (⟨"BellCars", "girlMark", "(I)I"⟩, 11) := ⟨⟨by decide +kernel, by decide +kernel⟩, List.mem_of_getElem? (i := 12) (by decide +kernel), List.mem_of_getElem? (i := 512) (by decide +kernel), List.mem_of_getElem? (i := 513) (by decide +kernel)⟩
theorem lw_p37 : lw_okq (⟨"BellCars", "driverMark", "(I)I"⟩, 11) := ⟨⟨by decide +kernel, by decide +kernel⟩, List.mem_of_getElem? (i := 12) (by decide +kernel), List.mem_of_getElem? (i := 517) (by decide +kernel), List.mem_of_getElem? (i := 518) (by decide +kernel)⟩
theorem lw_p38 : lw_okq (⟨"BellCarsModel", "plain", "()V"⟩, 21) := ⟨⟨by decide +kernel, by decide +kernel⟩, List.mem_of_getElem? (i := 550) (by decide +kernel), List.mem_of_getElem? (i := 556) (by decide +kernel), List.mem_of_getElem? (i := 557) (by decide +kernel)⟩
theorem lw_p39 : lw_okq (⟨"BellCarsModel", "takeDraft", "()V"⟩, 21) := ⟨⟨by decide +kernel, by decide +kernel⟩, List.mem_of_getElem? (i := 550) (by decide +kernel), List.mem_of_getElem? (i := 560) (by decide +kernel), List.mem_of_getElem? (i := 561) (by decide +kernel)⟩
theorem lw_p40 : lw_okq (⟨"BellCarsModel", "step", "()V"⟩, 21) := ⟨⟨by decide +kernel, by decide +kernel⟩, List.mem_of_getElem? (i := 550) (by decide +kernel), List.mem_of_getElem? (i := 645) (by decide +kernel), List.mem_of_getElem? (i := 646) (by decide +kernel)⟩
theorem lw_p41 : lw_okq (⟨"BellCarsModel", "here", "()I"⟩, 21) := ⟨⟨by decide +kernel, by decide +kernel⟩, List.mem_of_getElem? (i := 550) (by decide +kernel), List.mem_of_getElem? (i := 649) (by decide +kernel), List.mem_of_getElem? (i := 650) (by decide +kernel)⟩
theorem lw_p42 : lw_okq (⟨"BellCarsModel", "mayBe", "(I)Z"⟩, 21) := ⟨⟨by decide +kernel, by decide +kernel⟩, List.mem_of_getElem? (i := 550) (by decide +kernel), List.mem_of_getElem? (i := 653) (by decide +kernel), List.mem_of_getElem? (i := 654) (by decide +kernel)⟩
theorem lw_p43 : lw_okq (⟨"BellCarsModel", "due", "(Z)I"⟩, 21) := ⟨⟨by decide +kernel, by decide +kernel⟩, List.mem_of_getElem? (i := 550) (by decide +kernel), List.mem_of_getElem? (i := 657) (by decide +kernel), List.mem_of_getElem? (i := 658) (by decide +kernel)⟩
theorem lw_p44 : lw_okq (⟨"BellCarsModel", "readRow", "(I)V"⟩, 21) := ⟨⟨by decide +kernel, by decide +kernel⟩, List.mem_of_getElem? (i := 550) (by decide +kernel), List.mem_of_getElem? (i := 661) (by decide +kernel), List.mem_of_getElem? (i := 662) (by decide +kernel)⟩
theorem lw_p45 : lw_okq (⟨"BellCarsModel", "number", "(II)I"⟩, 21) := ⟨⟨by decide +kernel, by decide +kernel⟩, List.mem_of_getElem? (i := 550) (by decide +kernel), List.mem_of_getElem? (i := 665) (by decide +kernel), List.mem_of_getElem? (i := 666) (by decide +kernel)⟩
theorem lw_p46 : lw_okq (⟨"BellCarsModel", "isRider", "(I)Z"⟩, 21) := ⟨⟨by decide +kernel, by decide +kernel⟩, List.mem_of_getElem? (i := 550) (by decide +kernel), List.mem_of_getElem? (i := 673) (by decide +kernel), List.mem_of_getElem? (i := 674) (by decide +kernel)⟩
theorem lw_p47 : lw_okq (⟨"BellCarsModel", "isAboard", "([II)Z"⟩, 21) := ⟨⟨by decide +kernel, by decide +kernel⟩, List.mem_of_getElem? (i := 550) (by decide +kernel), List.mem_of_getElem? (i := 677) (by decide +kernel), List.mem_of_getElem? (i := 678) (by decide +kernel)⟩
def lw_privs_3 : List (MethodName × Nat) := [(⟨"BellCars", "nunMark", "(I)I"⟩, 11), (⟨"BellCars", "boyMark", "(I)I"⟩, 11), (⟨"BellCars", "thinkersOf", "(I)I"⟩, 11), (⟨"BellCars", "widowerMark", "(I)I"⟩, 11), (⟨"BellCars", "girlMark", "(I)I"⟩, 11), (⟨"BellCars", "driverMark", "(I)I"⟩, 11), (⟨"BellCarsModel", "plain", "()V"⟩, 21), (⟨"BellCarsModel", "takeDraft", "()V"⟩, 21), (⟨"BellCarsModel", "step", "()V"⟩, 21), (⟨"BellCarsModel", "here", "()I"⟩, 21), (⟨"BellCarsModel", "mayBe", "(I)Z"⟩, 21), (⟨"BellCarsModel", "due", "(Z)I"⟩, 21), (⟨"BellCarsModel", "readRow", "(I)V"⟩, 21), (⟨"BellCarsModel", "number", "(II)I"⟩, 21), (⟨"BellCarsModel", "isRider", "(I)Z"⟩, 21), (⟨"BellCarsModel", "isAboard", "([II)Z"⟩, 21)]
theorem lw_r3 : ∀ q ∈ lw_privs_3, lw_okq q := List.forall_mem_cons.mpr ⟨lw_p32, List.forall_mem_cons.mpr ⟨lw_p33, List.forall_mem_cons.mpr ⟨lw_p34, List.forall_mem_cons.mpr ⟨lw_p35, List.forall_mem_cons.mpr ⟨lw_p36, List.forall_mem_cons.mpr ⟨lw_p37, List.forall_mem_cons.mpr ⟨lw_p38, List.forall_mem_cons.mpr ⟨lw_p39, List.forall_mem_cons.mpr ⟨lw_p40, List.forall_mem_cons.mpr ⟨lw_p41, List.forall_mem_cons.mpr ⟨lw_p42, List.forall_mem_cons.mpr ⟨lw_p43, List.forall_mem_cons.mpr ⟨lw_p44, List.forall_mem_cons.mpr ⟨lw_p45, List.forall_mem_cons.mpr ⟨lw_p46, List.forall_mem_cons.mpr ⟨lw_p47, fun _ h => absurd h List.not_mem_nil⟩⟩⟩⟩⟩⟩⟩⟩⟩⟩⟩⟩⟩⟩⟩⟩
theorem lw_p48 : lw_okq (⟨"BellCarsModel", "whom", "([III)I"⟩, 21) := ⟨⟨by decide +kernel, by decide +kernel⟩, List.mem_of_getElem? (i := 550) (by decide +kernel), List.mem_of_getElem? (i := 681) (by decide +kernel), List.mem_of_getElem? (i := 682) (by decide +kernel)⟩
theorem lw_p49 : lw_okq (⟨"BellCarsModel", "isNearer", "([IIIII)Z"⟩, 21) := ⟨⟨by decide +kernel, by decide +kernel⟩, List.mem_of_getElem? (i := 550) (by decide +kernel), List.mem_of_getElem? (i := 685) (by decide +kernel), List.mem_of_getElem? (i := 686) (by decide +kernel)⟩
theorem lw_p50 : lw_okq (⟨"BellCarsModel", "byRing", "([III)I"⟩, 21) := ⟨⟨by decide +kernel, by decide +kernel⟩, List.mem_of_getElem? (i := 550) (by decide +kernel), List.mem_of_getElem? (i := 692) (by decide +kernel), List.mem_of_getElem? (i := 693) (by decide +kernel)⟩
theorem lw_p51 : lw_okq (⟨"BellCarsModel", "byTwo", "(I)I"⟩, 21) := ⟨⟨by decide +kernel, by decide +kernel⟩, List.mem_of_getElem? (i := 550) (by decide +kernel), List.mem_of_getElem? (i := 696) (by decide +kernel), List.mem_of_getElem? (i := 697) (by decide +kernel)⟩
theorem lw_p52 : lw_okq (⟨"BellCarsModel", "know", "()V"⟩, 21) := ⟨⟨by decide +kernel, by decide +kernel⟩, List.mem_of_getElem? (i := 550) (by decide +kernel), List.mem_of_getElem? (i := 708) (by decide +kernel), List.mem_of_getElem? (i := 709) (by decide +kernel)⟩
theorem lw_p53 : lw_okq (⟨"BellCarsModel", "ride", "([I)V"⟩, 21) := ⟨⟨by decide +kernel, by decide +kernel⟩, List.mem_of_getElem? (i := 550) (by decide +kernel), List.mem_of_getElem? (i := 712) (by decide +kernel), List.mem_of_getElem? (i := 713) (by decide +kernel)⟩
theorem lw_p54 : lw_okq (⟨"BellCarsModel", "down", "(I)I"⟩, 21) := ⟨⟨by decide +kernel, by decide +kernel⟩, List.mem_of_getElem? (i := 550) (by decide +kernel), List.mem_of_getElem? (i := 727) (by decide +kernel), List.mem_of_getElem? (i := 728) (by decide +kernel)⟩
theorem lw_p55 : lw_okq (⟨"BellCarsModel", "isSet", "(I)Z"⟩, 21) := ⟨⟨by decide +kernel, by decide +kernel⟩, List.mem_of_getElem? (i := 550) (by decide +kernel), List.mem_of_getElem? (i := 758) (by decide +kernel), List.mem_of_getElem? (i := 759) (by decide +kernel)⟩
theorem lw_p56 : lw_okq (⟨"BellCarsModel", "rowsOf", "([II)I"⟩, 21) := ⟨⟨by decide +kernel, by decide +kernel⟩, List.mem_of_getElem? (i := 550) (by decide +kernel), List.mem_of_getElem? (i := 762) (by decide +kernel), List.mem_of_getElem? (i := 763) (by decide +kernel)⟩
theorem lw_p57 : lw_okq (⟨"BellCarsModel", "doesGo", "([IIII)Z"⟩, 21) := ⟨⟨by decide +kernel, by decide +kernel⟩, List.mem_of_getElem? (i := 550) (by decide +kernel), List.mem_of_getElem? (i := 766) (by decide +kernel), List.mem_of_getElem? (i := 767) (by decide +kernel)⟩
theorem lw_p58 : lw_okq (⟨"BellCarsModel", "take", "()V"⟩, 21) := ⟨⟨by decide +kernel, by decide +kernel⟩, List.mem_of_getElem? (i := 550) (by decide +kernel), List.mem_of_getElem? (i := 774) (by decide +kernel), List.mem_of_getElem? (i := 775) (by decide +kernel)⟩
theorem lw_p59 : lw_okq (⟨"BellCarsModel", "isHere", "(I)Z"⟩, 21) := ⟨⟨by decide +kernel, by decide +kernel⟩, List.mem_of_getElem? (i := 550) (by decide +kernel), List.mem_of_getElem? (i := 782) (by decide +kernel), List.mem_of_getElem? (i := 783) (by decide +kernel)⟩
theorem lw_p60 : lw_okq (⟨"BellCarsModel", "lawsOf", "(I)I"⟩, 21) := ⟨⟨by decide +kernel, by decide +kernel⟩, List.mem_of_getElem? (i := 550) (by decide +kernel), List.mem_of_getElem? (i := 806) (by decide +kernel), List.mem_of_getElem? (i := 807) (by decide +kernel)⟩
def lw_privs_4 : List (MethodName × Nat) := [(⟨"BellCarsModel", "whom", "([III)I"⟩, 21), (⟨"BellCarsModel", "isNearer", "([IIIII)Z"⟩, 21), (⟨"BellCarsModel", "byRing", "([III)I"⟩, 21), (⟨"BellCarsModel", "byTwo", "(I)I"⟩, 21), (⟨"BellCarsModel", "know", "()V"⟩, 21), (⟨"BellCarsModel", "ride", "([I)V"⟩, 21), (⟨"BellCarsModel", "down", "(I)I"⟩, 21), (⟨"BellCarsModel", "isSet", "(I)Z"⟩, 21), (⟨"BellCarsModel", "rowsOf", "([II)I"⟩, 21), (⟨"BellCarsModel", "doesGo", "([IIII)Z"⟩, 21), (⟨"BellCarsModel", "take", "()V"⟩, 21), (⟨"BellCarsModel", "isHere", "(I)Z"⟩, 21), (⟨"BellCarsModel", "lawsOf", "(I)I"⟩, 21)]
theorem lw_r4 : ∀ q ∈ lw_privs_4, lw_okq q := List.forall_mem_cons.mpr ⟨lw_p48, List.forall_mem_cons.mpr ⟨lw_p49, List.forall_mem_cons.mpr ⟨lw_p50, List.forall_mem_cons.mpr ⟨lw_p51, List.forall_mem_cons.mpr ⟨lw_p52, List.forall_mem_cons.mpr ⟨lw_p53, List.forall_mem_cons.mpr ⟨lw_p54, List.forall_mem_cons.mpr ⟨lw_p55, List.forall_mem_cons.mpr ⟨lw_p56, List.forall_mem_cons.mpr ⟨lw_p57, List.forall_mem_cons.mpr ⟨lw_p58, List.forall_mem_cons.mpr ⟨lw_p59, List.forall_mem_cons.mpr ⟨lw_p60, fun _ h => absurd h List.not_mem_nil⟩⟩⟩⟩⟩⟩⟩⟩⟩⟩⟩⟩⟩
def lw_privs : List (MethodName × Nat) := lw_privs_1 ++ (lw_privs_2 ++ (lw_privs_3 ++ (lw_privs_4)))
def lw_tbl : List Cond := k2_sels lw_privs ++ tables_1
theorem lw_privs_ok : ∀ q ∈ lw_privs, lw_okq q := by
  show ∀ q ∈ lw_privs_1 ++ (lw_privs_2 ++ (lw_privs_3 ++ (lw_privs_4))), lw_okq q
  exact List.forall_mem_append.mpr ⟨lw_r1, List.forall_mem_append.mpr ⟨lw_r2, List.forall_mem_append.mpr ⟨lw_r3, lw_r4⟩⟩⟩
end
section
/-! ===== BEGIN words of one list among another's, by their places ===== -/
theorem goodIn_r {big : List Cond} (ws : List Cond) (ps : List Nat) (hp : ws = ps.filterMap (fun i => big[i]?)) (h : ws.all goodWord = true) : GoodIn big ws := by
  intro w hw
  have h1 := List.all_eq_true.mp h w hw
  rw [hp] at hw
  obtain ⟨i, -, hi⟩ := List.mem_filterMap.mp hw
  have hm : w ∈ big := by first | exact List.mem_of_getElem? hi | exact List.getElem?_mem hi
  exact ⟨hm, good_of_word h1⟩
theorem goodIn_app {big a b : List Cond} (ha : GoodIn big a) (hb : GoodIn big b) : GoodIn big (a ++ b) := fun w h => (List.mem_append.mp h).elim (ha w) (hb w)
theorem goodIn_ca {big a b : List Cond} {c : Cond} (ha : GoodIn big (c :: a)) (hb : GoodIn big b) : GoodIn big (c :: (a ++ b)) := fun w h => (List.mem_cons.mp h).elim (fun e => ha w (List.mem_cons.mpr (Or.inl e))) (fun h => (List.mem_append.mp h).elim (fun h => ha w (List.mem_cons.mpr (Or.inr h))) (hb w))
theorem goodIn_sub {big ws : List Cond} (hm : ∀ w ∈ ws, w ∈ big) (h : ws.all goodWord = true) : GoodIn big ws := fun w hw => ⟨hm w hw, good_of_word (List.all_eq_true.mp h w hw)⟩
/-! ===== END ===== -/

/-! ===== BEGIN printed: names, fields, word lists, decode rows ===== -/
def RX0 : String := "BellCars$Image"
def TX0 : u_T := fun k => match k with
  | 0 => ("BellCars$Image", "moment", "LBellCars$Moment;", true)
  | _ => ("BellCars$Image", "past", "LBellCars$Past;", true)
def tyX0 : Nat → FieldType := fun k => match k with
  | 0 => .object "BellCars$Moment"
  | _ => .object "BellCars$Past"
abbrev wsX00 : List Cond := u_ws RX0 TX0 2
theorem nmX0 : ∀ a, a < 2 → ∀ b, b < 2 → a ≠ b → (TX0 a).2.1 ≠ (TX0 b).2.1 := by decide +kernel
theorem tyX0_ok : ∀ k, k < 2 → parseFieldDescriptor (TX0 k).2.2.1 = some (tyX0 k) := by decide +kernel
abbrev cX0_init : ByteArray := prog_2_method_1_code
def yX0_init : MethodName := ⟨RX0, "<init>", "()V"⟩
abbrev cX0_copyFrom : ByteArray := prog_2_method_2_code
def yX0_copyFrom : MethodName := ⟨RX0, "copyFrom", "(LBellCars$Image;)V"⟩
def RX1 : String := "BellCars$Moment"
def TX1 : u_T := fun k => match k with
  | 0 => ("BellCars$Moment", "stop", "I", false)
  | 1 => ("BellCars$Moment", "aboard", "I", false)
  | 2 => ("BellCars$Moment", "thoughts", "I", false)
  | 3 => ("BellCars$Moment", "lonely", "I", false)
  | 4 => ("BellCars$Moment", "seat", "[I", true)
  | 5 => ("BellCars$Moment", "downAt", "[I", true)
  | _ => ("BellCars$Moment", "thoughtAt", "[I", true)
def tyX1 : Nat → FieldType := fun k => match k with
  | 0 => .int
  | 1 => .int
  | 2 => .int
  | 3 => .int
  | 4 => .array .int
  | 5 => .array .int
  | _ => .array .int
abbrev wsX10 : List Cond := u_ws RX1 TX1 7
theorem nmX1 : ∀ a, a < 7 → ∀ b, b < 7 → a ≠ b → (TX1 a).2.1 ≠ (TX1 b).2.1 := by decide +kernel
theorem tyX1_ok : ∀ k, k < 7 → parseFieldDescriptor (TX1 k).2.2.1 = some (tyX1 k) := by decide +kernel
abbrev cX1_init : ByteArray := prog_3_method_1_code
def yX1_init : MethodName := ⟨RX1, "<init>", "()V"⟩
abbrev cX1_begin : ByteArray := prog_3_method_2_code
def yX1_begin : MethodName := ⟨RX1, "begin", "(LBellCars$Told;)V"⟩
abbrev cX1_copyFrom : ByteArray := prog_3_method_3_code
def yX1_copyFrom : MethodName := ⟨RX1, "copyFrom", "(LBellCars$Moment;)V"⟩
abbrev cX1_isAboard : ByteArray := prog_3_method_4_code
def yX1_isAboard : MethodName := ⟨RX1, "isAboard", "(I)Z"⟩
abbrev cX1_areAboard : ByteArray := prog_3_method_5_code
def yX1_areAboard : MethodName := ⟨RX1, "areAboard", "(I)Z"⟩
abbrev cX1_thoughtOf : ByteArray := prog_3_method_6_code
def yX1_thoughtOf : MethodName := ⟨RX1, "thoughtOf", "(II)I"⟩
abbrev cX1_think : ByteArray := prog_3_method_7_code
def yX1_think : MethodName := ⟨RX1, "think", "(II)V"⟩
abbrev cX1_getDown : ByteArray := prog_3_method_8_code
def yX1_getDown : MethodName := ⟨RX1, "getDown", "(I)I"⟩
def RX2 : String := "BellCars$Past"
def TX2 : u_T := fun k => match k with
  | 0 => ("BellCars$Past", "size", "I", false)
  | 1 => ("BellCars$Past", "oldest", "I", false)
  | _ => ("BellCars$Past", "moments", "[LBellCars$Moment;", true)
def tyX2 : Nat → FieldType := fun k => match k with
  | 0 => .int
  | 1 => .int
  | _ => .array (.object "BellCars$Moment")
abbrev wsX20 : List Cond := u_ws RX2 TX2 3
theorem nmX2 : ∀ a, a < 3 → ∀ b, b < 3 → a ≠ b → (TX2 a).2.1 ≠ (TX2 b).2.1 := by decide +kernel
theorem tyX2_ok : ∀ k, k < 3 → parseFieldDescriptor (TX2 k).2.2.1 = some (tyX2 k) := by decide +kernel
abbrev cX2_init : ByteArray := prog_4_method_1_code
def yX2_init : MethodName := ⟨RX2, "<init>", "()V"⟩
abbrev cX2_push : ByteArray := prog_4_method_2_code
def yX2_push : MethodName := ⟨RX2, "push", "(LBellCars$Moment;)V"⟩
abbrev cX2_popInto : ByteArray := prog_4_method_3_code
def yX2_popInto : MethodName := ⟨RX2, "popInto", "(LBellCars$Moment;)V"⟩
abbrev cX2_copyFrom : ByteArray := prog_4_method_4_code
def yX2_copyFrom : MethodName := ⟨RX2, "copyFrom", "(LBellCars$Past;)V"⟩
abbrev cX2_placeOf : ByteArray := prog_4_method_5_code
def yX2_placeOf : MethodName := ⟨RX2, "placeOf", "(I)I"⟩
def RX3 : String := "BellCars$Text"
def TX3 : u_T := fun k => match k with
  | 0 => ("BellCars$Text", "length", "I", false)
  | 1 => ("BellCars$Text", "bytes", "[I", true)
  | 2 => ("BellCars$Text", "at", "I", false)
  | 3 => ("BellCars$Text", "sort", "I", false)
  | 4 => ("BellCars$Text", "start", "I", false)
  | 5 => ("BellCars$Text", "value", "I", false)
  | _ => ("BellCars$Text", "lineTold", "Z", false)
def tyX3 : Nat → FieldType := fun k => match k with
  | 0 => .int
  | 1 => .array .int
  | 2 => .int
  | 3 => .int
  | 4 => .int
  | 5 => .int
  | _ => .boolean
abbrev wsX30 : List Cond := u_ws RX3 TX3 7
theorem nmX3 : ∀ a, a < 7 → ∀ b, b < 7 → a ≠ b → (TX3 a).2.1 ≠ (TX3 b).2.1 := by decide +kernel
theorem tyX3_ok : ∀ k, k < 7 → parseFieldDescriptor (TX3 k).2.2.1 = some (tyX3 k) := by decide +kernel
abbrev cX3_init : ByteArray := prog_5_method_1_code
def yX3_init : MethodName := ⟨RX3, "<init>", "()V"⟩
abbrev cX3_add : ByteArray := prog_5_method_2_code
def yX3_add : MethodName := ⟨RX3, "add", "(I)Z"⟩
abbrev cX3_readInto : ByteArray := prog_5_method_3_code
def yX3_readInto : MethodName := ⟨RX3, "readInto", "(LBellCars$Told;)I"⟩
abbrev cX3_readItem : ByteArray := prog_5_method_4_code
def yX3_readItem : MethodName := ⟨RX3, "readItem", "(LBellCars$Told;)Z"⟩
abbrev cX3_readRider : ByteArray := prog_5_method_5_code
def yX3_readRider : MethodName := ⟨RX3, "readRider", "(LBellCars$Told;I)Z"⟩
abbrev cX3_readLine : ByteArray := prog_5_method_6_code
def yX3_readLine : MethodName := ⟨RX3, "readLine", "(LBellCars$Told;)Z"⟩
abbrev cX3_comesNumber : ByteArray := prog_5_method_7_code
def yX3_comesNumber : MethodName := ⟨RX3, "comesNumber", "(II)Z"⟩
abbrev cX3_comesEnd : ByteArray := prog_5_method_8_code
def yX3_comesEnd : MethodName := ⟨RX3, "comesEnd", "(LBellCars$Told;)Z"⟩
abbrev cX3_advance : ByteArray := prog_5_method_9_code
def yX3_advance : MethodName := ⟨RX3, "advance", "()V"⟩
abbrev cX3_passBytes : ByteArray := prog_5_method_10_code
def yX3_passBytes : MethodName := ⟨RX3, "passBytes", "(II)V"⟩
abbrev cX3_takeLetters : ByteArray := prog_5_method_11_code
def yX3_takeLetters : MethodName := ⟨RX3, "takeLetters", "(I)V"⟩
abbrev cX3_takeNumber : ByteArray := prog_5_method_12_code
def yX3_takeNumber : MethodName := ⟨RX3, "takeNumber", "(I)V"⟩
def RX4 : String := "BellCars$Told"
def TX4 : u_T := fun k => match k with
  | 0 => ("BellCars$Told", "riders", "I", false)
  | 1 => ("BellCars$Told", "items", "I", false)
  | 2 => ("BellCars$Told", "line", "I", false)
  | 3 => ("BellCars$Told", "seat", "[I", true)
  | 4 => ("BellCars$Told", "looks", "[I", true)
  | _ => ("BellCars$Told", "law", "[I", true)
def tyX4 : Nat → FieldType := fun k => match k with
  | 0 => .int
  | 1 => .int
  | 2 => .int
  | 3 => .array .int
  | 4 => .array .int
  | _ => .array .int
abbrev wsX40 : List Cond := u_ws RX4 TX4 6
theorem nmX4 : ∀ a, a < 6 → ∀ b, b < 6 → a ≠ b → (TX4 a).2.1 ≠ (TX4 b).2.1 := by decide +kernel
theorem tyX4_ok : ∀ k, k < 6 → parseFieldDescriptor (TX4 k).2.2.1 = some (tyX4 k) := by decide +kernel
abbrev cX4_init : ByteArray := prog_6_method_1_code
def yX4_init : MethodName := ⟨RX4, "<init>", "()V"⟩
abbrev cX4_forgetAll : ByteArray := prog_6_method_2_code
def yX4_forgetAll : MethodName := ⟨RX4, "forgetAll", "()V"⟩
abbrev cX4_copyFrom : ByteArray := prog_6_method_3_code
def yX4_copyFrom : MethodName := ⟨RX4, "copyFrom", "(LBellCars$Told;)V"⟩
def RX5 : String := "BellCars"
def TX5 : u_T := fun k => match k with
  | 0 => ("BellCars", "text", "LBellCars$Text;", true)
  | 1 => ("BellCars", "told", "LBellCars$Told;", true)
  | 2 => ("BellCars", "draft", "LBellCars$Told;", true)
  | 3 => ("BellCars", "present", "LBellCars$Image;", true)
  | 4 => ("BellCars", "images", "[LBellCars$Image;", true)
  | 5 => ("BellCars", "imagesKept", "I", false)
  | 6 => ("BellCars", "ahead", "LBellCars$Moment;", true)
  | 7 => ("BellCars", "seenThinker", "[I", true)
  | 8 => ("BellCars", "seenThought", "[I", true)
  | 9 => ("BellCars", "seenCount", "I", false)
  | _ => ("BellCars", "traceSum", "J", false)
def tyX5 : Nat → FieldType := fun k => match k with
  | 0 => .object "BellCars$Text"
  | 1 => .object "BellCars$Told"
  | 2 => .object "BellCars$Told"
  | 3 => .object "BellCars$Image"
  | 4 => .array (.object "BellCars$Image")
  | 5 => .int
  | 6 => .object "BellCars$Moment"
  | 7 => .array .int
  | 8 => .array .int
  | 9 => .int
  | _ => .long
abbrev wsX50 : List Cond := u_ws RX5 TX5 11
theorem nmX5 : ∀ a, a < 11 → ∀ b, b < 11 → a ≠ b → (TX5 a).2.1 ≠ (TX5 b).2.1 := by decide +kernel
theorem tyX5_ok : ∀ k, k < 11 → parseFieldDescriptor (TX5 k).2.2.1 = some (tyX5 k) := by decide +kernel
abbrev cX5_init : ByteArray := prog_1_method_1_code
def yX5_init : MethodName := ⟨RX5, "<init>", "()V"⟩
abbrev cX5_type : ByteArray := prog_1_method_2_code
def yX5_type : MethodName := ⟨RX5, "type", "(I)I"⟩
abbrev cX5_clear : ByteArray := prog_1_method_3_code
def yX5_clear : MethodName := ⟨RX5, "clear", "()I"⟩
abbrev cX5_car : ByteArray := prog_1_method_4_code
def yX5_car : MethodName := ⟨RX5, "car", "()I"⟩
abbrev cX5_rider : ByteArray := prog_1_method_5_code
def yX5_rider : MethodName := ⟨RX5, "rider", "(II)I"⟩
abbrev cX5_latest : ByteArray := prog_1_method_6_code
def yX5_latest : MethodName := ⟨RX5, "latest", "(II)I"⟩
abbrev cX5_rides : ByteArray := prog_1_method_7_code
def yX5_rides : MethodName := ⟨RX5, "rides", "()I"⟩
abbrev cX5_thinks : ByteArray := prog_1_method_8_code
def yX5_thinks : MethodName := ⟨RX5, "thinks", "(II)I"⟩
abbrev cX5_rings : ByteArray := prog_1_method_9_code
def yX5_rings : MethodName := ⟨RX5, "rings", "(I)I"⟩
abbrev cX5_twice : ByteArray := prog_1_method_10_code
def yX5_twice : MethodName := ⟨RX5, "twice", "(I)I"⟩
abbrev cX5_seats : ByteArray := prog_1_method_11_code
def yX5_seats : MethodName := ⟨RX5, "seats", "(II)I"⟩
abbrev cX5_boards : ByteArray := prog_1_method_12_code
def yX5_boards : MethodName := ⟨RX5, "boards", "(I)I"⟩
abbrev cX5_undo : ByteArray := prog_1_method_13_code
def yX5_undo : MethodName := ⟨RX5, "undo", "()I"⟩
abbrev cX5_now : ByteArray := prog_1_method_14_code
def yX5_now : MethodName := ⟨RX5, "now", "(I)I"⟩
abbrev cX5_row : ByteArray := prog_1_method_15_code
def yX5_row : MethodName := ⟨RX5, "row", "(II)I"⟩
abbrev cX5_soon : ByteArray := prog_1_method_16_code
def yX5_soon : MethodName := ⟨RX5, "soon", "(I)I"⟩
abbrev cX5_odds : ByteArray := prog_1_method_17_code
def yX5_odds : MethodName := ⟨RX5, "odds", "(IIII)I"⟩
abbrev cX5_circle : ByteArray := prog_1_method_18_code
def yX5_circle : MethodName := ⟨RX5, "circle", "(II)I"⟩
abbrev cX5_chair : ByteArray := prog_1_method_19_code
def yX5_chair : MethodName := ⟨RX5, "chair", "(II)I"⟩
abbrev cX5_saw : ByteArray := prog_1_method_20_code
def yX5_saw : MethodName := ⟨RX5, "saw", "(II)I"⟩
abbrev cX5_forget : ByteArray := prog_1_method_21_code
def yX5_forget : MethodName := ⟨RX5, "forget", "()I"⟩
abbrev cX5_laws : ByteArray := prog_1_method_22_code
def yX5_laws : MethodName := ⟨RX5, "laws", "(I)I"⟩
abbrev cX5_likely : ByteArray := prog_1_method_23_code
def yX5_likely : MethodName := ⟨RX5, "likely", "()I"⟩
abbrev cX5_mark : ByteArray := prog_1_method_24_code
def yX5_mark : MethodName := ⟨RX5, "mark", "(II)I"⟩
abbrev cX5_keep : ByteArray := prog_1_method_25_code
def yX5_keep : MethodName := ⟨RX5, "keep", "(I)I"⟩
abbrev cX5_back : ByteArray := prog_1_method_26_code
def yX5_back : MethodName := ⟨RX5, "back", "(I)I"⟩
abbrev cX5_count : ByteArray := prog_1_method_27_code
def yX5_count : MethodName := ⟨RX5, "count", "(I)I"⟩
abbrev cX5_trace : ByteArray := prog_1_method_28_code
def yX5_trace : MethodName := ⟨RX5, "trace", "()J"⟩
abbrev cX5_isRider : ByteArray := prog_1_method_29_code
def yX5_isRider : MethodName := ⟨RX5, "isRider", "(I)Z"⟩
abbrev cX5_isPair : ByteArray := prog_1_method_30_code
def yX5_isPair : MethodName := ⟨RX5, "isPair", "(II)Z"⟩
abbrev cX5_isPairAboard : ByteArray := prog_1_method_31_code
def yX5_isPairAboard : MethodName := ⟨RX5, "isPairAboard", "(II)Z"⟩
abbrev cX5_isImage : ByteArray := prog_1_method_32_code
def yX5_isImage : MethodName := ⟨RX5, "isImage", "(I)Z"⟩
abbrev cX5_startAnew : ByteArray := prog_1_method_33_code
def yX5_startAnew : MethodName := ⟨RX5, "startAnew", "()V"⟩
abbrev cX5_whom : ByteArray := prog_1_method_34_code
def yX5_whom : MethodName := ⟨RX5, "whom", "(LBellCars$Moment;II)I"⟩
abbrev cX5_nearest : ByteArray := prog_1_method_35_code
def yX5_nearest : MethodName := ⟨RX5, "nearest", "(LBellCars$Moment;II)I"⟩
abbrev cX5_fairest : ByteArray := prog_1_method_36_code
def yX5_fairest : MethodName := ⟨RX5, "fairest", "(LBellCars$Moment;I)I"⟩
abbrev cX5_nextAboard : ByteArray := prog_1_method_37_code
def yX5_nextAboard : MethodName := ⟨RX5, "nextAboard", "(LBellCars$Moment;I)I"⟩
abbrev cX5_ride : ByteArray := prog_1_method_38_code
def yX5_ride : MethodName := ⟨RX5, "ride", "(LBellCars$Moment;)V"⟩
abbrev cX5_circleOf : ByteArray := prog_1_method_39_code
def yX5_circleOf : MethodName := ⟨RX5, "circleOf", "(LBellCars$Moment;I)I"⟩
abbrev cX5_lowestOf : ByteArray := prog_1_method_40_code
def yX5_lowestOf : MethodName := ⟨RX5, "lowestOf", "(I)I"⟩
abbrev cX5_downByRing : ByteArray := prog_1_method_41_code
def yX5_downByRing : MethodName := ⟨RX5, "downByRing", "(LBellCars$Moment;II)I"⟩
abbrev cX5_downByDoubleRing : ByteArray := prog_1_method_42_code
def yX5_downByDoubleRing : MethodName := ⟨RX5, "downByDoubleRing", "(LBellCars$Moment;I)I"⟩
abbrev cX5_downInRow : ByteArray := prog_1_method_43_code
def yX5_downInRow : MethodName := ⟨RX5, "downInRow", "(LBellCars$Moment;IIII)I"⟩
abbrev cX5_rowsFrom : ByteArray := prog_1_method_44_code
def yX5_rowsFrom : MethodName := ⟨RX5, "rowsFrom", "(LBellCars$Moment;IIII)I"⟩
abbrev cX5_ringerAt : ByteArray := prog_1_method_45_code
def yX5_ringerAt : MethodName := ⟨RX5, "ringerAt", "(LBellCars$Moment;II)I"⟩
abbrev cX5_firstRinger : ByteArray := prog_1_method_46_code
def yX5_firstRinger : MethodName := ⟨RX5, "firstRinger", "(LBellCars$Moment;IIII)I"⟩
abbrev cX5_aheadOf : ByteArray := prog_1_method_47_code
def yX5_aheadOf : MethodName := ⟨RX5, "aheadOf", "(II)I"⟩
abbrev cX5_oddsUpper : ByteArray := prog_1_method_48_code
def yX5_oddsUpper : MethodName := ⟨RX5, "oddsUpper", "(III)I"⟩
abbrev cX5_oddsLower : ByteArray := prog_1_method_49_code
def yX5_oddsLower : MethodName := ⟨RX5, "oddsLower", "(II)I"⟩
abbrev cX5_power : ByteArray := prog_1_method_50_code
def yX5_power : MethodName := ⟨RX5, "power", "(II)I"⟩
abbrev cX5_commonDivisor : ByteArray := prog_1_method_51_code
def yX5_commonDivisor : MethodName := ⟨RX5, "commonDivisor", "(II)I"⟩
abbrev cX5_fittingLaws : ByteArray := prog_1_method_52_code
def yX5_fittingLaws : MethodName := ⟨RX5, "fittingLaws", "(I)I"⟩
abbrev cX5_fitsSeen : ByteArray := prog_1_method_53_code
def yX5_fitsSeen : MethodName := ⟨RX5, "fitsSeen", "(II)Z"⟩
abbrev cX5_riderMark : ByteArray := prog_1_method_54_code
def yX5_riderMark : MethodName := ⟨RX5, "riderMark", "(I)I"⟩
abbrev cX5_nunMark : ByteArray := prog_1_method_55_code
def yX5_nunMark : MethodName := ⟨RX5, "nunMark", "(I)I"⟩
abbrev cX5_boyMark : ByteArray := prog_1_method_56_code
def yX5_boyMark : MethodName := ⟨RX5, "boyMark", "(I)I"⟩
abbrev cX5_widowerMark : ByteArray := prog_1_method_57_code
def yX5_widowerMark : MethodName := ⟨RX5, "widowerMark", "(I)I"⟩
abbrev cX5_girlMark : ByteArray := prog_1_method_58_code
def yX5_girlMark : MethodName := ⟨RX5, "girlMark", "(I)I"⟩
abbrev cX5_driverMark : ByteArray := prog_1_method_59_code
def yX5_driverMark : MethodName := ⟨RX5, "driverMark", "(I)I"⟩
abbrev cX5_thinkersOf : ByteArray := prog_1_method_60_code
def yX5_thinkersOf : MethodName := ⟨RX5, "thinkersOf", "(I)I"⟩
def RX6 : String := "BellCarsModel"
def TX6 : u_T := fun k => match k with
  | 0 => ("BellCarsModel", "trace", "J", false)
  | 1 => ("BellCarsModel", "text", "[B", true)
  | 2 => ("BellCarsModel", "typed", "I", false)
  | 3 => ("BellCarsModel", "riders", "[I", true)
  | 4 => ("BellCarsModel", "draftSeat", "[I", true)
  | 5 => ("BellCarsModel", "looks", "[I", true)
  | 6 => ("BellCarsModel", "law", "[I", true)
  | 7 => ("BellCarsModel", "line", "[I", true)
  | 8 => ("BellCarsModel", "lineTold", "Z", false)
  | 9 => ("BellCarsModel", "at", "I", false)
  | 10 => ("BellCarsModel", "start", "I", false)
  | 11 => ("BellCarsModel", "sort", "I", false)
  | 12 => ("BellCarsModel", "value", "I", false)
  | 13 => ("BellCarsModel", "fault", "I", false)
  | 14 => ("BellCarsModel", "now", "[I", true)
  | 15 => ("BellCarsModel", "isKept", "[Z", true)
  | 16 => ("BellCarsModel", "tried", "[I", true)
  | 17 => ("BellCarsModel", "row", "[I", true)
  | 18 => ("BellCarsModel", "factOf", "[I", true)
  | 19 => ("BellCarsModel", "factWhom", "[I", true)
  | _ => ("BellCarsModel", "seen", "I", false)
def tyX6 : Nat → FieldType := fun k => match k with
  | 0 => .long
  | 1 => .array .byte
  | 2 => .int
  | 3 => .array .int
  | 4 => .array .int
  | 5 => .array .int
  | 6 => .array .int
  | 7 => .array .int
  | 8 => .boolean
  | 9 => .int
  | 10 => .int
  | 11 => .int
  | 12 => .int
  | 13 => .int
  | 14 => .array .int
  | 15 => .array .boolean
  | 16 => .array .int
  | 17 => .array .int
  | 18 => .array .int
  | 19 => .array .int
  | _ => .int
abbrev wsX60 : List Cond := u_ws RX6 TX6 21
theorem nmX6 : ∀ a, a < 21 → ∀ b, b < 21 → a ≠ b → (TX6 a).2.1 ≠ (TX6 b).2.1 := by decide +kernel
theorem tyX6_ok : ∀ k, k < 21 → parseFieldDescriptor (TX6 k).2.2.1 = some (tyX6 k) := by decide +kernel
abbrev cX6_init : ByteArray := prog_8_method_1_code
def yX6_init : MethodName := ⟨RX6, "<init>", "()V"⟩
abbrev cX6_in : ByteArray := prog_8_method_3_code
def yX6_in : MethodName := ⟨RX6, "in", "(III)Z"⟩
abbrev cX6_type : ByteArray := prog_8_method_4_code
def yX6_type : MethodName := ⟨RX6, "type", "(I)I"⟩
abbrev cX6_clear : ByteArray := prog_8_method_5_code
def yX6_clear : MethodName := ⟨RX6, "clear", "()I"⟩
abbrev cX6_here : ByteArray := prog_8_method_6_code
def yX6_here : MethodName := ⟨RX6, "here", "()I"⟩
abbrev cX6_step : ByteArray := prog_8_method_7_code
def yX6_step : MethodName := ⟨RX6, "step", "()V"⟩
abbrev cX6_due : ByteArray := prog_8_method_8_code
def yX6_due : MethodName := ⟨RX6, "due", "(Z)I"⟩
abbrev cX6_number : ByteArray := prog_8_method_9_code
def yX6_number : MethodName := ⟨RX6, "number", "(II)I"⟩
abbrev cX6_mayBe : ByteArray := prog_8_method_10_code
def yX6_mayBe : MethodName := ⟨RX6, "mayBe", "(I)Z"⟩
abbrev cX6_readRow : ByteArray := prog_8_method_11_code
def yX6_readRow : MethodName := ⟨RX6, "readRow", "(I)V"⟩
abbrev cX6_plain : ByteArray := prog_8_method_12_code
def yX6_plain : MethodName := ⟨RX6, "plain", "()V"⟩
abbrev cX6_takeDraft : ByteArray := prog_8_method_13_code
def yX6_takeDraft : MethodName := ⟨RX6, "takeDraft", "()V"⟩
abbrev cX6_car : ByteArray := prog_8_method_14_code
def yX6_car : MethodName := ⟨RX6, "car", "()I"⟩
abbrev cX6_take : ByteArray := prog_8_method_15_code
def yX6_take : MethodName := ⟨RX6, "take", "()V"⟩
abbrev cX6_isRider : ByteArray := prog_8_method_16_code
def yX6_isRider : MethodName := ⟨RX6, "isRider", "(I)Z"⟩
abbrev cX6_isAboard : ByteArray := prog_8_method_17_code
def yX6_isAboard : MethodName := ⟨RX6, "isAboard", "([II)Z"⟩
abbrev cX6_isHere : ByteArray := prog_8_method_18_code
def yX6_isHere : MethodName := ⟨RX6, "isHere", "(I)Z"⟩
abbrev cX6_manyOf : ByteArray := prog_8_method_19_code
def yX6_manyOf : MethodName := ⟨RX6, "manyOf", "(I)I"⟩
abbrev cX6_apart : ByteArray := prog_8_method_20_code
def yX6_apart : MethodName := ⟨RX6, "apart", "(II)I"⟩
abbrev cX6_isNearer : ByteArray := prog_8_method_21_code
def yX6_isNearer : MethodName := ⟨RX6, "isNearer", "([IIIII)Z"⟩
abbrev cX6_whom : ByteArray := prog_8_method_22_code
def yX6_whom : MethodName := ⟨RX6, "whom", "([III)I"⟩
abbrev cX6_byRing : ByteArray := prog_8_method_23_code
def yX6_byRing : MethodName := ⟨RX6, "byRing", "([III)I"⟩
abbrev cX6_byTwo : ByteArray := prog_8_method_24_code
def yX6_byTwo : MethodName := ⟨RX6, "byTwo", "(I)I"⟩
abbrev cX6_rider : ByteArray := prog_8_method_25_code
def yX6_rider : MethodName := ⟨RX6, "rider", "(II)I"⟩
abbrev cX6_latest : ByteArray := prog_8_method_26_code
def yX6_latest : MethodName := ⟨RX6, "latest", "(II)I"⟩
abbrev cX6_know : ByteArray := prog_8_method_27_code
def yX6_know : MethodName := ⟨RX6, "know", "()V"⟩
abbrev cX6_think : ByteArray := prog_8_method_28_code
def yX6_think : MethodName := ⟨RX6, "think", "([III)V"⟩
abbrev cX6_ride : ByteArray := prog_8_method_29_code
def yX6_ride : MethodName := ⟨RX6, "ride", "([I)V"⟩
abbrev cX6_rides : ByteArray := prog_8_method_30_code
def yX6_rides : MethodName := ⟨RX6, "rides", "()I"⟩
abbrev cX6_thinks : ByteArray := prog_8_method_31_code
def yX6_thinks : MethodName := ⟨RX6, "thinks", "(II)I"⟩
abbrev cX6_down : ByteArray := prog_8_method_32_code
def yX6_down : MethodName := ⟨RX6, "down", "(I)I"⟩
abbrev cX6_rings : ByteArray := prog_8_method_33_code
def yX6_rings : MethodName := ⟨RX6, "rings", "(I)I"⟩
abbrev cX6_twice : ByteArray := prog_8_method_34_code
def yX6_twice : MethodName := ⟨RX6, "twice", "(I)I"⟩
abbrev cX6_seats : ByteArray := prog_8_method_35_code
def yX6_seats : MethodName := ⟨RX6, "seats", "(II)I"⟩
abbrev cX6_boards : ByteArray := prog_8_method_36_code
def yX6_boards : MethodName := ⟨RX6, "boards", "(I)I"⟩
abbrev cX6_undo : ByteArray := prog_8_method_37_code
def yX6_undo : MethodName := ⟨RX6, "undo", "()I"⟩
abbrev cX6_now : ByteArray := prog_8_method_38_code
def yX6_now : MethodName := ⟨RX6, "now", "(I)I"⟩
abbrev cX6_doesGo : ByteArray := prog_8_method_39_code
def yX6_doesGo : MethodName := ⟨RX6, "doesGo", "([IIII)Z"⟩
abbrev cX6_rowsOf : ByteArray := prog_8_method_40_code
def yX6_rowsOf : MethodName := ⟨RX6, "rowsOf", "([II)I"⟩
abbrev cX6_isSet : ByteArray := prog_8_method_41_code
def yX6_isSet : MethodName := ⟨RX6, "isSet", "(I)Z"⟩
abbrev cX6_row : ByteArray := prog_8_method_42_code
def yX6_row : MethodName := ⟨RX6, "row", "(II)I"⟩
abbrev cX6_soon : ByteArray := prog_8_method_43_code
def yX6_soon : MethodName := ⟨RX6, "soon", "(I)I"⟩
abbrev cX6_odds : ByteArray := prog_8_method_44_code
def yX6_odds : MethodName := ⟨RX6, "odds", "(IIII)I"⟩
abbrev cX6_circle : ByteArray := prog_8_method_45_code
def yX6_circle : MethodName := ⟨RX6, "circle", "(II)I"⟩
abbrev cX6_chair : ByteArray := prog_8_method_46_code
def yX6_chair : MethodName := ⟨RX6, "chair", "(II)I"⟩
abbrev cX6_saw : ByteArray := prog_8_method_47_code
def yX6_saw : MethodName := ⟨RX6, "saw", "(II)I"⟩
abbrev cX6_forget : ByteArray := prog_8_method_48_code
def yX6_forget : MethodName := ⟨RX6, "forget", "()I"⟩
abbrev cX6_lawsOf : ByteArray := prog_8_method_49_code
def yX6_lawsOf : MethodName := ⟨RX6, "lawsOf", "(I)I"⟩
abbrev cX6_laws : ByteArray := prog_8_method_50_code
def yX6_laws : MethodName := ⟨RX6, "laws", "(I)I"⟩
abbrev cX6_likely : ByteArray := prog_8_method_51_code
def yX6_likely : MethodName := ⟨RX6, "likely", "()I"⟩
abbrev cX6_mark : ByteArray := prog_8_method_52_code
def yX6_mark : MethodName := ⟨RX6, "mark", "(II)I"⟩
abbrev cX6_keep : ByteArray := prog_8_method_53_code
def yX6_keep : MethodName := ⟨RX6, "keep", "(I)I"⟩
abbrev cX6_back : ByteArray := prog_8_method_54_code
def yX6_back : MethodName := ⟨RX6, "back", "(I)I"⟩
abbrev cX6_count : ByteArray := prog_8_method_55_code
def yX6_count : MethodName := ⟨RX6, "count", "(I)I"⟩
abbrev cX6_trace : ByteArray := prog_8_method_56_code
def yX6_trace : MethodName := ⟨RX6, "trace", "()J"⟩
def RJ6 : String := "java/lang/Integer"
def TJ6 : u_T := fun k => match k with
  | _ => ("", "", "", false)
def tyJ6 : Nat → FieldType := fun k => match k with
  | _ => .int
abbrev wsJ60 : List Cond := u_ws RJ6 TJ6 0
theorem nmJ6 : ∀ a, a < 0 → ∀ b, b < 0 → a ≠ b → (TJ6 a).2.1 ≠ (TJ6 b).2.1 := by decide +kernel
theorem tyJ6_ok : ∀ k, k < 0 → parseFieldDescriptor (TJ6 k).2.2.1 = some (tyJ6 k) := by decide +kernel
abbrev cJ6_bitCount_0f7a4 : ByteArray := prog_9_method_49_code
def yJ6_bitCount_0f7a4 : MethodName := ⟨RJ6, "bitCount", "(I)I"⟩
def RJ9 : String := "java/lang/Math"
def TJ9 : u_T := fun k => match k with
  | _ => ("", "", "", false)
def tyJ9 : Nat → FieldType := fun k => match k with
  | _ => .int
abbrev wsJ90 : List Cond := u_ws RJ9 TJ9 0
theorem nmJ9 : ∀ a, a < 0 → ∀ b, b < 0 → a ≠ b → (TJ9 a).2.1 ≠ (TJ9 b).2.1 := by decide +kernel
theorem tyJ9_ok : ∀ k, k < 0 → parseFieldDescriptor (TJ9 k).2.2.1 = some (tyJ9 k) := by decide +kernel
abbrev cJ9_abs_0f7a4 : ByteArray := prog_10_method_59_code
def yJ9_abs_0f7a4 : MethodName := ⟨RJ9, "abs", "(I)I"⟩
abbrev cJ9_min_7cf53 : ByteArray := prog_10_method_69_code
def yJ9_min_7cf53 : MethodName := ⟨RJ9, "min", "(II)I"⟩
def RJ10 : String := "java/lang/System"
def TJ10 : u_T := fun k => match k with
  | _ => ("", "", "", false)
def tyJ10 : Nat → FieldType := fun k => match k with
  | _ => .int
abbrev wsJ100 : List Cond := u_ws RJ10 TJ10 0
theorem nmJ10 : ∀ a, a < 0 → ∀ b, b < 0 → a ≠ b → (TJ10 a).2.1 ≠ (TJ10 b).2.1 := by decide +kernel
theorem tyJ10_ok : ∀ k, k < 0 → parseFieldDescriptor (TJ10 k).2.2.1 = some (tyJ10 k) := by decide +kernel
def RL : String := "BellCarsLaw"
abbrev cL_law : ByteArray := code
def yL_law : MethodName := ⟨RL, "law", "([I)Z"⟩
def wsX1_init : List Cond := .code yX1_init cX1_init 1 none :: ([.methodLink RX1 3 objectInit, .instanceMethod objectInit, .code objectInit ⟨#[0xb1]⟩ 1 none, .arrayClass .int, .fieldLink RX1 9 "BellCars$Moment" "seat" "[I", .fieldLink RX1 15 "BellCars$Moment" "downAt" "[I", .fieldLink RX1 18 "BellCars$Moment" "thoughtAt" "[I"] ++ wsX10)
def wsX2_init : List Cond := .code yX2_init cX2_init 2 none :: ([.methodLink RX2 3 objectInit, .instanceMethod objectInit, .code objectInit ⟨#[0xb1]⟩ 1 none, .classLink RX2 9 RX1, .fieldLink RX2 11 "BellCars$Past" "moments" "[LBellCars$Moment;", .instantiable RX1 7, .initialized RX1, .instanceMethod yX1_init, .code yX1_init cX1_init 1 none, .methodLink RX1 3 objectInit, .arrayClass .int, .fieldLink RX1 9 "BellCars$Moment" "seat" "[I", .fieldLink RX1 15 "BellCars$Moment" "downAt" "[I", .fieldLink RX1 18 "BellCars$Moment" "thoughtAt" "[I"] ++ wsX20 ++ wsX10)
def wsX0_init : List Cond := .code yX0_init cX0_init 1 none :: ([.methodLink RX0 1 objectInit, .instanceMethod objectInit, .code objectInit ⟨#[0xb1]⟩ 1 none, .classLink RX0 7 RX1, .instantiable RX1 7, .initialized RX1, .fieldLink RX0 10 "BellCars$Image" "moment" "LBellCars$Moment;", .classLink RX0 16 RX2, .instantiable RX2 3, .initialized RX2, .fieldLink RX0 19 "BellCars$Image" "past" "LBellCars$Past;", .instanceMethod yX1_init, .code yX1_init cX1_init 1 none, .methodLink RX1 3 objectInit, .arrayClass .int, .fieldLink RX1 9 "BellCars$Moment" "seat" "[I", .fieldLink RX1 15 "BellCars$Moment" "downAt" "[I", .fieldLink RX1 18 "BellCars$Moment" "thoughtAt" "[I", .methodLink RX0 18 yX2_init, .instanceMethod yX2_init, .code yX2_init cX2_init 2 none, .methodLink RX2 3 objectInit, .classLink RX2 9 RX1, .fieldLink RX2 11 "BellCars$Past" "moments" "[LBellCars$Moment;"] ++ wsX10 ++ wsX00 ++ wsX20)
def wsX1_copyFrom : List Cond := .code yX1_copyFrom cX1_copyFrom 2 none :: ([.fieldLink RX1 21 "BellCars$Moment" "stop" "I", .fieldLink RX1 30 "BellCars$Moment" "aboard" "I", .fieldLink RX1 33 "BellCars$Moment" "thoughts" "I", .fieldLink RX1 36 "BellCars$Moment" "lonely" "I", .fieldLink RX1 9 "BellCars$Moment" "seat" "[I", .methodLink RX1 40 arraycopyName, .native arraycopyName, .static arraycopyName, .initialized "java/lang/System", .fieldLink RX1 15 "BellCars$Moment" "downAt" "[I", .fieldLink RX1 18 "BellCars$Moment" "thoughtAt" "[I"] ++ wsX10)
def wsX2_placeOf : List Cond := .code yX2_placeOf cX2_placeOf 2 (some .int) :: ([.fieldLink RX2 30 "BellCars$Past" "oldest" "I"] ++ wsX20)
def wsX2_copyFrom : List Cond := .code yX2_copyFrom cX2_copyFrom 3 none :: ([.fieldLink RX2 18 "BellCars$Past" "size" "I", .fieldLink RX2 30 "BellCars$Past" "oldest" "I", .fieldLink RX2 11 "BellCars$Past" "moments" "[LBellCars$Moment;", .methodLink RX2 22 yX2_placeOf, .instanceMethod yX2_placeOf, .selects RX2 yX2_placeOf yX2_placeOf, .initialized RX2, .code yX2_placeOf cX2_placeOf 2 (some .int), .methodLink RX2 26 yX1_copyFrom, .instanceMethod yX1_copyFrom, .selects RX1 yX1_copyFrom yX1_copyFrom, .initialized RX1, .code yX1_copyFrom cX1_copyFrom 2 none, .fieldLink RX1 21 "BellCars$Moment" "stop" "I", .fieldLink RX1 30 "BellCars$Moment" "aboard" "I", .fieldLink RX1 33 "BellCars$Moment" "thoughts" "I", .fieldLink RX1 36 "BellCars$Moment" "lonely" "I", .fieldLink RX1 9 "BellCars$Moment" "seat" "[I", .methodLink RX1 40 arraycopyName, .native arraycopyName, .static arraycopyName, .initialized "java/lang/System", .fieldLink RX1 15 "BellCars$Moment" "downAt" "[I", .fieldLink RX1 18 "BellCars$Moment" "thoughtAt" "[I"] ++ wsX20 ++ wsX10)
def wsX0_copyFrom_r1 : List Cond := [Cond.fieldLink RX0 10 "BellCars$Image" "moment" "LBellCars$Moment;", Cond.fieldLink RX0 19 "BellCars$Image" "past" "LBellCars$Past;", Cond.methodLink RX0 23 yX1_copyFrom, Cond.instanceMethod yX1_copyFrom, Cond.selects RX1 yX1_copyFrom yX1_copyFrom, Cond.initialized RX1, Cond.code yX1_copyFrom cX1_copyFrom 2 none, Cond.fieldLink RX1 21 "BellCars$Moment" "stop" "I", Cond.fieldLink RX1 30 "BellCars$Moment" "aboard" "I", Cond.fieldLink RX1 33 "BellCars$Moment" "thoughts" "I", Cond.fieldLink RX1 36 "BellCars$Moment" "lonely" "I", Cond.fieldLink RX1 9 "BellCars$Moment" "seat" "[I", Cond.methodLink RX1 40 arraycopyName, Cond.native arraycopyName, Cond.static arraycopyName, Cond.initialized "java/lang/System", Cond.fieldLink RX1 15 "BellCars$Moment" "downAt" "[I", Cond.fieldLink RX1 18 "BellCars$Moment" "thoughtAt" "[I", Cond.methodLink RX0 27 yX2_copyFrom, Cond.instanceMethod yX2_copyFrom, Cond.selects RX2 yX2_copyFrom yX2_copyFrom, Cond.initialized RX2, Cond.code yX2_copyFrom cX2_copyFrom 3 none, Cond.fieldLink RX2 18 "BellCars$Past" "size" "I"]
def wsX0_copyFrom_r2 : List Cond := [Cond.fieldLink RX2 30 "BellCars$Past" "oldest" "I", Cond.fieldLink RX2 11 "BellCars$Past" "moments" "[LBellCars$Moment;", Cond.methodLink RX2 22 yX2_placeOf, Cond.instanceMethod yX2_placeOf, Cond.selects RX2 yX2_placeOf yX2_placeOf, Cond.code yX2_placeOf cX2_placeOf 2 (some .int), Cond.methodLink RX2 26 yX1_copyFrom]
def wsX0_copyFrom : List Cond := .code yX0_copyFrom cX0_copyFrom 2 none :: ((wsX0_copyFrom_r1 ++ wsX0_copyFrom_r2) ++ wsX00 ++ wsX10 ++ wsX20)
def wsX1_begin : List Cond := .code yX1_begin cX1_begin 3 none :: ([.fieldLink RX1 21 "BellCars$Moment" "stop" "I", .fieldLink RX1 25 "BellCars$Told" "riders" "I", .fieldLink RX1 30 "BellCars$Moment" "aboard" "I", .fieldLink RX1 33 "BellCars$Moment" "thoughts" "I", .fieldLink RX1 36 "BellCars$Moment" "lonely" "I", .fieldLink RX1 39 "BellCars$Told" "seat" "[I", .fieldLink RX1 9 "BellCars$Moment" "seat" "[I", .methodLink RX1 40 arraycopyName, .native arraycopyName, .static arraycopyName, .initialized "java/lang/System", .fieldLink RX1 15 "BellCars$Moment" "downAt" "[I", .fieldLink RX1 18 "BellCars$Moment" "thoughtAt" "[I"] ++ wsX10 ++ wsX40)
def wsX1_isAboard : List Cond := .code yX1_isAboard cX1_isAboard 2 (some .boolean) :: ([.fieldLink RX1 30 "BellCars$Moment" "aboard" "I"] ++ wsX10)
def wsX1_areAboard : List Cond := .code yX1_areAboard cX1_areAboard 2 (some .boolean) :: ([.fieldLink RX1 30 "BellCars$Moment" "aboard" "I"] ++ wsX10)
def wsX1_thoughtOf : List Cond := .code yX1_thoughtOf cX1_thoughtOf 3 (some .int) :: ([.fieldLink RX1 18 "BellCars$Moment" "thoughtAt" "[I"] ++ wsX10)
def wsX1_think : List Cond := .code yX1_think cX1_think 3 none :: ([.fieldLink RX1 33 "BellCars$Moment" "thoughts" "I", .fieldLink RX1 18 "BellCars$Moment" "thoughtAt" "[I"] ++ wsX10)
def wsX1_getDown : List Cond := .code yX1_getDown cX1_getDown 2 (some .int) :: ([.fieldLink RX1 36 "BellCars$Moment" "lonely" "I", .fieldLink RX1 30 "BellCars$Moment" "aboard" "I", .fieldLink RX1 15 "BellCars$Moment" "downAt" "[I", .fieldLink RX1 21 "BellCars$Moment" "stop" "I"] ++ wsX10)
def wsX2_push : List Cond := .code yX2_push cX2_push 2 none :: ([.fieldLink RX2 11 "BellCars$Past" "moments" "[LBellCars$Moment;", .fieldLink RX2 18 "BellCars$Past" "size" "I", .fieldLink RX2 30 "BellCars$Past" "oldest" "I", .methodLink RX2 22 yX2_placeOf, .instanceMethod yX2_placeOf, .selects RX2 yX2_placeOf yX2_placeOf, .initialized RX2, .code yX2_placeOf cX2_placeOf 2 (some .int), .methodLink RX2 26 yX1_copyFrom, .instanceMethod yX1_copyFrom, .selects RX1 yX1_copyFrom yX1_copyFrom, .initialized RX1, .code yX1_copyFrom cX1_copyFrom 2 none, .fieldLink RX1 21 "BellCars$Moment" "stop" "I", .fieldLink RX1 30 "BellCars$Moment" "aboard" "I", .fieldLink RX1 33 "BellCars$Moment" "thoughts" "I", .fieldLink RX1 36 "BellCars$Moment" "lonely" "I", .fieldLink RX1 9 "BellCars$Moment" "seat" "[I", .methodLink RX1 40 arraycopyName, .native arraycopyName, .static arraycopyName, .initialized "java/lang/System", .fieldLink RX1 15 "BellCars$Moment" "downAt" "[I", .fieldLink RX1 18 "BellCars$Moment" "thoughtAt" "[I"] ++ wsX20 ++ wsX10)
def wsX2_popInto : List Cond := .code yX2_popInto cX2_popInto 2 none :: ([.fieldLink RX2 18 "BellCars$Past" "size" "I", .fieldLink RX2 11 "BellCars$Past" "moments" "[LBellCars$Moment;", .methodLink RX2 22 yX2_placeOf, .instanceMethod yX2_placeOf, .selects RX2 yX2_placeOf yX2_placeOf, .initialized RX2, .code yX2_placeOf cX2_placeOf 2 (some .int), .fieldLink RX2 30 "BellCars$Past" "oldest" "I", .methodLink RX2 26 yX1_copyFrom, .instanceMethod yX1_copyFrom, .selects RX1 yX1_copyFrom yX1_copyFrom, .initialized RX1, .code yX1_copyFrom cX1_copyFrom 2 none, .fieldLink RX1 21 "BellCars$Moment" "stop" "I", .fieldLink RX1 30 "BellCars$Moment" "aboard" "I", .fieldLink RX1 33 "BellCars$Moment" "thoughts" "I", .fieldLink RX1 36 "BellCars$Moment" "lonely" "I", .fieldLink RX1 9 "BellCars$Moment" "seat" "[I", .methodLink RX1 40 arraycopyName, .native arraycopyName, .static arraycopyName, .initialized "java/lang/System", .fieldLink RX1 15 "BellCars$Moment" "downAt" "[I", .fieldLink RX1 18 "BellCars$Moment" "thoughtAt" "[I"] ++ wsX20 ++ wsX10)
def wsX3_init : List Cond := .code yX3_init cX3_init 1 none :: ([.methodLink RX3 3 objectInit, .instanceMethod objectInit, .code objectInit ⟨#[0xb1]⟩ 1 none, .arrayClass .int, .fieldLink RX3 9 "BellCars$Text" "bytes" "[I"] ++ wsX30)
def wsX3_add : List Cond := .code yX3_add cX3_add 2 (some .boolean) :: ([.fieldLink RX3 15 "BellCars$Text" "length" "I", .fieldLink RX3 9 "BellCars$Text" "bytes" "[I"] ++ wsX30)
def wsX4_forgetAll : List Cond := .code yX4_forgetAll cX4_forgetAll 1 none :: ([.fieldLink RX4 25 "BellCars$Told" "riders" "I", .fieldLink RX4 28 "BellCars$Told" "items" "I", .fieldLink RX4 9 "BellCars$Told" "line" "I"] ++ wsX40)
def wsX3_passBytes : List Cond := .code yX3_passBytes cX3_passBytes 3 none :: ([.fieldLink RX3 19 "BellCars$Text" "at" "I", .fieldLink RX3 15 "BellCars$Text" "length" "I", .fieldLink RX3 9 "BellCars$Text" "bytes" "[I"] ++ wsX30)
def wsX3_takeLetters : List Cond := .code yX3_takeLetters cX3_takeLetters 2 none :: ([.fieldLink RX3 34 "BellCars$Text" "sort" "I", .fieldLink RX3 19 "BellCars$Text" "at" "I", .fieldLink RX3 41 "BellCars$Text" "start" "I", .fieldLink RX3 44 "BellCars$Text" "value" "I", .methodLink RX3 79 yX3_passBytes, .instanceMethod yX3_passBytes, .selects RX3 yX3_passBytes yX3_passBytes, .initialized RX3, .code yX3_passBytes cX3_passBytes 3 none, .fieldLink RX3 15 "BellCars$Text" "length" "I", .fieldLink RX3 9 "BellCars$Text" "bytes" "[I"] ++ wsX30)
def wsX3_takeNumber : List Cond := .code yX3_takeNumber cX3_takeNumber 4 none :: ([.fieldLink RX3 19 "BellCars$Text" "at" "I", .fieldLink RX3 41 "BellCars$Text" "start" "I", .fieldLink RX3 44 "BellCars$Text" "value" "I", .fieldLink RX3 9 "BellCars$Text" "bytes" "[I", .methodLink RX3 90 Lib.Math.min.name, .static Lib.Math.min.name, .initialized "java/lang/Math", .code Lib.Math.min.name Lib.Math.min.code 2 (some .int), .fieldLink RX3 34 "BellCars$Text" "sort" "I", .methodLink RX3 79 yX3_passBytes, .instanceMethod yX3_passBytes, .selects RX3 yX3_passBytes yX3_passBytes, .initialized RX3, .code yX3_passBytes cX3_passBytes 3 none, .fieldLink RX3 15 "BellCars$Text" "length" "I"] ++ wsX30)
def wsX3_advance : List Cond := .code yX3_advance cX3_advance 2 none :: ([.fieldLink RX3 19 "BellCars$Text" "at" "I", .fieldLink RX3 41 "BellCars$Text" "start" "I", .fieldLink RX3 44 "BellCars$Text" "value" "I", .fieldLink RX3 15 "BellCars$Text" "length" "I", .fieldLink RX3 9 "BellCars$Text" "bytes" "[I", .fieldLink RX3 34 "BellCars$Text" "sort" "I", .methodLink RX3 79 yX3_passBytes, .instanceMethod yX3_passBytes, .selects RX3 yX3_passBytes yX3_passBytes, .initialized RX3, .code yX3_passBytes cX3_passBytes 3 none, .methodLink RX3 83 yX3_takeLetters, .instanceMethod yX3_takeLetters, .selects RX3 yX3_takeLetters yX3_takeLetters, .code yX3_takeLetters cX3_takeLetters 2 none, .methodLink RX3 87 yX3_takeNumber, .instanceMethod yX3_takeNumber, .selects RX3 yX3_takeNumber yX3_takeNumber, .code yX3_takeNumber cX3_takeNumber 4 none, .methodLink RX3 90 Lib.Math.min.name, .static Lib.Math.min.name, .initialized "java/lang/Math", .code Lib.Math.min.name Lib.Math.min.code 2 (some .int)] ++ wsX30)
def wsX3_comesNumber_r1 : List Cond := [Cond.fieldLink RX3 34 "BellCars$Text" "sort" "I", Cond.fieldLink RX3 44 "BellCars$Text" "value" "I", Cond.methodLink RX3 31 yX3_advance, Cond.instanceMethod yX3_advance, Cond.selects RX3 yX3_advance yX3_advance, Cond.initialized RX3, Cond.code yX3_advance cX3_advance 2 none, Cond.fieldLink RX3 19 "BellCars$Text" "at" "I", Cond.fieldLink RX3 41 "BellCars$Text" "start" "I", Cond.fieldLink RX3 15 "BellCars$Text" "length" "I", Cond.fieldLink RX3 9 "BellCars$Text" "bytes" "[I", Cond.methodLink RX3 79 yX3_passBytes, Cond.instanceMethod yX3_passBytes, Cond.selects RX3 yX3_passBytes yX3_passBytes, Cond.code yX3_passBytes cX3_passBytes 3 none, Cond.methodLink RX3 83 yX3_takeLetters, Cond.instanceMethod yX3_takeLetters, Cond.selects RX3 yX3_takeLetters yX3_takeLetters, Cond.code yX3_takeLetters cX3_takeLetters 2 none, Cond.methodLink RX3 87 yX3_takeNumber, Cond.instanceMethod yX3_takeNumber, Cond.selects RX3 yX3_takeNumber yX3_takeNumber, Cond.code yX3_takeNumber cX3_takeNumber 4 none, Cond.methodLink RX3 90 Lib.Math.min.name]
def wsX3_comesNumber_r2 : List Cond := [Cond.static Lib.Math.min.name, Cond.initialized "java/lang/Math", Cond.code Lib.Math.min.name Lib.Math.min.code 2 (some .int)]
def wsX3_comesNumber : List Cond := .code yX3_comesNumber cX3_comesNumber 3 (some .boolean) :: ((wsX3_comesNumber_r1 ++ wsX3_comesNumber_r2) ++ wsX30)
def wsX3_readRider_r1 : List Cond := [Cond.fieldLink RX3 64 "BellCars$Told" "seat" "[I", Cond.fieldLink RX3 44 "BellCars$Text" "value" "I", Cond.fieldLink RX3 67 "BellCars$Told" "looks" "[I", Cond.fieldLink RX3 70 "BellCars$Told" "law" "[I", Cond.fieldLink RX3 47 "BellCars$Told" "riders" "I", Cond.methodLink RX3 60 yX3_comesNumber, Cond.instanceMethod yX3_comesNumber, Cond.selects RX3 yX3_comesNumber yX3_comesNumber, Cond.initialized RX3, Cond.code yX3_comesNumber cX3_comesNumber 3 (some .boolean), Cond.fieldLink RX3 34 "BellCars$Text" "sort" "I", Cond.methodLink RX3 31 yX3_advance, Cond.instanceMethod yX3_advance, Cond.selects RX3 yX3_advance yX3_advance, Cond.code yX3_advance cX3_advance 2 none, Cond.fieldLink RX3 19 "BellCars$Text" "at" "I", Cond.fieldLink RX3 41 "BellCars$Text" "start" "I", Cond.fieldLink RX3 15 "BellCars$Text" "length" "I", Cond.fieldLink RX3 9 "BellCars$Text" "bytes" "[I", Cond.methodLink RX3 79 yX3_passBytes, Cond.instanceMethod yX3_passBytes, Cond.selects RX3 yX3_passBytes yX3_passBytes, Cond.code yX3_passBytes cX3_passBytes 3 none, Cond.methodLink RX3 83 yX3_takeLetters]
def wsX3_readRider_r2 : List Cond := [Cond.instanceMethod yX3_takeLetters, Cond.selects RX3 yX3_takeLetters yX3_takeLetters, Cond.code yX3_takeLetters cX3_takeLetters 2 none, Cond.methodLink RX3 87 yX3_takeNumber, Cond.instanceMethod yX3_takeNumber, Cond.selects RX3 yX3_takeNumber yX3_takeNumber, Cond.code yX3_takeNumber cX3_takeNumber 4 none, Cond.methodLink RX3 90 Lib.Math.min.name, Cond.static Lib.Math.min.name, Cond.initialized "java/lang/Math", Cond.code Lib.Math.min.name Lib.Math.min.code 2 (some .int)]
def wsX3_readRider : List Cond := .code yX3_readRider cX3_readRider 3 (some .boolean) :: ((wsX3_readRider_r1 ++ wsX3_readRider_r2) ++ wsX40 ++ wsX30)
def wsX3_comesEnd_r1 : List Cond := [Cond.fieldLink RX3 34 "BellCars$Text" "sort" "I", Cond.fieldLink RX3 76 "BellCars$Told" "items" "I", Cond.methodLink RX3 31 yX3_advance, Cond.instanceMethod yX3_advance, Cond.selects RX3 yX3_advance yX3_advance, Cond.initialized RX3, Cond.code yX3_advance cX3_advance 2 none, Cond.fieldLink RX3 19 "BellCars$Text" "at" "I", Cond.fieldLink RX3 41 "BellCars$Text" "start" "I", Cond.fieldLink RX3 44 "BellCars$Text" "value" "I", Cond.fieldLink RX3 15 "BellCars$Text" "length" "I", Cond.fieldLink RX3 9 "BellCars$Text" "bytes" "[I", Cond.methodLink RX3 79 yX3_passBytes, Cond.instanceMethod yX3_passBytes, Cond.selects RX3 yX3_passBytes yX3_passBytes, Cond.code yX3_passBytes cX3_passBytes 3 none, Cond.methodLink RX3 83 yX3_takeLetters, Cond.instanceMethod yX3_takeLetters, Cond.selects RX3 yX3_takeLetters yX3_takeLetters, Cond.code yX3_takeLetters cX3_takeLetters 2 none, Cond.methodLink RX3 87 yX3_takeNumber, Cond.instanceMethod yX3_takeNumber, Cond.selects RX3 yX3_takeNumber yX3_takeNumber, Cond.code yX3_takeNumber cX3_takeNumber 4 none]
def wsX3_comesEnd_r2 : List Cond := [Cond.methodLink RX3 90 Lib.Math.min.name, Cond.static Lib.Math.min.name, Cond.initialized "java/lang/Math", Cond.code Lib.Math.min.name Lib.Math.min.code 2 (some .int)]
def wsX3_comesEnd : List Cond := .code yX3_comesEnd cX3_comesEnd 2 (some .boolean) :: ((wsX3_comesEnd_r1 ++ wsX3_comesEnd_r2) ++ wsX30 ++ wsX40)
def wsX3_readLine_r1 : List Cond := [Cond.fieldLink RX3 44 "BellCars$Text" "value" "I", Cond.fieldLink RX3 73 "BellCars$Told" "line" "I", Cond.fieldLink RX3 22 "BellCars$Text" "lineTold" "Z", Cond.methodLink RX3 60 yX3_comesNumber, Cond.instanceMethod yX3_comesNumber, Cond.selects RX3 yX3_comesNumber yX3_comesNumber, Cond.initialized RX3, Cond.code yX3_comesNumber cX3_comesNumber 3 (some .boolean), Cond.fieldLink RX3 34 "BellCars$Text" "sort" "I", Cond.methodLink RX3 31 yX3_advance, Cond.instanceMethod yX3_advance, Cond.selects RX3 yX3_advance yX3_advance, Cond.code yX3_advance cX3_advance 2 none, Cond.fieldLink RX3 19 "BellCars$Text" "at" "I", Cond.fieldLink RX3 41 "BellCars$Text" "start" "I", Cond.fieldLink RX3 15 "BellCars$Text" "length" "I", Cond.fieldLink RX3 9 "BellCars$Text" "bytes" "[I", Cond.methodLink RX3 79 yX3_passBytes, Cond.instanceMethod yX3_passBytes, Cond.selects RX3 yX3_passBytes yX3_passBytes, Cond.code yX3_passBytes cX3_passBytes 3 none, Cond.methodLink RX3 83 yX3_takeLetters, Cond.instanceMethod yX3_takeLetters, Cond.selects RX3 yX3_takeLetters yX3_takeLetters]
def wsX3_readLine_r2 : List Cond := [Cond.code yX3_takeLetters cX3_takeLetters 2 none, Cond.methodLink RX3 87 yX3_takeNumber, Cond.instanceMethod yX3_takeNumber, Cond.selects RX3 yX3_takeNumber yX3_takeNumber, Cond.code yX3_takeNumber cX3_takeNumber 4 none, Cond.methodLink RX3 90 Lib.Math.min.name, Cond.static Lib.Math.min.name, Cond.initialized "java/lang/Math", Cond.code Lib.Math.min.name Lib.Math.min.code 2 (some .int)]
def wsX3_readLine : List Cond := .code yX3_readLine cX3_readLine 2 (some .boolean) :: ((wsX3_readLine_r1 ++ wsX3_readLine_r2) ++ wsX30 ++ wsX40)
def wsX3_readItem_r1 : List Cond := [Cond.fieldLink RX3 34 "BellCars$Text" "sort" "I", Cond.fieldLink RX3 44 "BellCars$Text" "value" "I", Cond.fieldLink RX3 47 "BellCars$Told" "riders" "I", Cond.fieldLink RX3 22 "BellCars$Text" "lineTold" "Z", Cond.methodLink RX3 50 yX3_readRider, Cond.instanceMethod yX3_readRider, Cond.selects RX3 yX3_readRider yX3_readRider, Cond.initialized RX3, Cond.code yX3_readRider cX3_readRider 3 (some .boolean), Cond.fieldLink RX3 64 "BellCars$Told" "seat" "[I", Cond.fieldLink RX3 67 "BellCars$Told" "looks" "[I", Cond.fieldLink RX3 70 "BellCars$Told" "law" "[I", Cond.methodLink RX3 60 yX3_comesNumber, Cond.instanceMethod yX3_comesNumber, Cond.selects RX3 yX3_comesNumber yX3_comesNumber, Cond.code yX3_comesNumber cX3_comesNumber 3 (some .boolean), Cond.methodLink RX3 31 yX3_advance, Cond.instanceMethod yX3_advance, Cond.selects RX3 yX3_advance yX3_advance, Cond.code yX3_advance cX3_advance 2 none, Cond.fieldLink RX3 19 "BellCars$Text" "at" "I", Cond.fieldLink RX3 41 "BellCars$Text" "start" "I", Cond.fieldLink RX3 15 "BellCars$Text" "length" "I", Cond.fieldLink RX3 9 "BellCars$Text" "bytes" "[I"]
def wsX3_readItem_r2 : List Cond := [Cond.methodLink RX3 79 yX3_passBytes, Cond.instanceMethod yX3_passBytes, Cond.selects RX3 yX3_passBytes yX3_passBytes, Cond.code yX3_passBytes cX3_passBytes 3 none, Cond.methodLink RX3 83 yX3_takeLetters, Cond.instanceMethod yX3_takeLetters, Cond.selects RX3 yX3_takeLetters yX3_takeLetters, Cond.code yX3_takeLetters cX3_takeLetters 2 none, Cond.methodLink RX3 87 yX3_takeNumber, Cond.instanceMethod yX3_takeNumber, Cond.selects RX3 yX3_takeNumber yX3_takeNumber, Cond.code yX3_takeNumber cX3_takeNumber 4 none, Cond.methodLink RX3 90 Lib.Math.min.name, Cond.static Lib.Math.min.name, Cond.initialized "java/lang/Math", Cond.code Lib.Math.min.name Lib.Math.min.code 2 (some .int), Cond.methodLink RX3 54 yX3_comesEnd, Cond.instanceMethod yX3_comesEnd, Cond.selects RX3 yX3_comesEnd yX3_comesEnd, Cond.code yX3_comesEnd cX3_comesEnd 2 (some .boolean), Cond.fieldLink RX3 76 "BellCars$Told" "items" "I", Cond.methodLink RX3 57 yX3_readLine, Cond.instanceMethod yX3_readLine, Cond.selects RX3 yX3_readLine yX3_readLine]
def wsX3_readItem_r3 : List Cond := [Cond.code yX3_readLine cX3_readLine 2 (some .boolean), Cond.fieldLink RX3 73 "BellCars$Told" "line" "I"]
def wsX3_readItem : List Cond := .code yX3_readItem cX3_readItem 2 (some .boolean) :: ((wsX3_readItem_r1 ++ (wsX3_readItem_r2 ++ wsX3_readItem_r3)) ++ wsX30 ++ wsX40)
def wsX3_readInto_r1 : List Cond := [Cond.fieldLink RX3 19 "BellCars$Text" "at" "I", Cond.fieldLink RX3 22 "BellCars$Text" "lineTold" "Z", Cond.fieldLink RX3 34 "BellCars$Text" "sort" "I", Cond.fieldLink RX3 41 "BellCars$Text" "start" "I", Cond.methodLink RX3 26 yX4_forgetAll, Cond.instanceMethod yX4_forgetAll, Cond.selects RX4 yX4_forgetAll yX4_forgetAll, Cond.initialized RX4, Cond.code yX4_forgetAll cX4_forgetAll 1 none, Cond.fieldLink RX4 25 "BellCars$Told" "riders" "I", Cond.fieldLink RX4 28 "BellCars$Told" "items" "I", Cond.fieldLink RX4 9 "BellCars$Told" "line" "I", Cond.methodLink RX3 31 yX3_advance, Cond.instanceMethod yX3_advance, Cond.selects RX3 yX3_advance yX3_advance, Cond.initialized RX3, Cond.code yX3_advance cX3_advance 2 none, Cond.fieldLink RX3 44 "BellCars$Text" "value" "I", Cond.fieldLink RX3 15 "BellCars$Text" "length" "I", Cond.fieldLink RX3 9 "BellCars$Text" "bytes" "[I", Cond.methodLink RX3 79 yX3_passBytes, Cond.instanceMethod yX3_passBytes, Cond.selects RX3 yX3_passBytes yX3_passBytes, Cond.code yX3_passBytes cX3_passBytes 3 none]
def wsX3_readInto_r2 : List Cond := [Cond.methodLink RX3 83 yX3_takeLetters, Cond.instanceMethod yX3_takeLetters, Cond.selects RX3 yX3_takeLetters yX3_takeLetters, Cond.code yX3_takeLetters cX3_takeLetters 2 none, Cond.methodLink RX3 87 yX3_takeNumber, Cond.instanceMethod yX3_takeNumber, Cond.selects RX3 yX3_takeNumber yX3_takeNumber, Cond.code yX3_takeNumber cX3_takeNumber 4 none, Cond.methodLink RX3 90 Lib.Math.min.name, Cond.static Lib.Math.min.name, Cond.initialized "java/lang/Math", Cond.code Lib.Math.min.name Lib.Math.min.code 2 (some .int), Cond.methodLink RX3 37 yX3_readItem, Cond.instanceMethod yX3_readItem, Cond.selects RX3 yX3_readItem yX3_readItem, Cond.code yX3_readItem cX3_readItem 2 (some .boolean), Cond.fieldLink RX3 47 "BellCars$Told" "riders" "I", Cond.methodLink RX3 50 yX3_readRider, Cond.instanceMethod yX3_readRider, Cond.selects RX3 yX3_readRider yX3_readRider, Cond.code yX3_readRider cX3_readRider 3 (some .boolean), Cond.fieldLink RX3 64 "BellCars$Told" "seat" "[I", Cond.fieldLink RX3 67 "BellCars$Told" "looks" "[I", Cond.fieldLink RX3 70 "BellCars$Told" "law" "[I"]
def wsX3_readInto_r3 : List Cond := [Cond.methodLink RX3 60 yX3_comesNumber, Cond.instanceMethod yX3_comesNumber, Cond.selects RX3 yX3_comesNumber yX3_comesNumber, Cond.code yX3_comesNumber cX3_comesNumber 3 (some .boolean), Cond.methodLink RX3 54 yX3_comesEnd, Cond.instanceMethod yX3_comesEnd, Cond.selects RX3 yX3_comesEnd yX3_comesEnd, Cond.code yX3_comesEnd cX3_comesEnd 2 (some .boolean), Cond.fieldLink RX3 76 "BellCars$Told" "items" "I", Cond.methodLink RX3 57 yX3_readLine, Cond.instanceMethod yX3_readLine, Cond.selects RX3 yX3_readLine yX3_readLine, Cond.code yX3_readLine cX3_readLine 2 (some .boolean), Cond.fieldLink RX3 73 "BellCars$Told" "line" "I"]
def wsX3_readInto : List Cond := .code yX3_readInto cX3_readInto 3 (some .int) :: ((wsX3_readInto_r1 ++ (wsX3_readInto_r2 ++ wsX3_readInto_r3)) ++ wsX30 ++ wsX40)
def wsX4_init : List Cond := .code yX4_init cX4_init 1 none :: ([.methodLink RX4 3 objectInit, .instanceMethod objectInit, .code objectInit ⟨#[0xb1]⟩ 1 none, .fieldLink RX4 9 "BellCars$Told" "line" "I", .arrayClass .int, .fieldLink RX4 15 "BellCars$Told" "seat" "[I", .fieldLink RX4 19 "BellCars$Told" "looks" "[I", .fieldLink RX4 22 "BellCars$Told" "law" "[I"] ++ wsX40)
def wsX4_copyFrom : List Cond := .code yX4_copyFrom cX4_copyFrom 2 none :: ([.fieldLink RX4 25 "BellCars$Told" "riders" "I", .fieldLink RX4 28 "BellCars$Told" "items" "I", .fieldLink RX4 9 "BellCars$Told" "line" "I", .fieldLink RX4 15 "BellCars$Told" "seat" "[I", .methodLink RX4 31 arraycopyName, .native arraycopyName, .static arraycopyName, .initialized "java/lang/System", .fieldLink RX4 19 "BellCars$Told" "looks" "[I", .fieldLink RX4 22 "BellCars$Told" "law" "[I"] ++ wsX40)
def wsX5_startAnew_r1 : List Cond := [Cond.fieldLink RX5 29 "BellCars" "present" "LBellCars$Image;", Cond.fieldLink RX5 76 "BellCars$Image" "moment" "LBellCars$Moment;", Cond.fieldLink RX5 19 "BellCars" "told" "LBellCars$Told;", Cond.fieldLink RX5 119 "BellCars$Image" "past" "LBellCars$Past;", Cond.fieldLink RX5 148 "BellCars$Past" "size" "I", Cond.fieldLink RX5 194 "BellCars" "seenCount" "I", Cond.fieldLink RX5 228 "BellCars" "imagesKept" "I", Cond.methodLink RX5 235 yX1_begin, Cond.instanceMethod yX1_begin, Cond.selects RX1 yX1_begin yX1_begin, Cond.initialized RX1, Cond.code yX1_begin cX1_begin 3 none, Cond.fieldLink RX1 21 "BellCars$Moment" "stop" "I", Cond.fieldLink RX1 25 "BellCars$Told" "riders" "I", Cond.fieldLink RX1 30 "BellCars$Moment" "aboard" "I", Cond.fieldLink RX1 33 "BellCars$Moment" "thoughts" "I", Cond.fieldLink RX1 36 "BellCars$Moment" "lonely" "I", Cond.fieldLink RX1 39 "BellCars$Told" "seat" "[I", Cond.fieldLink RX1 9 "BellCars$Moment" "seat" "[I", Cond.methodLink RX1 40 arraycopyName, Cond.native arraycopyName, Cond.static arraycopyName, Cond.initialized "java/lang/System", Cond.fieldLink RX1 15 "BellCars$Moment" "downAt" "[I"]
def wsX5_startAnew_r2 : List Cond := [Cond.fieldLink RX1 18 "BellCars$Moment" "thoughtAt" "[I"]
def wsX5_startAnew : List Cond := .code yX5_startAnew cX5_startAnew 1 none :: ((wsX5_startAnew_r1 ++ wsX5_startAnew_r2) ++ wsX50 ++ wsX00 ++ wsX20 ++ wsX10 ++ wsX40)
def wsX5_init_r1 : List Cond := [Cond.methodLink RX5 3 objectInit, Cond.instanceMethod objectInit, Cond.code objectInit ⟨#[0xb1]⟩ 1 none, Cond.classLink RX5 9 RX3, Cond.instantiable RX3 7, Cond.initialized RX3, Cond.fieldLink RX5 12 "BellCars" "text" "LBellCars$Text;", Cond.classLink RX5 16 RX4, Cond.instantiable RX4 6, Cond.initialized RX4, Cond.fieldLink RX5 19 "BellCars" "told" "LBellCars$Told;", Cond.fieldLink RX5 23 "BellCars" "draft" "LBellCars$Told;", Cond.classLink RX5 26 RX0, Cond.instantiable RX0 2, Cond.initialized RX0, Cond.fieldLink RX5 29 "BellCars" "present" "LBellCars$Image;", Cond.fieldLink RX5 33 "BellCars" "images" "[LBellCars$Image;", Cond.classLink RX5 37 RX1, Cond.instantiable RX1 7, Cond.initialized RX1, Cond.fieldLink RX5 40 "BellCars" "ahead" "LBellCars$Moment;", Cond.arrayClass .int, Cond.fieldLink RX5 44 "BellCars" "seenThinker" "[I", Cond.fieldLink RX5 48 "BellCars" "seenThought" "[I"]
def wsX5_init_r2 : List Cond := [Cond.instanceMethod yX3_init, Cond.code yX3_init cX3_init 1 none, Cond.methodLink RX3 3 objectInit, Cond.fieldLink RX3 9 "BellCars$Text" "bytes" "[I", Cond.instanceMethod yX4_init, Cond.code yX4_init cX4_init 1 none, Cond.methodLink RX4 3 objectInit, Cond.fieldLink RX4 9 "BellCars$Told" "line" "I", Cond.fieldLink RX4 15 "BellCars$Told" "seat" "[I", Cond.fieldLink RX4 19 "BellCars$Told" "looks" "[I", Cond.fieldLink RX4 22 "BellCars$Told" "law" "[I", Cond.instanceMethod yX0_init, Cond.code yX0_init cX0_init 1 none, Cond.methodLink RX0 1 objectInit, Cond.classLink RX0 7 RX1, Cond.fieldLink RX0 10 "BellCars$Image" "moment" "LBellCars$Moment;", Cond.classLink RX0 16 RX2, Cond.instantiable RX2 3, Cond.initialized RX2, Cond.fieldLink RX0 19 "BellCars$Image" "past" "LBellCars$Past;", Cond.instanceMethod yX1_init, Cond.code yX1_init cX1_init 1 none, Cond.methodLink RX1 3 objectInit, Cond.fieldLink RX1 9 "BellCars$Moment" "seat" "[I"]
def wsX5_init_r3 : List Cond := [Cond.fieldLink RX1 15 "BellCars$Moment" "downAt" "[I", Cond.fieldLink RX1 18 "BellCars$Moment" "thoughtAt" "[I", Cond.methodLink RX0 18 yX2_init, Cond.instanceMethod yX2_init, Cond.code yX2_init cX2_init 2 none, Cond.methodLink RX2 3 objectInit, Cond.classLink RX2 9 RX1, Cond.fieldLink RX2 11 "BellCars$Past" "moments" "[LBellCars$Moment;", Cond.methodLink RX5 51 yX5_startAnew, Cond.instanceMethod yX5_startAnew, Cond.selects RX5 yX5_startAnew yX5_startAnew, Cond.initialized RX5, Cond.code yX5_startAnew cX5_startAnew 1 none, Cond.fieldLink RX5 76 "BellCars$Image" "moment" "LBellCars$Moment;", Cond.fieldLink RX5 119 "BellCars$Image" "past" "LBellCars$Past;", Cond.fieldLink RX5 148 "BellCars$Past" "size" "I", Cond.fieldLink RX5 194 "BellCars" "seenCount" "I", Cond.fieldLink RX5 228 "BellCars" "imagesKept" "I", Cond.methodLink RX5 235 yX1_begin, Cond.instanceMethod yX1_begin, Cond.selects RX1 yX1_begin yX1_begin, Cond.code yX1_begin cX1_begin 3 none, Cond.fieldLink RX1 21 "BellCars$Moment" "stop" "I", Cond.fieldLink RX1 25 "BellCars$Told" "riders" "I"]
def wsX5_init_r4 : List Cond := [Cond.fieldLink RX1 30 "BellCars$Moment" "aboard" "I", Cond.fieldLink RX1 33 "BellCars$Moment" "thoughts" "I", Cond.fieldLink RX1 36 "BellCars$Moment" "lonely" "I", Cond.fieldLink RX1 39 "BellCars$Told" "seat" "[I", Cond.methodLink RX1 40 arraycopyName, Cond.native arraycopyName, Cond.static arraycopyName, Cond.initialized "java/lang/System"]
def wsX5_init : List Cond := .code yX5_init cX5_init 2 none :: ((wsX5_init_r1 ++ (wsX5_init_r2 ++ (wsX5_init_r3 ++ wsX5_init_r4))) ++ wsX30 ++ wsX50 ++ wsX40 ++ wsX00 ++ wsX10 ++ wsX20)
def wsX5_type : List Cond := .code yX5_type cX5_type 2 (some .int) :: ([.fieldLink RX5 12 "BellCars" "text" "LBellCars$Text;", .fieldLink RX5 58 "BellCars$Text" "length" "I", .methodLink RX5 54 yX3_add, .instanceMethod yX3_add, .selects RX3 yX3_add yX3_add, .initialized RX3, .code yX3_add cX3_add 2 (some .boolean), .fieldLink RX3 15 "BellCars$Text" "length" "I", .fieldLink RX3 9 "BellCars$Text" "bytes" "[I"] ++ wsX50 ++ wsX30)
def wsX5_clear : List Cond := .code yX5_clear cX5_clear 2 (some .int) :: ([.fieldLink RX5 12 "BellCars" "text" "LBellCars$Text;", .fieldLink RX5 58 "BellCars$Text" "length" "I"] ++ wsX50 ++ wsX30)
def wsX5_car_r1 : List Cond := [Cond.fieldLink RX5 12 "BellCars" "text" "LBellCars$Text;", Cond.fieldLink RX5 23 "BellCars" "draft" "LBellCars$Told;", Cond.fieldLink RX5 19 "BellCars" "told" "LBellCars$Told;", Cond.fieldLink RX5 58 "BellCars$Text" "length" "I", Cond.fieldLink RX5 70 "BellCars$Told" "items" "I", Cond.methodLink RX5 62 yX3_readInto, Cond.instanceMethod yX3_readInto, Cond.selects RX3 yX3_readInto yX3_readInto, Cond.initialized RX3, Cond.code yX3_readInto cX3_readInto 3 (some .int), Cond.fieldLink RX3 19 "BellCars$Text" "at" "I", Cond.fieldLink RX3 22 "BellCars$Text" "lineTold" "Z", Cond.fieldLink RX3 34 "BellCars$Text" "sort" "I", Cond.fieldLink RX3 41 "BellCars$Text" "start" "I", Cond.methodLink RX3 26 yX4_forgetAll, Cond.instanceMethod yX4_forgetAll, Cond.selects RX4 yX4_forgetAll yX4_forgetAll, Cond.initialized RX4, Cond.code yX4_forgetAll cX4_forgetAll 1 none, Cond.fieldLink RX4 25 "BellCars$Told" "riders" "I", Cond.fieldLink RX4 28 "BellCars$Told" "items" "I", Cond.fieldLink RX4 9 "BellCars$Told" "line" "I", Cond.methodLink RX3 31 yX3_advance, Cond.instanceMethod yX3_advance]
def wsX5_car_r2 : List Cond := [Cond.selects RX3 yX3_advance yX3_advance, Cond.code yX3_advance cX3_advance 2 none, Cond.fieldLink RX3 44 "BellCars$Text" "value" "I", Cond.fieldLink RX3 15 "BellCars$Text" "length" "I", Cond.fieldLink RX3 9 "BellCars$Text" "bytes" "[I", Cond.methodLink RX3 79 yX3_passBytes, Cond.instanceMethod yX3_passBytes, Cond.selects RX3 yX3_passBytes yX3_passBytes, Cond.code yX3_passBytes cX3_passBytes 3 none, Cond.methodLink RX3 83 yX3_takeLetters, Cond.instanceMethod yX3_takeLetters, Cond.selects RX3 yX3_takeLetters yX3_takeLetters, Cond.code yX3_takeLetters cX3_takeLetters 2 none, Cond.methodLink RX3 87 yX3_takeNumber, Cond.instanceMethod yX3_takeNumber, Cond.selects RX3 yX3_takeNumber yX3_takeNumber, Cond.code yX3_takeNumber cX3_takeNumber 4 none, Cond.methodLink RX3 90 Lib.Math.min.name, Cond.static Lib.Math.min.name, Cond.initialized "java/lang/Math", Cond.code Lib.Math.min.name Lib.Math.min.code 2 (some .int), Cond.methodLink RX3 37 yX3_readItem, Cond.instanceMethod yX3_readItem, Cond.selects RX3 yX3_readItem yX3_readItem]
def wsX5_car_r3 : List Cond := [Cond.code yX3_readItem cX3_readItem 2 (some .boolean), Cond.fieldLink RX3 47 "BellCars$Told" "riders" "I", Cond.methodLink RX3 50 yX3_readRider, Cond.instanceMethod yX3_readRider, Cond.selects RX3 yX3_readRider yX3_readRider, Cond.code yX3_readRider cX3_readRider 3 (some .boolean), Cond.fieldLink RX3 64 "BellCars$Told" "seat" "[I", Cond.fieldLink RX3 67 "BellCars$Told" "looks" "[I", Cond.fieldLink RX3 70 "BellCars$Told" "law" "[I", Cond.methodLink RX3 60 yX3_comesNumber, Cond.instanceMethod yX3_comesNumber, Cond.selects RX3 yX3_comesNumber yX3_comesNumber, Cond.code yX3_comesNumber cX3_comesNumber 3 (some .boolean), Cond.methodLink RX3 54 yX3_comesEnd, Cond.instanceMethod yX3_comesEnd, Cond.selects RX3 yX3_comesEnd yX3_comesEnd, Cond.code yX3_comesEnd cX3_comesEnd 2 (some .boolean), Cond.fieldLink RX3 76 "BellCars$Told" "items" "I", Cond.methodLink RX3 57 yX3_readLine, Cond.instanceMethod yX3_readLine, Cond.selects RX3 yX3_readLine yX3_readLine, Cond.code yX3_readLine cX3_readLine 2 (some .boolean), Cond.fieldLink RX3 73 "BellCars$Told" "line" "I", Cond.methodLink RX5 66 yX4_copyFrom]
def wsX5_car_r4 : List Cond := [Cond.instanceMethod yX4_copyFrom, Cond.selects RX4 yX4_copyFrom yX4_copyFrom, Cond.code yX4_copyFrom cX4_copyFrom 2 none, Cond.fieldLink RX4 15 "BellCars$Told" "seat" "[I", Cond.methodLink RX4 31 arraycopyName, Cond.native arraycopyName, Cond.static arraycopyName, Cond.initialized "java/lang/System", Cond.fieldLink RX4 19 "BellCars$Told" "looks" "[I", Cond.fieldLink RX4 22 "BellCars$Told" "law" "[I", Cond.methodLink RX5 51 yX5_startAnew, Cond.instanceMethod yX5_startAnew, Cond.selects RX5 yX5_startAnew yX5_startAnew, Cond.initialized RX5, Cond.code yX5_startAnew cX5_startAnew 1 none, Cond.fieldLink RX5 29 "BellCars" "present" "LBellCars$Image;", Cond.fieldLink RX5 76 "BellCars$Image" "moment" "LBellCars$Moment;", Cond.fieldLink RX5 119 "BellCars$Image" "past" "LBellCars$Past;", Cond.fieldLink RX5 148 "BellCars$Past" "size" "I", Cond.fieldLink RX5 194 "BellCars" "seenCount" "I", Cond.fieldLink RX5 228 "BellCars" "imagesKept" "I", Cond.methodLink RX5 235 yX1_begin, Cond.instanceMethod yX1_begin, Cond.selects RX1 yX1_begin yX1_begin]
def wsX5_car_r5 : List Cond := [Cond.initialized RX1, Cond.code yX1_begin cX1_begin 3 none, Cond.fieldLink RX1 21 "BellCars$Moment" "stop" "I", Cond.fieldLink RX1 25 "BellCars$Told" "riders" "I", Cond.fieldLink RX1 30 "BellCars$Moment" "aboard" "I", Cond.fieldLink RX1 33 "BellCars$Moment" "thoughts" "I", Cond.fieldLink RX1 36 "BellCars$Moment" "lonely" "I", Cond.fieldLink RX1 39 "BellCars$Told" "seat" "[I", Cond.fieldLink RX1 9 "BellCars$Moment" "seat" "[I", Cond.methodLink RX1 40 arraycopyName, Cond.fieldLink RX1 15 "BellCars$Moment" "downAt" "[I", Cond.fieldLink RX1 18 "BellCars$Moment" "thoughtAt" "[I"]
def wsX5_car : List Cond := .code yX5_car cX5_car 2 (some .int) :: ((wsX5_car_r1 ++ (wsX5_car_r2 ++ (wsX5_car_r3 ++ (wsX5_car_r4 ++ wsX5_car_r5)))) ++ wsX50 ++ wsX30 ++ wsX40 ++ wsX00 ++ wsX20 ++ wsX10)
def wsX5_isRider : List Cond := .code yX5_isRider cX5_isRider 2 (some .boolean) :: ([.fieldLink RX5 19 "BellCars" "told" "LBellCars$Told;", .fieldLink RX5 200 "BellCars$Told" "riders" "I"] ++ wsX50 ++ wsX40)
def wsX5_nearest : List Cond := .code yX5_nearest cX5_nearest 8 (some .int) :: ([.fieldLink RX5 19 "BellCars" "told" "LBellCars$Told;", .fieldLink RX5 200 "BellCars$Told" "riders" "I", .fieldLink RX5 79 "BellCars$Moment" "seat" "[I", .methodLink RX5 244 Lib.Math.abs.name, .static Lib.Math.abs.name, .initialized "java/lang/Math", .code Lib.Math.abs.name Lib.Math.abs.code 1 (some .int), .methodLink RX5 88 yX1_isAboard, .instanceMethod yX1_isAboard, .selects RX1 yX1_isAboard yX1_isAboard, .initialized RX1, .code yX1_isAboard cX1_isAboard 2 (some .boolean), .fieldLink RX1 30 "BellCars$Moment" "aboard" "I"] ++ wsX50 ++ wsX40 ++ wsX10)
def wsX5_fairest : List Cond := .code yX5_fairest cX5_fairest 7 (some .int) :: ([.fieldLink RX5 19 "BellCars" "told" "LBellCars$Told;", .fieldLink RX5 200 "BellCars$Told" "riders" "I", .fieldLink RX5 82 "BellCars$Told" "looks" "[I", .methodLink RX5 88 yX1_isAboard, .instanceMethod yX1_isAboard, .selects RX1 yX1_isAboard yX1_isAboard, .initialized RX1, .code yX1_isAboard cX1_isAboard 2 (some .boolean), .fieldLink RX1 30 "BellCars$Moment" "aboard" "I"] ++ wsX50 ++ wsX40 ++ wsX10)
def wsX5_nextAboard : List Cond := .code yX5_nextAboard cX5_nextAboard 5 (some .int) :: ([.fieldLink RX5 19 "BellCars" "told" "LBellCars$Told;", .fieldLink RX5 200 "BellCars$Told" "riders" "I", .methodLink RX5 88 yX1_isAboard, .instanceMethod yX1_isAboard, .selects RX1 yX1_isAboard yX1_isAboard, .initialized RX1, .code yX1_isAboard cX1_isAboard 2 (some .boolean), .fieldLink RX1 30 "BellCars$Moment" "aboard" "I"] ++ wsX50 ++ wsX40 ++ wsX10)
def wsX5_whom_r1 : List Cond := [Cond.fieldLink RX5 79 "BellCars$Moment" "seat" "[I", Cond.methodLink RX5 88 yX1_isAboard, Cond.instanceMethod yX1_isAboard, Cond.selects RX1 yX1_isAboard yX1_isAboard, Cond.initialized RX1, Cond.code yX1_isAboard cX1_isAboard 2 (some .boolean), Cond.fieldLink RX1 30 "BellCars$Moment" "aboard" "I", Cond.methodLink RX5 191 yX5_nearest, Cond.instanceMethod yX5_nearest, Cond.selects RX5 yX5_nearest yX5_nearest, Cond.initialized RX5, Cond.code yX5_nearest cX5_nearest 8 (some .int), Cond.fieldLink RX5 19 "BellCars" "told" "LBellCars$Told;", Cond.fieldLink RX5 200 "BellCars$Told" "riders" "I", Cond.methodLink RX5 244 Lib.Math.abs.name, Cond.static Lib.Math.abs.name, Cond.initialized "java/lang/Math", Cond.code Lib.Math.abs.name Lib.Math.abs.code 1 (some .int), Cond.methodLink RX5 238 yX5_fairest, Cond.instanceMethod yX5_fairest, Cond.selects RX5 yX5_fairest yX5_fairest, Cond.code yX5_fairest cX5_fairest 7 (some .int), Cond.fieldLink RX5 82 "BellCars$Told" "looks" "[I", Cond.methodLink RX5 241 yX5_nextAboard]
def wsX5_whom_r2 : List Cond := [Cond.instanceMethod yX5_nextAboard, Cond.selects RX5 yX5_nextAboard yX5_nextAboard, Cond.code yX5_nextAboard cX5_nextAboard 5 (some .int)]
def wsX5_whom : List Cond := .code yX5_whom cX5_whom 4 (some .int) :: ((wsX5_whom_r1 ++ wsX5_whom_r2) ++ wsX10 ++ wsX50 ++ wsX40)
def wsX5_downByRing : List Cond := .code yX5_downByRing cX5_downByRing 8 (some .int) :: ([.fieldLink RX5 19 "BellCars" "told" "LBellCars$Told;", .fieldLink RX5 200 "BellCars$Told" "riders" "I", .methodLink RX5 112 yX1_thoughtOf, .instanceMethod yX1_thoughtOf, .selects RX1 yX1_thoughtOf yX1_thoughtOf, .initialized RX1, .code yX1_thoughtOf cX1_thoughtOf 3 (some .int), .fieldLink RX1 18 "BellCars$Moment" "thoughtAt" "[I"] ++ wsX50 ++ wsX40 ++ wsX10)
def wsX5_downByDoubleRing : List Cond := .code yX5_downByDoubleRing cX5_downByDoubleRing 7 (some .int) :: ([.fieldLink RX5 19 "BellCars" "told" "LBellCars$Told;", .fieldLink RX5 200 "BellCars$Told" "riders" "I", .methodLink RX5 112 yX1_thoughtOf, .instanceMethod yX1_thoughtOf, .selects RX1 yX1_thoughtOf yX1_thoughtOf, .initialized RX1, .code yX1_thoughtOf cX1_thoughtOf 3 (some .int), .fieldLink RX1 18 "BellCars$Moment" "thoughtAt" "[I", .methodLink RX5 88 yX1_isAboard, .instanceMethod yX1_isAboard, .selects RX1 yX1_isAboard yX1_isAboard, .code yX1_isAboard cX1_isAboard 2 (some .boolean), .fieldLink RX1 30 "BellCars$Moment" "aboard" "I"] ++ wsX50 ++ wsX40 ++ wsX10)
def wsX5_rider_r1 : List Cond := [Cond.fieldLink RX5 29 "BellCars" "present" "LBellCars$Image;", Cond.fieldLink RX5 76 "BellCars$Image" "moment" "LBellCars$Moment;", Cond.fieldLink RX5 79 "BellCars$Moment" "seat" "[I", Cond.fieldLink RX5 19 "BellCars" "told" "LBellCars$Told;", Cond.fieldLink RX5 82 "BellCars$Told" "looks" "[I", Cond.fieldLink RX5 85 "BellCars$Told" "law" "[I", Cond.fieldLink RX5 91 "BellCars$Moment" "downAt" "[I", Cond.fieldLink RX5 98 "BellCars$Moment" "aboard" "I", Cond.methodLink RX5 73 yX5_isRider, Cond.instanceMethod yX5_isRider, Cond.selects RX5 yX5_isRider yX5_isRider, Cond.initialized RX5, Cond.code yX5_isRider cX5_isRider 2 (some .boolean), Cond.fieldLink RX5 200 "BellCars$Told" "riders" "I", Cond.methodLink RX5 88 yX1_isAboard, Cond.instanceMethod yX1_isAboard, Cond.selects RX1 yX1_isAboard yX1_isAboard, Cond.initialized RX1, Cond.code yX1_isAboard cX1_isAboard 2 (some .boolean), Cond.fieldLink RX1 30 "BellCars$Moment" "aboard" "I", Cond.methodLink RX5 94 yX5_whom, Cond.instanceMethod yX5_whom, Cond.selects RX5 yX5_whom yX5_whom, Cond.code yX5_whom cX5_whom 4 (some .int)]
def wsX5_rider_r2 : List Cond := [Cond.methodLink RX5 191 yX5_nearest, Cond.instanceMethod yX5_nearest, Cond.selects RX5 yX5_nearest yX5_nearest, Cond.code yX5_nearest cX5_nearest 8 (some .int), Cond.methodLink RX5 244 Lib.Math.abs.name, Cond.static Lib.Math.abs.name, Cond.initialized "java/lang/Math", Cond.code Lib.Math.abs.name Lib.Math.abs.code 1 (some .int), Cond.methodLink RX5 238 yX5_fairest, Cond.instanceMethod yX5_fairest, Cond.selects RX5 yX5_fairest yX5_fairest, Cond.code yX5_fairest cX5_fairest 7 (some .int), Cond.methodLink RX5 241 yX5_nextAboard, Cond.instanceMethod yX5_nextAboard, Cond.selects RX5 yX5_nextAboard yX5_nextAboard, Cond.code yX5_nextAboard cX5_nextAboard 5 (some .int), Cond.methodLink RX5 101 yX5_downByRing, Cond.instanceMethod yX5_downByRing, Cond.selects RX5 yX5_downByRing yX5_downByRing, Cond.code yX5_downByRing cX5_downByRing 8 (some .int), Cond.methodLink RX5 112 yX1_thoughtOf, Cond.instanceMethod yX1_thoughtOf, Cond.selects RX1 yX1_thoughtOf yX1_thoughtOf, Cond.code yX1_thoughtOf cX1_thoughtOf 3 (some .int)]
def wsX5_rider_r3 : List Cond := [Cond.fieldLink RX1 18 "BellCars$Moment" "thoughtAt" "[I", Cond.methodLink RX5 104 yX5_downByDoubleRing, Cond.instanceMethod yX5_downByDoubleRing, Cond.selects RX5 yX5_downByDoubleRing yX5_downByDoubleRing, Cond.code yX5_downByDoubleRing cX5_downByDoubleRing 7 (some .int)]
def wsX5_rider : List Cond := .code yX5_rider cX5_rider 4 (some .int) :: ((wsX5_rider_r1 ++ (wsX5_rider_r2 ++ wsX5_rider_r3)) ++ wsX50 ++ wsX00 ++ wsX10 ++ wsX40)
def wsX5_isPair : List Cond := .code yX5_isPair cX5_isPair 3 (some .boolean) :: ([.methodLink RX5 73 yX5_isRider, .instanceMethod yX5_isRider, .selects RX5 yX5_isRider yX5_isRider, .initialized RX5, .code yX5_isRider cX5_isRider 2 (some .boolean), .fieldLink RX5 19 "BellCars" "told" "LBellCars$Told;", .fieldLink RX5 200 "BellCars$Told" "riders" "I"] ++ wsX50 ++ wsX40)
def wsX5_latest : List Cond := .code yX5_latest cX5_latest 3 (some .int) :: ([.fieldLink RX5 29 "BellCars" "present" "LBellCars$Image;", .fieldLink RX5 76 "BellCars$Image" "moment" "LBellCars$Moment;", .methodLink RX5 108 yX5_isPair, .instanceMethod yX5_isPair, .selects RX5 yX5_isPair yX5_isPair, .initialized RX5, .code yX5_isPair cX5_isPair 3 (some .boolean), .methodLink RX5 73 yX5_isRider, .instanceMethod yX5_isRider, .selects RX5 yX5_isRider yX5_isRider, .code yX5_isRider cX5_isRider 2 (some .boolean), .fieldLink RX5 19 "BellCars" "told" "LBellCars$Told;", .fieldLink RX5 200 "BellCars$Told" "riders" "I", .methodLink RX5 112 yX1_thoughtOf, .instanceMethod yX1_thoughtOf, .selects RX1 yX1_thoughtOf yX1_thoughtOf, .initialized RX1, .code yX1_thoughtOf cX1_thoughtOf 3 (some .int), .fieldLink RX1 18 "BellCars$Moment" "thoughtAt" "[I"] ++ wsX50 ++ wsX00 ++ wsX40 ++ wsX10)
def wsX5_ride_r1 : List Cond := [Cond.fieldLink RX5 116 "BellCars$Moment" "stop" "I", Cond.fieldLink RX5 19 "BellCars" "told" "LBellCars$Told;", Cond.fieldLink RX5 200 "BellCars$Told" "riders" "I", Cond.fieldLink RX5 85 "BellCars$Told" "law" "[I", Cond.methodLink RX5 94 yX5_whom, Cond.instanceMethod yX5_whom, Cond.selects RX5 yX5_whom yX5_whom, Cond.initialized RX5, Cond.code yX5_whom cX5_whom 4 (some .int), Cond.fieldLink RX5 79 "BellCars$Moment" "seat" "[I", Cond.methodLink RX5 88 yX1_isAboard, Cond.instanceMethod yX1_isAboard, Cond.selects RX1 yX1_isAboard yX1_isAboard, Cond.initialized RX1, Cond.code yX1_isAboard cX1_isAboard 2 (some .boolean), Cond.fieldLink RX1 30 "BellCars$Moment" "aboard" "I", Cond.methodLink RX5 191 yX5_nearest, Cond.instanceMethod yX5_nearest, Cond.selects RX5 yX5_nearest yX5_nearest, Cond.code yX5_nearest cX5_nearest 8 (some .int), Cond.methodLink RX5 244 Lib.Math.abs.name, Cond.static Lib.Math.abs.name, Cond.initialized "java/lang/Math", Cond.code Lib.Math.abs.name Lib.Math.abs.code 1 (some .int)]
def wsX5_ride_r2 : List Cond := [Cond.methodLink RX5 238 yX5_fairest, Cond.instanceMethod yX5_fairest, Cond.selects RX5 yX5_fairest yX5_fairest, Cond.code yX5_fairest cX5_fairest 7 (some .int), Cond.fieldLink RX5 82 "BellCars$Told" "looks" "[I", Cond.methodLink RX5 241 yX5_nextAboard, Cond.instanceMethod yX5_nextAboard, Cond.selects RX5 yX5_nextAboard yX5_nextAboard, Cond.code yX5_nextAboard cX5_nextAboard 5 (some .int), Cond.methodLink RX5 132 yX1_think, Cond.instanceMethod yX1_think, Cond.selects RX1 yX1_think yX1_think, Cond.code yX1_think cX1_think 3 none, Cond.fieldLink RX1 33 "BellCars$Moment" "thoughts" "I", Cond.fieldLink RX1 18 "BellCars$Moment" "thoughtAt" "[I"]
def wsX5_ride : List Cond := .code yX5_ride cX5_ride 4 none :: ((wsX5_ride_r1 ++ wsX5_ride_r2) ++ wsX10 ++ wsX50 ++ wsX40)
def wsX5_rides_r1 : List Cond := [Cond.fieldLink RX5 29 "BellCars" "present" "LBellCars$Image;", Cond.fieldLink RX5 76 "BellCars$Image" "moment" "LBellCars$Moment;", Cond.fieldLink RX5 116 "BellCars$Moment" "stop" "I", Cond.fieldLink RX5 119 "BellCars$Image" "past" "LBellCars$Past;", Cond.methodLink RX5 123 yX2_push, Cond.instanceMethod yX2_push, Cond.selects RX2 yX2_push yX2_push, Cond.initialized RX2, Cond.code yX2_push cX2_push 2 none, Cond.fieldLink RX2 11 "BellCars$Past" "moments" "[LBellCars$Moment;", Cond.fieldLink RX2 18 "BellCars$Past" "size" "I", Cond.fieldLink RX2 30 "BellCars$Past" "oldest" "I", Cond.methodLink RX2 22 yX2_placeOf, Cond.instanceMethod yX2_placeOf, Cond.selects RX2 yX2_placeOf yX2_placeOf, Cond.code yX2_placeOf cX2_placeOf 2 (some .int), Cond.methodLink RX2 26 yX1_copyFrom, Cond.instanceMethod yX1_copyFrom, Cond.selects RX1 yX1_copyFrom yX1_copyFrom, Cond.initialized RX1, Cond.code yX1_copyFrom cX1_copyFrom 2 none, Cond.fieldLink RX1 21 "BellCars$Moment" "stop" "I", Cond.fieldLink RX1 30 "BellCars$Moment" "aboard" "I", Cond.fieldLink RX1 33 "BellCars$Moment" "thoughts" "I"]
def wsX5_rides_r2 : List Cond := [Cond.fieldLink RX1 36 "BellCars$Moment" "lonely" "I", Cond.fieldLink RX1 9 "BellCars$Moment" "seat" "[I", Cond.methodLink RX1 40 arraycopyName, Cond.native arraycopyName, Cond.static arraycopyName, Cond.initialized "java/lang/System", Cond.fieldLink RX1 15 "BellCars$Moment" "downAt" "[I", Cond.fieldLink RX1 18 "BellCars$Moment" "thoughtAt" "[I", Cond.methodLink RX5 129 yX5_ride, Cond.instanceMethod yX5_ride, Cond.selects RX5 yX5_ride yX5_ride, Cond.initialized RX5, Cond.code yX5_ride cX5_ride 4 none, Cond.fieldLink RX5 19 "BellCars" "told" "LBellCars$Told;", Cond.fieldLink RX5 200 "BellCars$Told" "riders" "I", Cond.fieldLink RX5 85 "BellCars$Told" "law" "[I", Cond.methodLink RX5 94 yX5_whom, Cond.instanceMethod yX5_whom, Cond.selects RX5 yX5_whom yX5_whom, Cond.code yX5_whom cX5_whom 4 (some .int), Cond.fieldLink RX5 79 "BellCars$Moment" "seat" "[I", Cond.methodLink RX5 88 yX1_isAboard, Cond.instanceMethod yX1_isAboard, Cond.selects RX1 yX1_isAboard yX1_isAboard]
def wsX5_rides_r3 : List Cond := [Cond.code yX1_isAboard cX1_isAboard 2 (some .boolean), Cond.methodLink RX5 191 yX5_nearest, Cond.instanceMethod yX5_nearest, Cond.selects RX5 yX5_nearest yX5_nearest, Cond.code yX5_nearest cX5_nearest 8 (some .int), Cond.methodLink RX5 244 Lib.Math.abs.name, Cond.static Lib.Math.abs.name, Cond.initialized "java/lang/Math", Cond.code Lib.Math.abs.name Lib.Math.abs.code 1 (some .int), Cond.methodLink RX5 238 yX5_fairest, Cond.instanceMethod yX5_fairest, Cond.selects RX5 yX5_fairest yX5_fairest, Cond.code yX5_fairest cX5_fairest 7 (some .int), Cond.fieldLink RX5 82 "BellCars$Told" "looks" "[I", Cond.methodLink RX5 241 yX5_nextAboard, Cond.instanceMethod yX5_nextAboard, Cond.selects RX5 yX5_nextAboard yX5_nextAboard, Cond.code yX5_nextAboard cX5_nextAboard 5 (some .int), Cond.methodLink RX5 132 yX1_think, Cond.instanceMethod yX1_think, Cond.selects RX1 yX1_think yX1_think, Cond.code yX1_think cX1_think 3 none]
def wsX5_rides : List Cond := .code yX5_rides cX5_rides 2 (some .int) :: ((wsX5_rides_r1 ++ (wsX5_rides_r2 ++ wsX5_rides_r3)) ++ wsX50 ++ wsX00 ++ wsX10 ++ wsX20 ++ wsX40)
def wsX5_thinks_r1 : List Cond := [Cond.fieldLink RX5 29 "BellCars" "present" "LBellCars$Image;", Cond.fieldLink RX5 76 "BellCars$Image" "moment" "LBellCars$Moment;", Cond.fieldLink RX5 119 "BellCars$Image" "past" "LBellCars$Past;", Cond.fieldLink RX5 136 "BellCars$Moment" "thoughts" "I", Cond.methodLink RX5 108 yX5_isPair, Cond.instanceMethod yX5_isPair, Cond.selects RX5 yX5_isPair yX5_isPair, Cond.initialized RX5, Cond.code yX5_isPair cX5_isPair 3 (some .boolean), Cond.methodLink RX5 73 yX5_isRider, Cond.instanceMethod yX5_isRider, Cond.selects RX5 yX5_isRider yX5_isRider, Cond.code yX5_isRider cX5_isRider 2 (some .boolean), Cond.fieldLink RX5 19 "BellCars" "told" "LBellCars$Told;", Cond.fieldLink RX5 200 "BellCars$Told" "riders" "I", Cond.methodLink RX5 88 yX1_isAboard, Cond.instanceMethod yX1_isAboard, Cond.selects RX1 yX1_isAboard yX1_isAboard, Cond.initialized RX1, Cond.code yX1_isAboard cX1_isAboard 2 (some .boolean), Cond.fieldLink RX1 30 "BellCars$Moment" "aboard" "I", Cond.methodLink RX5 123 yX2_push, Cond.instanceMethod yX2_push, Cond.selects RX2 yX2_push yX2_push]
def wsX5_thinks_r2 : List Cond := [Cond.initialized RX2, Cond.code yX2_push cX2_push 2 none, Cond.fieldLink RX2 11 "BellCars$Past" "moments" "[LBellCars$Moment;", Cond.fieldLink RX2 18 "BellCars$Past" "size" "I", Cond.fieldLink RX2 30 "BellCars$Past" "oldest" "I", Cond.methodLink RX2 22 yX2_placeOf, Cond.instanceMethod yX2_placeOf, Cond.selects RX2 yX2_placeOf yX2_placeOf, Cond.code yX2_placeOf cX2_placeOf 2 (some .int), Cond.methodLink RX2 26 yX1_copyFrom, Cond.instanceMethod yX1_copyFrom, Cond.selects RX1 yX1_copyFrom yX1_copyFrom, Cond.code yX1_copyFrom cX1_copyFrom 2 none, Cond.fieldLink RX1 21 "BellCars$Moment" "stop" "I", Cond.fieldLink RX1 33 "BellCars$Moment" "thoughts" "I", Cond.fieldLink RX1 36 "BellCars$Moment" "lonely" "I", Cond.fieldLink RX1 9 "BellCars$Moment" "seat" "[I", Cond.methodLink RX1 40 arraycopyName, Cond.native arraycopyName, Cond.static arraycopyName, Cond.initialized "java/lang/System", Cond.fieldLink RX1 15 "BellCars$Moment" "downAt" "[I", Cond.fieldLink RX1 18 "BellCars$Moment" "thoughtAt" "[I", Cond.methodLink RX5 132 yX1_think]
def wsX5_thinks_r3 : List Cond := [Cond.instanceMethod yX1_think, Cond.selects RX1 yX1_think yX1_think, Cond.code yX1_think cX1_think 3 none]
def wsX5_thinks : List Cond := .code yX5_thinks cX5_thinks 4 (some .int) :: ((wsX5_thinks_r1 ++ (wsX5_thinks_r2 ++ wsX5_thinks_r3)) ++ wsX50 ++ wsX00 ++ wsX10 ++ wsX40 ++ wsX20)
def wsX5_rings_r1 : List Cond := [Cond.fieldLink RX5 29 "BellCars" "present" "LBellCars$Image;", Cond.fieldLink RX5 76 "BellCars$Image" "moment" "LBellCars$Moment;", Cond.fieldLink RX5 119 "BellCars$Image" "past" "LBellCars$Past;", Cond.fieldLink RX5 98 "BellCars$Moment" "aboard" "I", Cond.methodLink RX5 73 yX5_isRider, Cond.instanceMethod yX5_isRider, Cond.selects RX5 yX5_isRider yX5_isRider, Cond.initialized RX5, Cond.code yX5_isRider cX5_isRider 2 (some .boolean), Cond.fieldLink RX5 19 "BellCars" "told" "LBellCars$Told;", Cond.fieldLink RX5 200 "BellCars$Told" "riders" "I", Cond.methodLink RX5 88 yX1_isAboard, Cond.instanceMethod yX1_isAboard, Cond.selects RX1 yX1_isAboard yX1_isAboard, Cond.initialized RX1, Cond.code yX1_isAboard cX1_isAboard 2 (some .boolean), Cond.fieldLink RX1 30 "BellCars$Moment" "aboard" "I", Cond.methodLink RX5 123 yX2_push, Cond.instanceMethod yX2_push, Cond.selects RX2 yX2_push yX2_push, Cond.initialized RX2, Cond.code yX2_push cX2_push 2 none, Cond.fieldLink RX2 11 "BellCars$Past" "moments" "[LBellCars$Moment;", Cond.fieldLink RX2 18 "BellCars$Past" "size" "I"]
def wsX5_rings_r2 : List Cond := [Cond.fieldLink RX2 30 "BellCars$Past" "oldest" "I", Cond.methodLink RX2 22 yX2_placeOf, Cond.instanceMethod yX2_placeOf, Cond.selects RX2 yX2_placeOf yX2_placeOf, Cond.code yX2_placeOf cX2_placeOf 2 (some .int), Cond.methodLink RX2 26 yX1_copyFrom, Cond.instanceMethod yX1_copyFrom, Cond.selects RX1 yX1_copyFrom yX1_copyFrom, Cond.code yX1_copyFrom cX1_copyFrom 2 none, Cond.fieldLink RX1 21 "BellCars$Moment" "stop" "I", Cond.fieldLink RX1 33 "BellCars$Moment" "thoughts" "I", Cond.fieldLink RX1 36 "BellCars$Moment" "lonely" "I", Cond.fieldLink RX1 9 "BellCars$Moment" "seat" "[I", Cond.methodLink RX1 40 arraycopyName, Cond.native arraycopyName, Cond.static arraycopyName, Cond.initialized "java/lang/System", Cond.fieldLink RX1 15 "BellCars$Moment" "downAt" "[I", Cond.fieldLink RX1 18 "BellCars$Moment" "thoughtAt" "[I", Cond.methodLink RX5 101 yX5_downByRing, Cond.instanceMethod yX5_downByRing, Cond.selects RX5 yX5_downByRing yX5_downByRing, Cond.code yX5_downByRing cX5_downByRing 8 (some .int), Cond.methodLink RX5 112 yX1_thoughtOf]
def wsX5_rings_r3 : List Cond := [Cond.instanceMethod yX1_thoughtOf, Cond.selects RX1 yX1_thoughtOf yX1_thoughtOf, Cond.code yX1_thoughtOf cX1_thoughtOf 3 (some .int), Cond.methodLink RX5 139 yX1_getDown, Cond.instanceMethod yX1_getDown, Cond.selects RX1 yX1_getDown yX1_getDown, Cond.code yX1_getDown cX1_getDown 2 (some .int)]
def wsX5_rings : List Cond := .code yX5_rings cX5_rings 3 (some .int) :: ((wsX5_rings_r1 ++ (wsX5_rings_r2 ++ wsX5_rings_r3)) ++ wsX50 ++ wsX00 ++ wsX10 ++ wsX40 ++ wsX20)
def wsX5_twice_r1 : List Cond := [Cond.fieldLink RX5 29 "BellCars" "present" "LBellCars$Image;", Cond.fieldLink RX5 76 "BellCars$Image" "moment" "LBellCars$Moment;", Cond.fieldLink RX5 119 "BellCars$Image" "past" "LBellCars$Past;", Cond.methodLink RX5 73 yX5_isRider, Cond.instanceMethod yX5_isRider, Cond.selects RX5 yX5_isRider yX5_isRider, Cond.initialized RX5, Cond.code yX5_isRider cX5_isRider 2 (some .boolean), Cond.fieldLink RX5 19 "BellCars" "told" "LBellCars$Told;", Cond.fieldLink RX5 200 "BellCars$Told" "riders" "I", Cond.methodLink RX5 88 yX1_isAboard, Cond.instanceMethod yX1_isAboard, Cond.selects RX1 yX1_isAboard yX1_isAboard, Cond.initialized RX1, Cond.code yX1_isAboard cX1_isAboard 2 (some .boolean), Cond.fieldLink RX1 30 "BellCars$Moment" "aboard" "I", Cond.methodLink RX5 123 yX2_push, Cond.instanceMethod yX2_push, Cond.selects RX2 yX2_push yX2_push, Cond.initialized RX2, Cond.code yX2_push cX2_push 2 none, Cond.fieldLink RX2 11 "BellCars$Past" "moments" "[LBellCars$Moment;", Cond.fieldLink RX2 18 "BellCars$Past" "size" "I", Cond.fieldLink RX2 30 "BellCars$Past" "oldest" "I"]
def wsX5_twice_r2 : List Cond := [Cond.methodLink RX2 22 yX2_placeOf, Cond.instanceMethod yX2_placeOf, Cond.selects RX2 yX2_placeOf yX2_placeOf, Cond.code yX2_placeOf cX2_placeOf 2 (some .int), Cond.methodLink RX2 26 yX1_copyFrom, Cond.instanceMethod yX1_copyFrom, Cond.selects RX1 yX1_copyFrom yX1_copyFrom, Cond.code yX1_copyFrom cX1_copyFrom 2 none, Cond.fieldLink RX1 21 "BellCars$Moment" "stop" "I", Cond.fieldLink RX1 33 "BellCars$Moment" "thoughts" "I", Cond.fieldLink RX1 36 "BellCars$Moment" "lonely" "I", Cond.fieldLink RX1 9 "BellCars$Moment" "seat" "[I", Cond.methodLink RX1 40 arraycopyName, Cond.native arraycopyName, Cond.static arraycopyName, Cond.initialized "java/lang/System", Cond.fieldLink RX1 15 "BellCars$Moment" "downAt" "[I", Cond.fieldLink RX1 18 "BellCars$Moment" "thoughtAt" "[I", Cond.methodLink RX5 104 yX5_downByDoubleRing, Cond.instanceMethod yX5_downByDoubleRing, Cond.selects RX5 yX5_downByDoubleRing yX5_downByDoubleRing, Cond.code yX5_downByDoubleRing cX5_downByDoubleRing 7 (some .int), Cond.methodLink RX5 112 yX1_thoughtOf, Cond.instanceMethod yX1_thoughtOf]
def wsX5_twice_r3 : List Cond := [Cond.selects RX1 yX1_thoughtOf yX1_thoughtOf, Cond.code yX1_thoughtOf cX1_thoughtOf 3 (some .int), Cond.methodLink RX5 139 yX1_getDown, Cond.instanceMethod yX1_getDown, Cond.selects RX1 yX1_getDown yX1_getDown, Cond.code yX1_getDown cX1_getDown 2 (some .int)]
def wsX5_twice : List Cond := .code yX5_twice cX5_twice 3 (some .int) :: ((wsX5_twice_r1 ++ (wsX5_twice_r2 ++ wsX5_twice_r3)) ++ wsX50 ++ wsX00 ++ wsX40 ++ wsX10 ++ wsX20)
def wsX5_seats_r1 : List Cond := [Cond.fieldLink RX5 29 "BellCars" "present" "LBellCars$Image;", Cond.fieldLink RX5 76 "BellCars$Image" "moment" "LBellCars$Moment;", Cond.fieldLink RX5 79 "BellCars$Moment" "seat" "[I", Cond.fieldLink RX5 119 "BellCars$Image" "past" "LBellCars$Past;", Cond.methodLink RX5 73 yX5_isRider, Cond.instanceMethod yX5_isRider, Cond.selects RX5 yX5_isRider yX5_isRider, Cond.initialized RX5, Cond.code yX5_isRider cX5_isRider 2 (some .boolean), Cond.fieldLink RX5 19 "BellCars" "told" "LBellCars$Told;", Cond.fieldLink RX5 200 "BellCars$Told" "riders" "I", Cond.methodLink RX5 88 yX1_isAboard, Cond.instanceMethod yX1_isAboard, Cond.selects RX1 yX1_isAboard yX1_isAboard, Cond.initialized RX1, Cond.code yX1_isAboard cX1_isAboard 2 (some .boolean), Cond.fieldLink RX1 30 "BellCars$Moment" "aboard" "I", Cond.methodLink RX5 123 yX2_push, Cond.instanceMethod yX2_push, Cond.selects RX2 yX2_push yX2_push, Cond.initialized RX2, Cond.code yX2_push cX2_push 2 none, Cond.fieldLink RX2 11 "BellCars$Past" "moments" "[LBellCars$Moment;", Cond.fieldLink RX2 18 "BellCars$Past" "size" "I"]
def wsX5_seats_r2 : List Cond := [Cond.fieldLink RX2 30 "BellCars$Past" "oldest" "I", Cond.methodLink RX2 22 yX2_placeOf, Cond.instanceMethod yX2_placeOf, Cond.selects RX2 yX2_placeOf yX2_placeOf, Cond.code yX2_placeOf cX2_placeOf 2 (some .int), Cond.methodLink RX2 26 yX1_copyFrom, Cond.instanceMethod yX1_copyFrom, Cond.selects RX1 yX1_copyFrom yX1_copyFrom, Cond.code yX1_copyFrom cX1_copyFrom 2 none, Cond.fieldLink RX1 21 "BellCars$Moment" "stop" "I", Cond.fieldLink RX1 33 "BellCars$Moment" "thoughts" "I", Cond.fieldLink RX1 36 "BellCars$Moment" "lonely" "I", Cond.fieldLink RX1 9 "BellCars$Moment" "seat" "[I", Cond.methodLink RX1 40 arraycopyName, Cond.native arraycopyName, Cond.static arraycopyName, Cond.initialized "java/lang/System", Cond.fieldLink RX1 15 "BellCars$Moment" "downAt" "[I", Cond.fieldLink RX1 18 "BellCars$Moment" "thoughtAt" "[I"]
def wsX5_seats : List Cond := .code yX5_seats cX5_seats 5 (some .int) :: ((wsX5_seats_r1 ++ wsX5_seats_r2) ++ wsX50 ++ wsX00 ++ wsX10 ++ wsX40 ++ wsX20)
def wsJ6_bitCount_0f7a4 : List Cond := .code yJ6_bitCount_0f7a4 cJ6_bitCount_0f7a4 1 (some .int) :: ([.constant RJ6 265 (1431655765), .constant RJ6 266 (858993459), .constant RJ6 267 (252645135)])
def wsX5_boards_r1 : List Cond := [Cond.fieldLink RX5 29 "BellCars" "present" "LBellCars$Image;", Cond.fieldLink RX5 76 "BellCars$Image" "moment" "LBellCars$Moment;", Cond.fieldLink RX5 119 "BellCars$Image" "past" "LBellCars$Past;", Cond.fieldLink RX5 98 "BellCars$Moment" "aboard" "I", Cond.fieldLink RX5 91 "BellCars$Moment" "downAt" "[I", Cond.methodLink RX5 73 yX5_isRider, Cond.instanceMethod yX5_isRider, Cond.selects RX5 yX5_isRider yX5_isRider, Cond.initialized RX5, Cond.code yX5_isRider cX5_isRider 2 (some .boolean), Cond.fieldLink RX5 19 "BellCars" "told" "LBellCars$Told;", Cond.fieldLink RX5 200 "BellCars$Told" "riders" "I", Cond.methodLink RX5 88 yX1_isAboard, Cond.instanceMethod yX1_isAboard, Cond.selects RX1 yX1_isAboard yX1_isAboard, Cond.initialized RX1, Cond.code yX1_isAboard cX1_isAboard 2 (some .boolean), Cond.fieldLink RX1 30 "BellCars$Moment" "aboard" "I", Cond.methodLink RX5 123 yX2_push, Cond.instanceMethod yX2_push, Cond.selects RX2 yX2_push yX2_push, Cond.initialized RX2, Cond.code yX2_push cX2_push 2 none, Cond.fieldLink RX2 11 "BellCars$Past" "moments" "[LBellCars$Moment;"]
def wsX5_boards_r2 : List Cond := [Cond.fieldLink RX2 18 "BellCars$Past" "size" "I", Cond.fieldLink RX2 30 "BellCars$Past" "oldest" "I", Cond.methodLink RX2 22 yX2_placeOf, Cond.instanceMethod yX2_placeOf, Cond.selects RX2 yX2_placeOf yX2_placeOf, Cond.code yX2_placeOf cX2_placeOf 2 (some .int), Cond.methodLink RX2 26 yX1_copyFrom, Cond.instanceMethod yX1_copyFrom, Cond.selects RX1 yX1_copyFrom yX1_copyFrom, Cond.code yX1_copyFrom cX1_copyFrom 2 none, Cond.fieldLink RX1 21 "BellCars$Moment" "stop" "I", Cond.fieldLink RX1 33 "BellCars$Moment" "thoughts" "I", Cond.fieldLink RX1 36 "BellCars$Moment" "lonely" "I", Cond.fieldLink RX1 9 "BellCars$Moment" "seat" "[I", Cond.methodLink RX1 40 arraycopyName, Cond.native arraycopyName, Cond.static arraycopyName, Cond.initialized "java/lang/System", Cond.fieldLink RX1 15 "BellCars$Moment" "downAt" "[I", Cond.fieldLink RX1 18 "BellCars$Moment" "thoughtAt" "[I", Cond.methodLink RX5 143 yJ6_bitCount_0f7a4, Cond.static yJ6_bitCount_0f7a4, Cond.initialized RJ6, Cond.code yJ6_bitCount_0f7a4 cJ6_bitCount_0f7a4 1 (some .int)]
def wsX5_boards_r3 : List Cond := [Cond.constant RJ6 265 (1431655765), Cond.constant RJ6 266 (858993459), Cond.constant RJ6 267 (252645135)]
def wsX5_boards : List Cond := .code yX5_boards cX5_boards 3 (some .int) :: ((wsX5_boards_r1 ++ (wsX5_boards_r2 ++ wsX5_boards_r3)) ++ wsX50 ++ wsX00 ++ wsX10 ++ wsX40 ++ wsX20)
def wsX5_undo_r1 : List Cond := [Cond.fieldLink RX5 29 "BellCars" "present" "LBellCars$Image;", Cond.fieldLink RX5 119 "BellCars$Image" "past" "LBellCars$Past;", Cond.fieldLink RX5 148 "BellCars$Past" "size" "I", Cond.fieldLink RX5 76 "BellCars$Image" "moment" "LBellCars$Moment;", Cond.methodLink RX5 151 yX2_popInto, Cond.instanceMethod yX2_popInto, Cond.selects RX2 yX2_popInto yX2_popInto, Cond.initialized RX2, Cond.code yX2_popInto cX2_popInto 2 none, Cond.fieldLink RX2 18 "BellCars$Past" "size" "I", Cond.fieldLink RX2 11 "BellCars$Past" "moments" "[LBellCars$Moment;", Cond.methodLink RX2 22 yX2_placeOf, Cond.instanceMethod yX2_placeOf, Cond.selects RX2 yX2_placeOf yX2_placeOf, Cond.code yX2_placeOf cX2_placeOf 2 (some .int), Cond.fieldLink RX2 30 "BellCars$Past" "oldest" "I", Cond.methodLink RX2 26 yX1_copyFrom, Cond.instanceMethod yX1_copyFrom, Cond.selects RX1 yX1_copyFrom yX1_copyFrom, Cond.initialized RX1, Cond.code yX1_copyFrom cX1_copyFrom 2 none, Cond.fieldLink RX1 21 "BellCars$Moment" "stop" "I", Cond.fieldLink RX1 30 "BellCars$Moment" "aboard" "I", Cond.fieldLink RX1 33 "BellCars$Moment" "thoughts" "I"]
def wsX5_undo_r2 : List Cond := [Cond.fieldLink RX1 36 "BellCars$Moment" "lonely" "I", Cond.fieldLink RX1 9 "BellCars$Moment" "seat" "[I", Cond.methodLink RX1 40 arraycopyName, Cond.native arraycopyName, Cond.static arraycopyName, Cond.initialized "java/lang/System", Cond.fieldLink RX1 15 "BellCars$Moment" "downAt" "[I", Cond.fieldLink RX1 18 "BellCars$Moment" "thoughtAt" "[I"]
def wsX5_undo : List Cond := .code yX5_undo cX5_undo 1 (some .int) :: ((wsX5_undo_r1 ++ wsX5_undo_r2) ++ wsX50 ++ wsX00 ++ wsX20 ++ wsX10)
def wsX5_now : List Cond := .code yX5_now cX5_now 3 (some .int) :: ([.fieldLink RX5 29 "BellCars" "present" "LBellCars$Image;", .fieldLink RX5 76 "BellCars$Image" "moment" "LBellCars$Moment;", .fieldLink RX5 116 "BellCars$Moment" "stop" "I", .fieldLink RX5 98 "BellCars$Moment" "aboard" "I", .fieldLink RX5 136 "BellCars$Moment" "thoughts" "I", .fieldLink RX5 154 "BellCars$Moment" "lonely" "I", .fieldLink RX5 19 "BellCars" "told" "LBellCars$Told;", .fieldLink RX5 157 "BellCars$Told" "line" "I"] ++ wsX50 ++ wsX00 ++ wsX10 ++ wsX40)
def wsX5_downInRow : List Cond := .code yX5_downInRow cX5_downInRow 7 (some .int) :: ([.methodLink RX5 101 yX5_downByRing, .instanceMethod yX5_downByRing, .selects RX5 yX5_downByRing yX5_downByRing, .initialized RX5, .code yX5_downByRing cX5_downByRing 8 (some .int), .fieldLink RX5 19 "BellCars" "told" "LBellCars$Told;", .fieldLink RX5 200 "BellCars$Told" "riders" "I", .methodLink RX5 112 yX1_thoughtOf, .instanceMethod yX1_thoughtOf, .selects RX1 yX1_thoughtOf yX1_thoughtOf, .initialized RX1, .code yX1_thoughtOf cX1_thoughtOf 3 (some .int), .fieldLink RX1 18 "BellCars$Moment" "thoughtAt" "[I"] ++ wsX50 ++ wsX40 ++ wsX10)
def wsX5_rowsFrom : List Cond := .code yX5_rowsFrom cX5_rowsFrom 9 (some .int) :: ([.fieldLink RX5 19 "BellCars" "told" "LBellCars$Told;", .fieldLink RX5 200 "BellCars$Told" "riders" "I", .methodLink RX5 249 yX5_downInRow, .instanceMethod yX5_downInRow, .selects RX5 yX5_downInRow yX5_downInRow, .initialized RX5, .code yX5_downInRow cX5_downInRow 7 (some .int), .methodLink RX5 101 yX5_downByRing, .instanceMethod yX5_downByRing, .selects RX5 yX5_downByRing yX5_downByRing, .code yX5_downByRing cX5_downByRing 8 (some .int), .methodLink RX5 112 yX1_thoughtOf, .instanceMethod yX1_thoughtOf, .selects RX1 yX1_thoughtOf yX1_thoughtOf, .initialized RX1, .code yX1_thoughtOf cX1_thoughtOf 3 (some .int), .fieldLink RX1 18 "BellCars$Moment" "thoughtAt" "[I", .methodLink RX5 163 yX5_rowsFrom, .instanceMethod yX5_rowsFrom, .selects RX5 yX5_rowsFrom yX5_rowsFrom] ++ wsX50 ++ wsX40 ++ wsX10)
def wsX5_firstRinger : List Cond := .code yX5_firstRinger cX5_firstRinger 8 (some .int) :: ([.fieldLink RX5 19 "BellCars" "told" "LBellCars$Told;", .fieldLink RX5 200 "BellCars$Told" "riders" "I", .methodLink RX5 249 yX5_downInRow, .instanceMethod yX5_downInRow, .selects RX5 yX5_downInRow yX5_downInRow, .initialized RX5, .code yX5_downInRow cX5_downInRow 7 (some .int), .methodLink RX5 101 yX5_downByRing, .instanceMethod yX5_downByRing, .selects RX5 yX5_downByRing yX5_downByRing, .code yX5_downByRing cX5_downByRing 8 (some .int), .methodLink RX5 112 yX1_thoughtOf, .instanceMethod yX1_thoughtOf, .selects RX1 yX1_thoughtOf yX1_thoughtOf, .initialized RX1, .code yX1_thoughtOf cX1_thoughtOf 3 (some .int), .fieldLink RX1 18 "BellCars$Moment" "thoughtAt" "[I", .methodLink RX5 163 yX5_rowsFrom, .instanceMethod yX5_rowsFrom, .selects RX5 yX5_rowsFrom yX5_rowsFrom, .code yX5_rowsFrom cX5_rowsFrom 9 (some .int)] ++ wsX50 ++ wsX40 ++ wsX10)
def wsX5_ringerAt_r1 : List Cond := [Cond.fieldLink RX5 98 "BellCars$Moment" "aboard" "I", Cond.methodLink RX5 252 yX5_firstRinger, Cond.instanceMethod yX5_firstRinger, Cond.selects RX5 yX5_firstRinger yX5_firstRinger, Cond.initialized RX5, Cond.code yX5_firstRinger cX5_firstRinger 8 (some .int), Cond.fieldLink RX5 19 "BellCars" "told" "LBellCars$Told;", Cond.fieldLink RX5 200 "BellCars$Told" "riders" "I", Cond.methodLink RX5 249 yX5_downInRow, Cond.instanceMethod yX5_downInRow, Cond.selects RX5 yX5_downInRow yX5_downInRow, Cond.code yX5_downInRow cX5_downInRow 7 (some .int), Cond.methodLink RX5 101 yX5_downByRing, Cond.instanceMethod yX5_downByRing, Cond.selects RX5 yX5_downByRing yX5_downByRing, Cond.code yX5_downByRing cX5_downByRing 8 (some .int), Cond.methodLink RX5 112 yX1_thoughtOf, Cond.instanceMethod yX1_thoughtOf, Cond.selects RX1 yX1_thoughtOf yX1_thoughtOf, Cond.initialized RX1, Cond.code yX1_thoughtOf cX1_thoughtOf 3 (some .int), Cond.fieldLink RX1 18 "BellCars$Moment" "thoughtAt" "[I", Cond.methodLink RX5 163 yX5_rowsFrom, Cond.instanceMethod yX5_rowsFrom]
def wsX5_ringerAt_r2 : List Cond := [Cond.selects RX5 yX5_rowsFrom yX5_rowsFrom, Cond.code yX5_rowsFrom cX5_rowsFrom 9 (some .int)]
def wsX5_ringerAt : List Cond := .code yX5_ringerAt cX5_ringerAt 8 (some .int) :: ((wsX5_ringerAt_r1 ++ wsX5_ringerAt_r2) ++ wsX10 ++ wsX50 ++ wsX40)
def wsX5_row_r1 : List Cond := [Cond.fieldLink RX5 29 "BellCars" "present" "LBellCars$Image;", Cond.fieldLink RX5 76 "BellCars$Image" "moment" "LBellCars$Moment;", Cond.fieldLink RX5 98 "BellCars$Moment" "aboard" "I", Cond.methodLink RX5 160 yX1_areAboard, Cond.instanceMethod yX1_areAboard, Cond.selects RX1 yX1_areAboard yX1_areAboard, Cond.initialized RX1, Cond.code yX1_areAboard cX1_areAboard 2 (some .boolean), Cond.fieldLink RX1 30 "BellCars$Moment" "aboard" "I", Cond.methodLink RX5 163 yX5_rowsFrom, Cond.instanceMethod yX5_rowsFrom, Cond.selects RX5 yX5_rowsFrom yX5_rowsFrom, Cond.initialized RX5, Cond.code yX5_rowsFrom cX5_rowsFrom 9 (some .int), Cond.fieldLink RX5 19 "BellCars" "told" "LBellCars$Told;", Cond.fieldLink RX5 200 "BellCars$Told" "riders" "I", Cond.methodLink RX5 249 yX5_downInRow, Cond.instanceMethod yX5_downInRow, Cond.selects RX5 yX5_downInRow yX5_downInRow, Cond.code yX5_downInRow cX5_downInRow 7 (some .int), Cond.methodLink RX5 101 yX5_downByRing, Cond.instanceMethod yX5_downByRing, Cond.selects RX5 yX5_downByRing yX5_downByRing, Cond.code yX5_downByRing cX5_downByRing 8 (some .int)]
def wsX5_row_r2 : List Cond := [Cond.methodLink RX5 112 yX1_thoughtOf, Cond.instanceMethod yX1_thoughtOf, Cond.selects RX1 yX1_thoughtOf yX1_thoughtOf, Cond.code yX1_thoughtOf cX1_thoughtOf 3 (some .int), Cond.fieldLink RX1 18 "BellCars$Moment" "thoughtAt" "[I", Cond.methodLink RX5 167 yX5_ringerAt, Cond.instanceMethod yX5_ringerAt, Cond.selects RX5 yX5_ringerAt yX5_ringerAt, Cond.code yX5_ringerAt cX5_ringerAt 8 (some .int), Cond.methodLink RX5 252 yX5_firstRinger, Cond.instanceMethod yX5_firstRinger, Cond.selects RX5 yX5_firstRinger yX5_firstRinger, Cond.code yX5_firstRinger cX5_firstRinger 8 (some .int)]
def wsX5_row : List Cond := .code yX5_row cX5_row 4 (some .int) :: ((wsX5_row_r1 ++ wsX5_row_r2) ++ wsX50 ++ wsX00 ++ wsX10 ++ wsX40)
def wsX5_soon_r1 : List Cond := [Cond.fieldLink RX5 29 "BellCars" "present" "LBellCars$Image;", Cond.fieldLink RX5 76 "BellCars$Image" "moment" "LBellCars$Moment;", Cond.fieldLink RX5 98 "BellCars$Moment" "aboard" "I", Cond.fieldLink RX5 40 "BellCars" "ahead" "LBellCars$Moment;", Cond.methodLink RX5 160 yX1_areAboard, Cond.instanceMethod yX1_areAboard, Cond.selects RX1 yX1_areAboard yX1_areAboard, Cond.initialized RX1, Cond.code yX1_areAboard cX1_areAboard 2 (some .boolean), Cond.fieldLink RX1 30 "BellCars$Moment" "aboard" "I", Cond.methodLink RX5 163 yX5_rowsFrom, Cond.instanceMethod yX5_rowsFrom, Cond.selects RX5 yX5_rowsFrom yX5_rowsFrom, Cond.initialized RX5, Cond.code yX5_rowsFrom cX5_rowsFrom 9 (some .int), Cond.fieldLink RX5 19 "BellCars" "told" "LBellCars$Told;", Cond.fieldLink RX5 200 "BellCars$Told" "riders" "I", Cond.methodLink RX5 249 yX5_downInRow, Cond.instanceMethod yX5_downInRow, Cond.selects RX5 yX5_downInRow yX5_downInRow, Cond.code yX5_downInRow cX5_downInRow 7 (some .int), Cond.methodLink RX5 101 yX5_downByRing, Cond.instanceMethod yX5_downByRing, Cond.selects RX5 yX5_downByRing yX5_downByRing]
def wsX5_soon_r2 : List Cond := [Cond.code yX5_downByRing cX5_downByRing 8 (some .int), Cond.methodLink RX5 112 yX1_thoughtOf, Cond.instanceMethod yX1_thoughtOf, Cond.selects RX1 yX1_thoughtOf yX1_thoughtOf, Cond.code yX1_thoughtOf cX1_thoughtOf 3 (some .int), Cond.fieldLink RX1 18 "BellCars$Moment" "thoughtAt" "[I", Cond.methodLink RX5 170 yX1_copyFrom, Cond.instanceMethod yX1_copyFrom, Cond.selects RX1 yX1_copyFrom yX1_copyFrom, Cond.code yX1_copyFrom cX1_copyFrom 2 none, Cond.fieldLink RX1 21 "BellCars$Moment" "stop" "I", Cond.fieldLink RX1 33 "BellCars$Moment" "thoughts" "I", Cond.fieldLink RX1 36 "BellCars$Moment" "lonely" "I", Cond.fieldLink RX1 9 "BellCars$Moment" "seat" "[I", Cond.methodLink RX1 40 arraycopyName, Cond.native arraycopyName, Cond.static arraycopyName, Cond.initialized "java/lang/System", Cond.fieldLink RX1 15 "BellCars$Moment" "downAt" "[I", Cond.methodLink RX5 129 yX5_ride, Cond.instanceMethod yX5_ride, Cond.selects RX5 yX5_ride yX5_ride, Cond.code yX5_ride cX5_ride 4 none, Cond.fieldLink RX5 116 "BellCars$Moment" "stop" "I"]
def wsX5_soon_r3 : List Cond := [Cond.fieldLink RX5 85 "BellCars$Told" "law" "[I", Cond.methodLink RX5 94 yX5_whom, Cond.instanceMethod yX5_whom, Cond.selects RX5 yX5_whom yX5_whom, Cond.code yX5_whom cX5_whom 4 (some .int), Cond.fieldLink RX5 79 "BellCars$Moment" "seat" "[I", Cond.methodLink RX5 88 yX1_isAboard, Cond.instanceMethod yX1_isAboard, Cond.selects RX1 yX1_isAboard yX1_isAboard, Cond.code yX1_isAboard cX1_isAboard 2 (some .boolean), Cond.methodLink RX5 191 yX5_nearest, Cond.instanceMethod yX5_nearest, Cond.selects RX5 yX5_nearest yX5_nearest, Cond.code yX5_nearest cX5_nearest 8 (some .int), Cond.methodLink RX5 244 Lib.Math.abs.name, Cond.static Lib.Math.abs.name, Cond.initialized "java/lang/Math", Cond.code Lib.Math.abs.name Lib.Math.abs.code 1 (some .int), Cond.methodLink RX5 238 yX5_fairest, Cond.instanceMethod yX5_fairest, Cond.selects RX5 yX5_fairest yX5_fairest, Cond.code yX5_fairest cX5_fairest 7 (some .int), Cond.fieldLink RX5 82 "BellCars$Told" "looks" "[I", Cond.methodLink RX5 241 yX5_nextAboard]
def wsX5_soon_r4 : List Cond := [Cond.instanceMethod yX5_nextAboard, Cond.selects RX5 yX5_nextAboard yX5_nextAboard, Cond.code yX5_nextAboard cX5_nextAboard 5 (some .int), Cond.methodLink RX5 132 yX1_think, Cond.instanceMethod yX1_think, Cond.selects RX1 yX1_think yX1_think, Cond.code yX1_think cX1_think 3 none]
def wsX5_soon : List Cond := .code yX5_soon cX5_soon 3 (some .int) :: ((wsX5_soon_r1 ++ (wsX5_soon_r2 ++ (wsX5_soon_r3 ++ wsX5_soon_r4))) ++ wsX50 ++ wsX00 ++ wsX10 ++ wsX40)
def wsX5_isPairAboard : List Cond := .code yX5_isPairAboard cX5_isPairAboard 3 (some .boolean) :: ([.fieldLink RX5 29 "BellCars" "present" "LBellCars$Image;", .fieldLink RX5 76 "BellCars$Image" "moment" "LBellCars$Moment;", .methodLink RX5 108 yX5_isPair, .instanceMethod yX5_isPair, .selects RX5 yX5_isPair yX5_isPair, .initialized RX5, .code yX5_isPair cX5_isPair 3 (some .boolean), .methodLink RX5 73 yX5_isRider, .instanceMethod yX5_isRider, .selects RX5 yX5_isRider yX5_isRider, .code yX5_isRider cX5_isRider 2 (some .boolean), .fieldLink RX5 19 "BellCars" "told" "LBellCars$Told;", .fieldLink RX5 200 "BellCars$Told" "riders" "I", .methodLink RX5 88 yX1_isAboard, .instanceMethod yX1_isAboard, .selects RX1 yX1_isAboard yX1_isAboard, .initialized RX1, .code yX1_isAboard cX1_isAboard 2 (some .boolean), .fieldLink RX1 30 "BellCars$Moment" "aboard" "I"] ++ wsX50 ++ wsX00 ++ wsX40 ++ wsX10)
def wsX5_aheadOf : List Cond := .code yX5_aheadOf cX5_aheadOf 7 (some .int) :: ([.fieldLink RX5 29 "BellCars" "present" "LBellCars$Image;", .fieldLink RX5 76 "BellCars$Image" "moment" "LBellCars$Moment;", .fieldLink RX5 19 "BellCars" "told" "LBellCars$Told;", .fieldLink RX5 200 "BellCars$Told" "riders" "I", .methodLink RX5 112 yX1_thoughtOf, .instanceMethod yX1_thoughtOf, .selects RX1 yX1_thoughtOf yX1_thoughtOf, .initialized RX1, .code yX1_thoughtOf cX1_thoughtOf 3 (some .int), .fieldLink RX1 18 "BellCars$Moment" "thoughtAt" "[I", .methodLink RX5 88 yX1_isAboard, .instanceMethod yX1_isAboard, .selects RX1 yX1_isAboard yX1_isAboard, .code yX1_isAboard cX1_isAboard 2 (some .boolean), .fieldLink RX1 30 "BellCars$Moment" "aboard" "I"] ++ wsX50 ++ wsX00 ++ wsX40 ++ wsX10)
def wsX5_power : List Cond := .code yX5_power cX5_power 4 (some .int) :: ([])
def wsX5_oddsUpper : List Cond := .code yX5_oddsUpper cX5_oddsUpper 4 (some .int) :: ([.fieldLink RX5 29 "BellCars" "present" "LBellCars$Image;", .fieldLink RX5 76 "BellCars$Image" "moment" "LBellCars$Moment;", .methodLink RX5 112 yX1_thoughtOf, .instanceMethod yX1_thoughtOf, .selects RX1 yX1_thoughtOf yX1_thoughtOf, .initialized RX1, .code yX1_thoughtOf cX1_thoughtOf 3 (some .int), .fieldLink RX1 18 "BellCars$Moment" "thoughtAt" "[I", .methodLink RX5 255 yX5_aheadOf, .instanceMethod yX5_aheadOf, .selects RX5 yX5_aheadOf yX5_aheadOf, .initialized RX5, .code yX5_aheadOf cX5_aheadOf 7 (some .int), .fieldLink RX5 19 "BellCars" "told" "LBellCars$Told;", .fieldLink RX5 200 "BellCars$Told" "riders" "I", .methodLink RX5 88 yX1_isAboard, .instanceMethod yX1_isAboard, .selects RX1 yX1_isAboard yX1_isAboard, .code yX1_isAboard cX1_isAboard 2 (some .boolean), .fieldLink RX1 30 "BellCars$Moment" "aboard" "I", .methodLink RX5 258 yX5_power, .static yX5_power, .code yX5_power cX5_power 4 (some .int)] ++ wsX50 ++ wsX00 ++ wsX10 ++ wsX40)
def wsX5_oddsLower : List Cond := .code yX5_oddsLower cX5_oddsLower 3 (some .int) :: ([.methodLink RX5 255 yX5_aheadOf, .instanceMethod yX5_aheadOf, .selects RX5 yX5_aheadOf yX5_aheadOf, .initialized RX5, .code yX5_aheadOf cX5_aheadOf 7 (some .int), .fieldLink RX5 29 "BellCars" "present" "LBellCars$Image;", .fieldLink RX5 76 "BellCars$Image" "moment" "LBellCars$Moment;", .fieldLink RX5 19 "BellCars" "told" "LBellCars$Told;", .fieldLink RX5 200 "BellCars$Told" "riders" "I", .methodLink RX5 112 yX1_thoughtOf, .instanceMethod yX1_thoughtOf, .selects RX1 yX1_thoughtOf yX1_thoughtOf, .initialized RX1, .code yX1_thoughtOf cX1_thoughtOf 3 (some .int), .fieldLink RX1 18 "BellCars$Moment" "thoughtAt" "[I", .methodLink RX5 88 yX1_isAboard, .instanceMethod yX1_isAboard, .selects RX1 yX1_isAboard yX1_isAboard, .code yX1_isAboard cX1_isAboard 2 (some .boolean), .fieldLink RX1 30 "BellCars$Moment" "aboard" "I", .methodLink RX5 258 yX5_power, .static yX5_power, .code yX5_power cX5_power 4 (some .int)] ++ wsX50 ++ wsX00 ++ wsX40 ++ wsX10)
def wsX5_commonDivisor : List Cond := .code yX5_commonDivisor cX5_commonDivisor 6 (some .int) :: ([])
def wsX5_odds_r1 : List Cond := [Cond.methodLink RX5 172 yX5_isPairAboard, Cond.instanceMethod yX5_isPairAboard, Cond.selects RX5 yX5_isPairAboard yX5_isPairAboard, Cond.initialized RX5, Cond.code yX5_isPairAboard cX5_isPairAboard 3 (some .boolean), Cond.fieldLink RX5 29 "BellCars" "present" "LBellCars$Image;", Cond.fieldLink RX5 76 "BellCars$Image" "moment" "LBellCars$Moment;", Cond.methodLink RX5 108 yX5_isPair, Cond.instanceMethod yX5_isPair, Cond.selects RX5 yX5_isPair yX5_isPair, Cond.code yX5_isPair cX5_isPair 3 (some .boolean), Cond.methodLink RX5 73 yX5_isRider, Cond.instanceMethod yX5_isRider, Cond.selects RX5 yX5_isRider yX5_isRider, Cond.code yX5_isRider cX5_isRider 2 (some .boolean), Cond.fieldLink RX5 19 "BellCars" "told" "LBellCars$Told;", Cond.fieldLink RX5 200 "BellCars$Told" "riders" "I", Cond.methodLink RX5 88 yX1_isAboard, Cond.instanceMethod yX1_isAboard, Cond.selects RX1 yX1_isAboard yX1_isAboard, Cond.initialized RX1, Cond.code yX1_isAboard cX1_isAboard 2 (some .boolean), Cond.fieldLink RX1 30 "BellCars$Moment" "aboard" "I", Cond.methodLink RX5 175 yX5_oddsUpper]
def wsX5_odds_r2 : List Cond := [Cond.instanceMethod yX5_oddsUpper, Cond.selects RX5 yX5_oddsUpper yX5_oddsUpper, Cond.code yX5_oddsUpper cX5_oddsUpper 4 (some .int), Cond.methodLink RX5 112 yX1_thoughtOf, Cond.instanceMethod yX1_thoughtOf, Cond.selects RX1 yX1_thoughtOf yX1_thoughtOf, Cond.code yX1_thoughtOf cX1_thoughtOf 3 (some .int), Cond.fieldLink RX1 18 "BellCars$Moment" "thoughtAt" "[I", Cond.methodLink RX5 255 yX5_aheadOf, Cond.instanceMethod yX5_aheadOf, Cond.selects RX5 yX5_aheadOf yX5_aheadOf, Cond.code yX5_aheadOf cX5_aheadOf 7 (some .int), Cond.methodLink RX5 258 yX5_power, Cond.static yX5_power, Cond.code yX5_power cX5_power 4 (some .int), Cond.methodLink RX5 179 yX5_oddsLower, Cond.instanceMethod yX5_oddsLower, Cond.selects RX5 yX5_oddsLower yX5_oddsLower, Cond.code yX5_oddsLower cX5_oddsLower 3 (some .int), Cond.methodLink RX5 182 yX5_commonDivisor, Cond.static yX5_commonDivisor, Cond.code yX5_commonDivisor cX5_commonDivisor 6 (some .int)]
def wsX5_odds : List Cond := .code yX5_odds cX5_odds 8 (some .int) :: ((wsX5_odds_r1 ++ wsX5_odds_r2) ++ wsX50 ++ wsX00 ++ wsX40 ++ wsX10)
def wsX5_circleOf_r1 : List Cond := [Cond.fieldLink RX5 19 "BellCars" "told" "LBellCars$Told;", Cond.fieldLink RX5 200 "BellCars$Told" "riders" "I", Cond.fieldLink RX5 85 "BellCars$Told" "law" "[I", Cond.methodLink RX5 94 yX5_whom, Cond.instanceMethod yX5_whom, Cond.selects RX5 yX5_whom yX5_whom, Cond.initialized RX5, Cond.code yX5_whom cX5_whom 4 (some .int), Cond.fieldLink RX5 79 "BellCars$Moment" "seat" "[I", Cond.methodLink RX5 88 yX1_isAboard, Cond.instanceMethod yX1_isAboard, Cond.selects RX1 yX1_isAboard yX1_isAboard, Cond.initialized RX1, Cond.code yX1_isAboard cX1_isAboard 2 (some .boolean), Cond.fieldLink RX1 30 "BellCars$Moment" "aboard" "I", Cond.methodLink RX5 191 yX5_nearest, Cond.instanceMethod yX5_nearest, Cond.selects RX5 yX5_nearest yX5_nearest, Cond.code yX5_nearest cX5_nearest 8 (some .int), Cond.methodLink RX5 244 Lib.Math.abs.name, Cond.static Lib.Math.abs.name, Cond.initialized "java/lang/Math", Cond.code Lib.Math.abs.name Lib.Math.abs.code 1 (some .int), Cond.methodLink RX5 238 yX5_fairest]
def wsX5_circleOf_r2 : List Cond := [Cond.instanceMethod yX5_fairest, Cond.selects RX5 yX5_fairest yX5_fairest, Cond.code yX5_fairest cX5_fairest 7 (some .int), Cond.fieldLink RX5 82 "BellCars$Told" "looks" "[I", Cond.methodLink RX5 241 yX5_nextAboard, Cond.instanceMethod yX5_nextAboard, Cond.selects RX5 yX5_nextAboard yX5_nextAboard, Cond.code yX5_nextAboard cX5_nextAboard 5 (some .int)]
def wsX5_circleOf : List Cond := .code yX5_circleOf cX5_circleOf 6 (some .int) :: ((wsX5_circleOf_r1 ++ wsX5_circleOf_r2) ++ wsX50 ++ wsX40 ++ wsX10)
def wsX5_lowestOf : List Cond := .code yX5_lowestOf cX5_lowestOf 2 (some .int) :: ([])
def wsX5_circle_r1 : List Cond := [Cond.fieldLink RX5 29 "BellCars" "present" "LBellCars$Image;", Cond.fieldLink RX5 76 "BellCars$Image" "moment" "LBellCars$Moment;", Cond.methodLink RX5 73 yX5_isRider, Cond.instanceMethod yX5_isRider, Cond.selects RX5 yX5_isRider yX5_isRider, Cond.initialized RX5, Cond.code yX5_isRider cX5_isRider 2 (some .boolean), Cond.fieldLink RX5 19 "BellCars" "told" "LBellCars$Told;", Cond.fieldLink RX5 200 "BellCars$Told" "riders" "I", Cond.methodLink RX5 88 yX1_isAboard, Cond.instanceMethod yX1_isAboard, Cond.selects RX1 yX1_isAboard yX1_isAboard, Cond.initialized RX1, Cond.code yX1_isAboard cX1_isAboard 2 (some .boolean), Cond.fieldLink RX1 30 "BellCars$Moment" "aboard" "I", Cond.methodLink RX5 185 yX5_circleOf, Cond.instanceMethod yX5_circleOf, Cond.selects RX5 yX5_circleOf yX5_circleOf, Cond.code yX5_circleOf cX5_circleOf 6 (some .int), Cond.fieldLink RX5 85 "BellCars$Told" "law" "[I", Cond.methodLink RX5 94 yX5_whom, Cond.instanceMethod yX5_whom, Cond.selects RX5 yX5_whom yX5_whom, Cond.code yX5_whom cX5_whom 4 (some .int)]
def wsX5_circle_r2 : List Cond := [Cond.fieldLink RX5 79 "BellCars$Moment" "seat" "[I", Cond.methodLink RX5 191 yX5_nearest, Cond.instanceMethod yX5_nearest, Cond.selects RX5 yX5_nearest yX5_nearest, Cond.code yX5_nearest cX5_nearest 8 (some .int), Cond.methodLink RX5 244 Lib.Math.abs.name, Cond.static Lib.Math.abs.name, Cond.initialized "java/lang/Math", Cond.code Lib.Math.abs.name Lib.Math.abs.code 1 (some .int), Cond.methodLink RX5 238 yX5_fairest, Cond.instanceMethod yX5_fairest, Cond.selects RX5 yX5_fairest yX5_fairest, Cond.code yX5_fairest cX5_fairest 7 (some .int), Cond.fieldLink RX5 82 "BellCars$Told" "looks" "[I", Cond.methodLink RX5 241 yX5_nextAboard, Cond.instanceMethod yX5_nextAboard, Cond.selects RX5 yX5_nextAboard yX5_nextAboard, Cond.code yX5_nextAboard cX5_nextAboard 5 (some .int), Cond.methodLink RX5 143 yJ6_bitCount_0f7a4, Cond.static yJ6_bitCount_0f7a4, Cond.initialized RJ6, Cond.code yJ6_bitCount_0f7a4 cJ6_bitCount_0f7a4 1 (some .int), Cond.constant RJ6 265 (1431655765), Cond.constant RJ6 266 (858993459)]
def wsX5_circle_r3 : List Cond := [Cond.constant RJ6 267 (252645135), Cond.methodLink RX5 188 yX5_lowestOf, Cond.static yX5_lowestOf, Cond.code yX5_lowestOf cX5_lowestOf 2 (some .int)]
def wsX5_circle : List Cond := .code yX5_circle cX5_circle 5 (some .int) :: ((wsX5_circle_r1 ++ (wsX5_circle_r2 ++ wsX5_circle_r3)) ++ wsX50 ++ wsX00 ++ wsX40 ++ wsX10)
def wsX5_chair_r1 : List Cond := [Cond.fieldLink RX5 29 "BellCars" "present" "LBellCars$Image;", Cond.fieldLink RX5 76 "BellCars$Image" "moment" "LBellCars$Moment;", Cond.methodLink RX5 172 yX5_isPairAboard, Cond.instanceMethod yX5_isPairAboard, Cond.selects RX5 yX5_isPairAboard yX5_isPairAboard, Cond.initialized RX5, Cond.code yX5_isPairAboard cX5_isPairAboard 3 (some .boolean), Cond.methodLink RX5 108 yX5_isPair, Cond.instanceMethod yX5_isPair, Cond.selects RX5 yX5_isPair yX5_isPair, Cond.code yX5_isPair cX5_isPair 3 (some .boolean), Cond.methodLink RX5 73 yX5_isRider, Cond.instanceMethod yX5_isRider, Cond.selects RX5 yX5_isRider yX5_isRider, Cond.code yX5_isRider cX5_isRider 2 (some .boolean), Cond.fieldLink RX5 19 "BellCars" "told" "LBellCars$Told;", Cond.fieldLink RX5 200 "BellCars$Told" "riders" "I", Cond.methodLink RX5 88 yX1_isAboard, Cond.instanceMethod yX1_isAboard, Cond.selects RX1 yX1_isAboard yX1_isAboard, Cond.initialized RX1, Cond.code yX1_isAboard cX1_isAboard 2 (some .boolean), Cond.fieldLink RX1 30 "BellCars$Moment" "aboard" "I", Cond.methodLink RX5 191 yX5_nearest]
def wsX5_chair_r2 : List Cond := [Cond.instanceMethod yX5_nearest, Cond.selects RX5 yX5_nearest yX5_nearest, Cond.code yX5_nearest cX5_nearest 8 (some .int), Cond.fieldLink RX5 79 "BellCars$Moment" "seat" "[I", Cond.methodLink RX5 244 Lib.Math.abs.name, Cond.static Lib.Math.abs.name, Cond.initialized "java/lang/Math", Cond.code Lib.Math.abs.name Lib.Math.abs.code 1 (some .int)]
def wsX5_chair : List Cond := .code yX5_chair cX5_chair 4 (some .int) :: ((wsX5_chair_r1 ++ wsX5_chair_r2) ++ wsX50 ++ wsX00 ++ wsX40 ++ wsX10)
def wsX5_saw_r1 : List Cond := [Cond.fieldLink RX5 194 "BellCars" "seenCount" "I", Cond.fieldLink RX5 44 "BellCars" "seenThinker" "[I", Cond.fieldLink RX5 48 "BellCars" "seenThought" "[I", Cond.methodLink RX5 172 yX5_isPairAboard, Cond.instanceMethod yX5_isPairAboard, Cond.selects RX5 yX5_isPairAboard yX5_isPairAboard, Cond.initialized RX5, Cond.code yX5_isPairAboard cX5_isPairAboard 3 (some .boolean), Cond.fieldLink RX5 29 "BellCars" "present" "LBellCars$Image;", Cond.fieldLink RX5 76 "BellCars$Image" "moment" "LBellCars$Moment;", Cond.methodLink RX5 108 yX5_isPair, Cond.instanceMethod yX5_isPair, Cond.selects RX5 yX5_isPair yX5_isPair, Cond.code yX5_isPair cX5_isPair 3 (some .boolean), Cond.methodLink RX5 73 yX5_isRider, Cond.instanceMethod yX5_isRider, Cond.selects RX5 yX5_isRider yX5_isRider, Cond.code yX5_isRider cX5_isRider 2 (some .boolean), Cond.fieldLink RX5 19 "BellCars" "told" "LBellCars$Told;", Cond.fieldLink RX5 200 "BellCars$Told" "riders" "I", Cond.methodLink RX5 88 yX1_isAboard, Cond.instanceMethod yX1_isAboard, Cond.selects RX1 yX1_isAboard yX1_isAboard, Cond.initialized RX1]
def wsX5_saw_r2 : List Cond := [Cond.code yX1_isAboard cX1_isAboard 2 (some .boolean), Cond.fieldLink RX1 30 "BellCars$Moment" "aboard" "I"]
def wsX5_saw : List Cond := .code yX5_saw cX5_saw 3 (some .int) :: ((wsX5_saw_r1 ++ wsX5_saw_r2) ++ wsX50 ++ wsX00 ++ wsX40 ++ wsX10)
def wsX5_forget : List Cond := .code yX5_forget cX5_forget 2 (some .int) :: ([.fieldLink RX5 194 "BellCars" "seenCount" "I"] ++ wsX50)
def wsX5_fitsSeen_r1 : List Cond := [Cond.fieldLink RX5 29 "BellCars" "present" "LBellCars$Image;", Cond.fieldLink RX5 76 "BellCars$Image" "moment" "LBellCars$Moment;", Cond.fieldLink RX5 194 "BellCars" "seenCount" "I", Cond.fieldLink RX5 44 "BellCars" "seenThinker" "[I", Cond.fieldLink RX5 48 "BellCars" "seenThought" "[I", Cond.methodLink RX5 94 yX5_whom, Cond.instanceMethod yX5_whom, Cond.selects RX5 yX5_whom yX5_whom, Cond.initialized RX5, Cond.code yX5_whom cX5_whom 4 (some .int), Cond.fieldLink RX5 79 "BellCars$Moment" "seat" "[I", Cond.methodLink RX5 88 yX1_isAboard, Cond.instanceMethod yX1_isAboard, Cond.selects RX1 yX1_isAboard yX1_isAboard, Cond.initialized RX1, Cond.code yX1_isAboard cX1_isAboard 2 (some .boolean), Cond.fieldLink RX1 30 "BellCars$Moment" "aboard" "I", Cond.methodLink RX5 191 yX5_nearest, Cond.instanceMethod yX5_nearest, Cond.selects RX5 yX5_nearest yX5_nearest, Cond.code yX5_nearest cX5_nearest 8 (some .int), Cond.fieldLink RX5 19 "BellCars" "told" "LBellCars$Told;", Cond.fieldLink RX5 200 "BellCars$Told" "riders" "I", Cond.methodLink RX5 244 Lib.Math.abs.name]
def wsX5_fitsSeen_r2 : List Cond := [Cond.static Lib.Math.abs.name, Cond.initialized "java/lang/Math", Cond.code Lib.Math.abs.name Lib.Math.abs.code 1 (some .int), Cond.methodLink RX5 238 yX5_fairest, Cond.instanceMethod yX5_fairest, Cond.selects RX5 yX5_fairest yX5_fairest, Cond.code yX5_fairest cX5_fairest 7 (some .int), Cond.fieldLink RX5 82 "BellCars$Told" "looks" "[I", Cond.methodLink RX5 241 yX5_nextAboard, Cond.instanceMethod yX5_nextAboard, Cond.selects RX5 yX5_nextAboard yX5_nextAboard, Cond.code yX5_nextAboard cX5_nextAboard 5 (some .int)]
def wsX5_fitsSeen : List Cond := .code yX5_fitsSeen cX5_fitsSeen 5 (some .boolean) :: ((wsX5_fitsSeen_r1 ++ wsX5_fitsSeen_r2) ++ wsX50 ++ wsX00 ++ wsX10 ++ wsX40)
def wsX5_fittingLaws_r1 : List Cond := [Cond.methodLink RX5 261 yX5_fitsSeen, Cond.instanceMethod yX5_fitsSeen, Cond.selects RX5 yX5_fitsSeen yX5_fitsSeen, Cond.initialized RX5, Cond.code yX5_fitsSeen cX5_fitsSeen 5 (some .boolean), Cond.fieldLink RX5 29 "BellCars" "present" "LBellCars$Image;", Cond.fieldLink RX5 76 "BellCars$Image" "moment" "LBellCars$Moment;", Cond.fieldLink RX5 194 "BellCars" "seenCount" "I", Cond.fieldLink RX5 44 "BellCars" "seenThinker" "[I", Cond.fieldLink RX5 48 "BellCars" "seenThought" "[I", Cond.methodLink RX5 94 yX5_whom, Cond.instanceMethod yX5_whom, Cond.selects RX5 yX5_whom yX5_whom, Cond.code yX5_whom cX5_whom 4 (some .int), Cond.fieldLink RX5 79 "BellCars$Moment" "seat" "[I", Cond.methodLink RX5 88 yX1_isAboard, Cond.instanceMethod yX1_isAboard, Cond.selects RX1 yX1_isAboard yX1_isAboard, Cond.initialized RX1, Cond.code yX1_isAboard cX1_isAboard 2 (some .boolean), Cond.fieldLink RX1 30 "BellCars$Moment" "aboard" "I", Cond.methodLink RX5 191 yX5_nearest, Cond.instanceMethod yX5_nearest, Cond.selects RX5 yX5_nearest yX5_nearest]
def wsX5_fittingLaws_r2 : List Cond := [Cond.code yX5_nearest cX5_nearest 8 (some .int), Cond.fieldLink RX5 19 "BellCars" "told" "LBellCars$Told;", Cond.fieldLink RX5 200 "BellCars$Told" "riders" "I", Cond.methodLink RX5 244 Lib.Math.abs.name, Cond.static Lib.Math.abs.name, Cond.initialized "java/lang/Math", Cond.code Lib.Math.abs.name Lib.Math.abs.code 1 (some .int), Cond.methodLink RX5 238 yX5_fairest, Cond.instanceMethod yX5_fairest, Cond.selects RX5 yX5_fairest yX5_fairest, Cond.code yX5_fairest cX5_fairest 7 (some .int), Cond.fieldLink RX5 82 "BellCars$Told" "looks" "[I", Cond.methodLink RX5 241 yX5_nextAboard, Cond.instanceMethod yX5_nextAboard, Cond.selects RX5 yX5_nextAboard yX5_nextAboard, Cond.code yX5_nextAboard cX5_nextAboard 5 (some .int)]
def wsX5_fittingLaws : List Cond := .code yX5_fittingLaws cX5_fittingLaws 4 (some .int) :: ((wsX5_fittingLaws_r1 ++ wsX5_fittingLaws_r2) ++ wsX50 ++ wsX00 ++ wsX10 ++ wsX40)
def wsX5_laws_r1 : List Cond := [Cond.methodLink RX5 73 yX5_isRider, Cond.instanceMethod yX5_isRider, Cond.selects RX5 yX5_isRider yX5_isRider, Cond.initialized RX5, Cond.code yX5_isRider cX5_isRider 2 (some .boolean), Cond.fieldLink RX5 19 "BellCars" "told" "LBellCars$Told;", Cond.fieldLink RX5 200 "BellCars$Told" "riders" "I", Cond.methodLink RX5 197 yX5_fittingLaws, Cond.instanceMethod yX5_fittingLaws, Cond.selects RX5 yX5_fittingLaws yX5_fittingLaws, Cond.code yX5_fittingLaws cX5_fittingLaws 4 (some .int), Cond.methodLink RX5 261 yX5_fitsSeen, Cond.instanceMethod yX5_fitsSeen, Cond.selects RX5 yX5_fitsSeen yX5_fitsSeen, Cond.code yX5_fitsSeen cX5_fitsSeen 5 (some .boolean), Cond.fieldLink RX5 29 "BellCars" "present" "LBellCars$Image;", Cond.fieldLink RX5 76 "BellCars$Image" "moment" "LBellCars$Moment;", Cond.fieldLink RX5 194 "BellCars" "seenCount" "I", Cond.fieldLink RX5 44 "BellCars" "seenThinker" "[I", Cond.fieldLink RX5 48 "BellCars" "seenThought" "[I", Cond.methodLink RX5 94 yX5_whom, Cond.instanceMethod yX5_whom, Cond.selects RX5 yX5_whom yX5_whom, Cond.code yX5_whom cX5_whom 4 (some .int)]
def wsX5_laws_r2 : List Cond := [Cond.fieldLink RX5 79 "BellCars$Moment" "seat" "[I", Cond.methodLink RX5 88 yX1_isAboard, Cond.instanceMethod yX1_isAboard, Cond.selects RX1 yX1_isAboard yX1_isAboard, Cond.initialized RX1, Cond.code yX1_isAboard cX1_isAboard 2 (some .boolean), Cond.fieldLink RX1 30 "BellCars$Moment" "aboard" "I", Cond.methodLink RX5 191 yX5_nearest, Cond.instanceMethod yX5_nearest, Cond.selects RX5 yX5_nearest yX5_nearest, Cond.code yX5_nearest cX5_nearest 8 (some .int), Cond.methodLink RX5 244 Lib.Math.abs.name, Cond.static Lib.Math.abs.name, Cond.initialized "java/lang/Math", Cond.code Lib.Math.abs.name Lib.Math.abs.code 1 (some .int), Cond.methodLink RX5 238 yX5_fairest, Cond.instanceMethod yX5_fairest, Cond.selects RX5 yX5_fairest yX5_fairest, Cond.code yX5_fairest cX5_fairest 7 (some .int), Cond.fieldLink RX5 82 "BellCars$Told" "looks" "[I", Cond.methodLink RX5 241 yX5_nextAboard, Cond.instanceMethod yX5_nextAboard, Cond.selects RX5 yX5_nextAboard yX5_nextAboard, Cond.code yX5_nextAboard cX5_nextAboard 5 (some .int)]
def wsX5_laws : List Cond := .code yX5_laws cX5_laws 2 (some .int) :: ((wsX5_laws_r1 ++ wsX5_laws_r2) ++ wsX50 ++ wsX40 ++ wsX00 ++ wsX10)
def wsX5_likely_r1 : List Cond := [Cond.fieldLink RX5 19 "BellCars" "told" "LBellCars$Told;", Cond.fieldLink RX5 200 "BellCars$Told" "riders" "I", Cond.fieldLink RX5 29 "BellCars" "present" "LBellCars$Image;", Cond.fieldLink RX5 76 "BellCars$Image" "moment" "LBellCars$Moment;", Cond.methodLink RX5 88 yX1_isAboard, Cond.instanceMethod yX1_isAboard, Cond.selects RX1 yX1_isAboard yX1_isAboard, Cond.initialized RX1, Cond.code yX1_isAboard cX1_isAboard 2 (some .boolean), Cond.fieldLink RX1 30 "BellCars$Moment" "aboard" "I", Cond.methodLink RX5 197 yX5_fittingLaws, Cond.instanceMethod yX5_fittingLaws, Cond.selects RX5 yX5_fittingLaws yX5_fittingLaws, Cond.initialized RX5, Cond.code yX5_fittingLaws cX5_fittingLaws 4 (some .int), Cond.methodLink RX5 261 yX5_fitsSeen, Cond.instanceMethod yX5_fitsSeen, Cond.selects RX5 yX5_fitsSeen yX5_fitsSeen, Cond.code yX5_fitsSeen cX5_fitsSeen 5 (some .boolean), Cond.fieldLink RX5 194 "BellCars" "seenCount" "I", Cond.fieldLink RX5 44 "BellCars" "seenThinker" "[I", Cond.fieldLink RX5 48 "BellCars" "seenThought" "[I", Cond.methodLink RX5 94 yX5_whom, Cond.instanceMethod yX5_whom]
def wsX5_likely_r2 : List Cond := [Cond.selects RX5 yX5_whom yX5_whom, Cond.code yX5_whom cX5_whom 4 (some .int), Cond.fieldLink RX5 79 "BellCars$Moment" "seat" "[I", Cond.methodLink RX5 191 yX5_nearest, Cond.instanceMethod yX5_nearest, Cond.selects RX5 yX5_nearest yX5_nearest, Cond.code yX5_nearest cX5_nearest 8 (some .int), Cond.methodLink RX5 244 Lib.Math.abs.name, Cond.static Lib.Math.abs.name, Cond.initialized "java/lang/Math", Cond.code Lib.Math.abs.name Lib.Math.abs.code 1 (some .int), Cond.methodLink RX5 238 yX5_fairest, Cond.instanceMethod yX5_fairest, Cond.selects RX5 yX5_fairest yX5_fairest, Cond.code yX5_fairest cX5_fairest 7 (some .int), Cond.fieldLink RX5 82 "BellCars$Told" "looks" "[I", Cond.methodLink RX5 241 yX5_nextAboard, Cond.instanceMethod yX5_nextAboard, Cond.selects RX5 yX5_nextAboard yX5_nextAboard, Cond.code yX5_nextAboard cX5_nextAboard 5 (some .int), Cond.methodLink RX5 143 yJ6_bitCount_0f7a4, Cond.static yJ6_bitCount_0f7a4, Cond.initialized RJ6, Cond.code yJ6_bitCount_0f7a4 cJ6_bitCount_0f7a4 1 (some .int)]
def wsX5_likely_r3 : List Cond := [Cond.constant RJ6 265 (1431655765), Cond.constant RJ6 266 (858993459), Cond.constant RJ6 267 (252645135)]
def wsX5_likely : List Cond := .code yX5_likely cX5_likely 3 (some .int) :: ((wsX5_likely_r1 ++ (wsX5_likely_r2 ++ wsX5_likely_r3)) ++ wsX50 ++ wsX40 ++ wsX00 ++ wsX10)
def wsX5_riderMark : List Cond := .code yX5_riderMark cX5_riderMark 2 (some .int) :: ([.fieldLink RX5 231 "BellCars" "traceSum" "J", .fieldLink RX5 29 "BellCars" "present" "LBellCars$Image;", .fieldLink RX5 76 "BellCars$Image" "moment" "LBellCars$Moment;", .fieldLink RX5 79 "BellCars$Moment" "seat" "[I"] ++ wsX50 ++ wsX00 ++ wsX10)
def wsX5_nunMark : List Cond := .code yX5_nunMark cX5_nunMark 2 (some .int) :: ([.fieldLink RX5 231 "BellCars" "traceSum" "J", .constantLong RX5 264 (10), .fieldLink RX5 19 "BellCars" "told" "LBellCars$Told;", .fieldLink RX5 82 "BellCars$Told" "looks" "[I", .methodLink RX5 204 yX5_riderMark, .instanceMethod yX5_riderMark, .selects RX5 yX5_riderMark yX5_riderMark, .initialized RX5, .code yX5_riderMark cX5_riderMark 2 (some .int), .fieldLink RX5 29 "BellCars" "present" "LBellCars$Image;", .fieldLink RX5 76 "BellCars$Image" "moment" "LBellCars$Moment;", .fieldLink RX5 79 "BellCars$Moment" "seat" "[I"] ++ wsX50 ++ wsX40 ++ wsX00 ++ wsX10)
def wsX5_thinkersOf : List Cond := .code yX5_thinkersOf cX5_thinkersOf 4 (some .int) :: ([.fieldLink RX5 19 "BellCars" "told" "LBellCars$Told;", .fieldLink RX5 200 "BellCars$Told" "riders" "I", .fieldLink RX5 29 "BellCars" "present" "LBellCars$Image;", .fieldLink RX5 76 "BellCars$Image" "moment" "LBellCars$Moment;", .methodLink RX5 112 yX1_thoughtOf, .instanceMethod yX1_thoughtOf, .selects RX1 yX1_thoughtOf yX1_thoughtOf, .initialized RX1, .code yX1_thoughtOf cX1_thoughtOf 3 (some .int), .fieldLink RX1 18 "BellCars$Moment" "thoughtAt" "[I"] ++ wsX50 ++ wsX40 ++ wsX00 ++ wsX10)
def wsX5_boyMark : List Cond := .code yX5_boyMark cX5_boyMark 2 (some .int) :: ([.fieldLink RX5 231 "BellCars" "traceSum" "J", .constantLong RX5 266 (100), .methodLink RX5 204 yX5_riderMark, .instanceMethod yX5_riderMark, .selects RX5 yX5_riderMark yX5_riderMark, .initialized RX5, .code yX5_riderMark cX5_riderMark 2 (some .int), .fieldLink RX5 29 "BellCars" "present" "LBellCars$Image;", .fieldLink RX5 76 "BellCars$Image" "moment" "LBellCars$Moment;", .fieldLink RX5 79 "BellCars$Moment" "seat" "[I", .methodLink RX5 268 yX5_thinkersOf, .instanceMethod yX5_thinkersOf, .selects RX5 yX5_thinkersOf yX5_thinkersOf, .code yX5_thinkersOf cX5_thinkersOf 4 (some .int), .fieldLink RX5 19 "BellCars" "told" "LBellCars$Told;", .fieldLink RX5 200 "BellCars$Told" "riders" "I", .methodLink RX5 112 yX1_thoughtOf, .instanceMethod yX1_thoughtOf, .selects RX1 yX1_thoughtOf yX1_thoughtOf, .initialized RX1, .code yX1_thoughtOf cX1_thoughtOf 3 (some .int), .fieldLink RX1 18 "BellCars$Moment" "thoughtAt" "[I"] ++ wsX50 ++ wsX00 ++ wsX10 ++ wsX40)
def wsX5_widowerMark : List Cond := .code yX5_widowerMark cX5_widowerMark 2 (some .int) :: ([.fieldLink RX5 231 "BellCars" "traceSum" "J", .constantLong RX5 271 (1000), .methodLink RX5 207 yX5_nunMark, .instanceMethod yX5_nunMark, .selects RX5 yX5_nunMark yX5_nunMark, .initialized RX5, .code yX5_nunMark cX5_nunMark 2 (some .int), .constantLong RX5 264 (10), .fieldLink RX5 19 "BellCars" "told" "LBellCars$Told;", .fieldLink RX5 82 "BellCars$Told" "looks" "[I", .methodLink RX5 204 yX5_riderMark, .instanceMethod yX5_riderMark, .selects RX5 yX5_riderMark yX5_riderMark, .code yX5_riderMark cX5_riderMark 2 (some .int), .fieldLink RX5 29 "BellCars" "present" "LBellCars$Image;", .fieldLink RX5 76 "BellCars$Image" "moment" "LBellCars$Moment;", .fieldLink RX5 79 "BellCars$Moment" "seat" "[I"] ++ wsX50 ++ wsX40 ++ wsX00 ++ wsX10)
def wsX5_girlMark_r1 : List Cond := [Cond.fieldLink RX5 231 "BellCars" "traceSum" "J", Cond.constantLong RX5 273 (10000), Cond.methodLink RX5 210 yX5_boyMark, Cond.instanceMethod yX5_boyMark, Cond.selects RX5 yX5_boyMark yX5_boyMark, Cond.initialized RX5, Cond.code yX5_boyMark cX5_boyMark 2 (some .int), Cond.constantLong RX5 266 (100), Cond.methodLink RX5 204 yX5_riderMark, Cond.instanceMethod yX5_riderMark, Cond.selects RX5 yX5_riderMark yX5_riderMark, Cond.code yX5_riderMark cX5_riderMark 2 (some .int), Cond.fieldLink RX5 29 "BellCars" "present" "LBellCars$Image;", Cond.fieldLink RX5 76 "BellCars$Image" "moment" "LBellCars$Moment;", Cond.fieldLink RX5 79 "BellCars$Moment" "seat" "[I", Cond.methodLink RX5 268 yX5_thinkersOf, Cond.instanceMethod yX5_thinkersOf, Cond.selects RX5 yX5_thinkersOf yX5_thinkersOf, Cond.code yX5_thinkersOf cX5_thinkersOf 4 (some .int), Cond.fieldLink RX5 19 "BellCars" "told" "LBellCars$Told;", Cond.fieldLink RX5 200 "BellCars$Told" "riders" "I", Cond.methodLink RX5 112 yX1_thoughtOf, Cond.instanceMethod yX1_thoughtOf, Cond.selects RX1 yX1_thoughtOf yX1_thoughtOf]
def wsX5_girlMark_r2 : List Cond := [Cond.initialized RX1, Cond.code yX1_thoughtOf cX1_thoughtOf 3 (some .int), Cond.fieldLink RX1 18 "BellCars$Moment" "thoughtAt" "[I"]
def wsX5_girlMark : List Cond := .code yX5_girlMark cX5_girlMark 2 (some .int) :: ((wsX5_girlMark_r1 ++ wsX5_girlMark_r2) ++ wsX50 ++ wsX00 ++ wsX10 ++ wsX40)
def wsX5_driverMark : List Cond := .code yX5_driverMark cX5_driverMark 2 (some .int) :: ([.fieldLink RX5 231 "BellCars" "traceSum" "J", .constantLong RX5 275 (100000), .fieldLink RX5 29 "BellCars" "present" "LBellCars$Image;", .fieldLink RX5 76 "BellCars$Image" "moment" "LBellCars$Moment;", .fieldLink RX5 116 "BellCars$Moment" "stop" "I", .methodLink RX5 204 yX5_riderMark, .instanceMethod yX5_riderMark, .selects RX5 yX5_riderMark yX5_riderMark, .initialized RX5, .code yX5_riderMark cX5_riderMark 2 (some .int), .fieldLink RX5 79 "BellCars$Moment" "seat" "[I"] ++ wsX50 ++ wsX00 ++ wsX10)
def wsX5_mark_r1 : List Cond := [Cond.constant RX5 203 (-1000000), Cond.methodLink RX5 73 yX5_isRider, Cond.instanceMethod yX5_isRider, Cond.selects RX5 yX5_isRider yX5_isRider, Cond.initialized RX5, Cond.code yX5_isRider cX5_isRider 2 (some .boolean), Cond.fieldLink RX5 19 "BellCars" "told" "LBellCars$Told;", Cond.fieldLink RX5 200 "BellCars$Told" "riders" "I", Cond.methodLink RX5 204 yX5_riderMark, Cond.instanceMethod yX5_riderMark, Cond.selects RX5 yX5_riderMark yX5_riderMark, Cond.code yX5_riderMark cX5_riderMark 2 (some .int), Cond.fieldLink RX5 231 "BellCars" "traceSum" "J", Cond.fieldLink RX5 29 "BellCars" "present" "LBellCars$Image;", Cond.fieldLink RX5 76 "BellCars$Image" "moment" "LBellCars$Moment;", Cond.fieldLink RX5 79 "BellCars$Moment" "seat" "[I", Cond.methodLink RX5 207 yX5_nunMark, Cond.instanceMethod yX5_nunMark, Cond.selects RX5 yX5_nunMark yX5_nunMark, Cond.code yX5_nunMark cX5_nunMark 2 (some .int), Cond.constantLong RX5 264 (10), Cond.fieldLink RX5 82 "BellCars$Told" "looks" "[I", Cond.methodLink RX5 210 yX5_boyMark, Cond.instanceMethod yX5_boyMark]
def wsX5_mark_r2 : List Cond := [Cond.selects RX5 yX5_boyMark yX5_boyMark, Cond.code yX5_boyMark cX5_boyMark 2 (some .int), Cond.constantLong RX5 266 (100), Cond.methodLink RX5 268 yX5_thinkersOf, Cond.instanceMethod yX5_thinkersOf, Cond.selects RX5 yX5_thinkersOf yX5_thinkersOf, Cond.code yX5_thinkersOf cX5_thinkersOf 4 (some .int), Cond.methodLink RX5 112 yX1_thoughtOf, Cond.instanceMethod yX1_thoughtOf, Cond.selects RX1 yX1_thoughtOf yX1_thoughtOf, Cond.initialized RX1, Cond.code yX1_thoughtOf cX1_thoughtOf 3 (some .int), Cond.fieldLink RX1 18 "BellCars$Moment" "thoughtAt" "[I", Cond.methodLink RX5 213 yX5_widowerMark, Cond.instanceMethod yX5_widowerMark, Cond.selects RX5 yX5_widowerMark yX5_widowerMark, Cond.code yX5_widowerMark cX5_widowerMark 2 (some .int), Cond.constantLong RX5 271 (1000), Cond.methodLink RX5 216 yX5_girlMark, Cond.instanceMethod yX5_girlMark, Cond.selects RX5 yX5_girlMark yX5_girlMark, Cond.code yX5_girlMark cX5_girlMark 2 (some .int), Cond.constantLong RX5 273 (10000), Cond.methodLink RX5 219 yX5_driverMark]
def wsX5_mark_r3 : List Cond := [Cond.instanceMethod yX5_driverMark, Cond.selects RX5 yX5_driverMark yX5_driverMark, Cond.code yX5_driverMark cX5_driverMark 2 (some .int), Cond.constantLong RX5 275 (100000), Cond.fieldLink RX5 116 "BellCars$Moment" "stop" "I"]
def wsX5_mark : List Cond := .code yX5_mark cX5_mark 3 (some .int) :: ((wsX5_mark_r1 ++ (wsX5_mark_r2 ++ wsX5_mark_r3)) ++ wsX50 ++ wsX40 ++ wsX00 ++ wsX10)
def wsX5_isImage : List Cond := .code yX5_isImage cX5_isImage 1 (some .boolean) :: ([])
def wsX5_keep_r1 : List Cond := [Cond.fieldLink RX5 33 "BellCars" "images" "[LBellCars$Image;", Cond.fieldLink RX5 29 "BellCars" "present" "LBellCars$Image;", Cond.fieldLink RX5 228 "BellCars" "imagesKept" "I", Cond.fieldLink RX5 76 "BellCars$Image" "moment" "LBellCars$Moment;", Cond.fieldLink RX5 116 "BellCars$Moment" "stop" "I", Cond.methodLink RX5 222 yX5_isImage, Cond.static yX5_isImage, Cond.initialized RX5, Cond.code yX5_isImage cX5_isImage 1 (some .boolean), Cond.methodLink RX5 225 yX0_copyFrom, Cond.instanceMethod yX0_copyFrom, Cond.selects RX0 yX0_copyFrom yX0_copyFrom, Cond.initialized RX0, Cond.code yX0_copyFrom cX0_copyFrom 2 none, Cond.fieldLink RX0 10 "BellCars$Image" "moment" "LBellCars$Moment;", Cond.fieldLink RX0 19 "BellCars$Image" "past" "LBellCars$Past;", Cond.methodLink RX0 23 yX1_copyFrom, Cond.instanceMethod yX1_copyFrom, Cond.selects RX1 yX1_copyFrom yX1_copyFrom, Cond.initialized RX1, Cond.code yX1_copyFrom cX1_copyFrom 2 none, Cond.fieldLink RX1 21 "BellCars$Moment" "stop" "I", Cond.fieldLink RX1 30 "BellCars$Moment" "aboard" "I", Cond.fieldLink RX1 33 "BellCars$Moment" "thoughts" "I"]
def wsX5_keep_r2 : List Cond := [Cond.fieldLink RX1 36 "BellCars$Moment" "lonely" "I", Cond.fieldLink RX1 9 "BellCars$Moment" "seat" "[I", Cond.methodLink RX1 40 arraycopyName, Cond.native arraycopyName, Cond.static arraycopyName, Cond.initialized "java/lang/System", Cond.fieldLink RX1 15 "BellCars$Moment" "downAt" "[I", Cond.fieldLink RX1 18 "BellCars$Moment" "thoughtAt" "[I", Cond.methodLink RX0 27 yX2_copyFrom, Cond.instanceMethod yX2_copyFrom, Cond.selects RX2 yX2_copyFrom yX2_copyFrom, Cond.initialized RX2, Cond.code yX2_copyFrom cX2_copyFrom 3 none, Cond.fieldLink RX2 18 "BellCars$Past" "size" "I", Cond.fieldLink RX2 30 "BellCars$Past" "oldest" "I", Cond.fieldLink RX2 11 "BellCars$Past" "moments" "[LBellCars$Moment;", Cond.methodLink RX2 22 yX2_placeOf, Cond.instanceMethod yX2_placeOf, Cond.selects RX2 yX2_placeOf yX2_placeOf, Cond.code yX2_placeOf cX2_placeOf 2 (some .int), Cond.methodLink RX2 26 yX1_copyFrom]
def wsX5_keep : List Cond := .code yX5_keep cX5_keep 2 (some .int) :: ((wsX5_keep_r1 ++ wsX5_keep_r2) ++ wsX50 ++ wsX00 ++ wsX10 ++ wsX20)
def wsX5_back_r1 : List Cond := [Cond.fieldLink RX5 228 "BellCars" "imagesKept" "I", Cond.fieldLink RX5 29 "BellCars" "present" "LBellCars$Image;", Cond.fieldLink RX5 33 "BellCars" "images" "[LBellCars$Image;", Cond.fieldLink RX5 76 "BellCars$Image" "moment" "LBellCars$Moment;", Cond.fieldLink RX5 116 "BellCars$Moment" "stop" "I", Cond.methodLink RX5 222 yX5_isImage, Cond.static yX5_isImage, Cond.initialized RX5, Cond.code yX5_isImage cX5_isImage 1 (some .boolean), Cond.methodLink RX5 225 yX0_copyFrom, Cond.instanceMethod yX0_copyFrom, Cond.selects RX0 yX0_copyFrom yX0_copyFrom, Cond.initialized RX0, Cond.code yX0_copyFrom cX0_copyFrom 2 none, Cond.fieldLink RX0 10 "BellCars$Image" "moment" "LBellCars$Moment;", Cond.fieldLink RX0 19 "BellCars$Image" "past" "LBellCars$Past;", Cond.methodLink RX0 23 yX1_copyFrom, Cond.instanceMethod yX1_copyFrom, Cond.selects RX1 yX1_copyFrom yX1_copyFrom, Cond.initialized RX1, Cond.code yX1_copyFrom cX1_copyFrom 2 none, Cond.fieldLink RX1 21 "BellCars$Moment" "stop" "I", Cond.fieldLink RX1 30 "BellCars$Moment" "aboard" "I", Cond.fieldLink RX1 33 "BellCars$Moment" "thoughts" "I"]
def wsX5_back_r2 : List Cond := [Cond.fieldLink RX1 36 "BellCars$Moment" "lonely" "I", Cond.fieldLink RX1 9 "BellCars$Moment" "seat" "[I", Cond.methodLink RX1 40 arraycopyName, Cond.native arraycopyName, Cond.static arraycopyName, Cond.initialized "java/lang/System", Cond.fieldLink RX1 15 "BellCars$Moment" "downAt" "[I", Cond.fieldLink RX1 18 "BellCars$Moment" "thoughtAt" "[I", Cond.methodLink RX0 27 yX2_copyFrom, Cond.instanceMethod yX2_copyFrom, Cond.selects RX2 yX2_copyFrom yX2_copyFrom, Cond.initialized RX2, Cond.code yX2_copyFrom cX2_copyFrom 3 none, Cond.fieldLink RX2 18 "BellCars$Past" "size" "I", Cond.fieldLink RX2 30 "BellCars$Past" "oldest" "I", Cond.fieldLink RX2 11 "BellCars$Past" "moments" "[LBellCars$Moment;", Cond.methodLink RX2 22 yX2_placeOf, Cond.instanceMethod yX2_placeOf, Cond.selects RX2 yX2_placeOf yX2_placeOf, Cond.code yX2_placeOf cX2_placeOf 2 (some .int), Cond.methodLink RX2 26 yX1_copyFrom]
def wsX5_back : List Cond := .code yX5_back cX5_back 2 (some .int) :: ((wsX5_back_r1 ++ wsX5_back_r2) ++ wsX50 ++ wsX00 ++ wsX10 ++ wsX20)
def wsX5_count : List Cond := .code yX5_count cX5_count 2 (some .int) :: ([.fieldLink RX5 19 "BellCars" "told" "LBellCars$Told;", .fieldLink RX5 200 "BellCars$Told" "riders" "I", .fieldLink RX5 157 "BellCars$Told" "line" "I", .fieldLink RX5 194 "BellCars" "seenCount" "I", .fieldLink RX5 29 "BellCars" "present" "LBellCars$Image;", .fieldLink RX5 119 "BellCars$Image" "past" "LBellCars$Past;", .fieldLink RX5 148 "BellCars$Past" "size" "I", .fieldLink RX5 12 "BellCars" "text" "LBellCars$Text;", .fieldLink RX5 58 "BellCars$Text" "length" "I"] ++ wsX50 ++ wsX40 ++ wsX00 ++ wsX20 ++ wsX30)
def wsX5_trace : List Cond := .code yX5_trace cX5_trace 1 (some .long) :: ([.fieldLink RX5 231 "BellCars" "traceSum" "J"] ++ wsX50)
def wsX6_plain : List Cond := .code yX6_plain cX6_plain 1 none :: ([.fieldLink RX6 13 "BellCarsModel" "riders" "[I", .fieldLink RX6 26 "BellCarsModel" "line" "[I", .fieldLink RX6 88 "BellCarsModel" "lineTold" "Z"] ++ wsX60)
def wsX6_takeDraft : List Cond := .code yX6_takeDraft cX6_takeDraft 2 none :: ([.fieldLink RX6 13 "BellCarsModel" "riders" "[I", .fieldLink RX6 26 "BellCarsModel" "line" "[I", .fieldLink RX6 29 "BellCarsModel" "now" "[I", .fieldLink RX6 20 "BellCarsModel" "looks" "[I", .fieldLink RX6 23 "BellCarsModel" "law" "[I", .fieldLink RX6 17 "BellCarsModel" "draftSeat" "[I", .fieldLink RX6 96 "BellCarsModel" "seen" "I", .fieldLink RX6 32 "BellCarsModel" "isKept" "[Z"] ++ wsX60)
def wsX6_init_r1 : List Cond := [Cond.methodLink RX6 1 objectInit, Cond.instanceMethod objectInit, Cond.code objectInit ⟨#[0xb1]⟩ 1 none, Cond.arrayClass .byte, Cond.fieldLink RX6 7 "BellCarsModel" "text" "[B", Cond.arrayClass .int, Cond.fieldLink RX6 13 "BellCarsModel" "riders" "[I", Cond.fieldLink RX6 17 "BellCarsModel" "draftSeat" "[I", Cond.fieldLink RX6 20 "BellCarsModel" "looks" "[I", Cond.fieldLink RX6 23 "BellCarsModel" "law" "[I", Cond.fieldLink RX6 26 "BellCarsModel" "line" "[I", Cond.fieldLink RX6 29 "BellCarsModel" "now" "[I", Cond.arrayClass .boolean, Cond.fieldLink RX6 32 "BellCarsModel" "isKept" "[Z", Cond.fieldLink RX6 36 "BellCarsModel" "tried" "[I", Cond.fieldLink RX6 39 "BellCarsModel" "row" "[I", Cond.fieldLink RX6 42 "BellCarsModel" "factOf" "[I", Cond.fieldLink RX6 45 "BellCarsModel" "factWhom" "[I", Cond.methodLink RX6 48 yX6_plain, Cond.instanceMethod yX6_plain, Cond.selects RX6 yX6_plain yX6_plain, Cond.initialized RX6, Cond.code yX6_plain cX6_plain 1 none, Cond.fieldLink RX6 88 "BellCarsModel" "lineTold" "Z"]
def wsX6_init_r2 : List Cond := [Cond.methodLink RX6 51 yX6_takeDraft, Cond.instanceMethod yX6_takeDraft, Cond.selects RX6 yX6_takeDraft yX6_takeDraft, Cond.code yX6_takeDraft cX6_takeDraft 2 none, Cond.fieldLink RX6 96 "BellCarsModel" "seen" "I"]
def wsX6_init : List Cond := .code yX6_init cX6_init 1 none :: ((wsX6_init_r1 ++ wsX6_init_r2) ++ wsX60)
def wsX6_in : List Cond := .code yX6_in cX6_in 3 (some .boolean) :: ([])
def wsX6_type : List Cond := .code yX6_type cX6_type 2 (some .int) :: ([.fieldLink RX6 58 "BellCarsModel" "typed" "I", .fieldLink RX6 7 "BellCarsModel" "text" "[B", .methodLink RX6 54 yX6_in, .static yX6_in, .initialized RX6, .code yX6_in cX6_in 3 (some .boolean)] ++ wsX60)
def wsX6_clear : List Cond := .code yX6_clear cX6_clear 2 (some .int) :: ([.fieldLink RX6 58 "BellCarsModel" "typed" "I"] ++ wsX60)
def wsX6_here : List Cond := .code yX6_here cX6_here 1 (some .int) :: ([.fieldLink RX6 62 "BellCarsModel" "at" "I", .fieldLink RX6 58 "BellCarsModel" "typed" "I", .fieldLink RX6 7 "BellCarsModel" "text" "[B"] ++ wsX60)
def wsX6_step : List Cond := .code yX6_step cX6_step 2 none :: ([.fieldLink RX6 62 "BellCarsModel" "at" "I", .fieldLink RX6 69 "BellCarsModel" "start" "I", .fieldLink RX6 72 "BellCarsModel" "value" "I", .fieldLink RX6 75 "BellCarsModel" "sort" "I", .methodLink RX6 65 yX6_here, .instanceMethod yX6_here, .selects RX6 yX6_here yX6_here, .initialized RX6, .code yX6_here cX6_here 1 (some .int), .fieldLink RX6 58 "BellCarsModel" "typed" "I", .fieldLink RX6 7 "BellCarsModel" "text" "[B", .methodLink RX6 54 yX6_in, .static yX6_in, .code yX6_in cX6_in 3 (some .boolean)] ++ wsX60)
def wsX6_due : List Cond := .code yX6_due cX6_due 3 (some .int) :: ([.fieldLink RX6 72 "BellCarsModel" "value" "I", .fieldLink RX6 78 "BellCarsModel" "fault" "I", .fieldLink RX6 69 "BellCarsModel" "start" "I", .methodLink RX6 81 yX6_step, .instanceMethod yX6_step, .selects RX6 yX6_step yX6_step, .initialized RX6, .code yX6_step cX6_step 2 none, .fieldLink RX6 62 "BellCarsModel" "at" "I", .fieldLink RX6 75 "BellCarsModel" "sort" "I", .methodLink RX6 65 yX6_here, .instanceMethod yX6_here, .selects RX6 yX6_here yX6_here, .code yX6_here cX6_here 1 (some .int), .fieldLink RX6 58 "BellCarsModel" "typed" "I", .fieldLink RX6 7 "BellCarsModel" "text" "[B", .methodLink RX6 54 yX6_in, .static yX6_in, .code yX6_in cX6_in 3 (some .boolean)] ++ wsX60)
def wsX6_number : List Cond := .code yX6_number cX6_number 3 (some .int) :: ([.fieldLink RX6 75 "BellCarsModel" "sort" "I", .fieldLink RX6 72 "BellCarsModel" "value" "I", .methodLink RX6 54 yX6_in, .static yX6_in, .initialized RX6, .code yX6_in cX6_in 3 (some .boolean), .methodLink RX6 84 yX6_due, .instanceMethod yX6_due, .selects RX6 yX6_due yX6_due, .code yX6_due cX6_due 3 (some .int), .fieldLink RX6 78 "BellCarsModel" "fault" "I", .fieldLink RX6 69 "BellCarsModel" "start" "I", .methodLink RX6 81 yX6_step, .instanceMethod yX6_step, .selects RX6 yX6_step yX6_step, .code yX6_step cX6_step 2 none, .fieldLink RX6 62 "BellCarsModel" "at" "I", .methodLink RX6 65 yX6_here, .instanceMethod yX6_here, .selects RX6 yX6_here yX6_here, .code yX6_here cX6_here 1 (some .int), .fieldLink RX6 58 "BellCarsModel" "typed" "I", .fieldLink RX6 7 "BellCarsModel" "text" "[B"] ++ wsX60)
def wsX6_mayBe : List Cond := .code yX6_mayBe cX6_mayBe 2 (some .boolean) :: ([.fieldLink RX6 13 "BellCarsModel" "riders" "[I", .fieldLink RX6 88 "BellCarsModel" "lineTold" "Z"] ++ wsX60)
def wsX6_readRow_r1 : List Cond := [Cond.fieldLink RX6 17 "BellCarsModel" "draftSeat" "[I", Cond.fieldLink RX6 13 "BellCarsModel" "riders" "[I", Cond.fieldLink RX6 20 "BellCarsModel" "looks" "[I", Cond.fieldLink RX6 23 "BellCarsModel" "law" "[I", Cond.fieldLink RX6 26 "BellCarsModel" "line" "[I", Cond.fieldLink RX6 88 "BellCarsModel" "lineTold" "Z", Cond.methodLink RX6 92 yX6_number, Cond.instanceMethod yX6_number, Cond.selects RX6 yX6_number yX6_number, Cond.initialized RX6, Cond.code yX6_number cX6_number 3 (some .int), Cond.fieldLink RX6 75 "BellCarsModel" "sort" "I", Cond.fieldLink RX6 72 "BellCarsModel" "value" "I", Cond.methodLink RX6 54 yX6_in, Cond.static yX6_in, Cond.code yX6_in cX6_in 3 (some .boolean), Cond.methodLink RX6 84 yX6_due, Cond.instanceMethod yX6_due, Cond.selects RX6 yX6_due yX6_due, Cond.code yX6_due cX6_due 3 (some .int), Cond.fieldLink RX6 78 "BellCarsModel" "fault" "I", Cond.fieldLink RX6 69 "BellCarsModel" "start" "I", Cond.methodLink RX6 81 yX6_step, Cond.instanceMethod yX6_step]
def wsX6_readRow_r2 : List Cond := [Cond.selects RX6 yX6_step yX6_step, Cond.code yX6_step cX6_step 2 none, Cond.fieldLink RX6 62 "BellCarsModel" "at" "I", Cond.methodLink RX6 65 yX6_here, Cond.instanceMethod yX6_here, Cond.selects RX6 yX6_here yX6_here, Cond.code yX6_here cX6_here 1 (some .int), Cond.fieldLink RX6 58 "BellCarsModel" "typed" "I", Cond.fieldLink RX6 7 "BellCarsModel" "text" "[B"]
def wsX6_readRow : List Cond := .code yX6_readRow cX6_readRow 2 none :: ((wsX6_readRow_r1 ++ wsX6_readRow_r2) ++ wsX60)
def wsX6_car_r1 : List Cond := [Cond.fieldLink RX6 62 "BellCarsModel" "at" "I", Cond.fieldLink RX6 78 "BellCarsModel" "fault" "I", Cond.fieldLink RX6 75 "BellCarsModel" "sort" "I", Cond.fieldLink RX6 58 "BellCarsModel" "typed" "I", Cond.methodLink RX6 48 yX6_plain, Cond.instanceMethod yX6_plain, Cond.selects RX6 yX6_plain yX6_plain, Cond.initialized RX6, Cond.code yX6_plain cX6_plain 1 none, Cond.fieldLink RX6 13 "BellCarsModel" "riders" "[I", Cond.fieldLink RX6 26 "BellCarsModel" "line" "[I", Cond.fieldLink RX6 88 "BellCarsModel" "lineTold" "Z", Cond.methodLink RX6 81 yX6_step, Cond.instanceMethod yX6_step, Cond.selects RX6 yX6_step yX6_step, Cond.code yX6_step cX6_step 2 none, Cond.fieldLink RX6 69 "BellCarsModel" "start" "I", Cond.fieldLink RX6 72 "BellCarsModel" "value" "I", Cond.methodLink RX6 65 yX6_here, Cond.instanceMethod yX6_here, Cond.selects RX6 yX6_here yX6_here, Cond.code yX6_here cX6_here 1 (some .int), Cond.fieldLink RX6 7 "BellCarsModel" "text" "[B", Cond.methodLink RX6 54 yX6_in]
def wsX6_car_r2 : List Cond := [Cond.static yX6_in, Cond.code yX6_in cX6_in 3 (some .boolean), Cond.methodLink RX6 99 yX6_mayBe, Cond.instanceMethod yX6_mayBe, Cond.selects RX6 yX6_mayBe yX6_mayBe, Cond.code yX6_mayBe cX6_mayBe 2 (some .boolean), Cond.methodLink RX6 84 yX6_due, Cond.instanceMethod yX6_due, Cond.selects RX6 yX6_due yX6_due, Cond.code yX6_due cX6_due 3 (some .int), Cond.methodLink RX6 103 yX6_readRow, Cond.instanceMethod yX6_readRow, Cond.selects RX6 yX6_readRow yX6_readRow, Cond.code yX6_readRow cX6_readRow 2 none, Cond.fieldLink RX6 17 "BellCarsModel" "draftSeat" "[I", Cond.fieldLink RX6 20 "BellCarsModel" "looks" "[I", Cond.fieldLink RX6 23 "BellCarsModel" "law" "[I", Cond.methodLink RX6 92 yX6_number, Cond.instanceMethod yX6_number, Cond.selects RX6 yX6_number yX6_number, Cond.code yX6_number cX6_number 3 (some .int), Cond.methodLink RX6 51 yX6_takeDraft, Cond.instanceMethod yX6_takeDraft, Cond.selects RX6 yX6_takeDraft yX6_takeDraft]
def wsX6_car_r3 : List Cond := [Cond.code yX6_takeDraft cX6_takeDraft 2 none, Cond.fieldLink RX6 29 "BellCarsModel" "now" "[I", Cond.fieldLink RX6 96 "BellCarsModel" "seen" "I", Cond.fieldLink RX6 32 "BellCarsModel" "isKept" "[Z"]
def wsX6_car : List Cond := .code yX6_car cX6_car 3 (some .int) :: ((wsX6_car_r1 ++ (wsX6_car_r2 ++ wsX6_car_r3)) ++ wsX60)
def wsX6_take : List Cond := .code yX6_take cX6_take 2 none :: ([.fieldLink RX6 36 "BellCarsModel" "tried" "[I", .fieldLink RX6 29 "BellCarsModel" "now" "[I"] ++ wsX60)
def wsX6_isRider : List Cond := .code yX6_isRider cX6_isRider 2 (some .boolean) :: ([.fieldLink RX6 13 "BellCarsModel" "riders" "[I", .methodLink RX6 54 yX6_in, .static yX6_in, .initialized RX6, .code yX6_in cX6_in 3 (some .boolean)] ++ wsX60)
def wsX6_isAboard : List Cond := .code yX6_isAboard cX6_isAboard 3 (some .boolean) :: ([])
def wsX6_isHere : List Cond := .code yX6_isHere cX6_isHere 2 (some .boolean) :: ([.fieldLink RX6 29 "BellCarsModel" "now" "[I", .methodLink RX6 107 yX6_isRider, .instanceMethod yX6_isRider, .selects RX6 yX6_isRider yX6_isRider, .initialized RX6, .code yX6_isRider cX6_isRider 2 (some .boolean), .fieldLink RX6 13 "BellCarsModel" "riders" "[I", .methodLink RX6 54 yX6_in, .static yX6_in, .code yX6_in cX6_in 3 (some .boolean), .methodLink RX6 110 yX6_isAboard, .instanceMethod yX6_isAboard, .selects RX6 yX6_isAboard yX6_isAboard, .code yX6_isAboard cX6_isAboard 3 (some .boolean)] ++ wsX60)
def wsX6_manyOf : List Cond := .code yX6_manyOf cX6_manyOf 3 (some .int) :: ([])
def wsX6_apart : List Cond := .code yX6_apart cX6_apart 2 (some .int) :: ([])
def wsX6_isNearer : List Cond := .code yX6_isNearer cX6_isNearer 6 (some .boolean) :: ([.fieldLink RX6 20 "BellCarsModel" "looks" "[I", .methodLink RX6 114 yX6_apart, .static yX6_apart, .initialized RX6, .code yX6_apart cX6_apart 2 (some .int)] ++ wsX60)
def wsX6_whom : List Cond := .code yX6_whom cX6_whom 7 (some .int) :: ([.fieldLink RX6 13 "BellCarsModel" "riders" "[I", .methodLink RX6 110 yX6_isAboard, .instanceMethod yX6_isAboard, .selects RX6 yX6_isAboard yX6_isAboard, .initialized RX6, .code yX6_isAboard cX6_isAboard 3 (some .boolean), .methodLink RX6 117 yX6_isNearer, .instanceMethod yX6_isNearer, .selects RX6 yX6_isNearer yX6_isNearer, .code yX6_isNearer cX6_isNearer 6 (some .boolean), .fieldLink RX6 20 "BellCarsModel" "looks" "[I", .methodLink RX6 114 yX6_apart, .static yX6_apart, .code yX6_apart cX6_apart 2 (some .int)] ++ wsX60)
def wsX6_byRing : List Cond := .code yX6_byRing cX6_byRing 8 (some .int) :: ([.fieldLink RX6 13 "BellCarsModel" "riders" "[I"] ++ wsX60)
def wsX6_byTwo : List Cond := .code yX6_byTwo cX6_byTwo 6 (some .int) :: ([.fieldLink RX6 13 "BellCarsModel" "riders" "[I", .fieldLink RX6 29 "BellCarsModel" "now" "[I", .methodLink RX6 110 yX6_isAboard, .instanceMethod yX6_isAboard, .selects RX6 yX6_isAboard yX6_isAboard, .initialized RX6, .code yX6_isAboard cX6_isAboard 3 (some .boolean)] ++ wsX60)
def wsX6_rider_r1 : List Cond := [Cond.fieldLink RX6 29 "BellCarsModel" "now" "[I", Cond.fieldLink RX6 20 "BellCarsModel" "looks" "[I", Cond.fieldLink RX6 23 "BellCarsModel" "law" "[I", Cond.methodLink RX6 107 yX6_isRider, Cond.instanceMethod yX6_isRider, Cond.selects RX6 yX6_isRider yX6_isRider, Cond.initialized RX6, Cond.code yX6_isRider cX6_isRider 2 (some .boolean), Cond.fieldLink RX6 13 "BellCarsModel" "riders" "[I", Cond.methodLink RX6 54 yX6_in, Cond.static yX6_in, Cond.code yX6_in cX6_in 3 (some .boolean), Cond.methodLink RX6 110 yX6_isAboard, Cond.instanceMethod yX6_isAboard, Cond.selects RX6 yX6_isAboard yX6_isAboard, Cond.code yX6_isAboard cX6_isAboard 3 (some .boolean), Cond.methodLink RX6 121 yX6_whom, Cond.instanceMethod yX6_whom, Cond.selects RX6 yX6_whom yX6_whom, Cond.code yX6_whom cX6_whom 7 (some .int), Cond.methodLink RX6 117 yX6_isNearer, Cond.instanceMethod yX6_isNearer, Cond.selects RX6 yX6_isNearer yX6_isNearer, Cond.code yX6_isNearer cX6_isNearer 6 (some .boolean)]
def wsX6_rider_r2 : List Cond := [Cond.methodLink RX6 114 yX6_apart, Cond.static yX6_apart, Cond.code yX6_apart cX6_apart 2 (some .int), Cond.methodLink RX6 125 yX6_byRing, Cond.instanceMethod yX6_byRing, Cond.selects RX6 yX6_byRing yX6_byRing, Cond.code yX6_byRing cX6_byRing 8 (some .int), Cond.methodLink RX6 128 yX6_byTwo, Cond.instanceMethod yX6_byTwo, Cond.selects RX6 yX6_byTwo yX6_byTwo, Cond.code yX6_byTwo cX6_byTwo 6 (some .int)]
def wsX6_rider : List Cond := .code yX6_rider cX6_rider 4 (some .int) :: ((wsX6_rider_r1 ++ wsX6_rider_r2) ++ wsX60)
def wsX6_latest : List Cond := .code yX6_latest cX6_latest 3 (some .int) :: ([.fieldLink RX6 29 "BellCarsModel" "now" "[I", .methodLink RX6 107 yX6_isRider, .instanceMethod yX6_isRider, .selects RX6 yX6_isRider yX6_isRider, .initialized RX6, .code yX6_isRider cX6_isRider 2 (some .boolean), .fieldLink RX6 13 "BellCarsModel" "riders" "[I", .methodLink RX6 54 yX6_in, .static yX6_in, .code yX6_in cX6_in 3 (some .boolean)] ++ wsX60)
def wsX6_know : List Cond := .code yX6_know cX6_know 2 none :: ([.fieldLink RX6 29 "BellCarsModel" "now" "[I"] ++ wsX60)
def wsX6_think : List Cond := .code yX6_think cX6_think 3 none :: ([])
def wsX6_ride : List Cond := .code yX6_ride cX6_ride 4 none :: ([.fieldLink RX6 13 "BellCarsModel" "riders" "[I", .fieldLink RX6 23 "BellCarsModel" "law" "[I", .methodLink RX6 110 yX6_isAboard, .instanceMethod yX6_isAboard, .selects RX6 yX6_isAboard yX6_isAboard, .initialized RX6, .code yX6_isAboard cX6_isAboard 3 (some .boolean), .methodLink RX6 121 yX6_whom, .instanceMethod yX6_whom, .selects RX6 yX6_whom yX6_whom, .code yX6_whom cX6_whom 7 (some .int), .methodLink RX6 117 yX6_isNearer, .instanceMethod yX6_isNearer, .selects RX6 yX6_isNearer yX6_isNearer, .code yX6_isNearer cX6_isNearer 6 (some .boolean), .fieldLink RX6 20 "BellCarsModel" "looks" "[I", .methodLink RX6 114 yX6_apart, .static yX6_apart, .code yX6_apart cX6_apart 2 (some .int), .methodLink RX6 132 yX6_think, .static yX6_think, .code yX6_think cX6_think 3 none] ++ wsX60)
def wsX6_rides_r1 : List Cond := [Cond.fieldLink RX6 29 "BellCarsModel" "now" "[I", Cond.methodLink RX6 136 yX6_know, Cond.instanceMethod yX6_know, Cond.selects RX6 yX6_know yX6_know, Cond.initialized RX6, Cond.code yX6_know cX6_know 2 none, Cond.methodLink RX6 139 yX6_ride, Cond.instanceMethod yX6_ride, Cond.selects RX6 yX6_ride yX6_ride, Cond.code yX6_ride cX6_ride 4 none, Cond.fieldLink RX6 13 "BellCarsModel" "riders" "[I", Cond.fieldLink RX6 23 "BellCarsModel" "law" "[I", Cond.methodLink RX6 110 yX6_isAboard, Cond.instanceMethod yX6_isAboard, Cond.selects RX6 yX6_isAboard yX6_isAboard, Cond.code yX6_isAboard cX6_isAboard 3 (some .boolean), Cond.methodLink RX6 121 yX6_whom, Cond.instanceMethod yX6_whom, Cond.selects RX6 yX6_whom yX6_whom, Cond.code yX6_whom cX6_whom 7 (some .int), Cond.methodLink RX6 117 yX6_isNearer, Cond.instanceMethod yX6_isNearer, Cond.selects RX6 yX6_isNearer yX6_isNearer, Cond.code yX6_isNearer cX6_isNearer 6 (some .boolean)]
def wsX6_rides_r2 : List Cond := [Cond.fieldLink RX6 20 "BellCarsModel" "looks" "[I", Cond.methodLink RX6 114 yX6_apart, Cond.static yX6_apart, Cond.code yX6_apart cX6_apart 2 (some .int), Cond.methodLink RX6 132 yX6_think, Cond.static yX6_think, Cond.code yX6_think cX6_think 3 none]
def wsX6_rides : List Cond := .code yX6_rides cX6_rides 1 (some .int) :: ((wsX6_rides_r1 ++ wsX6_rides_r2) ++ wsX60)
def wsX6_thinks : List Cond := .code yX6_thinks cX6_thinks 3 (some .int) :: ([.fieldLink RX6 29 "BellCarsModel" "now" "[I", .methodLink RX6 107 yX6_isRider, .instanceMethod yX6_isRider, .selects RX6 yX6_isRider yX6_isRider, .initialized RX6, .code yX6_isRider cX6_isRider 2 (some .boolean), .fieldLink RX6 13 "BellCarsModel" "riders" "[I", .methodLink RX6 54 yX6_in, .static yX6_in, .code yX6_in cX6_in 3 (some .boolean), .methodLink RX6 110 yX6_isAboard, .instanceMethod yX6_isAboard, .selects RX6 yX6_isAboard yX6_isAboard, .code yX6_isAboard cX6_isAboard 3 (some .boolean), .methodLink RX6 136 yX6_know, .instanceMethod yX6_know, .selects RX6 yX6_know yX6_know, .code yX6_know cX6_know 2 none, .methodLink RX6 132 yX6_think, .static yX6_think, .code yX6_think cX6_think 3 none] ++ wsX60)
def wsX6_down : List Cond := .code yX6_down cX6_down 2 (some .int) :: ([.fieldLink RX6 29 "BellCarsModel" "now" "[I", .methodLink RX6 136 yX6_know, .instanceMethod yX6_know, .selects RX6 yX6_know yX6_know, .initialized RX6, .code yX6_know cX6_know 2 none] ++ wsX60)
def wsX6_rings_r1 : List Cond := [Cond.fieldLink RX6 29 "BellCarsModel" "now" "[I", Cond.methodLink RX6 107 yX6_isRider, Cond.instanceMethod yX6_isRider, Cond.selects RX6 yX6_isRider yX6_isRider, Cond.initialized RX6, Cond.code yX6_isRider cX6_isRider 2 (some .boolean), Cond.fieldLink RX6 13 "BellCarsModel" "riders" "[I", Cond.methodLink RX6 54 yX6_in, Cond.static yX6_in, Cond.code yX6_in cX6_in 3 (some .boolean), Cond.methodLink RX6 110 yX6_isAboard, Cond.instanceMethod yX6_isAboard, Cond.selects RX6 yX6_isAboard yX6_isAboard, Cond.code yX6_isAboard cX6_isAboard 3 (some .boolean), Cond.methodLink RX6 125 yX6_byRing, Cond.instanceMethod yX6_byRing, Cond.selects RX6 yX6_byRing yX6_byRing, Cond.code yX6_byRing cX6_byRing 8 (some .int), Cond.methodLink RX6 143 yX6_down, Cond.instanceMethod yX6_down, Cond.selects RX6 yX6_down yX6_down, Cond.code yX6_down cX6_down 2 (some .int), Cond.methodLink RX6 136 yX6_know, Cond.instanceMethod yX6_know]
def wsX6_rings_r2 : List Cond := [Cond.selects RX6 yX6_know yX6_know, Cond.code yX6_know cX6_know 2 none]
def wsX6_rings : List Cond := .code yX6_rings cX6_rings 2 (some .int) :: ((wsX6_rings_r1 ++ wsX6_rings_r2) ++ wsX60)
def wsX6_twice_r1 : List Cond := [Cond.fieldLink RX6 29 "BellCarsModel" "now" "[I", Cond.methodLink RX6 107 yX6_isRider, Cond.instanceMethod yX6_isRider, Cond.selects RX6 yX6_isRider yX6_isRider, Cond.initialized RX6, Cond.code yX6_isRider cX6_isRider 2 (some .boolean), Cond.fieldLink RX6 13 "BellCarsModel" "riders" "[I", Cond.methodLink RX6 54 yX6_in, Cond.static yX6_in, Cond.code yX6_in cX6_in 3 (some .boolean), Cond.methodLink RX6 110 yX6_isAboard, Cond.instanceMethod yX6_isAboard, Cond.selects RX6 yX6_isAboard yX6_isAboard, Cond.code yX6_isAboard cX6_isAboard 3 (some .boolean), Cond.methodLink RX6 128 yX6_byTwo, Cond.instanceMethod yX6_byTwo, Cond.selects RX6 yX6_byTwo yX6_byTwo, Cond.code yX6_byTwo cX6_byTwo 6 (some .int), Cond.methodLink RX6 143 yX6_down, Cond.instanceMethod yX6_down, Cond.selects RX6 yX6_down yX6_down, Cond.code yX6_down cX6_down 2 (some .int), Cond.methodLink RX6 136 yX6_know, Cond.instanceMethod yX6_know]
def wsX6_twice_r2 : List Cond := [Cond.selects RX6 yX6_know yX6_know, Cond.code yX6_know cX6_know 2 none]
def wsX6_twice : List Cond := .code yX6_twice cX6_twice 2 (some .int) :: ((wsX6_twice_r1 ++ wsX6_twice_r2) ++ wsX60)
def wsX6_seats : List Cond := .code yX6_seats cX6_seats 4 (some .int) :: ([.fieldLink RX6 29 "BellCarsModel" "now" "[I", .methodLink RX6 107 yX6_isRider, .instanceMethod yX6_isRider, .selects RX6 yX6_isRider yX6_isRider, .initialized RX6, .code yX6_isRider cX6_isRider 2 (some .boolean), .fieldLink RX6 13 "BellCarsModel" "riders" "[I", .methodLink RX6 54 yX6_in, .static yX6_in, .code yX6_in cX6_in 3 (some .boolean), .methodLink RX6 110 yX6_isAboard, .instanceMethod yX6_isAboard, .selects RX6 yX6_isAboard yX6_isAboard, .code yX6_isAboard cX6_isAboard 3 (some .boolean), .methodLink RX6 136 yX6_know, .instanceMethod yX6_know, .selects RX6 yX6_know yX6_know, .code yX6_know cX6_know 2 none] ++ wsX60)
def wsX6_boards : List Cond := .code yX6_boards cX6_boards 2 (some .int) :: ([.fieldLink RX6 29 "BellCarsModel" "now" "[I", .methodLink RX6 107 yX6_isRider, .instanceMethod yX6_isRider, .selects RX6 yX6_isRider yX6_isRider, .initialized RX6, .code yX6_isRider cX6_isRider 2 (some .boolean), .fieldLink RX6 13 "BellCarsModel" "riders" "[I", .methodLink RX6 54 yX6_in, .static yX6_in, .code yX6_in cX6_in 3 (some .boolean), .methodLink RX6 110 yX6_isAboard, .instanceMethod yX6_isAboard, .selects RX6 yX6_isAboard yX6_isAboard, .code yX6_isAboard cX6_isAboard 3 (some .boolean), .methodLink RX6 136 yX6_know, .instanceMethod yX6_know, .selects RX6 yX6_know yX6_know, .code yX6_know cX6_know 2 none, .methodLink RX6 146 yX6_manyOf, .static yX6_manyOf, .code yX6_manyOf cX6_manyOf 3 (some .int)] ++ wsX60)
def wsX6_undo : List Cond := .code yX6_undo cX6_undo 2 (some .int) :: ([.fieldLink RX6 29 "BellCarsModel" "now" "[I"] ++ wsX60)
def wsX6_now : List Cond := .code yX6_now cX6_now 2 (some .int) :: ([.fieldLink RX6 29 "BellCarsModel" "now" "[I", .fieldLink RX6 26 "BellCarsModel" "line" "[I"] ++ wsX60)
def wsX6_doesGo : List Cond := .code yX6_doesGo cX6_doesGo 11 (some .boolean) :: ([.fieldLink RX6 39 "BellCarsModel" "row" "[I", .fieldLink RX6 13 "BellCarsModel" "riders" "[I", .methodLink RX6 125 yX6_byRing, .instanceMethod yX6_byRing, .selects RX6 yX6_byRing yX6_byRing, .initialized RX6, .code yX6_byRing cX6_byRing 8 (some .int)] ++ wsX60)
def wsX6_rowsOf : List Cond := .code yX6_rowsOf cX6_rowsOf 7 (some .int) :: ([.methodLink RX6 146 yX6_manyOf, .static yX6_manyOf, .initialized RX6, .code yX6_manyOf cX6_manyOf 3 (some .int), .methodLink RX6 149 yX6_doesGo, .instanceMethod yX6_doesGo, .selects RX6 yX6_doesGo yX6_doesGo, .code yX6_doesGo cX6_doesGo 11 (some .boolean), .fieldLink RX6 39 "BellCarsModel" "row" "[I", .fieldLink RX6 13 "BellCarsModel" "riders" "[I", .methodLink RX6 125 yX6_byRing, .instanceMethod yX6_byRing, .selects RX6 yX6_byRing yX6_byRing, .code yX6_byRing cX6_byRing 8 (some .int)] ++ wsX60)
def wsX6_isSet : List Cond := .code yX6_isSet cX6_isSet 2 (some .boolean) :: ([.fieldLink RX6 13 "BellCarsModel" "riders" "[I", .fieldLink RX6 29 "BellCarsModel" "now" "[I", .methodLink RX6 54 yX6_in, .static yX6_in, .initialized RX6, .code yX6_in cX6_in 3 (some .boolean)] ++ wsX60)
def wsX6_row_r1 : List Cond := [Cond.fieldLink RX6 29 "BellCarsModel" "now" "[I", Cond.fieldLink RX6 39 "BellCarsModel" "row" "[I", Cond.methodLink RX6 153 yX6_isSet, Cond.instanceMethod yX6_isSet, Cond.selects RX6 yX6_isSet yX6_isSet, Cond.initialized RX6, Cond.code yX6_isSet cX6_isSet 2 (some .boolean), Cond.fieldLink RX6 13 "BellCarsModel" "riders" "[I", Cond.methodLink RX6 54 yX6_in, Cond.static yX6_in, Cond.code yX6_in cX6_in 3 (some .boolean), Cond.methodLink RX6 156 yX6_rowsOf, Cond.instanceMethod yX6_rowsOf, Cond.selects RX6 yX6_rowsOf yX6_rowsOf, Cond.code yX6_rowsOf cX6_rowsOf 7 (some .int), Cond.methodLink RX6 146 yX6_manyOf, Cond.static yX6_manyOf, Cond.code yX6_manyOf cX6_manyOf 3 (some .int), Cond.methodLink RX6 149 yX6_doesGo, Cond.instanceMethod yX6_doesGo, Cond.selects RX6 yX6_doesGo yX6_doesGo, Cond.code yX6_doesGo cX6_doesGo 11 (some .boolean), Cond.methodLink RX6 125 yX6_byRing, Cond.instanceMethod yX6_byRing]
def wsX6_row_r2 : List Cond := [Cond.selects RX6 yX6_byRing yX6_byRing, Cond.code yX6_byRing cX6_byRing 8 (some .int)]
def wsX6_row : List Cond := .code yX6_row cX6_row 4 (some .int) :: ((wsX6_row_r1 ++ wsX6_row_r2) ++ wsX60)
def wsX6_soon_r1 : List Cond := [Cond.fieldLink RX6 36 "BellCarsModel" "tried" "[I", Cond.methodLink RX6 153 yX6_isSet, Cond.instanceMethod yX6_isSet, Cond.selects RX6 yX6_isSet yX6_isSet, Cond.initialized RX6, Cond.code yX6_isSet cX6_isSet 2 (some .boolean), Cond.fieldLink RX6 13 "BellCarsModel" "riders" "[I", Cond.fieldLink RX6 29 "BellCarsModel" "now" "[I", Cond.methodLink RX6 54 yX6_in, Cond.static yX6_in, Cond.code yX6_in cX6_in 3 (some .boolean), Cond.methodLink RX6 160 yX6_take, Cond.instanceMethod yX6_take, Cond.selects RX6 yX6_take yX6_take, Cond.code yX6_take cX6_take 2 none, Cond.methodLink RX6 156 yX6_rowsOf, Cond.instanceMethod yX6_rowsOf, Cond.selects RX6 yX6_rowsOf yX6_rowsOf, Cond.code yX6_rowsOf cX6_rowsOf 7 (some .int), Cond.methodLink RX6 146 yX6_manyOf, Cond.static yX6_manyOf, Cond.code yX6_manyOf cX6_manyOf 3 (some .int), Cond.methodLink RX6 149 yX6_doesGo, Cond.instanceMethod yX6_doesGo]
def wsX6_soon_r2 : List Cond := [Cond.selects RX6 yX6_doesGo yX6_doesGo, Cond.code yX6_doesGo cX6_doesGo 11 (some .boolean), Cond.fieldLink RX6 39 "BellCarsModel" "row" "[I", Cond.methodLink RX6 125 yX6_byRing, Cond.instanceMethod yX6_byRing, Cond.selects RX6 yX6_byRing yX6_byRing, Cond.code yX6_byRing cX6_byRing 8 (some .int), Cond.methodLink RX6 139 yX6_ride, Cond.instanceMethod yX6_ride, Cond.selects RX6 yX6_ride yX6_ride, Cond.code yX6_ride cX6_ride 4 none, Cond.fieldLink RX6 23 "BellCarsModel" "law" "[I", Cond.methodLink RX6 110 yX6_isAboard, Cond.instanceMethod yX6_isAboard, Cond.selects RX6 yX6_isAboard yX6_isAboard, Cond.code yX6_isAboard cX6_isAboard 3 (some .boolean), Cond.methodLink RX6 121 yX6_whom, Cond.instanceMethod yX6_whom, Cond.selects RX6 yX6_whom yX6_whom, Cond.code yX6_whom cX6_whom 7 (some .int), Cond.methodLink RX6 117 yX6_isNearer, Cond.instanceMethod yX6_isNearer, Cond.selects RX6 yX6_isNearer yX6_isNearer, Cond.code yX6_isNearer cX6_isNearer 6 (some .boolean)]
def wsX6_soon_r3 : List Cond := [Cond.fieldLink RX6 20 "BellCarsModel" "looks" "[I", Cond.methodLink RX6 114 yX6_apart, Cond.static yX6_apart, Cond.code yX6_apart cX6_apart 2 (some .int), Cond.methodLink RX6 132 yX6_think, Cond.static yX6_think, Cond.code yX6_think cX6_think 3 none]
def wsX6_soon : List Cond := .code yX6_soon cX6_soon 3 (some .int) :: ((wsX6_soon_r1 ++ (wsX6_soon_r2 ++ wsX6_soon_r3)) ++ wsX60)
def wsX6_odds : List Cond := .code yX6_odds cX6_odds 11 (some .int) :: ([.fieldLink RX6 29 "BellCarsModel" "now" "[I", .fieldLink RX6 13 "BellCarsModel" "riders" "[I", .methodLink RX6 163 yX6_isHere, .instanceMethod yX6_isHere, .selects RX6 yX6_isHere yX6_isHere, .initialized RX6, .code yX6_isHere cX6_isHere 2 (some .boolean), .methodLink RX6 107 yX6_isRider, .instanceMethod yX6_isRider, .selects RX6 yX6_isRider yX6_isRider, .code yX6_isRider cX6_isRider 2 (some .boolean), .methodLink RX6 54 yX6_in, .static yX6_in, .code yX6_in cX6_in 3 (some .boolean), .methodLink RX6 110 yX6_isAboard, .instanceMethod yX6_isAboard, .selects RX6 yX6_isAboard yX6_isAboard, .code yX6_isAboard cX6_isAboard 3 (some .boolean)] ++ wsX60)
def wsX6_circle_r1 : List Cond := [Cond.fieldLink RX6 29 "BellCarsModel" "now" "[I", Cond.fieldLink RX6 23 "BellCarsModel" "law" "[I", Cond.methodLink RX6 163 yX6_isHere, Cond.instanceMethod yX6_isHere, Cond.selects RX6 yX6_isHere yX6_isHere, Cond.initialized RX6, Cond.code yX6_isHere cX6_isHere 2 (some .boolean), Cond.methodLink RX6 107 yX6_isRider, Cond.instanceMethod yX6_isRider, Cond.selects RX6 yX6_isRider yX6_isRider, Cond.code yX6_isRider cX6_isRider 2 (some .boolean), Cond.fieldLink RX6 13 "BellCarsModel" "riders" "[I", Cond.methodLink RX6 54 yX6_in, Cond.static yX6_in, Cond.code yX6_in cX6_in 3 (some .boolean), Cond.methodLink RX6 110 yX6_isAboard, Cond.instanceMethod yX6_isAboard, Cond.selects RX6 yX6_isAboard yX6_isAboard, Cond.code yX6_isAboard cX6_isAboard 3 (some .boolean), Cond.methodLink RX6 121 yX6_whom, Cond.instanceMethod yX6_whom, Cond.selects RX6 yX6_whom yX6_whom, Cond.code yX6_whom cX6_whom 7 (some .int), Cond.methodLink RX6 117 yX6_isNearer]
def wsX6_circle_r2 : List Cond := [Cond.instanceMethod yX6_isNearer, Cond.selects RX6 yX6_isNearer yX6_isNearer, Cond.code yX6_isNearer cX6_isNearer 6 (some .boolean), Cond.fieldLink RX6 20 "BellCarsModel" "looks" "[I", Cond.methodLink RX6 114 yX6_apart, Cond.static yX6_apart, Cond.code yX6_apart cX6_apart 2 (some .int)]
def wsX6_circle : List Cond := .code yX6_circle cX6_circle 7 (some .int) :: ((wsX6_circle_r1 ++ wsX6_circle_r2) ++ wsX60)
def wsX6_chair_r1 : List Cond := [Cond.fieldLink RX6 36 "BellCarsModel" "tried" "[I", Cond.methodLink RX6 163 yX6_isHere, Cond.instanceMethod yX6_isHere, Cond.selects RX6 yX6_isHere yX6_isHere, Cond.initialized RX6, Cond.code yX6_isHere cX6_isHere 2 (some .boolean), Cond.fieldLink RX6 29 "BellCarsModel" "now" "[I", Cond.methodLink RX6 107 yX6_isRider, Cond.instanceMethod yX6_isRider, Cond.selects RX6 yX6_isRider yX6_isRider, Cond.code yX6_isRider cX6_isRider 2 (some .boolean), Cond.fieldLink RX6 13 "BellCarsModel" "riders" "[I", Cond.methodLink RX6 54 yX6_in, Cond.static yX6_in, Cond.code yX6_in cX6_in 3 (some .boolean), Cond.methodLink RX6 110 yX6_isAboard, Cond.instanceMethod yX6_isAboard, Cond.selects RX6 yX6_isAboard yX6_isAboard, Cond.code yX6_isAboard cX6_isAboard 3 (some .boolean), Cond.methodLink RX6 160 yX6_take, Cond.instanceMethod yX6_take, Cond.selects RX6 yX6_take yX6_take, Cond.code yX6_take cX6_take 2 none, Cond.methodLink RX6 121 yX6_whom]
def wsX6_chair_r2 : List Cond := [Cond.instanceMethod yX6_whom, Cond.selects RX6 yX6_whom yX6_whom, Cond.code yX6_whom cX6_whom 7 (some .int), Cond.methodLink RX6 117 yX6_isNearer, Cond.instanceMethod yX6_isNearer, Cond.selects RX6 yX6_isNearer yX6_isNearer, Cond.code yX6_isNearer cX6_isNearer 6 (some .boolean), Cond.fieldLink RX6 20 "BellCarsModel" "looks" "[I", Cond.methodLink RX6 114 yX6_apart, Cond.static yX6_apart, Cond.code yX6_apart cX6_apart 2 (some .int)]
def wsX6_chair : List Cond := .code yX6_chair cX6_chair 4 (some .int) :: ((wsX6_chair_r1 ++ wsX6_chair_r2) ++ wsX60)
def wsX6_saw : List Cond := .code yX6_saw cX6_saw 3 (some .int) :: ([.fieldLink RX6 96 "BellCarsModel" "seen" "I", .fieldLink RX6 42 "BellCarsModel" "factOf" "[I", .fieldLink RX6 45 "BellCarsModel" "factWhom" "[I", .methodLink RX6 163 yX6_isHere, .instanceMethod yX6_isHere, .selects RX6 yX6_isHere yX6_isHere, .initialized RX6, .code yX6_isHere cX6_isHere 2 (some .boolean), .fieldLink RX6 29 "BellCarsModel" "now" "[I", .methodLink RX6 107 yX6_isRider, .instanceMethod yX6_isRider, .selects RX6 yX6_isRider yX6_isRider, .code yX6_isRider cX6_isRider 2 (some .boolean), .fieldLink RX6 13 "BellCarsModel" "riders" "[I", .methodLink RX6 54 yX6_in, .static yX6_in, .code yX6_in cX6_in 3 (some .boolean), .methodLink RX6 110 yX6_isAboard, .instanceMethod yX6_isAboard, .selects RX6 yX6_isAboard yX6_isAboard, .code yX6_isAboard cX6_isAboard 3 (some .boolean)] ++ wsX60)
def wsX6_forget : List Cond := .code yX6_forget cX6_forget 2 (some .int) :: ([.fieldLink RX6 96 "BellCarsModel" "seen" "I"] ++ wsX60)
def wsX6_lawsOf : List Cond := .code yX6_lawsOf cX6_lawsOf 7 (some .int) :: ([.fieldLink RX6 29 "BellCarsModel" "now" "[I", .fieldLink RX6 96 "BellCarsModel" "seen" "I", .fieldLink RX6 42 "BellCarsModel" "factOf" "[I", .fieldLink RX6 45 "BellCarsModel" "factWhom" "[I", .methodLink RX6 110 yX6_isAboard, .instanceMethod yX6_isAboard, .selects RX6 yX6_isAboard yX6_isAboard, .initialized RX6, .code yX6_isAboard cX6_isAboard 3 (some .boolean), .methodLink RX6 121 yX6_whom, .instanceMethod yX6_whom, .selects RX6 yX6_whom yX6_whom, .code yX6_whom cX6_whom 7 (some .int), .fieldLink RX6 13 "BellCarsModel" "riders" "[I", .methodLink RX6 117 yX6_isNearer, .instanceMethod yX6_isNearer, .selects RX6 yX6_isNearer yX6_isNearer, .code yX6_isNearer cX6_isNearer 6 (some .boolean), .fieldLink RX6 20 "BellCarsModel" "looks" "[I", .methodLink RX6 114 yX6_apart, .static yX6_apart, .code yX6_apart cX6_apart 2 (some .int)] ++ wsX60)
def wsX6_laws_r1 : List Cond := [Cond.methodLink RX6 107 yX6_isRider, Cond.instanceMethod yX6_isRider, Cond.selects RX6 yX6_isRider yX6_isRider, Cond.initialized RX6, Cond.code yX6_isRider cX6_isRider 2 (some .boolean), Cond.fieldLink RX6 13 "BellCarsModel" "riders" "[I", Cond.methodLink RX6 54 yX6_in, Cond.static yX6_in, Cond.code yX6_in cX6_in 3 (some .boolean), Cond.methodLink RX6 166 yX6_lawsOf, Cond.instanceMethod yX6_lawsOf, Cond.selects RX6 yX6_lawsOf yX6_lawsOf, Cond.code yX6_lawsOf cX6_lawsOf 7 (some .int), Cond.fieldLink RX6 29 "BellCarsModel" "now" "[I", Cond.fieldLink RX6 96 "BellCarsModel" "seen" "I", Cond.fieldLink RX6 42 "BellCarsModel" "factOf" "[I", Cond.fieldLink RX6 45 "BellCarsModel" "factWhom" "[I", Cond.methodLink RX6 110 yX6_isAboard, Cond.instanceMethod yX6_isAboard, Cond.selects RX6 yX6_isAboard yX6_isAboard, Cond.code yX6_isAboard cX6_isAboard 3 (some .boolean), Cond.methodLink RX6 121 yX6_whom, Cond.instanceMethod yX6_whom, Cond.selects RX6 yX6_whom yX6_whom]
def wsX6_laws_r2 : List Cond := [Cond.code yX6_whom cX6_whom 7 (some .int), Cond.methodLink RX6 117 yX6_isNearer, Cond.instanceMethod yX6_isNearer, Cond.selects RX6 yX6_isNearer yX6_isNearer, Cond.code yX6_isNearer cX6_isNearer 6 (some .boolean), Cond.fieldLink RX6 20 "BellCarsModel" "looks" "[I", Cond.methodLink RX6 114 yX6_apart, Cond.static yX6_apart, Cond.code yX6_apart cX6_apart 2 (some .int)]
def wsX6_laws : List Cond := .code yX6_laws cX6_laws 2 (some .int) :: ((wsX6_laws_r1 ++ wsX6_laws_r2) ++ wsX60)
def wsX6_likely_r1 : List Cond := [Cond.fieldLink RX6 13 "BellCarsModel" "riders" "[I", Cond.fieldLink RX6 29 "BellCarsModel" "now" "[I", Cond.methodLink RX6 110 yX6_isAboard, Cond.instanceMethod yX6_isAboard, Cond.selects RX6 yX6_isAboard yX6_isAboard, Cond.initialized RX6, Cond.code yX6_isAboard cX6_isAboard 3 (some .boolean), Cond.methodLink RX6 166 yX6_lawsOf, Cond.instanceMethod yX6_lawsOf, Cond.selects RX6 yX6_lawsOf yX6_lawsOf, Cond.code yX6_lawsOf cX6_lawsOf 7 (some .int), Cond.fieldLink RX6 96 "BellCarsModel" "seen" "I", Cond.fieldLink RX6 42 "BellCarsModel" "factOf" "[I", Cond.fieldLink RX6 45 "BellCarsModel" "factWhom" "[I", Cond.methodLink RX6 121 yX6_whom, Cond.instanceMethod yX6_whom, Cond.selects RX6 yX6_whom yX6_whom, Cond.code yX6_whom cX6_whom 7 (some .int), Cond.methodLink RX6 117 yX6_isNearer, Cond.instanceMethod yX6_isNearer, Cond.selects RX6 yX6_isNearer yX6_isNearer, Cond.code yX6_isNearer cX6_isNearer 6 (some .boolean), Cond.fieldLink RX6 20 "BellCarsModel" "looks" "[I", Cond.methodLink RX6 114 yX6_apart]
def wsX6_likely_r2 : List Cond := [Cond.static yX6_apart, Cond.code yX6_apart cX6_apart 2 (some .int), Cond.methodLink RX6 146 yX6_manyOf, Cond.static yX6_manyOf, Cond.code yX6_manyOf cX6_manyOf 3 (some .int)]
def wsX6_likely : List Cond := .code yX6_likely cX6_likely 3 (some .int) :: ((wsX6_likely_r1 ++ wsX6_likely_r2) ++ wsX60)
def wsX6_mark : List Cond := .code yX6_mark cX6_mark 6 (some .int) :: ([.constant RX6 169 (-1000000), .fieldLink RX6 29 "BellCarsModel" "now" "[I", .fieldLink RX6 13 "BellCarsModel" "riders" "[I", .fieldLink RX6 170 "BellCarsModel" "trace" "J", .constantLong RX6 174 (11), .fieldLink RX6 20 "BellCarsModel" "looks" "[I", .constantLong RX6 176 (101), .constantLong RX6 178 (1011), .constantLong RX6 180 (10101), .constantLong RX6 182 (100001), .methodLink RX6 54 yX6_in, .static yX6_in, .initialized RX6, .code yX6_in cX6_in 3 (some .boolean), .methodLink RX6 107 yX6_isRider, .instanceMethod yX6_isRider, .selects RX6 yX6_isRider yX6_isRider, .code yX6_isRider cX6_isRider 2 (some .boolean)] ++ wsX60)
def wsX6_keep : List Cond := .code yX6_keep cX6_keep 3 (some .int) :: ([.fieldLink RX6 29 "BellCarsModel" "now" "[I", .fieldLink RX6 32 "BellCarsModel" "isKept" "[Z", .methodLink RX6 54 yX6_in, .static yX6_in, .initialized RX6, .code yX6_in cX6_in 3 (some .boolean)] ++ wsX60)
def wsX6_back : List Cond := .code yX6_back cX6_back 3 (some .int) :: ([.fieldLink RX6 32 "BellCarsModel" "isKept" "[Z", .fieldLink RX6 29 "BellCarsModel" "now" "[I", .methodLink RX6 54 yX6_in, .static yX6_in, .initialized RX6, .code yX6_in cX6_in 3 (some .boolean)] ++ wsX60)
def wsX6_count : List Cond := .code yX6_count cX6_count 2 (some .int) :: ([.fieldLink RX6 13 "BellCarsModel" "riders" "[I", .fieldLink RX6 26 "BellCarsModel" "line" "[I", .fieldLink RX6 96 "BellCarsModel" "seen" "I", .fieldLink RX6 29 "BellCarsModel" "now" "[I", .fieldLink RX6 58 "BellCarsModel" "typed" "I"] ++ wsX60)
def wsX6_trace : List Cond := .code yX6_trace cX6_trace 1 (some .long) :: ([.fieldLink RX6 170 "BellCarsModel" "trace" "J"] ++ wsX60)
def wsJ9_abs_0f7a4 : List Cond := .code yJ9_abs_0f7a4 cJ9_abs_0f7a4 1 (some .int) :: ([])
def wsJ9_min_7cf53 : List Cond := .code yJ9_min_7cf53 cJ9_min_7cf53 2 (some .int) :: ([])
def wsL_law_r1 : List Cond := [Cond.classLink RL 7 RX5, Cond.instantiable RX5 11, Cond.initialized RX5, Cond.classLink RL 10 RX6, Cond.instantiable RX6 21, Cond.initialized RX6, Cond.methodLink RL 9 yX5_init, Cond.instanceMethod yX5_init, Cond.code yX5_init cX5_init 2 none, Cond.methodLink RX5 3 objectInit, Cond.instanceMethod objectInit, Cond.code objectInit ⟨#[0xb1]⟩ 1 none, Cond.classLink RX5 9 RX3, Cond.instantiable RX3 7, Cond.initialized RX3, Cond.fieldLink RX5 12 "BellCars" "text" "LBellCars$Text;", Cond.classLink RX5 16 RX4, Cond.instantiable RX4 6, Cond.initialized RX4, Cond.fieldLink RX5 19 "BellCars" "told" "LBellCars$Told;", Cond.fieldLink RX5 23 "BellCars" "draft" "LBellCars$Told;", Cond.classLink RX5 26 RX0, Cond.instantiable RX0 2, Cond.initialized RX0]
def wsL_law_r2 : List Cond := [Cond.fieldLink RX5 29 "BellCars" "present" "LBellCars$Image;", Cond.fieldLink RX5 33 "BellCars" "images" "[LBellCars$Image;", Cond.classLink RX5 37 RX1, Cond.instantiable RX1 7, Cond.initialized RX1, Cond.fieldLink RX5 40 "BellCars" "ahead" "LBellCars$Moment;", Cond.arrayClass .int, Cond.fieldLink RX5 44 "BellCars" "seenThinker" "[I", Cond.fieldLink RX5 48 "BellCars" "seenThought" "[I", Cond.instanceMethod yX3_init, Cond.code yX3_init cX3_init 1 none, Cond.methodLink RX3 3 objectInit, Cond.fieldLink RX3 9 "BellCars$Text" "bytes" "[I", Cond.instanceMethod yX4_init, Cond.code yX4_init cX4_init 1 none, Cond.methodLink RX4 3 objectInit, Cond.fieldLink RX4 9 "BellCars$Told" "line" "I", Cond.fieldLink RX4 15 "BellCars$Told" "seat" "[I", Cond.fieldLink RX4 19 "BellCars$Told" "looks" "[I", Cond.fieldLink RX4 22 "BellCars$Told" "law" "[I", Cond.instanceMethod yX0_init, Cond.code yX0_init cX0_init 1 none, Cond.methodLink RX0 1 objectInit, Cond.classLink RX0 7 RX1]
def wsL_law_r3 : List Cond := [Cond.fieldLink RX0 10 "BellCars$Image" "moment" "LBellCars$Moment;", Cond.classLink RX0 16 RX2, Cond.instantiable RX2 3, Cond.initialized RX2, Cond.fieldLink RX0 19 "BellCars$Image" "past" "LBellCars$Past;", Cond.instanceMethod yX1_init, Cond.code yX1_init cX1_init 1 none, Cond.methodLink RX1 3 objectInit, Cond.fieldLink RX1 9 "BellCars$Moment" "seat" "[I", Cond.fieldLink RX1 15 "BellCars$Moment" "downAt" "[I", Cond.fieldLink RX1 18 "BellCars$Moment" "thoughtAt" "[I", Cond.methodLink RX0 18 yX2_init, Cond.instanceMethod yX2_init, Cond.code yX2_init cX2_init 2 none, Cond.methodLink RX2 3 objectInit, Cond.classLink RX2 9 RX1, Cond.fieldLink RX2 11 "BellCars$Past" "moments" "[LBellCars$Moment;", Cond.methodLink RX5 51 yX5_startAnew, Cond.instanceMethod yX5_startAnew, Cond.selects RX5 yX5_startAnew yX5_startAnew, Cond.code yX5_startAnew cX5_startAnew 1 none, Cond.fieldLink RX5 76 "BellCars$Image" "moment" "LBellCars$Moment;", Cond.fieldLink RX5 119 "BellCars$Image" "past" "LBellCars$Past;", Cond.fieldLink RX5 148 "BellCars$Past" "size" "I"]
def wsL_law_r4 : List Cond := [Cond.fieldLink RX5 194 "BellCars" "seenCount" "I", Cond.fieldLink RX5 228 "BellCars" "imagesKept" "I", Cond.methodLink RX5 235 yX1_begin, Cond.instanceMethod yX1_begin, Cond.selects RX1 yX1_begin yX1_begin, Cond.code yX1_begin cX1_begin 3 none, Cond.fieldLink RX1 21 "BellCars$Moment" "stop" "I", Cond.fieldLink RX1 25 "BellCars$Told" "riders" "I", Cond.fieldLink RX1 30 "BellCars$Moment" "aboard" "I", Cond.fieldLink RX1 33 "BellCars$Moment" "thoughts" "I", Cond.fieldLink RX1 36 "BellCars$Moment" "lonely" "I", Cond.fieldLink RX1 39 "BellCars$Told" "seat" "[I", Cond.methodLink RX1 40 arraycopyName, Cond.native arraycopyName, Cond.static arraycopyName, Cond.initialized "java/lang/System", Cond.methodLink RL 12 yX6_init, Cond.instanceMethod yX6_init, Cond.code yX6_init cX6_init 1 none, Cond.methodLink RX6 1 objectInit, Cond.arrayClass .byte, Cond.fieldLink RX6 7 "BellCarsModel" "text" "[B", Cond.fieldLink RX6 13 "BellCarsModel" "riders" "[I", Cond.fieldLink RX6 17 "BellCarsModel" "draftSeat" "[I"]
def wsL_law_r5 : List Cond := [Cond.fieldLink RX6 20 "BellCarsModel" "looks" "[I", Cond.fieldLink RX6 23 "BellCarsModel" "law" "[I", Cond.fieldLink RX6 26 "BellCarsModel" "line" "[I", Cond.fieldLink RX6 29 "BellCarsModel" "now" "[I", Cond.arrayClass .boolean, Cond.fieldLink RX6 32 "BellCarsModel" "isKept" "[Z", Cond.fieldLink RX6 36 "BellCarsModel" "tried" "[I", Cond.fieldLink RX6 39 "BellCarsModel" "row" "[I", Cond.fieldLink RX6 42 "BellCarsModel" "factOf" "[I", Cond.fieldLink RX6 45 "BellCarsModel" "factWhom" "[I", Cond.methodLink RX6 48 yX6_plain, Cond.instanceMethod yX6_plain, Cond.selects RX6 yX6_plain yX6_plain, Cond.code yX6_plain cX6_plain 1 none, Cond.fieldLink RX6 88 "BellCarsModel" "lineTold" "Z", Cond.methodLink RX6 51 yX6_takeDraft, Cond.instanceMethod yX6_takeDraft, Cond.selects RX6 yX6_takeDraft yX6_takeDraft, Cond.code yX6_takeDraft cX6_takeDraft 2 none, Cond.fieldLink RX6 96 "BellCarsModel" "seen" "I", Cond.methodLink RL 13 yX5_type, Cond.instanceMethod yX5_type, Cond.selects RX5 yX5_type yX5_type, Cond.code yX5_type cX5_type 2 (some .int)]
def wsL_law_r6 : List Cond := [Cond.fieldLink RX5 58 "BellCars$Text" "length" "I", Cond.methodLink RX5 54 yX3_add, Cond.instanceMethod yX3_add, Cond.selects RX3 yX3_add yX3_add, Cond.code yX3_add cX3_add 2 (some .boolean), Cond.fieldLink RX3 15 "BellCars$Text" "length" "I", Cond.methodLink RL 17 yX6_type, Cond.instanceMethod yX6_type, Cond.selects RX6 yX6_type yX6_type, Cond.code yX6_type cX6_type 2 (some .int), Cond.fieldLink RX6 58 "BellCarsModel" "typed" "I", Cond.methodLink RX6 54 yX6_in, Cond.static yX6_in, Cond.code yX6_in cX6_in 3 (some .boolean), Cond.methodLink RL 18 yX5_clear, Cond.instanceMethod yX5_clear, Cond.selects RX5 yX5_clear yX5_clear, Cond.code yX5_clear cX5_clear 2 (some .int), Cond.methodLink RL 22 yX6_clear, Cond.instanceMethod yX6_clear, Cond.selects RX6 yX6_clear yX6_clear, Cond.code yX6_clear cX6_clear 2 (some .int), Cond.methodLink RL 23 yX5_car, Cond.instanceMethod yX5_car]
def wsL_law_r7 : List Cond := [Cond.selects RX5 yX5_car yX5_car, Cond.code yX5_car cX5_car 2 (some .int), Cond.fieldLink RX5 70 "BellCars$Told" "items" "I", Cond.methodLink RX5 62 yX3_readInto, Cond.instanceMethod yX3_readInto, Cond.selects RX3 yX3_readInto yX3_readInto, Cond.code yX3_readInto cX3_readInto 3 (some .int), Cond.fieldLink RX3 19 "BellCars$Text" "at" "I", Cond.fieldLink RX3 22 "BellCars$Text" "lineTold" "Z", Cond.fieldLink RX3 34 "BellCars$Text" "sort" "I", Cond.fieldLink RX3 41 "BellCars$Text" "start" "I", Cond.methodLink RX3 26 yX4_forgetAll, Cond.instanceMethod yX4_forgetAll, Cond.selects RX4 yX4_forgetAll yX4_forgetAll, Cond.code yX4_forgetAll cX4_forgetAll 1 none, Cond.fieldLink RX4 25 "BellCars$Told" "riders" "I", Cond.fieldLink RX4 28 "BellCars$Told" "items" "I", Cond.methodLink RX3 31 yX3_advance, Cond.instanceMethod yX3_advance, Cond.selects RX3 yX3_advance yX3_advance, Cond.code yX3_advance cX3_advance 2 none, Cond.fieldLink RX3 44 "BellCars$Text" "value" "I", Cond.methodLink RX3 79 yX3_passBytes, Cond.instanceMethod yX3_passBytes]
def wsL_law_r8 : List Cond := [Cond.selects RX3 yX3_passBytes yX3_passBytes, Cond.code yX3_passBytes cX3_passBytes 3 none, Cond.methodLink RX3 83 yX3_takeLetters, Cond.instanceMethod yX3_takeLetters, Cond.selects RX3 yX3_takeLetters yX3_takeLetters, Cond.code yX3_takeLetters cX3_takeLetters 2 none, Cond.methodLink RX3 87 yX3_takeNumber, Cond.instanceMethod yX3_takeNumber, Cond.selects RX3 yX3_takeNumber yX3_takeNumber, Cond.code yX3_takeNumber cX3_takeNumber 4 none, Cond.methodLink RX3 90 Lib.Math.min.name, Cond.static Lib.Math.min.name, Cond.initialized "java/lang/Math", Cond.code Lib.Math.min.name Lib.Math.min.code 2 (some .int), Cond.methodLink RX3 37 yX3_readItem, Cond.instanceMethod yX3_readItem, Cond.selects RX3 yX3_readItem yX3_readItem, Cond.code yX3_readItem cX3_readItem 2 (some .boolean), Cond.fieldLink RX3 47 "BellCars$Told" "riders" "I", Cond.methodLink RX3 50 yX3_readRider, Cond.instanceMethod yX3_readRider, Cond.selects RX3 yX3_readRider yX3_readRider, Cond.code yX3_readRider cX3_readRider 3 (some .boolean), Cond.fieldLink RX3 64 "BellCars$Told" "seat" "[I"]
def wsL_law_r9 : List Cond := [Cond.fieldLink RX3 67 "BellCars$Told" "looks" "[I", Cond.fieldLink RX3 70 "BellCars$Told" "law" "[I", Cond.methodLink RX3 60 yX3_comesNumber, Cond.instanceMethod yX3_comesNumber, Cond.selects RX3 yX3_comesNumber yX3_comesNumber, Cond.code yX3_comesNumber cX3_comesNumber 3 (some .boolean), Cond.methodLink RX3 54 yX3_comesEnd, Cond.instanceMethod yX3_comesEnd, Cond.selects RX3 yX3_comesEnd yX3_comesEnd, Cond.code yX3_comesEnd cX3_comesEnd 2 (some .boolean), Cond.fieldLink RX3 76 "BellCars$Told" "items" "I", Cond.methodLink RX3 57 yX3_readLine, Cond.instanceMethod yX3_readLine, Cond.selects RX3 yX3_readLine yX3_readLine, Cond.code yX3_readLine cX3_readLine 2 (some .boolean), Cond.fieldLink RX3 73 "BellCars$Told" "line" "I", Cond.methodLink RX5 66 yX4_copyFrom, Cond.instanceMethod yX4_copyFrom, Cond.selects RX4 yX4_copyFrom yX4_copyFrom, Cond.code yX4_copyFrom cX4_copyFrom 2 none, Cond.methodLink RX4 31 arraycopyName, Cond.methodLink RL 26 yX6_car, Cond.instanceMethod yX6_car, Cond.selects RX6 yX6_car yX6_car]
def wsL_law_r10 : List Cond := [Cond.code yX6_car cX6_car 3 (some .int), Cond.fieldLink RX6 62 "BellCarsModel" "at" "I", Cond.fieldLink RX6 78 "BellCarsModel" "fault" "I", Cond.fieldLink RX6 75 "BellCarsModel" "sort" "I", Cond.methodLink RX6 81 yX6_step, Cond.instanceMethod yX6_step, Cond.selects RX6 yX6_step yX6_step, Cond.code yX6_step cX6_step 2 none, Cond.fieldLink RX6 69 "BellCarsModel" "start" "I", Cond.fieldLink RX6 72 "BellCarsModel" "value" "I", Cond.methodLink RX6 65 yX6_here, Cond.instanceMethod yX6_here, Cond.selects RX6 yX6_here yX6_here, Cond.code yX6_here cX6_here 1 (some .int), Cond.methodLink RX6 99 yX6_mayBe, Cond.instanceMethod yX6_mayBe, Cond.selects RX6 yX6_mayBe yX6_mayBe, Cond.code yX6_mayBe cX6_mayBe 2 (some .boolean), Cond.methodLink RX6 84 yX6_due, Cond.instanceMethod yX6_due, Cond.selects RX6 yX6_due yX6_due, Cond.code yX6_due cX6_due 3 (some .int), Cond.methodLink RX6 103 yX6_readRow, Cond.instanceMethod yX6_readRow]
def wsL_law_r11 : List Cond := [Cond.selects RX6 yX6_readRow yX6_readRow, Cond.code yX6_readRow cX6_readRow 2 none, Cond.methodLink RX6 92 yX6_number, Cond.instanceMethod yX6_number, Cond.selects RX6 yX6_number yX6_number, Cond.code yX6_number cX6_number 3 (some .int), Cond.methodLink RL 27 yX5_rider, Cond.instanceMethod yX5_rider, Cond.selects RX5 yX5_rider yX5_rider, Cond.code yX5_rider cX5_rider 4 (some .int), Cond.fieldLink RX5 79 "BellCars$Moment" "seat" "[I", Cond.fieldLink RX5 82 "BellCars$Told" "looks" "[I", Cond.fieldLink RX5 85 "BellCars$Told" "law" "[I", Cond.fieldLink RX5 91 "BellCars$Moment" "downAt" "[I", Cond.fieldLink RX5 98 "BellCars$Moment" "aboard" "I", Cond.methodLink RX5 73 yX5_isRider, Cond.instanceMethod yX5_isRider, Cond.selects RX5 yX5_isRider yX5_isRider, Cond.code yX5_isRider cX5_isRider 2 (some .boolean), Cond.fieldLink RX5 200 "BellCars$Told" "riders" "I", Cond.methodLink RX5 88 yX1_isAboard, Cond.instanceMethod yX1_isAboard, Cond.selects RX1 yX1_isAboard yX1_isAboard, Cond.code yX1_isAboard cX1_isAboard 2 (some .boolean)]
def wsL_law_r12 : List Cond := [Cond.methodLink RX5 94 yX5_whom, Cond.instanceMethod yX5_whom, Cond.selects RX5 yX5_whom yX5_whom, Cond.code yX5_whom cX5_whom 4 (some .int), Cond.methodLink RX5 191 yX5_nearest, Cond.instanceMethod yX5_nearest, Cond.selects RX5 yX5_nearest yX5_nearest, Cond.code yX5_nearest cX5_nearest 8 (some .int), Cond.methodLink RX5 244 Lib.Math.abs.name, Cond.static Lib.Math.abs.name, Cond.code Lib.Math.abs.name Lib.Math.abs.code 1 (some .int), Cond.methodLink RX5 238 yX5_fairest, Cond.instanceMethod yX5_fairest, Cond.selects RX5 yX5_fairest yX5_fairest, Cond.code yX5_fairest cX5_fairest 7 (some .int), Cond.methodLink RX5 241 yX5_nextAboard, Cond.instanceMethod yX5_nextAboard, Cond.selects RX5 yX5_nextAboard yX5_nextAboard, Cond.code yX5_nextAboard cX5_nextAboard 5 (some .int), Cond.methodLink RX5 101 yX5_downByRing, Cond.instanceMethod yX5_downByRing, Cond.selects RX5 yX5_downByRing yX5_downByRing, Cond.code yX5_downByRing cX5_downByRing 8 (some .int), Cond.methodLink RX5 112 yX1_thoughtOf]
def wsL_law_r13 : List Cond := [Cond.instanceMethod yX1_thoughtOf, Cond.selects RX1 yX1_thoughtOf yX1_thoughtOf, Cond.code yX1_thoughtOf cX1_thoughtOf 3 (some .int), Cond.methodLink RX5 104 yX5_downByDoubleRing, Cond.instanceMethod yX5_downByDoubleRing, Cond.selects RX5 yX5_downByDoubleRing yX5_downByDoubleRing, Cond.code yX5_downByDoubleRing cX5_downByDoubleRing 7 (some .int), Cond.methodLink RL 31 yX6_rider, Cond.instanceMethod yX6_rider, Cond.selects RX6 yX6_rider yX6_rider, Cond.code yX6_rider cX6_rider 4 (some .int), Cond.methodLink RX6 107 yX6_isRider, Cond.instanceMethod yX6_isRider, Cond.selects RX6 yX6_isRider yX6_isRider, Cond.code yX6_isRider cX6_isRider 2 (some .boolean), Cond.methodLink RX6 110 yX6_isAboard, Cond.instanceMethod yX6_isAboard, Cond.selects RX6 yX6_isAboard yX6_isAboard, Cond.code yX6_isAboard cX6_isAboard 3 (some .boolean), Cond.methodLink RX6 121 yX6_whom, Cond.instanceMethod yX6_whom, Cond.selects RX6 yX6_whom yX6_whom, Cond.code yX6_whom cX6_whom 7 (some .int), Cond.methodLink RX6 117 yX6_isNearer]
def wsL_law_r14 : List Cond := [Cond.instanceMethod yX6_isNearer, Cond.selects RX6 yX6_isNearer yX6_isNearer, Cond.code yX6_isNearer cX6_isNearer 6 (some .boolean), Cond.methodLink RX6 114 yX6_apart, Cond.static yX6_apart, Cond.code yX6_apart cX6_apart 2 (some .int), Cond.methodLink RX6 125 yX6_byRing, Cond.instanceMethod yX6_byRing, Cond.selects RX6 yX6_byRing yX6_byRing, Cond.code yX6_byRing cX6_byRing 8 (some .int), Cond.methodLink RX6 128 yX6_byTwo, Cond.instanceMethod yX6_byTwo, Cond.selects RX6 yX6_byTwo yX6_byTwo, Cond.code yX6_byTwo cX6_byTwo 6 (some .int), Cond.methodLink RL 32 yX5_latest, Cond.instanceMethod yX5_latest, Cond.selects RX5 yX5_latest yX5_latest, Cond.code yX5_latest cX5_latest 3 (some .int), Cond.methodLink RX5 108 yX5_isPair, Cond.instanceMethod yX5_isPair, Cond.selects RX5 yX5_isPair yX5_isPair, Cond.code yX5_isPair cX5_isPair 3 (some .boolean), Cond.methodLink RL 35 yX6_latest, Cond.instanceMethod yX6_latest]
def wsL_law_r15 : List Cond := [Cond.selects RX6 yX6_latest yX6_latest, Cond.code yX6_latest cX6_latest 3 (some .int), Cond.methodLink RL 36 yX5_rides, Cond.instanceMethod yX5_rides, Cond.selects RX5 yX5_rides yX5_rides, Cond.code yX5_rides cX5_rides 2 (some .int), Cond.fieldLink RX5 116 "BellCars$Moment" "stop" "I", Cond.methodLink RX5 123 yX2_push, Cond.instanceMethod yX2_push, Cond.selects RX2 yX2_push yX2_push, Cond.code yX2_push cX2_push 2 none, Cond.fieldLink RX2 18 "BellCars$Past" "size" "I", Cond.fieldLink RX2 30 "BellCars$Past" "oldest" "I", Cond.methodLink RX2 22 yX2_placeOf, Cond.instanceMethod yX2_placeOf, Cond.selects RX2 yX2_placeOf yX2_placeOf, Cond.code yX2_placeOf cX2_placeOf 2 (some .int), Cond.methodLink RX2 26 yX1_copyFrom, Cond.instanceMethod yX1_copyFrom, Cond.selects RX1 yX1_copyFrom yX1_copyFrom, Cond.code yX1_copyFrom cX1_copyFrom 2 none, Cond.methodLink RX5 129 yX5_ride, Cond.instanceMethod yX5_ride, Cond.selects RX5 yX5_ride yX5_ride]
def wsL_law_r16 : List Cond := [Cond.code yX5_ride cX5_ride 4 none, Cond.methodLink RX5 132 yX1_think, Cond.instanceMethod yX1_think, Cond.selects RX1 yX1_think yX1_think, Cond.code yX1_think cX1_think 3 none, Cond.methodLink RL 39 yX6_rides, Cond.instanceMethod yX6_rides, Cond.selects RX6 yX6_rides yX6_rides, Cond.code yX6_rides cX6_rides 1 (some .int), Cond.methodLink RX6 136 yX6_know, Cond.instanceMethod yX6_know, Cond.selects RX6 yX6_know yX6_know, Cond.code yX6_know cX6_know 2 none, Cond.methodLink RX6 139 yX6_ride, Cond.instanceMethod yX6_ride, Cond.selects RX6 yX6_ride yX6_ride, Cond.code yX6_ride cX6_ride 4 none, Cond.methodLink RX6 132 yX6_think, Cond.static yX6_think, Cond.code yX6_think cX6_think 3 none, Cond.methodLink RL 40 yX5_thinks, Cond.instanceMethod yX5_thinks, Cond.selects RX5 yX5_thinks yX5_thinks, Cond.code yX5_thinks cX5_thinks 4 (some .int)]
def wsL_law_r17 : List Cond := [Cond.fieldLink RX5 136 "BellCars$Moment" "thoughts" "I", Cond.methodLink RL 43 yX6_thinks, Cond.instanceMethod yX6_thinks, Cond.selects RX6 yX6_thinks yX6_thinks, Cond.code yX6_thinks cX6_thinks 3 (some .int), Cond.methodLink RL 44 yX5_rings, Cond.instanceMethod yX5_rings, Cond.selects RX5 yX5_rings yX5_rings, Cond.code yX5_rings cX5_rings 3 (some .int), Cond.methodLink RX5 139 yX1_getDown, Cond.instanceMethod yX1_getDown, Cond.selects RX1 yX1_getDown yX1_getDown, Cond.code yX1_getDown cX1_getDown 2 (some .int), Cond.methodLink RL 47 yX6_rings, Cond.instanceMethod yX6_rings, Cond.selects RX6 yX6_rings yX6_rings, Cond.code yX6_rings cX6_rings 2 (some .int), Cond.methodLink RX6 143 yX6_down, Cond.instanceMethod yX6_down, Cond.selects RX6 yX6_down yX6_down, Cond.code yX6_down cX6_down 2 (some .int), Cond.methodLink RL 48 yX5_twice, Cond.instanceMethod yX5_twice, Cond.selects RX5 yX5_twice yX5_twice]
def wsL_law_r18 : List Cond := [Cond.code yX5_twice cX5_twice 3 (some .int), Cond.methodLink RL 51 yX6_twice, Cond.instanceMethod yX6_twice, Cond.selects RX6 yX6_twice yX6_twice, Cond.code yX6_twice cX6_twice 2 (some .int), Cond.methodLink RL 52 yX5_seats, Cond.instanceMethod yX5_seats, Cond.selects RX5 yX5_seats yX5_seats, Cond.code yX5_seats cX5_seats 5 (some .int), Cond.methodLink RL 55 yX6_seats, Cond.instanceMethod yX6_seats, Cond.selects RX6 yX6_seats yX6_seats, Cond.code yX6_seats cX6_seats 4 (some .int), Cond.methodLink RL 56 yX5_boards, Cond.instanceMethod yX5_boards, Cond.selects RX5 yX5_boards yX5_boards, Cond.code yX5_boards cX5_boards 3 (some .int), Cond.methodLink RX5 143 yJ6_bitCount_0f7a4, Cond.static yJ6_bitCount_0f7a4, Cond.initialized RJ6, Cond.code yJ6_bitCount_0f7a4 cJ6_bitCount_0f7a4 1 (some .int), Cond.constant RJ6 265 (1431655765), Cond.constant RJ6 266 (858993459), Cond.constant RJ6 267 (252645135)]
def wsL_law_r19 : List Cond := [Cond.methodLink RL 59 yX6_boards, Cond.instanceMethod yX6_boards, Cond.selects RX6 yX6_boards yX6_boards, Cond.code yX6_boards cX6_boards 2 (some .int), Cond.methodLink RX6 146 yX6_manyOf, Cond.static yX6_manyOf, Cond.code yX6_manyOf cX6_manyOf 3 (some .int), Cond.methodLink RL 60 yX5_undo, Cond.instanceMethod yX5_undo, Cond.selects RX5 yX5_undo yX5_undo, Cond.code yX5_undo cX5_undo 1 (some .int), Cond.methodLink RX5 151 yX2_popInto, Cond.instanceMethod yX2_popInto, Cond.selects RX2 yX2_popInto yX2_popInto, Cond.code yX2_popInto cX2_popInto 2 none, Cond.methodLink RL 63 yX6_undo, Cond.instanceMethod yX6_undo, Cond.selects RX6 yX6_undo yX6_undo, Cond.code yX6_undo cX6_undo 2 (some .int), Cond.methodLink RL 64 yX5_now, Cond.instanceMethod yX5_now, Cond.selects RX5 yX5_now yX5_now, Cond.code yX5_now cX5_now 3 (some .int), Cond.fieldLink RX5 154 "BellCars$Moment" "lonely" "I"]
def wsL_law_r20 : List Cond := [Cond.fieldLink RX5 157 "BellCars$Told" "line" "I", Cond.methodLink RL 67 yX6_now, Cond.instanceMethod yX6_now, Cond.selects RX6 yX6_now yX6_now, Cond.code yX6_now cX6_now 2 (some .int), Cond.methodLink RL 68 yX5_row, Cond.instanceMethod yX5_row, Cond.selects RX5 yX5_row yX5_row, Cond.code yX5_row cX5_row 4 (some .int), Cond.methodLink RX5 160 yX1_areAboard, Cond.instanceMethod yX1_areAboard, Cond.selects RX1 yX1_areAboard yX1_areAboard, Cond.code yX1_areAboard cX1_areAboard 2 (some .boolean), Cond.methodLink RX5 163 yX5_rowsFrom, Cond.instanceMethod yX5_rowsFrom, Cond.selects RX5 yX5_rowsFrom yX5_rowsFrom, Cond.code yX5_rowsFrom cX5_rowsFrom 9 (some .int), Cond.methodLink RX5 249 yX5_downInRow, Cond.instanceMethod yX5_downInRow, Cond.selects RX5 yX5_downInRow yX5_downInRow, Cond.code yX5_downInRow cX5_downInRow 7 (some .int), Cond.methodLink RX5 167 yX5_ringerAt, Cond.instanceMethod yX5_ringerAt, Cond.selects RX5 yX5_ringerAt yX5_ringerAt]
def wsL_law_r21 : List Cond := [Cond.code yX5_ringerAt cX5_ringerAt 8 (some .int), Cond.methodLink RX5 252 yX5_firstRinger, Cond.instanceMethod yX5_firstRinger, Cond.selects RX5 yX5_firstRinger yX5_firstRinger, Cond.code yX5_firstRinger cX5_firstRinger 8 (some .int), Cond.methodLink RL 71 yX6_row, Cond.instanceMethod yX6_row, Cond.selects RX6 yX6_row yX6_row, Cond.code yX6_row cX6_row 4 (some .int), Cond.methodLink RX6 153 yX6_isSet, Cond.instanceMethod yX6_isSet, Cond.selects RX6 yX6_isSet yX6_isSet, Cond.code yX6_isSet cX6_isSet 2 (some .boolean), Cond.methodLink RX6 156 yX6_rowsOf, Cond.instanceMethod yX6_rowsOf, Cond.selects RX6 yX6_rowsOf yX6_rowsOf, Cond.code yX6_rowsOf cX6_rowsOf 7 (some .int), Cond.methodLink RX6 149 yX6_doesGo, Cond.instanceMethod yX6_doesGo, Cond.selects RX6 yX6_doesGo yX6_doesGo, Cond.code yX6_doesGo cX6_doesGo 11 (some .boolean), Cond.methodLink RL 72 yX5_soon, Cond.instanceMethod yX5_soon, Cond.selects RX5 yX5_soon yX5_soon]
def wsL_law_r22 : List Cond := [Cond.code yX5_soon cX5_soon 3 (some .int), Cond.methodLink RX5 170 yX1_copyFrom, Cond.methodLink RL 75 yX6_soon, Cond.instanceMethod yX6_soon, Cond.selects RX6 yX6_soon yX6_soon, Cond.code yX6_soon cX6_soon 3 (some .int), Cond.methodLink RX6 160 yX6_take, Cond.instanceMethod yX6_take, Cond.selects RX6 yX6_take yX6_take, Cond.code yX6_take cX6_take 2 none, Cond.methodLink RL 76 yX5_odds, Cond.instanceMethod yX5_odds, Cond.selects RX5 yX5_odds yX5_odds, Cond.code yX5_odds cX5_odds 8 (some .int), Cond.methodLink RX5 172 yX5_isPairAboard, Cond.instanceMethod yX5_isPairAboard, Cond.selects RX5 yX5_isPairAboard yX5_isPairAboard, Cond.code yX5_isPairAboard cX5_isPairAboard 3 (some .boolean), Cond.methodLink RX5 175 yX5_oddsUpper, Cond.instanceMethod yX5_oddsUpper, Cond.selects RX5 yX5_oddsUpper yX5_oddsUpper, Cond.code yX5_oddsUpper cX5_oddsUpper 4 (some .int), Cond.methodLink RX5 255 yX5_aheadOf, Cond.instanceMethod yX5_aheadOf]
def wsL_law_r23 : List Cond := [Cond.selects RX5 yX5_aheadOf yX5_aheadOf, Cond.code yX5_aheadOf cX5_aheadOf 7 (some .int), Cond.methodLink RX5 258 yX5_power, Cond.static yX5_power, Cond.code yX5_power cX5_power 4 (some .int), Cond.methodLink RX5 179 yX5_oddsLower, Cond.instanceMethod yX5_oddsLower, Cond.selects RX5 yX5_oddsLower yX5_oddsLower, Cond.code yX5_oddsLower cX5_oddsLower 3 (some .int), Cond.methodLink RX5 182 yX5_commonDivisor, Cond.static yX5_commonDivisor, Cond.code yX5_commonDivisor cX5_commonDivisor 6 (some .int), Cond.methodLink RL 80 yX6_odds, Cond.instanceMethod yX6_odds, Cond.selects RX6 yX6_odds yX6_odds, Cond.code yX6_odds cX6_odds 11 (some .int), Cond.methodLink RX6 163 yX6_isHere, Cond.instanceMethod yX6_isHere, Cond.selects RX6 yX6_isHere yX6_isHere, Cond.code yX6_isHere cX6_isHere 2 (some .boolean), Cond.methodLink RL 81 yX5_circle, Cond.instanceMethod yX5_circle, Cond.selects RX5 yX5_circle yX5_circle, Cond.code yX5_circle cX5_circle 5 (some .int)]
def wsL_law_r24 : List Cond := [Cond.methodLink RX5 185 yX5_circleOf, Cond.instanceMethod yX5_circleOf, Cond.selects RX5 yX5_circleOf yX5_circleOf, Cond.code yX5_circleOf cX5_circleOf 6 (some .int), Cond.methodLink RX5 188 yX5_lowestOf, Cond.static yX5_lowestOf, Cond.code yX5_lowestOf cX5_lowestOf 2 (some .int), Cond.methodLink RL 84 yX6_circle, Cond.instanceMethod yX6_circle, Cond.selects RX6 yX6_circle yX6_circle, Cond.code yX6_circle cX6_circle 7 (some .int), Cond.methodLink RL 85 yX5_chair, Cond.instanceMethod yX5_chair, Cond.selects RX5 yX5_chair yX5_chair, Cond.code yX5_chair cX5_chair 4 (some .int), Cond.methodLink RL 88 yX6_chair, Cond.instanceMethod yX6_chair, Cond.selects RX6 yX6_chair yX6_chair, Cond.code yX6_chair cX6_chair 4 (some .int), Cond.methodLink RL 89 yX5_saw, Cond.instanceMethod yX5_saw, Cond.selects RX5 yX5_saw yX5_saw, Cond.code yX5_saw cX5_saw 3 (some .int), Cond.methodLink RL 92 yX6_saw]
def wsL_law_r25 : List Cond := [Cond.instanceMethod yX6_saw, Cond.selects RX6 yX6_saw yX6_saw, Cond.code yX6_saw cX6_saw 3 (some .int), Cond.methodLink RL 93 yX5_forget, Cond.instanceMethod yX5_forget, Cond.selects RX5 yX5_forget yX5_forget, Cond.code yX5_forget cX5_forget 2 (some .int), Cond.methodLink RL 96 yX6_forget, Cond.instanceMethod yX6_forget, Cond.selects RX6 yX6_forget yX6_forget, Cond.code yX6_forget cX6_forget 2 (some .int), Cond.methodLink RL 97 yX5_laws, Cond.instanceMethod yX5_laws, Cond.selects RX5 yX5_laws yX5_laws, Cond.code yX5_laws cX5_laws 2 (some .int), Cond.methodLink RX5 197 yX5_fittingLaws, Cond.instanceMethod yX5_fittingLaws, Cond.selects RX5 yX5_fittingLaws yX5_fittingLaws, Cond.code yX5_fittingLaws cX5_fittingLaws 4 (some .int), Cond.methodLink RX5 261 yX5_fitsSeen, Cond.instanceMethod yX5_fitsSeen, Cond.selects RX5 yX5_fitsSeen yX5_fitsSeen, Cond.code yX5_fitsSeen cX5_fitsSeen 5 (some .boolean), Cond.methodLink RL 100 yX6_laws]
def wsL_law_r26 : List Cond := [Cond.instanceMethod yX6_laws, Cond.selects RX6 yX6_laws yX6_laws, Cond.code yX6_laws cX6_laws 2 (some .int), Cond.methodLink RX6 166 yX6_lawsOf, Cond.instanceMethod yX6_lawsOf, Cond.selects RX6 yX6_lawsOf yX6_lawsOf, Cond.code yX6_lawsOf cX6_lawsOf 7 (some .int), Cond.methodLink RL 101 yX5_likely, Cond.instanceMethod yX5_likely, Cond.selects RX5 yX5_likely yX5_likely, Cond.code yX5_likely cX5_likely 3 (some .int), Cond.methodLink RL 104 yX6_likely, Cond.instanceMethod yX6_likely, Cond.selects RX6 yX6_likely yX6_likely, Cond.code yX6_likely cX6_likely 3 (some .int), Cond.methodLink RL 105 yX5_mark, Cond.instanceMethod yX5_mark, Cond.selects RX5 yX5_mark yX5_mark, Cond.code yX5_mark cX5_mark 3 (some .int), Cond.constant RX5 203 (-1000000), Cond.methodLink RX5 204 yX5_riderMark, Cond.instanceMethod yX5_riderMark, Cond.selects RX5 yX5_riderMark yX5_riderMark, Cond.code yX5_riderMark cX5_riderMark 2 (some .int)]
def wsL_law_r27 : List Cond := [Cond.fieldLink RX5 231 "BellCars" "traceSum" "J", Cond.methodLink RX5 207 yX5_nunMark, Cond.instanceMethod yX5_nunMark, Cond.selects RX5 yX5_nunMark yX5_nunMark, Cond.code yX5_nunMark cX5_nunMark 2 (some .int), Cond.constantLong RX5 264 (10), Cond.methodLink RX5 210 yX5_boyMark, Cond.instanceMethod yX5_boyMark, Cond.selects RX5 yX5_boyMark yX5_boyMark, Cond.code yX5_boyMark cX5_boyMark 2 (some .int), Cond.constantLong RX5 266 (100), Cond.methodLink RX5 268 yX5_thinkersOf, Cond.instanceMethod yX5_thinkersOf, Cond.selects RX5 yX5_thinkersOf yX5_thinkersOf, Cond.code yX5_thinkersOf cX5_thinkersOf 4 (some .int), Cond.methodLink RX5 213 yX5_widowerMark, Cond.instanceMethod yX5_widowerMark, Cond.selects RX5 yX5_widowerMark yX5_widowerMark, Cond.code yX5_widowerMark cX5_widowerMark 2 (some .int), Cond.constantLong RX5 271 (1000), Cond.methodLink RX5 216 yX5_girlMark, Cond.instanceMethod yX5_girlMark, Cond.selects RX5 yX5_girlMark yX5_girlMark, Cond.code yX5_girlMark cX5_girlMark 2 (some .int)]
def wsL_law_r28 : List Cond := [Cond.constantLong RX5 273 (10000), Cond.methodLink RX5 219 yX5_driverMark, Cond.instanceMethod yX5_driverMark, Cond.selects RX5 yX5_driverMark yX5_driverMark, Cond.code yX5_driverMark cX5_driverMark 2 (some .int), Cond.constantLong RX5 275 (100000), Cond.methodLink RL 108 yX6_mark, Cond.instanceMethod yX6_mark, Cond.selects RX6 yX6_mark yX6_mark, Cond.code yX6_mark cX6_mark 6 (some .int), Cond.constant RX6 169 (-1000000), Cond.fieldLink RX6 170 "BellCarsModel" "trace" "J", Cond.constantLong RX6 174 (11), Cond.constantLong RX6 176 (101), Cond.constantLong RX6 178 (1011), Cond.constantLong RX6 180 (10101), Cond.constantLong RX6 182 (100001), Cond.methodLink RL 109 yX5_keep, Cond.instanceMethod yX5_keep, Cond.selects RX5 yX5_keep yX5_keep, Cond.code yX5_keep cX5_keep 2 (some .int), Cond.methodLink RX5 222 yX5_isImage, Cond.static yX5_isImage, Cond.code yX5_isImage cX5_isImage 1 (some .boolean)]
def wsL_law_r29 : List Cond := [Cond.methodLink RX5 225 yX0_copyFrom, Cond.instanceMethod yX0_copyFrom, Cond.selects RX0 yX0_copyFrom yX0_copyFrom, Cond.code yX0_copyFrom cX0_copyFrom 2 none, Cond.methodLink RX0 23 yX1_copyFrom, Cond.methodLink RX0 27 yX2_copyFrom, Cond.instanceMethod yX2_copyFrom, Cond.selects RX2 yX2_copyFrom yX2_copyFrom, Cond.code yX2_copyFrom cX2_copyFrom 3 none, Cond.methodLink RL 112 yX6_keep, Cond.instanceMethod yX6_keep, Cond.selects RX6 yX6_keep yX6_keep, Cond.code yX6_keep cX6_keep 3 (some .int), Cond.methodLink RL 113 yX5_back, Cond.instanceMethod yX5_back, Cond.selects RX5 yX5_back yX5_back, Cond.code yX5_back cX5_back 2 (some .int), Cond.methodLink RL 116 yX6_back, Cond.instanceMethod yX6_back, Cond.selects RX6 yX6_back yX6_back, Cond.code yX6_back cX6_back 3 (some .int), Cond.methodLink RL 117 yX5_count, Cond.instanceMethod yX5_count, Cond.selects RX5 yX5_count yX5_count]
def wsL_law_r30 : List Cond := [Cond.code yX5_count cX5_count 2 (some .int), Cond.methodLink RL 120 yX6_count, Cond.instanceMethod yX6_count, Cond.selects RX6 yX6_count yX6_count, Cond.code yX6_count cX6_count 2 (some .int), Cond.methodLink RL 121 yX5_trace, Cond.instanceMethod yX5_trace, Cond.selects RX5 yX5_trace yX5_trace, Cond.code yX5_trace cX5_trace 1 (some .long), Cond.methodLink RL 125 yX6_trace, Cond.instanceMethod yX6_trace, Cond.selects RX6 yX6_trace yX6_trace, Cond.code yX6_trace cX6_trace 1 (some .long)]
def wsL_law : List Cond := (wsL_law_r1 ++ (wsL_law_r2 ++ (wsL_law_r3 ++ (wsL_law_r4 ++ (wsL_law_r5 ++ (wsL_law_r6 ++ (wsL_law_r7 ++ (wsL_law_r8 ++ (wsL_law_r9 ++ (wsL_law_r10 ++ (wsL_law_r11 ++ (wsL_law_r12 ++ (wsL_law_r13 ++ (wsL_law_r14 ++ (wsL_law_r15 ++ (wsL_law_r16 ++ (wsL_law_r17 ++ (wsL_law_r18 ++ (wsL_law_r19 ++ (wsL_law_r20 ++ (wsL_law_r21 ++ (wsL_law_r22 ++ (wsL_law_r23 ++ (wsL_law_r24 ++ (wsL_law_r25 ++ (wsL_law_r26 ++ (wsL_law_r27 ++ (wsL_law_r28 ++ (wsL_law_r29 ++ wsL_law_r30))))))))))))))))))))))))))))) ++ wsX50 ++ wsX60 ++ wsX30 ++ wsX40 ++ wsX00 ++ wsX10 ++ wsX20 ++ ([] : List Cond)
end
section
set_option maxRecDepth 20000 in
theorem wsL_in_r1 : ∀ w ∈ wsL_law_r1, w ∈ lw_tbl := fun w h => (goodIn_p wsL_law_r1 [76, 79] (by decide +kernel) (by decide +kernel) w h).1
set_option maxRecDepth 20000 in
theorem wsL_in_r2 : ∀ w ∈ wsL_law_r2, w ∈ lw_tbl := fun w h => (goodIn_p wsL_law_r2 [84, 114, 152] (by decide +kernel) (by decide +kernel) w h).1
set_option maxRecDepth 20000 in
theorem wsL_in_r3 : ∀ w ∈ wsL_law_r3, w ∈ lw_tbl := fun w h => (goodIn_p wsL_law_r3 [158, 192, 223] (by decide +kernel) (by decide +kernel) w h).1
set_option maxRecDepth 20000 in
theorem wsL_in_r4 : ∀ w ∈ wsL_law_r4, w ∈ lw_tbl := fun w h => (goodIn_p wsL_law_r4 [227, 614] (by decide +kernel) (by decide +kernel) w h).1
set_option maxRecDepth 20000 in
theorem wsL_in_r5 : ∀ w ∈ wsL_law_r5, w ∈ lw_tbl := fun w h => (goodIn_p wsL_law_r5 [619, 623, 268] (by decide +kernel) (by decide +kernel) w h).1
set_option maxRecDepth 20000 in
theorem wsL_in_r6 : ∀ w ∈ wsL_law_r6, w ∈ lw_tbl := fun w h => (goodIn_p wsL_law_r6 [272, 693, 696, 276, 700] (by decide +kernel) (by decide +kernel) w h).1
set_option maxRecDepth 20000 in
theorem wsL_in_r7 : ∀ w ∈ wsL_law_r7, w ∈ lw_tbl := fun w h => (goodIn_p wsL_law_r7 [280, 284, 288, 292] (by decide +kernel) (by decide +kernel) w h).1
set_option maxRecDepth 20000 in
theorem wsL_in_r8 : ∀ w ∈ wsL_law_r8, w ∈ lw_tbl := fun w h => (goodIn_p wsL_law_r8 [296, 300, 304, 307, 311, 315] (by decide +kernel) (by decide +kernel) w h).1
set_option maxRecDepth 20000 in
theorem wsL_in_r9 : ∀ w ∈ wsL_law_r9, w ∈ lw_tbl := fun w h => (goodIn_p wsL_law_r9 [319, 323, 327, 331] (by decide +kernel) (by decide +kernel) w h).1
set_option maxRecDepth 20000 in
theorem wsL_in_r10 : ∀ w ∈ wsL_law_r10, w ∈ lw_tbl := fun w h => (goodIn_p wsL_law_r10 [704, 708, 712, 716, 720] (by decide +kernel) (by decide +kernel) w h).1
set_option maxRecDepth 20000 in
theorem wsL_in_r11 : ∀ w ∈ wsL_law_r11, w ∈ lw_tbl := fun w h => (goodIn_p wsL_law_r11 [724, 728, 336, 340, 344] (by decide +kernel) (by decide +kernel) w h).1
set_option maxRecDepth 20000 in
theorem wsL_in_r12 : ∀ w ∈ wsL_law_r12, w ∈ lw_tbl := fun w h => (goodIn_p wsL_law_r12 [348, 352, 355, 359, 363, 367] (by decide +kernel) (by decide +kernel) w h).1
set_option maxRecDepth 20000 in
theorem wsL_in_r13 : ∀ w ∈ wsL_law_r13, w ∈ lw_tbl := fun w h => (goodIn_p wsL_law_r13 [371, 375, 732, 736, 740, 744] (by decide +kernel) (by decide +kernel) w h).1
set_option maxRecDepth 20000 in
theorem wsL_in_r14 : ∀ w ∈ wsL_law_r14, w ∈ lw_tbl := fun w h => (goodIn_p wsL_law_r14 [748, 751, 755, 759, 379, 383] (by decide +kernel) (by decide +kernel) w h).1
set_option maxRecDepth 20000 in
theorem wsL_in_r15 : ∀ w ∈ wsL_law_r15, w ∈ lw_tbl := fun w h => (goodIn_p wsL_law_r15 [763, 387, 391, 395, 399] (by decide +kernel) (by decide +kernel) w h).1
set_option maxRecDepth 20000 in
theorem wsL_in_r16 : ∀ w ∈ wsL_law_r16, w ∈ lw_tbl := fun w h => (goodIn_p wsL_law_r16 [403, 407, 767, 771, 775, 778, 411] (by decide +kernel) (by decide +kernel) w h).1
set_option maxRecDepth 20000 in
theorem wsL_in_r17 : ∀ w ∈ wsL_law_r17, w ∈ lw_tbl := fun w h => (goodIn_p wsL_law_r17 [782, 415, 419, 786, 790] (by decide +kernel) (by decide +kernel) w h).1
set_option maxRecDepth 20000 in
theorem wsL_in_r18 : ∀ w ∈ wsL_law_r18, w ∈ lw_tbl := fun w h => (goodIn_p wsL_law_r18 [423, 794, 427, 798, 431, 434] (by decide +kernel) (by decide +kernel) w h).1
set_option maxRecDepth 20000 in
theorem wsL_in_r19 : ∀ w ∈ wsL_law_r19, w ∈ lw_tbl := fun w h => (goodIn_p wsL_law_r19 [802, 805, 441, 445, 809, 449] (by decide +kernel) (by decide +kernel) w h).1
set_option maxRecDepth 20000 in
theorem wsL_in_r20 : ∀ w ∈ wsL_law_r20, w ∈ lw_tbl := fun w h => (goodIn_p wsL_law_r20 [813, 453, 457, 461, 465] (by decide +kernel) (by decide +kernel) w h).1
set_option maxRecDepth 20000 in
theorem wsL_in_r21 : ∀ w ∈ wsL_law_r21, w ∈ lw_tbl := fun w h => (goodIn_p wsL_law_r21 [469, 473, 817, 821, 825, 829] (by decide +kernel) (by decide +kernel) w h).1
set_option maxRecDepth 20000 in
theorem wsL_in_r22 : ∀ w ∈ wsL_law_r22, w ∈ lw_tbl := fun w h => (goodIn_p wsL_law_r22 [477, 833, 837, 482, 486, 490] (by decide +kernel) (by decide +kernel) w h).1
end
section
set_option maxRecDepth 20000 in
theorem wsL_in_r23 : ∀ w ∈ wsL_law_r23, w ∈ lw_tbl := fun w h => (goodIn_p wsL_law_r23 [494, 497, 501, 504, 841, 845, 508] (by decide +kernel) (by decide +kernel) w h).1
set_option maxRecDepth 20000 in
theorem wsL_in_r24 : ∀ w ∈ wsL_law_r24, w ∈ lw_tbl := fun w h => (goodIn_p wsL_law_r24 [512, 515, 849, 519, 853, 523] (by decide +kernel) (by decide +kernel) w h).1
set_option maxRecDepth 20000 in
theorem wsL_in_r25 : ∀ w ∈ wsL_law_r25, w ∈ lw_tbl := fun w h => (goodIn_p wsL_law_r25 [857, 527, 861, 531, 535, 539] (by decide +kernel) (by decide +kernel) w h).1
set_option maxRecDepth 20000 in
theorem wsL_in_r26 : ∀ w ∈ wsL_law_r26, w ∈ lw_tbl := fun w h => (goodIn_p wsL_law_r26 [865, 869, 543, 873, 547, 552] (by decide +kernel) (by decide +kernel) w h).1
set_option maxRecDepth 20000 in
theorem wsL_in_r27 : ∀ w ∈ wsL_law_r27, w ∈ lw_tbl := fun w h => (goodIn_p wsL_law_r27 [556, 561, 566, 570, 575] (by decide +kernel) (by decide +kernel) w h).1
set_option maxRecDepth 20000 in
theorem wsL_in_r28 : ∀ w ∈ wsL_law_r28, w ∈ lw_tbl := fun w h => (goodIn_p wsL_law_r28 [580, 877, 585, 588] (by decide +kernel) (by decide +kernel) w h).1
set_option maxRecDepth 20000 in
theorem wsL_in_r29 : ∀ w ∈ wsL_law_r29, w ∈ lw_tbl := fun w h => (goodIn_p wsL_law_r29 [592, 597, 887, 601, 891] (by decide +kernel) (by decide +kernel) w h).1
set_option maxRecDepth 20000 in
theorem wsL_in_r30 : ∀ w ∈ wsL_law_r30, w ∈ lw_tbl := fun w h => (goodIn_p wsL_law_r30 [605, 895, 609, 899] (by decide +kernel) (by decide +kernel) w h).1
set_option maxRecDepth 20000 in
theorem wsL_in_X50 : ∀ w ∈ wsX50, w ∈ lw_tbl := fun w h => (goodIn_p wsX50 [] (by decide +kernel) (by decide +kernel) w h).1
set_option maxRecDepth 20000 in
theorem wsL_in_X60 : ∀ w ∈ wsX60, w ∈ lw_tbl := fun w h => (goodIn_p wsX60 [] (by decide +kernel) (by decide +kernel) w h).1
set_option maxRecDepth 20000 in
theorem wsL_in_X30 : ∀ w ∈ wsX30, w ∈ lw_tbl := fun w h => (goodIn_p wsX30 [] (by decide +kernel) (by decide +kernel) w h).1
set_option maxRecDepth 20000 in
theorem wsL_in_X40 : ∀ w ∈ wsX40, w ∈ lw_tbl := fun w h => (goodIn_p wsX40 [] (by decide +kernel) (by decide +kernel) w h).1
set_option maxRecDepth 20000 in
theorem wsL_in_X00 : ∀ w ∈ wsX00, w ∈ lw_tbl := fun w h => (goodIn_p wsX00 [] (by decide +kernel) (by decide +kernel) w h).1
set_option maxRecDepth 20000 in
theorem wsL_in_X10 : ∀ w ∈ wsX10, w ∈ lw_tbl := fun w h => (goodIn_p wsX10 [] (by decide +kernel) (by decide +kernel) w h).1
set_option maxRecDepth 20000 in
theorem wsL_in_X20 : ∀ w ∈ wsX20, w ∈ lw_tbl := fun w h => (goodIn_p wsX20 [] (by decide +kernel) (by decide +kernel) w h).1
theorem wsL_law_in : ∀ w ∈ wsL_law, w ∈ lw_tbl := by
  unfold wsL_law
  exact List.forall_mem_append.mpr ⟨List.forall_mem_append.mpr ⟨List.forall_mem_append.mpr ⟨List.forall_mem_append.mpr ⟨List.forall_mem_append.mpr ⟨List.forall_mem_append.mpr ⟨List.forall_mem_append.mpr ⟨List.forall_mem_append.mpr ⟨List.forall_mem_append.mpr ⟨wsL_in_r1, List.forall_mem_append.mpr ⟨wsL_in_r2, List.forall_mem_append.mpr ⟨wsL_in_r3, List.forall_mem_append.mpr ⟨wsL_in_r4, List.forall_mem_append.mpr ⟨wsL_in_r5, List.forall_mem_append.mpr ⟨wsL_in_r6, List.forall_mem_append.mpr ⟨wsL_in_r7, List.forall_mem_append.mpr ⟨wsL_in_r8, List.forall_mem_append.mpr ⟨wsL_in_r9, List.forall_mem_append.mpr ⟨wsL_in_r10, List.forall_mem_append.mpr ⟨wsL_in_r11, List.forall_mem_append.mpr ⟨wsL_in_r12, List.forall_mem_append.mpr ⟨wsL_in_r13, List.forall_mem_append.mpr ⟨wsL_in_r14, List.forall_mem_append.mpr ⟨wsL_in_r15, List.forall_mem_append.mpr ⟨wsL_in_r16, List.forall_mem_append.mpr ⟨wsL_in_r17, List.forall_mem_append.mpr ⟨wsL_in_r18, List.forall_mem_append.mpr ⟨wsL_in_r19, List.forall_mem_append.mpr ⟨wsL_in_r20, List.forall_mem_append.mpr ⟨wsL_in_r21, List.forall_mem_append.mpr ⟨wsL_in_r22, List.forall_mem_append.mpr ⟨wsL_in_r23, List.forall_mem_append.mpr ⟨wsL_in_r24, List.forall_mem_append.mpr ⟨wsL_in_r25, List.forall_mem_append.mpr ⟨wsL_in_r26, List.forall_mem_append.mpr ⟨wsL_in_r27, List.forall_mem_append.mpr ⟨wsL_in_r28, List.forall_mem_append.mpr ⟨wsL_in_r29, wsL_in_r30⟩⟩⟩⟩⟩⟩⟩⟩⟩⟩⟩⟩⟩⟩⟩⟩⟩⟩⟩⟩⟩⟩⟩⟩⟩⟩⟩⟩⟩, wsL_in_X50⟩, wsL_in_X60⟩, wsL_in_X30⟩, wsL_in_X40⟩, wsL_in_X00⟩, wsL_in_X10⟩, wsL_in_X20⟩, fun _ h => absurd h List.not_mem_nil⟩
theorem inlX0 : ∀ w ∈ wsX00, w ∈ wsL_law := fun _ h => List.mem_append_left _ (List.mem_append_left _ (List.mem_append_left _ (List.mem_append_right _ h)))
theorem inX0 : ∀ w ∈ wsX00, w ∈ lw_tbl := fun w h => wsL_law_in w (inlX0 w h)
theorem inlX1 : ∀ w ∈ wsX10, w ∈ wsL_law := fun _ h => List.mem_append_left _ (List.mem_append_left _ (List.mem_append_right _ h))
theorem inX1 : ∀ w ∈ wsX10, w ∈ lw_tbl := fun w h => wsL_law_in w (inlX1 w h)
theorem inlX2 : ∀ w ∈ wsX20, w ∈ wsL_law := fun _ h => List.mem_append_left _ (List.mem_append_right _ h)
theorem inX2 : ∀ w ∈ wsX20, w ∈ lw_tbl := fun w h => wsL_law_in w (inlX2 w h)
theorem inlX3 : ∀ w ∈ wsX30, w ∈ wsL_law := fun _ h => List.mem_append_left _ (List.mem_append_left _ (List.mem_append_left _ (List.mem_append_left _ (List.mem_append_left _ (List.mem_append_right _ h)))))
theorem inX3 : ∀ w ∈ wsX30, w ∈ lw_tbl := fun w h => wsL_law_in w (inlX3 w h)
theorem inlX4 : ∀ w ∈ wsX40, w ∈ wsL_law := fun _ h => List.mem_append_left _ (List.mem_append_left _ (List.mem_append_left _ (List.mem_append_left _ (List.mem_append_right _ h))))
theorem inX4 : ∀ w ∈ wsX40, w ∈ lw_tbl := fun w h => wsL_law_in w (inlX4 w h)
theorem inlX5 : ∀ w ∈ wsX50, w ∈ wsL_law := fun _ h => List.mem_append_left _ (List.mem_append_left _ (List.mem_append_left _ (List.mem_append_left _ (List.mem_append_left _ (List.mem_append_left _ (List.mem_append_left _ (List.mem_append_right _ h)))))))
theorem inX5 : ∀ w ∈ wsX50, w ∈ lw_tbl := fun w h => wsL_law_in w (inlX5 w h)
theorem inlX6 : ∀ w ∈ wsX60, w ∈ wsL_law := fun _ h => List.mem_append_left _ (List.mem_append_left _ (List.mem_append_left _ (List.mem_append_left _ (List.mem_append_left _ (List.mem_append_left _ (List.mem_append_right _ h))))))
theorem inX6 : ∀ w ∈ wsX60, w ∈ lw_tbl := fun w h => wsL_law_in w (inlX6 w h)
theorem inJ6 : ∀ w ∈ wsJ60, w ∈ lw_tbl := by decide +kernel
theorem inJ9 : ∀ w ∈ wsJ90, w ∈ lw_tbl := by decide +kernel
theorem inJ10 : ∀ w ∈ wsJ100, w ∈ lw_tbl := by decide +kernel
abbrev vwCl : List vw_C := [(RX0, TX0, 2), (RX1, TX1, 7), (RX2, TX2, 3), (RX3, TX3, 7), (RX4, TX4, 6), (RX5, TX5, 11), (RX6, TX6, 21)]
end
section
set_option maxRecDepth 20000 in
theorem ggX0_init_X1_init : GoodIn wsX0_init wsX1_init := goodIn_r _ [13, 14, 2, 3, 15, 16, 17, 18, 25, 26, 27, 28, 29, 30, 31] (by decide +kernel) (by decide +kernel)
set_option maxRecDepth 20000 in
theorem gX0_init_X1_init_n9 : GoodIn wsX0_init (wsX1_init) := ggX0_init_X1_init
set_option maxRecDepth 20000 in
theorem ggX0_init_X2_init : GoodIn wsX0_init wsX2_init := goodIn_r _ [21, 22, 2, 3, 23, 24, 5, 6, 12, 13, 14, 15, 16, 17, 18, 34, 35, 36, 25, 26, 27, 28, 29, 30, 31] (by decide +kernel) (by decide +kernel)
set_option maxRecDepth 20000 in
theorem gX0_init_X2_init : GoodIn wsX0_init (wsX2_init) := ggX0_init_X2_init
theorem dX0_init_0 : decode cX0_init 0 = .ok (.aload_n 0, 1) := by decide +kernel
theorem dX0_init_1 : decode cX0_init 1 = .ok (.invokespecial 1, 3) := by decide +kernel
theorem dX0_init_4 : decode cX0_init 4 = .ok (.aload_n 0, 1) := by decide +kernel
theorem dX0_init_5 : decode cX0_init 5 = .ok (.new 7, 3) := by decide +kernel
theorem dX0_init_8 : decode cX0_init 8 = .ok (.dup, 1) := by decide +kernel
theorem dX0_init_9 : decode cX0_init 9 = .ok (.invokespecial 9, 3) := by decide +kernel
theorem dX0_init_12 : decode cX0_init 12 = .ok (.putfield 10, 3) := by decide +kernel
theorem dX0_init_15 : decode cX0_init 15 = .ok (.aload_n 0, 1) := by decide +kernel
theorem dX0_init_16 : decode cX0_init 16 = .ok (.new 16, 3) := by decide +kernel
theorem dX0_init_19 : decode cX0_init 19 = .ok (.dup, 1) := by decide +kernel
theorem dX0_init_20 : decode cX0_init 20 = .ok (.invokespecial 18, 3) := by decide +kernel
theorem dX0_init_23 : decode cX0_init 23 = .ok (.putfield 19, 3) := by decide +kernel
theorem dX0_init_26 : decode cX0_init 26 = .ok (.return_, 1) := by decide +kernel
set_option maxRecDepth 20000 in
theorem ggX0_copyFrom_X1_copyFrom : GoodIn wsX0_copyFrom wsX1_copyFrom := goodIn_r _ [7, 8, 9, 10, 11, 12, 13, 14, 15, 16, 17, 18, 34, 35, 36, 37, 38, 39, 40] (by decide +kernel) (by decide +kernel)
set_option maxRecDepth 20000 in
theorem gX0_copyFrom_X1_copyFrom : GoodIn wsX0_copyFrom (wsV RX0 23 RX1 yX1_copyFrom wsX1_copyFrom) := goodIn_app (goodIn_of _ (by decide +kernel)) ggX0_copyFrom_X1_copyFrom
set_option maxRecDepth 20000 in
theorem ggX0_copyFrom_X2_copyFrom : GoodIn wsX0_copyFrom wsX2_copyFrom := goodIn_r _ [23, 24, 25, 26, 27, 28, 29, 22, 30, 31, 4, 5, 6, 7, 8, 9, 10, 11, 12, 13, 14, 15, 16, 17, 18, 41, 42, 43, 34, 35, 36, 37, 38, 39, 40] (by decide +kernel) (by decide +kernel)
set_option maxRecDepth 20000 in
theorem gX0_copyFrom_X2_copyFrom : GoodIn wsX0_copyFrom (wsV RX0 27 RX2 yX2_copyFrom wsX2_copyFrom) := goodIn_app (goodIn_of _ (by decide +kernel)) ggX0_copyFrom_X2_copyFrom
theorem dX0_copyFrom_0 : decode cX0_copyFrom 0 = .ok (.aload_n 0, 1) := by decide +kernel
theorem dX0_copyFrom_1 : decode cX0_copyFrom 1 = .ok (.getfield 10, 3) := by decide +kernel
theorem dX0_copyFrom_4 : decode cX0_copyFrom 4 = .ok (.aload_n 1, 1) := by decide +kernel
theorem dX0_copyFrom_5 : decode cX0_copyFrom 5 = .ok (.getfield 10, 3) := by decide +kernel
theorem dX0_copyFrom_8 : decode cX0_copyFrom 8 = .ok (.invokevirtual 23, 3) := by decide +kernel
theorem dX0_copyFrom_11 : decode cX0_copyFrom 11 = .ok (.aload_n 0, 1) := by decide +kernel
theorem dX0_copyFrom_12 : decode cX0_copyFrom 12 = .ok (.getfield 19, 3) := by decide +kernel
theorem dX0_copyFrom_15 : decode cX0_copyFrom 15 = .ok (.aload_n 1, 1) := by decide +kernel
theorem dX0_copyFrom_16 : decode cX0_copyFrom 16 = .ok (.getfield 19, 3) := by decide +kernel
theorem dX0_copyFrom_19 : decode cX0_copyFrom 19 = .ok (.invokevirtual 27, 3) := by decide +kernel
theorem dX0_copyFrom_22 : decode cX0_copyFrom 22 = .ok (.return_, 1) := by decide +kernel
theorem dX1_init_0 : decode cX1_init 0 = .ok (.aload_n 0, 1) := by decide +kernel
theorem dX1_init_1 : decode cX1_init 1 = .ok (.invokespecial 3, 3) := by decide +kernel
theorem dX1_init_4 : decode cX1_init 4 = .ok (.aload_n 0, 1) := by decide +kernel
theorem dX1_init_5 : decode cX1_init 5 = .ok (.bipush 6, 2) := by decide +kernel
theorem dX1_init_7 : decode cX1_init 7 = .ok (.newarray .int, 2) := by decide +kernel
theorem dX1_init_9 : decode cX1_init 9 = .ok (.putfield 9, 3) := by decide +kernel
theorem dX1_init_12 : decode cX1_init 12 = .ok (.aload_n 0, 1) := by decide +kernel
theorem dX1_init_13 : decode cX1_init 13 = .ok (.bipush 6, 2) := by decide +kernel
theorem dX1_init_15 : decode cX1_init 15 = .ok (.newarray .int, 2) := by decide +kernel
theorem dX1_init_17 : decode cX1_init 17 = .ok (.putfield 15, 3) := by decide +kernel
theorem dX1_init_20 : decode cX1_init 20 = .ok (.aload_n 0, 1) := by decide +kernel
theorem dX1_init_21 : decode cX1_init 21 = .ok (.bipush 36, 2) := by decide +kernel
theorem dX1_init_23 : decode cX1_init 23 = .ok (.newarray .int, 2) := by decide +kernel
theorem dX1_init_25 : decode cX1_init 25 = .ok (.putfield 18, 3) := by decide +kernel
theorem dX1_init_28 : decode cX1_init 28 = .ok (.return_, 1) := by decide +kernel
theorem dX1_begin_0 : decode cX1_begin 0 = .ok (.aload_n 0, 1) := by decide +kernel
theorem dX1_begin_1 : decode cX1_begin 1 = .ok (.iconst 0, 1) := by decide +kernel
theorem dX1_begin_2 : decode cX1_begin 2 = .ok (.putfield 21, 3) := by decide +kernel
theorem dX1_begin_5 : decode cX1_begin 5 = .ok (.aload_n 0, 1) := by decide +kernel
theorem dX1_begin_6 : decode cX1_begin 6 = .ok (.iconst 1, 1) := by decide +kernel
theorem dX1_begin_7 : decode cX1_begin 7 = .ok (.aload_n 1, 1) := by decide +kernel
theorem dX1_begin_8 : decode cX1_begin 8 = .ok (.getfield 25, 3) := by decide +kernel
theorem dX1_begin_11 : decode cX1_begin 11 = .ok (.ishl, 1) := by decide +kernel
theorem dX1_begin_12 : decode cX1_begin 12 = .ok (.iconst 1, 1) := by decide +kernel
theorem dX1_begin_13 : decode cX1_begin 13 = .ok (.isub, 1) := by decide +kernel
theorem dX1_begin_14 : decode cX1_begin 14 = .ok (.putfield 30, 3) := by decide +kernel
theorem dX1_begin_17 : decode cX1_begin 17 = .ok (.aload_n 0, 1) := by decide +kernel
theorem dX1_begin_18 : decode cX1_begin 18 = .ok (.iconst 0, 1) := by decide +kernel
theorem dX1_begin_19 : decode cX1_begin 19 = .ok (.putfield 33, 3) := by decide +kernel
theorem dX1_begin_22 : decode cX1_begin 22 = .ok (.aload_n 0, 1) := by decide +kernel
theorem dX1_begin_23 : decode cX1_begin 23 = .ok (.iconst 0, 1) := by decide +kernel
theorem dX1_begin_24 : decode cX1_begin 24 = .ok (.putfield 36, 3) := by decide +kernel
theorem dX1_begin_27 : decode cX1_begin 27 = .ok (.aload_n 1, 1) := by decide +kernel
theorem dX1_begin_28 : decode cX1_begin 28 = .ok (.getfield 39, 3) := by decide +kernel
theorem dX1_begin_31 : decode cX1_begin 31 = .ok (.iconst 0, 1) := by decide +kernel
theorem dX1_begin_32 : decode cX1_begin 32 = .ok (.aload_n 0, 1) := by decide +kernel
theorem dX1_begin_33 : decode cX1_begin 33 = .ok (.getfield 9, 3) := by decide +kernel
theorem dX1_begin_36 : decode cX1_begin 36 = .ok (.iconst 0, 1) := by decide +kernel
theorem dX1_begin_37 : decode cX1_begin 37 = .ok (.bipush 6, 2) := by decide +kernel
theorem dX1_begin_39 : decode cX1_begin 39 = .ok (.invokestatic 40, 3) := by decide +kernel
theorem dX1_begin_42 : decode cX1_begin 42 = .ok (.iconst 0, 1) := by decide +kernel
theorem dX1_begin_43 : decode cX1_begin 43 = .ok (.istore_n 2, 1) := by decide +kernel
theorem dX1_begin_44 : decode cX1_begin 44 = .ok (.iload_n 2, 1) := by decide +kernel
theorem dX1_begin_45 : decode cX1_begin 45 = .ok (.bipush 6, 2) := by decide +kernel
theorem dX1_begin_47 : decode cX1_begin 47 = .ok (.if_icmp .ge 17, 3) := by decide +kernel
theorem dX1_begin_50 : decode cX1_begin 50 = .ok (.aload_n 0, 1) := by decide +kernel
theorem dX1_begin_51 : decode cX1_begin 51 = .ok (.getfield 15, 3) := by decide +kernel
theorem dX1_begin_54 : decode cX1_begin 54 = .ok (.iload_n 2, 1) := by decide +kernel
theorem dX1_begin_55 : decode cX1_begin 55 = .ok (.bipush (-9), 2) := by decide +kernel
theorem dX1_begin_57 : decode cX1_begin 57 = .ok (.iastore, 1) := by decide +kernel
theorem dX1_begin_58 : decode cX1_begin 58 = .ok (.iinc 2 1, 3) := by decide +kernel
theorem dX1_begin_61 : decode cX1_begin 61 = .ok (.goto (-17), 3) := by decide +kernel
theorem dX1_begin_64 : decode cX1_begin 64 = .ok (.iconst 0, 1) := by decide +kernel
theorem dX1_begin_65 : decode cX1_begin 65 = .ok (.istore_n 2, 1) := by decide +kernel
theorem dX1_begin_66 : decode cX1_begin 66 = .ok (.iload_n 2, 1) := by decide +kernel
theorem dX1_begin_67 : decode cX1_begin 67 = .ok (.bipush 36, 2) := by decide +kernel
theorem dX1_begin_69 : decode cX1_begin 69 = .ok (.if_icmp .ge 16, 3) := by decide +kernel
theorem dX1_begin_72 : decode cX1_begin 72 = .ok (.aload_n 0, 1) := by decide +kernel
theorem dX1_begin_73 : decode cX1_begin 73 = .ok (.getfield 18, 3) := by decide +kernel
theorem dX1_begin_76 : decode cX1_begin 76 = .ok (.iload_n 2, 1) := by decide +kernel
theorem dX1_begin_77 : decode cX1_begin 77 = .ok (.iconst 0, 1) := by decide +kernel
theorem dX1_begin_78 : decode cX1_begin 78 = .ok (.iastore, 1) := by decide +kernel
theorem dX1_begin_79 : decode cX1_begin 79 = .ok (.iinc 2 1, 3) := by decide +kernel
theorem dX1_begin_82 : decode cX1_begin 82 = .ok (.goto (-16), 3) := by decide +kernel
theorem dX1_begin_85 : decode cX1_begin 85 = .ok (.return_, 1) := by decide +kernel
theorem dX1_copyFrom_0 : decode cX1_copyFrom 0 = .ok (.aload_n 0, 1) := by decide +kernel
theorem dX1_copyFrom_1 : decode cX1_copyFrom 1 = .ok (.aload_n 1, 1) := by decide +kernel
theorem dX1_copyFrom_2 : decode cX1_copyFrom 2 = .ok (.getfield 21, 3) := by decide +kernel
theorem dX1_copyFrom_5 : decode cX1_copyFrom 5 = .ok (.putfield 21, 3) := by decide +kernel
theorem dX1_copyFrom_8 : decode cX1_copyFrom 8 = .ok (.aload_n 0, 1) := by decide +kernel
theorem dX1_copyFrom_9 : decode cX1_copyFrom 9 = .ok (.aload_n 1, 1) := by decide +kernel
theorem dX1_copyFrom_10 : decode cX1_copyFrom 10 = .ok (.getfield 30, 3) := by decide +kernel
theorem dX1_copyFrom_13 : decode cX1_copyFrom 13 = .ok (.putfield 30, 3) := by decide +kernel
theorem dX1_copyFrom_16 : decode cX1_copyFrom 16 = .ok (.aload_n 0, 1) := by decide +kernel
theorem dX1_copyFrom_17 : decode cX1_copyFrom 17 = .ok (.aload_n 1, 1) := by decide +kernel
theorem dX1_copyFrom_18 : decode cX1_copyFrom 18 = .ok (.getfield 33, 3) := by decide +kernel
theorem dX1_copyFrom_21 : decode cX1_copyFrom 21 = .ok (.putfield 33, 3) := by decide +kernel
theorem dX1_copyFrom_24 : decode cX1_copyFrom 24 = .ok (.aload_n 0, 1) := by decide +kernel
theorem dX1_copyFrom_25 : decode cX1_copyFrom 25 = .ok (.aload_n 1, 1) := by decide +kernel
theorem dX1_copyFrom_26 : decode cX1_copyFrom 26 = .ok (.getfield 36, 3) := by decide +kernel
theorem dX1_copyFrom_29 : decode cX1_copyFrom 29 = .ok (.putfield 36, 3) := by decide +kernel
theorem dX1_copyFrom_32 : decode cX1_copyFrom 32 = .ok (.aload_n 1, 1) := by decide +kernel
theorem dX1_copyFrom_33 : decode cX1_copyFrom 33 = .ok (.getfield 9, 3) := by decide +kernel
theorem dX1_copyFrom_36 : decode cX1_copyFrom 36 = .ok (.iconst 0, 1) := by decide +kernel
theorem dX1_copyFrom_37 : decode cX1_copyFrom 37 = .ok (.aload_n 0, 1) := by decide +kernel
theorem dX1_copyFrom_38 : decode cX1_copyFrom 38 = .ok (.getfield 9, 3) := by decide +kernel
theorem dX1_copyFrom_41 : decode cX1_copyFrom 41 = .ok (.iconst 0, 1) := by decide +kernel
theorem dX1_copyFrom_42 : decode cX1_copyFrom 42 = .ok (.bipush 6, 2) := by decide +kernel
theorem dX1_copyFrom_44 : decode cX1_copyFrom 44 = .ok (.invokestatic 40, 3) := by decide +kernel
theorem dX1_copyFrom_47 : decode cX1_copyFrom 47 = .ok (.aload_n 1, 1) := by decide +kernel
theorem dX1_copyFrom_48 : decode cX1_copyFrom 48 = .ok (.getfield 15, 3) := by decide +kernel
theorem dX1_copyFrom_51 : decode cX1_copyFrom 51 = .ok (.iconst 0, 1) := by decide +kernel
theorem dX1_copyFrom_52 : decode cX1_copyFrom 52 = .ok (.aload_n 0, 1) := by decide +kernel
theorem dX1_copyFrom_53 : decode cX1_copyFrom 53 = .ok (.getfield 15, 3) := by decide +kernel
theorem dX1_copyFrom_56 : decode cX1_copyFrom 56 = .ok (.iconst 0, 1) := by decide +kernel
theorem dX1_copyFrom_57 : decode cX1_copyFrom 57 = .ok (.bipush 6, 2) := by decide +kernel
theorem dX1_copyFrom_59 : decode cX1_copyFrom 59 = .ok (.invokestatic 40, 3) := by decide +kernel
theorem dX1_copyFrom_62 : decode cX1_copyFrom 62 = .ok (.aload_n 1, 1) := by decide +kernel
theorem dX1_copyFrom_63 : decode cX1_copyFrom 63 = .ok (.getfield 18, 3) := by decide +kernel
theorem dX1_copyFrom_66 : decode cX1_copyFrom 66 = .ok (.iconst 0, 1) := by decide +kernel
theorem dX1_copyFrom_67 : decode cX1_copyFrom 67 = .ok (.aload_n 0, 1) := by decide +kernel
theorem dX1_copyFrom_68 : decode cX1_copyFrom 68 = .ok (.getfield 18, 3) := by decide +kernel
theorem dX1_copyFrom_71 : decode cX1_copyFrom 71 = .ok (.iconst 0, 1) := by decide +kernel
theorem dX1_copyFrom_72 : decode cX1_copyFrom 72 = .ok (.bipush 36, 2) := by decide +kernel
theorem dX1_copyFrom_74 : decode cX1_copyFrom 74 = .ok (.invokestatic 40, 3) := by decide +kernel
theorem dX1_copyFrom_77 : decode cX1_copyFrom 77 = .ok (.return_, 1) := by decide +kernel
theorem dX1_isAboard_0 : decode cX1_isAboard 0 = .ok (.aload_n 0, 1) := by decide +kernel
theorem dX1_isAboard_1 : decode cX1_isAboard 1 = .ok (.getfield 30, 3) := by decide +kernel
theorem dX1_isAboard_4 : decode cX1_isAboard 4 = .ok (.iload_n 1, 1) := by decide +kernel
theorem dX1_isAboard_5 : decode cX1_isAboard 5 = .ok (.ishr, 1) := by decide +kernel
theorem dX1_isAboard_6 : decode cX1_isAboard 6 = .ok (.iconst 1, 1) := by decide +kernel
theorem dX1_isAboard_7 : decode cX1_isAboard 7 = .ok (.iand, 1) := by decide +kernel
theorem dX1_isAboard_8 : decode cX1_isAboard 8 = .ok (.ifCond .eq 7, 3) := by decide +kernel
theorem dX1_isAboard_11 : decode cX1_isAboard 11 = .ok (.iconst 1, 1) := by decide +kernel
theorem dX1_isAboard_12 : decode cX1_isAboard 12 = .ok (.goto 4, 3) := by decide +kernel
theorem dX1_isAboard_15 : decode cX1_isAboard 15 = .ok (.iconst 0, 1) := by decide +kernel
theorem dX1_isAboard_16 : decode cX1_isAboard 16 = .ok (.ireturn, 1) := by decide +kernel
theorem dX1_areAboard_0 : decode cX1_areAboard 0 = .ok (.iload_n 1, 1) := by decide +kernel
theorem dX1_areAboard_1 : decode cX1_areAboard 1 = .ok (.aload_n 0, 1) := by decide +kernel
theorem dX1_areAboard_2 : decode cX1_areAboard 2 = .ok (.getfield 30, 3) := by decide +kernel
theorem dX1_areAboard_5 : decode cX1_areAboard 5 = .ok (.iconst (-1), 1) := by decide +kernel
theorem dX1_areAboard_6 : decode cX1_areAboard 6 = .ok (.ixor, 1) := by decide +kernel
theorem dX1_areAboard_7 : decode cX1_areAboard 7 = .ok (.iand, 1) := by decide +kernel
theorem dX1_areAboard_8 : decode cX1_areAboard 8 = .ok (.ifCond .ne 7, 3) := by decide +kernel
theorem dX1_areAboard_11 : decode cX1_areAboard 11 = .ok (.iconst 1, 1) := by decide +kernel
theorem dX1_areAboard_12 : decode cX1_areAboard 12 = .ok (.goto 4, 3) := by decide +kernel
theorem dX1_areAboard_15 : decode cX1_areAboard 15 = .ok (.iconst 0, 1) := by decide +kernel
theorem dX1_areAboard_16 : decode cX1_areAboard 16 = .ok (.ireturn, 1) := by decide +kernel
theorem dX1_thoughtOf_0 : decode cX1_thoughtOf 0 = .ok (.aload_n 0, 1) := by decide +kernel
theorem dX1_thoughtOf_1 : decode cX1_thoughtOf 1 = .ok (.getfield 18, 3) := by decide +kernel
theorem dX1_thoughtOf_4 : decode cX1_thoughtOf 4 = .ok (.iload_n 1, 1) := by decide +kernel
theorem dX1_thoughtOf_5 : decode cX1_thoughtOf 5 = .ok (.bipush 6, 2) := by decide +kernel
theorem dX1_thoughtOf_7 : decode cX1_thoughtOf 7 = .ok (.imul, 1) := by decide +kernel
theorem dX1_thoughtOf_8 : decode cX1_thoughtOf 8 = .ok (.iload_n 2, 1) := by decide +kernel
theorem dX1_thoughtOf_9 : decode cX1_thoughtOf 9 = .ok (.iadd, 1) := by decide +kernel
theorem dX1_thoughtOf_10 : decode cX1_thoughtOf 10 = .ok (.iaload, 1) := by decide +kernel
theorem dX1_thoughtOf_11 : decode cX1_thoughtOf 11 = .ok (.ireturn, 1) := by decide +kernel
theorem dX1_think_0 : decode cX1_think 0 = .ok (.aload_n 0, 1) := by decide +kernel
theorem dX1_think_1 : decode cX1_think 1 = .ok (.dup, 1) := by decide +kernel
theorem dX1_think_2 : decode cX1_think 2 = .ok (.getfield 33, 3) := by decide +kernel
theorem dX1_think_5 : decode cX1_think 5 = .ok (.iconst 1, 1) := by decide +kernel
theorem dX1_think_6 : decode cX1_think 6 = .ok (.iadd, 1) := by decide +kernel
theorem dX1_think_7 : decode cX1_think 7 = .ok (.putfield 33, 3) := by decide +kernel
theorem dX1_think_10 : decode cX1_think 10 = .ok (.aload_n 0, 1) := by decide +kernel
theorem dX1_think_11 : decode cX1_think 11 = .ok (.getfield 18, 3) := by decide +kernel
theorem dX1_think_14 : decode cX1_think 14 = .ok (.iload_n 1, 1) := by decide +kernel
theorem dX1_think_15 : decode cX1_think 15 = .ok (.bipush 6, 2) := by decide +kernel
theorem dX1_think_17 : decode cX1_think 17 = .ok (.imul, 1) := by decide +kernel
theorem dX1_think_18 : decode cX1_think 18 = .ok (.iload_n 2, 1) := by decide +kernel
theorem dX1_think_19 : decode cX1_think 19 = .ok (.iadd, 1) := by decide +kernel
theorem dX1_think_20 : decode cX1_think 20 = .ok (.aload_n 0, 1) := by decide +kernel
theorem dX1_think_21 : decode cX1_think 21 = .ok (.getfield 33, 3) := by decide +kernel
theorem dX1_think_24 : decode cX1_think 24 = .ok (.iastore, 1) := by decide +kernel
theorem dX1_think_25 : decode cX1_think 25 = .ok (.return_, 1) := by decide +kernel
theorem dX1_getDown_0 : decode cX1_getDown 0 = .ok (.iload_n 1, 1) := by decide +kernel
theorem dX1_getDown_1 : decode cX1_getDown 1 = .ok (.bipush (-9), 2) := by decide +kernel
theorem dX1_getDown_3 : decode cX1_getDown 3 = .ok (.if_icmp .ne 16, 3) := by decide +kernel
theorem dX1_getDown_6 : decode cX1_getDown 6 = .ok (.aload_n 0, 1) := by decide +kernel
theorem dX1_getDown_7 : decode cX1_getDown 7 = .ok (.dup, 1) := by decide +kernel
theorem dX1_getDown_8 : decode cX1_getDown 8 = .ok (.getfield 36, 3) := by decide +kernel
theorem dX1_getDown_11 : decode cX1_getDown 11 = .ok (.iconst 1, 1) := by decide +kernel
theorem dX1_getDown_12 : decode cX1_getDown 12 = .ok (.iadd, 1) := by decide +kernel
theorem dX1_getDown_13 : decode cX1_getDown 13 = .ok (.putfield 36, 3) := by decide +kernel
theorem dX1_getDown_16 : decode cX1_getDown 16 = .ok (.goto 27, 3) := by decide +kernel
theorem dX1_getDown_19 : decode cX1_getDown 19 = .ok (.aload_n 0, 1) := by decide +kernel
theorem dX1_getDown_20 : decode cX1_getDown 20 = .ok (.dup, 1) := by decide +kernel
theorem dX1_getDown_21 : decode cX1_getDown 21 = .ok (.getfield 30, 3) := by decide +kernel
theorem dX1_getDown_24 : decode cX1_getDown 24 = .ok (.iconst 1, 1) := by decide +kernel
theorem dX1_getDown_25 : decode cX1_getDown 25 = .ok (.iload_n 1, 1) := by decide +kernel
theorem dX1_getDown_26 : decode cX1_getDown 26 = .ok (.ishl, 1) := by decide +kernel
theorem dX1_getDown_27 : decode cX1_getDown 27 = .ok (.iconst (-1), 1) := by decide +kernel
theorem dX1_getDown_28 : decode cX1_getDown 28 = .ok (.ixor, 1) := by decide +kernel
theorem dX1_getDown_29 : decode cX1_getDown 29 = .ok (.iand, 1) := by decide +kernel
theorem dX1_getDown_30 : decode cX1_getDown 30 = .ok (.putfield 30, 3) := by decide +kernel
theorem dX1_getDown_33 : decode cX1_getDown 33 = .ok (.aload_n 0, 1) := by decide +kernel
theorem dX1_getDown_34 : decode cX1_getDown 34 = .ok (.getfield 15, 3) := by decide +kernel
theorem dX1_getDown_37 : decode cX1_getDown 37 = .ok (.iload_n 1, 1) := by decide +kernel
theorem dX1_getDown_38 : decode cX1_getDown 38 = .ok (.aload_n 0, 1) := by decide +kernel
theorem dX1_getDown_39 : decode cX1_getDown 39 = .ok (.getfield 21, 3) := by decide +kernel
theorem dX1_getDown_42 : decode cX1_getDown 42 = .ok (.iastore, 1) := by decide +kernel
theorem dX1_getDown_43 : decode cX1_getDown 43 = .ok (.iload_n 1, 1) := by decide +kernel
theorem dX1_getDown_44 : decode cX1_getDown 44 = .ok (.ireturn, 1) := by decide +kernel
set_option maxRecDepth 20000 in
theorem ggX2_init_X1_init : GoodIn wsX2_init wsX1_init := goodIn_r _ [9, 10, 2, 3, 11, 12, 13, 14, 18, 19, 20, 21, 22, 23, 24] (by decide +kernel) (by decide +kernel)
set_option maxRecDepth 20000 in
theorem gX2_init_X1_init_n17 : GoodIn wsX2_init (wsX1_init) := ggX2_init_X1_init
theorem dX2_init_0 : decode cX2_init 0 = .ok (.aload_n 0, 1) := by decide +kernel
theorem dX2_init_1 : decode cX2_init 1 = .ok (.invokespecial 3, 3) := by decide +kernel
theorem dX2_init_4 : decode cX2_init 4 = .ok (.aload_n 0, 1) := by decide +kernel
theorem dX2_init_5 : decode cX2_init 5 = .ok (.bipush 10, 2) := by decide +kernel
theorem dX2_init_7 : decode cX2_init 7 = .ok (.anewarray 9, 3) := by decide +kernel
theorem dX2_init_10 : decode cX2_init 10 = .ok (.putfield 11, 3) := by decide +kernel
theorem dX2_init_13 : decode cX2_init 13 = .ok (.iconst 0, 1) := by decide +kernel
theorem dX2_init_14 : decode cX2_init 14 = .ok (.istore_n 1, 1) := by decide +kernel
theorem dX2_init_15 : decode cX2_init 15 = .ok (.iload_n 1, 1) := by decide +kernel
theorem dX2_init_16 : decode cX2_init 16 = .ok (.bipush 10, 2) := by decide +kernel
theorem dX2_init_18 : decode cX2_init 18 = .ok (.if_icmp .ge 22, 3) := by decide +kernel
theorem dX2_init_21 : decode cX2_init 21 = .ok (.aload_n 0, 1) := by decide +kernel
theorem dX2_init_22 : decode cX2_init 22 = .ok (.getfield 11, 3) := by decide +kernel
theorem dX2_init_25 : decode cX2_init 25 = .ok (.iload_n 1, 1) := by decide +kernel
theorem dX2_init_26 : decode cX2_init 26 = .ok (.new 9, 3) := by decide +kernel
theorem dX2_init_29 : decode cX2_init 29 = .ok (.dup, 1) := by decide +kernel
theorem dX2_init_30 : decode cX2_init 30 = .ok (.invokespecial 17, 3) := by decide +kernel
theorem dX2_init_33 : decode cX2_init 33 = .ok (.aastore, 1) := by decide +kernel
theorem dX2_init_34 : decode cX2_init 34 = .ok (.iinc 1 1, 3) := by decide +kernel
theorem dX2_init_37 : decode cX2_init 37 = .ok (.goto (-22), 3) := by decide +kernel
theorem dX2_init_40 : decode cX2_init 40 = .ok (.return_, 1) := by decide +kernel
set_option maxRecDepth 20000 in
theorem ggX2_push_X2_placeOf : GoodIn wsX2_push wsX2_placeOf := goodIn_r _ [8, 3, 25, 26, 27] (by decide +kernel) (by decide +kernel)
set_option maxRecDepth 20000 in
theorem gX2_push_X2_placeOf : GoodIn wsX2_push (wsV RX2 22 RX2 yX2_placeOf wsX2_placeOf) := goodIn_app (goodIn_of _ (by decide +kernel)) ggX2_push_X2_placeOf
set_option maxRecDepth 20000 in
theorem ggX2_push_X1_copyFrom : GoodIn wsX2_push wsX1_copyFrom := goodIn_r _ [13, 14, 15, 16, 17, 18, 19, 20, 21, 22, 23, 24, 28, 29, 30, 31, 32, 33, 34] (by decide +kernel) (by decide +kernel)
set_option maxRecDepth 20000 in
theorem gX2_push_X1_copyFrom : GoodIn wsX2_push (wsV RX2 26 RX1 yX1_copyFrom wsX1_copyFrom) := goodIn_app (goodIn_of _ (by decide +kernel)) ggX2_push_X1_copyFrom
theorem dX2_push_0 : decode cX2_push 0 = .ok (.aload_n 0, 1) := by decide +kernel
theorem dX2_push_1 : decode cX2_push 1 = .ok (.getfield 11, 3) := by decide +kernel
theorem dX2_push_4 : decode cX2_push 4 = .ok (.aload_n 0, 1) := by decide +kernel
theorem dX2_push_5 : decode cX2_push 5 = .ok (.aload_n 0, 1) := by decide +kernel
theorem dX2_push_6 : decode cX2_push 6 = .ok (.getfield 18, 3) := by decide +kernel
theorem dX2_push_9 : decode cX2_push 9 = .ok (.invokevirtual 22, 3) := by decide +kernel
theorem dX2_push_12 : decode cX2_push 12 = .ok (.aaload, 1) := by decide +kernel
theorem dX2_push_13 : decode cX2_push 13 = .ok (.aload_n 1, 1) := by decide +kernel
theorem dX2_push_14 : decode cX2_push 14 = .ok (.invokevirtual 26, 3) := by decide +kernel
theorem dX2_push_17 : decode cX2_push 17 = .ok (.aload_n 0, 1) := by decide +kernel
theorem dX2_push_18 : decode cX2_push 18 = .ok (.getfield 18, 3) := by decide +kernel
theorem dX2_push_21 : decode cX2_push 21 = .ok (.bipush 10, 2) := by decide +kernel
theorem dX2_push_23 : decode cX2_push 23 = .ok (.if_icmp .ge 16, 3) := by decide +kernel
theorem dX2_push_26 : decode cX2_push 26 = .ok (.aload_n 0, 1) := by decide +kernel
theorem dX2_push_27 : decode cX2_push 27 = .ok (.dup, 1) := by decide +kernel
theorem dX2_push_28 : decode cX2_push 28 = .ok (.getfield 18, 3) := by decide +kernel
theorem dX2_push_31 : decode cX2_push 31 = .ok (.iconst 1, 1) := by decide +kernel
theorem dX2_push_32 : decode cX2_push 32 = .ok (.iadd, 1) := by decide +kernel
theorem dX2_push_33 : decode cX2_push 33 = .ok (.putfield 18, 3) := by decide +kernel
theorem dX2_push_36 : decode cX2_push 36 = .ok (.goto 12, 3) := by decide +kernel
theorem dX2_push_39 : decode cX2_push 39 = .ok (.aload_n 0, 1) := by decide +kernel
theorem dX2_push_40 : decode cX2_push 40 = .ok (.aload_n 0, 1) := by decide +kernel
theorem dX2_push_41 : decode cX2_push 41 = .ok (.iconst 1, 1) := by decide +kernel
theorem dX2_push_42 : decode cX2_push 42 = .ok (.invokevirtual 22, 3) := by decide +kernel
theorem dX2_push_45 : decode cX2_push 45 = .ok (.putfield 30, 3) := by decide +kernel
theorem dX2_push_48 : decode cX2_push 48 = .ok (.return_, 1) := by decide +kernel
set_option maxRecDepth 20000 in
theorem ggX2_popInto_X2_placeOf : GoodIn wsX2_popInto wsX2_placeOf := goodIn_r _ [7, 8, 25, 26, 27] (by decide +kernel) (by decide +kernel)
set_option maxRecDepth 20000 in
theorem gX2_popInto_X2_placeOf : GoodIn wsX2_popInto (wsV RX2 22 RX2 yX2_placeOf wsX2_placeOf) := goodIn_app (goodIn_of _ (by decide +kernel)) ggX2_popInto_X2_placeOf
set_option maxRecDepth 20000 in
theorem ggX2_popInto_X1_copyFrom : GoodIn wsX2_popInto wsX1_copyFrom := goodIn_r _ [13, 14, 15, 16, 17, 18, 19, 20, 21, 22, 23, 24, 28, 29, 30, 31, 32, 33, 34] (by decide +kernel) (by decide +kernel)
set_option maxRecDepth 20000 in
theorem gX2_popInto_X1_copyFrom : GoodIn wsX2_popInto (wsV RX2 26 RX1 yX1_copyFrom wsX1_copyFrom) := goodIn_app (goodIn_of _ (by decide +kernel)) ggX2_popInto_X1_copyFrom
theorem dX2_popInto_0 : decode cX2_popInto 0 = .ok (.aload_n 0, 1) := by decide +kernel
theorem dX2_popInto_1 : decode cX2_popInto 1 = .ok (.getfield 18, 3) := by decide +kernel
theorem dX2_popInto_4 : decode cX2_popInto 4 = .ok (.ifCond .le 30, 3) := by decide +kernel
theorem dX2_popInto_7 : decode cX2_popInto 7 = .ok (.aload_n 0, 1) := by decide +kernel
theorem dX2_popInto_8 : decode cX2_popInto 8 = .ok (.dup, 1) := by decide +kernel
theorem dX2_popInto_9 : decode cX2_popInto 9 = .ok (.getfield 18, 3) := by decide +kernel
theorem dX2_popInto_12 : decode cX2_popInto 12 = .ok (.iconst 1, 1) := by decide +kernel
theorem dX2_popInto_13 : decode cX2_popInto 13 = .ok (.isub, 1) := by decide +kernel
theorem dX2_popInto_14 : decode cX2_popInto 14 = .ok (.putfield 18, 3) := by decide +kernel
theorem dX2_popInto_17 : decode cX2_popInto 17 = .ok (.aload_n 1, 1) := by decide +kernel
theorem dX2_popInto_18 : decode cX2_popInto 18 = .ok (.aload_n 0, 1) := by decide +kernel
theorem dX2_popInto_19 : decode cX2_popInto 19 = .ok (.getfield 11, 3) := by decide +kernel
theorem dX2_popInto_22 : decode cX2_popInto 22 = .ok (.aload_n 0, 1) := by decide +kernel
theorem dX2_popInto_23 : decode cX2_popInto 23 = .ok (.aload_n 0, 1) := by decide +kernel
theorem dX2_popInto_24 : decode cX2_popInto 24 = .ok (.getfield 18, 3) := by decide +kernel
theorem dX2_popInto_27 : decode cX2_popInto 27 = .ok (.invokevirtual 22, 3) := by decide +kernel
theorem dX2_popInto_30 : decode cX2_popInto 30 = .ok (.aaload, 1) := by decide +kernel
theorem dX2_popInto_31 : decode cX2_popInto 31 = .ok (.invokevirtual 26, 3) := by decide +kernel
theorem dX2_popInto_34 : decode cX2_popInto 34 = .ok (.return_, 1) := by decide +kernel
set_option maxRecDepth 20000 in
theorem ggX2_copyFrom_X2_placeOf : GoodIn wsX2_copyFrom wsX2_placeOf := goodIn_r _ [8, 2, 25, 26, 27] (by decide +kernel) (by decide +kernel)
set_option maxRecDepth 20000 in
theorem gX2_copyFrom_X2_placeOf : GoodIn wsX2_copyFrom (wsV RX2 22 RX2 yX2_placeOf wsX2_placeOf) := goodIn_app (goodIn_of _ (by decide +kernel)) ggX2_copyFrom_X2_placeOf
set_option maxRecDepth 20000 in
theorem ggX2_copyFrom_X1_copyFrom : GoodIn wsX2_copyFrom wsX1_copyFrom := goodIn_r _ [13, 14, 15, 16, 17, 18, 19, 20, 21, 22, 23, 24, 28, 29, 30, 31, 32, 33, 34] (by decide +kernel) (by decide +kernel)
set_option maxRecDepth 20000 in
theorem gX2_copyFrom_X1_copyFrom : GoodIn wsX2_copyFrom (wsV RX2 26 RX1 yX1_copyFrom wsX1_copyFrom) := goodIn_app (goodIn_of _ (by decide +kernel)) ggX2_copyFrom_X1_copyFrom
theorem dX2_copyFrom_0 : decode cX2_copyFrom 0 = .ok (.aload_n 0, 1) := by decide +kernel
theorem dX2_copyFrom_1 : decode cX2_copyFrom 1 = .ok (.aload_n 1, 1) := by decide +kernel
theorem dX2_copyFrom_2 : decode cX2_copyFrom 2 = .ok (.getfield 18, 3) := by decide +kernel
theorem dX2_copyFrom_5 : decode cX2_copyFrom 5 = .ok (.putfield 18, 3) := by decide +kernel
theorem dX2_copyFrom_8 : decode cX2_copyFrom 8 = .ok (.aload_n 0, 1) := by decide +kernel
theorem dX2_copyFrom_9 : decode cX2_copyFrom 9 = .ok (.iconst 0, 1) := by decide +kernel
theorem dX2_copyFrom_10 : decode cX2_copyFrom 10 = .ok (.putfield 30, 3) := by decide +kernel
theorem dX2_copyFrom_13 : decode cX2_copyFrom 13 = .ok (.iconst 0, 1) := by decide +kernel
theorem dX2_copyFrom_14 : decode cX2_copyFrom 14 = .ok (.istore_n 2, 1) := by decide +kernel
theorem dX2_copyFrom_15 : decode cX2_copyFrom 15 = .ok (.iload_n 2, 1) := by decide +kernel
theorem dX2_copyFrom_16 : decode cX2_copyFrom 16 = .ok (.aload_n 0, 1) := by decide +kernel
theorem dX2_copyFrom_17 : decode cX2_copyFrom 17 = .ok (.getfield 18, 3) := by decide +kernel
theorem dX2_copyFrom_20 : decode cX2_copyFrom 20 = .ok (.if_icmp .ge 28, 3) := by decide +kernel
theorem dX2_copyFrom_23 : decode cX2_copyFrom 23 = .ok (.aload_n 0, 1) := by decide +kernel
theorem dX2_copyFrom_24 : decode cX2_copyFrom 24 = .ok (.getfield 11, 3) := by decide +kernel
theorem dX2_copyFrom_27 : decode cX2_copyFrom 27 = .ok (.iload_n 2, 1) := by decide +kernel
theorem dX2_copyFrom_28 : decode cX2_copyFrom 28 = .ok (.aaload, 1) := by decide +kernel
theorem dX2_copyFrom_29 : decode cX2_copyFrom 29 = .ok (.aload_n 1, 1) := by decide +kernel
theorem dX2_copyFrom_30 : decode cX2_copyFrom 30 = .ok (.getfield 11, 3) := by decide +kernel
theorem dX2_copyFrom_33 : decode cX2_copyFrom 33 = .ok (.aload_n 1, 1) := by decide +kernel
theorem dX2_copyFrom_34 : decode cX2_copyFrom 34 = .ok (.iload_n 2, 1) := by decide +kernel
theorem dX2_copyFrom_35 : decode cX2_copyFrom 35 = .ok (.invokevirtual 22, 3) := by decide +kernel
theorem dX2_copyFrom_38 : decode cX2_copyFrom 38 = .ok (.aaload, 1) := by decide +kernel
theorem dX2_copyFrom_39 : decode cX2_copyFrom 39 = .ok (.invokevirtual 26, 3) := by decide +kernel
theorem dX2_copyFrom_42 : decode cX2_copyFrom 42 = .ok (.iinc 2 1, 3) := by decide +kernel
theorem dX2_copyFrom_45 : decode cX2_copyFrom 45 = .ok (.goto (-30), 3) := by decide +kernel
theorem dX2_copyFrom_48 : decode cX2_copyFrom 48 = .ok (.return_, 1) := by decide +kernel
theorem dX2_placeOf_0 : decode cX2_placeOf 0 = .ok (.aload_n 0, 1) := by decide +kernel
theorem dX2_placeOf_1 : decode cX2_placeOf 1 = .ok (.getfield 30, 3) := by decide +kernel
theorem dX2_placeOf_4 : decode cX2_placeOf 4 = .ok (.iload_n 1, 1) := by decide +kernel
theorem dX2_placeOf_5 : decode cX2_placeOf 5 = .ok (.iadd, 1) := by decide +kernel
theorem dX2_placeOf_6 : decode cX2_placeOf 6 = .ok (.bipush 10, 2) := by decide +kernel
theorem dX2_placeOf_8 : decode cX2_placeOf 8 = .ok (.irem, 1) := by decide +kernel
theorem dX2_placeOf_9 : decode cX2_placeOf 9 = .ok (.ireturn, 1) := by decide +kernel
theorem dX3_init_0 : decode cX3_init 0 = .ok (.aload_n 0, 1) := by decide +kernel
theorem dX3_init_1 : decode cX3_init 1 = .ok (.invokespecial 3, 3) := by decide +kernel
theorem dX3_init_4 : decode cX3_init 4 = .ok (.aload_n 0, 1) := by decide +kernel
theorem dX3_init_5 : decode cX3_init 5 = .ok (.bipush 120, 2) := by decide +kernel
theorem dX3_init_7 : decode cX3_init 7 = .ok (.newarray .int, 2) := by decide +kernel
theorem dX3_init_9 : decode cX3_init 9 = .ok (.putfield 9, 3) := by decide +kernel
theorem dX3_init_12 : decode cX3_init 12 = .ok (.return_, 1) := by decide +kernel
theorem dX3_add_0 : decode cX3_add 0 = .ok (.aload_n 0, 1) := by decide +kernel
theorem dX3_add_1 : decode cX3_add 1 = .ok (.getfield 15, 3) := by decide +kernel
theorem dX3_add_4 : decode cX3_add 4 = .ok (.bipush 120, 2) := by decide +kernel
theorem dX3_add_6 : decode cX3_add 6 = .ok (.if_icmp .lt 5, 3) := by decide +kernel
theorem dX3_add_9 : decode cX3_add 9 = .ok (.iconst 0, 1) := by decide +kernel
theorem dX3_add_10 : decode cX3_add 10 = .ok (.ireturn, 1) := by decide +kernel
theorem dX3_add_11 : decode cX3_add 11 = .ok (.aload_n 0, 1) := by decide +kernel
theorem dX3_add_12 : decode cX3_add 12 = .ok (.getfield 9, 3) := by decide +kernel
theorem dX3_add_15 : decode cX3_add 15 = .ok (.aload_n 0, 1) := by decide +kernel
theorem dX3_add_16 : decode cX3_add 16 = .ok (.getfield 15, 3) := by decide +kernel
theorem dX3_add_19 : decode cX3_add 19 = .ok (.iload_n 1, 1) := by decide +kernel
theorem dX3_add_20 : decode cX3_add 20 = .ok (.iastore, 1) := by decide +kernel
theorem dX3_add_21 : decode cX3_add 21 = .ok (.aload_n 0, 1) := by decide +kernel
theorem dX3_add_22 : decode cX3_add 22 = .ok (.dup, 1) := by decide +kernel
theorem dX3_add_23 : decode cX3_add 23 = .ok (.getfield 15, 3) := by decide +kernel
theorem dX3_add_26 : decode cX3_add 26 = .ok (.iconst 1, 1) := by decide +kernel
theorem dX3_add_27 : decode cX3_add 27 = .ok (.iadd, 1) := by decide +kernel
theorem dX3_add_28 : decode cX3_add 28 = .ok (.putfield 15, 3) := by decide +kernel
theorem dX3_add_31 : decode cX3_add 31 = .ok (.iconst 1, 1) := by decide +kernel
theorem dX3_add_32 : decode cX3_add 32 = .ok (.ireturn, 1) := by decide +kernel
set_option maxRecDepth 20000 in
theorem ggX3_readInto_X4_forgetAll : GoodIn wsX3_readInto wsX4_forgetAll := goodIn_r _ [9, 10, 11, 12, 70, 71, 72, 73, 74, 75] (by decide +kernel) (by decide +kernel)
set_option maxRecDepth 20000 in
theorem gX3_readInto_X4_forgetAll : GoodIn wsX3_readInto (wsV RX3 26 RX4 yX4_forgetAll wsX4_forgetAll) := goodIn_app (goodIn_of _ (by decide +kernel)) ggX3_readInto_X4_forgetAll
set_option maxRecDepth 20000 in
theorem ggX3_readInto_X3_advance : GoodIn wsX3_readInto wsX3_advance := goodIn_r _ [17, 1, 4, 18, 19, 20, 3, 21, 22, 23, 16, 24, 25, 26, 27, 28, 29, 30, 31, 32, 33, 34, 35, 36, 63, 64, 65, 66, 67, 68, 69] (by decide +kernel) (by decide +kernel)
set_option maxRecDepth 20000 in
theorem gX3_readInto_X3_advance : GoodIn wsX3_readInto (wsV RX3 31 RX3 yX3_advance wsX3_advance) := goodIn_app (goodIn_of _ (by decide +kernel)) ggX3_readInto_X3_advance
set_option maxRecDepth 20000 in
theorem ggX3_readInto_X3_readItem : GoodIn wsX3_readInto wsX3_readItem := goodIn_r _ [40, 3, 18, 41, 2, 42, 43, 44, 16, 45, 46, 47, 48, 49, 50, 51, 52, 13, 14, 15, 17, 1, 4, 19, 20, 21, 22, 23, 24, 25, 26, 27, 28, 29, 30, 31, 32, 33, 34, 35, 36, 53, 54, 55, 56, 57, 58, 59, 60, 61, 62, 63, 64, 65, 66, 67, 68, 69, 70, 71, 72, 73, 74, 75] (by decide +kernel) (by decide +kernel)
set_option maxRecDepth 20000 in
theorem gX3_readInto_X3_readItem : GoodIn wsX3_readInto (wsV RX3 37 RX3 yX3_readItem wsX3_readItem) := goodIn_app (goodIn_of _ (by decide +kernel)) ggX3_readInto_X3_readItem
theorem dX3_readInto_0 : decode cX3_readInto 0 = .ok (.aload_n 0, 1) := by decide +kernel
theorem dX3_readInto_1 : decode cX3_readInto 1 = .ok (.iconst 0, 1) := by decide +kernel
theorem dX3_readInto_2 : decode cX3_readInto 2 = .ok (.putfield 19, 3) := by decide +kernel
theorem dX3_readInto_5 : decode cX3_readInto 5 = .ok (.aload_n 0, 1) := by decide +kernel
theorem dX3_readInto_6 : decode cX3_readInto 6 = .ok (.iconst 0, 1) := by decide +kernel
theorem dX3_readInto_7 : decode cX3_readInto 7 = .ok (.putfield 22, 3) := by decide +kernel
theorem dX3_readInto_10 : decode cX3_readInto 10 = .ok (.aload_n 1, 1) := by decide +kernel
theorem dX3_readInto_11 : decode cX3_readInto 11 = .ok (.invokevirtual 26, 3) := by decide +kernel
theorem dX3_readInto_14 : decode cX3_readInto 14 = .ok (.aload_n 0, 1) := by decide +kernel
theorem dX3_readInto_15 : decode cX3_readInto 15 = .ok (.invokevirtual 31, 3) := by decide +kernel
theorem dX3_readInto_18 : decode cX3_readInto 18 = .ok (.iconst 0, 1) := by decide +kernel
theorem dX3_readInto_19 : decode cX3_readInto 19 = .ok (.istore_n 2, 1) := by decide +kernel
theorem dX3_readInto_20 : decode cX3_readInto 20 = .ok (.iload_n 2, 1) := by decide +kernel
theorem dX3_readInto_21 : decode cX3_readInto 21 = .ok (.bipush 120, 2) := by decide +kernel
theorem dX3_readInto_23 : decode cX3_readInto 23 = .ok (.if_icmp .ge 29, 3) := by decide +kernel
theorem dX3_readInto_26 : decode cX3_readInto 26 = .ok (.aload_n 0, 1) := by decide +kernel
theorem dX3_readInto_27 : decode cX3_readInto 27 = .ok (.getfield 34, 3) := by decide +kernel
theorem dX3_readInto_30 : decode cX3_readInto 30 = .ok (.ifCond .eq 22, 3) := by decide +kernel
theorem dX3_readInto_33 : decode cX3_readInto 33 = .ok (.aload_n 0, 1) := by decide +kernel
theorem dX3_readInto_34 : decode cX3_readInto 34 = .ok (.aload_n 1, 1) := by decide +kernel
theorem dX3_readInto_35 : decode cX3_readInto 35 = .ok (.invokevirtual 37, 3) := by decide +kernel
theorem dX3_readInto_38 : decode cX3_readInto 38 = .ok (.ifCond .ne 8, 3) := by decide +kernel
theorem dX3_readInto_41 : decode cX3_readInto 41 = .ok (.aload_n 0, 1) := by decide +kernel
theorem dX3_readInto_42 : decode cX3_readInto 42 = .ok (.getfield 41, 3) := by decide +kernel
theorem dX3_readInto_45 : decode cX3_readInto 45 = .ok (.ireturn, 1) := by decide +kernel
theorem dX3_readInto_46 : decode cX3_readInto 46 = .ok (.iinc 2 1, 3) := by decide +kernel
theorem dX3_readInto_49 : decode cX3_readInto 49 = .ok (.goto (-29), 3) := by decide +kernel
theorem dX3_readInto_52 : decode cX3_readInto 52 = .ok (.iconst (-1), 1) := by decide +kernel
theorem dX3_readInto_53 : decode cX3_readInto 53 = .ok (.ireturn, 1) := by decide +kernel
set_option maxRecDepth 20000 in
theorem ggX3_readItem_X3_readRider : GoodIn wsX3_readItem wsX3_readRider := goodIn_r _ [9, 10, 2, 11, 12, 3, 13, 14, 15, 8, 16, 1, 17, 18, 19, 20, 21, 22, 23, 24, 25, 26, 27, 28, 29, 30, 31, 32, 33, 34, 35, 36, 37, 38, 39, 40, 58, 59, 60, 61, 62, 63, 51, 52, 53, 54, 55, 56, 57] (by decide +kernel) (by decide +kernel)
set_option maxRecDepth 20000 in
theorem gX3_readItem_X3_readRider : GoodIn wsX3_readItem (wsV RX3 50 RX3 yX3_readRider wsX3_readRider) := goodIn_app (goodIn_of _ (by decide +kernel)) ggX3_readItem_X3_readRider
set_option maxRecDepth 20000 in
theorem ggX3_readItem_X3_comesEnd : GoodIn wsX3_readItem wsX3_comesEnd := goodIn_r _ [44, 1, 45, 17, 18, 19, 8, 20, 21, 22, 2, 23, 24, 25, 26, 27, 28, 29, 30, 31, 32, 33, 34, 35, 36, 37, 38, 39, 40, 51, 52, 53, 54, 55, 56, 57, 58, 59, 60, 61, 62, 63] (by decide +kernel) (by decide +kernel)
set_option maxRecDepth 20000 in
theorem gX3_readItem_X3_comesEnd : GoodIn wsX3_readItem (wsV RX3 54 RX3 yX3_comesEnd wsX3_comesEnd) := goodIn_app (goodIn_of _ (by decide +kernel)) ggX3_readItem_X3_comesEnd
set_option maxRecDepth 20000 in
theorem ggX3_readItem_X3_readLine : GoodIn wsX3_readItem wsX3_readLine := goodIn_r _ [49, 2, 50, 4, 13, 14, 15, 8, 16, 1, 17, 18, 19, 20, 21, 22, 23, 24, 25, 26, 27, 28, 29, 30, 31, 32, 33, 34, 35, 36, 37, 38, 39, 40, 51, 52, 53, 54, 55, 56, 57, 58, 59, 60, 61, 62, 63] (by decide +kernel) (by decide +kernel)
set_option maxRecDepth 20000 in
theorem gX3_readItem_X3_readLine : GoodIn wsX3_readItem (wsV RX3 57 RX3 yX3_readLine wsX3_readLine) := goodIn_app (goodIn_of _ (by decide +kernel)) ggX3_readItem_X3_readLine
theorem dX3_readItem_0 : decode cX3_readItem 0 = .ok (.aload_n 0, 1) := by decide +kernel
theorem dX3_readItem_1 : decode cX3_readItem 1 = .ok (.getfield 34, 3) := by decide +kernel
theorem dX3_readItem_4 : decode cX3_readItem 4 = .ok (.iconst 1, 1) := by decide +kernel
theorem dX3_readItem_5 : decode cX3_readItem 5 = .ok (.if_icmp .ne 47, 3) := by decide +kernel
theorem dX3_readItem_8 : decode cX3_readItem 8 = .ok (.aload_n 0, 1) := by decide +kernel
theorem dX3_readItem_9 : decode cX3_readItem 9 = .ok (.getfield 44, 3) := by decide +kernel
theorem dX3_readItem_12 : decode cX3_readItem 12 = .ok (.bipush 114, 2) := by decide +kernel
theorem dX3_readItem_14 : decode cX3_readItem 14 = .ok (.if_icmp .ne 38, 3) := by decide +kernel
theorem dX3_readItem_17 : decode cX3_readItem 17 = .ok (.aload_n 1, 1) := by decide +kernel
theorem dX3_readItem_18 : decode cX3_readItem 18 = .ok (.getfield 47, 3) := by decide +kernel
theorem dX3_readItem_21 : decode cX3_readItem 21 = .ok (.bipush 6, 2) := by decide +kernel
theorem dX3_readItem_23 : decode cX3_readItem 23 = .ok (.if_icmp .ge 29, 3) := by decide +kernel
theorem dX3_readItem_26 : decode cX3_readItem 26 = .ok (.aload_n 0, 1) := by decide +kernel
theorem dX3_readItem_27 : decode cX3_readItem 27 = .ok (.aload_n 1, 1) := by decide +kernel
theorem dX3_readItem_28 : decode cX3_readItem 28 = .ok (.aload_n 1, 1) := by decide +kernel
theorem dX3_readItem_29 : decode cX3_readItem 29 = .ok (.getfield 47, 3) := by decide +kernel
theorem dX3_readItem_32 : decode cX3_readItem 32 = .ok (.invokevirtual 50, 3) := by decide +kernel
theorem dX3_readItem_35 : decode cX3_readItem 35 = .ok (.ifCond .eq 15, 3) := by decide +kernel
theorem dX3_readItem_38 : decode cX3_readItem 38 = .ok (.aload_n 0, 1) := by decide +kernel
theorem dX3_readItem_39 : decode cX3_readItem 39 = .ok (.aload_n 1, 1) := by decide +kernel
theorem dX3_readItem_40 : decode cX3_readItem 40 = .ok (.invokevirtual 54, 3) := by decide +kernel
theorem dX3_readItem_43 : decode cX3_readItem 43 = .ok (.ifCond .eq 7, 3) := by decide +kernel
theorem dX3_readItem_46 : decode cX3_readItem 46 = .ok (.iconst 1, 1) := by decide +kernel
theorem dX3_readItem_47 : decode cX3_readItem 47 = .ok (.goto 4, 3) := by decide +kernel
theorem dX3_readItem_50 : decode cX3_readItem 50 = .ok (.iconst 0, 1) := by decide +kernel
theorem dX3_readItem_51 : decode cX3_readItem 51 = .ok (.ireturn, 1) := by decide +kernel
theorem dX3_readItem_52 : decode cX3_readItem 52 = .ok (.aload_n 0, 1) := by decide +kernel
theorem dX3_readItem_53 : decode cX3_readItem 53 = .ok (.getfield 34, 3) := by decide +kernel
theorem dX3_readItem_56 : decode cX3_readItem 56 = .ok (.iconst 1, 1) := by decide +kernel
theorem dX3_readItem_57 : decode cX3_readItem 57 = .ok (.if_icmp .ne 41, 3) := by decide +kernel
theorem dX3_readItem_60 : decode cX3_readItem 60 = .ok (.aload_n 0, 1) := by decide +kernel
theorem dX3_readItem_61 : decode cX3_readItem 61 = .ok (.getfield 44, 3) := by decide +kernel
theorem dX3_readItem_64 : decode cX3_readItem 64 = .ok (.bipush 108, 2) := by decide +kernel
theorem dX3_readItem_66 : decode cX3_readItem 66 = .ok (.if_icmp .ne 32, 3) := by decide +kernel
theorem dX3_readItem_69 : decode cX3_readItem 69 = .ok (.aload_n 0, 1) := by decide +kernel
theorem dX3_readItem_70 : decode cX3_readItem 70 = .ok (.getfield 22, 3) := by decide +kernel
theorem dX3_readItem_73 : decode cX3_readItem 73 = .ok (.ifCond .ne 25, 3) := by decide +kernel
theorem dX3_readItem_76 : decode cX3_readItem 76 = .ok (.aload_n 0, 1) := by decide +kernel
theorem dX3_readItem_77 : decode cX3_readItem 77 = .ok (.aload_n 1, 1) := by decide +kernel
theorem dX3_readItem_78 : decode cX3_readItem 78 = .ok (.invokevirtual 57, 3) := by decide +kernel
theorem dX3_readItem_81 : decode cX3_readItem 81 = .ok (.ifCond .eq 15, 3) := by decide +kernel
theorem dX3_readItem_84 : decode cX3_readItem 84 = .ok (.aload_n 0, 1) := by decide +kernel
theorem dX3_readItem_85 : decode cX3_readItem 85 = .ok (.aload_n 1, 1) := by decide +kernel
theorem dX3_readItem_86 : decode cX3_readItem 86 = .ok (.invokevirtual 54, 3) := by decide +kernel
theorem dX3_readItem_89 : decode cX3_readItem 89 = .ok (.ifCond .eq 7, 3) := by decide +kernel
theorem dX3_readItem_92 : decode cX3_readItem 92 = .ok (.iconst 1, 1) := by decide +kernel
theorem dX3_readItem_93 : decode cX3_readItem 93 = .ok (.goto 4, 3) := by decide +kernel
theorem dX3_readItem_96 : decode cX3_readItem 96 = .ok (.iconst 0, 1) := by decide +kernel
theorem dX3_readItem_97 : decode cX3_readItem 97 = .ok (.ireturn, 1) := by decide +kernel
theorem dX3_readItem_98 : decode cX3_readItem 98 = .ok (.iconst 0, 1) := by decide +kernel
theorem dX3_readItem_99 : decode cX3_readItem 99 = .ok (.ireturn, 1) := by decide +kernel
set_option maxRecDepth 20000 in
theorem ggX3_readRider_X3_comesNumber : GoodIn wsX3_readRider wsX3_comesNumber := goodIn_r _ [10, 11, 2, 12, 13, 14, 9, 15, 16, 17, 18, 19, 20, 21, 22, 23, 24, 25, 26, 27, 28, 29, 30, 31, 32, 33, 34, 35, 42, 43, 44, 45, 46, 47, 48] (by decide +kernel) (by decide +kernel)
set_option maxRecDepth 20000 in
theorem gX3_readRider_X3_comesNumber : GoodIn wsX3_readRider (wsV RX3 60 RX3 yX3_comesNumber wsX3_comesNumber) := goodIn_app (goodIn_of _ (by decide +kernel)) ggX3_readRider_X3_comesNumber
theorem dX3_readRider_0 : decode cX3_readRider 0 = .ok (.aload_n 0, 1) := by decide +kernel
theorem dX3_readRider_1 : decode cX3_readRider 1 = .ok (.iconst 0, 1) := by decide +kernel
theorem dX3_readRider_2 : decode cX3_readRider 2 = .ok (.bipush 9, 2) := by decide +kernel
theorem dX3_readRider_4 : decode cX3_readRider 4 = .ok (.invokevirtual 60, 3) := by decide +kernel
theorem dX3_readRider_7 : decode cX3_readRider 7 = .ok (.ifCond .ne 5, 3) := by decide +kernel
theorem dX3_readRider_10 : decode cX3_readRider 10 = .ok (.iconst 0, 1) := by decide +kernel
theorem dX3_readRider_11 : decode cX3_readRider 11 = .ok (.ireturn, 1) := by decide +kernel
theorem dX3_readRider_12 : decode cX3_readRider 12 = .ok (.aload_n 1, 1) := by decide +kernel
theorem dX3_readRider_13 : decode cX3_readRider 13 = .ok (.getfield 64, 3) := by decide +kernel
theorem dX3_readRider_16 : decode cX3_readRider 16 = .ok (.iload_n 2, 1) := by decide +kernel
theorem dX3_readRider_17 : decode cX3_readRider 17 = .ok (.aload_n 0, 1) := by decide +kernel
theorem dX3_readRider_18 : decode cX3_readRider 18 = .ok (.getfield 44, 3) := by decide +kernel
theorem dX3_readRider_21 : decode cX3_readRider 21 = .ok (.iastore, 1) := by decide +kernel
theorem dX3_readRider_22 : decode cX3_readRider 22 = .ok (.aload_n 0, 1) := by decide +kernel
theorem dX3_readRider_23 : decode cX3_readRider 23 = .ok (.iconst 0, 1) := by decide +kernel
theorem dX3_readRider_24 : decode cX3_readRider 24 = .ok (.bipush 9, 2) := by decide +kernel
theorem dX3_readRider_26 : decode cX3_readRider 26 = .ok (.invokevirtual 60, 3) := by decide +kernel
theorem dX3_readRider_29 : decode cX3_readRider 29 = .ok (.ifCond .ne 5, 3) := by decide +kernel
theorem dX3_readRider_32 : decode cX3_readRider 32 = .ok (.iconst 0, 1) := by decide +kernel
theorem dX3_readRider_33 : decode cX3_readRider 33 = .ok (.ireturn, 1) := by decide +kernel
theorem dX3_readRider_34 : decode cX3_readRider 34 = .ok (.aload_n 1, 1) := by decide +kernel
theorem dX3_readRider_35 : decode cX3_readRider 35 = .ok (.getfield 67, 3) := by decide +kernel
theorem dX3_readRider_38 : decode cX3_readRider 38 = .ok (.iload_n 2, 1) := by decide +kernel
theorem dX3_readRider_39 : decode cX3_readRider 39 = .ok (.aload_n 0, 1) := by decide +kernel
theorem dX3_readRider_40 : decode cX3_readRider 40 = .ok (.getfield 44, 3) := by decide +kernel
theorem dX3_readRider_43 : decode cX3_readRider 43 = .ok (.iastore, 1) := by decide +kernel
theorem dX3_readRider_44 : decode cX3_readRider 44 = .ok (.aload_n 0, 1) := by decide +kernel
theorem dX3_readRider_45 : decode cX3_readRider 45 = .ok (.iconst 0, 1) := by decide +kernel
theorem dX3_readRider_46 : decode cX3_readRider 46 = .ok (.iconst 2, 1) := by decide +kernel
theorem dX3_readRider_47 : decode cX3_readRider 47 = .ok (.invokevirtual 60, 3) := by decide +kernel
theorem dX3_readRider_50 : decode cX3_readRider 50 = .ok (.ifCond .ne 5, 3) := by decide +kernel
theorem dX3_readRider_53 : decode cX3_readRider 53 = .ok (.iconst 0, 1) := by decide +kernel
theorem dX3_readRider_54 : decode cX3_readRider 54 = .ok (.ireturn, 1) := by decide +kernel
theorem dX3_readRider_55 : decode cX3_readRider 55 = .ok (.aload_n 1, 1) := by decide +kernel
theorem dX3_readRider_56 : decode cX3_readRider 56 = .ok (.getfield 70, 3) := by decide +kernel
theorem dX3_readRider_59 : decode cX3_readRider 59 = .ok (.iload_n 2, 1) := by decide +kernel
theorem dX3_readRider_60 : decode cX3_readRider 60 = .ok (.aload_n 0, 1) := by decide +kernel
theorem dX3_readRider_61 : decode cX3_readRider 61 = .ok (.getfield 44, 3) := by decide +kernel
theorem dX3_readRider_64 : decode cX3_readRider 64 = .ok (.iastore, 1) := by decide +kernel
theorem dX3_readRider_65 : decode cX3_readRider 65 = .ok (.aload_n 1, 1) := by decide +kernel
theorem dX3_readRider_66 : decode cX3_readRider 66 = .ok (.dup, 1) := by decide +kernel
theorem dX3_readRider_67 : decode cX3_readRider 67 = .ok (.getfield 47, 3) := by decide +kernel
theorem dX3_readRider_70 : decode cX3_readRider 70 = .ok (.iconst 1, 1) := by decide +kernel
theorem dX3_readRider_71 : decode cX3_readRider 71 = .ok (.iadd, 1) := by decide +kernel
theorem dX3_readRider_72 : decode cX3_readRider 72 = .ok (.putfield 47, 3) := by decide +kernel
theorem dX3_readRider_75 : decode cX3_readRider 75 = .ok (.iconst 1, 1) := by decide +kernel
theorem dX3_readRider_76 : decode cX3_readRider 76 = .ok (.ireturn, 1) := by decide +kernel
set_option maxRecDepth 20000 in
theorem ggX3_readLine_X3_comesNumber : GoodIn wsX3_readLine wsX3_comesNumber := goodIn_r _ [8, 9, 1, 10, 11, 12, 7, 13, 14, 15, 16, 17, 18, 19, 20, 21, 22, 23, 24, 25, 26, 27, 28, 29, 30, 31, 32, 33, 34, 35, 36, 37, 38, 39, 40] (by decide +kernel) (by decide +kernel)
set_option maxRecDepth 20000 in
theorem gX3_readLine_X3_comesNumber : GoodIn wsX3_readLine (wsV RX3 60 RX3 yX3_comesNumber wsX3_comesNumber) := goodIn_app (goodIn_of _ (by decide +kernel)) ggX3_readLine_X3_comesNumber
theorem dX3_readLine_0 : decode cX3_readLine 0 = .ok (.aload_n 0, 1) := by decide +kernel
theorem dX3_readLine_1 : decode cX3_readLine 1 = .ok (.iconst 1, 1) := by decide +kernel
theorem dX3_readLine_2 : decode cX3_readLine 2 = .ok (.bipush 20, 2) := by decide +kernel
theorem dX3_readLine_4 : decode cX3_readLine 4 = .ok (.invokevirtual 60, 3) := by decide +kernel
theorem dX3_readLine_7 : decode cX3_readLine 7 = .ok (.ifCond .ne 5, 3) := by decide +kernel
theorem dX3_readLine_10 : decode cX3_readLine 10 = .ok (.iconst 0, 1) := by decide +kernel
theorem dX3_readLine_11 : decode cX3_readLine 11 = .ok (.ireturn, 1) := by decide +kernel
theorem dX3_readLine_12 : decode cX3_readLine 12 = .ok (.aload_n 1, 1) := by decide +kernel
theorem dX3_readLine_13 : decode cX3_readLine 13 = .ok (.aload_n 0, 1) := by decide +kernel
theorem dX3_readLine_14 : decode cX3_readLine 14 = .ok (.getfield 44, 3) := by decide +kernel
theorem dX3_readLine_17 : decode cX3_readLine 17 = .ok (.putfield 73, 3) := by decide +kernel
theorem dX3_readLine_20 : decode cX3_readLine 20 = .ok (.aload_n 0, 1) := by decide +kernel
theorem dX3_readLine_21 : decode cX3_readLine 21 = .ok (.iconst 1, 1) := by decide +kernel
theorem dX3_readLine_22 : decode cX3_readLine 22 = .ok (.putfield 22, 3) := by decide +kernel
theorem dX3_readLine_25 : decode cX3_readLine 25 = .ok (.iconst 1, 1) := by decide +kernel
theorem dX3_readLine_26 : decode cX3_readLine 26 = .ok (.ireturn, 1) := by decide +kernel
set_option maxRecDepth 20000 in
theorem ggX3_comesNumber_X3_advance : GoodIn wsX3_comesNumber wsX3_advance := goodIn_r _ [7, 8, 9, 2, 10, 11, 1, 12, 13, 14, 6, 15, 16, 17, 18, 19, 20, 21, 22, 23, 24, 25, 26, 27, 28, 29, 30, 31, 32, 33, 34] (by decide +kernel) (by decide +kernel)
set_option maxRecDepth 20000 in
theorem gX3_comesNumber_X3_advance : GoodIn wsX3_comesNumber (wsV RX3 31 RX3 yX3_advance wsX3_advance) := goodIn_app (goodIn_of _ (by decide +kernel)) ggX3_comesNumber_X3_advance
theorem dX3_comesNumber_0 : decode cX3_comesNumber 0 = .ok (.aload_n 0, 1) := by decide +kernel
theorem dX3_comesNumber_1 : decode cX3_comesNumber 1 = .ok (.invokevirtual 31, 3) := by decide +kernel
theorem dX3_comesNumber_4 : decode cX3_comesNumber 4 = .ok (.aload_n 0, 1) := by decide +kernel
theorem dX3_comesNumber_5 : decode cX3_comesNumber 5 = .ok (.getfield 34, 3) := by decide +kernel
theorem dX3_comesNumber_8 : decode cX3_comesNumber 8 = .ok (.iconst 2, 1) := by decide +kernel
theorem dX3_comesNumber_9 : decode cX3_comesNumber 9 = .ok (.if_icmp .ne 23, 3) := by decide +kernel
theorem dX3_comesNumber_12 : decode cX3_comesNumber 12 = .ok (.aload_n 0, 1) := by decide +kernel
theorem dX3_comesNumber_13 : decode cX3_comesNumber 13 = .ok (.getfield 44, 3) := by decide +kernel
theorem dX3_comesNumber_16 : decode cX3_comesNumber 16 = .ok (.iload_n 1, 1) := by decide +kernel
theorem dX3_comesNumber_17 : decode cX3_comesNumber 17 = .ok (.if_icmp .lt 15, 3) := by decide +kernel
theorem dX3_comesNumber_20 : decode cX3_comesNumber 20 = .ok (.aload_n 0, 1) := by decide +kernel
theorem dX3_comesNumber_21 : decode cX3_comesNumber 21 = .ok (.getfield 44, 3) := by decide +kernel
theorem dX3_comesNumber_24 : decode cX3_comesNumber 24 = .ok (.iload_n 2, 1) := by decide +kernel
theorem dX3_comesNumber_25 : decode cX3_comesNumber 25 = .ok (.if_icmp .gt 7, 3) := by decide +kernel
theorem dX3_comesNumber_28 : decode cX3_comesNumber 28 = .ok (.iconst 1, 1) := by decide +kernel
theorem dX3_comesNumber_29 : decode cX3_comesNumber 29 = .ok (.goto 4, 3) := by decide +kernel
theorem dX3_comesNumber_32 : decode cX3_comesNumber 32 = .ok (.iconst 0, 1) := by decide +kernel
theorem dX3_comesNumber_33 : decode cX3_comesNumber 33 = .ok (.ireturn, 1) := by decide +kernel
set_option maxRecDepth 20000 in
theorem ggX3_comesEnd_X3_advance : GoodIn wsX3_comesEnd wsX3_advance := goodIn_r _ [7, 8, 9, 10, 11, 12, 1, 13, 14, 15, 6, 16, 17, 18, 19, 20, 21, 22, 23, 24, 25, 26, 27, 28, 29, 30, 31, 32, 33, 34, 35] (by decide +kernel) (by decide +kernel)
set_option maxRecDepth 20000 in
theorem gX3_comesEnd_X3_advance : GoodIn wsX3_comesEnd (wsV RX3 31 RX3 yX3_advance wsX3_advance) := goodIn_app (goodIn_of _ (by decide +kernel)) ggX3_comesEnd_X3_advance
theorem dX3_comesEnd_0 : decode cX3_comesEnd 0 = .ok (.aload_n 0, 1) := by decide +kernel
theorem dX3_comesEnd_1 : decode cX3_comesEnd 1 = .ok (.invokevirtual 31, 3) := by decide +kernel
theorem dX3_comesEnd_4 : decode cX3_comesEnd 4 = .ok (.aload_n 0, 1) := by decide +kernel
theorem dX3_comesEnd_5 : decode cX3_comesEnd 5 = .ok (.getfield 34, 3) := by decide +kernel
theorem dX3_comesEnd_8 : decode cX3_comesEnd 8 = .ok (.iconst 3, 1) := by decide +kernel
theorem dX3_comesEnd_9 : decode cX3_comesEnd 9 = .ok (.if_icmp .eq 5, 3) := by decide +kernel
theorem dX3_comesEnd_12 : decode cX3_comesEnd 12 = .ok (.iconst 0, 1) := by decide +kernel
theorem dX3_comesEnd_13 : decode cX3_comesEnd 13 = .ok (.ireturn, 1) := by decide +kernel
theorem dX3_comesEnd_14 : decode cX3_comesEnd 14 = .ok (.aload_n 1, 1) := by decide +kernel
theorem dX3_comesEnd_15 : decode cX3_comesEnd 15 = .ok (.dup, 1) := by decide +kernel
theorem dX3_comesEnd_16 : decode cX3_comesEnd 16 = .ok (.getfield 76, 3) := by decide +kernel
theorem dX3_comesEnd_19 : decode cX3_comesEnd 19 = .ok (.iconst 1, 1) := by decide +kernel
theorem dX3_comesEnd_20 : decode cX3_comesEnd 20 = .ok (.iadd, 1) := by decide +kernel
theorem dX3_comesEnd_21 : decode cX3_comesEnd 21 = .ok (.putfield 76, 3) := by decide +kernel
theorem dX3_comesEnd_24 : decode cX3_comesEnd 24 = .ok (.aload_n 0, 1) := by decide +kernel
theorem dX3_comesEnd_25 : decode cX3_comesEnd 25 = .ok (.invokevirtual 31, 3) := by decide +kernel
theorem dX3_comesEnd_28 : decode cX3_comesEnd 28 = .ok (.iconst 1, 1) := by decide +kernel
theorem dX3_comesEnd_29 : decode cX3_comesEnd 29 = .ok (.ireturn, 1) := by decide +kernel
set_option maxRecDepth 20000 in
theorem ggX3_advance_X3_passBytes : GoodIn wsX3_advance wsX3_passBytes := goodIn_r _ [11, 1, 4, 5, 24, 25, 26, 27, 28, 29, 30] (by decide +kernel) (by decide +kernel)
set_option maxRecDepth 20000 in
theorem gX3_advance_X3_passBytes : GoodIn wsX3_advance (wsV RX3 79 RX3 yX3_passBytes wsX3_passBytes) := goodIn_app (goodIn_of _ (by decide +kernel)) ggX3_advance_X3_passBytes
set_option maxRecDepth 20000 in
theorem ggX3_advance_X3_takeLetters : GoodIn wsX3_advance wsX3_takeLetters := goodIn_r _ [15, 6, 1, 2, 3, 7, 8, 9, 10, 11, 4, 5, 24, 25, 26, 27, 28, 29, 30] (by decide +kernel) (by decide +kernel)
set_option maxRecDepth 20000 in
theorem gX3_advance_X3_takeLetters : GoodIn wsX3_advance (wsV RX3 83 RX3 yX3_takeLetters wsX3_takeLetters) := goodIn_app (goodIn_of _ (by decide +kernel)) ggX3_advance_X3_takeLetters
set_option maxRecDepth 20000 in
theorem ggX3_advance_X3_takeNumber : GoodIn wsX3_advance wsX3_takeNumber := goodIn_r _ [19, 1, 2, 3, 5, 20, 21, 22, 23, 6, 7, 8, 9, 10, 11, 4, 24, 25, 26, 27, 28, 29, 30] (by decide +kernel) (by decide +kernel)
set_option maxRecDepth 20000 in
theorem gX3_advance_X3_takeNumber : GoodIn wsX3_advance (wsV RX3 87 RX3 yX3_takeNumber wsX3_takeNumber) := goodIn_app (goodIn_of _ (by decide +kernel)) ggX3_advance_X3_takeNumber
theorem dX3_advance_0 : decode cX3_advance 0 = .ok (.aload_n 0, 1) := by decide +kernel
theorem dX3_advance_1 : decode cX3_advance 1 = .ok (.bipush 32, 2) := by decide +kernel
theorem dX3_advance_3 : decode cX3_advance 3 = .ok (.bipush 32, 2) := by decide +kernel
theorem dX3_advance_5 : decode cX3_advance 5 = .ok (.invokevirtual 79, 3) := by decide +kernel
theorem dX3_advance_8 : decode cX3_advance 8 = .ok (.aload_n 0, 1) := by decide +kernel
theorem dX3_advance_9 : decode cX3_advance 9 = .ok (.aload_n 0, 1) := by decide +kernel
theorem dX3_advance_10 : decode cX3_advance 10 = .ok (.getfield 19, 3) := by decide +kernel
theorem dX3_advance_13 : decode cX3_advance 13 = .ok (.putfield 41, 3) := by decide +kernel
theorem dX3_advance_16 : decode cX3_advance 16 = .ok (.aload_n 0, 1) := by decide +kernel
theorem dX3_advance_17 : decode cX3_advance 17 = .ok (.iconst 0, 1) := by decide +kernel
theorem dX3_advance_18 : decode cX3_advance 18 = .ok (.putfield 44, 3) := by decide +kernel
theorem dX3_advance_21 : decode cX3_advance 21 = .ok (.aload_n 0, 1) := by decide +kernel
theorem dX3_advance_22 : decode cX3_advance 22 = .ok (.getfield 19, 3) := by decide +kernel
theorem dX3_advance_25 : decode cX3_advance 25 = .ok (.aload_n 0, 1) := by decide +kernel
theorem dX3_advance_26 : decode cX3_advance 26 = .ok (.getfield 15, 3) := by decide +kernel
theorem dX3_advance_29 : decode cX3_advance 29 = .ok (.if_icmp .ge 15, 3) := by decide +kernel
theorem dX3_advance_32 : decode cX3_advance 32 = .ok (.aload_n 0, 1) := by decide +kernel
theorem dX3_advance_33 : decode cX3_advance 33 = .ok (.getfield 9, 3) := by decide +kernel
theorem dX3_advance_36 : decode cX3_advance 36 = .ok (.aload_n 0, 1) := by decide +kernel
theorem dX3_advance_37 : decode cX3_advance 37 = .ok (.getfield 19, 3) := by decide +kernel
theorem dX3_advance_40 : decode cX3_advance 40 = .ok (.iaload, 1) := by decide +kernel
theorem dX3_advance_41 : decode cX3_advance 41 = .ok (.goto 4, 3) := by decide +kernel
theorem dX3_advance_44 : decode cX3_advance 44 = .ok (.iconst 0, 1) := by decide +kernel
theorem dX3_advance_45 : decode cX3_advance 45 = .ok (.istore_n 1, 1) := by decide +kernel
theorem dX3_advance_46 : decode cX3_advance 46 = .ok (.aload_n 0, 1) := by decide +kernel
theorem dX3_advance_47 : decode cX3_advance 47 = .ok (.getfield 19, 3) := by decide +kernel
theorem dX3_advance_50 : decode cX3_advance 50 = .ok (.aload_n 0, 1) := by decide +kernel
theorem dX3_advance_51 : decode cX3_advance 51 = .ok (.getfield 15, 3) := by decide +kernel
theorem dX3_advance_54 : decode cX3_advance 54 = .ok (.if_icmp .lt 11, 3) := by decide +kernel
theorem dX3_advance_57 : decode cX3_advance 57 = .ok (.aload_n 0, 1) := by decide +kernel
theorem dX3_advance_58 : decode cX3_advance 58 = .ok (.iconst 0, 1) := by decide +kernel
theorem dX3_advance_59 : decode cX3_advance 59 = .ok (.putfield 34, 3) := by decide +kernel
theorem dX3_advance_62 : decode cX3_advance 62 = .ok (.goto 68, 3) := by decide +kernel
theorem dX3_advance_65 : decode cX3_advance 65 = .ok (.iload_n 1, 1) := by decide +kernel
theorem dX3_advance_66 : decode cX3_advance 66 = .ok (.bipush 97, 2) := by decide +kernel
theorem dX3_advance_68 : decode cX3_advance 68 = .ok (.if_icmp .lt 17, 3) := by decide +kernel
theorem dX3_advance_71 : decode cX3_advance 71 = .ok (.iload_n 1, 1) := by decide +kernel
theorem dX3_advance_72 : decode cX3_advance 72 = .ok (.bipush 122, 2) := by decide +kernel
theorem dX3_advance_74 : decode cX3_advance 74 = .ok (.if_icmp .gt 11, 3) := by decide +kernel
theorem dX3_advance_77 : decode cX3_advance 77 = .ok (.aload_n 0, 1) := by decide +kernel
theorem dX3_advance_78 : decode cX3_advance 78 = .ok (.iload_n 1, 1) := by decide +kernel
theorem dX3_advance_79 : decode cX3_advance 79 = .ok (.invokevirtual 83, 3) := by decide +kernel
theorem dX3_advance_82 : decode cX3_advance 82 = .ok (.goto 48, 3) := by decide +kernel
theorem dX3_advance_85 : decode cX3_advance 85 = .ok (.iload_n 1, 1) := by decide +kernel
theorem dX3_advance_86 : decode cX3_advance 86 = .ok (.bipush 48, 2) := by decide +kernel
theorem dX3_advance_88 : decode cX3_advance 88 = .ok (.if_icmp .lt 17, 3) := by decide +kernel
theorem dX3_advance_91 : decode cX3_advance 91 = .ok (.iload_n 1, 1) := by decide +kernel
theorem dX3_advance_92 : decode cX3_advance 92 = .ok (.bipush 57, 2) := by decide +kernel
theorem dX3_advance_94 : decode cX3_advance 94 = .ok (.if_icmp .gt 11, 3) := by decide +kernel
theorem dX3_advance_97 : decode cX3_advance 97 = .ok (.aload_n 0, 1) := by decide +kernel
theorem dX3_advance_98 : decode cX3_advance 98 = .ok (.iload_n 1, 1) := by decide +kernel
theorem dX3_advance_99 : decode cX3_advance 99 = .ok (.invokevirtual 87, 3) := by decide +kernel
theorem dX3_advance_102 : decode cX3_advance 102 = .ok (.goto 28, 3) := by decide +kernel
theorem dX3_advance_105 : decode cX3_advance 105 = .ok (.aload_n 0, 1) := by decide +kernel
theorem dX3_advance_106 : decode cX3_advance 106 = .ok (.iload_n 1, 1) := by decide +kernel
theorem dX3_advance_107 : decode cX3_advance 107 = .ok (.bipush 59, 2) := by decide +kernel
theorem dX3_advance_109 : decode cX3_advance 109 = .ok (.if_icmp .ne 7, 3) := by decide +kernel
theorem dX3_advance_112 : decode cX3_advance 112 = .ok (.iconst 3, 1) := by decide +kernel
theorem dX3_advance_113 : decode cX3_advance 113 = .ok (.goto 4, 3) := by decide +kernel
theorem dX3_advance_116 : decode cX3_advance 116 = .ok (.iconst 4, 1) := by decide +kernel
theorem dX3_advance_117 : decode cX3_advance 117 = .ok (.putfield 34, 3) := by decide +kernel
theorem dX3_advance_120 : decode cX3_advance 120 = .ok (.aload_n 0, 1) := by decide +kernel
theorem dX3_advance_121 : decode cX3_advance 121 = .ok (.dup, 1) := by decide +kernel
theorem dX3_advance_122 : decode cX3_advance 122 = .ok (.getfield 19, 3) := by decide +kernel
theorem dX3_advance_125 : decode cX3_advance 125 = .ok (.iconst 1, 1) := by decide +kernel
theorem dX3_advance_126 : decode cX3_advance 126 = .ok (.iadd, 1) := by decide +kernel
theorem dX3_advance_127 : decode cX3_advance 127 = .ok (.putfield 19, 3) := by decide +kernel
theorem dX3_advance_130 : decode cX3_advance 130 = .ok (.return_, 1) := by decide +kernel
theorem dX3_passBytes_0 : decode cX3_passBytes 0 = .ok (.aload_n 0, 1) := by decide +kernel
theorem dX3_passBytes_1 : decode cX3_passBytes 1 = .ok (.getfield 19, 3) := by decide +kernel
theorem dX3_passBytes_4 : decode cX3_passBytes 4 = .ok (.aload_n 0, 1) := by decide +kernel
theorem dX3_passBytes_5 : decode cX3_passBytes 5 = .ok (.getfield 15, 3) := by decide +kernel
theorem dX3_passBytes_8 : decode cX3_passBytes 8 = .ok (.if_icmp .ge 42, 3) := by decide +kernel
theorem dX3_passBytes_11 : decode cX3_passBytes 11 = .ok (.aload_n 0, 1) := by decide +kernel
theorem dX3_passBytes_12 : decode cX3_passBytes 12 = .ok (.getfield 9, 3) := by decide +kernel
theorem dX3_passBytes_15 : decode cX3_passBytes 15 = .ok (.aload_n 0, 1) := by decide +kernel
theorem dX3_passBytes_16 : decode cX3_passBytes 16 = .ok (.getfield 19, 3) := by decide +kernel
theorem dX3_passBytes_19 : decode cX3_passBytes 19 = .ok (.iaload, 1) := by decide +kernel
theorem dX3_passBytes_20 : decode cX3_passBytes 20 = .ok (.iload_n 1, 1) := by decide +kernel
theorem dX3_passBytes_21 : decode cX3_passBytes 21 = .ok (.if_icmp .lt 29, 3) := by decide +kernel
theorem dX3_passBytes_24 : decode cX3_passBytes 24 = .ok (.aload_n 0, 1) := by decide +kernel
theorem dX3_passBytes_25 : decode cX3_passBytes 25 = .ok (.getfield 9, 3) := by decide +kernel
theorem dX3_passBytes_28 : decode cX3_passBytes 28 = .ok (.aload_n 0, 1) := by decide +kernel
theorem dX3_passBytes_29 : decode cX3_passBytes 29 = .ok (.getfield 19, 3) := by decide +kernel
theorem dX3_passBytes_32 : decode cX3_passBytes 32 = .ok (.iaload, 1) := by decide +kernel
theorem dX3_passBytes_33 : decode cX3_passBytes 33 = .ok (.iload_n 2, 1) := by decide +kernel
theorem dX3_passBytes_34 : decode cX3_passBytes 34 = .ok (.if_icmp .gt 16, 3) := by decide +kernel
theorem dX3_passBytes_37 : decode cX3_passBytes 37 = .ok (.aload_n 0, 1) := by decide +kernel
theorem dX3_passBytes_38 : decode cX3_passBytes 38 = .ok (.dup, 1) := by decide +kernel
theorem dX3_passBytes_39 : decode cX3_passBytes 39 = .ok (.getfield 19, 3) := by decide +kernel
theorem dX3_passBytes_42 : decode cX3_passBytes 42 = .ok (.iconst 1, 1) := by decide +kernel
theorem dX3_passBytes_43 : decode cX3_passBytes 43 = .ok (.iadd, 1) := by decide +kernel
theorem dX3_passBytes_44 : decode cX3_passBytes 44 = .ok (.putfield 19, 3) := by decide +kernel
theorem dX3_passBytes_47 : decode cX3_passBytes 47 = .ok (.goto (-47), 3) := by decide +kernel
theorem dX3_passBytes_50 : decode cX3_passBytes 50 = .ok (.return_, 1) := by decide +kernel
set_option maxRecDepth 20000 in
theorem ggX3_takeLetters_X3_passBytes : GoodIn wsX3_takeLetters wsX3_passBytes := goodIn_r _ [9, 2, 10, 11, 12, 13, 14, 15, 16, 17, 18] (by decide +kernel) (by decide +kernel)
set_option maxRecDepth 20000 in
theorem gX3_takeLetters_X3_passBytes : GoodIn wsX3_takeLetters (wsV RX3 79 RX3 yX3_passBytes wsX3_passBytes) := goodIn_app (goodIn_of _ (by decide +kernel)) ggX3_takeLetters_X3_passBytes
theorem dX3_takeLetters_0 : decode cX3_takeLetters 0 = .ok (.aload_n 0, 1) := by decide +kernel
theorem dX3_takeLetters_1 : decode cX3_takeLetters 1 = .ok (.bipush 97, 2) := by decide +kernel
theorem dX3_takeLetters_3 : decode cX3_takeLetters 3 = .ok (.bipush 122, 2) := by decide +kernel
theorem dX3_takeLetters_5 : decode cX3_takeLetters 5 = .ok (.invokevirtual 79, 3) := by decide +kernel
theorem dX3_takeLetters_8 : decode cX3_takeLetters 8 = .ok (.aload_n 0, 1) := by decide +kernel
theorem dX3_takeLetters_9 : decode cX3_takeLetters 9 = .ok (.iconst 1, 1) := by decide +kernel
theorem dX3_takeLetters_10 : decode cX3_takeLetters 10 = .ok (.putfield 34, 3) := by decide +kernel
theorem dX3_takeLetters_13 : decode cX3_takeLetters 13 = .ok (.aload_n 0, 1) := by decide +kernel
theorem dX3_takeLetters_14 : decode cX3_takeLetters 14 = .ok (.aload_n 0, 1) := by decide +kernel
theorem dX3_takeLetters_15 : decode cX3_takeLetters 15 = .ok (.getfield 19, 3) := by decide +kernel
theorem dX3_takeLetters_18 : decode cX3_takeLetters 18 = .ok (.aload_n 0, 1) := by decide +kernel
theorem dX3_takeLetters_19 : decode cX3_takeLetters 19 = .ok (.getfield 41, 3) := by decide +kernel
theorem dX3_takeLetters_22 : decode cX3_takeLetters 22 = .ok (.isub, 1) := by decide +kernel
theorem dX3_takeLetters_23 : decode cX3_takeLetters 23 = .ok (.iconst 1, 1) := by decide +kernel
theorem dX3_takeLetters_24 : decode cX3_takeLetters 24 = .ok (.if_icmp .ne 7, 3) := by decide +kernel
theorem dX3_takeLetters_27 : decode cX3_takeLetters 27 = .ok (.iload_n 1, 1) := by decide +kernel
theorem dX3_takeLetters_28 : decode cX3_takeLetters 28 = .ok (.goto 4, 3) := by decide +kernel
theorem dX3_takeLetters_31 : decode cX3_takeLetters 31 = .ok (.iconst 0, 1) := by decide +kernel
theorem dX3_takeLetters_32 : decode cX3_takeLetters 32 = .ok (.putfield 44, 3) := by decide +kernel
theorem dX3_takeLetters_35 : decode cX3_takeLetters 35 = .ok (.return_, 1) := by decide +kernel
set_option maxRecDepth 20000 in
theorem ggX3_takeNumber_X3_passBytes : GoodIn wsX3_takeNumber wsX3_passBytes := goodIn_r _ [14, 1, 15, 4, 16, 17, 18, 19, 20, 21, 22] (by decide +kernel) (by decide +kernel)
set_option maxRecDepth 20000 in
theorem gX3_takeNumber_X3_passBytes : GoodIn wsX3_takeNumber (wsV RX3 79 RX3 yX3_passBytes wsX3_passBytes) := goodIn_app (goodIn_of _ (by decide +kernel)) ggX3_takeNumber_X3_passBytes
theorem dX3_takeNumber_0 : decode cX3_takeNumber 0 = .ok (.aload_n 0, 1) := by decide +kernel
theorem dX3_takeNumber_1 : decode cX3_takeNumber 1 = .ok (.bipush 48, 2) := by decide +kernel
theorem dX3_takeNumber_3 : decode cX3_takeNumber 3 = .ok (.bipush 57, 2) := by decide +kernel
theorem dX3_takeNumber_5 : decode cX3_takeNumber 5 = .ok (.invokevirtual 79, 3) := by decide +kernel
theorem dX3_takeNumber_8 : decode cX3_takeNumber 8 = .ok (.iload_n 1, 1) := by decide +kernel
theorem dX3_takeNumber_9 : decode cX3_takeNumber 9 = .ok (.bipush 48, 2) := by decide +kernel
theorem dX3_takeNumber_11 : decode cX3_takeNumber 11 = .ok (.if_icmp .ne 20, 3) := by decide +kernel
theorem dX3_takeNumber_14 : decode cX3_takeNumber 14 = .ok (.aload_n 0, 1) := by decide +kernel
theorem dX3_takeNumber_15 : decode cX3_takeNumber 15 = .ok (.getfield 19, 3) := by decide +kernel
theorem dX3_takeNumber_18 : decode cX3_takeNumber 18 = .ok (.aload_n 0, 1) := by decide +kernel
theorem dX3_takeNumber_19 : decode cX3_takeNumber 19 = .ok (.getfield 41, 3) := by decide +kernel
theorem dX3_takeNumber_22 : decode cX3_takeNumber 22 = .ok (.isub, 1) := by decide +kernel
theorem dX3_takeNumber_23 : decode cX3_takeNumber 23 = .ok (.iconst 1, 1) := by decide +kernel
theorem dX3_takeNumber_24 : decode cX3_takeNumber 24 = .ok (.if_icmp .le 7, 3) := by decide +kernel
theorem dX3_takeNumber_27 : decode cX3_takeNumber 27 = .ok (.iconst 1, 1) := by decide +kernel
theorem dX3_takeNumber_28 : decode cX3_takeNumber 28 = .ok (.goto 4, 3) := by decide +kernel
theorem dX3_takeNumber_31 : decode cX3_takeNumber 31 = .ok (.iconst 0, 1) := by decide +kernel
theorem dX3_takeNumber_32 : decode cX3_takeNumber 32 = .ok (.istore_n 2, 1) := by decide +kernel
theorem dX3_takeNumber_33 : decode cX3_takeNumber 33 = .ok (.aload_n 0, 1) := by decide +kernel
theorem dX3_takeNumber_34 : decode cX3_takeNumber 34 = .ok (.getfield 41, 3) := by decide +kernel
theorem dX3_takeNumber_37 : decode cX3_takeNumber 37 = .ok (.istore_n 3, 1) := by decide +kernel
theorem dX3_takeNumber_38 : decode cX3_takeNumber 38 = .ok (.iload_n 3, 1) := by decide +kernel
theorem dX3_takeNumber_39 : decode cX3_takeNumber 39 = .ok (.aload_n 0, 1) := by decide +kernel
theorem dX3_takeNumber_40 : decode cX3_takeNumber 40 = .ok (.getfield 19, 3) := by decide +kernel
theorem dX3_takeNumber_43 : decode cX3_takeNumber 43 = .ok (.if_icmp .ge 35, 3) := by decide +kernel
theorem dX3_takeNumber_46 : decode cX3_takeNumber 46 = .ok (.aload_n 0, 1) := by decide +kernel
theorem dX3_takeNumber_47 : decode cX3_takeNumber 47 = .ok (.aload_n 0, 1) := by decide +kernel
theorem dX3_takeNumber_48 : decode cX3_takeNumber 48 = .ok (.getfield 44, 3) := by decide +kernel
theorem dX3_takeNumber_51 : decode cX3_takeNumber 51 = .ok (.bipush 10, 2) := by decide +kernel
theorem dX3_takeNumber_53 : decode cX3_takeNumber 53 = .ok (.imul, 1) := by decide +kernel
theorem dX3_takeNumber_54 : decode cX3_takeNumber 54 = .ok (.aload_n 0, 1) := by decide +kernel
theorem dX3_takeNumber_55 : decode cX3_takeNumber 55 = .ok (.getfield 9, 3) := by decide +kernel
theorem dX3_takeNumber_58 : decode cX3_takeNumber 58 = .ok (.iload_n 3, 1) := by decide +kernel
theorem dX3_takeNumber_59 : decode cX3_takeNumber 59 = .ok (.iaload, 1) := by decide +kernel
theorem dX3_takeNumber_60 : decode cX3_takeNumber 60 = .ok (.iadd, 1) := by decide +kernel
theorem dX3_takeNumber_61 : decode cX3_takeNumber 61 = .ok (.bipush 48, 2) := by decide +kernel
theorem dX3_takeNumber_63 : decode cX3_takeNumber 63 = .ok (.isub, 1) := by decide +kernel
theorem dX3_takeNumber_64 : decode cX3_takeNumber 64 = .ok (.bipush 100, 2) := by decide +kernel
theorem dX3_takeNumber_66 : decode cX3_takeNumber 66 = .ok (.invokestatic 90, 3) := by decide +kernel
theorem dX3_takeNumber_69 : decode cX3_takeNumber 69 = .ok (.putfield 44, 3) := by decide +kernel
theorem dX3_takeNumber_72 : decode cX3_takeNumber 72 = .ok (.iinc 3 1, 3) := by decide +kernel
theorem dX3_takeNumber_75 : decode cX3_takeNumber 75 = .ok (.goto (-37), 3) := by decide +kernel
theorem dX3_takeNumber_78 : decode cX3_takeNumber 78 = .ok (.aload_n 0, 1) := by decide +kernel
theorem dX3_takeNumber_79 : decode cX3_takeNumber 79 = .ok (.iload_n 2, 1) := by decide +kernel
theorem dX3_takeNumber_80 : decode cX3_takeNumber 80 = .ok (.ifCond .ne 12, 3) := by decide +kernel
theorem dX3_takeNumber_83 : decode cX3_takeNumber 83 = .ok (.aload_n 0, 1) := by decide +kernel
theorem dX3_takeNumber_84 : decode cX3_takeNumber 84 = .ok (.getfield 44, 3) := by decide +kernel
theorem dX3_takeNumber_87 : decode cX3_takeNumber 87 = .ok (.bipush 99, 2) := by decide +kernel
theorem dX3_takeNumber_89 : decode cX3_takeNumber 89 = .ok (.if_icmp .le 7, 3) := by decide +kernel
theorem dX3_takeNumber_92 : decode cX3_takeNumber 92 = .ok (.iconst 4, 1) := by decide +kernel
theorem dX3_takeNumber_93 : decode cX3_takeNumber 93 = .ok (.goto 4, 3) := by decide +kernel
theorem dX3_takeNumber_96 : decode cX3_takeNumber 96 = .ok (.iconst 2, 1) := by decide +kernel
theorem dX3_takeNumber_97 : decode cX3_takeNumber 97 = .ok (.putfield 34, 3) := by decide +kernel
theorem dX3_takeNumber_100 : decode cX3_takeNumber 100 = .ok (.return_, 1) := by decide +kernel
theorem dX4_init_0 : decode cX4_init 0 = .ok (.aload_n 0, 1) := by decide +kernel
theorem dX4_init_1 : decode cX4_init 1 = .ok (.invokespecial 3, 3) := by decide +kernel
theorem dX4_init_4 : decode cX4_init 4 = .ok (.aload_n 0, 1) := by decide +kernel
theorem dX4_init_5 : decode cX4_init 5 = .ok (.bipush 9, 2) := by decide +kernel
theorem dX4_init_7 : decode cX4_init 7 = .ok (.putfield 9, 3) := by decide +kernel
theorem dX4_init_10 : decode cX4_init 10 = .ok (.aload_n 0, 1) := by decide +kernel
theorem dX4_init_11 : decode cX4_init 11 = .ok (.bipush 6, 2) := by decide +kernel
theorem dX4_init_13 : decode cX4_init 13 = .ok (.newarray .int, 2) := by decide +kernel
theorem dX4_init_15 : decode cX4_init 15 = .ok (.putfield 15, 3) := by decide +kernel
theorem dX4_init_18 : decode cX4_init 18 = .ok (.aload_n 0, 1) := by decide +kernel
theorem dX4_init_19 : decode cX4_init 19 = .ok (.bipush 6, 2) := by decide +kernel
theorem dX4_init_21 : decode cX4_init 21 = .ok (.newarray .int, 2) := by decide +kernel
theorem dX4_init_23 : decode cX4_init 23 = .ok (.putfield 19, 3) := by decide +kernel
theorem dX4_init_26 : decode cX4_init 26 = .ok (.aload_n 0, 1) := by decide +kernel
theorem dX4_init_27 : decode cX4_init 27 = .ok (.bipush 6, 2) := by decide +kernel
theorem dX4_init_29 : decode cX4_init 29 = .ok (.newarray .int, 2) := by decide +kernel
theorem dX4_init_31 : decode cX4_init 31 = .ok (.putfield 22, 3) := by decide +kernel
theorem dX4_init_34 : decode cX4_init 34 = .ok (.return_, 1) := by decide +kernel
theorem dX4_forgetAll_0 : decode cX4_forgetAll 0 = .ok (.aload_n 0, 1) := by decide +kernel
theorem dX4_forgetAll_1 : decode cX4_forgetAll 1 = .ok (.iconst 0, 1) := by decide +kernel
theorem dX4_forgetAll_2 : decode cX4_forgetAll 2 = .ok (.putfield 25, 3) := by decide +kernel
theorem dX4_forgetAll_5 : decode cX4_forgetAll 5 = .ok (.aload_n 0, 1) := by decide +kernel
theorem dX4_forgetAll_6 : decode cX4_forgetAll 6 = .ok (.iconst 0, 1) := by decide +kernel
theorem dX4_forgetAll_7 : decode cX4_forgetAll 7 = .ok (.putfield 28, 3) := by decide +kernel
theorem dX4_forgetAll_10 : decode cX4_forgetAll 10 = .ok (.aload_n 0, 1) := by decide +kernel
theorem dX4_forgetAll_11 : decode cX4_forgetAll 11 = .ok (.bipush 9, 2) := by decide +kernel
theorem dX4_forgetAll_13 : decode cX4_forgetAll 13 = .ok (.putfield 9, 3) := by decide +kernel
theorem dX4_forgetAll_16 : decode cX4_forgetAll 16 = .ok (.return_, 1) := by decide +kernel
theorem dX4_copyFrom_0 : decode cX4_copyFrom 0 = .ok (.aload_n 0, 1) := by decide +kernel
theorem dX4_copyFrom_1 : decode cX4_copyFrom 1 = .ok (.aload_n 1, 1) := by decide +kernel
theorem dX4_copyFrom_2 : decode cX4_copyFrom 2 = .ok (.getfield 25, 3) := by decide +kernel
theorem dX4_copyFrom_5 : decode cX4_copyFrom 5 = .ok (.putfield 25, 3) := by decide +kernel
theorem dX4_copyFrom_8 : decode cX4_copyFrom 8 = .ok (.aload_n 0, 1) := by decide +kernel
theorem dX4_copyFrom_9 : decode cX4_copyFrom 9 = .ok (.aload_n 1, 1) := by decide +kernel
theorem dX4_copyFrom_10 : decode cX4_copyFrom 10 = .ok (.getfield 28, 3) := by decide +kernel
theorem dX4_copyFrom_13 : decode cX4_copyFrom 13 = .ok (.putfield 28, 3) := by decide +kernel
theorem dX4_copyFrom_16 : decode cX4_copyFrom 16 = .ok (.aload_n 0, 1) := by decide +kernel
theorem dX4_copyFrom_17 : decode cX4_copyFrom 17 = .ok (.aload_n 1, 1) := by decide +kernel
theorem dX4_copyFrom_18 : decode cX4_copyFrom 18 = .ok (.getfield 9, 3) := by decide +kernel
theorem dX4_copyFrom_21 : decode cX4_copyFrom 21 = .ok (.putfield 9, 3) := by decide +kernel
theorem dX4_copyFrom_24 : decode cX4_copyFrom 24 = .ok (.aload_n 1, 1) := by decide +kernel
theorem dX4_copyFrom_25 : decode cX4_copyFrom 25 = .ok (.getfield 15, 3) := by decide +kernel
theorem dX4_copyFrom_28 : decode cX4_copyFrom 28 = .ok (.iconst 0, 1) := by decide +kernel
theorem dX4_copyFrom_29 : decode cX4_copyFrom 29 = .ok (.aload_n 0, 1) := by decide +kernel
theorem dX4_copyFrom_30 : decode cX4_copyFrom 30 = .ok (.getfield 15, 3) := by decide +kernel
theorem dX4_copyFrom_33 : decode cX4_copyFrom 33 = .ok (.iconst 0, 1) := by decide +kernel
theorem dX4_copyFrom_34 : decode cX4_copyFrom 34 = .ok (.bipush 6, 2) := by decide +kernel
theorem dX4_copyFrom_36 : decode cX4_copyFrom 36 = .ok (.invokestatic 31, 3) := by decide +kernel
theorem dX4_copyFrom_39 : decode cX4_copyFrom 39 = .ok (.aload_n 1, 1) := by decide +kernel
theorem dX4_copyFrom_40 : decode cX4_copyFrom 40 = .ok (.getfield 19, 3) := by decide +kernel
theorem dX4_copyFrom_43 : decode cX4_copyFrom 43 = .ok (.iconst 0, 1) := by decide +kernel
theorem dX4_copyFrom_44 : decode cX4_copyFrom 44 = .ok (.aload_n 0, 1) := by decide +kernel
theorem dX4_copyFrom_45 : decode cX4_copyFrom 45 = .ok (.getfield 19, 3) := by decide +kernel
theorem dX4_copyFrom_48 : decode cX4_copyFrom 48 = .ok (.iconst 0, 1) := by decide +kernel
theorem dX4_copyFrom_49 : decode cX4_copyFrom 49 = .ok (.bipush 6, 2) := by decide +kernel
theorem dX4_copyFrom_51 : decode cX4_copyFrom 51 = .ok (.invokestatic 31, 3) := by decide +kernel
theorem dX4_copyFrom_54 : decode cX4_copyFrom 54 = .ok (.aload_n 1, 1) := by decide +kernel
theorem dX4_copyFrom_55 : decode cX4_copyFrom 55 = .ok (.getfield 22, 3) := by decide +kernel
theorem dX4_copyFrom_58 : decode cX4_copyFrom 58 = .ok (.iconst 0, 1) := by decide +kernel
theorem dX4_copyFrom_59 : decode cX4_copyFrom 59 = .ok (.aload_n 0, 1) := by decide +kernel
theorem dX4_copyFrom_60 : decode cX4_copyFrom 60 = .ok (.getfield 22, 3) := by decide +kernel
theorem dX4_copyFrom_63 : decode cX4_copyFrom 63 = .ok (.iconst 0, 1) := by decide +kernel
theorem dX4_copyFrom_64 : decode cX4_copyFrom 64 = .ok (.bipush 6, 2) := by decide +kernel
theorem dX4_copyFrom_66 : decode cX4_copyFrom 66 = .ok (.invokestatic 31, 3) := by decide +kernel
theorem dX4_copyFrom_69 : decode cX4_copyFrom 69 = .ok (.return_, 1) := by decide +kernel
set_option maxRecDepth 20000 in
theorem ggX5_init_X3_init : GoodIn wsX5_init wsX3_init := goodIn_r _ [26, 27, 2, 3, 22, 28, 81, 82, 83, 84, 85, 86, 87] (by decide +kernel) (by decide +kernel)
set_option maxRecDepth 20000 in
theorem gX5_init_X3_init_n11 : GoodIn wsX5_init (wsX3_init) := ggX5_init_X3_init
set_option maxRecDepth 20000 in
theorem ggX5_init_X4_init : GoodIn wsX5_init wsX4_init := goodIn_r _ [30, 31, 2, 3, 32, 22, 33, 34, 35, 99, 100, 101, 102, 103, 104] (by decide +kernel) (by decide +kernel)
set_option maxRecDepth 20000 in
theorem gX5_init_X4_init_n18 : GoodIn wsX5_init (wsX4_init) := ggX5_init_X4_init
set_option maxRecDepth 20000 in
theorem ggX5_init_X0_init : GoodIn wsX5_init wsX0_init := goodIn_r _ [37, 38, 2, 3, 39, 19, 20, 40, 41, 42, 43, 44, 45, 46, 47, 22, 48, 49, 50, 51, 52, 53, 54, 55, 56, 107, 108, 109, 110, 111, 112, 113, 105, 106, 114, 115, 116] (by decide +kernel) (by decide +kernel)
set_option maxRecDepth 20000 in
theorem gX5_init_X0_init_n28 : GoodIn wsX5_init (wsX0_init) := ggX5_init_X0_init
set_option maxRecDepth 20000 in
theorem ggX5_init_X1_init : GoodIn wsX5_init wsX1_init := goodIn_r _ [46, 47, 2, 3, 22, 48, 49, 50, 107, 108, 109, 110, 111, 112, 113] (by decide +kernel) (by decide +kernel)
set_option maxRecDepth 20000 in
theorem gX5_init_X1_init_n39 : GoodIn wsX5_init (wsX1_init) := ggX5_init_X1_init
set_option maxRecDepth 20000 in
theorem ggX5_init_X5_startAnew : GoodIn wsX5_init wsX5_startAnew := goodIn_r _ [61, 16, 62, 11, 63, 64, 65, 66, 67, 68, 69, 20, 70, 71, 72, 73, 74, 75, 76, 48, 77, 78, 79, 80, 49, 50, 88, 89, 90, 91, 92, 93, 94, 95, 96, 97, 98, 105, 106, 114, 115, 116, 107, 108, 109, 110, 111, 112, 113, 99, 100, 101, 102, 103, 104] (by decide +kernel) (by decide +kernel)
set_option maxRecDepth 20000 in
theorem gX5_init_X5_startAnew : GoodIn wsX5_init (wsV RX5 51 RX5 yX5_startAnew wsX5_startAnew) := goodIn_app (goodIn_of _ (by decide +kernel)) ggX5_init_X5_startAnew
theorem dX5_init_0 : decode cX5_init 0 = .ok (.aload_n 0, 1) := by decide +kernel
theorem dX5_init_1 : decode cX5_init 1 = .ok (.invokespecial 3, 3) := by decide +kernel
theorem dX5_init_4 : decode cX5_init 4 = .ok (.aload_n 0, 1) := by decide +kernel
theorem dX5_init_5 : decode cX5_init 5 = .ok (.new 9, 3) := by decide +kernel
theorem dX5_init_8 : decode cX5_init 8 = .ok (.dup, 1) := by decide +kernel
theorem dX5_init_9 : decode cX5_init 9 = .ok (.invokespecial 11, 3) := by decide +kernel
theorem dX5_init_12 : decode cX5_init 12 = .ok (.putfield 12, 3) := by decide +kernel
theorem dX5_init_15 : decode cX5_init 15 = .ok (.aload_n 0, 1) := by decide +kernel
theorem dX5_init_16 : decode cX5_init 16 = .ok (.new 16, 3) := by decide +kernel
theorem dX5_init_19 : decode cX5_init 19 = .ok (.dup, 1) := by decide +kernel
theorem dX5_init_20 : decode cX5_init 20 = .ok (.invokespecial 18, 3) := by decide +kernel
theorem dX5_init_23 : decode cX5_init 23 = .ok (.putfield 19, 3) := by decide +kernel
theorem dX5_init_26 : decode cX5_init 26 = .ok (.aload_n 0, 1) := by decide +kernel
theorem dX5_init_27 : decode cX5_init 27 = .ok (.new 16, 3) := by decide +kernel
theorem dX5_init_30 : decode cX5_init 30 = .ok (.dup, 1) := by decide +kernel
theorem dX5_init_31 : decode cX5_init 31 = .ok (.invokespecial 18, 3) := by decide +kernel
theorem dX5_init_34 : decode cX5_init 34 = .ok (.putfield 23, 3) := by decide +kernel
theorem dX5_init_37 : decode cX5_init 37 = .ok (.aload_n 0, 1) := by decide +kernel
theorem dX5_init_38 : decode cX5_init 38 = .ok (.new 26, 3) := by decide +kernel
theorem dX5_init_41 : decode cX5_init 41 = .ok (.dup, 1) := by decide +kernel
theorem dX5_init_42 : decode cX5_init 42 = .ok (.invokespecial 28, 3) := by decide +kernel
theorem dX5_init_45 : decode cX5_init 45 = .ok (.putfield 29, 3) := by decide +kernel
theorem dX5_init_48 : decode cX5_init 48 = .ok (.aload_n 0, 1) := by decide +kernel
theorem dX5_init_49 : decode cX5_init 49 = .ok (.iconst 2, 1) := by decide +kernel
theorem dX5_init_50 : decode cX5_init 50 = .ok (.anewarray 26, 3) := by decide +kernel
theorem dX5_init_53 : decode cX5_init 53 = .ok (.putfield 33, 3) := by decide +kernel
theorem dX5_init_56 : decode cX5_init 56 = .ok (.aload_n 0, 1) := by decide +kernel
theorem dX5_init_57 : decode cX5_init 57 = .ok (.new 37, 3) := by decide +kernel
theorem dX5_init_60 : decode cX5_init 60 = .ok (.dup, 1) := by decide +kernel
theorem dX5_init_61 : decode cX5_init 61 = .ok (.invokespecial 39, 3) := by decide +kernel
theorem dX5_init_64 : decode cX5_init 64 = .ok (.putfield 40, 3) := by decide +kernel
theorem dX5_init_67 : decode cX5_init 67 = .ok (.aload_n 0, 1) := by decide +kernel
theorem dX5_init_68 : decode cX5_init 68 = .ok (.bipush 6, 2) := by decide +kernel
theorem dX5_init_70 : decode cX5_init 70 = .ok (.newarray .int, 2) := by decide +kernel
theorem dX5_init_72 : decode cX5_init 72 = .ok (.putfield 44, 3) := by decide +kernel
theorem dX5_init_75 : decode cX5_init 75 = .ok (.aload_n 0, 1) := by decide +kernel
theorem dX5_init_76 : decode cX5_init 76 = .ok (.bipush 6, 2) := by decide +kernel
theorem dX5_init_78 : decode cX5_init 78 = .ok (.newarray .int, 2) := by decide +kernel
theorem dX5_init_80 : decode cX5_init 80 = .ok (.putfield 48, 3) := by decide +kernel
theorem dX5_init_83 : decode cX5_init 83 = .ok (.iconst 0, 1) := by decide +kernel
theorem dX5_init_84 : decode cX5_init 84 = .ok (.istore_n 1, 1) := by decide +kernel
theorem dX5_init_85 : decode cX5_init 85 = .ok (.iload_n 1, 1) := by decide +kernel
theorem dX5_init_86 : decode cX5_init 86 = .ok (.iconst 2, 1) := by decide +kernel
theorem dX5_init_87 : decode cX5_init 87 = .ok (.if_icmp .ge 22, 3) := by decide +kernel
theorem dX5_init_90 : decode cX5_init 90 = .ok (.aload_n 0, 1) := by decide +kernel
theorem dX5_init_91 : decode cX5_init 91 = .ok (.getfield 33, 3) := by decide +kernel
theorem dX5_init_94 : decode cX5_init 94 = .ok (.iload_n 1, 1) := by decide +kernel
theorem dX5_init_95 : decode cX5_init 95 = .ok (.new 26, 3) := by decide +kernel
theorem dX5_init_98 : decode cX5_init 98 = .ok (.dup, 1) := by decide +kernel
theorem dX5_init_99 : decode cX5_init 99 = .ok (.invokespecial 28, 3) := by decide +kernel
theorem dX5_init_102 : decode cX5_init 102 = .ok (.aastore, 1) := by decide +kernel
theorem dX5_init_103 : decode cX5_init 103 = .ok (.iinc 1 1, 3) := by decide +kernel
theorem dX5_init_106 : decode cX5_init 106 = .ok (.goto (-21), 3) := by decide +kernel
theorem dX5_init_109 : decode cX5_init 109 = .ok (.aload_n 0, 1) := by decide +kernel
theorem dX5_init_110 : decode cX5_init 110 = .ok (.invokevirtual 51, 3) := by decide +kernel
theorem dX5_init_113 : decode cX5_init 113 = .ok (.return_, 1) := by decide +kernel
set_option maxRecDepth 20000 in
theorem ggX5_type_X3_add : GoodIn wsX5_type wsX3_add := goodIn_r _ [7, 8, 9, 21, 22, 23, 24, 25, 26, 27] (by decide +kernel) (by decide +kernel)
set_option maxRecDepth 20000 in
theorem gX5_type_X3_add : GoodIn wsX5_type (wsV RX5 54 RX3 yX3_add wsX3_add) := goodIn_app (goodIn_of _ (by decide +kernel)) ggX5_type_X3_add
theorem dX5_type_0 : decode cX5_type 0 = .ok (.iload_n 1, 1) := by decide +kernel
theorem dX5_type_1 : decode cX5_type 1 = .ok (.ifCond .lt 10, 3) := by decide +kernel
theorem dX5_type_4 : decode cX5_type 4 = .ok (.iload_n 1, 1) := by decide +kernel
theorem dX5_type_5 : decode cX5_type 5 = .ok (.sipush 255, 3) := by decide +kernel
theorem dX5_type_8 : decode cX5_type 8 = .ok (.if_icmp .le 5, 3) := by decide +kernel
theorem dX5_type_11 : decode cX5_type 11 = .ok (.iconst (-1), 1) := by decide +kernel
theorem dX5_type_12 : decode cX5_type 12 = .ok (.ireturn, 1) := by decide +kernel
theorem dX5_type_13 : decode cX5_type 13 = .ok (.aload_n 0, 1) := by decide +kernel
theorem dX5_type_14 : decode cX5_type 14 = .ok (.getfield 12, 3) := by decide +kernel
theorem dX5_type_17 : decode cX5_type 17 = .ok (.iload_n 1, 1) := by decide +kernel
theorem dX5_type_18 : decode cX5_type 18 = .ok (.invokevirtual 54, 3) := by decide +kernel
theorem dX5_type_21 : decode cX5_type 21 = .ok (.ifCond .eq 13, 3) := by decide +kernel
theorem dX5_type_24 : decode cX5_type 24 = .ok (.aload_n 0, 1) := by decide +kernel
theorem dX5_type_25 : decode cX5_type 25 = .ok (.getfield 12, 3) := by decide +kernel
theorem dX5_type_28 : decode cX5_type 28 = .ok (.getfield 58, 3) := by decide +kernel
theorem dX5_type_31 : decode cX5_type 31 = .ok (.goto 5, 3) := by decide +kernel
theorem dX5_type_34 : decode cX5_type 34 = .ok (.bipush (-3), 2) := by decide +kernel
theorem dX5_type_36 : decode cX5_type 36 = .ok (.ireturn, 1) := by decide +kernel
theorem dX5_clear_0 : decode cX5_clear 0 = .ok (.aload_n 0, 1) := by decide +kernel
theorem dX5_clear_1 : decode cX5_clear 1 = .ok (.getfield 12, 3) := by decide +kernel
theorem dX5_clear_4 : decode cX5_clear 4 = .ok (.getfield 58, 3) := by decide +kernel
theorem dX5_clear_7 : decode cX5_clear 7 = .ok (.istore_n 1, 1) := by decide +kernel
theorem dX5_clear_8 : decode cX5_clear 8 = .ok (.aload_n 0, 1) := by decide +kernel
theorem dX5_clear_9 : decode cX5_clear 9 = .ok (.getfield 12, 3) := by decide +kernel
theorem dX5_clear_12 : decode cX5_clear 12 = .ok (.iconst 0, 1) := by decide +kernel
theorem dX5_clear_13 : decode cX5_clear 13 = .ok (.putfield 58, 3) := by decide +kernel
theorem dX5_clear_16 : decode cX5_clear 16 = .ok (.iload_n 1, 1) := by decide +kernel
theorem dX5_clear_17 : decode cX5_clear 17 = .ok (.ireturn, 1) := by decide +kernel
set_option maxRecDepth 20000 in
theorem ggX5_car_X3_readInto : GoodIn wsX5_car wsX3_readInto := goodIn_r _ [10, 11, 12, 13, 14, 15, 16, 17, 18, 19, 20, 21, 22, 23, 24, 25, 9, 26, 27, 28, 29, 30, 31, 32, 33, 34, 35, 36, 37, 38, 39, 40, 41, 42, 43, 44, 45, 46, 47, 48, 49, 50, 51, 52, 53, 54, 55, 56, 57, 58, 59, 60, 61, 62, 63, 64, 65, 66, 67, 68, 69, 70, 71, 120, 121, 122, 123, 124, 125, 126, 127, 128, 129, 130, 131, 132] (by decide +kernel) (by decide +kernel)
set_option maxRecDepth 20000 in
theorem gX5_car_X3_readInto : GoodIn wsX5_car (wsV RX5 62 RX3 yX3_readInto wsX3_readInto) := goodIn_app (goodIn_of _ (by decide +kernel)) ggX5_car_X3_readInto
set_option maxRecDepth 20000 in
theorem ggX5_car_X4_copyFrom : GoodIn wsX5_car wsX4_copyFrom := goodIn_r _ [75, 20, 21, 22, 76, 77, 78, 79, 80, 81, 82, 127, 128, 129, 130, 131, 132] (by decide +kernel) (by decide +kernel)
set_option maxRecDepth 20000 in
theorem gX5_car_X4_copyFrom : GoodIn wsX5_car (wsV RX5 66 RX4 yX4_copyFrom wsX4_copyFrom) := goodIn_app (goodIn_of _ (by decide +kernel)) ggX5_car_X4_copyFrom
set_option maxRecDepth 20000 in
theorem ggX5_car_X5_startAnew : GoodIn wsX5_car wsX5_startAnew := goodIn_r _ [87, 88, 89, 3, 90, 91, 92, 93, 94, 95, 96, 97, 98, 99, 100, 101, 102, 103, 104, 105, 106, 78, 79, 80, 107, 108, 109, 110, 111, 112, 113, 114, 115, 116, 117, 118, 119, 133, 134, 135, 136, 137, 138, 139, 140, 141, 142, 143, 144, 127, 128, 129, 130, 131, 132] (by decide +kernel) (by decide +kernel)
set_option maxRecDepth 20000 in
theorem gX5_car_X5_startAnew : GoodIn wsX5_car (wsV RX5 51 RX5 yX5_startAnew wsX5_startAnew) := goodIn_app (goodIn_of _ (by decide +kernel)) ggX5_car_X5_startAnew
end
section
theorem dX5_car_0 : decode cX5_car 0 = .ok (.aload_n 0, 1) := by decide +kernel
theorem dX5_car_1 : decode cX5_car 1 = .ok (.getfield 12, 3) := by decide +kernel
theorem dX5_car_4 : decode cX5_car 4 = .ok (.aload_n 0, 1) := by decide +kernel
theorem dX5_car_5 : decode cX5_car 5 = .ok (.getfield 23, 3) := by decide +kernel
theorem dX5_car_8 : decode cX5_car 8 = .ok (.invokevirtual 62, 3) := by decide +kernel
theorem dX5_car_11 : decode cX5_car 11 = .ok (.istore_n 1, 1) := by decide +kernel
theorem dX5_car_12 : decode cX5_car 12 = .ok (.iload_n 1, 1) := by decide +kernel
theorem dX5_car_13 : decode cX5_car 13 = .ok (.iconst (-1), 1) := by decide +kernel
theorem dX5_car_14 : decode cX5_car 14 = .ok (.if_icmp .eq 8, 3) := by decide +kernel
theorem dX5_car_17 : decode cX5_car 17 = .ok (.bipush (-10), 2) := by decide +kernel
theorem dX5_car_19 : decode cX5_car 19 = .ok (.iload_n 1, 1) := by decide +kernel
theorem dX5_car_20 : decode cX5_car 20 = .ok (.isub, 1) := by decide +kernel
theorem dX5_car_21 : decode cX5_car 21 = .ok (.ireturn, 1) := by decide +kernel
theorem dX5_car_22 : decode cX5_car 22 = .ok (.aload_n 0, 1) := by decide +kernel
theorem dX5_car_23 : decode cX5_car 23 = .ok (.getfield 19, 3) := by decide +kernel
theorem dX5_car_26 : decode cX5_car 26 = .ok (.aload_n 0, 1) := by decide +kernel
theorem dX5_car_27 : decode cX5_car 27 = .ok (.getfield 23, 3) := by decide +kernel
theorem dX5_car_30 : decode cX5_car 30 = .ok (.invokevirtual 66, 3) := by decide +kernel
theorem dX5_car_33 : decode cX5_car 33 = .ok (.aload_n 0, 1) := by decide +kernel
theorem dX5_car_34 : decode cX5_car 34 = .ok (.getfield 12, 3) := by decide +kernel
theorem dX5_car_37 : decode cX5_car 37 = .ok (.iconst 0, 1) := by decide +kernel
theorem dX5_car_38 : decode cX5_car 38 = .ok (.putfield 58, 3) := by decide +kernel
theorem dX5_car_41 : decode cX5_car 41 = .ok (.aload_n 0, 1) := by decide +kernel
theorem dX5_car_42 : decode cX5_car 42 = .ok (.invokevirtual 51, 3) := by decide +kernel
theorem dX5_car_45 : decode cX5_car 45 = .ok (.aload_n 0, 1) := by decide +kernel
theorem dX5_car_46 : decode cX5_car 46 = .ok (.getfield 19, 3) := by decide +kernel
theorem dX5_car_49 : decode cX5_car 49 = .ok (.getfield 70, 3) := by decide +kernel
theorem dX5_car_52 : decode cX5_car 52 = .ok (.ireturn, 1) := by decide +kernel
set_option maxRecDepth 20000 in
theorem ggX5_rider_X5_isRider : GoodIn wsX5_rider wsX5_isRider := goodIn_r _ [13, 4, 14, 54, 55, 56, 57, 58, 59, 60, 61, 62, 63, 64, 74, 75, 76, 77, 78, 79] (by decide +kernel) (by decide +kernel)
set_option maxRecDepth 20000 in
theorem gX5_rider_X5_isRider : GoodIn wsX5_rider (wsV RX5 73 RX5 yX5_isRider wsX5_isRider) := goodIn_app (goodIn_of _ (by decide +kernel)) ggX5_rider_X5_isRider
set_option maxRecDepth 20000 in
theorem ggX5_rider_X1_isAboard : GoodIn wsX5_rider wsX1_isAboard := goodIn_r _ [19, 20, 67, 68, 69, 70, 71, 72, 73] (by decide +kernel) (by decide +kernel)
set_option maxRecDepth 20000 in
theorem gX5_rider_X1_isAboard : GoodIn wsX5_rider (wsV RX5 88 RX1 yX1_isAboard wsX1_isAboard) := goodIn_app (goodIn_of _ (by decide +kernel)) ggX5_rider_X1_isAboard
set_option maxRecDepth 20000 in
theorem ggX5_rider_X5_whom : GoodIn wsX5_rider wsX5_whom := goodIn_r _ [24, 3, 15, 16, 17, 18, 19, 20, 25, 26, 27, 12, 28, 4, 14, 29, 30, 31, 32, 33, 34, 35, 36, 5, 37, 38, 39, 40, 67, 68, 69, 70, 71, 72, 73, 54, 55, 56, 57, 58, 59, 60, 61, 62, 63, 64, 74, 75, 76, 77, 78, 79] (by decide +kernel) (by decide +kernel)
set_option maxRecDepth 20000 in
theorem gX5_rider_X5_whom : GoodIn wsX5_rider (wsV RX5 94 RX5 yX5_whom wsX5_whom) := goodIn_app (goodIn_of _ (by decide +kernel)) ggX5_rider_X5_whom
set_option maxRecDepth 20000 in
theorem ggX5_rider_X5_downByRing : GoodIn wsX5_rider wsX5_downByRing := goodIn_r _ [44, 4, 14, 45, 46, 47, 18, 48, 49, 54, 55, 56, 57, 58, 59, 60, 61, 62, 63, 64, 74, 75, 76, 77, 78, 79, 67, 68, 69, 70, 71, 72, 73] (by decide +kernel) (by decide +kernel)
set_option maxRecDepth 20000 in
theorem gX5_rider_X5_downByRing : GoodIn wsX5_rider (wsV RX5 101 RX5 yX5_downByRing wsX5_downByRing) := goodIn_app (goodIn_of _ (by decide +kernel)) ggX5_rider_X5_downByRing
set_option maxRecDepth 20000 in
theorem ggX5_rider_X5_downByDoubleRing : GoodIn wsX5_rider wsX5_downByDoubleRing := goodIn_r _ [53, 4, 14, 45, 46, 47, 18, 48, 49, 15, 16, 17, 19, 20, 54, 55, 56, 57, 58, 59, 60, 61, 62, 63, 64, 74, 75, 76, 77, 78, 79, 67, 68, 69, 70, 71, 72, 73] (by decide +kernel) (by decide +kernel)
set_option maxRecDepth 20000 in
theorem gX5_rider_X5_downByDoubleRing : GoodIn wsX5_rider (wsV RX5 104 RX5 yX5_downByDoubleRing wsX5_downByDoubleRing) := goodIn_app (goodIn_of _ (by decide +kernel)) ggX5_rider_X5_downByDoubleRing
theorem dX5_rider_0 : decode cX5_rider 0 = .ok (.aload_n 0, 1) := by decide +kernel
theorem dX5_rider_1 : decode cX5_rider 1 = .ok (.iload_n 1, 1) := by decide +kernel
theorem dX5_rider_2 : decode cX5_rider 2 = .ok (.invokevirtual 73, 3) := by decide +kernel
theorem dX5_rider_5 : decode cX5_rider 5 = .ok (.ifCond .ne 5, 3) := by decide +kernel
theorem dX5_rider_8 : decode cX5_rider 8 = .ok (.iconst (-1), 1) := by decide +kernel
theorem dX5_rider_9 : decode cX5_rider 9 = .ok (.ireturn, 1) := by decide +kernel
theorem dX5_rider_10 : decode cX5_rider 10 = .ok (.aload_n 0, 1) := by decide +kernel
theorem dX5_rider_11 : decode cX5_rider 11 = .ok (.getfield 29, 3) := by decide +kernel
theorem dX5_rider_14 : decode cX5_rider 14 = .ok (.getfield 76, 3) := by decide +kernel
theorem dX5_rider_17 : decode cX5_rider 17 = .ok (.astore_n 3, 1) := by decide +kernel
theorem dX5_rider_18 : decode cX5_rider 18 = .ok (.iload_n 2, 1) := by decide +kernel
theorem dX5_rider_19 : decode cX5_rider 19 = .ok (.tableswitch 153 0 7 #[45, 52, 62, 72, 86, 93, 109, 133], 45) := by decide +kernel
theorem dX5_rider_64 : decode cX5_rider 64 = .ok (.aload_n 3, 1) := by decide +kernel
theorem dX5_rider_65 : decode cX5_rider 65 = .ok (.getfield 79, 3) := by decide +kernel
theorem dX5_rider_68 : decode cX5_rider 68 = .ok (.iload_n 1, 1) := by decide +kernel
theorem dX5_rider_69 : decode cX5_rider 69 = .ok (.iaload, 1) := by decide +kernel
theorem dX5_rider_70 : decode cX5_rider 70 = .ok (.ireturn, 1) := by decide +kernel
theorem dX5_rider_71 : decode cX5_rider 71 = .ok (.aload_n 0, 1) := by decide +kernel
theorem dX5_rider_72 : decode cX5_rider 72 = .ok (.getfield 19, 3) := by decide +kernel
theorem dX5_rider_75 : decode cX5_rider 75 = .ok (.getfield 82, 3) := by decide +kernel
theorem dX5_rider_78 : decode cX5_rider 78 = .ok (.iload_n 1, 1) := by decide +kernel
theorem dX5_rider_79 : decode cX5_rider 79 = .ok (.iaload, 1) := by decide +kernel
theorem dX5_rider_80 : decode cX5_rider 80 = .ok (.ireturn, 1) := by decide +kernel
theorem dX5_rider_81 : decode cX5_rider 81 = .ok (.aload_n 0, 1) := by decide +kernel
theorem dX5_rider_82 : decode cX5_rider 82 = .ok (.getfield 19, 3) := by decide +kernel
theorem dX5_rider_85 : decode cX5_rider 85 = .ok (.getfield 85, 3) := by decide +kernel
theorem dX5_rider_88 : decode cX5_rider 88 = .ok (.iload_n 1, 1) := by decide +kernel
theorem dX5_rider_89 : decode cX5_rider 89 = .ok (.iaload, 1) := by decide +kernel
theorem dX5_rider_90 : decode cX5_rider 90 = .ok (.ireturn, 1) := by decide +kernel
theorem dX5_rider_91 : decode cX5_rider 91 = .ok (.aload_n 3, 1) := by decide +kernel
theorem dX5_rider_92 : decode cX5_rider 92 = .ok (.iload_n 1, 1) := by decide +kernel
theorem dX5_rider_93 : decode cX5_rider 93 = .ok (.invokevirtual 88, 3) := by decide +kernel
theorem dX5_rider_96 : decode cX5_rider 96 = .ok (.ifCond .eq 7, 3) := by decide +kernel
theorem dX5_rider_99 : decode cX5_rider 99 = .ok (.iconst 1, 1) := by decide +kernel
theorem dX5_rider_100 : decode cX5_rider 100 = .ok (.goto 4, 3) := by decide +kernel
theorem dX5_rider_103 : decode cX5_rider 103 = .ok (.iconst 0, 1) := by decide +kernel
theorem dX5_rider_104 : decode cX5_rider 104 = .ok (.ireturn, 1) := by decide +kernel
theorem dX5_rider_105 : decode cX5_rider 105 = .ok (.aload_n 3, 1) := by decide +kernel
theorem dX5_rider_106 : decode cX5_rider 106 = .ok (.getfield 91, 3) := by decide +kernel
theorem dX5_rider_109 : decode cX5_rider 109 = .ok (.iload_n 1, 1) := by decide +kernel
theorem dX5_rider_110 : decode cX5_rider 110 = .ok (.iaload, 1) := by decide +kernel
theorem dX5_rider_111 : decode cX5_rider 111 = .ok (.ireturn, 1) := by decide +kernel
theorem dX5_rider_112 : decode cX5_rider 112 = .ok (.aload_n 0, 1) := by decide +kernel
theorem dX5_rider_113 : decode cX5_rider 113 = .ok (.aload_n 3, 1) := by decide +kernel
theorem dX5_rider_114 : decode cX5_rider 114 = .ok (.iload_n 1, 1) := by decide +kernel
theorem dX5_rider_115 : decode cX5_rider 115 = .ok (.aload_n 0, 1) := by decide +kernel
theorem dX5_rider_116 : decode cX5_rider 116 = .ok (.getfield 19, 3) := by decide +kernel
theorem dX5_rider_119 : decode cX5_rider 119 = .ok (.getfield 85, 3) := by decide +kernel
theorem dX5_rider_122 : decode cX5_rider 122 = .ok (.iload_n 1, 1) := by decide +kernel
theorem dX5_rider_123 : decode cX5_rider 123 = .ok (.iaload, 1) := by decide +kernel
theorem dX5_rider_124 : decode cX5_rider 124 = .ok (.invokevirtual 94, 3) := by decide +kernel
theorem dX5_rider_127 : decode cX5_rider 127 = .ok (.ireturn, 1) := by decide +kernel
theorem dX5_rider_128 : decode cX5_rider 128 = .ok (.aload_n 3, 1) := by decide +kernel
theorem dX5_rider_129 : decode cX5_rider 129 = .ok (.iload_n 1, 1) := by decide +kernel
theorem dX5_rider_130 : decode cX5_rider 130 = .ok (.invokevirtual 88, 3) := by decide +kernel
theorem dX5_rider_133 : decode cX5_rider 133 = .ok (.ifCond .eq 16, 3) := by decide +kernel
theorem dX5_rider_136 : decode cX5_rider 136 = .ok (.aload_n 0, 1) := by decide +kernel
theorem dX5_rider_137 : decode cX5_rider 137 = .ok (.aload_n 3, 1) := by decide +kernel
theorem dX5_rider_138 : decode cX5_rider 138 = .ok (.aload_n 3, 1) := by decide +kernel
theorem dX5_rider_139 : decode cX5_rider 139 = .ok (.getfield 98, 3) := by decide +kernel
theorem dX5_rider_142 : decode cX5_rider 142 = .ok (.iload_n 1, 1) := by decide +kernel
theorem dX5_rider_143 : decode cX5_rider 143 = .ok (.invokevirtual 101, 3) := by decide +kernel
theorem dX5_rider_146 : decode cX5_rider 146 = .ok (.goto 5, 3) := by decide +kernel
theorem dX5_rider_149 : decode cX5_rider 149 = .ok (.bipush (-9), 2) := by decide +kernel
theorem dX5_rider_151 : decode cX5_rider 151 = .ok (.ireturn, 1) := by decide +kernel
theorem dX5_rider_152 : decode cX5_rider 152 = .ok (.aload_n 3, 1) := by decide +kernel
theorem dX5_rider_153 : decode cX5_rider 153 = .ok (.iload_n 1, 1) := by decide +kernel
theorem dX5_rider_154 : decode cX5_rider 154 = .ok (.invokevirtual 88, 3) := by decide +kernel
theorem dX5_rider_157 : decode cX5_rider 157 = .ok (.ifCond .eq 12, 3) := by decide +kernel
theorem dX5_rider_160 : decode cX5_rider 160 = .ok (.aload_n 0, 1) := by decide +kernel
theorem dX5_rider_161 : decode cX5_rider 161 = .ok (.aload_n 3, 1) := by decide +kernel
theorem dX5_rider_162 : decode cX5_rider 162 = .ok (.iload_n 1, 1) := by decide +kernel
theorem dX5_rider_163 : decode cX5_rider 163 = .ok (.invokevirtual 104, 3) := by decide +kernel
theorem dX5_rider_166 : decode cX5_rider 166 = .ok (.goto 5, 3) := by decide +kernel
theorem dX5_rider_169 : decode cX5_rider 169 = .ok (.bipush (-9), 2) := by decide +kernel
theorem dX5_rider_171 : decode cX5_rider 171 = .ok (.ireturn, 1) := by decide +kernel
theorem dX5_rider_172 : decode cX5_rider 172 = .ok (.iconst (-1), 1) := by decide +kernel
theorem dX5_rider_173 : decode cX5_rider 173 = .ok (.ireturn, 1) := by decide +kernel
set_option maxRecDepth 20000 in
theorem ggX5_latest_X5_isPair : GoodIn wsX5_latest wsX5_isPair := goodIn_r _ [7, 8, 9, 10, 6, 11, 12, 13, 20, 21, 22, 23, 24, 25, 26, 27, 28, 29, 30, 33, 34, 35, 36, 37, 38] (by decide +kernel) (by decide +kernel)
set_option maxRecDepth 20000 in
theorem gX5_latest_X5_isPair : GoodIn wsX5_latest (wsV RX5 108 RX5 yX5_isPair wsX5_isPair) := goodIn_app (goodIn_of _ (by decide +kernel)) ggX5_latest_X5_isPair
set_option maxRecDepth 20000 in
theorem ggX5_latest_X1_thoughtOf : GoodIn wsX5_latest wsX1_thoughtOf := goodIn_r _ [18, 19, 39, 40, 41, 42, 43, 44, 45] (by decide +kernel) (by decide +kernel)
set_option maxRecDepth 20000 in
theorem gX5_latest_X1_thoughtOf : GoodIn wsX5_latest (wsV RX5 112 RX1 yX1_thoughtOf wsX1_thoughtOf) := goodIn_app (goodIn_of _ (by decide +kernel)) ggX5_latest_X1_thoughtOf
theorem dX5_latest_0 : decode cX5_latest 0 = .ok (.aload_n 0, 1) := by decide +kernel
theorem dX5_latest_1 : decode cX5_latest 1 = .ok (.iload_n 1, 1) := by decide +kernel
theorem dX5_latest_2 : decode cX5_latest 2 = .ok (.iload_n 2, 1) := by decide +kernel
theorem dX5_latest_3 : decode cX5_latest 3 = .ok (.invokevirtual 108, 3) := by decide +kernel
theorem dX5_latest_6 : decode cX5_latest 6 = .ok (.ifCond .eq 18, 3) := by decide +kernel
theorem dX5_latest_9 : decode cX5_latest 9 = .ok (.aload_n 0, 1) := by decide +kernel
theorem dX5_latest_10 : decode cX5_latest 10 = .ok (.getfield 29, 3) := by decide +kernel
theorem dX5_latest_13 : decode cX5_latest 13 = .ok (.getfield 76, 3) := by decide +kernel
theorem dX5_latest_16 : decode cX5_latest 16 = .ok (.iload_n 1, 1) := by decide +kernel
theorem dX5_latest_17 : decode cX5_latest 17 = .ok (.iload_n 2, 1) := by decide +kernel
theorem dX5_latest_18 : decode cX5_latest 18 = .ok (.invokevirtual 112, 3) := by decide +kernel
theorem dX5_latest_21 : decode cX5_latest 21 = .ok (.goto 4, 3) := by decide +kernel
theorem dX5_latest_24 : decode cX5_latest 24 = .ok (.iconst (-1), 1) := by decide +kernel
theorem dX5_latest_25 : decode cX5_latest 25 = .ok (.ireturn, 1) := by decide +kernel
set_option maxRecDepth 20000 in
theorem ggX5_rides_X2_push : GoodIn wsX5_rides wsX2_push := goodIn_r _ [9, 10, 11, 12, 13, 14, 15, 8, 16, 17, 18, 19, 20, 21, 22, 23, 24, 25, 26, 27, 28, 29, 30, 31, 32, 91, 92, 93, 84, 85, 86, 87, 88, 89, 90] (by decide +kernel) (by decide +kernel)
set_option maxRecDepth 20000 in
theorem gX5_rides_X2_push : GoodIn wsX5_rides (wsV RX5 123 RX2 yX2_push wsX2_push) := goodIn_app (goodIn_of _ (by decide +kernel)) ggX5_rides_X2_push
set_option maxRecDepth 20000 in
theorem ggX5_rides_X5_ride : GoodIn wsX5_rides wsX5_ride := goodIn_r _ [37, 3, 38, 39, 40, 41, 42, 43, 36, 44, 45, 46, 47, 48, 20, 49, 23, 50, 51, 52, 53, 54, 55, 56, 57, 58, 59, 60, 61, 62, 63, 64, 65, 66, 67, 68, 69, 70, 24, 32, 84, 85, 86, 87, 88, 89, 90, 71, 72, 73, 74, 75, 76, 77, 78, 79, 80, 81, 94, 95, 96, 97, 98, 99] (by decide +kernel) (by decide +kernel)
set_option maxRecDepth 20000 in
theorem gX5_rides_X5_ride : GoodIn wsX5_rides (wsV RX5 129 RX5 yX5_ride wsX5_ride) := goodIn_app (goodIn_of _ (by decide +kernel)) ggX5_rides_X5_ride
theorem dX5_rides_0 : decode cX5_rides 0 = .ok (.aload_n 0, 1) := by decide +kernel
theorem dX5_rides_1 : decode cX5_rides 1 = .ok (.getfield 29, 3) := by decide +kernel
theorem dX5_rides_4 : decode cX5_rides 4 = .ok (.getfield 76, 3) := by decide +kernel
theorem dX5_rides_7 : decode cX5_rides 7 = .ok (.astore_n 1, 1) := by decide +kernel
theorem dX5_rides_8 : decode cX5_rides 8 = .ok (.aload_n 1, 1) := by decide +kernel
theorem dX5_rides_9 : decode cX5_rides 9 = .ok (.getfield 116, 3) := by decide +kernel
theorem dX5_rides_12 : decode cX5_rides 12 = .ok (.bipush 99, 2) := by decide +kernel
theorem dX5_rides_14 : decode cX5_rides 14 = .ok (.if_icmp .lt 6, 3) := by decide +kernel
theorem dX5_rides_17 : decode cX5_rides 17 = .ok (.bipush (-2), 2) := by decide +kernel
theorem dX5_rides_19 : decode cX5_rides 19 = .ok (.ireturn, 1) := by decide +kernel
theorem dX5_rides_20 : decode cX5_rides 20 = .ok (.aload_n 0, 1) := by decide +kernel
theorem dX5_rides_21 : decode cX5_rides 21 = .ok (.getfield 29, 3) := by decide +kernel
theorem dX5_rides_24 : decode cX5_rides 24 = .ok (.getfield 119, 3) := by decide +kernel
theorem dX5_rides_27 : decode cX5_rides 27 = .ok (.aload_n 1, 1) := by decide +kernel
theorem dX5_rides_28 : decode cX5_rides 28 = .ok (.invokevirtual 123, 3) := by decide +kernel
theorem dX5_rides_31 : decode cX5_rides 31 = .ok (.aload_n 0, 1) := by decide +kernel
theorem dX5_rides_32 : decode cX5_rides 32 = .ok (.aload_n 1, 1) := by decide +kernel
theorem dX5_rides_33 : decode cX5_rides 33 = .ok (.invokevirtual 129, 3) := by decide +kernel
theorem dX5_rides_36 : decode cX5_rides 36 = .ok (.aload_n 1, 1) := by decide +kernel
theorem dX5_rides_37 : decode cX5_rides 37 = .ok (.getfield 116, 3) := by decide +kernel
theorem dX5_rides_40 : decode cX5_rides 40 = .ok (.ireturn, 1) := by decide +kernel
set_option maxRecDepth 20000 in
theorem ggX5_thinks_X5_isPair : GoodIn wsX5_thinks wsX5_isPair := goodIn_r _ [9, 10, 11, 12, 8, 13, 14, 15, 52, 53, 54, 55, 56, 57, 58, 59, 60, 61, 62, 72, 73, 74, 75, 76, 77] (by decide +kernel) (by decide +kernel)
set_option maxRecDepth 20000 in
theorem gX5_thinks_X5_isPair : GoodIn wsX5_thinks (wsV RX5 108 RX5 yX5_isPair wsX5_isPair) := goodIn_app (goodIn_of _ (by decide +kernel)) ggX5_thinks_X5_isPair
set_option maxRecDepth 20000 in
theorem ggX5_thinks_X1_isAboard : GoodIn wsX5_thinks wsX1_isAboard := goodIn_r _ [20, 21, 65, 66, 67, 68, 69, 70, 71] (by decide +kernel) (by decide +kernel)
set_option maxRecDepth 20000 in
theorem gX5_thinks_X1_isAboard : GoodIn wsX5_thinks (wsV RX5 88 RX1 yX1_isAboard wsX1_isAboard) := goodIn_app (goodIn_of _ (by decide +kernel)) ggX5_thinks_X1_isAboard
set_option maxRecDepth 20000 in
theorem ggX5_thinks_X2_push : GoodIn wsX5_thinks wsX2_push := goodIn_r _ [26, 27, 28, 29, 30, 31, 32, 25, 33, 34, 35, 36, 19, 37, 38, 21, 39, 40, 41, 42, 43, 44, 45, 46, 47, 78, 79, 80, 65, 66, 67, 68, 69, 70, 71] (by decide +kernel) (by decide +kernel)
set_option maxRecDepth 20000 in
theorem gX5_thinks_X2_push : GoodIn wsX5_thinks (wsV RX5 123 RX2 yX2_push wsX2_push) := goodIn_app (goodIn_of _ (by decide +kernel)) ggX5_thinks_X2_push
set_option maxRecDepth 20000 in
theorem ggX5_thinks_X1_think : GoodIn wsX5_thinks wsX1_think := goodIn_r _ [51, 39, 47, 65, 66, 67, 68, 69, 70, 71] (by decide +kernel) (by decide +kernel)
set_option maxRecDepth 20000 in
theorem gX5_thinks_X1_think : GoodIn wsX5_thinks (wsV RX5 132 RX1 yX1_think wsX1_think) := goodIn_app (goodIn_of _ (by decide +kernel)) ggX5_thinks_X1_think
theorem dX5_thinks_0 : decode cX5_thinks 0 = .ok (.aload_n 0, 1) := by decide +kernel
theorem dX5_thinks_1 : decode cX5_thinks 1 = .ok (.getfield 29, 3) := by decide +kernel
theorem dX5_thinks_4 : decode cX5_thinks 4 = .ok (.getfield 76, 3) := by decide +kernel
theorem dX5_thinks_7 : decode cX5_thinks 7 = .ok (.astore_n 3, 1) := by decide +kernel
theorem dX5_thinks_8 : decode cX5_thinks 8 = .ok (.aload_n 0, 1) := by decide +kernel
theorem dX5_thinks_9 : decode cX5_thinks 9 = .ok (.iload_n 1, 1) := by decide +kernel
theorem dX5_thinks_10 : decode cX5_thinks 10 = .ok (.iload_n 2, 1) := by decide +kernel
theorem dX5_thinks_11 : decode cX5_thinks 11 = .ok (.invokevirtual 108, 3) := by decide +kernel
theorem dX5_thinks_14 : decode cX5_thinks 14 = .ok (.ifCond .ne 5, 3) := by decide +kernel
theorem dX5_thinks_17 : decode cX5_thinks 17 = .ok (.iconst (-1), 1) := by decide +kernel
theorem dX5_thinks_18 : decode cX5_thinks 18 = .ok (.ireturn, 1) := by decide +kernel
theorem dX5_thinks_19 : decode cX5_thinks 19 = .ok (.aload_n 3, 1) := by decide +kernel
theorem dX5_thinks_20 : decode cX5_thinks 20 = .ok (.iload_n 1, 1) := by decide +kernel
theorem dX5_thinks_21 : decode cX5_thinks 21 = .ok (.invokevirtual 88, 3) := by decide +kernel
theorem dX5_thinks_24 : decode cX5_thinks 24 = .ok (.ifCond .eq 11, 3) := by decide +kernel
theorem dX5_thinks_27 : decode cX5_thinks 27 = .ok (.aload_n 3, 1) := by decide +kernel
theorem dX5_thinks_28 : decode cX5_thinks 28 = .ok (.iload_n 2, 1) := by decide +kernel
theorem dX5_thinks_29 : decode cX5_thinks 29 = .ok (.invokevirtual 88, 3) := by decide +kernel
theorem dX5_thinks_32 : decode cX5_thinks 32 = .ok (.ifCond .ne 6, 3) := by decide +kernel
theorem dX5_thinks_35 : decode cX5_thinks 35 = .ok (.bipush (-2), 2) := by decide +kernel
theorem dX5_thinks_37 : decode cX5_thinks 37 = .ok (.ireturn, 1) := by decide +kernel
theorem dX5_thinks_38 : decode cX5_thinks 38 = .ok (.aload_n 0, 1) := by decide +kernel
theorem dX5_thinks_39 : decode cX5_thinks 39 = .ok (.getfield 29, 3) := by decide +kernel
theorem dX5_thinks_42 : decode cX5_thinks 42 = .ok (.getfield 119, 3) := by decide +kernel
theorem dX5_thinks_45 : decode cX5_thinks 45 = .ok (.aload_n 3, 1) := by decide +kernel
theorem dX5_thinks_46 : decode cX5_thinks 46 = .ok (.invokevirtual 123, 3) := by decide +kernel
theorem dX5_thinks_49 : decode cX5_thinks 49 = .ok (.aload_n 3, 1) := by decide +kernel
theorem dX5_thinks_50 : decode cX5_thinks 50 = .ok (.iload_n 1, 1) := by decide +kernel
theorem dX5_thinks_51 : decode cX5_thinks 51 = .ok (.iload_n 2, 1) := by decide +kernel
theorem dX5_thinks_52 : decode cX5_thinks 52 = .ok (.invokevirtual 132, 3) := by decide +kernel
theorem dX5_thinks_55 : decode cX5_thinks 55 = .ok (.aload_n 3, 1) := by decide +kernel
theorem dX5_thinks_56 : decode cX5_thinks 56 = .ok (.getfield 136, 3) := by decide +kernel
theorem dX5_thinks_59 : decode cX5_thinks 59 = .ok (.ireturn, 1) := by decide +kernel
set_option maxRecDepth 20000 in
theorem ggX5_rings_X5_isRider : GoodIn wsX5_rings wsX5_isRider := goodIn_r _ [9, 10, 11, 56, 57, 58, 59, 60, 61, 62, 63, 64, 65, 66, 76, 77, 78, 79, 80, 81] (by decide +kernel) (by decide +kernel)
set_option maxRecDepth 20000 in
theorem gX5_rings_X5_isRider : GoodIn wsX5_rings (wsV RX5 73 RX5 yX5_isRider wsX5_isRider) := goodIn_app (goodIn_of _ (by decide +kernel)) ggX5_rings_X5_isRider
set_option maxRecDepth 20000 in
theorem ggX5_rings_X1_isAboard : GoodIn wsX5_rings wsX1_isAboard := goodIn_r _ [16, 17, 69, 70, 71, 72, 73, 74, 75] (by decide +kernel) (by decide +kernel)
set_option maxRecDepth 20000 in
theorem gX5_rings_X1_isAboard : GoodIn wsX5_rings (wsV RX5 88 RX1 yX1_isAboard wsX1_isAboard) := goodIn_app (goodIn_of _ (by decide +kernel)) ggX5_rings_X1_isAboard
set_option maxRecDepth 20000 in
theorem ggX5_rings_X2_push : GoodIn wsX5_rings wsX2_push := goodIn_r _ [22, 23, 24, 25, 26, 27, 28, 21, 29, 30, 31, 32, 15, 33, 34, 17, 35, 36, 37, 38, 39, 40, 41, 42, 43, 82, 83, 84, 69, 70, 71, 72, 73, 74, 75] (by decide +kernel) (by decide +kernel)
set_option maxRecDepth 20000 in
theorem gX5_rings_X2_push : GoodIn wsX5_rings (wsV RX5 123 RX2 yX2_push wsX2_push) := goodIn_app (goodIn_of _ (by decide +kernel)) ggX5_rings_X2_push
set_option maxRecDepth 20000 in
theorem ggX5_rings_X5_downByRing : GoodIn wsX5_rings wsX5_downByRing := goodIn_r _ [47, 10, 11, 48, 49, 50, 15, 51, 43, 56, 57, 58, 59, 60, 61, 62, 63, 64, 65, 66, 76, 77, 78, 79, 80, 81, 69, 70, 71, 72, 73, 74, 75] (by decide +kernel) (by decide +kernel)
set_option maxRecDepth 20000 in
theorem gX5_rings_X5_downByRing : GoodIn wsX5_rings (wsV RX5 101 RX5 yX5_downByRing wsX5_downByRing) := goodIn_app (goodIn_of _ (by decide +kernel)) ggX5_rings_X5_downByRing
set_option maxRecDepth 20000 in
theorem ggX5_rings_X1_getDown : GoodIn wsX5_rings wsX1_getDown := goodIn_r _ [55, 36, 17, 42, 34, 69, 70, 71, 72, 73, 74, 75] (by decide +kernel) (by decide +kernel)
set_option maxRecDepth 20000 in
theorem gX5_rings_X1_getDown : GoodIn wsX5_rings (wsV RX5 139 RX1 yX1_getDown wsX1_getDown) := goodIn_app (goodIn_of _ (by decide +kernel)) ggX5_rings_X1_getDown
theorem dX5_rings_0 : decode cX5_rings 0 = .ok (.aload_n 0, 1) := by decide +kernel
theorem dX5_rings_1 : decode cX5_rings 1 = .ok (.getfield 29, 3) := by decide +kernel
theorem dX5_rings_4 : decode cX5_rings 4 = .ok (.getfield 76, 3) := by decide +kernel
theorem dX5_rings_7 : decode cX5_rings 7 = .ok (.astore_n 2, 1) := by decide +kernel
theorem dX5_rings_8 : decode cX5_rings 8 = .ok (.aload_n 0, 1) := by decide +kernel
theorem dX5_rings_9 : decode cX5_rings 9 = .ok (.iload_n 1, 1) := by decide +kernel
theorem dX5_rings_10 : decode cX5_rings 10 = .ok (.invokevirtual 73, 3) := by decide +kernel
theorem dX5_rings_13 : decode cX5_rings 13 = .ok (.ifCond .ne 5, 3) := by decide +kernel
theorem dX5_rings_16 : decode cX5_rings 16 = .ok (.iconst (-1), 1) := by decide +kernel
theorem dX5_rings_17 : decode cX5_rings 17 = .ok (.ireturn, 1) := by decide +kernel
theorem dX5_rings_18 : decode cX5_rings 18 = .ok (.aload_n 2, 1) := by decide +kernel
theorem dX5_rings_19 : decode cX5_rings 19 = .ok (.iload_n 1, 1) := by decide +kernel
theorem dX5_rings_20 : decode cX5_rings 20 = .ok (.invokevirtual 88, 3) := by decide +kernel
theorem dX5_rings_23 : decode cX5_rings 23 = .ok (.ifCond .ne 6, 3) := by decide +kernel
theorem dX5_rings_26 : decode cX5_rings 26 = .ok (.bipush (-2), 2) := by decide +kernel
theorem dX5_rings_28 : decode cX5_rings 28 = .ok (.ireturn, 1) := by decide +kernel
theorem dX5_rings_29 : decode cX5_rings 29 = .ok (.aload_n 0, 1) := by decide +kernel
theorem dX5_rings_30 : decode cX5_rings 30 = .ok (.getfield 29, 3) := by decide +kernel
theorem dX5_rings_33 : decode cX5_rings 33 = .ok (.getfield 119, 3) := by decide +kernel
theorem dX5_rings_36 : decode cX5_rings 36 = .ok (.aload_n 2, 1) := by decide +kernel
theorem dX5_rings_37 : decode cX5_rings 37 = .ok (.invokevirtual 123, 3) := by decide +kernel
theorem dX5_rings_40 : decode cX5_rings 40 = .ok (.aload_n 2, 1) := by decide +kernel
theorem dX5_rings_41 : decode cX5_rings 41 = .ok (.aload_n 0, 1) := by decide +kernel
theorem dX5_rings_42 : decode cX5_rings 42 = .ok (.aload_n 2, 1) := by decide +kernel
theorem dX5_rings_43 : decode cX5_rings 43 = .ok (.aload_n 2, 1) := by decide +kernel
theorem dX5_rings_44 : decode cX5_rings 44 = .ok (.getfield 98, 3) := by decide +kernel
theorem dX5_rings_47 : decode cX5_rings 47 = .ok (.iload_n 1, 1) := by decide +kernel
theorem dX5_rings_48 : decode cX5_rings 48 = .ok (.invokevirtual 101, 3) := by decide +kernel
theorem dX5_rings_51 : decode cX5_rings 51 = .ok (.invokevirtual 139, 3) := by decide +kernel
theorem dX5_rings_54 : decode cX5_rings 54 = .ok (.ireturn, 1) := by decide +kernel
set_option maxRecDepth 20000 in
theorem ggX5_twice_X5_isRider : GoodIn wsX5_twice wsX5_isRider := goodIn_r _ [8, 9, 10, 55, 56, 57, 58, 59, 60, 61, 62, 63, 64, 65, 68, 69, 70, 71, 72, 73] (by decide +kernel) (by decide +kernel)
set_option maxRecDepth 20000 in
theorem gX5_twice_X5_isRider : GoodIn wsX5_twice (wsV RX5 73 RX5 yX5_isRider wsX5_isRider) := goodIn_app (goodIn_of _ (by decide +kernel)) ggX5_twice_X5_isRider
set_option maxRecDepth 20000 in
theorem ggX5_twice_X1_isAboard : GoodIn wsX5_twice wsX1_isAboard := goodIn_r _ [15, 16, 74, 75, 76, 77, 78, 79, 80] (by decide +kernel) (by decide +kernel)
set_option maxRecDepth 20000 in
theorem gX5_twice_X1_isAboard : GoodIn wsX5_twice (wsV RX5 88 RX1 yX1_isAboard wsX1_isAboard) := goodIn_app (goodIn_of _ (by decide +kernel)) ggX5_twice_X1_isAboard
set_option maxRecDepth 20000 in
theorem ggX5_twice_X2_push : GoodIn wsX5_twice wsX2_push := goodIn_r _ [21, 22, 23, 24, 25, 26, 27, 20, 28, 29, 30, 31, 14, 32, 33, 16, 34, 35, 36, 37, 38, 39, 40, 41, 42, 81, 82, 83, 74, 75, 76, 77, 78, 79, 80] (by decide +kernel) (by decide +kernel)
set_option maxRecDepth 20000 in
theorem gX5_twice_X2_push : GoodIn wsX5_twice (wsV RX5 123 RX2 yX2_push wsX2_push) := goodIn_app (goodIn_of _ (by decide +kernel)) ggX5_twice_X2_push
set_option maxRecDepth 20000 in
theorem ggX5_twice_X5_downByDoubleRing : GoodIn wsX5_twice wsX5_downByDoubleRing := goodIn_r _ [46, 9, 10, 47, 48, 49, 14, 50, 42, 11, 12, 13, 15, 16, 55, 56, 57, 58, 59, 60, 61, 62, 63, 64, 65, 68, 69, 70, 71, 72, 73, 74, 75, 76, 77, 78, 79, 80] (by decide +kernel) (by decide +kernel)
set_option maxRecDepth 20000 in
theorem gX5_twice_X5_downByDoubleRing : GoodIn wsX5_twice (wsV RX5 104 RX5 yX5_downByDoubleRing wsX5_downByDoubleRing) := goodIn_app (goodIn_of _ (by decide +kernel)) ggX5_twice_X5_downByDoubleRing
set_option maxRecDepth 20000 in
theorem ggX5_twice_X1_getDown : GoodIn wsX5_twice wsX1_getDown := goodIn_r _ [54, 35, 16, 41, 33, 74, 75, 76, 77, 78, 79, 80] (by decide +kernel) (by decide +kernel)
set_option maxRecDepth 20000 in
theorem gX5_twice_X1_getDown : GoodIn wsX5_twice (wsV RX5 139 RX1 yX1_getDown wsX1_getDown) := goodIn_app (goodIn_of _ (by decide +kernel)) ggX5_twice_X1_getDown
theorem dX5_twice_0 : decode cX5_twice 0 = .ok (.aload_n 0, 1) := by decide +kernel
theorem dX5_twice_1 : decode cX5_twice 1 = .ok (.getfield 29, 3) := by decide +kernel
theorem dX5_twice_4 : decode cX5_twice 4 = .ok (.getfield 76, 3) := by decide +kernel
theorem dX5_twice_7 : decode cX5_twice 7 = .ok (.astore_n 2, 1) := by decide +kernel
theorem dX5_twice_8 : decode cX5_twice 8 = .ok (.aload_n 0, 1) := by decide +kernel
theorem dX5_twice_9 : decode cX5_twice 9 = .ok (.iload_n 1, 1) := by decide +kernel
theorem dX5_twice_10 : decode cX5_twice 10 = .ok (.invokevirtual 73, 3) := by decide +kernel
theorem dX5_twice_13 : decode cX5_twice 13 = .ok (.ifCond .ne 5, 3) := by decide +kernel
theorem dX5_twice_16 : decode cX5_twice 16 = .ok (.iconst (-1), 1) := by decide +kernel
theorem dX5_twice_17 : decode cX5_twice 17 = .ok (.ireturn, 1) := by decide +kernel
theorem dX5_twice_18 : decode cX5_twice 18 = .ok (.aload_n 2, 1) := by decide +kernel
theorem dX5_twice_19 : decode cX5_twice 19 = .ok (.iload_n 1, 1) := by decide +kernel
theorem dX5_twice_20 : decode cX5_twice 20 = .ok (.invokevirtual 88, 3) := by decide +kernel
theorem dX5_twice_23 : decode cX5_twice 23 = .ok (.ifCond .ne 6, 3) := by decide +kernel
theorem dX5_twice_26 : decode cX5_twice 26 = .ok (.bipush (-2), 2) := by decide +kernel
theorem dX5_twice_28 : decode cX5_twice 28 = .ok (.ireturn, 1) := by decide +kernel
theorem dX5_twice_29 : decode cX5_twice 29 = .ok (.aload_n 0, 1) := by decide +kernel
theorem dX5_twice_30 : decode cX5_twice 30 = .ok (.getfield 29, 3) := by decide +kernel
theorem dX5_twice_33 : decode cX5_twice 33 = .ok (.getfield 119, 3) := by decide +kernel
theorem dX5_twice_36 : decode cX5_twice 36 = .ok (.aload_n 2, 1) := by decide +kernel
theorem dX5_twice_37 : decode cX5_twice 37 = .ok (.invokevirtual 123, 3) := by decide +kernel
theorem dX5_twice_40 : decode cX5_twice 40 = .ok (.aload_n 2, 1) := by decide +kernel
theorem dX5_twice_41 : decode cX5_twice 41 = .ok (.aload_n 0, 1) := by decide +kernel
theorem dX5_twice_42 : decode cX5_twice 42 = .ok (.aload_n 2, 1) := by decide +kernel
theorem dX5_twice_43 : decode cX5_twice 43 = .ok (.iload_n 1, 1) := by decide +kernel
theorem dX5_twice_44 : decode cX5_twice 44 = .ok (.invokevirtual 104, 3) := by decide +kernel
theorem dX5_twice_47 : decode cX5_twice 47 = .ok (.invokevirtual 139, 3) := by decide +kernel
theorem dX5_twice_50 : decode cX5_twice 50 = .ok (.ireturn, 1) := by decide +kernel
set_option maxRecDepth 20000 in
theorem ggX5_seats_X5_isRider : GoodIn wsX5_seats wsX5_isRider := goodIn_r _ [9, 10, 11, 44, 45, 46, 47, 48, 49, 50, 51, 52, 53, 54, 64, 65, 66, 67, 68, 69] (by decide +kernel) (by decide +kernel)
set_option maxRecDepth 20000 in
theorem gX5_seats_X5_isRider : GoodIn wsX5_seats (wsV RX5 73 RX5 yX5_isRider wsX5_isRider) := goodIn_app (goodIn_of _ (by decide +kernel)) ggX5_seats_X5_isRider
set_option maxRecDepth 20000 in
theorem ggX5_seats_X1_isAboard : GoodIn wsX5_seats wsX1_isAboard := goodIn_r _ [16, 17, 57, 58, 59, 60, 61, 62, 63] (by decide +kernel) (by decide +kernel)
set_option maxRecDepth 20000 in
theorem gX5_seats_X1_isAboard : GoodIn wsX5_seats (wsV RX5 88 RX1 yX1_isAboard wsX1_isAboard) := goodIn_app (goodIn_of _ (by decide +kernel)) ggX5_seats_X1_isAboard
set_option maxRecDepth 20000 in
theorem ggX5_seats_X2_push : GoodIn wsX5_seats wsX2_push := goodIn_r _ [22, 23, 24, 25, 26, 27, 28, 21, 29, 30, 31, 32, 15, 33, 34, 17, 35, 36, 37, 38, 39, 40, 41, 42, 43, 70, 71, 72, 57, 58, 59, 60, 61, 62, 63] (by decide +kernel) (by decide +kernel)
set_option maxRecDepth 20000 in
theorem gX5_seats_X2_push : GoodIn wsX5_seats (wsV RX5 123 RX2 yX2_push wsX2_push) := goodIn_app (goodIn_of _ (by decide +kernel)) ggX5_seats_X2_push
theorem dX5_seats_0 : decode cX5_seats 0 = .ok (.aload_n 0, 1) := by decide +kernel
theorem dX5_seats_1 : decode cX5_seats 1 = .ok (.getfield 29, 3) := by decide +kernel
theorem dX5_seats_4 : decode cX5_seats 4 = .ok (.getfield 76, 3) := by decide +kernel
theorem dX5_seats_7 : decode cX5_seats 7 = .ok (.astore_n 3, 1) := by decide +kernel
theorem dX5_seats_8 : decode cX5_seats 8 = .ok (.aload_n 0, 1) := by decide +kernel
theorem dX5_seats_9 : decode cX5_seats 9 = .ok (.iload_n 1, 1) := by decide +kernel
theorem dX5_seats_10 : decode cX5_seats 10 = .ok (.invokevirtual 73, 3) := by decide +kernel
theorem dX5_seats_13 : decode cX5_seats 13 = .ok (.ifCond .eq 13, 3) := by decide +kernel
theorem dX5_seats_16 : decode cX5_seats 16 = .ok (.iload_n 2, 1) := by decide +kernel
theorem dX5_seats_17 : decode cX5_seats 17 = .ok (.ifCond .lt 9, 3) := by decide +kernel
theorem dX5_seats_20 : decode cX5_seats 20 = .ok (.iload_n 2, 1) := by decide +kernel
theorem dX5_seats_21 : decode cX5_seats 21 = .ok (.bipush 9, 2) := by decide +kernel
theorem dX5_seats_23 : decode cX5_seats 23 = .ok (.if_icmp .le 5, 3) := by decide +kernel
theorem dX5_seats_26 : decode cX5_seats 26 = .ok (.iconst (-1), 1) := by decide +kernel
theorem dX5_seats_27 : decode cX5_seats 27 = .ok (.ireturn, 1) := by decide +kernel
theorem dX5_seats_28 : decode cX5_seats 28 = .ok (.aload_n 3, 1) := by decide +kernel
theorem dX5_seats_29 : decode cX5_seats 29 = .ok (.getfield 79, 3) := by decide +kernel
theorem dX5_seats_32 : decode cX5_seats 32 = .ok (.iload_n 1, 1) := by decide +kernel
theorem dX5_seats_33 : decode cX5_seats 33 = .ok (.iaload, 1) := by decide +kernel
theorem dX5_seats_34 : decode cX5_seats 34 = .ok (.istore 4, 2) := by decide +kernel
theorem dX5_seats_36 : decode cX5_seats 36 = .ok (.aload_n 3, 1) := by decide +kernel
theorem dX5_seats_37 : decode cX5_seats 37 = .ok (.iload_n 1, 1) := by decide +kernel
theorem dX5_seats_38 : decode cX5_seats 38 = .ok (.invokevirtual 88, 3) := by decide +kernel
theorem dX5_seats_41 : decode cX5_seats 41 = .ok (.ifCond .eq 9, 3) := by decide +kernel
theorem dX5_seats_44 : decode cX5_seats 44 = .ok (.iload 4, 2) := by decide +kernel
theorem dX5_seats_46 : decode cX5_seats 46 = .ok (.iload_n 2, 1) := by decide +kernel
theorem dX5_seats_47 : decode cX5_seats 47 = .ok (.if_icmp .ne 6, 3) := by decide +kernel
theorem dX5_seats_50 : decode cX5_seats 50 = .ok (.bipush (-2), 2) := by decide +kernel
theorem dX5_seats_52 : decode cX5_seats 52 = .ok (.ireturn, 1) := by decide +kernel
theorem dX5_seats_53 : decode cX5_seats 53 = .ok (.aload_n 0, 1) := by decide +kernel
theorem dX5_seats_54 : decode cX5_seats 54 = .ok (.getfield 29, 3) := by decide +kernel
theorem dX5_seats_57 : decode cX5_seats 57 = .ok (.getfield 119, 3) := by decide +kernel
theorem dX5_seats_60 : decode cX5_seats 60 = .ok (.aload_n 3, 1) := by decide +kernel
theorem dX5_seats_61 : decode cX5_seats 61 = .ok (.invokevirtual 123, 3) := by decide +kernel
theorem dX5_seats_64 : decode cX5_seats 64 = .ok (.aload_n 3, 1) := by decide +kernel
theorem dX5_seats_65 : decode cX5_seats 65 = .ok (.getfield 79, 3) := by decide +kernel
theorem dX5_seats_68 : decode cX5_seats 68 = .ok (.iload_n 1, 1) := by decide +kernel
theorem dX5_seats_69 : decode cX5_seats 69 = .ok (.iload_n 2, 1) := by decide +kernel
theorem dX5_seats_70 : decode cX5_seats 70 = .ok (.iastore, 1) := by decide +kernel
theorem dX5_seats_71 : decode cX5_seats 71 = .ok (.iload 4, 2) := by decide +kernel
theorem dX5_seats_73 : decode cX5_seats 73 = .ok (.ireturn, 1) := by decide +kernel
set_option maxRecDepth 20000 in
theorem ggX5_boards_X5_isRider : GoodIn wsX5_boards wsX5_isRider := goodIn_r _ [10, 11, 12, 52, 53, 54, 55, 56, 57, 58, 59, 60, 61, 62, 72, 73, 74, 75, 76, 77] (by decide +kernel) (by decide +kernel)
set_option maxRecDepth 20000 in
theorem gX5_boards_X5_isRider : GoodIn wsX5_boards (wsV RX5 73 RX5 yX5_isRider wsX5_isRider) := goodIn_app (goodIn_of _ (by decide +kernel)) ggX5_boards_X5_isRider
set_option maxRecDepth 20000 in
theorem ggX5_boards_X1_isAboard : GoodIn wsX5_boards wsX1_isAboard := goodIn_r _ [17, 18, 65, 66, 67, 68, 69, 70, 71] (by decide +kernel) (by decide +kernel)
set_option maxRecDepth 20000 in
theorem gX5_boards_X1_isAboard : GoodIn wsX5_boards (wsV RX5 88 RX1 yX1_isAboard wsX1_isAboard) := goodIn_app (goodIn_of _ (by decide +kernel)) ggX5_boards_X1_isAboard
set_option maxRecDepth 20000 in
theorem ggX5_boards_X2_push : GoodIn wsX5_boards wsX2_push := goodIn_r _ [23, 24, 25, 26, 27, 28, 29, 22, 30, 31, 32, 33, 16, 34, 35, 18, 36, 37, 38, 39, 40, 41, 42, 43, 44, 78, 79, 80, 65, 66, 67, 68, 69, 70, 71] (by decide +kernel) (by decide +kernel)
set_option maxRecDepth 20000 in
theorem gX5_boards_X2_push : GoodIn wsX5_boards (wsV RX5 123 RX2 yX2_push wsX2_push) := goodIn_app (goodIn_of _ (by decide +kernel)) ggX5_boards_X2_push
set_option maxRecDepth 20000 in
theorem ggX5_boards_J6_bitCount_0f7a4 : GoodIn wsX5_boards wsJ6_bitCount_0f7a4 := goodIn_r _ [48, 49, 50, 51] (by decide +kernel) (by decide +kernel)
set_option maxRecDepth 20000 in
theorem gX5_boards_J6_bitCount_0f7a4 : GoodIn wsX5_boards (va_wsS RX5 143 yJ6_bitCount_0f7a4 wsJ6_bitCount_0f7a4) := goodIn_app (goodIn_of _ (by decide +kernel)) ggX5_boards_J6_bitCount_0f7a4
theorem dX5_boards_0 : decode cX5_boards 0 = .ok (.aload_n 0, 1) := by decide +kernel
theorem dX5_boards_1 : decode cX5_boards 1 = .ok (.getfield 29, 3) := by decide +kernel
theorem dX5_boards_4 : decode cX5_boards 4 = .ok (.getfield 76, 3) := by decide +kernel
theorem dX5_boards_7 : decode cX5_boards 7 = .ok (.astore_n 2, 1) := by decide +kernel
theorem dX5_boards_8 : decode cX5_boards 8 = .ok (.aload_n 0, 1) := by decide +kernel
theorem dX5_boards_9 : decode cX5_boards 9 = .ok (.iload_n 1, 1) := by decide +kernel
theorem dX5_boards_10 : decode cX5_boards 10 = .ok (.invokevirtual 73, 3) := by decide +kernel
theorem dX5_boards_13 : decode cX5_boards 13 = .ok (.ifCond .ne 5, 3) := by decide +kernel
theorem dX5_boards_16 : decode cX5_boards 16 = .ok (.iconst (-1), 1) := by decide +kernel
theorem dX5_boards_17 : decode cX5_boards 17 = .ok (.ireturn, 1) := by decide +kernel
theorem dX5_boards_18 : decode cX5_boards 18 = .ok (.aload_n 2, 1) := by decide +kernel
theorem dX5_boards_19 : decode cX5_boards 19 = .ok (.iload_n 1, 1) := by decide +kernel
theorem dX5_boards_20 : decode cX5_boards 20 = .ok (.invokevirtual 88, 3) := by decide +kernel
theorem dX5_boards_23 : decode cX5_boards 23 = .ok (.ifCond .eq 6, 3) := by decide +kernel
theorem dX5_boards_26 : decode cX5_boards 26 = .ok (.bipush (-2), 2) := by decide +kernel
theorem dX5_boards_28 : decode cX5_boards 28 = .ok (.ireturn, 1) := by decide +kernel
theorem dX5_boards_29 : decode cX5_boards 29 = .ok (.aload_n 0, 1) := by decide +kernel
theorem dX5_boards_30 : decode cX5_boards 30 = .ok (.getfield 29, 3) := by decide +kernel
theorem dX5_boards_33 : decode cX5_boards 33 = .ok (.getfield 119, 3) := by decide +kernel
theorem dX5_boards_36 : decode cX5_boards 36 = .ok (.aload_n 2, 1) := by decide +kernel
theorem dX5_boards_37 : decode cX5_boards 37 = .ok (.invokevirtual 123, 3) := by decide +kernel
theorem dX5_boards_40 : decode cX5_boards 40 = .ok (.aload_n 2, 1) := by decide +kernel
theorem dX5_boards_41 : decode cX5_boards 41 = .ok (.dup, 1) := by decide +kernel
theorem dX5_boards_42 : decode cX5_boards 42 = .ok (.getfield 98, 3) := by decide +kernel
theorem dX5_boards_45 : decode cX5_boards 45 = .ok (.iconst 1, 1) := by decide +kernel
theorem dX5_boards_46 : decode cX5_boards 46 = .ok (.iload_n 1, 1) := by decide +kernel
theorem dX5_boards_47 : decode cX5_boards 47 = .ok (.ishl, 1) := by decide +kernel
theorem dX5_boards_48 : decode cX5_boards 48 = .ok (.ior, 1) := by decide +kernel
theorem dX5_boards_49 : decode cX5_boards 49 = .ok (.putfield 98, 3) := by decide +kernel
theorem dX5_boards_52 : decode cX5_boards 52 = .ok (.aload_n 2, 1) := by decide +kernel
theorem dX5_boards_53 : decode cX5_boards 53 = .ok (.getfield 91, 3) := by decide +kernel
theorem dX5_boards_56 : decode cX5_boards 56 = .ok (.iload_n 1, 1) := by decide +kernel
theorem dX5_boards_57 : decode cX5_boards 57 = .ok (.bipush (-9), 2) := by decide +kernel
theorem dX5_boards_59 : decode cX5_boards 59 = .ok (.iastore, 1) := by decide +kernel
theorem dX5_boards_60 : decode cX5_boards 60 = .ok (.aload_n 2, 1) := by decide +kernel
theorem dX5_boards_61 : decode cX5_boards 61 = .ok (.getfield 98, 3) := by decide +kernel
theorem dX5_boards_64 : decode cX5_boards 64 = .ok (.invokestatic 143, 3) := by decide +kernel
theorem dX5_boards_67 : decode cX5_boards 67 = .ok (.ireturn, 1) := by decide +kernel
set_option maxRecDepth 20000 in
theorem ggX5_undo_X2_popInto : GoodIn wsX5_undo wsX2_popInto := goodIn_r _ [9, 10, 11, 12, 13, 14, 8, 15, 16, 17, 18, 19, 20, 21, 22, 23, 24, 25, 26, 27, 28, 29, 30, 31, 32, 46, 47, 48, 49, 50, 51, 52, 53, 54, 55] (by decide +kernel) (by decide +kernel)
set_option maxRecDepth 20000 in
theorem gX5_undo_X2_popInto : GoodIn wsX5_undo (wsV RX5 151 RX2 yX2_popInto wsX2_popInto) := goodIn_app (goodIn_of _ (by decide +kernel)) ggX5_undo_X2_popInto
theorem dX5_undo_0 : decode cX5_undo 0 = .ok (.aload_n 0, 1) := by decide +kernel
theorem dX5_undo_1 : decode cX5_undo 1 = .ok (.getfield 29, 3) := by decide +kernel
theorem dX5_undo_4 : decode cX5_undo 4 = .ok (.getfield 119, 3) := by decide +kernel
theorem dX5_undo_7 : decode cX5_undo 7 = .ok (.getfield 148, 3) := by decide +kernel
theorem dX5_undo_10 : decode cX5_undo 10 = .ok (.ifCond .ne 6, 3) := by decide +kernel
theorem dX5_undo_13 : decode cX5_undo 13 = .ok (.bipush (-2), 2) := by decide +kernel
theorem dX5_undo_15 : decode cX5_undo 15 = .ok (.ireturn, 1) := by decide +kernel
theorem dX5_undo_16 : decode cX5_undo 16 = .ok (.aload_n 0, 1) := by decide +kernel
theorem dX5_undo_17 : decode cX5_undo 17 = .ok (.getfield 29, 3) := by decide +kernel
theorem dX5_undo_20 : decode cX5_undo 20 = .ok (.getfield 119, 3) := by decide +kernel
theorem dX5_undo_23 : decode cX5_undo 23 = .ok (.aload_n 0, 1) := by decide +kernel
theorem dX5_undo_24 : decode cX5_undo 24 = .ok (.getfield 29, 3) := by decide +kernel
theorem dX5_undo_27 : decode cX5_undo 27 = .ok (.getfield 76, 3) := by decide +kernel
theorem dX5_undo_30 : decode cX5_undo 30 = .ok (.invokevirtual 151, 3) := by decide +kernel
theorem dX5_undo_33 : decode cX5_undo 33 = .ok (.aload_n 0, 1) := by decide +kernel
theorem dX5_undo_34 : decode cX5_undo 34 = .ok (.getfield 29, 3) := by decide +kernel
theorem dX5_undo_37 : decode cX5_undo 37 = .ok (.getfield 119, 3) := by decide +kernel
theorem dX5_undo_40 : decode cX5_undo 40 = .ok (.getfield 148, 3) := by decide +kernel
theorem dX5_undo_43 : decode cX5_undo 43 = .ok (.ireturn, 1) := by decide +kernel
theorem dX5_now_0 : decode cX5_now 0 = .ok (.aload_n 0, 1) := by decide +kernel
theorem dX5_now_1 : decode cX5_now 1 = .ok (.getfield 29, 3) := by decide +kernel
theorem dX5_now_4 : decode cX5_now 4 = .ok (.getfield 76, 3) := by decide +kernel
theorem dX5_now_7 : decode cX5_now 7 = .ok (.astore_n 2, 1) := by decide +kernel
theorem dX5_now_8 : decode cX5_now 8 = .ok (.iload_n 1, 1) := by decide +kernel
theorem dX5_now_9 : decode cX5_now 9 = .ok (.tableswitch 75 0 4 #[35, 40, 45, 50, 55], 35) := by decide +kernel
theorem dX5_now_44 : decode cX5_now 44 = .ok (.aload_n 2, 1) := by decide +kernel
theorem dX5_now_45 : decode cX5_now 45 = .ok (.getfield 116, 3) := by decide +kernel
theorem dX5_now_48 : decode cX5_now 48 = .ok (.ireturn, 1) := by decide +kernel
theorem dX5_now_49 : decode cX5_now 49 = .ok (.aload_n 2, 1) := by decide +kernel
theorem dX5_now_50 : decode cX5_now 50 = .ok (.getfield 98, 3) := by decide +kernel
theorem dX5_now_53 : decode cX5_now 53 = .ok (.ireturn, 1) := by decide +kernel
theorem dX5_now_54 : decode cX5_now 54 = .ok (.aload_n 2, 1) := by decide +kernel
theorem dX5_now_55 : decode cX5_now 55 = .ok (.getfield 136, 3) := by decide +kernel
theorem dX5_now_58 : decode cX5_now 58 = .ok (.ireturn, 1) := by decide +kernel
theorem dX5_now_59 : decode cX5_now 59 = .ok (.aload_n 2, 1) := by decide +kernel
theorem dX5_now_60 : decode cX5_now 60 = .ok (.getfield 154, 3) := by decide +kernel
theorem dX5_now_63 : decode cX5_now 63 = .ok (.ireturn, 1) := by decide +kernel
theorem dX5_now_64 : decode cX5_now 64 = .ok (.aload_n 2, 1) := by decide +kernel
theorem dX5_now_65 : decode cX5_now 65 = .ok (.getfield 116, 3) := by decide +kernel
theorem dX5_now_68 : decode cX5_now 68 = .ok (.aload_n 0, 1) := by decide +kernel
theorem dX5_now_69 : decode cX5_now 69 = .ok (.getfield 19, 3) := by decide +kernel
theorem dX5_now_72 : decode cX5_now 72 = .ok (.getfield 157, 3) := by decide +kernel
theorem dX5_now_75 : decode cX5_now 75 = .ok (.if_icmp .lt 7, 3) := by decide +kernel
theorem dX5_now_78 : decode cX5_now 78 = .ok (.iconst 1, 1) := by decide +kernel
theorem dX5_now_79 : decode cX5_now 79 = .ok (.goto 4, 3) := by decide +kernel
theorem dX5_now_82 : decode cX5_now 82 = .ok (.iconst 0, 1) := by decide +kernel
theorem dX5_now_83 : decode cX5_now 83 = .ok (.ireturn, 1) := by decide +kernel
theorem dX5_now_84 : decode cX5_now 84 = .ok (.iconst (-1), 1) := by decide +kernel
theorem dX5_now_85 : decode cX5_now 85 = .ok (.ireturn, 1) := by decide +kernel
set_option maxRecDepth 20000 in
theorem ggX5_row_X1_areAboard : GoodIn wsX5_row wsX1_areAboard := goodIn_r _ [8, 9, 51, 52, 53, 54, 55, 56, 57] (by decide +kernel) (by decide +kernel)
set_option maxRecDepth 20000 in
theorem gX5_row_X1_areAboard : GoodIn wsX5_row (wsV RX5 160 RX1 yX1_areAboard wsX1_areAboard) := goodIn_app (goodIn_of _ (by decide +kernel)) ggX5_row_X1_areAboard
set_option maxRecDepth 20000 in
theorem ggX5_row_X5_rowsFrom : GoodIn wsX5_row wsX5_rowsFrom := goodIn_r _ [14, 15, 16, 17, 18, 19, 13, 20, 21, 22, 23, 24, 25, 26, 27, 7, 28, 29, 10, 11, 12, 38, 39, 40, 41, 42, 43, 44, 45, 46, 47, 48, 58, 59, 60, 61, 62, 63, 51, 52, 53, 54, 55, 56, 57] (by decide +kernel) (by decide +kernel)
set_option maxRecDepth 20000 in
theorem gX5_row_X5_rowsFrom : GoodIn wsX5_row (wsV RX5 163 RX5 yX5_rowsFrom wsX5_rowsFrom) := goodIn_app (goodIn_of _ (by decide +kernel)) ggX5_row_X5_rowsFrom
set_option maxRecDepth 20000 in
theorem ggX5_row_X5_ringerAt : GoodIn wsX5_row wsX5_ringerAt := goodIn_r _ [33, 3, 34, 35, 36, 13, 37, 15, 16, 17, 18, 19, 20, 21, 22, 23, 24, 25, 26, 27, 7, 28, 29, 10, 11, 12, 14, 51, 52, 53, 54, 55, 56, 57, 38, 39, 40, 41, 42, 43, 44, 45, 46, 47, 48, 58, 59, 60, 61, 62, 63] (by decide +kernel) (by decide +kernel)
set_option maxRecDepth 20000 in
theorem gX5_row_X5_ringerAt : GoodIn wsX5_row (wsV RX5 167 RX5 yX5_ringerAt wsX5_ringerAt) := goodIn_app (goodIn_of _ (by decide +kernel)) ggX5_row_X5_ringerAt
theorem dX5_row_0 : decode cX5_row 0 = .ok (.aload_n 0, 1) := by decide +kernel
theorem dX5_row_1 : decode cX5_row 1 = .ok (.getfield 29, 3) := by decide +kernel
theorem dX5_row_4 : decode cX5_row 4 = .ok (.getfield 76, 3) := by decide +kernel
theorem dX5_row_7 : decode cX5_row 7 = .ok (.astore_n 3, 1) := by decide +kernel
theorem dX5_row_8 : decode cX5_row 8 = .ok (.aload_n 3, 1) := by decide +kernel
theorem dX5_row_9 : decode cX5_row 9 = .ok (.iload_n 1, 1) := by decide +kernel
theorem dX5_row_10 : decode cX5_row 10 = .ok (.invokevirtual 160, 3) := by decide +kernel
theorem dX5_row_13 : decode cX5_row 13 = .ok (.ifCond .eq 14, 3) := by decide +kernel
theorem dX5_row_16 : decode cX5_row 16 = .ok (.iload_n 2, 1) := by decide +kernel
theorem dX5_row_17 : decode cX5_row 17 = .ok (.iconst (-1), 1) := by decide +kernel
theorem dX5_row_18 : decode cX5_row 18 = .ok (.if_icmp .lt 9, 3) := by decide +kernel
theorem dX5_row_21 : decode cX5_row 21 = .ok (.iload_n 2, 1) := by decide +kernel
theorem dX5_row_22 : decode cX5_row 22 = .ok (.bipush 6, 2) := by decide +kernel
theorem dX5_row_24 : decode cX5_row 24 = .ok (.if_icmp .lt 5, 3) := by decide +kernel
theorem dX5_row_27 : decode cX5_row 27 = .ok (.iconst (-1), 1) := by decide +kernel
theorem dX5_row_28 : decode cX5_row 28 = .ok (.ireturn, 1) := by decide +kernel
theorem dX5_row_29 : decode cX5_row 29 = .ok (.iload_n 2, 1) := by decide +kernel
theorem dX5_row_30 : decode cX5_row 30 = .ok (.ifCond .ge 18, 3) := by decide +kernel
theorem dX5_row_33 : decode cX5_row 33 = .ok (.aload_n 0, 1) := by decide +kernel
theorem dX5_row_34 : decode cX5_row 34 = .ok (.aload_n 3, 1) := by decide +kernel
theorem dX5_row_35 : decode cX5_row 35 = .ok (.iload_n 1, 1) := by decide +kernel
theorem dX5_row_36 : decode cX5_row 36 = .ok (.aload_n 3, 1) := by decide +kernel
theorem dX5_row_37 : decode cX5_row 37 = .ok (.getfield 98, 3) := by decide +kernel
theorem dX5_row_40 : decode cX5_row 40 = .ok (.iconst 0, 1) := by decide +kernel
theorem dX5_row_41 : decode cX5_row 41 = .ok (.iconst 0, 1) := by decide +kernel
theorem dX5_row_42 : decode cX5_row 42 = .ok (.invokevirtual 163, 3) := by decide +kernel
theorem dX5_row_45 : decode cX5_row 45 = .ok (.goto 10, 3) := by decide +kernel
theorem dX5_row_48 : decode cX5_row 48 = .ok (.aload_n 0, 1) := by decide +kernel
theorem dX5_row_49 : decode cX5_row 49 = .ok (.aload_n 3, 1) := by decide +kernel
theorem dX5_row_50 : decode cX5_row 50 = .ok (.iload_n 1, 1) := by decide +kernel
theorem dX5_row_51 : decode cX5_row 51 = .ok (.iload_n 2, 1) := by decide +kernel
theorem dX5_row_52 : decode cX5_row 52 = .ok (.invokevirtual 167, 3) := by decide +kernel
theorem dX5_row_55 : decode cX5_row 55 = .ok (.ireturn, 1) := by decide +kernel
set_option maxRecDepth 20000 in
theorem ggX5_soon_X1_areAboard : GoodIn wsX5_soon wsX1_areAboard := goodIn_r _ [9, 10, 93, 94, 95, 96, 97, 98, 99] (by decide +kernel) (by decide +kernel)
set_option maxRecDepth 20000 in
theorem gX5_soon_X1_areAboard : GoodIn wsX5_soon (wsV RX5 160 RX1 yX1_areAboard wsX1_areAboard) := goodIn_app (goodIn_of _ (by decide +kernel)) ggX5_soon_X1_areAboard
set_option maxRecDepth 20000 in
theorem ggX5_soon_X5_rowsFrom : GoodIn wsX5_soon wsX5_rowsFrom := goodIn_r _ [15, 16, 17, 18, 19, 20, 14, 21, 22, 23, 24, 25, 26, 27, 28, 8, 29, 30, 11, 12, 13, 80, 81, 82, 83, 84, 85, 86, 87, 88, 89, 90, 100, 101, 102, 103, 104, 105, 93, 94, 95, 96, 97, 98, 99] (by decide +kernel) (by decide +kernel)
set_option maxRecDepth 20000 in
theorem gX5_soon_X5_rowsFrom : GoodIn wsX5_soon (wsV RX5 163 RX5 yX5_rowsFrom wsX5_rowsFrom) := goodIn_app (goodIn_of _ (by decide +kernel)) ggX5_soon_X5_rowsFrom
set_option maxRecDepth 20000 in
theorem ggX5_soon_X1_copyFrom : GoodIn wsX5_soon wsX1_copyFrom := goodIn_r _ [34, 35, 10, 36, 37, 38, 39, 40, 41, 42, 43, 30, 93, 94, 95, 96, 97, 98, 99] (by decide +kernel) (by decide +kernel)
set_option maxRecDepth 20000 in
theorem gX5_soon_X1_copyFrom : GoodIn wsX5_soon (wsV RX5 170 RX1 yX1_copyFrom wsX1_copyFrom) := goodIn_app (goodIn_of _ (by decide +kernel)) ggX5_soon_X1_copyFrom
set_option maxRecDepth 20000 in
theorem ggX5_soon_X5_ride : GoodIn wsX5_soon wsX5_ride := goodIn_r _ [47, 48, 16, 17, 49, 50, 51, 52, 14, 53, 54, 55, 56, 57, 8, 58, 10, 59, 60, 61, 62, 63, 64, 65, 66, 67, 68, 69, 70, 71, 72, 73, 74, 75, 76, 77, 78, 79, 36, 30, 93, 94, 95, 96, 97, 98, 99, 80, 81, 82, 83, 84, 85, 86, 87, 88, 89, 90, 100, 101, 102, 103, 104, 105] (by decide +kernel) (by decide +kernel)
set_option maxRecDepth 20000 in
theorem gX5_soon_X5_ride : GoodIn wsX5_soon (wsV RX5 129 RX5 yX5_ride wsX5_ride) := goodIn_app (goodIn_of _ (by decide +kernel)) ggX5_soon_X5_ride
theorem dX5_soon_0 : decode cX5_soon 0 = .ok (.aload_n 0, 1) := by decide +kernel
theorem dX5_soon_1 : decode cX5_soon 1 = .ok (.getfield 29, 3) := by decide +kernel
theorem dX5_soon_4 : decode cX5_soon 4 = .ok (.getfield 76, 3) := by decide +kernel
theorem dX5_soon_7 : decode cX5_soon 7 = .ok (.astore_n 2, 1) := by decide +kernel
theorem dX5_soon_8 : decode cX5_soon 8 = .ok (.aload_n 2, 1) := by decide +kernel
theorem dX5_soon_9 : decode cX5_soon 9 = .ok (.iload_n 1, 1) := by decide +kernel
theorem dX5_soon_10 : decode cX5_soon 10 = .ok (.invokevirtual 160, 3) := by decide +kernel
theorem dX5_soon_13 : decode cX5_soon 13 = .ok (.ifCond .ne 5, 3) := by decide +kernel
theorem dX5_soon_16 : decode cX5_soon 16 = .ok (.iconst (-1), 1) := by decide +kernel
theorem dX5_soon_17 : decode cX5_soon 17 = .ok (.ireturn, 1) := by decide +kernel
theorem dX5_soon_18 : decode cX5_soon 18 = .ok (.aload_n 0, 1) := by decide +kernel
theorem dX5_soon_19 : decode cX5_soon 19 = .ok (.aload_n 2, 1) := by decide +kernel
theorem dX5_soon_20 : decode cX5_soon 20 = .ok (.iload_n 1, 1) := by decide +kernel
theorem dX5_soon_21 : decode cX5_soon 21 = .ok (.aload_n 2, 1) := by decide +kernel
theorem dX5_soon_22 : decode cX5_soon 22 = .ok (.getfield 98, 3) := by decide +kernel
theorem dX5_soon_25 : decode cX5_soon 25 = .ok (.iconst 0, 1) := by decide +kernel
theorem dX5_soon_26 : decode cX5_soon 26 = .ok (.iconst 0, 1) := by decide +kernel
theorem dX5_soon_27 : decode cX5_soon 27 = .ok (.invokevirtual 163, 3) := by decide +kernel
theorem dX5_soon_30 : decode cX5_soon 30 = .ok (.ifCond .le 5, 3) := by decide +kernel
theorem dX5_soon_33 : decode cX5_soon 33 = .ok (.iconst 0, 1) := by decide +kernel
theorem dX5_soon_34 : decode cX5_soon 34 = .ok (.ireturn, 1) := by decide +kernel
theorem dX5_soon_35 : decode cX5_soon 35 = .ok (.aload_n 0, 1) := by decide +kernel
theorem dX5_soon_36 : decode cX5_soon 36 = .ok (.getfield 40, 3) := by decide +kernel
theorem dX5_soon_39 : decode cX5_soon 39 = .ok (.aload_n 2, 1) := by decide +kernel
theorem dX5_soon_40 : decode cX5_soon 40 = .ok (.invokevirtual 170, 3) := by decide +kernel
theorem dX5_soon_43 : decode cX5_soon 43 = .ok (.aload_n 0, 1) := by decide +kernel
theorem dX5_soon_44 : decode cX5_soon 44 = .ok (.aload_n 0, 1) := by decide +kernel
theorem dX5_soon_45 : decode cX5_soon 45 = .ok (.getfield 40, 3) := by decide +kernel
theorem dX5_soon_48 : decode cX5_soon 48 = .ok (.invokevirtual 129, 3) := by decide +kernel
theorem dX5_soon_51 : decode cX5_soon 51 = .ok (.aload_n 0, 1) := by decide +kernel
theorem dX5_soon_52 : decode cX5_soon 52 = .ok (.aload_n 0, 1) := by decide +kernel
theorem dX5_soon_53 : decode cX5_soon 53 = .ok (.getfield 40, 3) := by decide +kernel
theorem dX5_soon_56 : decode cX5_soon 56 = .ok (.iload_n 1, 1) := by decide +kernel
theorem dX5_soon_57 : decode cX5_soon 57 = .ok (.aload_n 0, 1) := by decide +kernel
theorem dX5_soon_58 : decode cX5_soon 58 = .ok (.getfield 40, 3) := by decide +kernel
theorem dX5_soon_61 : decode cX5_soon 61 = .ok (.getfield 98, 3) := by decide +kernel
theorem dX5_soon_64 : decode cX5_soon 64 = .ok (.iconst 0, 1) := by decide +kernel
theorem dX5_soon_65 : decode cX5_soon 65 = .ok (.iconst 0, 1) := by decide +kernel
theorem dX5_soon_66 : decode cX5_soon 66 = .ok (.invokevirtual 163, 3) := by decide +kernel
theorem dX5_soon_69 : decode cX5_soon 69 = .ok (.ifCond .le 7, 3) := by decide +kernel
theorem dX5_soon_72 : decode cX5_soon 72 = .ok (.iconst 1, 1) := by decide +kernel
theorem dX5_soon_73 : decode cX5_soon 73 = .ok (.goto 5, 3) := by decide +kernel
theorem dX5_soon_76 : decode cX5_soon 76 = .ok (.bipush (-9), 2) := by decide +kernel
theorem dX5_soon_78 : decode cX5_soon 78 = .ok (.ireturn, 1) := by decide +kernel
set_option maxRecDepth 20000 in
theorem ggX5_odds_X5_isPairAboard : GoodIn wsX5_odds wsX5_isPairAboard := goodIn_r _ [5, 6, 7, 8, 9, 10, 4, 11, 12, 13, 14, 15, 16, 17, 18, 19, 20, 21, 22, 23, 47, 48, 49, 50, 51, 52, 53, 54, 55, 56, 57, 58, 59, 60, 61, 62, 63, 64, 65, 66, 67, 68, 69, 70, 71, 72] (by decide +kernel) (by decide +kernel)
set_option maxRecDepth 20000 in
theorem gX5_odds_X5_isPairAboard : GoodIn wsX5_odds (wsV RX5 172 RX5 yX5_isPairAboard wsX5_isPairAboard) := goodIn_app (goodIn_of _ (by decide +kernel)) ggX5_odds_X5_isPairAboard
set_option maxRecDepth 20000 in
theorem ggX5_odds_X5_oddsUpper : GoodIn wsX5_odds wsX5_oddsUpper := goodIn_r _ [27, 6, 7, 28, 29, 30, 21, 31, 32, 33, 34, 35, 4, 36, 16, 17, 18, 19, 20, 22, 23, 37, 38, 39, 47, 48, 49, 50, 51, 52, 53, 54, 55, 56, 57, 58, 59, 66, 67, 68, 69, 70, 71, 72, 60, 61, 62, 63, 64, 65] (by decide +kernel) (by decide +kernel)
set_option maxRecDepth 20000 in
theorem gX5_odds_X5_oddsUpper : GoodIn wsX5_odds (wsV RX5 175 RX5 yX5_oddsUpper wsX5_oddsUpper) := goodIn_app (goodIn_of _ (by decide +kernel)) ggX5_odds_X5_oddsUpper
set_option maxRecDepth 20000 in
theorem ggX5_odds_X5_oddsLower : GoodIn wsX5_odds wsX5_oddsLower := goodIn_r _ [43, 33, 34, 35, 4, 36, 6, 7, 16, 17, 28, 29, 30, 21, 31, 32, 18, 19, 20, 22, 23, 37, 38, 39, 47, 48, 49, 50, 51, 52, 53, 54, 55, 56, 57, 58, 59, 60, 61, 62, 63, 64, 65, 66, 67, 68, 69, 70, 71, 72] (by decide +kernel) (by decide +kernel)
set_option maxRecDepth 20000 in
theorem gX5_odds_X5_oddsLower : GoodIn wsX5_odds (wsV RX5 179 RX5 yX5_oddsLower wsX5_oddsLower) := goodIn_app (goodIn_of _ (by decide +kernel)) ggX5_odds_X5_oddsLower
set_option maxRecDepth 20000 in
theorem ggX5_odds_X5_commonDivisor : GoodIn wsX5_odds wsX5_commonDivisor := goodIn_r _ [46] (by decide +kernel) (by decide +kernel)
set_option maxRecDepth 20000 in
theorem gX5_odds_X5_commonDivisor : GoodIn wsX5_odds (va_wsS RX5 182 yX5_commonDivisor wsX5_commonDivisor) := goodIn_app (goodIn_of _ (by decide +kernel)) ggX5_odds_X5_commonDivisor
theorem dX5_odds_0 : decode cX5_odds 0 = .ok (.aload_n 0, 1) := by decide +kernel
theorem dX5_odds_1 : decode cX5_odds 1 = .ok (.iload_n 1, 1) := by decide +kernel
theorem dX5_odds_2 : decode cX5_odds 2 = .ok (.iload_n 2, 1) := by decide +kernel
theorem dX5_odds_3 : decode cX5_odds 3 = .ok (.invokevirtual 172, 3) := by decide +kernel
theorem dX5_odds_6 : decode cX5_odds 6 = .ok (.ifCond .eq 24, 3) := by decide +kernel
theorem dX5_odds_9 : decode cX5_odds 9 = .ok (.iload_n 3, 1) := by decide +kernel
theorem dX5_odds_10 : decode cX5_odds 10 = .ok (.ifCond .lt 20, 3) := by decide +kernel
theorem dX5_odds_13 : decode cX5_odds 13 = .ok (.iload_n 3, 1) := by decide +kernel
theorem dX5_odds_14 : decode cX5_odds 14 = .ok (.bipush 10, 2) := by decide +kernel
theorem dX5_odds_16 : decode cX5_odds 16 = .ok (.if_icmp .gt 14, 3) := by decide +kernel
theorem dX5_odds_19 : decode cX5_odds 19 = .ok (.iload 4, 2) := by decide +kernel
theorem dX5_odds_21 : decode cX5_odds 21 = .ok (.ifCond .lt 9, 3) := by decide +kernel
theorem dX5_odds_24 : decode cX5_odds 24 = .ok (.iload 4, 2) := by decide +kernel
theorem dX5_odds_26 : decode cX5_odds 26 = .ok (.iconst 1, 1) := by decide +kernel
theorem dX5_odds_27 : decode cX5_odds 27 = .ok (.if_icmp .le 5, 3) := by decide +kernel
theorem dX5_odds_30 : decode cX5_odds 30 = .ok (.iconst (-1), 1) := by decide +kernel
theorem dX5_odds_31 : decode cX5_odds 31 = .ok (.ireturn, 1) := by decide +kernel
theorem dX5_odds_32 : decode cX5_odds 32 = .ok (.aload_n 0, 1) := by decide +kernel
theorem dX5_odds_33 : decode cX5_odds 33 = .ok (.iload_n 1, 1) := by decide +kernel
theorem dX5_odds_34 : decode cX5_odds 34 = .ok (.iload_n 2, 1) := by decide +kernel
theorem dX5_odds_35 : decode cX5_odds 35 = .ok (.iload_n 3, 1) := by decide +kernel
theorem dX5_odds_36 : decode cX5_odds 36 = .ok (.invokevirtual 175, 3) := by decide +kernel
theorem dX5_odds_39 : decode cX5_odds 39 = .ok (.istore 5, 2) := by decide +kernel
theorem dX5_odds_41 : decode cX5_odds 41 = .ok (.aload_n 0, 1) := by decide +kernel
theorem dX5_odds_42 : decode cX5_odds 42 = .ok (.iload_n 1, 1) := by decide +kernel
theorem dX5_odds_43 : decode cX5_odds 43 = .ok (.iload_n 2, 1) := by decide +kernel
theorem dX5_odds_44 : decode cX5_odds 44 = .ok (.invokevirtual 179, 3) := by decide +kernel
theorem dX5_odds_47 : decode cX5_odds 47 = .ok (.istore 6, 2) := by decide +kernel
theorem dX5_odds_49 : decode cX5_odds 49 = .ok (.iload 6, 2) := by decide +kernel
theorem dX5_odds_51 : decode cX5_odds 51 = .ok (.iload 5, 2) := by decide +kernel
theorem dX5_odds_53 : decode cX5_odds 53 = .ok (.invokestatic 182, 3) := by decide +kernel
theorem dX5_odds_56 : decode cX5_odds 56 = .ok (.istore 7, 2) := by decide +kernel
theorem dX5_odds_58 : decode cX5_odds 58 = .ok (.iload 7, 2) := by decide +kernel
theorem dX5_odds_60 : decode cX5_odds 60 = .ok (.iconst 1, 1) := by decide +kernel
theorem dX5_odds_61 : decode cX5_odds 61 = .ok (.if_icmp .ge 5, 3) := by decide +kernel
theorem dX5_odds_64 : decode cX5_odds 64 = .ok (.iconst (-1), 1) := by decide +kernel
theorem dX5_odds_65 : decode cX5_odds 65 = .ok (.ireturn, 1) := by decide +kernel
theorem dX5_odds_66 : decode cX5_odds 66 = .ok (.iload 4, 2) := by decide +kernel
theorem dX5_odds_68 : decode cX5_odds 68 = .ok (.ifCond .ne 8, 3) := by decide +kernel
theorem dX5_odds_71 : decode cX5_odds 71 = .ok (.iload 5, 2) := by decide +kernel
theorem dX5_odds_73 : decode cX5_odds 73 = .ok (.goto 5, 3) := by decide +kernel
theorem dX5_odds_76 : decode cX5_odds 76 = .ok (.iload 6, 2) := by decide +kernel
theorem dX5_odds_78 : decode cX5_odds 78 = .ok (.iload 7, 2) := by decide +kernel
theorem dX5_odds_80 : decode cX5_odds 80 = .ok (.idiv, 1) := by decide +kernel
theorem dX5_odds_81 : decode cX5_odds 81 = .ok (.ireturn, 1) := by decide +kernel
set_option maxRecDepth 20000 in
theorem ggX5_circle_X5_isRider : GoodIn wsX5_circle wsX5_isRider := goodIn_r _ [7, 8, 9, 53, 54, 55, 56, 57, 58, 59, 60, 61, 62, 63, 66, 67, 68, 69, 70, 71] (by decide +kernel) (by decide +kernel)
set_option maxRecDepth 20000 in
theorem gX5_circle_X5_isRider : GoodIn wsX5_circle (wsV RX5 73 RX5 yX5_isRider wsX5_isRider) := goodIn_app (goodIn_of _ (by decide +kernel)) ggX5_circle_X5_isRider
set_option maxRecDepth 20000 in
theorem ggX5_circle_X1_isAboard : GoodIn wsX5_circle wsX1_isAboard := goodIn_r _ [14, 15, 72, 73, 74, 75, 76, 77, 78] (by decide +kernel) (by decide +kernel)
set_option maxRecDepth 20000 in
theorem gX5_circle_X1_isAboard : GoodIn wsX5_circle (wsV RX5 88 RX1 yX1_isAboard wsX1_isAboard) := goodIn_app (goodIn_of _ (by decide +kernel)) ggX5_circle_X1_isAboard
set_option maxRecDepth 20000 in
theorem ggX5_circle_X5_circleOf : GoodIn wsX5_circle wsX5_circleOf := goodIn_r _ [19, 8, 9, 20, 21, 22, 23, 6, 24, 25, 10, 11, 12, 13, 14, 15, 26, 27, 28, 29, 30, 31, 32, 33, 34, 35, 36, 37, 38, 39, 40, 41, 42, 53, 54, 55, 56, 57, 58, 59, 60, 61, 62, 63, 66, 67, 68, 69, 70, 71, 72, 73, 74, 75, 76, 77, 78] (by decide +kernel) (by decide +kernel)
set_option maxRecDepth 20000 in
theorem gX5_circle_X5_circleOf : GoodIn wsX5_circle (wsV RX5 185 RX5 yX5_circleOf wsX5_circleOf) := goodIn_app (goodIn_of _ (by decide +kernel)) ggX5_circle_X5_circleOf
set_option maxRecDepth 20000 in
theorem ggX5_circle_J6_bitCount_0f7a4 : GoodIn wsX5_circle wsJ6_bitCount_0f7a4 := goodIn_r _ [46, 47, 48, 49] (by decide +kernel) (by decide +kernel)
set_option maxRecDepth 20000 in
theorem gX5_circle_J6_bitCount_0f7a4 : GoodIn wsX5_circle (va_wsS RX5 143 yJ6_bitCount_0f7a4 wsJ6_bitCount_0f7a4) := goodIn_app (goodIn_of _ (by decide +kernel)) ggX5_circle_J6_bitCount_0f7a4
set_option maxRecDepth 20000 in
theorem ggX5_circle_X5_lowestOf : GoodIn wsX5_circle wsX5_lowestOf := goodIn_r _ [52] (by decide +kernel) (by decide +kernel)
set_option maxRecDepth 20000 in
theorem gX5_circle_X5_lowestOf : GoodIn wsX5_circle (va_wsS RX5 188 yX5_lowestOf wsX5_lowestOf) := goodIn_app (goodIn_of _ (by decide +kernel)) ggX5_circle_X5_lowestOf
theorem dX5_circle_0 : decode cX5_circle 0 = .ok (.aload_n 0, 1) := by decide +kernel
theorem dX5_circle_1 : decode cX5_circle 1 = .ok (.getfield 29, 3) := by decide +kernel
theorem dX5_circle_4 : decode cX5_circle 4 = .ok (.getfield 76, 3) := by decide +kernel
theorem dX5_circle_7 : decode cX5_circle 7 = .ok (.astore_n 3, 1) := by decide +kernel
theorem dX5_circle_8 : decode cX5_circle 8 = .ok (.aload_n 0, 1) := by decide +kernel
theorem dX5_circle_9 : decode cX5_circle 9 = .ok (.iload_n 1, 1) := by decide +kernel
theorem dX5_circle_10 : decode cX5_circle 10 = .ok (.invokevirtual 73, 3) := by decide +kernel
theorem dX5_circle_13 : decode cX5_circle 13 = .ok (.ifCond .eq 20, 3) := by decide +kernel
theorem dX5_circle_16 : decode cX5_circle 16 = .ok (.aload_n 3, 1) := by decide +kernel
theorem dX5_circle_17 : decode cX5_circle 17 = .ok (.iload_n 1, 1) := by decide +kernel
theorem dX5_circle_18 : decode cX5_circle 18 = .ok (.invokevirtual 88, 3) := by decide +kernel
theorem dX5_circle_21 : decode cX5_circle 21 = .ok (.ifCond .eq 12, 3) := by decide +kernel
theorem dX5_circle_24 : decode cX5_circle 24 = .ok (.iload_n 2, 1) := by decide +kernel
theorem dX5_circle_25 : decode cX5_circle 25 = .ok (.ifCond .lt 8, 3) := by decide +kernel
theorem dX5_circle_28 : decode cX5_circle 28 = .ok (.iload_n 2, 1) := by decide +kernel
theorem dX5_circle_29 : decode cX5_circle 29 = .ok (.iconst 1, 1) := by decide +kernel
theorem dX5_circle_30 : decode cX5_circle 30 = .ok (.if_icmp .le 5, 3) := by decide +kernel
theorem dX5_circle_33 : decode cX5_circle 33 = .ok (.iconst (-1), 1) := by decide +kernel
theorem dX5_circle_34 : decode cX5_circle 34 = .ok (.ireturn, 1) := by decide +kernel
theorem dX5_circle_35 : decode cX5_circle 35 = .ok (.aload_n 0, 1) := by decide +kernel
theorem dX5_circle_36 : decode cX5_circle 36 = .ok (.aload_n 3, 1) := by decide +kernel
theorem dX5_circle_37 : decode cX5_circle 37 = .ok (.iload_n 1, 1) := by decide +kernel
theorem dX5_circle_38 : decode cX5_circle 38 = .ok (.invokevirtual 185, 3) := by decide +kernel
theorem dX5_circle_41 : decode cX5_circle 41 = .ok (.istore 4, 2) := by decide +kernel
theorem dX5_circle_43 : decode cX5_circle 43 = .ok (.iload 4, 2) := by decide +kernel
theorem dX5_circle_45 : decode cX5_circle 45 = .ok (.ifCond .ne 6, 3) := by decide +kernel
theorem dX5_circle_48 : decode cX5_circle 48 = .ok (.bipush (-9), 2) := by decide +kernel
theorem dX5_circle_50 : decode cX5_circle 50 = .ok (.ireturn, 1) := by decide +kernel
theorem dX5_circle_51 : decode cX5_circle 51 = .ok (.iload_n 2, 1) := by decide +kernel
theorem dX5_circle_52 : decode cX5_circle 52 = .ok (.ifCond .ne 11, 3) := by decide +kernel
theorem dX5_circle_55 : decode cX5_circle 55 = .ok (.iload 4, 2) := by decide +kernel
theorem dX5_circle_57 : decode cX5_circle 57 = .ok (.invokestatic 143, 3) := by decide +kernel
theorem dX5_circle_60 : decode cX5_circle 60 = .ok (.goto 8, 3) := by decide +kernel
theorem dX5_circle_63 : decode cX5_circle 63 = .ok (.iload 4, 2) := by decide +kernel
theorem dX5_circle_65 : decode cX5_circle 65 = .ok (.invokestatic 188, 3) := by decide +kernel
theorem dX5_circle_68 : decode cX5_circle 68 = .ok (.ireturn, 1) := by decide +kernel
set_option maxRecDepth 20000 in
theorem ggX5_chair_X5_isPairAboard : GoodIn wsX5_chair wsX5_isPairAboard := goodIn_r _ [7, 1, 2, 8, 9, 10, 6, 11, 12, 13, 14, 15, 16, 17, 18, 19, 20, 21, 22, 23, 33, 34, 35, 36, 37, 38, 39, 40, 41, 42, 43, 44, 45, 46, 47, 48, 49, 50, 51, 52, 53, 54, 55, 56, 57, 58] (by decide +kernel) (by decide +kernel)
set_option maxRecDepth 20000 in
theorem gX5_chair_X5_isPairAboard : GoodIn wsX5_chair (wsV RX5 172 RX5 yX5_isPairAboard wsX5_isPairAboard) := goodIn_app (goodIn_of _ (by decide +kernel)) ggX5_chair_X5_isPairAboard
set_option maxRecDepth 20000 in
theorem ggX5_chair_X5_nearest : GoodIn wsX5_chair wsX5_nearest := goodIn_r _ [27, 16, 17, 28, 29, 30, 31, 32, 18, 19, 20, 21, 22, 23, 33, 34, 35, 36, 37, 38, 39, 40, 41, 42, 43, 46, 47, 48, 49, 50, 51, 52, 53, 54, 55, 56, 57, 58] (by decide +kernel) (by decide +kernel)
set_option maxRecDepth 20000 in
theorem gX5_chair_X5_nearest : GoodIn wsX5_chair (wsV RX5 191 RX5 yX5_nearest wsX5_nearest) := goodIn_app (goodIn_of _ (by decide +kernel)) ggX5_chair_X5_nearest
theorem dX5_chair_0 : decode cX5_chair 0 = .ok (.aload_n 0, 1) := by decide +kernel
theorem dX5_chair_1 : decode cX5_chair 1 = .ok (.iload_n 1, 1) := by decide +kernel
theorem dX5_chair_2 : decode cX5_chair 2 = .ok (.iload_n 2, 1) := by decide +kernel
theorem dX5_chair_3 : decode cX5_chair 3 = .ok (.invokevirtual 172, 3) := by decide +kernel
theorem dX5_chair_6 : decode cX5_chair 6 = .ok (.ifCond .ne 5, 3) := by decide +kernel
theorem dX5_chair_9 : decode cX5_chair 9 = .ok (.iconst (-1), 1) := by decide +kernel
theorem dX5_chair_10 : decode cX5_chair 10 = .ok (.ireturn, 1) := by decide +kernel
theorem dX5_chair_11 : decode cX5_chair 11 = .ok (.iconst 0, 1) := by decide +kernel
theorem dX5_chair_12 : decode cX5_chair 12 = .ok (.istore_n 3, 1) := by decide +kernel
theorem dX5_chair_13 : decode cX5_chair 13 = .ok (.iload_n 3, 1) := by decide +kernel
theorem dX5_chair_14 : decode cX5_chair 14 = .ok (.bipush 9, 2) := by decide +kernel
theorem dX5_chair_16 : decode cX5_chair 16 = .ok (.if_icmp .gt 28, 3) := by decide +kernel
theorem dX5_chair_19 : decode cX5_chair 19 = .ok (.aload_n 0, 1) := by decide +kernel
theorem dX5_chair_20 : decode cX5_chair 20 = .ok (.aload_n 0, 1) := by decide +kernel
theorem dX5_chair_21 : decode cX5_chair 21 = .ok (.getfield 29, 3) := by decide +kernel
theorem dX5_chair_24 : decode cX5_chair 24 = .ok (.getfield 76, 3) := by decide +kernel
theorem dX5_chair_27 : decode cX5_chair 27 = .ok (.iload_n 1, 1) := by decide +kernel
theorem dX5_chair_28 : decode cX5_chair 28 = .ok (.iload_n 3, 1) := by decide +kernel
theorem dX5_chair_29 : decode cX5_chair 29 = .ok (.invokevirtual 191, 3) := by decide +kernel
theorem dX5_chair_32 : decode cX5_chair 32 = .ok (.iload_n 2, 1) := by decide +kernel
theorem dX5_chair_33 : decode cX5_chair 33 = .ok (.if_icmp .ne 5, 3) := by decide +kernel
theorem dX5_chair_36 : decode cX5_chair 36 = .ok (.iload_n 3, 1) := by decide +kernel
theorem dX5_chair_37 : decode cX5_chair 37 = .ok (.ireturn, 1) := by decide +kernel
theorem dX5_chair_38 : decode cX5_chair 38 = .ok (.iinc 3 1, 3) := by decide +kernel
theorem dX5_chair_41 : decode cX5_chair 41 = .ok (.goto (-28), 3) := by decide +kernel
theorem dX5_chair_44 : decode cX5_chair 44 = .ok (.bipush (-9), 2) := by decide +kernel
theorem dX5_chair_46 : decode cX5_chair 46 = .ok (.ireturn, 1) := by decide +kernel
set_option maxRecDepth 20000 in
theorem ggX5_saw_X5_isPairAboard : GoodIn wsX5_saw wsX5_isPairAboard := goodIn_r _ [8, 9, 10, 11, 12, 13, 7, 14, 15, 16, 17, 18, 19, 20, 21, 22, 23, 24, 25, 26, 27, 28, 29, 30, 31, 32, 33, 34, 35, 36, 37, 38, 39, 40, 41, 42, 43, 44, 45, 46, 47, 48, 49, 50, 51, 52] (by decide +kernel) (by decide +kernel)
set_option maxRecDepth 20000 in
theorem gX5_saw_X5_isPairAboard : GoodIn wsX5_saw (wsV RX5 172 RX5 yX5_isPairAboard wsX5_isPairAboard) := goodIn_app (goodIn_of _ (by decide +kernel)) ggX5_saw_X5_isPairAboard
theorem dX5_saw_0 : decode cX5_saw 0 = .ok (.aload_n 0, 1) := by decide +kernel
theorem dX5_saw_1 : decode cX5_saw 1 = .ok (.iload_n 1, 1) := by decide +kernel
theorem dX5_saw_2 : decode cX5_saw 2 = .ok (.iload_n 2, 1) := by decide +kernel
theorem dX5_saw_3 : decode cX5_saw 3 = .ok (.invokevirtual 172, 3) := by decide +kernel
theorem dX5_saw_6 : decode cX5_saw 6 = .ok (.ifCond .ne 5, 3) := by decide +kernel
theorem dX5_saw_9 : decode cX5_saw 9 = .ok (.iconst (-1), 1) := by decide +kernel
theorem dX5_saw_10 : decode cX5_saw 10 = .ok (.ireturn, 1) := by decide +kernel
theorem dX5_saw_11 : decode cX5_saw 11 = .ok (.aload_n 0, 1) := by decide +kernel
theorem dX5_saw_12 : decode cX5_saw 12 = .ok (.getfield 194, 3) := by decide +kernel
theorem dX5_saw_15 : decode cX5_saw 15 = .ok (.bipush 6, 2) := by decide +kernel
theorem dX5_saw_17 : decode cX5_saw 17 = .ok (.if_icmp .lt 6, 3) := by decide +kernel
theorem dX5_saw_20 : decode cX5_saw 20 = .ok (.bipush (-3), 2) := by decide +kernel
theorem dX5_saw_22 : decode cX5_saw 22 = .ok (.ireturn, 1) := by decide +kernel
theorem dX5_saw_23 : decode cX5_saw 23 = .ok (.aload_n 0, 1) := by decide +kernel
theorem dX5_saw_24 : decode cX5_saw 24 = .ok (.getfield 44, 3) := by decide +kernel
theorem dX5_saw_27 : decode cX5_saw 27 = .ok (.aload_n 0, 1) := by decide +kernel
theorem dX5_saw_28 : decode cX5_saw 28 = .ok (.getfield 194, 3) := by decide +kernel
theorem dX5_saw_31 : decode cX5_saw 31 = .ok (.iload_n 1, 1) := by decide +kernel
theorem dX5_saw_32 : decode cX5_saw 32 = .ok (.iastore, 1) := by decide +kernel
theorem dX5_saw_33 : decode cX5_saw 33 = .ok (.aload_n 0, 1) := by decide +kernel
theorem dX5_saw_34 : decode cX5_saw 34 = .ok (.getfield 48, 3) := by decide +kernel
theorem dX5_saw_37 : decode cX5_saw 37 = .ok (.aload_n 0, 1) := by decide +kernel
theorem dX5_saw_38 : decode cX5_saw 38 = .ok (.getfield 194, 3) := by decide +kernel
theorem dX5_saw_41 : decode cX5_saw 41 = .ok (.iload_n 2, 1) := by decide +kernel
theorem dX5_saw_42 : decode cX5_saw 42 = .ok (.iastore, 1) := by decide +kernel
theorem dX5_saw_43 : decode cX5_saw 43 = .ok (.aload_n 0, 1) := by decide +kernel
theorem dX5_saw_44 : decode cX5_saw 44 = .ok (.dup, 1) := by decide +kernel
theorem dX5_saw_45 : decode cX5_saw 45 = .ok (.getfield 194, 3) := by decide +kernel
theorem dX5_saw_48 : decode cX5_saw 48 = .ok (.iconst 1, 1) := by decide +kernel
theorem dX5_saw_49 : decode cX5_saw 49 = .ok (.iadd, 1) := by decide +kernel
theorem dX5_saw_50 : decode cX5_saw 50 = .ok (.putfield 194, 3) := by decide +kernel
theorem dX5_saw_53 : decode cX5_saw 53 = .ok (.aload_n 0, 1) := by decide +kernel
theorem dX5_saw_54 : decode cX5_saw 54 = .ok (.getfield 194, 3) := by decide +kernel
theorem dX5_saw_57 : decode cX5_saw 57 = .ok (.ireturn, 1) := by decide +kernel
theorem dX5_forget_0 : decode cX5_forget 0 = .ok (.aload_n 0, 1) := by decide +kernel
theorem dX5_forget_1 : decode cX5_forget 1 = .ok (.getfield 194, 3) := by decide +kernel
theorem dX5_forget_4 : decode cX5_forget 4 = .ok (.istore_n 1, 1) := by decide +kernel
theorem dX5_forget_5 : decode cX5_forget 5 = .ok (.aload_n 0, 1) := by decide +kernel
theorem dX5_forget_6 : decode cX5_forget 6 = .ok (.iconst 0, 1) := by decide +kernel
theorem dX5_forget_7 : decode cX5_forget 7 = .ok (.putfield 194, 3) := by decide +kernel
theorem dX5_forget_10 : decode cX5_forget 10 = .ok (.iload_n 1, 1) := by decide +kernel
theorem dX5_forget_11 : decode cX5_forget 11 = .ok (.ireturn, 1) := by decide +kernel
set_option maxRecDepth 20000 in
theorem ggX5_laws_X5_isRider : GoodIn wsX5_laws wsX5_isRider := goodIn_r _ [5, 6, 7, 49, 50, 51, 52, 53, 54, 55, 56, 57, 58, 59, 60, 61, 62, 63, 64, 65] (by decide +kernel) (by decide +kernel)
set_option maxRecDepth 20000 in
theorem gX5_laws_X5_isRider : GoodIn wsX5_laws (wsV RX5 73 RX5 yX5_isRider wsX5_isRider) := goodIn_app (goodIn_of _ (by decide +kernel)) ggX5_laws_X5_isRider
set_option maxRecDepth 20000 in
theorem ggX5_laws_X5_fittingLaws : GoodIn wsX5_laws wsX5_fittingLaws := goodIn_r _ [11, 12, 13, 14, 4, 15, 16, 17, 18, 19, 20, 21, 22, 23, 24, 25, 26, 27, 28, 29, 30, 31, 32, 33, 34, 35, 6, 7, 36, 37, 38, 39, 40, 41, 42, 43, 44, 45, 46, 47, 48, 49, 50, 51, 52, 53, 54, 55, 56, 57, 58, 59, 66, 67, 68, 69, 70, 71, 72, 73, 74, 60, 61, 62, 63, 64, 65] (by decide +kernel) (by decide +kernel)
set_option maxRecDepth 20000 in
theorem gX5_laws_X5_fittingLaws : GoodIn wsX5_laws (wsV RX5 197 RX5 yX5_fittingLaws wsX5_fittingLaws) := goodIn_app (goodIn_of _ (by decide +kernel)) ggX5_laws_X5_fittingLaws
theorem dX5_laws_0 : decode cX5_laws 0 = .ok (.aload_n 0, 1) := by decide +kernel
theorem dX5_laws_1 : decode cX5_laws 1 = .ok (.iload_n 1, 1) := by decide +kernel
theorem dX5_laws_2 : decode cX5_laws 2 = .ok (.invokevirtual 73, 3) := by decide +kernel
theorem dX5_laws_5 : decode cX5_laws 5 = .ok (.ifCond .eq 11, 3) := by decide +kernel
theorem dX5_laws_8 : decode cX5_laws 8 = .ok (.aload_n 0, 1) := by decide +kernel
theorem dX5_laws_9 : decode cX5_laws 9 = .ok (.iload_n 1, 1) := by decide +kernel
theorem dX5_laws_10 : decode cX5_laws 10 = .ok (.invokevirtual 197, 3) := by decide +kernel
theorem dX5_laws_13 : decode cX5_laws 13 = .ok (.goto 4, 3) := by decide +kernel
theorem dX5_laws_16 : decode cX5_laws 16 = .ok (.iconst (-1), 1) := by decide +kernel
theorem dX5_laws_17 : decode cX5_laws 17 = .ok (.ireturn, 1) := by decide +kernel
set_option maxRecDepth 20000 in
theorem ggX5_likely_X1_isAboard : GoodIn wsX5_likely wsX1_isAboard := goodIn_r _ [9, 10, 71, 72, 73, 74, 75, 76, 77] (by decide +kernel) (by decide +kernel)
set_option maxRecDepth 20000 in
theorem gX5_likely_X1_isAboard : GoodIn wsX5_likely (wsV RX5 88 RX1 yX1_isAboard wsX1_isAboard) := goodIn_app (goodIn_of _ (by decide +kernel)) ggX5_likely_X1_isAboard
set_option maxRecDepth 20000 in
theorem ggX5_likely_X5_fittingLaws : GoodIn wsX5_likely wsX5_fittingLaws := goodIn_r _ [15, 16, 17, 18, 14, 19, 3, 4, 20, 21, 22, 23, 24, 25, 26, 27, 5, 6, 7, 8, 9, 10, 28, 29, 30, 31, 1, 2, 32, 33, 34, 35, 36, 37, 38, 39, 40, 41, 42, 43, 44, 52, 53, 54, 55, 56, 57, 58, 59, 60, 61, 62, 69, 70, 71, 72, 73, 74, 75, 76, 77, 63, 64, 65, 66, 67, 68] (by decide +kernel) (by decide +kernel)
set_option maxRecDepth 20000 in
theorem gX5_likely_X5_fittingLaws : GoodIn wsX5_likely (wsV RX5 197 RX5 yX5_fittingLaws wsX5_fittingLaws) := goodIn_app (goodIn_of _ (by decide +kernel)) ggX5_likely_X5_fittingLaws
set_option maxRecDepth 20000 in
theorem ggX5_likely_J6_bitCount_0f7a4 : GoodIn wsX5_likely wsJ6_bitCount_0f7a4 := goodIn_r _ [48, 49, 50, 51] (by decide +kernel) (by decide +kernel)
set_option maxRecDepth 20000 in
theorem gX5_likely_J6_bitCount_0f7a4 : GoodIn wsX5_likely (va_wsS RX5 143 yJ6_bitCount_0f7a4 wsJ6_bitCount_0f7a4) := goodIn_app (goodIn_of _ (by decide +kernel)) ggX5_likely_J6_bitCount_0f7a4
theorem dX5_likely_0 : decode cX5_likely 0 = .ok (.iconst 1, 1) := by decide +kernel
theorem dX5_likely_1 : decode cX5_likely 1 = .ok (.istore_n 1, 1) := by decide +kernel
theorem dX5_likely_2 : decode cX5_likely 2 = .ok (.iconst 0, 1) := by decide +kernel
theorem dX5_likely_3 : decode cX5_likely 3 = .ok (.istore_n 2, 1) := by decide +kernel
theorem dX5_likely_4 : decode cX5_likely 4 = .ok (.iload_n 2, 1) := by decide +kernel
theorem dX5_likely_5 : decode cX5_likely 5 = .ok (.aload_n 0, 1) := by decide +kernel
theorem dX5_likely_6 : decode cX5_likely 6 = .ok (.getfield 19, 3) := by decide +kernel
theorem dX5_likely_9 : decode cX5_likely 9 = .ok (.getfield 200, 3) := by decide +kernel
theorem dX5_likely_12 : decode cX5_likely 12 = .ok (.if_icmp .ge 34, 3) := by decide +kernel
theorem dX5_likely_15 : decode cX5_likely 15 = .ok (.aload_n 0, 1) := by decide +kernel
theorem dX5_likely_16 : decode cX5_likely 16 = .ok (.getfield 29, 3) := by decide +kernel
theorem dX5_likely_19 : decode cX5_likely 19 = .ok (.getfield 76, 3) := by decide +kernel
theorem dX5_likely_22 : decode cX5_likely 22 = .ok (.iload_n 2, 1) := by decide +kernel
theorem dX5_likely_23 : decode cX5_likely 23 = .ok (.invokevirtual 88, 3) := by decide +kernel
theorem dX5_likely_26 : decode cX5_likely 26 = .ok (.ifCond .eq 14, 3) := by decide +kernel
theorem dX5_likely_29 : decode cX5_likely 29 = .ok (.iload_n 1, 1) := by decide +kernel
theorem dX5_likely_30 : decode cX5_likely 30 = .ok (.aload_n 0, 1) := by decide +kernel
theorem dX5_likely_31 : decode cX5_likely 31 = .ok (.iload_n 2, 1) := by decide +kernel
theorem dX5_likely_32 : decode cX5_likely 32 = .ok (.invokevirtual 197, 3) := by decide +kernel
theorem dX5_likely_35 : decode cX5_likely 35 = .ok (.invokestatic 143, 3) := by decide +kernel
theorem dX5_likely_38 : decode cX5_likely 38 = .ok (.imul, 1) := by decide +kernel
theorem dX5_likely_39 : decode cX5_likely 39 = .ok (.istore_n 1, 1) := by decide +kernel
theorem dX5_likely_40 : decode cX5_likely 40 = .ok (.iinc 2 1, 3) := by decide +kernel
theorem dX5_likely_43 : decode cX5_likely 43 = .ok (.goto (-39), 3) := by decide +kernel
theorem dX5_likely_46 : decode cX5_likely 46 = .ok (.iload_n 1, 1) := by decide +kernel
theorem dX5_likely_47 : decode cX5_likely 47 = .ok (.ireturn, 1) := by decide +kernel
set_option maxRecDepth 20000 in
theorem ggX5_mark_X5_isRider : GoodIn wsX5_mark wsX5_isRider := goodIn_r _ [6, 7, 8, 54, 55, 56, 57, 58, 59, 60, 61, 62, 63, 64, 65, 66, 67, 68, 69, 70] (by decide +kernel) (by decide +kernel)
set_option maxRecDepth 20000 in
theorem gX5_mark_X5_isRider : GoodIn wsX5_mark (wsV RX5 73 RX5 yX5_isRider wsX5_isRider) := goodIn_app (goodIn_of _ (by decide +kernel)) ggX5_mark_X5_isRider
set_option maxRecDepth 20000 in
theorem ggX5_mark_X5_riderMark : GoodIn wsX5_mark wsX5_riderMark := goodIn_r _ [12, 13, 14, 15, 16, 54, 55, 56, 57, 58, 59, 60, 61, 62, 63, 64, 71, 72, 73, 74, 75, 76, 77, 78, 79] (by decide +kernel) (by decide +kernel)
set_option maxRecDepth 20000 in
theorem gX5_mark_X5_riderMark : GoodIn wsX5_mark (wsV RX5 204 RX5 yX5_riderMark wsX5_riderMark) := goodIn_app (goodIn_of _ (by decide +kernel)) ggX5_mark_X5_riderMark
set_option maxRecDepth 20000 in
theorem ggX5_mark_X5_nunMark : GoodIn wsX5_mark wsX5_nunMark := goodIn_r _ [20, 13, 21, 7, 22, 9, 10, 11, 5, 12, 14, 15, 16, 54, 55, 56, 57, 58, 59, 60, 61, 62, 63, 64, 65, 66, 67, 68, 69, 70, 71, 72, 73, 74, 75, 76, 77, 78, 79] (by decide +kernel) (by decide +kernel)
set_option maxRecDepth 20000 in
theorem gX5_mark_X5_nunMark : GoodIn wsX5_mark (wsV RX5 207 RX5 yX5_nunMark wsX5_nunMark) := goodIn_app (goodIn_of _ (by decide +kernel)) ggX5_mark_X5_nunMark
set_option maxRecDepth 20000 in
theorem ggX5_mark_X5_boyMark : GoodIn wsX5_mark wsX5_boyMark := goodIn_r _ [26, 13, 27, 9, 10, 11, 5, 12, 14, 15, 16, 28, 29, 30, 31, 7, 8, 32, 33, 34, 35, 36, 37, 54, 55, 56, 57, 58, 59, 60, 61, 62, 63, 64, 71, 72, 73, 74, 75, 76, 77, 78, 79, 65, 66, 67, 68, 69, 70] (by decide +kernel) (by decide +kernel)
set_option maxRecDepth 20000 in
theorem gX5_mark_X5_boyMark : GoodIn wsX5_mark (wsV RX5 210 RX5 yX5_boyMark wsX5_boyMark) := goodIn_app (goodIn_of _ (by decide +kernel)) ggX5_mark_X5_boyMark
set_option maxRecDepth 20000 in
theorem ggX5_mark_X5_widowerMark : GoodIn wsX5_mark wsX5_widowerMark := goodIn_r _ [41, 13, 42, 17, 18, 19, 5, 20, 21, 7, 22, 9, 10, 11, 12, 14, 15, 16, 54, 55, 56, 57, 58, 59, 60, 61, 62, 63, 64, 65, 66, 67, 68, 69, 70, 71, 72, 73, 74, 75, 76, 77, 78, 79] (by decide +kernel) (by decide +kernel)
set_option maxRecDepth 20000 in
theorem gX5_mark_X5_widowerMark : GoodIn wsX5_mark (wsV RX5 213 RX5 yX5_widowerMark wsX5_widowerMark) := goodIn_app (goodIn_of _ (by decide +kernel)) ggX5_mark_X5_widowerMark
set_option maxRecDepth 20000 in
theorem ggX5_mark_X5_girlMark : GoodIn wsX5_mark wsX5_girlMark := goodIn_r _ [46, 13, 47, 23, 24, 25, 5, 26, 27, 9, 10, 11, 12, 14, 15, 16, 28, 29, 30, 31, 7, 8, 32, 33, 34, 35, 36, 37, 54, 55, 56, 57, 58, 59, 60, 61, 62, 63, 64, 71, 72, 73, 74, 75, 76, 77, 78, 79, 65, 66, 67, 68, 69, 70] (by decide +kernel) (by decide +kernel)
set_option maxRecDepth 20000 in
theorem gX5_mark_X5_girlMark : GoodIn wsX5_mark (wsV RX5 216 RX5 yX5_girlMark wsX5_girlMark) := goodIn_app (goodIn_of _ (by decide +kernel)) ggX5_mark_X5_girlMark
set_option maxRecDepth 20000 in
theorem ggX5_mark_X5_driverMark : GoodIn wsX5_mark wsX5_driverMark := goodIn_r _ [51, 13, 52, 14, 15, 53, 9, 10, 11, 5, 12, 16, 54, 55, 56, 57, 58, 59, 60, 61, 62, 63, 64, 71, 72, 73, 74, 75, 76, 77, 78, 79] (by decide +kernel) (by decide +kernel)
set_option maxRecDepth 20000 in
theorem gX5_mark_X5_driverMark : GoodIn wsX5_mark (wsV RX5 219 RX5 yX5_driverMark wsX5_driverMark) := goodIn_app (goodIn_of _ (by decide +kernel)) ggX5_mark_X5_driverMark
theorem dX5_mark_0 : decode cX5_mark 0 = .ok (.aload_n 0, 1) := by decide +kernel
theorem dX5_mark_1 : decode cX5_mark 1 = .ok (.iload_n 2, 1) := by decide +kernel
theorem dX5_mark_2 : decode cX5_mark 2 = .ok (.invokevirtual 73, 3) := by decide +kernel
theorem dX5_mark_5 : decode cX5_mark 5 = .ok (.ifCond .ne 6, 3) := by decide +kernel
theorem dX5_mark_8 : decode cX5_mark 8 = .ok (.ldc 203, 2) := by decide +kernel
theorem dX5_mark_10 : decode cX5_mark 10 = .ok (.ireturn, 1) := by decide +kernel
theorem dX5_mark_11 : decode cX5_mark 11 = .ok (.iload_n 1, 1) := by decide +kernel
theorem dX5_mark_12 : decode cX5_mark 12 = .ok (.tableswitch 76 0 5 #[40, 46, 52, 58, 64, 70], 40) := by decide +kernel
theorem dX5_mark_52 : decode cX5_mark 52 = .ok (.aload_n 0, 1) := by decide +kernel
theorem dX5_mark_53 : decode cX5_mark 53 = .ok (.iload_n 2, 1) := by decide +kernel
theorem dX5_mark_54 : decode cX5_mark 54 = .ok (.invokevirtual 204, 3) := by decide +kernel
theorem dX5_mark_57 : decode cX5_mark 57 = .ok (.ireturn, 1) := by decide +kernel
theorem dX5_mark_58 : decode cX5_mark 58 = .ok (.aload_n 0, 1) := by decide +kernel
theorem dX5_mark_59 : decode cX5_mark 59 = .ok (.iload_n 2, 1) := by decide +kernel
theorem dX5_mark_60 : decode cX5_mark 60 = .ok (.invokevirtual 207, 3) := by decide +kernel
theorem dX5_mark_63 : decode cX5_mark 63 = .ok (.ireturn, 1) := by decide +kernel
theorem dX5_mark_64 : decode cX5_mark 64 = .ok (.aload_n 0, 1) := by decide +kernel
theorem dX5_mark_65 : decode cX5_mark 65 = .ok (.iload_n 2, 1) := by decide +kernel
theorem dX5_mark_66 : decode cX5_mark 66 = .ok (.invokevirtual 210, 3) := by decide +kernel
theorem dX5_mark_69 : decode cX5_mark 69 = .ok (.ireturn, 1) := by decide +kernel
theorem dX5_mark_70 : decode cX5_mark 70 = .ok (.aload_n 0, 1) := by decide +kernel
theorem dX5_mark_71 : decode cX5_mark 71 = .ok (.iload_n 2, 1) := by decide +kernel
theorem dX5_mark_72 : decode cX5_mark 72 = .ok (.invokevirtual 213, 3) := by decide +kernel
theorem dX5_mark_75 : decode cX5_mark 75 = .ok (.ireturn, 1) := by decide +kernel
theorem dX5_mark_76 : decode cX5_mark 76 = .ok (.aload_n 0, 1) := by decide +kernel
theorem dX5_mark_77 : decode cX5_mark 77 = .ok (.iload_n 2, 1) := by decide +kernel
theorem dX5_mark_78 : decode cX5_mark 78 = .ok (.invokevirtual 216, 3) := by decide +kernel
theorem dX5_mark_81 : decode cX5_mark 81 = .ok (.ireturn, 1) := by decide +kernel
theorem dX5_mark_82 : decode cX5_mark 82 = .ok (.aload_n 0, 1) := by decide +kernel
theorem dX5_mark_83 : decode cX5_mark 83 = .ok (.iload_n 2, 1) := by decide +kernel
theorem dX5_mark_84 : decode cX5_mark 84 = .ok (.invokevirtual 219, 3) := by decide +kernel
theorem dX5_mark_87 : decode cX5_mark 87 = .ok (.ireturn, 1) := by decide +kernel
theorem dX5_mark_88 : decode cX5_mark 88 = .ok (.ldc 203, 2) := by decide +kernel
theorem dX5_mark_90 : decode cX5_mark 90 = .ok (.ireturn, 1) := by decide +kernel
set_option maxRecDepth 20000 in
theorem ggX5_keep_X5_isImage : GoodIn wsX5_keep wsX5_isImage := goodIn_r _ [9] (by decide +kernel) (by decide +kernel)
set_option maxRecDepth 20000 in
theorem gX5_keep_X5_isImage : GoodIn wsX5_keep (va_wsS RX5 222 yX5_isImage wsX5_isImage) := goodIn_app (goodIn_of _ (by decide +kernel)) ggX5_keep_X5_isImage
set_option maxRecDepth 20000 in
theorem ggX5_keep_X0_copyFrom : GoodIn wsX5_keep wsX0_copyFrom := goodIn_r _ [14, 15, 16, 17, 18, 19, 20, 21, 22, 23, 24, 25, 26, 27, 28, 29, 30, 31, 32, 33, 34, 35, 36, 37, 38, 39, 40, 41, 42, 43, 44, 45, 57, 58, 59, 60, 61, 62, 63, 64, 65, 66, 67, 68] (by decide +kernel) (by decide +kernel)
set_option maxRecDepth 20000 in
theorem gX5_keep_X0_copyFrom : GoodIn wsX5_keep (wsV RX5 225 RX0 yX0_copyFrom wsX0_copyFrom) := goodIn_app (goodIn_of _ (by decide +kernel)) ggX5_keep_X0_copyFrom
theorem dX5_keep_0 : decode cX5_keep 0 = .ok (.iload_n 1, 1) := by decide +kernel
theorem dX5_keep_1 : decode cX5_keep 1 = .ok (.invokestatic 222, 3) := by decide +kernel
theorem dX5_keep_4 : decode cX5_keep 4 = .ok (.ifCond .ne 5, 3) := by decide +kernel
theorem dX5_keep_7 : decode cX5_keep 7 = .ok (.iconst (-1), 1) := by decide +kernel
theorem dX5_keep_8 : decode cX5_keep 8 = .ok (.ireturn, 1) := by decide +kernel
theorem dX5_keep_9 : decode cX5_keep 9 = .ok (.aload_n 0, 1) := by decide +kernel
theorem dX5_keep_10 : decode cX5_keep 10 = .ok (.getfield 33, 3) := by decide +kernel
theorem dX5_keep_13 : decode cX5_keep 13 = .ok (.iload_n 1, 1) := by decide +kernel
theorem dX5_keep_14 : decode cX5_keep 14 = .ok (.aaload, 1) := by decide +kernel
theorem dX5_keep_15 : decode cX5_keep 15 = .ok (.aload_n 0, 1) := by decide +kernel
theorem dX5_keep_16 : decode cX5_keep 16 = .ok (.getfield 29, 3) := by decide +kernel
theorem dX5_keep_19 : decode cX5_keep 19 = .ok (.invokevirtual 225, 3) := by decide +kernel
theorem dX5_keep_22 : decode cX5_keep 22 = .ok (.aload_n 0, 1) := by decide +kernel
theorem dX5_keep_23 : decode cX5_keep 23 = .ok (.dup, 1) := by decide +kernel
theorem dX5_keep_24 : decode cX5_keep 24 = .ok (.getfield 228, 3) := by decide +kernel
theorem dX5_keep_27 : decode cX5_keep 27 = .ok (.iconst 1, 1) := by decide +kernel
theorem dX5_keep_28 : decode cX5_keep 28 = .ok (.iload_n 1, 1) := by decide +kernel
theorem dX5_keep_29 : decode cX5_keep 29 = .ok (.ishl, 1) := by decide +kernel
theorem dX5_keep_30 : decode cX5_keep 30 = .ok (.ior, 1) := by decide +kernel
theorem dX5_keep_31 : decode cX5_keep 31 = .ok (.putfield 228, 3) := by decide +kernel
theorem dX5_keep_34 : decode cX5_keep 34 = .ok (.aload_n 0, 1) := by decide +kernel
theorem dX5_keep_35 : decode cX5_keep 35 = .ok (.getfield 29, 3) := by decide +kernel
theorem dX5_keep_38 : decode cX5_keep 38 = .ok (.getfield 76, 3) := by decide +kernel
theorem dX5_keep_41 : decode cX5_keep 41 = .ok (.getfield 116, 3) := by decide +kernel
theorem dX5_keep_44 : decode cX5_keep 44 = .ok (.ireturn, 1) := by decide +kernel
set_option maxRecDepth 20000 in
theorem ggX5_back_X5_isImage : GoodIn wsX5_back wsX5_isImage := goodIn_r _ [9] (by decide +kernel) (by decide +kernel)
set_option maxRecDepth 20000 in
theorem gX5_back_X5_isImage : GoodIn wsX5_back (va_wsS RX5 222 yX5_isImage wsX5_isImage) := goodIn_app (goodIn_of _ (by decide +kernel)) ggX5_back_X5_isImage
set_option maxRecDepth 20000 in
theorem ggX5_back_X0_copyFrom : GoodIn wsX5_back wsX0_copyFrom := goodIn_r _ [14, 15, 16, 17, 18, 19, 20, 21, 22, 23, 24, 25, 26, 27, 28, 29, 30, 31, 32, 33, 34, 35, 36, 37, 38, 39, 40, 41, 42, 43, 44, 45, 57, 58, 59, 60, 61, 62, 63, 64, 65, 66, 67, 68] (by decide +kernel) (by decide +kernel)
set_option maxRecDepth 20000 in
theorem gX5_back_X0_copyFrom : GoodIn wsX5_back (wsV RX5 225 RX0 yX0_copyFrom wsX0_copyFrom) := goodIn_app (goodIn_of _ (by decide +kernel)) ggX5_back_X0_copyFrom
theorem dX5_back_0 : decode cX5_back 0 = .ok (.iload_n 1, 1) := by decide +kernel
theorem dX5_back_1 : decode cX5_back 1 = .ok (.invokestatic 222, 3) := by decide +kernel
theorem dX5_back_4 : decode cX5_back 4 = .ok (.ifCond .ne 5, 3) := by decide +kernel
theorem dX5_back_7 : decode cX5_back 7 = .ok (.iconst (-1), 1) := by decide +kernel
theorem dX5_back_8 : decode cX5_back 8 = .ok (.ireturn, 1) := by decide +kernel
theorem dX5_back_9 : decode cX5_back 9 = .ok (.aload_n 0, 1) := by decide +kernel
theorem dX5_back_10 : decode cX5_back 10 = .ok (.getfield 228, 3) := by decide +kernel
theorem dX5_back_13 : decode cX5_back 13 = .ok (.iload_n 1, 1) := by decide +kernel
theorem dX5_back_14 : decode cX5_back 14 = .ok (.ishr, 1) := by decide +kernel
theorem dX5_back_15 : decode cX5_back 15 = .ok (.iconst 1, 1) := by decide +kernel
theorem dX5_back_16 : decode cX5_back 16 = .ok (.iand, 1) := by decide +kernel
theorem dX5_back_17 : decode cX5_back 17 = .ok (.ifCond .ne 6, 3) := by decide +kernel
theorem dX5_back_20 : decode cX5_back 20 = .ok (.bipush (-2), 2) := by decide +kernel
theorem dX5_back_22 : decode cX5_back 22 = .ok (.ireturn, 1) := by decide +kernel
theorem dX5_back_23 : decode cX5_back 23 = .ok (.aload_n 0, 1) := by decide +kernel
theorem dX5_back_24 : decode cX5_back 24 = .ok (.getfield 29, 3) := by decide +kernel
theorem dX5_back_27 : decode cX5_back 27 = .ok (.aload_n 0, 1) := by decide +kernel
theorem dX5_back_28 : decode cX5_back 28 = .ok (.getfield 33, 3) := by decide +kernel
theorem dX5_back_31 : decode cX5_back 31 = .ok (.iload_n 1, 1) := by decide +kernel
theorem dX5_back_32 : decode cX5_back 32 = .ok (.aaload, 1) := by decide +kernel
theorem dX5_back_33 : decode cX5_back 33 = .ok (.invokevirtual 225, 3) := by decide +kernel
theorem dX5_back_36 : decode cX5_back 36 = .ok (.aload_n 0, 1) := by decide +kernel
theorem dX5_back_37 : decode cX5_back 37 = .ok (.getfield 29, 3) := by decide +kernel
theorem dX5_back_40 : decode cX5_back 40 = .ok (.getfield 76, 3) := by decide +kernel
theorem dX5_back_43 : decode cX5_back 43 = .ok (.getfield 116, 3) := by decide +kernel
theorem dX5_back_46 : decode cX5_back 46 = .ok (.ireturn, 1) := by decide +kernel
theorem dX5_count_0 : decode cX5_count 0 = .ok (.iload_n 1, 1) := by decide +kernel
theorem dX5_count_1 : decode cX5_count 1 = .ok (.tableswitch 75 0 4 #[35, 43, 51, 56, 67], 35) := by decide +kernel
theorem dX5_count_36 : decode cX5_count 36 = .ok (.aload_n 0, 1) := by decide +kernel
theorem dX5_count_37 : decode cX5_count 37 = .ok (.getfield 19, 3) := by decide +kernel
theorem dX5_count_40 : decode cX5_count 40 = .ok (.getfield 200, 3) := by decide +kernel
theorem dX5_count_43 : decode cX5_count 43 = .ok (.ireturn, 1) := by decide +kernel
theorem dX5_count_44 : decode cX5_count 44 = .ok (.aload_n 0, 1) := by decide +kernel
theorem dX5_count_45 : decode cX5_count 45 = .ok (.getfield 19, 3) := by decide +kernel
theorem dX5_count_48 : decode cX5_count 48 = .ok (.getfield 157, 3) := by decide +kernel
theorem dX5_count_51 : decode cX5_count 51 = .ok (.ireturn, 1) := by decide +kernel
theorem dX5_count_52 : decode cX5_count 52 = .ok (.aload_n 0, 1) := by decide +kernel
theorem dX5_count_53 : decode cX5_count 53 = .ok (.getfield 194, 3) := by decide +kernel
theorem dX5_count_56 : decode cX5_count 56 = .ok (.ireturn, 1) := by decide +kernel
theorem dX5_count_57 : decode cX5_count 57 = .ok (.aload_n 0, 1) := by decide +kernel
theorem dX5_count_58 : decode cX5_count 58 = .ok (.getfield 29, 3) := by decide +kernel
theorem dX5_count_61 : decode cX5_count 61 = .ok (.getfield 119, 3) := by decide +kernel
theorem dX5_count_64 : decode cX5_count 64 = .ok (.getfield 148, 3) := by decide +kernel
theorem dX5_count_67 : decode cX5_count 67 = .ok (.ireturn, 1) := by decide +kernel
theorem dX5_count_68 : decode cX5_count 68 = .ok (.aload_n 0, 1) := by decide +kernel
theorem dX5_count_69 : decode cX5_count 69 = .ok (.getfield 12, 3) := by decide +kernel
theorem dX5_count_72 : decode cX5_count 72 = .ok (.getfield 58, 3) := by decide +kernel
theorem dX5_count_75 : decode cX5_count 75 = .ok (.ireturn, 1) := by decide +kernel
theorem dX5_count_76 : decode cX5_count 76 = .ok (.iconst (-1), 1) := by decide +kernel
theorem dX5_count_77 : decode cX5_count 77 = .ok (.ireturn, 1) := by decide +kernel
theorem dX5_trace_0 : decode cX5_trace 0 = .ok (.aload_n 0, 1) := by decide +kernel
theorem dX5_trace_1 : decode cX5_trace 1 = .ok (.getfield 231, 3) := by decide +kernel
theorem dX5_trace_4 : decode cX5_trace 4 = .ok (.lreturn, 1) := by decide +kernel
theorem dX5_isRider_0 : decode cX5_isRider 0 = .ok (.iload_n 1, 1) := by decide +kernel
theorem dX5_isRider_1 : decode cX5_isRider 1 = .ok (.ifCond .lt 18, 3) := by decide +kernel
theorem dX5_isRider_4 : decode cX5_isRider 4 = .ok (.iload_n 1, 1) := by decide +kernel
theorem dX5_isRider_5 : decode cX5_isRider 5 = .ok (.aload_n 0, 1) := by decide +kernel
theorem dX5_isRider_6 : decode cX5_isRider 6 = .ok (.getfield 19, 3) := by decide +kernel
theorem dX5_isRider_9 : decode cX5_isRider 9 = .ok (.getfield 200, 3) := by decide +kernel
theorem dX5_isRider_12 : decode cX5_isRider 12 = .ok (.if_icmp .ge 7, 3) := by decide +kernel
theorem dX5_isRider_15 : decode cX5_isRider 15 = .ok (.iconst 1, 1) := by decide +kernel
theorem dX5_isRider_16 : decode cX5_isRider 16 = .ok (.goto 4, 3) := by decide +kernel
theorem dX5_isRider_19 : decode cX5_isRider 19 = .ok (.iconst 0, 1) := by decide +kernel
theorem dX5_isRider_20 : decode cX5_isRider 20 = .ok (.ireturn, 1) := by decide +kernel
set_option maxRecDepth 20000 in
theorem ggX5_isPair_X5_isRider : GoodIn wsX5_isPair wsX5_isRider := goodIn_r _ [5, 6, 7, 8, 9, 10, 11, 12, 13, 14, 15, 16, 17, 18, 19, 20, 21, 22, 23, 24] (by decide +kernel) (by decide +kernel)
set_option maxRecDepth 20000 in
theorem gX5_isPair_X5_isRider : GoodIn wsX5_isPair (wsV RX5 73 RX5 yX5_isRider wsX5_isRider) := goodIn_app (goodIn_of _ (by decide +kernel)) ggX5_isPair_X5_isRider
theorem dX5_isPair_0 : decode cX5_isPair 0 = .ok (.aload_n 0, 1) := by decide +kernel
theorem dX5_isPair_1 : decode cX5_isPair 1 = .ok (.iload_n 1, 1) := by decide +kernel
theorem dX5_isPair_2 : decode cX5_isPair 2 = .ok (.invokevirtual 73, 3) := by decide +kernel
theorem dX5_isPair_5 : decode cX5_isPair 5 = .ok (.ifCond .eq 20, 3) := by decide +kernel
theorem dX5_isPair_8 : decode cX5_isPair 8 = .ok (.aload_n 0, 1) := by decide +kernel
theorem dX5_isPair_9 : decode cX5_isPair 9 = .ok (.iload_n 2, 1) := by decide +kernel
theorem dX5_isPair_10 : decode cX5_isPair 10 = .ok (.invokevirtual 73, 3) := by decide +kernel
theorem dX5_isPair_13 : decode cX5_isPair 13 = .ok (.ifCond .eq 12, 3) := by decide +kernel
theorem dX5_isPair_16 : decode cX5_isPair 16 = .ok (.iload_n 1, 1) := by decide +kernel
theorem dX5_isPair_17 : decode cX5_isPair 17 = .ok (.iload_n 2, 1) := by decide +kernel
theorem dX5_isPair_18 : decode cX5_isPair 18 = .ok (.if_icmp .eq 7, 3) := by decide +kernel
theorem dX5_isPair_21 : decode cX5_isPair 21 = .ok (.iconst 1, 1) := by decide +kernel
theorem dX5_isPair_22 : decode cX5_isPair 22 = .ok (.goto 4, 3) := by decide +kernel
theorem dX5_isPair_25 : decode cX5_isPair 25 = .ok (.iconst 0, 1) := by decide +kernel
theorem dX5_isPair_26 : decode cX5_isPair 26 = .ok (.ireturn, 1) := by decide +kernel
set_option maxRecDepth 20000 in
theorem ggX5_isPairAboard_X5_isPair : GoodIn wsX5_isPairAboard wsX5_isPair := goodIn_r _ [7, 8, 9, 10, 6, 11, 12, 13, 20, 21, 22, 23, 24, 25, 26, 27, 28, 29, 30, 33, 34, 35, 36, 37, 38] (by decide +kernel) (by decide +kernel)
set_option maxRecDepth 20000 in
theorem gX5_isPairAboard_X5_isPair : GoodIn wsX5_isPairAboard (wsV RX5 108 RX5 yX5_isPair wsX5_isPair) := goodIn_app (goodIn_of _ (by decide +kernel)) ggX5_isPairAboard_X5_isPair
set_option maxRecDepth 20000 in
theorem ggX5_isPairAboard_X1_isAboard : GoodIn wsX5_isPairAboard wsX1_isAboard := goodIn_r _ [18, 19, 39, 40, 41, 42, 43, 44, 45] (by decide +kernel) (by decide +kernel)
set_option maxRecDepth 20000 in
theorem gX5_isPairAboard_X1_isAboard : GoodIn wsX5_isPairAboard (wsV RX5 88 RX1 yX1_isAboard wsX1_isAboard) := goodIn_app (goodIn_of _ (by decide +kernel)) ggX5_isPairAboard_X1_isAboard
theorem dX5_isPairAboard_0 : decode cX5_isPairAboard 0 = .ok (.aload_n 0, 1) := by decide +kernel
end
section
theorem dX5_isPairAboard_1 : decode cX5_isPairAboard 1 = .ok (.iload_n 1, 1) := by decide +kernel
theorem dX5_isPairAboard_2 : decode cX5_isPairAboard 2 = .ok (.iload_n 2, 1) := by decide +kernel
theorem dX5_isPairAboard_3 : decode cX5_isPairAboard 3 = .ok (.invokevirtual 108, 3) := by decide +kernel
theorem dX5_isPairAboard_6 : decode cX5_isPairAboard 6 = .ok (.ifCond .eq 35, 3) := by decide +kernel
theorem dX5_isPairAboard_9 : decode cX5_isPairAboard 9 = .ok (.aload_n 0, 1) := by decide +kernel
theorem dX5_isPairAboard_10 : decode cX5_isPairAboard 10 = .ok (.getfield 29, 3) := by decide +kernel
theorem dX5_isPairAboard_13 : decode cX5_isPairAboard 13 = .ok (.getfield 76, 3) := by decide +kernel
theorem dX5_isPairAboard_16 : decode cX5_isPairAboard 16 = .ok (.iload_n 1, 1) := by decide +kernel
theorem dX5_isPairAboard_17 : decode cX5_isPairAboard 17 = .ok (.invokevirtual 88, 3) := by decide +kernel
theorem dX5_isPairAboard_20 : decode cX5_isPairAboard 20 = .ok (.ifCond .eq 21, 3) := by decide +kernel
theorem dX5_isPairAboard_23 : decode cX5_isPairAboard 23 = .ok (.aload_n 0, 1) := by decide +kernel
theorem dX5_isPairAboard_24 : decode cX5_isPairAboard 24 = .ok (.getfield 29, 3) := by decide +kernel
theorem dX5_isPairAboard_27 : decode cX5_isPairAboard 27 = .ok (.getfield 76, 3) := by decide +kernel
theorem dX5_isPairAboard_30 : decode cX5_isPairAboard 30 = .ok (.iload_n 2, 1) := by decide +kernel
theorem dX5_isPairAboard_31 : decode cX5_isPairAboard 31 = .ok (.invokevirtual 88, 3) := by decide +kernel
theorem dX5_isPairAboard_34 : decode cX5_isPairAboard 34 = .ok (.ifCond .eq 7, 3) := by decide +kernel
theorem dX5_isPairAboard_37 : decode cX5_isPairAboard 37 = .ok (.iconst 1, 1) := by decide +kernel
theorem dX5_isPairAboard_38 : decode cX5_isPairAboard 38 = .ok (.goto 4, 3) := by decide +kernel
theorem dX5_isPairAboard_41 : decode cX5_isPairAboard 41 = .ok (.iconst 0, 1) := by decide +kernel
theorem dX5_isPairAboard_42 : decode cX5_isPairAboard 42 = .ok (.ireturn, 1) := by decide +kernel
theorem dX5_isImage_0 : decode cX5_isImage 0 = .ok (.iload_n 0, 1) := by decide +kernel
theorem dX5_isImage_1 : decode cX5_isImage 1 = .ok (.ifCond .lt 12, 3) := by decide +kernel
theorem dX5_isImage_4 : decode cX5_isImage 4 = .ok (.iload_n 0, 1) := by decide +kernel
theorem dX5_isImage_5 : decode cX5_isImage 5 = .ok (.iconst 2, 1) := by decide +kernel
theorem dX5_isImage_6 : decode cX5_isImage 6 = .ok (.if_icmp .ge 7, 3) := by decide +kernel
theorem dX5_isImage_9 : decode cX5_isImage 9 = .ok (.iconst 1, 1) := by decide +kernel
theorem dX5_isImage_10 : decode cX5_isImage 10 = .ok (.goto 4, 3) := by decide +kernel
theorem dX5_isImage_13 : decode cX5_isImage 13 = .ok (.iconst 0, 1) := by decide +kernel
theorem dX5_isImage_14 : decode cX5_isImage 14 = .ok (.ireturn, 1) := by decide +kernel
set_option maxRecDepth 20000 in
theorem ggX5_startAnew_X1_begin : GoodIn wsX5_startAnew wsX1_begin := goodIn_r _ [12, 13, 14, 15, 16, 17, 18, 19, 20, 21, 22, 23, 24, 25, 42, 43, 44, 45, 46, 47, 48, 49, 50, 51, 52, 53, 54] (by decide +kernel) (by decide +kernel)
set_option maxRecDepth 20000 in
theorem gX5_startAnew_X1_begin : GoodIn wsX5_startAnew (wsV RX5 235 RX1 yX1_begin wsX1_begin) := goodIn_app (goodIn_of _ (by decide +kernel)) ggX5_startAnew_X1_begin
theorem dX5_startAnew_0 : decode cX5_startAnew 0 = .ok (.aload_n 0, 1) := by decide +kernel
theorem dX5_startAnew_1 : decode cX5_startAnew 1 = .ok (.getfield 29, 3) := by decide +kernel
theorem dX5_startAnew_4 : decode cX5_startAnew 4 = .ok (.getfield 76, 3) := by decide +kernel
theorem dX5_startAnew_7 : decode cX5_startAnew 7 = .ok (.aload_n 0, 1) := by decide +kernel
theorem dX5_startAnew_8 : decode cX5_startAnew 8 = .ok (.getfield 19, 3) := by decide +kernel
theorem dX5_startAnew_11 : decode cX5_startAnew 11 = .ok (.invokevirtual 235, 3) := by decide +kernel
theorem dX5_startAnew_14 : decode cX5_startAnew 14 = .ok (.aload_n 0, 1) := by decide +kernel
theorem dX5_startAnew_15 : decode cX5_startAnew 15 = .ok (.getfield 29, 3) := by decide +kernel
theorem dX5_startAnew_18 : decode cX5_startAnew 18 = .ok (.getfield 119, 3) := by decide +kernel
theorem dX5_startAnew_21 : decode cX5_startAnew 21 = .ok (.iconst 0, 1) := by decide +kernel
theorem dX5_startAnew_22 : decode cX5_startAnew 22 = .ok (.putfield 148, 3) := by decide +kernel
theorem dX5_startAnew_25 : decode cX5_startAnew 25 = .ok (.aload_n 0, 1) := by decide +kernel
theorem dX5_startAnew_26 : decode cX5_startAnew 26 = .ok (.iconst 0, 1) := by decide +kernel
theorem dX5_startAnew_27 : decode cX5_startAnew 27 = .ok (.putfield 194, 3) := by decide +kernel
theorem dX5_startAnew_30 : decode cX5_startAnew 30 = .ok (.aload_n 0, 1) := by decide +kernel
theorem dX5_startAnew_31 : decode cX5_startAnew 31 = .ok (.iconst 0, 1) := by decide +kernel
theorem dX5_startAnew_32 : decode cX5_startAnew 32 = .ok (.putfield 228, 3) := by decide +kernel
theorem dX5_startAnew_35 : decode cX5_startAnew 35 = .ok (.return_, 1) := by decide +kernel
set_option maxRecDepth 20000 in
theorem ggX5_whom_X1_isAboard : GoodIn wsX5_whom wsX1_isAboard := goodIn_r _ [6, 7, 28, 29, 30, 31, 32, 33, 34] (by decide +kernel) (by decide +kernel)
set_option maxRecDepth 20000 in
theorem gX5_whom_X1_isAboard : GoodIn wsX5_whom (wsV RX5 88 RX1 yX1_isAboard wsX1_isAboard) := goodIn_app (goodIn_of _ (by decide +kernel)) ggX5_whom_X1_isAboard
set_option maxRecDepth 20000 in
theorem ggX5_whom_X5_nearest : GoodIn wsX5_whom wsX5_nearest := goodIn_r _ [12, 13, 14, 1, 15, 16, 17, 18, 2, 3, 4, 5, 6, 7, 35, 36, 37, 38, 39, 40, 41, 42, 43, 44, 45, 46, 47, 48, 49, 50, 51, 28, 29, 30, 31, 32, 33, 34] (by decide +kernel) (by decide +kernel)
set_option maxRecDepth 20000 in
theorem gX5_whom_X5_nearest : GoodIn wsX5_whom (wsV RX5 191 RX5 yX5_nearest wsX5_nearest) := goodIn_app (goodIn_of _ (by decide +kernel)) ggX5_whom_X5_nearest
set_option maxRecDepth 20000 in
theorem ggX5_whom_X5_fairest : GoodIn wsX5_whom wsX5_fairest := goodIn_r _ [22, 13, 14, 23, 2, 3, 4, 5, 6, 7, 35, 36, 37, 38, 39, 40, 41, 42, 43, 44, 45, 46, 47, 48, 49, 50, 51, 28, 29, 30, 31, 32, 33, 34] (by decide +kernel) (by decide +kernel)
set_option maxRecDepth 20000 in
theorem gX5_whom_X5_fairest : GoodIn wsX5_whom (wsV RX5 238 RX5 yX5_fairest wsX5_fairest) := goodIn_app (goodIn_of _ (by decide +kernel)) ggX5_whom_X5_fairest
set_option maxRecDepth 20000 in
theorem ggX5_whom_X5_nextAboard : GoodIn wsX5_whom wsX5_nextAboard := goodIn_r _ [27, 13, 14, 2, 3, 4, 5, 6, 7, 35, 36, 37, 38, 39, 40, 41, 42, 43, 44, 45, 46, 47, 48, 49, 50, 51, 28, 29, 30, 31, 32, 33, 34] (by decide +kernel) (by decide +kernel)
set_option maxRecDepth 20000 in
theorem gX5_whom_X5_nextAboard : GoodIn wsX5_whom (wsV RX5 241 RX5 yX5_nextAboard wsX5_nextAboard) := goodIn_app (goodIn_of _ (by decide +kernel)) ggX5_whom_X5_nextAboard
theorem dX5_whom_0 : decode cX5_whom 0 = .ok (.aload_n 1, 1) := by decide +kernel
theorem dX5_whom_1 : decode cX5_whom 1 = .ok (.iload_n 2, 1) := by decide +kernel
theorem dX5_whom_2 : decode cX5_whom 2 = .ok (.invokevirtual 88, 3) := by decide +kernel
theorem dX5_whom_5 : decode cX5_whom 5 = .ok (.ifCond .ne 6, 3) := by decide +kernel
theorem dX5_whom_8 : decode cX5_whom 8 = .ok (.bipush (-9), 2) := by decide +kernel
theorem dX5_whom_10 : decode cX5_whom 10 = .ok (.ireturn, 1) := by decide +kernel
theorem dX5_whom_11 : decode cX5_whom 11 = .ok (.iload_n 3, 1) := by decide +kernel
theorem dX5_whom_12 : decode cX5_whom 12 = .ok (.lookupswitch 48 #[(0, 28), (1, 41)], 28) := by decide +kernel
theorem dX5_whom_40 : decode cX5_whom 40 = .ok (.aload_n 0, 1) := by decide +kernel
theorem dX5_whom_41 : decode cX5_whom 41 = .ok (.aload_n 1, 1) := by decide +kernel
theorem dX5_whom_42 : decode cX5_whom 42 = .ok (.iload_n 2, 1) := by decide +kernel
theorem dX5_whom_43 : decode cX5_whom 43 = .ok (.aload_n 1, 1) := by decide +kernel
theorem dX5_whom_44 : decode cX5_whom 44 = .ok (.getfield 79, 3) := by decide +kernel
theorem dX5_whom_47 : decode cX5_whom 47 = .ok (.iload_n 2, 1) := by decide +kernel
theorem dX5_whom_48 : decode cX5_whom 48 = .ok (.iaload, 1) := by decide +kernel
theorem dX5_whom_49 : decode cX5_whom 49 = .ok (.invokevirtual 191, 3) := by decide +kernel
theorem dX5_whom_52 : decode cX5_whom 52 = .ok (.ireturn, 1) := by decide +kernel
theorem dX5_whom_53 : decode cX5_whom 53 = .ok (.aload_n 0, 1) := by decide +kernel
theorem dX5_whom_54 : decode cX5_whom 54 = .ok (.aload_n 1, 1) := by decide +kernel
theorem dX5_whom_55 : decode cX5_whom 55 = .ok (.iload_n 2, 1) := by decide +kernel
theorem dX5_whom_56 : decode cX5_whom 56 = .ok (.invokevirtual 238, 3) := by decide +kernel
theorem dX5_whom_59 : decode cX5_whom 59 = .ok (.ireturn, 1) := by decide +kernel
theorem dX5_whom_60 : decode cX5_whom 60 = .ok (.aload_n 0, 1) := by decide +kernel
theorem dX5_whom_61 : decode cX5_whom 61 = .ok (.aload_n 1, 1) := by decide +kernel
theorem dX5_whom_62 : decode cX5_whom 62 = .ok (.iload_n 2, 1) := by decide +kernel
theorem dX5_whom_63 : decode cX5_whom 63 = .ok (.invokevirtual 241, 3) := by decide +kernel
theorem dX5_whom_66 : decode cX5_whom 66 = .ok (.ireturn, 1) := by decide +kernel
set_option maxRecDepth 20000 in
theorem ggX5_nearest_X1_isAboard : GoodIn wsX5_nearest wsX1_isAboard := goodIn_r _ [12, 13, 31, 32, 33, 34, 35, 36, 37] (by decide +kernel) (by decide +kernel)
set_option maxRecDepth 20000 in
theorem gX5_nearest_X1_isAboard : GoodIn wsX5_nearest (wsV RX5 88 RX1 yX1_isAboard wsX1_isAboard) := goodIn_app (goodIn_of _ (by decide +kernel)) ggX5_nearest_X1_isAboard
theorem dX5_nearest_0 : decode cX5_nearest 0 = .ok (.bipush (-9), 2) := by decide +kernel
theorem dX5_nearest_2 : decode cX5_nearest 2 = .ok (.istore 4, 2) := by decide +kernel
theorem dX5_nearest_4 : decode cX5_nearest 4 = .ok (.iconst 0, 1) := by decide +kernel
theorem dX5_nearest_5 : decode cX5_nearest 5 = .ok (.istore 5, 2) := by decide +kernel
theorem dX5_nearest_7 : decode cX5_nearest 7 = .ok (.iconst 0, 1) := by decide +kernel
theorem dX5_nearest_8 : decode cX5_nearest 8 = .ok (.istore 6, 2) := by decide +kernel
theorem dX5_nearest_10 : decode cX5_nearest 10 = .ok (.iload 6, 2) := by decide +kernel
theorem dX5_nearest_12 : decode cX5_nearest 12 = .ok (.aload_n 0, 1) := by decide +kernel
theorem dX5_nearest_13 : decode cX5_nearest 13 = .ok (.getfield 19, 3) := by decide +kernel
theorem dX5_nearest_16 : decode cX5_nearest 16 = .ok (.getfield 200, 3) := by decide +kernel
theorem dX5_nearest_19 : decode cX5_nearest 19 = .ok (.if_icmp .ge 60, 3) := by decide +kernel
theorem dX5_nearest_22 : decode cX5_nearest 22 = .ok (.aload_n 1, 1) := by decide +kernel
theorem dX5_nearest_23 : decode cX5_nearest 23 = .ok (.getfield 79, 3) := by decide +kernel
theorem dX5_nearest_26 : decode cX5_nearest 26 = .ok (.iload 6, 2) := by decide +kernel
theorem dX5_nearest_28 : decode cX5_nearest 28 = .ok (.iaload, 1) := by decide +kernel
theorem dX5_nearest_29 : decode cX5_nearest 29 = .ok (.iload_n 3, 1) := by decide +kernel
theorem dX5_nearest_30 : decode cX5_nearest 30 = .ok (.isub, 1) := by decide +kernel
theorem dX5_nearest_31 : decode cX5_nearest 31 = .ok (.invokestatic 244, 3) := by decide +kernel
theorem dX5_nearest_34 : decode cX5_nearest 34 = .ok (.istore 7, 2) := by decide +kernel
theorem dX5_nearest_36 : decode cX5_nearest 36 = .ok (.iload 6, 2) := by decide +kernel
theorem dX5_nearest_38 : decode cX5_nearest 38 = .ok (.iload_n 2, 1) := by decide +kernel
theorem dX5_nearest_39 : decode cX5_nearest 39 = .ok (.if_icmp .eq 34, 3) := by decide +kernel
theorem dX5_nearest_42 : decode cX5_nearest 42 = .ok (.aload_n 1, 1) := by decide +kernel
theorem dX5_nearest_43 : decode cX5_nearest 43 = .ok (.iload 6, 2) := by decide +kernel
theorem dX5_nearest_45 : decode cX5_nearest 45 = .ok (.invokevirtual 88, 3) := by decide +kernel
theorem dX5_nearest_48 : decode cX5_nearest 48 = .ok (.ifCond .eq 25, 3) := by decide +kernel
theorem dX5_nearest_51 : decode cX5_nearest 51 = .ok (.iload 4, 2) := by decide +kernel
theorem dX5_nearest_53 : decode cX5_nearest 53 = .ok (.bipush (-9), 2) := by decide +kernel
theorem dX5_nearest_55 : decode cX5_nearest 55 = .ok (.if_icmp .eq 10, 3) := by decide +kernel
theorem dX5_nearest_58 : decode cX5_nearest 58 = .ok (.iload 7, 2) := by decide +kernel
theorem dX5_nearest_60 : decode cX5_nearest 60 = .ok (.iload 5, 2) := by decide +kernel
theorem dX5_nearest_62 : decode cX5_nearest 62 = .ok (.if_icmp .ge 11, 3) := by decide +kernel
theorem dX5_nearest_65 : decode cX5_nearest 65 = .ok (.iload 6, 2) := by decide +kernel
theorem dX5_nearest_67 : decode cX5_nearest 67 = .ok (.istore 4, 2) := by decide +kernel
theorem dX5_nearest_69 : decode cX5_nearest 69 = .ok (.iload 7, 2) := by decide +kernel
theorem dX5_nearest_71 : decode cX5_nearest 71 = .ok (.istore 5, 2) := by decide +kernel
theorem dX5_nearest_73 : decode cX5_nearest 73 = .ok (.iinc 6 1, 3) := by decide +kernel
theorem dX5_nearest_76 : decode cX5_nearest 76 = .ok (.goto (-66), 3) := by decide +kernel
theorem dX5_nearest_79 : decode cX5_nearest 79 = .ok (.iload 4, 2) := by decide +kernel
theorem dX5_nearest_81 : decode cX5_nearest 81 = .ok (.ireturn, 1) := by decide +kernel
set_option maxRecDepth 20000 in
theorem ggX5_fairest_X1_isAboard : GoodIn wsX5_fairest wsX1_isAboard := goodIn_r _ [8, 9, 27, 28, 29, 30, 31, 32, 33] (by decide +kernel) (by decide +kernel)
set_option maxRecDepth 20000 in
theorem gX5_fairest_X1_isAboard : GoodIn wsX5_fairest (wsV RX5 88 RX1 yX1_isAboard wsX1_isAboard) := goodIn_app (goodIn_of _ (by decide +kernel)) ggX5_fairest_X1_isAboard
theorem dX5_fairest_0 : decode cX5_fairest 0 = .ok (.bipush (-9), 2) := by decide +kernel
theorem dX5_fairest_2 : decode cX5_fairest 2 = .ok (.istore_n 3, 1) := by decide +kernel
theorem dX5_fairest_3 : decode cX5_fairest 3 = .ok (.iconst 0, 1) := by decide +kernel
theorem dX5_fairest_4 : decode cX5_fairest 4 = .ok (.istore 4, 2) := by decide +kernel
theorem dX5_fairest_6 : decode cX5_fairest 6 = .ok (.iconst 0, 1) := by decide +kernel
theorem dX5_fairest_7 : decode cX5_fairest 7 = .ok (.istore 5, 2) := by decide +kernel
theorem dX5_fairest_9 : decode cX5_fairest 9 = .ok (.iload 5, 2) := by decide +kernel
theorem dX5_fairest_11 : decode cX5_fairest 11 = .ok (.aload_n 0, 1) := by decide +kernel
theorem dX5_fairest_12 : decode cX5_fairest 12 = .ok (.getfield 19, 3) := by decide +kernel
theorem dX5_fairest_15 : decode cX5_fairest 15 = .ok (.getfield 200, 3) := by decide +kernel
theorem dX5_fairest_18 : decode cX5_fairest 18 = .ok (.if_icmp .ge 56, 3) := by decide +kernel
theorem dX5_fairest_21 : decode cX5_fairest 21 = .ok (.aload_n 0, 1) := by decide +kernel
theorem dX5_fairest_22 : decode cX5_fairest 22 = .ok (.getfield 19, 3) := by decide +kernel
theorem dX5_fairest_25 : decode cX5_fairest 25 = .ok (.getfield 82, 3) := by decide +kernel
theorem dX5_fairest_28 : decode cX5_fairest 28 = .ok (.iload 5, 2) := by decide +kernel
theorem dX5_fairest_30 : decode cX5_fairest 30 = .ok (.iaload, 1) := by decide +kernel
theorem dX5_fairest_31 : decode cX5_fairest 31 = .ok (.istore 6, 2) := by decide +kernel
theorem dX5_fairest_33 : decode cX5_fairest 33 = .ok (.iload 5, 2) := by decide +kernel
theorem dX5_fairest_35 : decode cX5_fairest 35 = .ok (.iload_n 2, 1) := by decide +kernel
theorem dX5_fairest_36 : decode cX5_fairest 36 = .ok (.if_icmp .eq 32, 3) := by decide +kernel
theorem dX5_fairest_39 : decode cX5_fairest 39 = .ok (.aload_n 1, 1) := by decide +kernel
theorem dX5_fairest_40 : decode cX5_fairest 40 = .ok (.iload 5, 2) := by decide +kernel
theorem dX5_fairest_42 : decode cX5_fairest 42 = .ok (.invokevirtual 88, 3) := by decide +kernel
theorem dX5_fairest_45 : decode cX5_fairest 45 = .ok (.ifCond .eq 23, 3) := by decide +kernel
theorem dX5_fairest_48 : decode cX5_fairest 48 = .ok (.iload_n 3, 1) := by decide +kernel
theorem dX5_fairest_49 : decode cX5_fairest 49 = .ok (.bipush (-9), 2) := by decide +kernel
theorem dX5_fairest_51 : decode cX5_fairest 51 = .ok (.if_icmp .eq 10, 3) := by decide +kernel
theorem dX5_fairest_54 : decode cX5_fairest 54 = .ok (.iload 6, 2) := by decide +kernel
theorem dX5_fairest_56 : decode cX5_fairest 56 = .ok (.iload 4, 2) := by decide +kernel
theorem dX5_fairest_58 : decode cX5_fairest 58 = .ok (.if_icmp .le 10, 3) := by decide +kernel
theorem dX5_fairest_61 : decode cX5_fairest 61 = .ok (.iload 5, 2) := by decide +kernel
theorem dX5_fairest_63 : decode cX5_fairest 63 = .ok (.istore_n 3, 1) := by decide +kernel
theorem dX5_fairest_64 : decode cX5_fairest 64 = .ok (.iload 6, 2) := by decide +kernel
theorem dX5_fairest_66 : decode cX5_fairest 66 = .ok (.istore 4, 2) := by decide +kernel
theorem dX5_fairest_68 : decode cX5_fairest 68 = .ok (.iinc 5 1, 3) := by decide +kernel
theorem dX5_fairest_71 : decode cX5_fairest 71 = .ok (.goto (-62), 3) := by decide +kernel
theorem dX5_fairest_74 : decode cX5_fairest 74 = .ok (.iload_n 3, 1) := by decide +kernel
theorem dX5_fairest_75 : decode cX5_fairest 75 = .ok (.ireturn, 1) := by decide +kernel
set_option maxRecDepth 20000 in
theorem ggX5_nextAboard_X1_isAboard : GoodIn wsX5_nextAboard wsX1_isAboard := goodIn_r _ [7, 8, 26, 27, 28, 29, 30, 31, 32] (by decide +kernel) (by decide +kernel)
set_option maxRecDepth 20000 in
theorem gX5_nextAboard_X1_isAboard : GoodIn wsX5_nextAboard (wsV RX5 88 RX1 yX1_isAboard wsX1_isAboard) := goodIn_app (goodIn_of _ (by decide +kernel)) ggX5_nextAboard_X1_isAboard
theorem dX5_nextAboard_0 : decode cX5_nextAboard 0 = .ok (.iconst 1, 1) := by decide +kernel
theorem dX5_nextAboard_1 : decode cX5_nextAboard 1 = .ok (.istore_n 3, 1) := by decide +kernel
theorem dX5_nextAboard_2 : decode cX5_nextAboard 2 = .ok (.iload_n 3, 1) := by decide +kernel
theorem dX5_nextAboard_3 : decode cX5_nextAboard 3 = .ok (.aload_n 0, 1) := by decide +kernel
theorem dX5_nextAboard_4 : decode cX5_nextAboard 4 = .ok (.getfield 19, 3) := by decide +kernel
theorem dX5_nextAboard_7 : decode cX5_nextAboard 7 = .ok (.getfield 200, 3) := by decide +kernel
theorem dX5_nextAboard_10 : decode cX5_nextAboard 10 = .ok (.if_icmp .ge 53, 3) := by decide +kernel
theorem dX5_nextAboard_13 : decode cX5_nextAboard 13 = .ok (.iload_n 2, 1) := by decide +kernel
theorem dX5_nextAboard_14 : decode cX5_nextAboard 14 = .ok (.iload_n 3, 1) := by decide +kernel
theorem dX5_nextAboard_15 : decode cX5_nextAboard 15 = .ok (.iadd, 1) := by decide +kernel
theorem dX5_nextAboard_16 : decode cX5_nextAboard 16 = .ok (.aload_n 0, 1) := by decide +kernel
theorem dX5_nextAboard_17 : decode cX5_nextAboard 17 = .ok (.getfield 19, 3) := by decide +kernel
theorem dX5_nextAboard_20 : decode cX5_nextAboard 20 = .ok (.getfield 200, 3) := by decide +kernel
theorem dX5_nextAboard_23 : decode cX5_nextAboard 23 = .ok (.if_icmp .ge 9, 3) := by decide +kernel
theorem dX5_nextAboard_26 : decode cX5_nextAboard 26 = .ok (.iload_n 2, 1) := by decide +kernel
theorem dX5_nextAboard_27 : decode cX5_nextAboard 27 = .ok (.iload_n 3, 1) := by decide +kernel
theorem dX5_nextAboard_28 : decode cX5_nextAboard 28 = .ok (.iadd, 1) := by decide +kernel
theorem dX5_nextAboard_29 : decode cX5_nextAboard 29 = .ok (.goto 14, 3) := by decide +kernel
theorem dX5_nextAboard_32 : decode cX5_nextAboard 32 = .ok (.iload_n 2, 1) := by decide +kernel
theorem dX5_nextAboard_33 : decode cX5_nextAboard 33 = .ok (.iload_n 3, 1) := by decide +kernel
theorem dX5_nextAboard_34 : decode cX5_nextAboard 34 = .ok (.iadd, 1) := by decide +kernel
theorem dX5_nextAboard_35 : decode cX5_nextAboard 35 = .ok (.aload_n 0, 1) := by decide +kernel
theorem dX5_nextAboard_36 : decode cX5_nextAboard 36 = .ok (.getfield 19, 3) := by decide +kernel
theorem dX5_nextAboard_39 : decode cX5_nextAboard 39 = .ok (.getfield 200, 3) := by decide +kernel
theorem dX5_nextAboard_42 : decode cX5_nextAboard 42 = .ok (.isub, 1) := by decide +kernel
theorem dX5_nextAboard_43 : decode cX5_nextAboard 43 = .ok (.istore 4, 2) := by decide +kernel
theorem dX5_nextAboard_45 : decode cX5_nextAboard 45 = .ok (.aload_n 1, 1) := by decide +kernel
theorem dX5_nextAboard_46 : decode cX5_nextAboard 46 = .ok (.iload 4, 2) := by decide +kernel
theorem dX5_nextAboard_48 : decode cX5_nextAboard 48 = .ok (.invokevirtual 88, 3) := by decide +kernel
theorem dX5_nextAboard_51 : decode cX5_nextAboard 51 = .ok (.ifCond .eq 6, 3) := by decide +kernel
theorem dX5_nextAboard_54 : decode cX5_nextAboard 54 = .ok (.iload 4, 2) := by decide +kernel
theorem dX5_nextAboard_56 : decode cX5_nextAboard 56 = .ok (.ireturn, 1) := by decide +kernel
theorem dX5_nextAboard_57 : decode cX5_nextAboard 57 = .ok (.iinc 3 1, 3) := by decide +kernel
theorem dX5_nextAboard_60 : decode cX5_nextAboard 60 = .ok (.goto (-58), 3) := by decide +kernel
theorem dX5_nextAboard_63 : decode cX5_nextAboard 63 = .ok (.bipush (-9), 2) := by decide +kernel
theorem dX5_nextAboard_65 : decode cX5_nextAboard 65 = .ok (.ireturn, 1) := by decide +kernel
set_option maxRecDepth 20000 in
theorem ggX5_ride_X5_whom : GoodIn wsX5_ride wsX5_whom := goodIn_r _ [9, 10, 11, 12, 13, 14, 15, 16, 17, 18, 19, 8, 20, 2, 3, 21, 22, 23, 24, 25, 26, 27, 28, 29, 30, 31, 32, 33, 40, 41, 42, 43, 44, 45, 46, 47, 48, 49, 50, 51, 52, 53, 54, 55, 56, 57, 58, 59, 60, 61, 62, 63] (by decide +kernel) (by decide +kernel)
set_option maxRecDepth 20000 in
theorem gX5_ride_X5_whom : GoodIn wsX5_ride (wsV RX5 94 RX5 yX5_whom wsX5_whom) := goodIn_app (goodIn_of _ (by decide +kernel)) ggX5_ride_X5_whom
set_option maxRecDepth 20000 in
theorem ggX5_ride_X1_think : GoodIn wsX5_ride wsX1_think := goodIn_r _ [37, 38, 39, 40, 41, 42, 43, 44, 45, 46] (by decide +kernel) (by decide +kernel)
set_option maxRecDepth 20000 in
theorem gX5_ride_X1_think : GoodIn wsX5_ride (wsV RX5 132 RX1 yX1_think wsX1_think) := goodIn_app (goodIn_of _ (by decide +kernel)) ggX5_ride_X1_think
theorem dX5_ride_0 : decode cX5_ride 0 = .ok (.aload_n 1, 1) := by decide +kernel
theorem dX5_ride_1 : decode cX5_ride 1 = .ok (.dup, 1) := by decide +kernel
theorem dX5_ride_2 : decode cX5_ride 2 = .ok (.getfield 116, 3) := by decide +kernel
theorem dX5_ride_5 : decode cX5_ride 5 = .ok (.iconst 1, 1) := by decide +kernel
theorem dX5_ride_6 : decode cX5_ride 6 = .ok (.iadd, 1) := by decide +kernel
theorem dX5_ride_7 : decode cX5_ride 7 = .ok (.putfield 116, 3) := by decide +kernel
theorem dX5_ride_10 : decode cX5_ride 10 = .ok (.iconst 0, 1) := by decide +kernel
theorem dX5_ride_11 : decode cX5_ride 11 = .ok (.istore_n 2, 1) := by decide +kernel
theorem dX5_ride_12 : decode cX5_ride 12 = .ok (.iload_n 2, 1) := by decide +kernel
theorem dX5_ride_13 : decode cX5_ride 13 = .ok (.aload_n 0, 1) := by decide +kernel
theorem dX5_ride_14 : decode cX5_ride 14 = .ok (.getfield 19, 3) := by decide +kernel
theorem dX5_ride_17 : decode cX5_ride 17 = .ok (.getfield 200, 3) := by decide +kernel
theorem dX5_ride_20 : decode cX5_ride 20 = .ok (.if_icmp .ge 37, 3) := by decide +kernel
theorem dX5_ride_23 : decode cX5_ride 23 = .ok (.aload_n 0, 1) := by decide +kernel
theorem dX5_ride_24 : decode cX5_ride 24 = .ok (.aload_n 1, 1) := by decide +kernel
theorem dX5_ride_25 : decode cX5_ride 25 = .ok (.iload_n 2, 1) := by decide +kernel
theorem dX5_ride_26 : decode cX5_ride 26 = .ok (.aload_n 0, 1) := by decide +kernel
theorem dX5_ride_27 : decode cX5_ride 27 = .ok (.getfield 19, 3) := by decide +kernel
theorem dX5_ride_30 : decode cX5_ride 30 = .ok (.getfield 85, 3) := by decide +kernel
theorem dX5_ride_33 : decode cX5_ride 33 = .ok (.iload_n 2, 1) := by decide +kernel
theorem dX5_ride_34 : decode cX5_ride 34 = .ok (.iaload, 1) := by decide +kernel
theorem dX5_ride_35 : decode cX5_ride 35 = .ok (.invokevirtual 94, 3) := by decide +kernel
theorem dX5_ride_38 : decode cX5_ride 38 = .ok (.istore_n 3, 1) := by decide +kernel
theorem dX5_ride_39 : decode cX5_ride 39 = .ok (.iload_n 3, 1) := by decide +kernel
theorem dX5_ride_40 : decode cX5_ride 40 = .ok (.bipush (-9), 2) := by decide +kernel
theorem dX5_ride_42 : decode cX5_ride 42 = .ok (.if_icmp .eq 9, 3) := by decide +kernel
theorem dX5_ride_45 : decode cX5_ride 45 = .ok (.aload_n 1, 1) := by decide +kernel
theorem dX5_ride_46 : decode cX5_ride 46 = .ok (.iload_n 2, 1) := by decide +kernel
theorem dX5_ride_47 : decode cX5_ride 47 = .ok (.iload_n 3, 1) := by decide +kernel
theorem dX5_ride_48 : decode cX5_ride 48 = .ok (.invokevirtual 132, 3) := by decide +kernel
theorem dX5_ride_51 : decode cX5_ride 51 = .ok (.iinc 2 1, 3) := by decide +kernel
theorem dX5_ride_54 : decode cX5_ride 54 = .ok (.goto (-42), 3) := by decide +kernel
theorem dX5_ride_57 : decode cX5_ride 57 = .ok (.return_, 1) := by decide +kernel
set_option maxRecDepth 20000 in
theorem ggX5_circleOf_X5_whom : GoodIn wsX5_circleOf wsX5_whom := goodIn_r _ [8, 9, 10, 11, 12, 13, 14, 15, 16, 17, 18, 7, 19, 1, 2, 20, 21, 22, 23, 24, 25, 26, 27, 28, 29, 30, 31, 32, 50, 51, 52, 53, 54, 55, 56, 33, 34, 35, 36, 37, 38, 39, 40, 41, 42, 43, 44, 45, 46, 47, 48, 49] (by decide +kernel) (by decide +kernel)
set_option maxRecDepth 20000 in
theorem gX5_circleOf_X5_whom : GoodIn wsX5_circleOf (wsV RX5 94 RX5 yX5_whom wsX5_whom) := goodIn_app (goodIn_of _ (by decide +kernel)) ggX5_circleOf_X5_whom
theorem dX5_circleOf_0 : decode cX5_circleOf 0 = .ok (.iload_n 2, 1) := by decide +kernel
theorem dX5_circleOf_1 : decode cX5_circleOf 1 = .ok (.istore_n 3, 1) := by decide +kernel
theorem dX5_circleOf_2 : decode cX5_circleOf 2 = .ok (.iconst 0, 1) := by decide +kernel
theorem dX5_circleOf_3 : decode cX5_circleOf 3 = .ok (.istore 4, 2) := by decide +kernel
theorem dX5_circleOf_5 : decode cX5_circleOf 5 = .ok (.iload 4, 2) := by decide +kernel
theorem dX5_circleOf_7 : decode cX5_circleOf 7 = .ok (.aload_n 0, 1) := by decide +kernel
theorem dX5_circleOf_8 : decode cX5_circleOf 8 = .ok (.getfield 19, 3) := by decide +kernel
theorem dX5_circleOf_11 : decode cX5_circleOf 11 = .ok (.getfield 200, 3) := by decide +kernel
theorem dX5_circleOf_14 : decode cX5_circleOf 14 = .ok (.if_icmp .ge 31, 3) := by decide +kernel
theorem dX5_circleOf_17 : decode cX5_circleOf 17 = .ok (.iload_n 3, 1) := by decide +kernel
theorem dX5_circleOf_18 : decode cX5_circleOf 18 = .ok (.bipush (-9), 2) := by decide +kernel
theorem dX5_circleOf_20 : decode cX5_circleOf 20 = .ok (.if_icmp .eq 25, 3) := by decide +kernel
theorem dX5_circleOf_23 : decode cX5_circleOf 23 = .ok (.aload_n 0, 1) := by decide +kernel
theorem dX5_circleOf_24 : decode cX5_circleOf 24 = .ok (.aload_n 1, 1) := by decide +kernel
theorem dX5_circleOf_25 : decode cX5_circleOf 25 = .ok (.iload_n 3, 1) := by decide +kernel
theorem dX5_circleOf_26 : decode cX5_circleOf 26 = .ok (.aload_n 0, 1) := by decide +kernel
theorem dX5_circleOf_27 : decode cX5_circleOf 27 = .ok (.getfield 19, 3) := by decide +kernel
theorem dX5_circleOf_30 : decode cX5_circleOf 30 = .ok (.getfield 85, 3) := by decide +kernel
theorem dX5_circleOf_33 : decode cX5_circleOf 33 = .ok (.iload_n 3, 1) := by decide +kernel
theorem dX5_circleOf_34 : decode cX5_circleOf 34 = .ok (.iaload, 1) := by decide +kernel
theorem dX5_circleOf_35 : decode cX5_circleOf 35 = .ok (.invokevirtual 94, 3) := by decide +kernel
theorem dX5_circleOf_38 : decode cX5_circleOf 38 = .ok (.istore_n 3, 1) := by decide +kernel
theorem dX5_circleOf_39 : decode cX5_circleOf 39 = .ok (.iinc 4 1, 3) := by decide +kernel
theorem dX5_circleOf_42 : decode cX5_circleOf 42 = .ok (.goto (-37), 3) := by decide +kernel
theorem dX5_circleOf_45 : decode cX5_circleOf 45 = .ok (.iconst 0, 1) := by decide +kernel
theorem dX5_circleOf_46 : decode cX5_circleOf 46 = .ok (.istore 4, 2) := by decide +kernel
theorem dX5_circleOf_48 : decode cX5_circleOf 48 = .ok (.iconst 0, 1) := by decide +kernel
theorem dX5_circleOf_49 : decode cX5_circleOf 49 = .ok (.istore 5, 2) := by decide +kernel
theorem dX5_circleOf_51 : decode cX5_circleOf 51 = .ok (.iload 5, 2) := by decide +kernel
theorem dX5_circleOf_53 : decode cX5_circleOf 53 = .ok (.aload_n 0, 1) := by decide +kernel
theorem dX5_circleOf_54 : decode cX5_circleOf 54 = .ok (.getfield 19, 3) := by decide +kernel
theorem dX5_circleOf_57 : decode cX5_circleOf 57 = .ok (.getfield 200, 3) := by decide +kernel
theorem dX5_circleOf_60 : decode cX5_circleOf 60 = .ok (.if_icmp .ge 39, 3) := by decide +kernel
theorem dX5_circleOf_63 : decode cX5_circleOf 63 = .ok (.iload_n 3, 1) := by decide +kernel
theorem dX5_circleOf_64 : decode cX5_circleOf 64 = .ok (.bipush (-9), 2) := by decide +kernel
theorem dX5_circleOf_66 : decode cX5_circleOf 66 = .ok (.if_icmp .eq 33, 3) := by decide +kernel
theorem dX5_circleOf_69 : decode cX5_circleOf 69 = .ok (.iload 4, 2) := by decide +kernel
theorem dX5_circleOf_71 : decode cX5_circleOf 71 = .ok (.iconst 1, 1) := by decide +kernel
theorem dX5_circleOf_72 : decode cX5_circleOf 72 = .ok (.iload_n 3, 1) := by decide +kernel
theorem dX5_circleOf_73 : decode cX5_circleOf 73 = .ok (.ishl, 1) := by decide +kernel
theorem dX5_circleOf_74 : decode cX5_circleOf 74 = .ok (.ior, 1) := by decide +kernel
theorem dX5_circleOf_75 : decode cX5_circleOf 75 = .ok (.istore 4, 2) := by decide +kernel
theorem dX5_circleOf_77 : decode cX5_circleOf 77 = .ok (.aload_n 0, 1) := by decide +kernel
theorem dX5_circleOf_78 : decode cX5_circleOf 78 = .ok (.aload_n 1, 1) := by decide +kernel
theorem dX5_circleOf_79 : decode cX5_circleOf 79 = .ok (.iload_n 3, 1) := by decide +kernel
theorem dX5_circleOf_80 : decode cX5_circleOf 80 = .ok (.aload_n 0, 1) := by decide +kernel
theorem dX5_circleOf_81 : decode cX5_circleOf 81 = .ok (.getfield 19, 3) := by decide +kernel
theorem dX5_circleOf_84 : decode cX5_circleOf 84 = .ok (.getfield 85, 3) := by decide +kernel
theorem dX5_circleOf_87 : decode cX5_circleOf 87 = .ok (.iload_n 3, 1) := by decide +kernel
theorem dX5_circleOf_88 : decode cX5_circleOf 88 = .ok (.iaload, 1) := by decide +kernel
theorem dX5_circleOf_89 : decode cX5_circleOf 89 = .ok (.invokevirtual 94, 3) := by decide +kernel
theorem dX5_circleOf_92 : decode cX5_circleOf 92 = .ok (.istore_n 3, 1) := by decide +kernel
theorem dX5_circleOf_93 : decode cX5_circleOf 93 = .ok (.iinc 5 1, 3) := by decide +kernel
theorem dX5_circleOf_96 : decode cX5_circleOf 96 = .ok (.goto (-45), 3) := by decide +kernel
theorem dX5_circleOf_99 : decode cX5_circleOf 99 = .ok (.iload 4, 2) := by decide +kernel
theorem dX5_circleOf_101 : decode cX5_circleOf 101 = .ok (.ireturn, 1) := by decide +kernel
theorem dX5_lowestOf_0 : decode cX5_lowestOf 0 = .ok (.iconst 0, 1) := by decide +kernel
theorem dX5_lowestOf_1 : decode cX5_lowestOf 1 = .ok (.istore_n 1, 1) := by decide +kernel
theorem dX5_lowestOf_2 : decode cX5_lowestOf 2 = .ok (.iload_n 1, 1) := by decide +kernel
theorem dX5_lowestOf_3 : decode cX5_lowestOf 3 = .ok (.bipush 6, 2) := by decide +kernel
theorem dX5_lowestOf_5 : decode cX5_lowestOf 5 = .ok (.if_icmp .ge 19, 3) := by decide +kernel
theorem dX5_lowestOf_8 : decode cX5_lowestOf 8 = .ok (.iload_n 0, 1) := by decide +kernel
theorem dX5_lowestOf_9 : decode cX5_lowestOf 9 = .ok (.iload_n 1, 1) := by decide +kernel
theorem dX5_lowestOf_10 : decode cX5_lowestOf 10 = .ok (.ishr, 1) := by decide +kernel
theorem dX5_lowestOf_11 : decode cX5_lowestOf 11 = .ok (.iconst 1, 1) := by decide +kernel
theorem dX5_lowestOf_12 : decode cX5_lowestOf 12 = .ok (.iand, 1) := by decide +kernel
theorem dX5_lowestOf_13 : decode cX5_lowestOf 13 = .ok (.ifCond .eq 5, 3) := by decide +kernel
theorem dX5_lowestOf_16 : decode cX5_lowestOf 16 = .ok (.iload_n 1, 1) := by decide +kernel
theorem dX5_lowestOf_17 : decode cX5_lowestOf 17 = .ok (.ireturn, 1) := by decide +kernel
theorem dX5_lowestOf_18 : decode cX5_lowestOf 18 = .ok (.iinc 1 1, 3) := by decide +kernel
theorem dX5_lowestOf_21 : decode cX5_lowestOf 21 = .ok (.goto (-19), 3) := by decide +kernel
theorem dX5_lowestOf_24 : decode cX5_lowestOf 24 = .ok (.bipush (-9), 2) := by decide +kernel
theorem dX5_lowestOf_26 : decode cX5_lowestOf 26 = .ok (.ireturn, 1) := by decide +kernel
set_option maxRecDepth 20000 in
theorem ggX5_downByRing_X1_thoughtOf : GoodIn wsX5_downByRing wsX1_thoughtOf := goodIn_r _ [7, 8, 26, 27, 28, 29, 30, 31, 32] (by decide +kernel) (by decide +kernel)
set_option maxRecDepth 20000 in
theorem gX5_downByRing_X1_thoughtOf : GoodIn wsX5_downByRing (wsV RX5 112 RX1 yX1_thoughtOf wsX1_thoughtOf) := goodIn_app (goodIn_of _ (by decide +kernel)) ggX5_downByRing_X1_thoughtOf
theorem dX5_downByRing_0 : decode cX5_downByRing 0 = .ok (.bipush (-9), 2) := by decide +kernel
theorem dX5_downByRing_2 : decode cX5_downByRing 2 = .ok (.istore 4, 2) := by decide +kernel
theorem dX5_downByRing_4 : decode cX5_downByRing 4 = .ok (.iconst 0, 1) := by decide +kernel
theorem dX5_downByRing_5 : decode cX5_downByRing 5 = .ok (.istore 5, 2) := by decide +kernel
theorem dX5_downByRing_7 : decode cX5_downByRing 7 = .ok (.iconst 0, 1) := by decide +kernel
theorem dX5_downByRing_8 : decode cX5_downByRing 8 = .ok (.istore 6, 2) := by decide +kernel
theorem dX5_downByRing_10 : decode cX5_downByRing 10 = .ok (.iload 6, 2) := by decide +kernel
theorem dX5_downByRing_12 : decode cX5_downByRing 12 = .ok (.aload_n 0, 1) := by decide +kernel
theorem dX5_downByRing_13 : decode cX5_downByRing 13 = .ok (.getfield 19, 3) := by decide +kernel
theorem dX5_downByRing_16 : decode cX5_downByRing 16 = .ok (.getfield 200, 3) := by decide +kernel
theorem dX5_downByRing_19 : decode cX5_downByRing 19 = .ok (.if_icmp .ge 48, 3) := by decide +kernel
theorem dX5_downByRing_22 : decode cX5_downByRing 22 = .ok (.aload_n 1, 1) := by decide +kernel
theorem dX5_downByRing_23 : decode cX5_downByRing 23 = .ok (.iload 6, 2) := by decide +kernel
theorem dX5_downByRing_25 : decode cX5_downByRing 25 = .ok (.iload_n 3, 1) := by decide +kernel
theorem dX5_downByRing_26 : decode cX5_downByRing 26 = .ok (.invokevirtual 112, 3) := by decide +kernel
theorem dX5_downByRing_29 : decode cX5_downByRing 29 = .ok (.istore 7, 2) := by decide +kernel
theorem dX5_downByRing_31 : decode cX5_downByRing 31 = .ok (.iload 6, 2) := by decide +kernel
theorem dX5_downByRing_33 : decode cX5_downByRing 33 = .ok (.iload_n 3, 1) := by decide +kernel
theorem dX5_downByRing_34 : decode cX5_downByRing 34 = .ok (.if_icmp .eq 27, 3) := by decide +kernel
theorem dX5_downByRing_37 : decode cX5_downByRing 37 = .ok (.iload_n 2, 1) := by decide +kernel
theorem dX5_downByRing_38 : decode cX5_downByRing 38 = .ok (.iload 6, 2) := by decide +kernel
theorem dX5_downByRing_40 : decode cX5_downByRing 40 = .ok (.ishr, 1) := by decide +kernel
theorem dX5_downByRing_41 : decode cX5_downByRing 41 = .ok (.iconst 1, 1) := by decide +kernel
theorem dX5_downByRing_42 : decode cX5_downByRing 42 = .ok (.iand, 1) := by decide +kernel
theorem dX5_downByRing_43 : decode cX5_downByRing 43 = .ok (.ifCond .eq 18, 3) := by decide +kernel
theorem dX5_downByRing_46 : decode cX5_downByRing 46 = .ok (.iload 7, 2) := by decide +kernel
theorem dX5_downByRing_48 : decode cX5_downByRing 48 = .ok (.iload 5, 2) := by decide +kernel
theorem dX5_downByRing_50 : decode cX5_downByRing 50 = .ok (.if_icmp .le 11, 3) := by decide +kernel
theorem dX5_downByRing_53 : decode cX5_downByRing 53 = .ok (.iload 6, 2) := by decide +kernel
theorem dX5_downByRing_55 : decode cX5_downByRing 55 = .ok (.istore 4, 2) := by decide +kernel
theorem dX5_downByRing_57 : decode cX5_downByRing 57 = .ok (.iload 7, 2) := by decide +kernel
theorem dX5_downByRing_59 : decode cX5_downByRing 59 = .ok (.istore 5, 2) := by decide +kernel
theorem dX5_downByRing_61 : decode cX5_downByRing 61 = .ok (.iinc 6 1, 3) := by decide +kernel
theorem dX5_downByRing_64 : decode cX5_downByRing 64 = .ok (.goto (-54), 3) := by decide +kernel
theorem dX5_downByRing_67 : decode cX5_downByRing 67 = .ok (.iload 4, 2) := by decide +kernel
theorem dX5_downByRing_69 : decode cX5_downByRing 69 = .ok (.ireturn, 1) := by decide +kernel
set_option maxRecDepth 20000 in
theorem ggX5_downByDoubleRing_X1_thoughtOf : GoodIn wsX5_downByDoubleRing wsX1_thoughtOf := goodIn_r _ [7, 8, 31, 32, 33, 34, 35, 36, 37] (by decide +kernel) (by decide +kernel)
set_option maxRecDepth 20000 in
theorem gX5_downByDoubleRing_X1_thoughtOf : GoodIn wsX5_downByDoubleRing (wsV RX5 112 RX1 yX1_thoughtOf wsX1_thoughtOf) := goodIn_app (goodIn_of _ (by decide +kernel)) ggX5_downByDoubleRing_X1_thoughtOf
set_option maxRecDepth 20000 in
theorem ggX5_downByDoubleRing_X1_isAboard : GoodIn wsX5_downByDoubleRing wsX1_isAboard := goodIn_r _ [12, 13, 31, 32, 33, 34, 35, 36, 37] (by decide +kernel) (by decide +kernel)
set_option maxRecDepth 20000 in
theorem gX5_downByDoubleRing_X1_isAboard : GoodIn wsX5_downByDoubleRing (wsV RX5 88 RX1 yX1_isAboard wsX1_isAboard) := goodIn_app (goodIn_of _ (by decide +kernel)) ggX5_downByDoubleRing_X1_isAboard
theorem dX5_downByDoubleRing_0 : decode cX5_downByDoubleRing 0 = .ok (.bipush (-9), 2) := by decide +kernel
theorem dX5_downByDoubleRing_2 : decode cX5_downByDoubleRing 2 = .ok (.istore_n 3, 1) := by decide +kernel
theorem dX5_downByDoubleRing_3 : decode cX5_downByDoubleRing 3 = .ok (.iconst 0, 1) := by decide +kernel
theorem dX5_downByDoubleRing_4 : decode cX5_downByDoubleRing 4 = .ok (.istore 4, 2) := by decide +kernel
theorem dX5_downByDoubleRing_6 : decode cX5_downByDoubleRing 6 = .ok (.iconst 0, 1) := by decide +kernel
theorem dX5_downByDoubleRing_7 : decode cX5_downByDoubleRing 7 = .ok (.istore 5, 2) := by decide +kernel
theorem dX5_downByDoubleRing_9 : decode cX5_downByDoubleRing 9 = .ok (.iload 5, 2) := by decide +kernel
theorem dX5_downByDoubleRing_11 : decode cX5_downByDoubleRing 11 = .ok (.aload_n 0, 1) := by decide +kernel
theorem dX5_downByDoubleRing_12 : decode cX5_downByDoubleRing 12 = .ok (.getfield 19, 3) := by decide +kernel
theorem dX5_downByDoubleRing_15 : decode cX5_downByDoubleRing 15 = .ok (.getfield 200, 3) := by decide +kernel
theorem dX5_downByDoubleRing_18 : decode cX5_downByDoubleRing 18 = .ok (.if_icmp .ge 47, 3) := by decide +kernel
theorem dX5_downByDoubleRing_21 : decode cX5_downByDoubleRing 21 = .ok (.aload_n 1, 1) := by decide +kernel
theorem dX5_downByDoubleRing_22 : decode cX5_downByDoubleRing 22 = .ok (.iload_n 2, 1) := by decide +kernel
theorem dX5_downByDoubleRing_23 : decode cX5_downByDoubleRing 23 = .ok (.iload 5, 2) := by decide +kernel
theorem dX5_downByDoubleRing_25 : decode cX5_downByDoubleRing 25 = .ok (.invokevirtual 112, 3) := by decide +kernel
theorem dX5_downByDoubleRing_28 : decode cX5_downByDoubleRing 28 = .ok (.istore 6, 2) := by decide +kernel
theorem dX5_downByDoubleRing_30 : decode cX5_downByDoubleRing 30 = .ok (.iload 5, 2) := by decide +kernel
theorem dX5_downByDoubleRing_32 : decode cX5_downByDoubleRing 32 = .ok (.iload_n 2, 1) := by decide +kernel
theorem dX5_downByDoubleRing_33 : decode cX5_downByDoubleRing 33 = .ok (.if_icmp .eq 26, 3) := by decide +kernel
theorem dX5_downByDoubleRing_36 : decode cX5_downByDoubleRing 36 = .ok (.aload_n 1, 1) := by decide +kernel
theorem dX5_downByDoubleRing_37 : decode cX5_downByDoubleRing 37 = .ok (.iload 5, 2) := by decide +kernel
theorem dX5_downByDoubleRing_39 : decode cX5_downByDoubleRing 39 = .ok (.invokevirtual 88, 3) := by decide +kernel
theorem dX5_downByDoubleRing_42 : decode cX5_downByDoubleRing 42 = .ok (.ifCond .eq 17, 3) := by decide +kernel
theorem dX5_downByDoubleRing_45 : decode cX5_downByDoubleRing 45 = .ok (.iload 6, 2) := by decide +kernel
theorem dX5_downByDoubleRing_47 : decode cX5_downByDoubleRing 47 = .ok (.iload 4, 2) := by decide +kernel
theorem dX5_downByDoubleRing_49 : decode cX5_downByDoubleRing 49 = .ok (.if_icmp .le 10, 3) := by decide +kernel
theorem dX5_downByDoubleRing_52 : decode cX5_downByDoubleRing 52 = .ok (.iload 5, 2) := by decide +kernel
theorem dX5_downByDoubleRing_54 : decode cX5_downByDoubleRing 54 = .ok (.istore_n 3, 1) := by decide +kernel
theorem dX5_downByDoubleRing_55 : decode cX5_downByDoubleRing 55 = .ok (.iload 6, 2) := by decide +kernel
theorem dX5_downByDoubleRing_57 : decode cX5_downByDoubleRing 57 = .ok (.istore 4, 2) := by decide +kernel
theorem dX5_downByDoubleRing_59 : decode cX5_downByDoubleRing 59 = .ok (.iinc 5 1, 3) := by decide +kernel
theorem dX5_downByDoubleRing_62 : decode cX5_downByDoubleRing 62 = .ok (.goto (-53), 3) := by decide +kernel
theorem dX5_downByDoubleRing_65 : decode cX5_downByDoubleRing 65 = .ok (.iload_n 3, 1) := by decide +kernel
theorem dX5_downByDoubleRing_66 : decode cX5_downByDoubleRing 66 = .ok (.ireturn, 1) := by decide +kernel
set_option maxRecDepth 20000 in
theorem ggX5_downInRow_X5_downByRing : GoodIn wsX5_downInRow wsX5_downByRing := goodIn_r _ [5, 6, 7, 8, 9, 10, 11, 12, 13, 14, 15, 16, 17, 18, 19, 20, 21, 22, 23, 24, 25, 26, 27, 28, 29, 30, 31, 32, 33, 34, 35, 36, 37] (by decide +kernel) (by decide +kernel)
set_option maxRecDepth 20000 in
theorem gX5_downInRow_X5_downByRing : GoodIn wsX5_downInRow (wsV RX5 101 RX5 yX5_downByRing wsX5_downByRing) := goodIn_app (goodIn_of _ (by decide +kernel)) ggX5_downInRow_X5_downByRing
theorem dX5_downInRow_0 : decode cX5_downInRow 0 = .ok (.iload_n 3, 1) := by decide +kernel
theorem dX5_downInRow_1 : decode cX5_downInRow 1 = .ok (.iload 5, 2) := by decide +kernel
theorem dX5_downInRow_3 : decode cX5_downInRow 3 = .ok (.ishr, 1) := by decide +kernel
theorem dX5_downInRow_4 : decode cX5_downInRow 4 = .ok (.iconst 1, 1) := by decide +kernel
theorem dX5_downInRow_5 : decode cX5_downInRow 5 = .ok (.iand, 1) := by decide +kernel
theorem dX5_downInRow_6 : decode cX5_downInRow 6 = .ok (.ifCond .eq 13, 3) := by decide +kernel
theorem dX5_downInRow_9 : decode cX5_downInRow 9 = .ok (.iload 4, 2) := by decide +kernel
theorem dX5_downInRow_11 : decode cX5_downInRow 11 = .ok (.iload 5, 2) := by decide +kernel
theorem dX5_downInRow_13 : decode cX5_downInRow 13 = .ok (.ishr, 1) := by decide +kernel
theorem dX5_downInRow_14 : decode cX5_downInRow 14 = .ok (.iconst 1, 1) := by decide +kernel
theorem dX5_downInRow_15 : decode cX5_downInRow 15 = .ok (.iand, 1) := by decide +kernel
theorem dX5_downInRow_16 : decode cX5_downInRow 16 = .ok (.ifCond .eq 6, 3) := by decide +kernel
theorem dX5_downInRow_19 : decode cX5_downInRow 19 = .ok (.bipush (-9), 2) := by decide +kernel
theorem dX5_downInRow_21 : decode cX5_downInRow 21 = .ok (.ireturn, 1) := by decide +kernel
theorem dX5_downInRow_22 : decode cX5_downInRow 22 = .ok (.aload_n 0, 1) := by decide +kernel
theorem dX5_downInRow_23 : decode cX5_downInRow 23 = .ok (.aload_n 1, 1) := by decide +kernel
theorem dX5_downInRow_24 : decode cX5_downInRow 24 = .ok (.iload_n 3, 1) := by decide +kernel
theorem dX5_downInRow_25 : decode cX5_downInRow 25 = .ok (.iload 5, 2) := by decide +kernel
theorem dX5_downInRow_27 : decode cX5_downInRow 27 = .ok (.invokevirtual 101, 3) := by decide +kernel
theorem dX5_downInRow_30 : decode cX5_downInRow 30 = .ok (.istore 6, 2) := by decide +kernel
theorem dX5_downInRow_32 : decode cX5_downInRow 32 = .ok (.iload 6, 2) := by decide +kernel
theorem dX5_downInRow_34 : decode cX5_downInRow 34 = .ok (.bipush (-9), 2) := by decide +kernel
theorem dX5_downInRow_36 : decode cX5_downInRow 36 = .ok (.if_icmp .eq 17, 3) := by decide +kernel
theorem dX5_downInRow_39 : decode cX5_downInRow 39 = .ok (.iload_n 2, 1) := by decide +kernel
theorem dX5_downInRow_40 : decode cX5_downInRow 40 = .ok (.iload 6, 2) := by decide +kernel
theorem dX5_downInRow_42 : decode cX5_downInRow 42 = .ok (.ishr, 1) := by decide +kernel
theorem dX5_downInRow_43 : decode cX5_downInRow 43 = .ok (.iconst 1, 1) := by decide +kernel
theorem dX5_downInRow_44 : decode cX5_downInRow 44 = .ok (.iand, 1) := by decide +kernel
theorem dX5_downInRow_45 : decode cX5_downInRow 45 = .ok (.ifCond .eq 8, 3) := by decide +kernel
theorem dX5_downInRow_48 : decode cX5_downInRow 48 = .ok (.iload 6, 2) := by decide +kernel
theorem dX5_downInRow_50 : decode cX5_downInRow 50 = .ok (.goto 5, 3) := by decide +kernel
theorem dX5_downInRow_53 : decode cX5_downInRow 53 = .ok (.bipush (-9), 2) := by decide +kernel
theorem dX5_downInRow_55 : decode cX5_downInRow 55 = .ok (.ireturn, 1) := by decide +kernel
set_option maxRecDepth 20000 in
theorem ggX5_rowsFrom_X5_downInRow : GoodIn wsX5_rowsFrom wsX5_downInRow := goodIn_r _ [7, 8, 9, 10, 6, 11, 1, 2, 12, 13, 14, 15, 16, 17, 21, 22, 23, 24, 25, 26, 27, 28, 29, 30, 31, 32, 33, 34, 35, 36, 37, 38, 39, 40, 41, 42, 43, 44] (by decide +kernel) (by decide +kernel)
set_option maxRecDepth 20000 in
theorem gX5_rowsFrom_X5_downInRow : GoodIn wsX5_rowsFrom (wsV RX5 249 RX5 yX5_downInRow wsX5_downInRow) := goodIn_app (goodIn_of _ (by decide +kernel)) ggX5_rowsFrom_X5_downInRow
set_option maxRecDepth 20000 in
theorem ggX5_rowsFrom_X5_rowsFrom : GoodIn wsX5_rowsFrom wsX5_rowsFrom := goodIn_r _ [0, 1, 2, 3, 4, 5, 6, 7, 8, 9, 10, 11, 12, 13, 14, 15, 16, 17, 18, 19, 20, 21, 22, 23, 24, 25, 26, 27, 28, 29, 30, 31, 32, 33, 34, 35, 36, 37, 38, 39, 40, 41, 42, 43, 44] (by decide +kernel) (by decide +kernel)
set_option maxRecDepth 20000 in
theorem gX5_rowsFrom_X5_rowsFrom : GoodIn wsX5_rowsFrom (wsV RX5 163 RX5 yX5_rowsFrom wsX5_rowsFrom) := goodIn_app (goodIn_of _ (by decide +kernel)) ggX5_rowsFrom_X5_rowsFrom
theorem dX5_rowsFrom_0 : decode cX5_rowsFrom 0 = .ok (.iload_n 2, 1) := by decide +kernel
theorem dX5_rowsFrom_1 : decode cX5_rowsFrom 1 = .ok (.iload_n 3, 1) := by decide +kernel
theorem dX5_rowsFrom_2 : decode cX5_rowsFrom 2 = .ok (.iand, 1) := by decide +kernel
theorem dX5_rowsFrom_3 : decode cX5_rowsFrom 3 = .ok (.ifCond .ne 5, 3) := by decide +kernel
theorem dX5_rowsFrom_6 : decode cX5_rowsFrom 6 = .ok (.iconst 1, 1) := by decide +kernel
theorem dX5_rowsFrom_7 : decode cX5_rowsFrom 7 = .ok (.ireturn, 1) := by decide +kernel
theorem dX5_rowsFrom_8 : decode cX5_rowsFrom 8 = .ok (.iload 5, 2) := by decide +kernel
theorem dX5_rowsFrom_10 : decode cX5_rowsFrom 10 = .ok (.bipush 6, 2) := by decide +kernel
theorem dX5_rowsFrom_12 : decode cX5_rowsFrom 12 = .ok (.if_icmp .lt 5, 3) := by decide +kernel
theorem dX5_rowsFrom_15 : decode cX5_rowsFrom 15 = .ok (.iconst 0, 1) := by decide +kernel
theorem dX5_rowsFrom_16 : decode cX5_rowsFrom 16 = .ok (.ireturn, 1) := by decide +kernel
theorem dX5_rowsFrom_17 : decode cX5_rowsFrom 17 = .ok (.iconst 0, 1) := by decide +kernel
theorem dX5_rowsFrom_18 : decode cX5_rowsFrom 18 = .ok (.istore 6, 2) := by decide +kernel
theorem dX5_rowsFrom_20 : decode cX5_rowsFrom 20 = .ok (.iconst 0, 1) := by decide +kernel
theorem dX5_rowsFrom_21 : decode cX5_rowsFrom 21 = .ok (.istore 7, 2) := by decide +kernel
theorem dX5_rowsFrom_23 : decode cX5_rowsFrom 23 = .ok (.iload 7, 2) := by decide +kernel
theorem dX5_rowsFrom_25 : decode cX5_rowsFrom 25 = .ok (.aload_n 0, 1) := by decide +kernel
theorem dX5_rowsFrom_26 : decode cX5_rowsFrom 26 = .ok (.getfield 19, 3) := by decide +kernel
theorem dX5_rowsFrom_29 : decode cX5_rowsFrom 29 = .ok (.getfield 200, 3) := by decide +kernel
theorem dX5_rowsFrom_32 : decode cX5_rowsFrom 32 = .ok (.if_icmp .ge 59, 3) := by decide +kernel
theorem dX5_rowsFrom_35 : decode cX5_rowsFrom 35 = .ok (.aload_n 0, 1) := by decide +kernel
theorem dX5_rowsFrom_36 : decode cX5_rowsFrom 36 = .ok (.aload_n 1, 1) := by decide +kernel
theorem dX5_rowsFrom_37 : decode cX5_rowsFrom 37 = .ok (.iload_n 2, 1) := by decide +kernel
theorem dX5_rowsFrom_38 : decode cX5_rowsFrom 38 = .ok (.iload_n 3, 1) := by decide +kernel
theorem dX5_rowsFrom_39 : decode cX5_rowsFrom 39 = .ok (.iload 4, 2) := by decide +kernel
theorem dX5_rowsFrom_41 : decode cX5_rowsFrom 41 = .ok (.iload 7, 2) := by decide +kernel
theorem dX5_rowsFrom_43 : decode cX5_rowsFrom 43 = .ok (.invokevirtual 249, 3) := by decide +kernel
theorem dX5_rowsFrom_46 : decode cX5_rowsFrom 46 = .ok (.istore 8, 2) := by decide +kernel
theorem dX5_rowsFrom_48 : decode cX5_rowsFrom 48 = .ok (.iload 8, 2) := by decide +kernel
theorem dX5_rowsFrom_50 : decode cX5_rowsFrom 50 = .ok (.bipush (-9), 2) := by decide +kernel
theorem dX5_rowsFrom_52 : decode cX5_rowsFrom 52 = .ok (.if_icmp .eq 33, 3) := by decide +kernel
theorem dX5_rowsFrom_55 : decode cX5_rowsFrom 55 = .ok (.iload 6, 2) := by decide +kernel
theorem dX5_rowsFrom_57 : decode cX5_rowsFrom 57 = .ok (.aload_n 0, 1) := by decide +kernel
theorem dX5_rowsFrom_58 : decode cX5_rowsFrom 58 = .ok (.aload_n 1, 1) := by decide +kernel
theorem dX5_rowsFrom_59 : decode cX5_rowsFrom 59 = .ok (.iload_n 2, 1) := by decide +kernel
theorem dX5_rowsFrom_60 : decode cX5_rowsFrom 60 = .ok (.iload_n 3, 1) := by decide +kernel
theorem dX5_rowsFrom_61 : decode cX5_rowsFrom 61 = .ok (.iconst 1, 1) := by decide +kernel
theorem dX5_rowsFrom_62 : decode cX5_rowsFrom 62 = .ok (.iload 8, 2) := by decide +kernel
theorem dX5_rowsFrom_64 : decode cX5_rowsFrom 64 = .ok (.ishl, 1) := by decide +kernel
theorem dX5_rowsFrom_65 : decode cX5_rowsFrom 65 = .ok (.iconst (-1), 1) := by decide +kernel
theorem dX5_rowsFrom_66 : decode cX5_rowsFrom 66 = .ok (.ixor, 1) := by decide +kernel
theorem dX5_rowsFrom_67 : decode cX5_rowsFrom 67 = .ok (.iand, 1) := by decide +kernel
theorem dX5_rowsFrom_68 : decode cX5_rowsFrom 68 = .ok (.iload 4, 2) := by decide +kernel
theorem dX5_rowsFrom_70 : decode cX5_rowsFrom 70 = .ok (.iconst 1, 1) := by decide +kernel
theorem dX5_rowsFrom_71 : decode cX5_rowsFrom 71 = .ok (.iload 7, 2) := by decide +kernel
theorem dX5_rowsFrom_73 : decode cX5_rowsFrom 73 = .ok (.ishl, 1) := by decide +kernel
theorem dX5_rowsFrom_74 : decode cX5_rowsFrom 74 = .ok (.ior, 1) := by decide +kernel
theorem dX5_rowsFrom_75 : decode cX5_rowsFrom 75 = .ok (.iload 5, 2) := by decide +kernel
theorem dX5_rowsFrom_77 : decode cX5_rowsFrom 77 = .ok (.iconst 1, 1) := by decide +kernel
theorem dX5_rowsFrom_78 : decode cX5_rowsFrom 78 = .ok (.iadd, 1) := by decide +kernel
theorem dX5_rowsFrom_79 : decode cX5_rowsFrom 79 = .ok (.invokevirtual 163, 3) := by decide +kernel
theorem dX5_rowsFrom_82 : decode cX5_rowsFrom 82 = .ok (.iadd, 1) := by decide +kernel
theorem dX5_rowsFrom_83 : decode cX5_rowsFrom 83 = .ok (.istore 6, 2) := by decide +kernel
theorem dX5_rowsFrom_85 : decode cX5_rowsFrom 85 = .ok (.iinc 7 1, 3) := by decide +kernel
theorem dX5_rowsFrom_88 : decode cX5_rowsFrom 88 = .ok (.goto (-65), 3) := by decide +kernel
theorem dX5_rowsFrom_91 : decode cX5_rowsFrom 91 = .ok (.iload 6, 2) := by decide +kernel
theorem dX5_rowsFrom_93 : decode cX5_rowsFrom 93 = .ok (.ireturn, 1) := by decide +kernel
set_option maxRecDepth 20000 in
theorem ggX5_ringerAt_X5_firstRinger : GoodIn wsX5_ringerAt wsX5_firstRinger := goodIn_r _ [6, 7, 8, 9, 10, 11, 5, 12, 13, 14, 15, 16, 17, 18, 19, 20, 21, 22, 23, 24, 25, 26, 34, 35, 36, 37, 38, 39, 40, 41, 42, 43, 44, 45, 46, 47, 48, 49, 50, 27, 28, 29, 30, 31, 32, 33] (by decide +kernel) (by decide +kernel)
set_option maxRecDepth 20000 in
theorem gX5_ringerAt_X5_firstRinger : GoodIn wsX5_ringerAt (wsV RX5 252 RX5 yX5_firstRinger wsX5_firstRinger) := goodIn_app (goodIn_of _ (by decide +kernel)) ggX5_ringerAt_X5_firstRinger
set_option maxRecDepth 20000 in
theorem ggX5_ringerAt_X5_downInRow : GoodIn wsX5_ringerAt wsX5_downInRow := goodIn_r _ [12, 13, 14, 15, 5, 16, 7, 8, 17, 18, 19, 20, 21, 22, 34, 35, 36, 37, 38, 39, 40, 41, 42, 43, 44, 45, 46, 47, 48, 49, 50, 27, 28, 29, 30, 31, 32, 33] (by decide +kernel) (by decide +kernel)
set_option maxRecDepth 20000 in
theorem gX5_ringerAt_X5_downInRow : GoodIn wsX5_ringerAt (wsV RX5 249 RX5 yX5_downInRow wsX5_downInRow) := goodIn_app (goodIn_of _ (by decide +kernel)) ggX5_ringerAt_X5_downInRow
theorem dX5_ringerAt_0 : decode cX5_ringerAt 0 = .ok (.aload_n 1, 1) := by decide +kernel
theorem dX5_ringerAt_1 : decode cX5_ringerAt 1 = .ok (.getfield 98, 3) := by decide +kernel
theorem dX5_ringerAt_4 : decode cX5_ringerAt 4 = .ok (.istore 4, 2) := by decide +kernel
theorem dX5_ringerAt_6 : decode cX5_ringerAt 6 = .ok (.iconst 0, 1) := by decide +kernel
theorem dX5_ringerAt_7 : decode cX5_ringerAt 7 = .ok (.istore 5, 2) := by decide +kernel
theorem dX5_ringerAt_9 : decode cX5_ringerAt 9 = .ok (.iconst 0, 1) := by decide +kernel
theorem dX5_ringerAt_10 : decode cX5_ringerAt 10 = .ok (.istore 6, 2) := by decide +kernel
theorem dX5_ringerAt_12 : decode cX5_ringerAt 12 = .ok (.iload 6, 2) := by decide +kernel
theorem dX5_ringerAt_14 : decode cX5_ringerAt 14 = .ok (.bipush 6, 2) := by decide +kernel
theorem dX5_ringerAt_16 : decode cX5_ringerAt 16 = .ok (.if_icmp .ge 69, 3) := by decide +kernel
theorem dX5_ringerAt_19 : decode cX5_ringerAt 19 = .ok (.aload_n 0, 1) := by decide +kernel
theorem dX5_ringerAt_20 : decode cX5_ringerAt 20 = .ok (.aload_n 1, 1) := by decide +kernel
theorem dX5_ringerAt_21 : decode cX5_ringerAt 21 = .ok (.iload_n 2, 1) := by decide +kernel
theorem dX5_ringerAt_22 : decode cX5_ringerAt 22 = .ok (.iload 4, 2) := by decide +kernel
theorem dX5_ringerAt_24 : decode cX5_ringerAt 24 = .ok (.iload 5, 2) := by decide +kernel
theorem dX5_ringerAt_26 : decode cX5_ringerAt 26 = .ok (.iload 6, 2) := by decide +kernel
theorem dX5_ringerAt_28 : decode cX5_ringerAt 28 = .ok (.invokevirtual 252, 3) := by decide +kernel
theorem dX5_ringerAt_31 : decode cX5_ringerAt 31 = .ok (.istore 7, 2) := by decide +kernel
theorem dX5_ringerAt_33 : decode cX5_ringerAt 33 = .ok (.iload 7, 2) := by decide +kernel
theorem dX5_ringerAt_35 : decode cX5_ringerAt 35 = .ok (.bipush (-9), 2) := by decide +kernel
theorem dX5_ringerAt_37 : decode cX5_ringerAt 37 = .ok (.if_icmp .eq 9, 3) := by decide +kernel
theorem dX5_ringerAt_40 : decode cX5_ringerAt 40 = .ok (.iload 6, 2) := by decide +kernel
theorem dX5_ringerAt_42 : decode cX5_ringerAt 42 = .ok (.iload_n 3, 1) := by decide +kernel
theorem dX5_ringerAt_43 : decode cX5_ringerAt 43 = .ok (.if_icmp .ne 6, 3) := by decide +kernel
theorem dX5_ringerAt_46 : decode cX5_ringerAt 46 = .ok (.iload 7, 2) := by decide +kernel
theorem dX5_ringerAt_48 : decode cX5_ringerAt 48 = .ok (.ireturn, 1) := by decide +kernel
theorem dX5_ringerAt_49 : decode cX5_ringerAt 49 = .ok (.iload 4, 2) := by decide +kernel
theorem dX5_ringerAt_51 : decode cX5_ringerAt 51 = .ok (.iconst 1, 1) := by decide +kernel
theorem dX5_ringerAt_52 : decode cX5_ringerAt 52 = .ok (.aload_n 0, 1) := by decide +kernel
theorem dX5_ringerAt_53 : decode cX5_ringerAt 53 = .ok (.aload_n 1, 1) := by decide +kernel
theorem dX5_ringerAt_54 : decode cX5_ringerAt 54 = .ok (.iload_n 2, 1) := by decide +kernel
theorem dX5_ringerAt_55 : decode cX5_ringerAt 55 = .ok (.iload 4, 2) := by decide +kernel
theorem dX5_ringerAt_57 : decode cX5_ringerAt 57 = .ok (.iload 5, 2) := by decide +kernel
theorem dX5_ringerAt_59 : decode cX5_ringerAt 59 = .ok (.iload 7, 2) := by decide +kernel
theorem dX5_ringerAt_61 : decode cX5_ringerAt 61 = .ok (.invokevirtual 249, 3) := by decide +kernel
theorem dX5_ringerAt_64 : decode cX5_ringerAt 64 = .ok (.ishl, 1) := by decide +kernel
theorem dX5_ringerAt_65 : decode cX5_ringerAt 65 = .ok (.iconst (-1), 1) := by decide +kernel
theorem dX5_ringerAt_66 : decode cX5_ringerAt 66 = .ok (.ixor, 1) := by decide +kernel
theorem dX5_ringerAt_67 : decode cX5_ringerAt 67 = .ok (.iand, 1) := by decide +kernel
theorem dX5_ringerAt_68 : decode cX5_ringerAt 68 = .ok (.istore 4, 2) := by decide +kernel
theorem dX5_ringerAt_70 : decode cX5_ringerAt 70 = .ok (.iload 5, 2) := by decide +kernel
theorem dX5_ringerAt_72 : decode cX5_ringerAt 72 = .ok (.iconst 1, 1) := by decide +kernel
theorem dX5_ringerAt_73 : decode cX5_ringerAt 73 = .ok (.iload 7, 2) := by decide +kernel
theorem dX5_ringerAt_75 : decode cX5_ringerAt 75 = .ok (.ishl, 1) := by decide +kernel
theorem dX5_ringerAt_76 : decode cX5_ringerAt 76 = .ok (.ior, 1) := by decide +kernel
theorem dX5_ringerAt_77 : decode cX5_ringerAt 77 = .ok (.istore 5, 2) := by decide +kernel
theorem dX5_ringerAt_79 : decode cX5_ringerAt 79 = .ok (.iinc 6 1, 3) := by decide +kernel
theorem dX5_ringerAt_82 : decode cX5_ringerAt 82 = .ok (.goto (-70), 3) := by decide +kernel
theorem dX5_ringerAt_85 : decode cX5_ringerAt 85 = .ok (.bipush (-9), 2) := by decide +kernel
theorem dX5_ringerAt_87 : decode cX5_ringerAt 87 = .ok (.ireturn, 1) := by decide +kernel
set_option maxRecDepth 20000 in
theorem ggX5_firstRinger_X5_downInRow : GoodIn wsX5_firstRinger wsX5_downInRow := goodIn_r _ [7, 8, 9, 10, 6, 11, 1, 2, 12, 13, 14, 15, 16, 17, 22, 23, 24, 25, 26, 27, 28, 29, 30, 31, 32, 33, 34, 35, 36, 37, 38, 39, 40, 41, 42, 43, 44, 45] (by decide +kernel) (by decide +kernel)
set_option maxRecDepth 20000 in
theorem gX5_firstRinger_X5_downInRow : GoodIn wsX5_firstRinger (wsV RX5 249 RX5 yX5_downInRow wsX5_downInRow) := goodIn_app (goodIn_of _ (by decide +kernel)) ggX5_firstRinger_X5_downInRow
set_option maxRecDepth 20000 in
theorem ggX5_firstRinger_X5_rowsFrom : GoodIn wsX5_firstRinger wsX5_rowsFrom := goodIn_r _ [21, 1, 2, 3, 4, 5, 6, 7, 8, 9, 10, 11, 12, 13, 14, 15, 16, 17, 18, 19, 20, 22, 23, 24, 25, 26, 27, 28, 29, 30, 31, 32, 33, 34, 35, 36, 37, 38, 39, 40, 41, 42, 43, 44, 45] (by decide +kernel) (by decide +kernel)
set_option maxRecDepth 20000 in
theorem gX5_firstRinger_X5_rowsFrom : GoodIn wsX5_firstRinger (wsV RX5 163 RX5 yX5_rowsFrom wsX5_rowsFrom) := goodIn_app (goodIn_of _ (by decide +kernel)) ggX5_firstRinger_X5_rowsFrom
theorem dX5_firstRinger_0 : decode cX5_firstRinger 0 = .ok (.iconst 0, 1) := by decide +kernel
theorem dX5_firstRinger_1 : decode cX5_firstRinger 1 = .ok (.istore 6, 2) := by decide +kernel
theorem dX5_firstRinger_3 : decode cX5_firstRinger 3 = .ok (.iload 6, 2) := by decide +kernel
theorem dX5_firstRinger_5 : decode cX5_firstRinger 5 = .ok (.aload_n 0, 1) := by decide +kernel
theorem dX5_firstRinger_6 : decode cX5_firstRinger 6 = .ok (.getfield 19, 3) := by decide +kernel
theorem dX5_firstRinger_9 : decode cX5_firstRinger 9 = .ok (.getfield 200, 3) := by decide +kernel
theorem dX5_firstRinger_12 : decode cX5_firstRinger 12 = .ok (.if_icmp .ge 60, 3) := by decide +kernel
theorem dX5_firstRinger_15 : decode cX5_firstRinger 15 = .ok (.aload_n 0, 1) := by decide +kernel
theorem dX5_firstRinger_16 : decode cX5_firstRinger 16 = .ok (.aload_n 1, 1) := by decide +kernel
theorem dX5_firstRinger_17 : decode cX5_firstRinger 17 = .ok (.iload_n 2, 1) := by decide +kernel
theorem dX5_firstRinger_18 : decode cX5_firstRinger 18 = .ok (.iload_n 3, 1) := by decide +kernel
theorem dX5_firstRinger_19 : decode cX5_firstRinger 19 = .ok (.iload 4, 2) := by decide +kernel
theorem dX5_firstRinger_21 : decode cX5_firstRinger 21 = .ok (.iload 6, 2) := by decide +kernel
theorem dX5_firstRinger_23 : decode cX5_firstRinger 23 = .ok (.invokevirtual 249, 3) := by decide +kernel
theorem dX5_firstRinger_26 : decode cX5_firstRinger 26 = .ok (.istore 7, 2) := by decide +kernel
theorem dX5_firstRinger_28 : decode cX5_firstRinger 28 = .ok (.iload 7, 2) := by decide +kernel
theorem dX5_firstRinger_30 : decode cX5_firstRinger 30 = .ok (.bipush (-9), 2) := by decide +kernel
theorem dX5_firstRinger_32 : decode cX5_firstRinger 32 = .ok (.if_icmp .eq 34, 3) := by decide +kernel
theorem dX5_firstRinger_35 : decode cX5_firstRinger 35 = .ok (.aload_n 0, 1) := by decide +kernel
theorem dX5_firstRinger_36 : decode cX5_firstRinger 36 = .ok (.aload_n 1, 1) := by decide +kernel
theorem dX5_firstRinger_37 : decode cX5_firstRinger 37 = .ok (.iload_n 2, 1) := by decide +kernel
theorem dX5_firstRinger_38 : decode cX5_firstRinger 38 = .ok (.iload_n 3, 1) := by decide +kernel
theorem dX5_firstRinger_39 : decode cX5_firstRinger 39 = .ok (.iconst 1, 1) := by decide +kernel
theorem dX5_firstRinger_40 : decode cX5_firstRinger 40 = .ok (.iload 7, 2) := by decide +kernel
theorem dX5_firstRinger_42 : decode cX5_firstRinger 42 = .ok (.ishl, 1) := by decide +kernel
theorem dX5_firstRinger_43 : decode cX5_firstRinger 43 = .ok (.iconst (-1), 1) := by decide +kernel
theorem dX5_firstRinger_44 : decode cX5_firstRinger 44 = .ok (.ixor, 1) := by decide +kernel
theorem dX5_firstRinger_45 : decode cX5_firstRinger 45 = .ok (.iand, 1) := by decide +kernel
theorem dX5_firstRinger_46 : decode cX5_firstRinger 46 = .ok (.iload 4, 2) := by decide +kernel
theorem dX5_firstRinger_48 : decode cX5_firstRinger 48 = .ok (.iconst 1, 1) := by decide +kernel
theorem dX5_firstRinger_49 : decode cX5_firstRinger 49 = .ok (.iload 6, 2) := by decide +kernel
theorem dX5_firstRinger_51 : decode cX5_firstRinger 51 = .ok (.ishl, 1) := by decide +kernel
theorem dX5_firstRinger_52 : decode cX5_firstRinger 52 = .ok (.ior, 1) := by decide +kernel
theorem dX5_firstRinger_53 : decode cX5_firstRinger 53 = .ok (.iload 5, 2) := by decide +kernel
theorem dX5_firstRinger_55 : decode cX5_firstRinger 55 = .ok (.iconst 1, 1) := by decide +kernel
theorem dX5_firstRinger_56 : decode cX5_firstRinger 56 = .ok (.iadd, 1) := by decide +kernel
theorem dX5_firstRinger_57 : decode cX5_firstRinger 57 = .ok (.invokevirtual 163, 3) := by decide +kernel
theorem dX5_firstRinger_60 : decode cX5_firstRinger 60 = .ok (.ifCond .le 6, 3) := by decide +kernel
theorem dX5_firstRinger_63 : decode cX5_firstRinger 63 = .ok (.iload 6, 2) := by decide +kernel
theorem dX5_firstRinger_65 : decode cX5_firstRinger 65 = .ok (.ireturn, 1) := by decide +kernel
theorem dX5_firstRinger_66 : decode cX5_firstRinger 66 = .ok (.iinc 6 1, 3) := by decide +kernel
theorem dX5_firstRinger_69 : decode cX5_firstRinger 69 = .ok (.goto (-66), 3) := by decide +kernel
theorem dX5_firstRinger_72 : decode cX5_firstRinger 72 = .ok (.bipush (-9), 2) := by decide +kernel
theorem dX5_firstRinger_74 : decode cX5_firstRinger 74 = .ok (.ireturn, 1) := by decide +kernel
set_option maxRecDepth 20000 in
theorem ggX5_aheadOf_X1_thoughtOf : GoodIn wsX5_aheadOf wsX1_thoughtOf := goodIn_r _ [9, 10, 35, 36, 37, 38, 39, 40, 41] (by decide +kernel) (by decide +kernel)
set_option maxRecDepth 20000 in
theorem gX5_aheadOf_X1_thoughtOf : GoodIn wsX5_aheadOf (wsV RX5 112 RX1 yX1_thoughtOf wsX1_thoughtOf) := goodIn_app (goodIn_of _ (by decide +kernel)) ggX5_aheadOf_X1_thoughtOf
set_option maxRecDepth 20000 in
theorem ggX5_aheadOf_X1_isAboard : GoodIn wsX5_aheadOf wsX1_isAboard := goodIn_r _ [14, 15, 35, 36, 37, 38, 39, 40, 41] (by decide +kernel) (by decide +kernel)
set_option maxRecDepth 20000 in
theorem gX5_aheadOf_X1_isAboard : GoodIn wsX5_aheadOf (wsV RX5 88 RX1 yX1_isAboard wsX1_isAboard) := goodIn_app (goodIn_of _ (by decide +kernel)) ggX5_aheadOf_X1_isAboard
theorem dX5_aheadOf_0 : decode cX5_aheadOf 0 = .ok (.aload_n 0, 1) := by decide +kernel
theorem dX5_aheadOf_1 : decode cX5_aheadOf 1 = .ok (.getfield 29, 3) := by decide +kernel
theorem dX5_aheadOf_4 : decode cX5_aheadOf 4 = .ok (.getfield 76, 3) := by decide +kernel
theorem dX5_aheadOf_7 : decode cX5_aheadOf 7 = .ok (.astore_n 3, 1) := by decide +kernel
theorem dX5_aheadOf_8 : decode cX5_aheadOf 8 = .ok (.aload_n 3, 1) := by decide +kernel
theorem dX5_aheadOf_9 : decode cX5_aheadOf 9 = .ok (.iload_n 2, 1) := by decide +kernel
theorem dX5_aheadOf_10 : decode cX5_aheadOf 10 = .ok (.iload_n 1, 1) := by decide +kernel
theorem dX5_aheadOf_11 : decode cX5_aheadOf 11 = .ok (.invokevirtual 112, 3) := by decide +kernel
theorem dX5_aheadOf_14 : decode cX5_aheadOf 14 = .ok (.istore 4, 2) := by decide +kernel
theorem dX5_aheadOf_16 : decode cX5_aheadOf 16 = .ok (.iconst 0, 1) := by decide +kernel
theorem dX5_aheadOf_17 : decode cX5_aheadOf 17 = .ok (.istore 5, 2) := by decide +kernel
theorem dX5_aheadOf_19 : decode cX5_aheadOf 19 = .ok (.iconst 0, 1) := by decide +kernel
theorem dX5_aheadOf_20 : decode cX5_aheadOf 20 = .ok (.istore 6, 2) := by decide +kernel
theorem dX5_aheadOf_22 : decode cX5_aheadOf 22 = .ok (.iload 6, 2) := by decide +kernel
theorem dX5_aheadOf_24 : decode cX5_aheadOf 24 = .ok (.aload_n 0, 1) := by decide +kernel
theorem dX5_aheadOf_25 : decode cX5_aheadOf 25 = .ok (.getfield 19, 3) := by decide +kernel
theorem dX5_aheadOf_28 : decode cX5_aheadOf 28 = .ok (.getfield 200, 3) := by decide +kernel
theorem dX5_aheadOf_31 : decode cX5_aheadOf 31 = .ok (.if_icmp .ge 39, 3) := by decide +kernel
theorem dX5_aheadOf_34 : decode cX5_aheadOf 34 = .ok (.iload 6, 2) := by decide +kernel
theorem dX5_aheadOf_36 : decode cX5_aheadOf 36 = .ok (.iload_n 1, 1) := by decide +kernel
theorem dX5_aheadOf_37 : decode cX5_aheadOf 37 = .ok (.if_icmp .eq 27, 3) := by decide +kernel
theorem dX5_aheadOf_40 : decode cX5_aheadOf 40 = .ok (.aload_n 3, 1) := by decide +kernel
theorem dX5_aheadOf_41 : decode cX5_aheadOf 41 = .ok (.iload 6, 2) := by decide +kernel
theorem dX5_aheadOf_43 : decode cX5_aheadOf 43 = .ok (.invokevirtual 88, 3) := by decide +kernel
theorem dX5_aheadOf_46 : decode cX5_aheadOf 46 = .ok (.ifCond .eq 18, 3) := by decide +kernel
theorem dX5_aheadOf_49 : decode cX5_aheadOf 49 = .ok (.aload_n 3, 1) := by decide +kernel
theorem dX5_aheadOf_50 : decode cX5_aheadOf 50 = .ok (.iload 6, 2) := by decide +kernel
theorem dX5_aheadOf_52 : decode cX5_aheadOf 52 = .ok (.iload_n 1, 1) := by decide +kernel
theorem dX5_aheadOf_53 : decode cX5_aheadOf 53 = .ok (.invokevirtual 112, 3) := by decide +kernel
theorem dX5_aheadOf_56 : decode cX5_aheadOf 56 = .ok (.iload 4, 2) := by decide +kernel
theorem dX5_aheadOf_58 : decode cX5_aheadOf 58 = .ok (.if_icmp .le 6, 3) := by decide +kernel
theorem dX5_aheadOf_61 : decode cX5_aheadOf 61 = .ok (.iinc 5 1, 3) := by decide +kernel
theorem dX5_aheadOf_64 : decode cX5_aheadOf 64 = .ok (.iinc 6 1, 3) := by decide +kernel
theorem dX5_aheadOf_67 : decode cX5_aheadOf 67 = .ok (.goto (-45), 3) := by decide +kernel
theorem dX5_aheadOf_70 : decode cX5_aheadOf 70 = .ok (.iload 5, 2) := by decide +kernel
theorem dX5_aheadOf_72 : decode cX5_aheadOf 72 = .ok (.ireturn, 1) := by decide +kernel
set_option maxRecDepth 20000 in
theorem ggX5_oddsUpper_X1_thoughtOf : GoodIn wsX5_oddsUpper wsX1_thoughtOf := goodIn_r _ [7, 8, 37, 38, 39, 40, 41, 42, 43] (by decide +kernel) (by decide +kernel)
set_option maxRecDepth 20000 in
theorem gX5_oddsUpper_X1_thoughtOf : GoodIn wsX5_oddsUpper (wsV RX5 112 RX1 yX1_thoughtOf wsX1_thoughtOf) := goodIn_app (goodIn_of _ (by decide +kernel)) ggX5_oddsUpper_X1_thoughtOf
set_option maxRecDepth 20000 in
theorem ggX5_oddsUpper_X5_aheadOf : GoodIn wsX5_oddsUpper wsX5_aheadOf := goodIn_r _ [13, 1, 2, 14, 15, 3, 4, 5, 6, 7, 8, 16, 17, 18, 19, 20, 24, 25, 26, 27, 28, 29, 30, 31, 32, 33, 34, 35, 36, 44, 45, 46, 47, 48, 49, 37, 38, 39, 40, 41, 42, 43] (by decide +kernel) (by decide +kernel)
set_option maxRecDepth 20000 in
theorem gX5_oddsUpper_X5_aheadOf : GoodIn wsX5_oddsUpper (wsV RX5 255 RX5 yX5_aheadOf wsX5_aheadOf) := goodIn_app (goodIn_of _ (by decide +kernel)) ggX5_oddsUpper_X5_aheadOf
set_option maxRecDepth 20000 in
theorem ggX5_oddsUpper_X5_power : GoodIn wsX5_oddsUpper wsX5_power := goodIn_r _ [23] (by decide +kernel) (by decide +kernel)
set_option maxRecDepth 20000 in
theorem gX5_oddsUpper_X5_power : GoodIn wsX5_oddsUpper (va_wsS RX5 258 yX5_power wsX5_power) := goodIn_app (goodIn_of _ (by decide +kernel)) ggX5_oddsUpper_X5_power
theorem dX5_oddsUpper_0 : decode cX5_oddsUpper 0 = .ok (.aload_n 0, 1) := by decide +kernel
theorem dX5_oddsUpper_1 : decode cX5_oddsUpper 1 = .ok (.getfield 29, 3) := by decide +kernel
theorem dX5_oddsUpper_4 : decode cX5_oddsUpper 4 = .ok (.getfield 76, 3) := by decide +kernel
theorem dX5_oddsUpper_7 : decode cX5_oddsUpper 7 = .ok (.iload_n 2, 1) := by decide +kernel
theorem dX5_oddsUpper_8 : decode cX5_oddsUpper 8 = .ok (.iload_n 1, 1) := by decide +kernel
theorem dX5_oddsUpper_9 : decode cX5_oddsUpper 9 = .ok (.invokevirtual 112, 3) := by decide +kernel
theorem dX5_oddsUpper_12 : decode cX5_oddsUpper 12 = .ok (.ifCond .ne 5, 3) := by decide +kernel
theorem dX5_oddsUpper_15 : decode cX5_oddsUpper 15 = .ok (.iconst 0, 1) := by decide +kernel
theorem dX5_oddsUpper_16 : decode cX5_oddsUpper 16 = .ok (.ireturn, 1) := by decide +kernel
theorem dX5_oddsUpper_17 : decode cX5_oddsUpper 17 = .ok (.bipush 10, 2) := by decide +kernel
theorem dX5_oddsUpper_19 : decode cX5_oddsUpper 19 = .ok (.iload_n 3, 1) := by decide +kernel
theorem dX5_oddsUpper_20 : decode cX5_oddsUpper 20 = .ok (.isub, 1) := by decide +kernel
theorem dX5_oddsUpper_21 : decode cX5_oddsUpper 21 = .ok (.iload_n 3, 1) := by decide +kernel
theorem dX5_oddsUpper_22 : decode cX5_oddsUpper 22 = .ok (.aload_n 0, 1) := by decide +kernel
theorem dX5_oddsUpper_23 : decode cX5_oddsUpper 23 = .ok (.iload_n 1, 1) := by decide +kernel
theorem dX5_oddsUpper_24 : decode cX5_oddsUpper 24 = .ok (.iload_n 2, 1) := by decide +kernel
theorem dX5_oddsUpper_25 : decode cX5_oddsUpper 25 = .ok (.invokevirtual 255, 3) := by decide +kernel
theorem dX5_oddsUpper_28 : decode cX5_oddsUpper 28 = .ok (.invokestatic 258, 3) := by decide +kernel
theorem dX5_oddsUpper_31 : decode cX5_oddsUpper 31 = .ok (.imul, 1) := by decide +kernel
theorem dX5_oddsUpper_32 : decode cX5_oddsUpper 32 = .ok (.ireturn, 1) := by decide +kernel
set_option maxRecDepth 20000 in
theorem ggX5_oddsLower_X5_aheadOf : GoodIn wsX5_oddsLower wsX5_aheadOf := goodIn_r _ [5, 6, 7, 8, 9, 10, 11, 12, 13, 14, 15, 16, 17, 18, 19, 20, 24, 25, 26, 27, 28, 29, 30, 31, 32, 33, 34, 35, 36, 37, 38, 39, 40, 41, 42, 43, 44, 45, 46, 47, 48, 49] (by decide +kernel) (by decide +kernel)
set_option maxRecDepth 20000 in
theorem gX5_oddsLower_X5_aheadOf : GoodIn wsX5_oddsLower (wsV RX5 255 RX5 yX5_aheadOf wsX5_aheadOf) := goodIn_app (goodIn_of _ (by decide +kernel)) ggX5_oddsLower_X5_aheadOf
set_option maxRecDepth 20000 in
theorem ggX5_oddsLower_X5_power : GoodIn wsX5_oddsLower wsX5_power := goodIn_r _ [23] (by decide +kernel) (by decide +kernel)
set_option maxRecDepth 20000 in
theorem gX5_oddsLower_X5_power : GoodIn wsX5_oddsLower (va_wsS RX5 258 yX5_power wsX5_power) := goodIn_app (goodIn_of _ (by decide +kernel)) ggX5_oddsLower_X5_power
theorem dX5_oddsLower_0 : decode cX5_oddsLower 0 = .ok (.bipush 10, 2) := by decide +kernel
theorem dX5_oddsLower_2 : decode cX5_oddsLower 2 = .ok (.bipush 10, 2) := by decide +kernel
theorem dX5_oddsLower_4 : decode cX5_oddsLower 4 = .ok (.aload_n 0, 1) := by decide +kernel
theorem dX5_oddsLower_5 : decode cX5_oddsLower 5 = .ok (.iload_n 1, 1) := by decide +kernel
theorem dX5_oddsLower_6 : decode cX5_oddsLower 6 = .ok (.iload_n 2, 1) := by decide +kernel
theorem dX5_oddsLower_7 : decode cX5_oddsLower 7 = .ok (.invokevirtual 255, 3) := by decide +kernel
theorem dX5_oddsLower_10 : decode cX5_oddsLower 10 = .ok (.invokestatic 258, 3) := by decide +kernel
theorem dX5_oddsLower_13 : decode cX5_oddsLower 13 = .ok (.imul, 1) := by decide +kernel
theorem dX5_oddsLower_14 : decode cX5_oddsLower 14 = .ok (.ireturn, 1) := by decide +kernel
theorem dX5_power_0 : decode cX5_power 0 = .ok (.iconst 1, 1) := by decide +kernel
theorem dX5_power_1 : decode cX5_power 1 = .ok (.istore_n 2, 1) := by decide +kernel
theorem dX5_power_2 : decode cX5_power 2 = .ok (.iconst 0, 1) := by decide +kernel
theorem dX5_power_3 : decode cX5_power 3 = .ok (.istore_n 3, 1) := by decide +kernel
theorem dX5_power_4 : decode cX5_power 4 = .ok (.iload_n 3, 1) := by decide +kernel
theorem dX5_power_5 : decode cX5_power 5 = .ok (.iload_n 1, 1) := by decide +kernel
theorem dX5_power_6 : decode cX5_power 6 = .ok (.if_icmp .ge 13, 3) := by decide +kernel
theorem dX5_power_9 : decode cX5_power 9 = .ok (.iload_n 2, 1) := by decide +kernel
theorem dX5_power_10 : decode cX5_power 10 = .ok (.iload_n 0, 1) := by decide +kernel
theorem dX5_power_11 : decode cX5_power 11 = .ok (.imul, 1) := by decide +kernel
theorem dX5_power_12 : decode cX5_power 12 = .ok (.istore_n 2, 1) := by decide +kernel
theorem dX5_power_13 : decode cX5_power 13 = .ok (.iinc 3 1, 3) := by decide +kernel
theorem dX5_power_16 : decode cX5_power 16 = .ok (.goto (-12), 3) := by decide +kernel
theorem dX5_power_19 : decode cX5_power 19 = .ok (.iload_n 2, 1) := by decide +kernel
theorem dX5_power_20 : decode cX5_power 20 = .ok (.ireturn, 1) := by decide +kernel
theorem dX5_commonDivisor_0 : decode cX5_commonDivisor 0 = .ok (.iload_n 0, 1) := by decide +kernel
theorem dX5_commonDivisor_1 : decode cX5_commonDivisor 1 = .ok (.istore_n 2, 1) := by decide +kernel
theorem dX5_commonDivisor_2 : decode cX5_commonDivisor 2 = .ok (.iload_n 1, 1) := by decide +kernel
theorem dX5_commonDivisor_3 : decode cX5_commonDivisor 3 = .ok (.istore_n 3, 1) := by decide +kernel
theorem dX5_commonDivisor_4 : decode cX5_commonDivisor 4 = .ok (.iconst 0, 1) := by decide +kernel
theorem dX5_commonDivisor_5 : decode cX5_commonDivisor 5 = .ok (.istore 4, 2) := by decide +kernel
theorem dX5_commonDivisor_7 : decode cX5_commonDivisor 7 = .ok (.iload 4, 2) := by decide +kernel
theorem dX5_commonDivisor_9 : decode cX5_commonDivisor 9 = .ok (.bipush 64, 2) := by decide +kernel
theorem dX5_commonDivisor_11 : decode cX5_commonDivisor 11 = .ok (.if_icmp .ge 23, 3) := by decide +kernel
theorem dX5_commonDivisor_14 : decode cX5_commonDivisor 14 = .ok (.iload_n 3, 1) := by decide +kernel
theorem dX5_commonDivisor_15 : decode cX5_commonDivisor 15 = .ok (.ifCond .eq 19, 3) := by decide +kernel
theorem dX5_commonDivisor_18 : decode cX5_commonDivisor 18 = .ok (.iload_n 2, 1) := by decide +kernel
theorem dX5_commonDivisor_19 : decode cX5_commonDivisor 19 = .ok (.iload_n 3, 1) := by decide +kernel
theorem dX5_commonDivisor_20 : decode cX5_commonDivisor 20 = .ok (.irem, 1) := by decide +kernel
theorem dX5_commonDivisor_21 : decode cX5_commonDivisor 21 = .ok (.istore 5, 2) := by decide +kernel
theorem dX5_commonDivisor_23 : decode cX5_commonDivisor 23 = .ok (.iload_n 3, 1) := by decide +kernel
theorem dX5_commonDivisor_24 : decode cX5_commonDivisor 24 = .ok (.istore_n 2, 1) := by decide +kernel
theorem dX5_commonDivisor_25 : decode cX5_commonDivisor 25 = .ok (.iload 5, 2) := by decide +kernel
theorem dX5_commonDivisor_27 : decode cX5_commonDivisor 27 = .ok (.istore_n 3, 1) := by decide +kernel
theorem dX5_commonDivisor_28 : decode cX5_commonDivisor 28 = .ok (.iinc 4 1, 3) := by decide +kernel
theorem dX5_commonDivisor_31 : decode cX5_commonDivisor 31 = .ok (.goto (-24), 3) := by decide +kernel
theorem dX5_commonDivisor_34 : decode cX5_commonDivisor 34 = .ok (.iload_n 2, 1) := by decide +kernel
theorem dX5_commonDivisor_35 : decode cX5_commonDivisor 35 = .ok (.ireturn, 1) := by decide +kernel
set_option maxRecDepth 20000 in
theorem ggX5_fittingLaws_X5_fitsSeen : GoodIn wsX5_fittingLaws wsX5_fitsSeen := goodIn_r _ [5, 6, 7, 8, 9, 10, 11, 12, 13, 4, 14, 15, 16, 17, 18, 19, 20, 21, 22, 23, 24, 25, 26, 27, 28, 29, 30, 31, 32, 33, 34, 35, 36, 37, 38, 39, 40, 41, 42, 43, 44, 45, 46, 47, 48, 49, 50, 51, 52, 53, 54, 55, 56, 57, 58, 59, 60, 61, 62, 63, 64, 65, 66] (by decide +kernel) (by decide +kernel)
set_option maxRecDepth 20000 in
theorem gX5_fittingLaws_X5_fitsSeen : GoodIn wsX5_fittingLaws (wsV RX5 261 RX5 yX5_fitsSeen wsX5_fitsSeen) := goodIn_app (goodIn_of _ (by decide +kernel)) ggX5_fittingLaws_X5_fitsSeen
theorem dX5_fittingLaws_0 : decode cX5_fittingLaws 0 = .ok (.iconst 0, 1) := by decide +kernel
theorem dX5_fittingLaws_1 : decode cX5_fittingLaws 1 = .ok (.istore_n 2, 1) := by decide +kernel
theorem dX5_fittingLaws_2 : decode cX5_fittingLaws 2 = .ok (.iconst 0, 1) := by decide +kernel
theorem dX5_fittingLaws_3 : decode cX5_fittingLaws 3 = .ok (.istore_n 3, 1) := by decide +kernel
theorem dX5_fittingLaws_4 : decode cX5_fittingLaws 4 = .ok (.iload_n 3, 1) := by decide +kernel
theorem dX5_fittingLaws_5 : decode cX5_fittingLaws 5 = .ok (.iconst 3, 1) := by decide +kernel
theorem dX5_fittingLaws_6 : decode cX5_fittingLaws 6 = .ok (.if_icmp .ge 24, 3) := by decide +kernel
theorem dX5_fittingLaws_9 : decode cX5_fittingLaws 9 = .ok (.aload_n 0, 1) := by decide +kernel
theorem dX5_fittingLaws_10 : decode cX5_fittingLaws 10 = .ok (.iload_n 1, 1) := by decide +kernel
theorem dX5_fittingLaws_11 : decode cX5_fittingLaws 11 = .ok (.iload_n 3, 1) := by decide +kernel
theorem dX5_fittingLaws_12 : decode cX5_fittingLaws 12 = .ok (.invokevirtual 261, 3) := by decide +kernel
theorem dX5_fittingLaws_15 : decode cX5_fittingLaws 15 = .ok (.ifCond .eq 9, 3) := by decide +kernel
theorem dX5_fittingLaws_18 : decode cX5_fittingLaws 18 = .ok (.iload_n 2, 1) := by decide +kernel
theorem dX5_fittingLaws_19 : decode cX5_fittingLaws 19 = .ok (.iconst 1, 1) := by decide +kernel
theorem dX5_fittingLaws_20 : decode cX5_fittingLaws 20 = .ok (.iload_n 3, 1) := by decide +kernel
theorem dX5_fittingLaws_21 : decode cX5_fittingLaws 21 = .ok (.ishl, 1) := by decide +kernel
theorem dX5_fittingLaws_22 : decode cX5_fittingLaws 22 = .ok (.ior, 1) := by decide +kernel
theorem dX5_fittingLaws_23 : decode cX5_fittingLaws 23 = .ok (.istore_n 2, 1) := by decide +kernel
theorem dX5_fittingLaws_24 : decode cX5_fittingLaws 24 = .ok (.iinc 3 1, 3) := by decide +kernel
theorem dX5_fittingLaws_27 : decode cX5_fittingLaws 27 = .ok (.goto (-23), 3) := by decide +kernel
theorem dX5_fittingLaws_30 : decode cX5_fittingLaws 30 = .ok (.iload_n 2, 1) := by decide +kernel
theorem dX5_fittingLaws_31 : decode cX5_fittingLaws 31 = .ok (.ireturn, 1) := by decide +kernel
set_option maxRecDepth 20000 in
theorem ggX5_fitsSeen_X5_whom : GoodIn wsX5_fitsSeen wsX5_whom := goodIn_r _ [10, 11, 12, 13, 14, 15, 16, 17, 18, 19, 20, 9, 21, 22, 23, 24, 25, 26, 27, 28, 29, 30, 31, 32, 33, 34, 35, 36, 50, 51, 52, 53, 54, 55, 56, 37, 38, 39, 40, 41, 42, 43, 44, 45, 46, 47, 57, 58, 59, 60, 61, 62] (by decide +kernel) (by decide +kernel)
set_option maxRecDepth 20000 in
theorem gX5_fitsSeen_X5_whom : GoodIn wsX5_fitsSeen (wsV RX5 94 RX5 yX5_whom wsX5_whom) := goodIn_app (goodIn_of _ (by decide +kernel)) ggX5_fitsSeen_X5_whom
theorem dX5_fitsSeen_0 : decode cX5_fitsSeen 0 = .ok (.aload_n 0, 1) := by decide +kernel
theorem dX5_fitsSeen_1 : decode cX5_fitsSeen 1 = .ok (.aload_n 0, 1) := by decide +kernel
theorem dX5_fitsSeen_2 : decode cX5_fitsSeen 2 = .ok (.getfield 29, 3) := by decide +kernel
theorem dX5_fitsSeen_5 : decode cX5_fitsSeen 5 = .ok (.getfield 76, 3) := by decide +kernel
theorem dX5_fitsSeen_8 : decode cX5_fitsSeen 8 = .ok (.iload_n 1, 1) := by decide +kernel
theorem dX5_fitsSeen_9 : decode cX5_fitsSeen 9 = .ok (.iload_n 2, 1) := by decide +kernel
theorem dX5_fitsSeen_10 : decode cX5_fitsSeen 10 = .ok (.invokevirtual 94, 3) := by decide +kernel
theorem dX5_fitsSeen_13 : decode cX5_fitsSeen 13 = .ok (.istore_n 3, 1) := by decide +kernel
theorem dX5_fitsSeen_14 : decode cX5_fitsSeen 14 = .ok (.iconst 0, 1) := by decide +kernel
theorem dX5_fitsSeen_15 : decode cX5_fitsSeen 15 = .ok (.istore 4, 2) := by decide +kernel
theorem dX5_fitsSeen_17 : decode cX5_fitsSeen 17 = .ok (.iload 4, 2) := by decide +kernel
theorem dX5_fitsSeen_19 : decode cX5_fitsSeen 19 = .ok (.aload_n 0, 1) := by decide +kernel
theorem dX5_fitsSeen_20 : decode cX5_fitsSeen 20 = .ok (.getfield 194, 3) := by decide +kernel
theorem dX5_fitsSeen_23 : decode cX5_fitsSeen 23 = .ok (.if_icmp .ge 33, 3) := by decide +kernel
theorem dX5_fitsSeen_26 : decode cX5_fitsSeen 26 = .ok (.aload_n 0, 1) := by decide +kernel
theorem dX5_fitsSeen_27 : decode cX5_fitsSeen 27 = .ok (.getfield 44, 3) := by decide +kernel
theorem dX5_fitsSeen_30 : decode cX5_fitsSeen 30 = .ok (.iload 4, 2) := by decide +kernel
theorem dX5_fitsSeen_32 : decode cX5_fitsSeen 32 = .ok (.iaload, 1) := by decide +kernel
theorem dX5_fitsSeen_33 : decode cX5_fitsSeen 33 = .ok (.iload_n 1, 1) := by decide +kernel
theorem dX5_fitsSeen_34 : decode cX5_fitsSeen 34 = .ok (.if_icmp .ne 16, 3) := by decide +kernel
theorem dX5_fitsSeen_37 : decode cX5_fitsSeen 37 = .ok (.aload_n 0, 1) := by decide +kernel
theorem dX5_fitsSeen_38 : decode cX5_fitsSeen 38 = .ok (.getfield 48, 3) := by decide +kernel
theorem dX5_fitsSeen_41 : decode cX5_fitsSeen 41 = .ok (.iload 4, 2) := by decide +kernel
theorem dX5_fitsSeen_43 : decode cX5_fitsSeen 43 = .ok (.iaload, 1) := by decide +kernel
theorem dX5_fitsSeen_44 : decode cX5_fitsSeen 44 = .ok (.iload_n 3, 1) := by decide +kernel
theorem dX5_fitsSeen_45 : decode cX5_fitsSeen 45 = .ok (.if_icmp .eq 5, 3) := by decide +kernel
theorem dX5_fitsSeen_48 : decode cX5_fitsSeen 48 = .ok (.iconst 0, 1) := by decide +kernel
theorem dX5_fitsSeen_49 : decode cX5_fitsSeen 49 = .ok (.ireturn, 1) := by decide +kernel
theorem dX5_fitsSeen_50 : decode cX5_fitsSeen 50 = .ok (.iinc 4 1, 3) := by decide +kernel
theorem dX5_fitsSeen_53 : decode cX5_fitsSeen 53 = .ok (.goto (-36), 3) := by decide +kernel
theorem dX5_fitsSeen_56 : decode cX5_fitsSeen 56 = .ok (.iconst 1, 1) := by decide +kernel
theorem dX5_fitsSeen_57 : decode cX5_fitsSeen 57 = .ok (.ireturn, 1) := by decide +kernel
theorem dX5_riderMark_0 : decode cX5_riderMark 0 = .ok (.aload_n 0, 1) := by decide +kernel
theorem dX5_riderMark_1 : decode cX5_riderMark 1 = .ok (.dup, 1) := by decide +kernel
theorem dX5_riderMark_2 : decode cX5_riderMark 2 = .ok (.getfield 231, 3) := by decide +kernel
theorem dX5_riderMark_5 : decode cX5_riderMark 5 = .ok (.lconst 1, 1) := by decide +kernel
theorem dX5_riderMark_6 : decode cX5_riderMark 6 = .ok (.ladd, 1) := by decide +kernel
theorem dX5_riderMark_7 : decode cX5_riderMark 7 = .ok (.putfield 231, 3) := by decide +kernel
theorem dX5_riderMark_10 : decode cX5_riderMark 10 = .ok (.aload_n 0, 1) := by decide +kernel
theorem dX5_riderMark_11 : decode cX5_riderMark 11 = .ok (.getfield 29, 3) := by decide +kernel
theorem dX5_riderMark_14 : decode cX5_riderMark 14 = .ok (.getfield 76, 3) := by decide +kernel
theorem dX5_riderMark_17 : decode cX5_riderMark 17 = .ok (.getfield 79, 3) := by decide +kernel
theorem dX5_riderMark_20 : decode cX5_riderMark 20 = .ok (.iload_n 1, 1) := by decide +kernel
theorem dX5_riderMark_21 : decode cX5_riderMark 21 = .ok (.iaload, 1) := by decide +kernel
theorem dX5_riderMark_22 : decode cX5_riderMark 22 = .ok (.ireturn, 1) := by decide +kernel
set_option maxRecDepth 20000 in
theorem ggX5_nunMark_X5_riderMark : GoodIn wsX5_nunMark wsX5_riderMark := goodIn_r _ [9, 1, 10, 11, 12, 13, 14, 15, 16, 17, 18, 19, 20, 21, 22, 23, 30, 31, 32, 33, 34, 35, 36, 37, 38] (by decide +kernel) (by decide +kernel)
set_option maxRecDepth 20000 in
theorem gX5_nunMark_X5_riderMark : GoodIn wsX5_nunMark (wsV RX5 204 RX5 yX5_riderMark wsX5_riderMark) := goodIn_app (goodIn_of _ (by decide +kernel)) ggX5_nunMark_X5_riderMark
theorem dX5_nunMark_0 : decode cX5_nunMark 0 = .ok (.aload_n 0, 1) := by decide +kernel
theorem dX5_nunMark_1 : decode cX5_nunMark 1 = .ok (.dup, 1) := by decide +kernel
theorem dX5_nunMark_2 : decode cX5_nunMark 2 = .ok (.getfield 231, 3) := by decide +kernel
theorem dX5_nunMark_5 : decode cX5_nunMark 5 = .ok (.ldc2_w 264, 3) := by decide +kernel
theorem dX5_nunMark_8 : decode cX5_nunMark 8 = .ok (.ladd, 1) := by decide +kernel
theorem dX5_nunMark_9 : decode cX5_nunMark 9 = .ok (.putfield 231, 3) := by decide +kernel
theorem dX5_nunMark_12 : decode cX5_nunMark 12 = .ok (.aload_n 0, 1) := by decide +kernel
theorem dX5_nunMark_13 : decode cX5_nunMark 13 = .ok (.iload_n 1, 1) := by decide +kernel
theorem dX5_nunMark_14 : decode cX5_nunMark 14 = .ok (.invokevirtual 204, 3) := by decide +kernel
theorem dX5_nunMark_17 : decode cX5_nunMark 17 = .ok (.aload_n 0, 1) := by decide +kernel
theorem dX5_nunMark_18 : decode cX5_nunMark 18 = .ok (.getfield 19, 3) := by decide +kernel
theorem dX5_nunMark_21 : decode cX5_nunMark 21 = .ok (.getfield 82, 3) := by decide +kernel
theorem dX5_nunMark_24 : decode cX5_nunMark 24 = .ok (.iload_n 1, 1) := by decide +kernel
theorem dX5_nunMark_25 : decode cX5_nunMark 25 = .ok (.iaload, 1) := by decide +kernel
theorem dX5_nunMark_26 : decode cX5_nunMark 26 = .ok (.iadd, 1) := by decide +kernel
theorem dX5_nunMark_27 : decode cX5_nunMark 27 = .ok (.ireturn, 1) := by decide +kernel
set_option maxRecDepth 20000 in
theorem ggX5_boyMark_X5_riderMark : GoodIn wsX5_boyMark wsX5_riderMark := goodIn_r _ [7, 1, 8, 9, 10, 23, 24, 25, 26, 27, 28, 29, 30, 31, 32, 33, 34, 35, 36, 37, 38, 39, 40, 41, 42] (by decide +kernel) (by decide +kernel)
set_option maxRecDepth 20000 in
theorem gX5_boyMark_X5_riderMark : GoodIn wsX5_boyMark (wsV RX5 204 RX5 yX5_riderMark wsX5_riderMark) := goodIn_app (goodIn_of _ (by decide +kernel)) ggX5_boyMark_X5_riderMark
set_option maxRecDepth 20000 in
theorem ggX5_boyMark_X5_thinkersOf : GoodIn wsX5_boyMark wsX5_thinkersOf := goodIn_r _ [14, 15, 16, 8, 9, 17, 18, 19, 20, 21, 22, 23, 24, 25, 26, 27, 28, 29, 30, 31, 32, 33, 43, 44, 45, 46, 47, 48, 34, 35, 36, 37, 38, 39, 40, 41, 42] (by decide +kernel) (by decide +kernel)
set_option maxRecDepth 20000 in
theorem gX5_boyMark_X5_thinkersOf : GoodIn wsX5_boyMark (wsV RX5 268 RX5 yX5_thinkersOf wsX5_thinkersOf) := goodIn_app (goodIn_of _ (by decide +kernel)) ggX5_boyMark_X5_thinkersOf
theorem dX5_boyMark_0 : decode cX5_boyMark 0 = .ok (.aload_n 0, 1) := by decide +kernel
theorem dX5_boyMark_1 : decode cX5_boyMark 1 = .ok (.dup, 1) := by decide +kernel
theorem dX5_boyMark_2 : decode cX5_boyMark 2 = .ok (.getfield 231, 3) := by decide +kernel
theorem dX5_boyMark_5 : decode cX5_boyMark 5 = .ok (.ldc2_w 266, 3) := by decide +kernel
theorem dX5_boyMark_8 : decode cX5_boyMark 8 = .ok (.ladd, 1) := by decide +kernel
theorem dX5_boyMark_9 : decode cX5_boyMark 9 = .ok (.putfield 231, 3) := by decide +kernel
theorem dX5_boyMark_12 : decode cX5_boyMark 12 = .ok (.aload_n 0, 1) := by decide +kernel
theorem dX5_boyMark_13 : decode cX5_boyMark 13 = .ok (.iload_n 1, 1) := by decide +kernel
theorem dX5_boyMark_14 : decode cX5_boyMark 14 = .ok (.invokevirtual 204, 3) := by decide +kernel
theorem dX5_boyMark_17 : decode cX5_boyMark 17 = .ok (.aload_n 0, 1) := by decide +kernel
theorem dX5_boyMark_18 : decode cX5_boyMark 18 = .ok (.iload_n 1, 1) := by decide +kernel
theorem dX5_boyMark_19 : decode cX5_boyMark 19 = .ok (.invokevirtual 268, 3) := by decide +kernel
theorem dX5_boyMark_22 : decode cX5_boyMark 22 = .ok (.isub, 1) := by decide +kernel
theorem dX5_boyMark_23 : decode cX5_boyMark 23 = .ok (.ireturn, 1) := by decide +kernel
set_option maxRecDepth 20000 in
theorem ggX5_widowerMark_X5_nunMark : GoodIn wsX5_widowerMark wsX5_nunMark := goodIn_r _ [7, 1, 8, 9, 10, 11, 12, 13, 6, 14, 15, 16, 17, 18, 19, 20, 21, 22, 23, 24, 25, 26, 27, 28, 29, 30, 31, 32, 33, 34, 35, 36, 37, 38, 39, 40, 41, 42, 43] (by decide +kernel) (by decide +kernel)
set_option maxRecDepth 20000 in
theorem gX5_widowerMark_X5_nunMark : GoodIn wsX5_widowerMark (wsV RX5 207 RX5 yX5_nunMark wsX5_nunMark) := goodIn_app (goodIn_of _ (by decide +kernel)) ggX5_widowerMark_X5_nunMark
theorem dX5_widowerMark_0 : decode cX5_widowerMark 0 = .ok (.aload_n 0, 1) := by decide +kernel
theorem dX5_widowerMark_1 : decode cX5_widowerMark 1 = .ok (.dup, 1) := by decide +kernel
theorem dX5_widowerMark_2 : decode cX5_widowerMark 2 = .ok (.getfield 231, 3) := by decide +kernel
theorem dX5_widowerMark_5 : decode cX5_widowerMark 5 = .ok (.ldc2_w 271, 3) := by decide +kernel
theorem dX5_widowerMark_8 : decode cX5_widowerMark 8 = .ok (.ladd, 1) := by decide +kernel
theorem dX5_widowerMark_9 : decode cX5_widowerMark 9 = .ok (.putfield 231, 3) := by decide +kernel
theorem dX5_widowerMark_12 : decode cX5_widowerMark 12 = .ok (.aload_n 0, 1) := by decide +kernel
theorem dX5_widowerMark_13 : decode cX5_widowerMark 13 = .ok (.iload_n 1, 1) := by decide +kernel
theorem dX5_widowerMark_14 : decode cX5_widowerMark 14 = .ok (.invokevirtual 207, 3) := by decide +kernel
theorem dX5_widowerMark_17 : decode cX5_widowerMark 17 = .ok (.iconst 2, 1) := by decide +kernel
theorem dX5_widowerMark_18 : decode cX5_widowerMark 18 = .ok (.imul, 1) := by decide +kernel
theorem dX5_widowerMark_19 : decode cX5_widowerMark 19 = .ok (.ireturn, 1) := by decide +kernel
set_option maxRecDepth 20000 in
theorem ggX5_girlMark_X5_boyMark : GoodIn wsX5_girlMark wsX5_boyMark := goodIn_r _ [7, 1, 8, 9, 10, 11, 6, 12, 13, 14, 15, 16, 17, 18, 19, 20, 21, 22, 23, 24, 25, 26, 27, 28, 29, 30, 31, 32, 33, 34, 35, 36, 37, 38, 39, 40, 41, 42, 43, 44, 45, 46, 47, 48, 49, 50, 51, 52, 53] (by decide +kernel) (by decide +kernel)
set_option maxRecDepth 20000 in
theorem gX5_girlMark_X5_boyMark : GoodIn wsX5_girlMark (wsV RX5 210 RX5 yX5_boyMark wsX5_boyMark) := goodIn_app (goodIn_of _ (by decide +kernel)) ggX5_girlMark_X5_boyMark
theorem dX5_girlMark_0 : decode cX5_girlMark 0 = .ok (.aload_n 0, 1) := by decide +kernel
theorem dX5_girlMark_1 : decode cX5_girlMark 1 = .ok (.dup, 1) := by decide +kernel
theorem dX5_girlMark_2 : decode cX5_girlMark 2 = .ok (.getfield 231, 3) := by decide +kernel
theorem dX5_girlMark_5 : decode cX5_girlMark 5 = .ok (.ldc2_w 273, 3) := by decide +kernel
theorem dX5_girlMark_8 : decode cX5_girlMark 8 = .ok (.ladd, 1) := by decide +kernel
theorem dX5_girlMark_9 : decode cX5_girlMark 9 = .ok (.putfield 231, 3) := by decide +kernel
theorem dX5_girlMark_12 : decode cX5_girlMark 12 = .ok (.aload_n 0, 1) := by decide +kernel
theorem dX5_girlMark_13 : decode cX5_girlMark 13 = .ok (.iload_n 1, 1) := by decide +kernel
theorem dX5_girlMark_14 : decode cX5_girlMark 14 = .ok (.invokevirtual 210, 3) := by decide +kernel
theorem dX5_girlMark_17 : decode cX5_girlMark 17 = .ok (.iload_n 1, 1) := by decide +kernel
theorem dX5_girlMark_18 : decode cX5_girlMark 18 = .ok (.iadd, 1) := by decide +kernel
theorem dX5_girlMark_19 : decode cX5_girlMark 19 = .ok (.ireturn, 1) := by decide +kernel
set_option maxRecDepth 20000 in
theorem ggX5_driverMark_X5_riderMark : GoodIn wsX5_driverMark wsX5_riderMark := goodIn_r _ [10, 1, 3, 4, 11, 12, 13, 14, 15, 16, 17, 18, 19, 20, 21, 22, 23, 24, 25, 26, 27, 28, 29, 30, 31] (by decide +kernel) (by decide +kernel)
set_option maxRecDepth 20000 in
theorem gX5_driverMark_X5_riderMark : GoodIn wsX5_driverMark (wsV RX5 204 RX5 yX5_riderMark wsX5_riderMark) := goodIn_app (goodIn_of _ (by decide +kernel)) ggX5_driverMark_X5_riderMark
theorem dX5_driverMark_0 : decode cX5_driverMark 0 = .ok (.aload_n 0, 1) := by decide +kernel
theorem dX5_driverMark_1 : decode cX5_driverMark 1 = .ok (.dup, 1) := by decide +kernel
theorem dX5_driverMark_2 : decode cX5_driverMark 2 = .ok (.getfield 231, 3) := by decide +kernel
theorem dX5_driverMark_5 : decode cX5_driverMark 5 = .ok (.ldc2_w 275, 3) := by decide +kernel
theorem dX5_driverMark_8 : decode cX5_driverMark 8 = .ok (.ladd, 1) := by decide +kernel
theorem dX5_driverMark_9 : decode cX5_driverMark 9 = .ok (.putfield 231, 3) := by decide +kernel
theorem dX5_driverMark_12 : decode cX5_driverMark 12 = .ok (.aload_n 0, 1) := by decide +kernel
theorem dX5_driverMark_13 : decode cX5_driverMark 13 = .ok (.iload_n 1, 1) := by decide +kernel
theorem dX5_driverMark_14 : decode cX5_driverMark 14 = .ok (.invokevirtual 204, 3) := by decide +kernel
theorem dX5_driverMark_17 : decode cX5_driverMark 17 = .ok (.aload_n 0, 1) := by decide +kernel
theorem dX5_driverMark_18 : decode cX5_driverMark 18 = .ok (.getfield 29, 3) := by decide +kernel
theorem dX5_driverMark_21 : decode cX5_driverMark 21 = .ok (.getfield 76, 3) := by decide +kernel
theorem dX5_driverMark_24 : decode cX5_driverMark 24 = .ok (.getfield 116, 3) := by decide +kernel
theorem dX5_driverMark_27 : decode cX5_driverMark 27 = .ok (.iadd, 1) := by decide +kernel
theorem dX5_driverMark_28 : decode cX5_driverMark 28 = .ok (.ireturn, 1) := by decide +kernel
set_option maxRecDepth 20000 in
theorem ggX5_thinkersOf_X1_thoughtOf : GoodIn wsX5_thinkersOf wsX1_thoughtOf := goodIn_r _ [9, 10, 30, 31, 32, 33, 34, 35, 36] (by decide +kernel) (by decide +kernel)
set_option maxRecDepth 20000 in
theorem gX5_thinkersOf_X1_thoughtOf : GoodIn wsX5_thinkersOf (wsV RX5 112 RX1 yX1_thoughtOf wsX1_thoughtOf) := goodIn_app (goodIn_of _ (by decide +kernel)) ggX5_thinkersOf_X1_thoughtOf
theorem dX5_thinkersOf_0 : decode cX5_thinkersOf 0 = .ok (.iconst 0, 1) := by decide +kernel
theorem dX5_thinkersOf_1 : decode cX5_thinkersOf 1 = .ok (.istore_n 2, 1) := by decide +kernel
theorem dX5_thinkersOf_2 : decode cX5_thinkersOf 2 = .ok (.iconst 0, 1) := by decide +kernel
theorem dX5_thinkersOf_3 : decode cX5_thinkersOf 3 = .ok (.istore_n 3, 1) := by decide +kernel
theorem dX5_thinkersOf_4 : decode cX5_thinkersOf 4 = .ok (.iload_n 3, 1) := by decide +kernel
theorem dX5_thinkersOf_5 : decode cX5_thinkersOf 5 = .ok (.aload_n 0, 1) := by decide +kernel
theorem dX5_thinkersOf_6 : decode cX5_thinkersOf 6 = .ok (.getfield 19, 3) := by decide +kernel
theorem dX5_thinkersOf_9 : decode cX5_thinkersOf 9 = .ok (.getfield 200, 3) := by decide +kernel
theorem dX5_thinkersOf_12 : decode cX5_thinkersOf 12 = .ok (.if_icmp .ge 27, 3) := by decide +kernel
theorem dX5_thinkersOf_15 : decode cX5_thinkersOf 15 = .ok (.aload_n 0, 1) := by decide +kernel
theorem dX5_thinkersOf_16 : decode cX5_thinkersOf 16 = .ok (.getfield 29, 3) := by decide +kernel
theorem dX5_thinkersOf_19 : decode cX5_thinkersOf 19 = .ok (.getfield 76, 3) := by decide +kernel
theorem dX5_thinkersOf_22 : decode cX5_thinkersOf 22 = .ok (.iload_n 3, 1) := by decide +kernel
theorem dX5_thinkersOf_23 : decode cX5_thinkersOf 23 = .ok (.iload_n 1, 1) := by decide +kernel
theorem dX5_thinkersOf_24 : decode cX5_thinkersOf 24 = .ok (.invokevirtual 112, 3) := by decide +kernel
theorem dX5_thinkersOf_27 : decode cX5_thinkersOf 27 = .ok (.ifCond .le 6, 3) := by decide +kernel
theorem dX5_thinkersOf_30 : decode cX5_thinkersOf 30 = .ok (.iinc 2 1, 3) := by decide +kernel
theorem dX5_thinkersOf_33 : decode cX5_thinkersOf 33 = .ok (.iinc 3 1, 3) := by decide +kernel
theorem dX5_thinkersOf_36 : decode cX5_thinkersOf 36 = .ok (.goto (-32), 3) := by decide +kernel
theorem dX5_thinkersOf_39 : decode cX5_thinkersOf 39 = .ok (.iload_n 2, 1) := by decide +kernel
theorem dX5_thinkersOf_40 : decode cX5_thinkersOf 40 = .ok (.ireturn, 1) := by decide +kernel
set_option maxRecDepth 20000 in
theorem ggX6_init_X6_plain : GoodIn wsX6_init wsX6_plain := goodIn_r _ [23, 7, 11, 24, 30, 31, 32, 33, 34, 35, 36, 37, 38, 39, 40, 41, 42, 43, 44, 45, 46, 47, 48, 49, 50] (by decide +kernel) (by decide +kernel)
set_option maxRecDepth 20000 in
theorem gX6_init_X6_plain : GoodIn wsX6_init (wsV RX6 48 RX6 yX6_plain wsX6_plain) := goodIn_app (goodIn_of _ (by decide +kernel)) ggX6_init_X6_plain
set_option maxRecDepth 20000 in
theorem ggX6_init_X6_takeDraft : GoodIn wsX6_init wsX6_takeDraft := goodIn_r _ [28, 7, 11, 12, 9, 10, 8, 29, 14, 30, 31, 32, 33, 34, 35, 36, 37, 38, 39, 40, 41, 42, 43, 44, 45, 46, 47, 48, 49, 50] (by decide +kernel) (by decide +kernel)
set_option maxRecDepth 20000 in
theorem gX6_init_X6_takeDraft : GoodIn wsX6_init (wsV RX6 51 RX6 yX6_takeDraft wsX6_takeDraft) := goodIn_app (goodIn_of _ (by decide +kernel)) ggX6_init_X6_takeDraft
theorem dX6_init_0 : decode cX6_init 0 = .ok (.aload_n 0, 1) := by decide +kernel
theorem dX6_init_1 : decode cX6_init 1 = .ok (.invokespecial 1, 3) := by decide +kernel
theorem dX6_init_4 : decode cX6_init 4 = .ok (.aload_n 0, 1) := by decide +kernel
theorem dX6_init_5 : decode cX6_init 5 = .ok (.bipush 120, 2) := by decide +kernel
theorem dX6_init_7 : decode cX6_init 7 = .ok (.newarray .byte, 2) := by decide +kernel
theorem dX6_init_9 : decode cX6_init 9 = .ok (.putfield 7, 3) := by decide +kernel
theorem dX6_init_12 : decode cX6_init 12 = .ok (.aload_n 0, 1) := by decide +kernel
theorem dX6_init_13 : decode cX6_init 13 = .ok (.iconst 2, 1) := by decide +kernel
theorem dX6_init_14 : decode cX6_init 14 = .ok (.newarray .int, 2) := by decide +kernel
theorem dX6_init_16 : decode cX6_init 16 = .ok (.putfield 13, 3) := by decide +kernel
theorem dX6_init_19 : decode cX6_init 19 = .ok (.aload_n 0, 1) := by decide +kernel
theorem dX6_init_20 : decode cX6_init 20 = .ok (.bipush 6, 2) := by decide +kernel
theorem dX6_init_22 : decode cX6_init 22 = .ok (.newarray .int, 2) := by decide +kernel
theorem dX6_init_24 : decode cX6_init 24 = .ok (.putfield 17, 3) := by decide +kernel
end
section
theorem dX6_init_27 : decode cX6_init 27 = .ok (.aload_n 0, 1) := by decide +kernel
theorem dX6_init_28 : decode cX6_init 28 = .ok (.bipush 12, 2) := by decide +kernel
theorem dX6_init_30 : decode cX6_init 30 = .ok (.newarray .int, 2) := by decide +kernel
theorem dX6_init_32 : decode cX6_init 32 = .ok (.putfield 20, 3) := by decide +kernel
theorem dX6_init_35 : decode cX6_init 35 = .ok (.aload_n 0, 1) := by decide +kernel
theorem dX6_init_36 : decode cX6_init 36 = .ok (.bipush 12, 2) := by decide +kernel
theorem dX6_init_38 : decode cX6_init 38 = .ok (.newarray .int, 2) := by decide +kernel
theorem dX6_init_40 : decode cX6_init 40 = .ok (.putfield 23, 3) := by decide +kernel
theorem dX6_init_43 : decode cX6_init 43 = .ok (.aload_n 0, 1) := by decide +kernel
theorem dX6_init_44 : decode cX6_init 44 = .ok (.iconst 2, 1) := by decide +kernel
theorem dX6_init_45 : decode cX6_init 45 = .ok (.newarray .int, 2) := by decide +kernel
theorem dX6_init_47 : decode cX6_init 47 = .ok (.putfield 26, 3) := by decide +kernel
theorem dX6_init_50 : decode cX6_init 50 = .ok (.aload_n 0, 1) := by decide +kernel
theorem dX6_init_51 : decode cX6_init 51 = .ok (.sipush 1719, 3) := by decide +kernel
theorem dX6_init_54 : decode cX6_init 54 = .ok (.newarray .int, 2) := by decide +kernel
theorem dX6_init_56 : decode cX6_init 56 = .ok (.putfield 29, 3) := by decide +kernel
theorem dX6_init_59 : decode cX6_init 59 = .ok (.aload_n 0, 1) := by decide +kernel
theorem dX6_init_60 : decode cX6_init 60 = .ok (.iconst 2, 1) := by decide +kernel
theorem dX6_init_61 : decode cX6_init 61 = .ok (.newarray .boolean, 2) := by decide +kernel
theorem dX6_init_63 : decode cX6_init 63 = .ok (.putfield 32, 3) := by decide +kernel
theorem dX6_init_66 : decode cX6_init 66 = .ok (.aload_n 0, 1) := by decide +kernel
theorem dX6_init_67 : decode cX6_init 67 = .ok (.bipush 52, 2) := by decide +kernel
theorem dX6_init_69 : decode cX6_init 69 = .ok (.newarray .int, 2) := by decide +kernel
theorem dX6_init_71 : decode cX6_init 71 = .ok (.putfield 36, 3) := by decide +kernel
theorem dX6_init_74 : decode cX6_init 74 = .ok (.aload_n 0, 1) := by decide +kernel
theorem dX6_init_75 : decode cX6_init 75 = .ok (.bipush 6, 2) := by decide +kernel
theorem dX6_init_77 : decode cX6_init 77 = .ok (.newarray .int, 2) := by decide +kernel
theorem dX6_init_79 : decode cX6_init 79 = .ok (.putfield 39, 3) := by decide +kernel
theorem dX6_init_82 : decode cX6_init 82 = .ok (.aload_n 0, 1) := by decide +kernel
theorem dX6_init_83 : decode cX6_init 83 = .ok (.bipush 6, 2) := by decide +kernel
theorem dX6_init_85 : decode cX6_init 85 = .ok (.newarray .int, 2) := by decide +kernel
theorem dX6_init_87 : decode cX6_init 87 = .ok (.putfield 42, 3) := by decide +kernel
theorem dX6_init_90 : decode cX6_init 90 = .ok (.aload_n 0, 1) := by decide +kernel
theorem dX6_init_91 : decode cX6_init 91 = .ok (.bipush 6, 2) := by decide +kernel
theorem dX6_init_93 : decode cX6_init 93 = .ok (.newarray .int, 2) := by decide +kernel
theorem dX6_init_95 : decode cX6_init 95 = .ok (.putfield 45, 3) := by decide +kernel
theorem dX6_init_98 : decode cX6_init 98 = .ok (.aload_n 0, 1) := by decide +kernel
theorem dX6_init_99 : decode cX6_init 99 = .ok (.invokevirtual 48, 3) := by decide +kernel
theorem dX6_init_102 : decode cX6_init 102 = .ok (.aload_n 0, 1) := by decide +kernel
theorem dX6_init_103 : decode cX6_init 103 = .ok (.invokevirtual 51, 3) := by decide +kernel
theorem dX6_init_106 : decode cX6_init 106 = .ok (.return_, 1) := by decide +kernel
theorem dX6_in_0 : decode cX6_in 0 = .ok (.iload_n 0, 1) := by decide +kernel
theorem dX6_in_1 : decode cX6_in 1 = .ok (.iload_n 1, 1) := by decide +kernel
theorem dX6_in_2 : decode cX6_in 2 = .ok (.if_icmp .lt 12, 3) := by decide +kernel
theorem dX6_in_5 : decode cX6_in 5 = .ok (.iload_n 0, 1) := by decide +kernel
theorem dX6_in_6 : decode cX6_in 6 = .ok (.iload_n 2, 1) := by decide +kernel
theorem dX6_in_7 : decode cX6_in 7 = .ok (.if_icmp .gt 7, 3) := by decide +kernel
theorem dX6_in_10 : decode cX6_in 10 = .ok (.iconst 1, 1) := by decide +kernel
theorem dX6_in_11 : decode cX6_in 11 = .ok (.goto 4, 3) := by decide +kernel
theorem dX6_in_14 : decode cX6_in 14 = .ok (.iconst 0, 1) := by decide +kernel
theorem dX6_in_15 : decode cX6_in 15 = .ok (.ireturn, 1) := by decide +kernel
set_option maxRecDepth 20000 in
theorem ggX6_type_X6_in : GoodIn wsX6_type wsX6_in := goodIn_r _ [6] (by decide +kernel) (by decide +kernel)
set_option maxRecDepth 20000 in
theorem gX6_type_X6_in : GoodIn wsX6_type (va_wsS RX6 54 yX6_in wsX6_in) := goodIn_app (goodIn_of _ (by decide +kernel)) ggX6_type_X6_in
theorem dX6_type_0 : decode cX6_type 0 = .ok (.iload_n 1, 1) := by decide +kernel
theorem dX6_type_1 : decode cX6_type 1 = .ok (.iconst 0, 1) := by decide +kernel
theorem dX6_type_2 : decode cX6_type 2 = .ok (.sipush 255, 3) := by decide +kernel
theorem dX6_type_5 : decode cX6_type 5 = .ok (.invokestatic 54, 3) := by decide +kernel
theorem dX6_type_8 : decode cX6_type 8 = .ok (.ifCond .ne 5, 3) := by decide +kernel
theorem dX6_type_11 : decode cX6_type 11 = .ok (.iconst (-1), 1) := by decide +kernel
theorem dX6_type_12 : decode cX6_type 12 = .ok (.ireturn, 1) := by decide +kernel
theorem dX6_type_13 : decode cX6_type 13 = .ok (.aload_n 0, 1) := by decide +kernel
theorem dX6_type_14 : decode cX6_type 14 = .ok (.getfield 58, 3) := by decide +kernel
theorem dX6_type_17 : decode cX6_type 17 = .ok (.bipush 120, 2) := by decide +kernel
theorem dX6_type_19 : decode cX6_type 19 = .ok (.if_icmp .ne 6, 3) := by decide +kernel
theorem dX6_type_22 : decode cX6_type 22 = .ok (.bipush (-3), 2) := by decide +kernel
theorem dX6_type_24 : decode cX6_type 24 = .ok (.ireturn, 1) := by decide +kernel
theorem dX6_type_25 : decode cX6_type 25 = .ok (.aload_n 0, 1) := by decide +kernel
theorem dX6_type_26 : decode cX6_type 26 = .ok (.getfield 7, 3) := by decide +kernel
theorem dX6_type_29 : decode cX6_type 29 = .ok (.aload_n 0, 1) := by decide +kernel
theorem dX6_type_30 : decode cX6_type 30 = .ok (.getfield 58, 3) := by decide +kernel
theorem dX6_type_33 : decode cX6_type 33 = .ok (.iload_n 1, 1) := by decide +kernel
theorem dX6_type_34 : decode cX6_type 34 = .ok (.i2b, 1) := by decide +kernel
theorem dX6_type_35 : decode cX6_type 35 = .ok (.bastore, 1) := by decide +kernel
theorem dX6_type_36 : decode cX6_type 36 = .ok (.aload_n 0, 1) := by decide +kernel
theorem dX6_type_37 : decode cX6_type 37 = .ok (.dup, 1) := by decide +kernel
theorem dX6_type_38 : decode cX6_type 38 = .ok (.getfield 58, 3) := by decide +kernel
theorem dX6_type_41 : decode cX6_type 41 = .ok (.iconst 1, 1) := by decide +kernel
theorem dX6_type_42 : decode cX6_type 42 = .ok (.iadd, 1) := by decide +kernel
theorem dX6_type_43 : decode cX6_type 43 = .ok (.putfield 58, 3) := by decide +kernel
theorem dX6_type_46 : decode cX6_type 46 = .ok (.aload_n 0, 1) := by decide +kernel
theorem dX6_type_47 : decode cX6_type 47 = .ok (.getfield 58, 3) := by decide +kernel
theorem dX6_type_50 : decode cX6_type 50 = .ok (.ireturn, 1) := by decide +kernel
theorem dX6_clear_0 : decode cX6_clear 0 = .ok (.aload_n 0, 1) := by decide +kernel
theorem dX6_clear_1 : decode cX6_clear 1 = .ok (.getfield 58, 3) := by decide +kernel
theorem dX6_clear_4 : decode cX6_clear 4 = .ok (.istore_n 1, 1) := by decide +kernel
theorem dX6_clear_5 : decode cX6_clear 5 = .ok (.aload_n 0, 1) := by decide +kernel
theorem dX6_clear_6 : decode cX6_clear 6 = .ok (.iconst 0, 1) := by decide +kernel
theorem dX6_clear_7 : decode cX6_clear 7 = .ok (.putfield 58, 3) := by decide +kernel
theorem dX6_clear_10 : decode cX6_clear 10 = .ok (.iload_n 1, 1) := by decide +kernel
theorem dX6_clear_11 : decode cX6_clear 11 = .ok (.ireturn, 1) := by decide +kernel
theorem dX6_here_0 : decode cX6_here 0 = .ok (.aload_n 0, 1) := by decide +kernel
theorem dX6_here_1 : decode cX6_here 1 = .ok (.getfield 62, 3) := by decide +kernel
theorem dX6_here_4 : decode cX6_here 4 = .ok (.aload_n 0, 1) := by decide +kernel
theorem dX6_here_5 : decode cX6_here 5 = .ok (.getfield 58, 3) := by decide +kernel
theorem dX6_here_8 : decode cX6_here 8 = .ok (.if_icmp .ge 19, 3) := by decide +kernel
theorem dX6_here_11 : decode cX6_here 11 = .ok (.aload_n 0, 1) := by decide +kernel
theorem dX6_here_12 : decode cX6_here 12 = .ok (.getfield 7, 3) := by decide +kernel
theorem dX6_here_15 : decode cX6_here 15 = .ok (.aload_n 0, 1) := by decide +kernel
theorem dX6_here_16 : decode cX6_here 16 = .ok (.getfield 62, 3) := by decide +kernel
theorem dX6_here_19 : decode cX6_here 19 = .ok (.baload, 1) := by decide +kernel
theorem dX6_here_20 : decode cX6_here 20 = .ok (.sipush 255, 3) := by decide +kernel
theorem dX6_here_23 : decode cX6_here 23 = .ok (.iand, 1) := by decide +kernel
theorem dX6_here_24 : decode cX6_here 24 = .ok (.goto 4, 3) := by decide +kernel
theorem dX6_here_27 : decode cX6_here 27 = .ok (.iconst (-1), 1) := by decide +kernel
theorem dX6_here_28 : decode cX6_here 28 = .ok (.ireturn, 1) := by decide +kernel
set_option maxRecDepth 20000 in
theorem ggX6_step_X6_here : GoodIn wsX6_step wsX6_here := goodIn_r _ [9, 1, 10, 11, 15, 16, 17, 18, 19, 20, 21, 22, 23, 24, 25, 26, 27, 28, 29, 30, 31, 32, 33, 34, 35] (by decide +kernel) (by decide +kernel)
set_option maxRecDepth 20000 in
theorem gX6_step_X6_here : GoodIn wsX6_step (wsV RX6 65 RX6 yX6_here wsX6_here) := goodIn_app (goodIn_of _ (by decide +kernel)) ggX6_step_X6_here
set_option maxRecDepth 20000 in
theorem ggX6_step_X6_in : GoodIn wsX6_step wsX6_in := goodIn_r _ [14] (by decide +kernel) (by decide +kernel)
set_option maxRecDepth 20000 in
theorem gX6_step_X6_in : GoodIn wsX6_step (va_wsS RX6 54 yX6_in wsX6_in) := goodIn_app (goodIn_of _ (by decide +kernel)) ggX6_step_X6_in
theorem dX6_step_0 : decode cX6_step 0 = .ok (.aload_n 0, 1) := by decide +kernel
theorem dX6_step_1 : decode cX6_step 1 = .ok (.invokevirtual 65, 3) := by decide +kernel
theorem dX6_step_4 : decode cX6_step 4 = .ok (.bipush 32, 2) := by decide +kernel
theorem dX6_step_6 : decode cX6_step 6 = .ok (.if_icmp .ne 16, 3) := by decide +kernel
theorem dX6_step_9 : decode cX6_step 9 = .ok (.aload_n 0, 1) := by decide +kernel
theorem dX6_step_10 : decode cX6_step 10 = .ok (.dup, 1) := by decide +kernel
theorem dX6_step_11 : decode cX6_step 11 = .ok (.getfield 62, 3) := by decide +kernel
theorem dX6_step_14 : decode cX6_step 14 = .ok (.iconst 1, 1) := by decide +kernel
theorem dX6_step_15 : decode cX6_step 15 = .ok (.iadd, 1) := by decide +kernel
theorem dX6_step_16 : decode cX6_step 16 = .ok (.putfield 62, 3) := by decide +kernel
theorem dX6_step_19 : decode cX6_step 19 = .ok (.goto (-19), 3) := by decide +kernel
theorem dX6_step_22 : decode cX6_step 22 = .ok (.aload_n 0, 1) := by decide +kernel
theorem dX6_step_23 : decode cX6_step 23 = .ok (.aload_n 0, 1) := by decide +kernel
theorem dX6_step_24 : decode cX6_step 24 = .ok (.getfield 62, 3) := by decide +kernel
theorem dX6_step_27 : decode cX6_step 27 = .ok (.putfield 69, 3) := by decide +kernel
theorem dX6_step_30 : decode cX6_step 30 = .ok (.aload_n 0, 1) := by decide +kernel
theorem dX6_step_31 : decode cX6_step 31 = .ok (.iconst 0, 1) := by decide +kernel
theorem dX6_step_32 : decode cX6_step 32 = .ok (.putfield 72, 3) := by decide +kernel
theorem dX6_step_35 : decode cX6_step 35 = .ok (.aload_n 0, 1) := by decide +kernel
theorem dX6_step_36 : decode cX6_step 36 = .ok (.invokevirtual 65, 3) := by decide +kernel
theorem dX6_step_39 : decode cX6_step 39 = .ok (.istore_n 1, 1) := by decide +kernel
theorem dX6_step_40 : decode cX6_step 40 = .ok (.iload_n 1, 1) := by decide +kernel
theorem dX6_step_41 : decode cX6_step 41 = .ok (.ifCond .ge 11, 3) := by decide +kernel
theorem dX6_step_44 : decode cX6_step 44 = .ok (.aload_n 0, 1) := by decide +kernel
theorem dX6_step_45 : decode cX6_step 45 = .ok (.iconst 3, 1) := by decide +kernel
theorem dX6_step_46 : decode cX6_step 46 = .ok (.putfield 75, 3) := by decide +kernel
theorem dX6_step_49 : decode cX6_step 49 = .ok (.goto 204, 3) := by decide +kernel
theorem dX6_step_52 : decode cX6_step 52 = .ok (.iload_n 1, 1) := by decide +kernel
theorem dX6_step_53 : decode cX6_step 53 = .ok (.bipush 97, 2) := by decide +kernel
theorem dX6_step_55 : decode cX6_step 55 = .ok (.bipush 122, 2) := by decide +kernel
theorem dX6_step_57 : decode cX6_step 57 = .ok (.invokestatic 54, 3) := by decide +kernel
theorem dX6_step_60 : decode cX6_step 60 = .ok (.ifCond .eq 55, 3) := by decide +kernel
theorem dX6_step_63 : decode cX6_step 63 = .ok (.aload_n 0, 1) := by decide +kernel
theorem dX6_step_64 : decode cX6_step 64 = .ok (.invokevirtual 65, 3) := by decide +kernel
theorem dX6_step_67 : decode cX6_step 67 = .ok (.bipush 97, 2) := by decide +kernel
theorem dX6_step_69 : decode cX6_step 69 = .ok (.bipush 122, 2) := by decide +kernel
theorem dX6_step_71 : decode cX6_step 71 = .ok (.invokestatic 54, 3) := by decide +kernel
theorem dX6_step_74 : decode cX6_step 74 = .ok (.ifCond .eq 16, 3) := by decide +kernel
theorem dX6_step_77 : decode cX6_step 77 = .ok (.aload_n 0, 1) := by decide +kernel
theorem dX6_step_78 : decode cX6_step 78 = .ok (.dup, 1) := by decide +kernel
theorem dX6_step_79 : decode cX6_step 79 = .ok (.getfield 62, 3) := by decide +kernel
theorem dX6_step_82 : decode cX6_step 82 = .ok (.iconst 1, 1) := by decide +kernel
theorem dX6_step_83 : decode cX6_step 83 = .ok (.iadd, 1) := by decide +kernel
theorem dX6_step_84 : decode cX6_step 84 = .ok (.putfield 62, 3) := by decide +kernel
theorem dX6_step_87 : decode cX6_step 87 = .ok (.goto (-24), 3) := by decide +kernel
theorem dX6_step_90 : decode cX6_step 90 = .ok (.aload_n 0, 1) := by decide +kernel
theorem dX6_step_91 : decode cX6_step 91 = .ok (.aload_n 0, 1) := by decide +kernel
theorem dX6_step_92 : decode cX6_step 92 = .ok (.getfield 62, 3) := by decide +kernel
theorem dX6_step_95 : decode cX6_step 95 = .ok (.aload_n 0, 1) := by decide +kernel
theorem dX6_step_96 : decode cX6_step 96 = .ok (.getfield 69, 3) := by decide +kernel
theorem dX6_step_99 : decode cX6_step 99 = .ok (.isub, 1) := by decide +kernel
theorem dX6_step_100 : decode cX6_step 100 = .ok (.iconst 1, 1) := by decide +kernel
theorem dX6_step_101 : decode cX6_step 101 = .ok (.if_icmp .ne 7, 3) := by decide +kernel
theorem dX6_step_104 : decode cX6_step 104 = .ok (.iload_n 1, 1) := by decide +kernel
theorem dX6_step_105 : decode cX6_step 105 = .ok (.goto 4, 3) := by decide +kernel
theorem dX6_step_108 : decode cX6_step 108 = .ok (.iconst 4, 1) := by decide +kernel
theorem dX6_step_109 : decode cX6_step 109 = .ok (.putfield 75, 3) := by decide +kernel
theorem dX6_step_112 : decode cX6_step 112 = .ok (.goto 141, 3) := by decide +kernel
theorem dX6_step_115 : decode cX6_step 115 = .ok (.iload_n 1, 1) := by decide +kernel
theorem dX6_step_116 : decode cX6_step 116 = .ok (.bipush 48, 2) := by decide +kernel
theorem dX6_step_118 : decode cX6_step 118 = .ok (.bipush 57, 2) := by decide +kernel
theorem dX6_step_120 : decode cX6_step 120 = .ok (.invokestatic 54, 3) := by decide +kernel
theorem dX6_step_123 : decode cX6_step 123 = .ok (.ifCond .eq 105, 3) := by decide +kernel
theorem dX6_step_126 : decode cX6_step 126 = .ok (.aload_n 0, 1) := by decide +kernel
theorem dX6_step_127 : decode cX6_step 127 = .ok (.invokevirtual 65, 3) := by decide +kernel
theorem dX6_step_130 : decode cX6_step 130 = .ok (.bipush 48, 2) := by decide +kernel
theorem dX6_step_132 : decode cX6_step 132 = .ok (.bipush 57, 2) := by decide +kernel
theorem dX6_step_134 : decode cX6_step 134 = .ok (.invokestatic 54, 3) := by decide +kernel
theorem dX6_step_137 : decode cX6_step 137 = .ok (.ifCond .eq 51, 3) := by decide +kernel
theorem dX6_step_140 : decode cX6_step 140 = .ok (.aload_n 0, 1) := by decide +kernel
theorem dX6_step_141 : decode cX6_step 141 = .ok (.aload_n 0, 1) := by decide +kernel
theorem dX6_step_142 : decode cX6_step 142 = .ok (.getfield 72, 3) := by decide +kernel
theorem dX6_step_145 : decode cX6_step 145 = .ok (.bipush 99, 2) := by decide +kernel
theorem dX6_step_147 : decode cX6_step 147 = .ok (.if_icmp .le 10, 3) := by decide +kernel
theorem dX6_step_150 : decode cX6_step 150 = .ok (.aload_n 0, 1) := by decide +kernel
theorem dX6_step_151 : decode cX6_step 151 = .ok (.getfield 72, 3) := by decide +kernel
theorem dX6_step_154 : decode cX6_step 154 = .ok (.goto 18, 3) := by decide +kernel
theorem dX6_step_157 : decode cX6_step 157 = .ok (.bipush 10, 2) := by decide +kernel
theorem dX6_step_159 : decode cX6_step 159 = .ok (.aload_n 0, 1) := by decide +kernel
theorem dX6_step_160 : decode cX6_step 160 = .ok (.getfield 72, 3) := by decide +kernel
theorem dX6_step_163 : decode cX6_step 163 = .ok (.imul, 1) := by decide +kernel
theorem dX6_step_164 : decode cX6_step 164 = .ok (.aload_n 0, 1) := by decide +kernel
theorem dX6_step_165 : decode cX6_step 165 = .ok (.invokevirtual 65, 3) := by decide +kernel
theorem dX6_step_168 : decode cX6_step 168 = .ok (.iadd, 1) := by decide +kernel
theorem dX6_step_169 : decode cX6_step 169 = .ok (.bipush 48, 2) := by decide +kernel
theorem dX6_step_171 : decode cX6_step 171 = .ok (.isub, 1) := by decide +kernel
theorem dX6_step_172 : decode cX6_step 172 = .ok (.putfield 72, 3) := by decide +kernel
theorem dX6_step_175 : decode cX6_step 175 = .ok (.aload_n 0, 1) := by decide +kernel
theorem dX6_step_176 : decode cX6_step 176 = .ok (.dup, 1) := by decide +kernel
theorem dX6_step_177 : decode cX6_step 177 = .ok (.getfield 62, 3) := by decide +kernel
theorem dX6_step_180 : decode cX6_step 180 = .ok (.iconst 1, 1) := by decide +kernel
theorem dX6_step_181 : decode cX6_step 181 = .ok (.iadd, 1) := by decide +kernel
theorem dX6_step_182 : decode cX6_step 182 = .ok (.putfield 62, 3) := by decide +kernel
theorem dX6_step_185 : decode cX6_step 185 = .ok (.goto (-59), 3) := by decide +kernel
theorem dX6_step_188 : decode cX6_step 188 = .ok (.aload_n 0, 1) := by decide +kernel
theorem dX6_step_189 : decode cX6_step 189 = .ok (.aload_n 0, 1) := by decide +kernel
theorem dX6_step_190 : decode cX6_step 190 = .ok (.getfield 72, 3) := by decide +kernel
theorem dX6_step_193 : decode cX6_step 193 = .ok (.bipush 99, 2) := by decide +kernel
theorem dX6_step_195 : decode cX6_step 195 = .ok (.if_icmp .gt 22, 3) := by decide +kernel
theorem dX6_step_198 : decode cX6_step 198 = .ok (.iload_n 1, 1) := by decide +kernel
theorem dX6_step_199 : decode cX6_step 199 = .ok (.bipush 48, 2) := by decide +kernel
theorem dX6_step_201 : decode cX6_step 201 = .ok (.if_icmp .ne 20, 3) := by decide +kernel
theorem dX6_step_204 : decode cX6_step 204 = .ok (.aload_n 0, 1) := by decide +kernel
theorem dX6_step_205 : decode cX6_step 205 = .ok (.getfield 62, 3) := by decide +kernel
theorem dX6_step_208 : decode cX6_step 208 = .ok (.aload_n 0, 1) := by decide +kernel
theorem dX6_step_209 : decode cX6_step 209 = .ok (.getfield 69, 3) := by decide +kernel
theorem dX6_step_212 : decode cX6_step 212 = .ok (.isub, 1) := by decide +kernel
theorem dX6_step_213 : decode cX6_step 213 = .ok (.iconst 1, 1) := by decide +kernel
theorem dX6_step_214 : decode cX6_step 214 = .ok (.if_icmp .le 7, 3) := by decide +kernel
theorem dX6_step_217 : decode cX6_step 217 = .ok (.iconst 4, 1) := by decide +kernel
theorem dX6_step_218 : decode cX6_step 218 = .ok (.goto 4, 3) := by decide +kernel
theorem dX6_step_221 : decode cX6_step 221 = .ok (.iconst 1, 1) := by decide +kernel
theorem dX6_step_222 : decode cX6_step 222 = .ok (.putfield 75, 3) := by decide +kernel
theorem dX6_step_225 : decode cX6_step 225 = .ok (.goto 28, 3) := by decide +kernel
theorem dX6_step_228 : decode cX6_step 228 = .ok (.aload_n 0, 1) := by decide +kernel
theorem dX6_step_229 : decode cX6_step 229 = .ok (.dup, 1) := by decide +kernel
theorem dX6_step_230 : decode cX6_step 230 = .ok (.getfield 62, 3) := by decide +kernel
theorem dX6_step_233 : decode cX6_step 233 = .ok (.iconst 1, 1) := by decide +kernel
theorem dX6_step_234 : decode cX6_step 234 = .ok (.iadd, 1) := by decide +kernel
theorem dX6_step_235 : decode cX6_step 235 = .ok (.putfield 62, 3) := by decide +kernel
theorem dX6_step_238 : decode cX6_step 238 = .ok (.aload_n 0, 1) := by decide +kernel
theorem dX6_step_239 : decode cX6_step 239 = .ok (.iload_n 1, 1) := by decide +kernel
theorem dX6_step_240 : decode cX6_step 240 = .ok (.bipush 59, 2) := by decide +kernel
theorem dX6_step_242 : decode cX6_step 242 = .ok (.if_icmp .ne 7, 3) := by decide +kernel
theorem dX6_step_245 : decode cX6_step 245 = .ok (.iconst 2, 1) := by decide +kernel
theorem dX6_step_246 : decode cX6_step 246 = .ok (.goto 4, 3) := by decide +kernel
theorem dX6_step_249 : decode cX6_step 249 = .ok (.iconst 4, 1) := by decide +kernel
theorem dX6_step_250 : decode cX6_step 250 = .ok (.putfield 75, 3) := by decide +kernel
theorem dX6_step_253 : decode cX6_step 253 = .ok (.return_, 1) := by decide +kernel
set_option maxRecDepth 20000 in
theorem ggX6_due_X6_step : GoodIn wsX6_due wsX6_step := goodIn_r _ [8, 9, 3, 1, 10, 11, 12, 13, 7, 14, 15, 16, 17, 18, 19, 20, 21, 22, 23, 24, 25, 26, 27, 28, 29, 30, 31, 32, 33, 34, 35, 36, 37, 38, 39, 40] (by decide +kernel) (by decide +kernel)
set_option maxRecDepth 20000 in
theorem gX6_due_X6_step : GoodIn wsX6_due (wsV RX6 81 RX6 yX6_step wsX6_step) := goodIn_app (goodIn_of _ (by decide +kernel)) ggX6_due_X6_step
theorem dX6_due_0 : decode cX6_due 0 = .ok (.aload_n 0, 1) := by decide +kernel
theorem dX6_due_1 : decode cX6_due 1 = .ok (.getfield 72, 3) := by decide +kernel
theorem dX6_due_4 : decode cX6_due 4 = .ok (.istore_n 2, 1) := by decide +kernel
theorem dX6_due_5 : decode cX6_due 5 = .ok (.aload_n 0, 1) := by decide +kernel
theorem dX6_due_6 : decode cX6_due 6 = .ok (.getfield 78, 3) := by decide +kernel
theorem dX6_due_9 : decode cX6_due 9 = .ok (.bipush (-9), 2) := by decide +kernel
theorem dX6_due_11 : decode cX6_due 11 = .ok (.if_icmp .ne 22, 3) := by decide +kernel
theorem dX6_due_14 : decode cX6_due 14 = .ok (.iload_n 1, 1) := by decide +kernel
theorem dX6_due_15 : decode cX6_due 15 = .ok (.ifCond .eq 10, 3) := by decide +kernel
theorem dX6_due_18 : decode cX6_due 18 = .ok (.aload_n 0, 1) := by decide +kernel
theorem dX6_due_19 : decode cX6_due 19 = .ok (.invokevirtual 81, 3) := by decide +kernel
theorem dX6_due_22 : decode cX6_due 22 = .ok (.goto 11, 3) := by decide +kernel
theorem dX6_due_25 : decode cX6_due 25 = .ok (.aload_n 0, 1) := by decide +kernel
theorem dX6_due_26 : decode cX6_due 26 = .ok (.aload_n 0, 1) := by decide +kernel
theorem dX6_due_27 : decode cX6_due 27 = .ok (.getfield 69, 3) := by decide +kernel
theorem dX6_due_30 : decode cX6_due 30 = .ok (.putfield 78, 3) := by decide +kernel
theorem dX6_due_33 : decode cX6_due 33 = .ok (.iload_n 2, 1) := by decide +kernel
theorem dX6_due_34 : decode cX6_due 34 = .ok (.ireturn, 1) := by decide +kernel
set_option maxRecDepth 20000 in
theorem ggX6_number_X6_in : GoodIn wsX6_number wsX6_in := goodIn_r _ [6] (by decide +kernel) (by decide +kernel)
set_option maxRecDepth 20000 in
theorem gX6_number_X6_in : GoodIn wsX6_number (va_wsS RX6 54 yX6_in wsX6_in) := goodIn_app (goodIn_of _ (by decide +kernel)) ggX6_number_X6_in
set_option maxRecDepth 20000 in
theorem ggX6_number_X6_due : GoodIn wsX6_number wsX6_due := goodIn_r _ [10, 2, 11, 12, 13, 14, 15, 5, 16, 17, 1, 18, 19, 20, 21, 22, 23, 3, 4, 6, 24, 25, 26, 27, 28, 29, 30, 31, 32, 33, 34, 35, 36, 37, 38, 39, 40, 41, 42, 43, 44] (by decide +kernel) (by decide +kernel)
set_option maxRecDepth 20000 in
theorem gX6_number_X6_due : GoodIn wsX6_number (wsV RX6 84 RX6 yX6_due wsX6_due) := goodIn_app (goodIn_of _ (by decide +kernel)) ggX6_number_X6_due
theorem dX6_number_0 : decode cX6_number 0 = .ok (.aload_n 0, 1) := by decide +kernel
theorem dX6_number_1 : decode cX6_number 1 = .ok (.aload_n 0, 1) := by decide +kernel
theorem dX6_number_2 : decode cX6_number 2 = .ok (.getfield 75, 3) := by decide +kernel
theorem dX6_number_5 : decode cX6_number 5 = .ok (.iconst 1, 1) := by decide +kernel
theorem dX6_number_6 : decode cX6_number 6 = .ok (.if_icmp .ne 19, 3) := by decide +kernel
theorem dX6_number_9 : decode cX6_number 9 = .ok (.aload_n 0, 1) := by decide +kernel
theorem dX6_number_10 : decode cX6_number 10 = .ok (.getfield 72, 3) := by decide +kernel
theorem dX6_number_13 : decode cX6_number 13 = .ok (.iload_n 1, 1) := by decide +kernel
theorem dX6_number_14 : decode cX6_number 14 = .ok (.iload_n 2, 1) := by decide +kernel
theorem dX6_number_15 : decode cX6_number 15 = .ok (.invokestatic 54, 3) := by decide +kernel
theorem dX6_number_18 : decode cX6_number 18 = .ok (.ifCond .eq 7, 3) := by decide +kernel
theorem dX6_number_21 : decode cX6_number 21 = .ok (.iconst 1, 1) := by decide +kernel
theorem dX6_number_22 : decode cX6_number 22 = .ok (.goto 4, 3) := by decide +kernel
theorem dX6_number_25 : decode cX6_number 25 = .ok (.iconst 0, 1) := by decide +kernel
theorem dX6_number_26 : decode cX6_number 26 = .ok (.invokevirtual 84, 3) := by decide +kernel
theorem dX6_number_29 : decode cX6_number 29 = .ok (.ireturn, 1) := by decide +kernel
theorem dX6_mayBe_0 : decode cX6_mayBe 0 = .ok (.iload_n 1, 1) := by decide +kernel
theorem dX6_mayBe_1 : decode cX6_mayBe 1 = .ok (.bipush 114, 2) := by decide +kernel
theorem dX6_mayBe_3 : decode cX6_mayBe 3 = .ok (.if_icmp .ne 14, 3) := by decide +kernel
theorem dX6_mayBe_6 : decode cX6_mayBe 6 = .ok (.aload_n 0, 1) := by decide +kernel
theorem dX6_mayBe_7 : decode cX6_mayBe 7 = .ok (.getfield 13, 3) := by decide +kernel
theorem dX6_mayBe_10 : decode cX6_mayBe 10 = .ok (.iconst 1, 1) := by decide +kernel
theorem dX6_mayBe_11 : decode cX6_mayBe 11 = .ok (.iaload, 1) := by decide +kernel
theorem dX6_mayBe_12 : decode cX6_mayBe 12 = .ok (.bipush 6, 2) := by decide +kernel
theorem dX6_mayBe_14 : decode cX6_mayBe 14 = .ok (.if_icmp .lt 16, 3) := by decide +kernel
theorem dX6_mayBe_17 : decode cX6_mayBe 17 = .ok (.iload_n 1, 1) := by decide +kernel
theorem dX6_mayBe_18 : decode cX6_mayBe 18 = .ok (.bipush 108, 2) := by decide +kernel
theorem dX6_mayBe_20 : decode cX6_mayBe 20 = .ok (.if_icmp .ne 14, 3) := by decide +kernel
theorem dX6_mayBe_23 : decode cX6_mayBe 23 = .ok (.aload_n 0, 1) := by decide +kernel
theorem dX6_mayBe_24 : decode cX6_mayBe 24 = .ok (.getfield 88, 3) := by decide +kernel
theorem dX6_mayBe_27 : decode cX6_mayBe 27 = .ok (.ifCond .ne 7, 3) := by decide +kernel
theorem dX6_mayBe_30 : decode cX6_mayBe 30 = .ok (.iconst 1, 1) := by decide +kernel
theorem dX6_mayBe_31 : decode cX6_mayBe 31 = .ok (.goto 4, 3) := by decide +kernel
theorem dX6_mayBe_34 : decode cX6_mayBe 34 = .ok (.iconst 0, 1) := by decide +kernel
theorem dX6_mayBe_35 : decode cX6_mayBe 35 = .ok (.ireturn, 1) := by decide +kernel
set_option maxRecDepth 20000 in
theorem ggX6_readRow_X6_number : GoodIn wsX6_readRow wsX6_number := goodIn_r _ [11, 12, 13, 14, 15, 10, 16, 17, 18, 19, 20, 21, 22, 23, 24, 25, 26, 27, 28, 29, 30, 31, 32, 33, 34, 35, 36, 37, 38, 39, 40, 41, 42, 43, 44, 45, 46, 47, 48, 49, 50, 51, 52, 53, 54] (by decide +kernel) (by decide +kernel)
set_option maxRecDepth 20000 in
theorem gX6_readRow_X6_number : GoodIn wsX6_readRow (wsV RX6 92 RX6 yX6_number wsX6_number) := goodIn_app (goodIn_of _ (by decide +kernel)) ggX6_readRow_X6_number
theorem dX6_readRow_0 : decode cX6_readRow 0 = .ok (.iload_n 1, 1) := by decide +kernel
theorem dX6_readRow_1 : decode cX6_readRow 1 = .ok (.bipush 114, 2) := by decide +kernel
theorem dX6_readRow_3 : decode cX6_readRow 3 = .ok (.if_icmp .ne 75, 3) := by decide +kernel
theorem dX6_readRow_6 : decode cX6_readRow 6 = .ok (.aload_n 0, 1) := by decide +kernel
theorem dX6_readRow_7 : decode cX6_readRow 7 = .ok (.getfield 17, 3) := by decide +kernel
theorem dX6_readRow_10 : decode cX6_readRow 10 = .ok (.aload_n 0, 1) := by decide +kernel
theorem dX6_readRow_11 : decode cX6_readRow 11 = .ok (.getfield 13, 3) := by decide +kernel
theorem dX6_readRow_14 : decode cX6_readRow 14 = .ok (.iconst 1, 1) := by decide +kernel
theorem dX6_readRow_15 : decode cX6_readRow 15 = .ok (.iaload, 1) := by decide +kernel
theorem dX6_readRow_16 : decode cX6_readRow 16 = .ok (.aload_n 0, 1) := by decide +kernel
theorem dX6_readRow_17 : decode cX6_readRow 17 = .ok (.iconst 0, 1) := by decide +kernel
theorem dX6_readRow_18 : decode cX6_readRow 18 = .ok (.bipush 9, 2) := by decide +kernel
theorem dX6_readRow_20 : decode cX6_readRow 20 = .ok (.invokevirtual 92, 3) := by decide +kernel
theorem dX6_readRow_23 : decode cX6_readRow 23 = .ok (.iastore, 1) := by decide +kernel
theorem dX6_readRow_24 : decode cX6_readRow 24 = .ok (.aload_n 0, 1) := by decide +kernel
theorem dX6_readRow_25 : decode cX6_readRow 25 = .ok (.getfield 20, 3) := by decide +kernel
theorem dX6_readRow_28 : decode cX6_readRow 28 = .ok (.bipush 6, 2) := by decide +kernel
theorem dX6_readRow_30 : decode cX6_readRow 30 = .ok (.aload_n 0, 1) := by decide +kernel
theorem dX6_readRow_31 : decode cX6_readRow 31 = .ok (.getfield 13, 3) := by decide +kernel
theorem dX6_readRow_34 : decode cX6_readRow 34 = .ok (.iconst 1, 1) := by decide +kernel
theorem dX6_readRow_35 : decode cX6_readRow 35 = .ok (.iaload, 1) := by decide +kernel
theorem dX6_readRow_36 : decode cX6_readRow 36 = .ok (.iadd, 1) := by decide +kernel
theorem dX6_readRow_37 : decode cX6_readRow 37 = .ok (.aload_n 0, 1) := by decide +kernel
theorem dX6_readRow_38 : decode cX6_readRow 38 = .ok (.iconst 0, 1) := by decide +kernel
theorem dX6_readRow_39 : decode cX6_readRow 39 = .ok (.bipush 9, 2) := by decide +kernel
theorem dX6_readRow_41 : decode cX6_readRow 41 = .ok (.invokevirtual 92, 3) := by decide +kernel
theorem dX6_readRow_44 : decode cX6_readRow 44 = .ok (.iastore, 1) := by decide +kernel
theorem dX6_readRow_45 : decode cX6_readRow 45 = .ok (.aload_n 0, 1) := by decide +kernel
theorem dX6_readRow_46 : decode cX6_readRow 46 = .ok (.getfield 23, 3) := by decide +kernel
theorem dX6_readRow_49 : decode cX6_readRow 49 = .ok (.bipush 6, 2) := by decide +kernel
theorem dX6_readRow_51 : decode cX6_readRow 51 = .ok (.aload_n 0, 1) := by decide +kernel
theorem dX6_readRow_52 : decode cX6_readRow 52 = .ok (.getfield 13, 3) := by decide +kernel
theorem dX6_readRow_55 : decode cX6_readRow 55 = .ok (.iconst 1, 1) := by decide +kernel
theorem dX6_readRow_56 : decode cX6_readRow 56 = .ok (.iaload, 1) := by decide +kernel
theorem dX6_readRow_57 : decode cX6_readRow 57 = .ok (.iadd, 1) := by decide +kernel
theorem dX6_readRow_58 : decode cX6_readRow 58 = .ok (.aload_n 0, 1) := by decide +kernel
theorem dX6_readRow_59 : decode cX6_readRow 59 = .ok (.iconst 0, 1) := by decide +kernel
theorem dX6_readRow_60 : decode cX6_readRow 60 = .ok (.iconst 2, 1) := by decide +kernel
theorem dX6_readRow_61 : decode cX6_readRow 61 = .ok (.invokevirtual 92, 3) := by decide +kernel
theorem dX6_readRow_64 : decode cX6_readRow 64 = .ok (.iastore, 1) := by decide +kernel
theorem dX6_readRow_65 : decode cX6_readRow 65 = .ok (.aload_n 0, 1) := by decide +kernel
theorem dX6_readRow_66 : decode cX6_readRow 66 = .ok (.getfield 13, 3) := by decide +kernel
theorem dX6_readRow_69 : decode cX6_readRow 69 = .ok (.iconst 1, 1) := by decide +kernel
theorem dX6_readRow_70 : decode cX6_readRow 70 = .ok (.dup2, 1) := by decide +kernel
theorem dX6_readRow_71 : decode cX6_readRow 71 = .ok (.iaload, 1) := by decide +kernel
theorem dX6_readRow_72 : decode cX6_readRow 72 = .ok (.iconst 1, 1) := by decide +kernel
theorem dX6_readRow_73 : decode cX6_readRow 73 = .ok (.iadd, 1) := by decide +kernel
theorem dX6_readRow_74 : decode cX6_readRow 74 = .ok (.iastore, 1) := by decide +kernel
theorem dX6_readRow_75 : decode cX6_readRow 75 = .ok (.goto 21, 3) := by decide +kernel
theorem dX6_readRow_78 : decode cX6_readRow 78 = .ok (.aload_n 0, 1) := by decide +kernel
theorem dX6_readRow_79 : decode cX6_readRow 79 = .ok (.getfield 26, 3) := by decide +kernel
theorem dX6_readRow_82 : decode cX6_readRow 82 = .ok (.iconst 1, 1) := by decide +kernel
theorem dX6_readRow_83 : decode cX6_readRow 83 = .ok (.aload_n 0, 1) := by decide +kernel
theorem dX6_readRow_84 : decode cX6_readRow 84 = .ok (.iconst 1, 1) := by decide +kernel
theorem dX6_readRow_85 : decode cX6_readRow 85 = .ok (.bipush 20, 2) := by decide +kernel
theorem dX6_readRow_87 : decode cX6_readRow 87 = .ok (.invokevirtual 92, 3) := by decide +kernel
theorem dX6_readRow_90 : decode cX6_readRow 90 = .ok (.iastore, 1) := by decide +kernel
theorem dX6_readRow_91 : decode cX6_readRow 91 = .ok (.aload_n 0, 1) := by decide +kernel
theorem dX6_readRow_92 : decode cX6_readRow 92 = .ok (.iconst 1, 1) := by decide +kernel
theorem dX6_readRow_93 : decode cX6_readRow 93 = .ok (.putfield 88, 3) := by decide +kernel
theorem dX6_readRow_96 : decode cX6_readRow 96 = .ok (.return_, 1) := by decide +kernel
theorem dX6_plain_0 : decode cX6_plain 0 = .ok (.aload_n 0, 1) := by decide +kernel
theorem dX6_plain_1 : decode cX6_plain 1 = .ok (.getfield 13, 3) := by decide +kernel
theorem dX6_plain_4 : decode cX6_plain 4 = .ok (.iconst 1, 1) := by decide +kernel
theorem dX6_plain_5 : decode cX6_plain 5 = .ok (.iconst 0, 1) := by decide +kernel
theorem dX6_plain_6 : decode cX6_plain 6 = .ok (.iastore, 1) := by decide +kernel
theorem dX6_plain_7 : decode cX6_plain 7 = .ok (.aload_n 0, 1) := by decide +kernel
theorem dX6_plain_8 : decode cX6_plain 8 = .ok (.getfield 26, 3) := by decide +kernel
theorem dX6_plain_11 : decode cX6_plain 11 = .ok (.iconst 1, 1) := by decide +kernel
theorem dX6_plain_12 : decode cX6_plain 12 = .ok (.bipush 9, 2) := by decide +kernel
theorem dX6_plain_14 : decode cX6_plain 14 = .ok (.iastore, 1) := by decide +kernel
theorem dX6_plain_15 : decode cX6_plain 15 = .ok (.aload_n 0, 1) := by decide +kernel
theorem dX6_plain_16 : decode cX6_plain 16 = .ok (.iconst 0, 1) := by decide +kernel
theorem dX6_plain_17 : decode cX6_plain 17 = .ok (.putfield 88, 3) := by decide +kernel
theorem dX6_plain_20 : decode cX6_plain 20 = .ok (.return_, 1) := by decide +kernel
theorem dX6_takeDraft_0 : decode cX6_takeDraft 0 = .ok (.aload_n 0, 1) := by decide +kernel
theorem dX6_takeDraft_1 : decode cX6_takeDraft 1 = .ok (.getfield 13, 3) := by decide +kernel
theorem dX6_takeDraft_4 : decode cX6_takeDraft 4 = .ok (.iconst 0, 1) := by decide +kernel
theorem dX6_takeDraft_5 : decode cX6_takeDraft 5 = .ok (.aload_n 0, 1) := by decide +kernel
theorem dX6_takeDraft_6 : decode cX6_takeDraft 6 = .ok (.getfield 13, 3) := by decide +kernel
theorem dX6_takeDraft_9 : decode cX6_takeDraft 9 = .ok (.iconst 1, 1) := by decide +kernel
theorem dX6_takeDraft_10 : decode cX6_takeDraft 10 = .ok (.iaload, 1) := by decide +kernel
theorem dX6_takeDraft_11 : decode cX6_takeDraft 11 = .ok (.iastore, 1) := by decide +kernel
theorem dX6_takeDraft_12 : decode cX6_takeDraft 12 = .ok (.aload_n 0, 1) := by decide +kernel
theorem dX6_takeDraft_13 : decode cX6_takeDraft 13 = .ok (.getfield 26, 3) := by decide +kernel
theorem dX6_takeDraft_16 : decode cX6_takeDraft 16 = .ok (.iconst 0, 1) := by decide +kernel
theorem dX6_takeDraft_17 : decode cX6_takeDraft 17 = .ok (.aload_n 0, 1) := by decide +kernel
theorem dX6_takeDraft_18 : decode cX6_takeDraft 18 = .ok (.getfield 26, 3) := by decide +kernel
theorem dX6_takeDraft_21 : decode cX6_takeDraft 21 = .ok (.iconst 1, 1) := by decide +kernel
theorem dX6_takeDraft_22 : decode cX6_takeDraft 22 = .ok (.iaload, 1) := by decide +kernel
theorem dX6_takeDraft_23 : decode cX6_takeDraft 23 = .ok (.iastore, 1) := by decide +kernel
theorem dX6_takeDraft_24 : decode cX6_takeDraft 24 = .ok (.iconst 0, 1) := by decide +kernel
theorem dX6_takeDraft_25 : decode cX6_takeDraft 25 = .ok (.istore_n 1, 1) := by decide +kernel
theorem dX6_takeDraft_26 : decode cX6_takeDraft 26 = .ok (.iload_n 1, 1) := by decide +kernel
theorem dX6_takeDraft_27 : decode cX6_takeDraft 27 = .ok (.bipush 52, 2) := by decide +kernel
theorem dX6_takeDraft_29 : decode cX6_takeDraft 29 = .ok (.if_icmp .ge 16, 3) := by decide +kernel
theorem dX6_takeDraft_32 : decode cX6_takeDraft 32 = .ok (.aload_n 0, 1) := by decide +kernel
theorem dX6_takeDraft_33 : decode cX6_takeDraft 33 = .ok (.getfield 29, 3) := by decide +kernel
theorem dX6_takeDraft_36 : decode cX6_takeDraft 36 = .ok (.iload_n 1, 1) := by decide +kernel
theorem dX6_takeDraft_37 : decode cX6_takeDraft 37 = .ok (.iconst 0, 1) := by decide +kernel
theorem dX6_takeDraft_38 : decode cX6_takeDraft 38 = .ok (.iastore, 1) := by decide +kernel
theorem dX6_takeDraft_39 : decode cX6_takeDraft 39 = .ok (.iinc 1 1, 3) := by decide +kernel
theorem dX6_takeDraft_42 : decode cX6_takeDraft 42 = .ok (.goto (-16), 3) := by decide +kernel
theorem dX6_takeDraft_45 : decode cX6_takeDraft 45 = .ok (.iconst 0, 1) := by decide +kernel
theorem dX6_takeDraft_46 : decode cX6_takeDraft 46 = .ok (.istore_n 1, 1) := by decide +kernel
theorem dX6_takeDraft_47 : decode cX6_takeDraft 47 = .ok (.iload_n 1, 1) := by decide +kernel
theorem dX6_takeDraft_48 : decode cX6_takeDraft 48 = .ok (.bipush 6, 2) := by decide +kernel
theorem dX6_takeDraft_50 : decode cX6_takeDraft 50 = .ok (.if_icmp .ge 64, 3) := by decide +kernel
theorem dX6_takeDraft_53 : decode cX6_takeDraft 53 = .ok (.aload_n 0, 1) := by decide +kernel
theorem dX6_takeDraft_54 : decode cX6_takeDraft 54 = .ok (.getfield 20, 3) := by decide +kernel
theorem dX6_takeDraft_57 : decode cX6_takeDraft 57 = .ok (.iload_n 1, 1) := by decide +kernel
theorem dX6_takeDraft_58 : decode cX6_takeDraft 58 = .ok (.aload_n 0, 1) := by decide +kernel
theorem dX6_takeDraft_59 : decode cX6_takeDraft 59 = .ok (.getfield 20, 3) := by decide +kernel
theorem dX6_takeDraft_62 : decode cX6_takeDraft 62 = .ok (.bipush 6, 2) := by decide +kernel
theorem dX6_takeDraft_64 : decode cX6_takeDraft 64 = .ok (.iload_n 1, 1) := by decide +kernel
theorem dX6_takeDraft_65 : decode cX6_takeDraft 65 = .ok (.iadd, 1) := by decide +kernel
theorem dX6_takeDraft_66 : decode cX6_takeDraft 66 = .ok (.iaload, 1) := by decide +kernel
theorem dX6_takeDraft_67 : decode cX6_takeDraft 67 = .ok (.iastore, 1) := by decide +kernel
theorem dX6_takeDraft_68 : decode cX6_takeDraft 68 = .ok (.aload_n 0, 1) := by decide +kernel
theorem dX6_takeDraft_69 : decode cX6_takeDraft 69 = .ok (.getfield 23, 3) := by decide +kernel
theorem dX6_takeDraft_72 : decode cX6_takeDraft 72 = .ok (.iload_n 1, 1) := by decide +kernel
theorem dX6_takeDraft_73 : decode cX6_takeDraft 73 = .ok (.aload_n 0, 1) := by decide +kernel
theorem dX6_takeDraft_74 : decode cX6_takeDraft 74 = .ok (.getfield 23, 3) := by decide +kernel
theorem dX6_takeDraft_77 : decode cX6_takeDraft 77 = .ok (.bipush 6, 2) := by decide +kernel
theorem dX6_takeDraft_79 : decode cX6_takeDraft 79 = .ok (.iload_n 1, 1) := by decide +kernel
theorem dX6_takeDraft_80 : decode cX6_takeDraft 80 = .ok (.iadd, 1) := by decide +kernel
theorem dX6_takeDraft_81 : decode cX6_takeDraft 81 = .ok (.iaload, 1) := by decide +kernel
theorem dX6_takeDraft_82 : decode cX6_takeDraft 82 = .ok (.iastore, 1) := by decide +kernel
theorem dX6_takeDraft_83 : decode cX6_takeDraft 83 = .ok (.aload_n 0, 1) := by decide +kernel
theorem dX6_takeDraft_84 : decode cX6_takeDraft 84 = .ok (.getfield 29, 3) := by decide +kernel
theorem dX6_takeDraft_87 : decode cX6_takeDraft 87 = .ok (.iconst 4, 1) := by decide +kernel
theorem dX6_takeDraft_88 : decode cX6_takeDraft 88 = .ok (.iload_n 1, 1) := by decide +kernel
theorem dX6_takeDraft_89 : decode cX6_takeDraft 89 = .ok (.iadd, 1) := by decide +kernel
theorem dX6_takeDraft_90 : decode cX6_takeDraft 90 = .ok (.aload_n 0, 1) := by decide +kernel
theorem dX6_takeDraft_91 : decode cX6_takeDraft 91 = .ok (.getfield 17, 3) := by decide +kernel
theorem dX6_takeDraft_94 : decode cX6_takeDraft 94 = .ok (.iload_n 1, 1) := by decide +kernel
theorem dX6_takeDraft_95 : decode cX6_takeDraft 95 = .ok (.iaload, 1) := by decide +kernel
theorem dX6_takeDraft_96 : decode cX6_takeDraft 96 = .ok (.iastore, 1) := by decide +kernel
theorem dX6_takeDraft_97 : decode cX6_takeDraft 97 = .ok (.aload_n 0, 1) := by decide +kernel
theorem dX6_takeDraft_98 : decode cX6_takeDraft 98 = .ok (.getfield 29, 3) := by decide +kernel
theorem dX6_takeDraft_101 : decode cX6_takeDraft 101 = .ok (.bipush 10, 2) := by decide +kernel
theorem dX6_takeDraft_103 : decode cX6_takeDraft 103 = .ok (.iload_n 1, 1) := by decide +kernel
theorem dX6_takeDraft_104 : decode cX6_takeDraft 104 = .ok (.iadd, 1) := by decide +kernel
theorem dX6_takeDraft_105 : decode cX6_takeDraft 105 = .ok (.bipush (-9), 2) := by decide +kernel
theorem dX6_takeDraft_107 : decode cX6_takeDraft 107 = .ok (.iastore, 1) := by decide +kernel
theorem dX6_takeDraft_108 : decode cX6_takeDraft 108 = .ok (.iinc 1 1, 3) := by decide +kernel
theorem dX6_takeDraft_111 : decode cX6_takeDraft 111 = .ok (.goto (-64), 3) := by decide +kernel
theorem dX6_takeDraft_114 : decode cX6_takeDraft 114 = .ok (.aload_n 0, 1) := by decide +kernel
theorem dX6_takeDraft_115 : decode cX6_takeDraft 115 = .ok (.getfield 29, 3) := by decide +kernel
theorem dX6_takeDraft_118 : decode cX6_takeDraft 118 = .ok (.iconst 1, 1) := by decide +kernel
theorem dX6_takeDraft_119 : decode cX6_takeDraft 119 = .ok (.iconst 1, 1) := by decide +kernel
theorem dX6_takeDraft_120 : decode cX6_takeDraft 120 = .ok (.aload_n 0, 1) := by decide +kernel
theorem dX6_takeDraft_121 : decode cX6_takeDraft 121 = .ok (.getfield 13, 3) := by decide +kernel
theorem dX6_takeDraft_124 : decode cX6_takeDraft 124 = .ok (.iconst 0, 1) := by decide +kernel
theorem dX6_takeDraft_125 : decode cX6_takeDraft 125 = .ok (.iaload, 1) := by decide +kernel
theorem dX6_takeDraft_126 : decode cX6_takeDraft 126 = .ok (.ishl, 1) := by decide +kernel
theorem dX6_takeDraft_127 : decode cX6_takeDraft 127 = .ok (.iconst 1, 1) := by decide +kernel
theorem dX6_takeDraft_128 : decode cX6_takeDraft 128 = .ok (.isub, 1) := by decide +kernel
theorem dX6_takeDraft_129 : decode cX6_takeDraft 129 = .ok (.iastore, 1) := by decide +kernel
theorem dX6_takeDraft_130 : decode cX6_takeDraft 130 = .ok (.aload_n 0, 1) := by decide +kernel
theorem dX6_takeDraft_131 : decode cX6_takeDraft 131 = .ok (.getfield 29, 3) := by decide +kernel
theorem dX6_takeDraft_134 : decode cX6_takeDraft 134 = .ok (.bipush 52, 2) := by decide +kernel
theorem dX6_takeDraft_136 : decode cX6_takeDraft 136 = .ok (.iconst 0, 1) := by decide +kernel
theorem dX6_takeDraft_137 : decode cX6_takeDraft 137 = .ok (.iastore, 1) := by decide +kernel
theorem dX6_takeDraft_138 : decode cX6_takeDraft 138 = .ok (.aload_n 0, 1) := by decide +kernel
theorem dX6_takeDraft_139 : decode cX6_takeDraft 139 = .ok (.iconst 0, 1) := by decide +kernel
theorem dX6_takeDraft_140 : decode cX6_takeDraft 140 = .ok (.putfield 96, 3) := by decide +kernel
theorem dX6_takeDraft_143 : decode cX6_takeDraft 143 = .ok (.aload_n 0, 1) := by decide +kernel
theorem dX6_takeDraft_144 : decode cX6_takeDraft 144 = .ok (.getfield 32, 3) := by decide +kernel
theorem dX6_takeDraft_147 : decode cX6_takeDraft 147 = .ok (.iconst 0, 1) := by decide +kernel
theorem dX6_takeDraft_148 : decode cX6_takeDraft 148 = .ok (.iconst 0, 1) := by decide +kernel
theorem dX6_takeDraft_149 : decode cX6_takeDraft 149 = .ok (.bastore, 1) := by decide +kernel
theorem dX6_takeDraft_150 : decode cX6_takeDraft 150 = .ok (.aload_n 0, 1) := by decide +kernel
theorem dX6_takeDraft_151 : decode cX6_takeDraft 151 = .ok (.getfield 32, 3) := by decide +kernel
theorem dX6_takeDraft_154 : decode cX6_takeDraft 154 = .ok (.iconst 1, 1) := by decide +kernel
theorem dX6_takeDraft_155 : decode cX6_takeDraft 155 = .ok (.iconst 0, 1) := by decide +kernel
theorem dX6_takeDraft_156 : decode cX6_takeDraft 156 = .ok (.bastore, 1) := by decide +kernel
theorem dX6_takeDraft_157 : decode cX6_takeDraft 157 = .ok (.return_, 1) := by decide +kernel
set_option maxRecDepth 20000 in
theorem ggX6_car_X6_plain : GoodIn wsX6_car wsX6_plain := goodIn_r _ [9, 10, 11, 12, 53, 54, 55, 56, 57, 58, 59, 60, 61, 62, 63, 64, 65, 66, 67, 68, 69, 70, 71, 72, 73] (by decide +kernel) (by decide +kernel)
set_option maxRecDepth 20000 in
theorem gX6_car_X6_plain : GoodIn wsX6_car (wsV RX6 48 RX6 yX6_plain wsX6_plain) := goodIn_app (goodIn_of _ (by decide +kernel)) ggX6_car_X6_plain
set_option maxRecDepth 20000 in
theorem ggX6_car_X6_step : GoodIn wsX6_car wsX6_step := goodIn_r _ [16, 1, 17, 18, 3, 19, 20, 21, 8, 22, 4, 23, 24, 25, 26, 53, 54, 55, 56, 57, 58, 59, 60, 61, 62, 63, 64, 65, 66, 67, 68, 69, 70, 71, 72, 73] (by decide +kernel) (by decide +kernel)
set_option maxRecDepth 20000 in
theorem gX6_car_X6_step : GoodIn wsX6_car (wsV RX6 81 RX6 yX6_step wsX6_step) := goodIn_app (goodIn_of _ (by decide +kernel)) ggX6_car_X6_step
set_option maxRecDepth 20000 in
theorem ggX6_car_X6_mayBe : GoodIn wsX6_car wsX6_mayBe := goodIn_r _ [30, 10, 12, 53, 54, 55, 56, 57, 58, 59, 60, 61, 62, 63, 64, 65, 66, 67, 68, 69, 70, 71, 72, 73] (by decide +kernel) (by decide +kernel)
set_option maxRecDepth 20000 in
theorem gX6_car_X6_mayBe : GoodIn wsX6_car (wsV RX6 99 RX6 yX6_mayBe wsX6_mayBe) := goodIn_app (goodIn_of _ (by decide +kernel)) ggX6_car_X6_mayBe
set_option maxRecDepth 20000 in
theorem ggX6_car_X6_due : GoodIn wsX6_car wsX6_due := goodIn_r _ [34, 18, 2, 17, 13, 14, 15, 8, 16, 1, 3, 19, 20, 21, 22, 4, 23, 24, 25, 26, 53, 54, 55, 56, 57, 58, 59, 60, 61, 62, 63, 64, 65, 66, 67, 68, 69, 70, 71, 72, 73] (by decide +kernel) (by decide +kernel)
set_option maxRecDepth 20000 in
theorem gX6_car_X6_due : GoodIn wsX6_car (wsV RX6 84 RX6 yX6_due wsX6_due) := goodIn_app (goodIn_of _ (by decide +kernel)) ggX6_car_X6_due
set_option maxRecDepth 20000 in
theorem ggX6_car_X6_readRow : GoodIn wsX6_car wsX6_readRow := goodIn_r _ [38, 39, 10, 40, 41, 11, 12, 42, 43, 44, 8, 45, 3, 18, 24, 25, 26, 31, 32, 33, 34, 2, 17, 13, 14, 15, 16, 1, 19, 20, 21, 22, 4, 23, 53, 54, 55, 56, 57, 58, 59, 60, 61, 62, 63, 64, 65, 66, 67, 68, 69, 70, 71, 72, 73] (by decide +kernel) (by decide +kernel)
set_option maxRecDepth 20000 in
theorem gX6_car_X6_readRow : GoodIn wsX6_car (wsV RX6 103 RX6 yX6_readRow wsX6_readRow) := goodIn_app (goodIn_of _ (by decide +kernel)) ggX6_car_X6_readRow
set_option maxRecDepth 20000 in
theorem ggX6_car_X6_takeDraft : GoodIn wsX6_car wsX6_takeDraft := goodIn_r _ [49, 10, 11, 50, 40, 41, 39, 51, 52, 53, 54, 55, 56, 57, 58, 59, 60, 61, 62, 63, 64, 65, 66, 67, 68, 69, 70, 71, 72, 73] (by decide +kernel) (by decide +kernel)
set_option maxRecDepth 20000 in
theorem gX6_car_X6_takeDraft : GoodIn wsX6_car (wsV RX6 51 RX6 yX6_takeDraft wsX6_takeDraft) := goodIn_app (goodIn_of _ (by decide +kernel)) ggX6_car_X6_takeDraft
theorem dX6_car_0 : decode cX6_car 0 = .ok (.aload_n 0, 1) := by decide +kernel
theorem dX6_car_1 : decode cX6_car 1 = .ok (.iconst 0, 1) := by decide +kernel
theorem dX6_car_2 : decode cX6_car 2 = .ok (.putfield 62, 3) := by decide +kernel
theorem dX6_car_5 : decode cX6_car 5 = .ok (.aload_n 0, 1) := by decide +kernel
theorem dX6_car_6 : decode cX6_car 6 = .ok (.bipush (-9), 2) := by decide +kernel
theorem dX6_car_8 : decode cX6_car 8 = .ok (.putfield 78, 3) := by decide +kernel
theorem dX6_car_11 : decode cX6_car 11 = .ok (.aload_n 0, 1) := by decide +kernel
theorem dX6_car_12 : decode cX6_car 12 = .ok (.invokevirtual 48, 3) := by decide +kernel
theorem dX6_car_15 : decode cX6_car 15 = .ok (.iconst 0, 1) := by decide +kernel
theorem dX6_car_16 : decode cX6_car 16 = .ok (.istore_n 1, 1) := by decide +kernel
theorem dX6_car_17 : decode cX6_car 17 = .ok (.aload_n 0, 1) := by decide +kernel
theorem dX6_car_18 : decode cX6_car 18 = .ok (.invokevirtual 81, 3) := by decide +kernel
theorem dX6_car_21 : decode cX6_car 21 = .ok (.aload_n 0, 1) := by decide +kernel
theorem dX6_car_22 : decode cX6_car 22 = .ok (.getfield 78, 3) := by decide +kernel
theorem dX6_car_25 : decode cX6_car 25 = .ok (.bipush (-9), 2) := by decide +kernel
theorem dX6_car_27 : decode cX6_car 27 = .ok (.if_icmp .ne 64, 3) := by decide +kernel
theorem dX6_car_30 : decode cX6_car 30 = .ok (.aload_n 0, 1) := by decide +kernel
theorem dX6_car_31 : decode cX6_car 31 = .ok (.getfield 75, 3) := by decide +kernel
theorem dX6_car_34 : decode cX6_car 34 = .ok (.iconst 3, 1) := by decide +kernel
theorem dX6_car_35 : decode cX6_car 35 = .ok (.if_icmp .eq 56, 3) := by decide +kernel
theorem dX6_car_38 : decode cX6_car 38 = .ok (.aload_n 0, 1) := by decide +kernel
theorem dX6_car_39 : decode cX6_car 39 = .ok (.getfield 75, 3) := by decide +kernel
theorem dX6_car_42 : decode cX6_car 42 = .ok (.istore_n 2, 1) := by decide +kernel
theorem dX6_car_43 : decode cX6_car 43 = .ok (.aload_n 0, 1) := by decide +kernel
theorem dX6_car_44 : decode cX6_car 44 = .ok (.aload_n 0, 1) := by decide +kernel
theorem dX6_car_45 : decode cX6_car 45 = .ok (.iload_n 2, 1) := by decide +kernel
theorem dX6_car_46 : decode cX6_car 46 = .ok (.invokevirtual 99, 3) := by decide +kernel
theorem dX6_car_49 : decode cX6_car 49 = .ok (.invokevirtual 84, 3) := by decide +kernel
theorem dX6_car_52 : decode cX6_car 52 = .ok (.pop, 1) := by decide +kernel
theorem dX6_car_53 : decode cX6_car 53 = .ok (.aload_n 0, 1) := by decide +kernel
theorem dX6_car_54 : decode cX6_car 54 = .ok (.getfield 78, 3) := by decide +kernel
theorem dX6_car_57 : decode cX6_car 57 = .ok (.bipush (-9), 2) := by decide +kernel
theorem dX6_car_59 : decode cX6_car 59 = .ok (.if_icmp .ne 29, 3) := by decide +kernel
theorem dX6_car_62 : decode cX6_car 62 = .ok (.aload_n 0, 1) := by decide +kernel
theorem dX6_car_63 : decode cX6_car 63 = .ok (.iload_n 2, 1) := by decide +kernel
theorem dX6_car_64 : decode cX6_car 64 = .ok (.invokevirtual 103, 3) := by decide +kernel
theorem dX6_car_67 : decode cX6_car 67 = .ok (.aload_n 0, 1) := by decide +kernel
theorem dX6_car_68 : decode cX6_car 68 = .ok (.aload_n 0, 1) := by decide +kernel
theorem dX6_car_69 : decode cX6_car 69 = .ok (.getfield 75, 3) := by decide +kernel
theorem dX6_car_72 : decode cX6_car 72 = .ok (.iconst 2, 1) := by decide +kernel
theorem dX6_car_73 : decode cX6_car 73 = .ok (.if_icmp .ne 7, 3) := by decide +kernel
theorem dX6_car_76 : decode cX6_car 76 = .ok (.iconst 1, 1) := by decide +kernel
theorem dX6_car_77 : decode cX6_car 77 = .ok (.goto 4, 3) := by decide +kernel
theorem dX6_car_80 : decode cX6_car 80 = .ok (.iconst 0, 1) := by decide +kernel
theorem dX6_car_81 : decode cX6_car 81 = .ok (.invokevirtual 84, 3) := by decide +kernel
theorem dX6_car_84 : decode cX6_car 84 = .ok (.pop, 1) := by decide +kernel
theorem dX6_car_85 : decode cX6_car 85 = .ok (.iinc 1 1, 3) := by decide +kernel
theorem dX6_car_88 : decode cX6_car 88 = .ok (.goto (-67), 3) := by decide +kernel
theorem dX6_car_91 : decode cX6_car 91 = .ok (.aload_n 0, 1) := by decide +kernel
theorem dX6_car_92 : decode cX6_car 92 = .ok (.getfield 78, 3) := by decide +kernel
theorem dX6_car_95 : decode cX6_car 95 = .ok (.bipush (-9), 2) := by decide +kernel
theorem dX6_car_97 : decode cX6_car 97 = .ok (.if_icmp .eq 11, 3) := by decide +kernel
theorem dX6_car_100 : decode cX6_car 100 = .ok (.bipush (-10), 2) := by decide +kernel
theorem dX6_car_102 : decode cX6_car 102 = .ok (.aload_n 0, 1) := by decide +kernel
theorem dX6_car_103 : decode cX6_car 103 = .ok (.getfield 78, 3) := by decide +kernel
theorem dX6_car_106 : decode cX6_car 106 = .ok (.isub, 1) := by decide +kernel
theorem dX6_car_107 : decode cX6_car 107 = .ok (.ireturn, 1) := by decide +kernel
theorem dX6_car_108 : decode cX6_car 108 = .ok (.aload_n 0, 1) := by decide +kernel
theorem dX6_car_109 : decode cX6_car 109 = .ok (.invokevirtual 51, 3) := by decide +kernel
theorem dX6_car_112 : decode cX6_car 112 = .ok (.aload_n 0, 1) := by decide +kernel
theorem dX6_car_113 : decode cX6_car 113 = .ok (.iconst 0, 1) := by decide +kernel
theorem dX6_car_114 : decode cX6_car 114 = .ok (.putfield 58, 3) := by decide +kernel
theorem dX6_car_117 : decode cX6_car 117 = .ok (.iload_n 1, 1) := by decide +kernel
theorem dX6_car_118 : decode cX6_car 118 = .ok (.ireturn, 1) := by decide +kernel
theorem dX6_take_0 : decode cX6_take 0 = .ok (.iconst 0, 1) := by decide +kernel
theorem dX6_take_1 : decode cX6_take 1 = .ok (.istore_n 1, 1) := by decide +kernel
theorem dX6_take_2 : decode cX6_take 2 = .ok (.iload_n 1, 1) := by decide +kernel
theorem dX6_take_3 : decode cX6_take 3 = .ok (.bipush 52, 2) := by decide +kernel
theorem dX6_take_5 : decode cX6_take 5 = .ok (.if_icmp .ge 21, 3) := by decide +kernel
theorem dX6_take_8 : decode cX6_take 8 = .ok (.aload_n 0, 1) := by decide +kernel
theorem dX6_take_9 : decode cX6_take 9 = .ok (.getfield 36, 3) := by decide +kernel
theorem dX6_take_12 : decode cX6_take 12 = .ok (.iload_n 1, 1) := by decide +kernel
theorem dX6_take_13 : decode cX6_take 13 = .ok (.aload_n 0, 1) := by decide +kernel
theorem dX6_take_14 : decode cX6_take 14 = .ok (.getfield 29, 3) := by decide +kernel
theorem dX6_take_17 : decode cX6_take 17 = .ok (.iload_n 1, 1) := by decide +kernel
theorem dX6_take_18 : decode cX6_take 18 = .ok (.iaload, 1) := by decide +kernel
theorem dX6_take_19 : decode cX6_take 19 = .ok (.iastore, 1) := by decide +kernel
theorem dX6_take_20 : decode cX6_take 20 = .ok (.iinc 1 1, 3) := by decide +kernel
theorem dX6_take_23 : decode cX6_take 23 = .ok (.goto (-21), 3) := by decide +kernel
theorem dX6_take_26 : decode cX6_take 26 = .ok (.return_, 1) := by decide +kernel
set_option maxRecDepth 20000 in
theorem ggX6_isRider_X6_in : GoodIn wsX6_isRider wsX6_in := goodIn_r _ [5] (by decide +kernel) (by decide +kernel)
set_option maxRecDepth 20000 in
theorem gX6_isRider_X6_in : GoodIn wsX6_isRider (va_wsS RX6 54 yX6_in wsX6_in) := goodIn_app (goodIn_of _ (by decide +kernel)) ggX6_isRider_X6_in
theorem dX6_isRider_0 : decode cX6_isRider 0 = .ok (.iload_n 1, 1) := by decide +kernel
theorem dX6_isRider_1 : decode cX6_isRider 1 = .ok (.iconst 0, 1) := by decide +kernel
theorem dX6_isRider_2 : decode cX6_isRider 2 = .ok (.aload_n 0, 1) := by decide +kernel
theorem dX6_isRider_3 : decode cX6_isRider 3 = .ok (.getfield 13, 3) := by decide +kernel
theorem dX6_isRider_6 : decode cX6_isRider 6 = .ok (.iconst 0, 1) := by decide +kernel
theorem dX6_isRider_7 : decode cX6_isRider 7 = .ok (.iaload, 1) := by decide +kernel
theorem dX6_isRider_8 : decode cX6_isRider 8 = .ok (.iconst 1, 1) := by decide +kernel
theorem dX6_isRider_9 : decode cX6_isRider 9 = .ok (.isub, 1) := by decide +kernel
theorem dX6_isRider_10 : decode cX6_isRider 10 = .ok (.invokestatic 54, 3) := by decide +kernel
theorem dX6_isRider_13 : decode cX6_isRider 13 = .ok (.ireturn, 1) := by decide +kernel
theorem dX6_isAboard_0 : decode cX6_isAboard 0 = .ok (.aload_n 1, 1) := by decide +kernel
theorem dX6_isAboard_1 : decode cX6_isAboard 1 = .ok (.iconst 1, 1) := by decide +kernel
theorem dX6_isAboard_2 : decode cX6_isAboard 2 = .ok (.iaload, 1) := by decide +kernel
theorem dX6_isAboard_3 : decode cX6_isAboard 3 = .ok (.iload_n 2, 1) := by decide +kernel
theorem dX6_isAboard_4 : decode cX6_isAboard 4 = .ok (.ishr, 1) := by decide +kernel
theorem dX6_isAboard_5 : decode cX6_isAboard 5 = .ok (.iconst 1, 1) := by decide +kernel
theorem dX6_isAboard_6 : decode cX6_isAboard 6 = .ok (.iand, 1) := by decide +kernel
theorem dX6_isAboard_7 : decode cX6_isAboard 7 = .ok (.iconst 1, 1) := by decide +kernel
theorem dX6_isAboard_8 : decode cX6_isAboard 8 = .ok (.if_icmp .ne 7, 3) := by decide +kernel
theorem dX6_isAboard_11 : decode cX6_isAboard 11 = .ok (.iconst 1, 1) := by decide +kernel
theorem dX6_isAboard_12 : decode cX6_isAboard 12 = .ok (.goto 4, 3) := by decide +kernel
theorem dX6_isAboard_15 : decode cX6_isAboard 15 = .ok (.iconst 0, 1) := by decide +kernel
theorem dX6_isAboard_16 : decode cX6_isAboard 16 = .ok (.ireturn, 1) := by decide +kernel
set_option maxRecDepth 20000 in
theorem ggX6_isHere_X6_isRider : GoodIn wsX6_isHere wsX6_isRider := goodIn_r _ [6, 7, 8, 9, 5, 10, 15, 16, 17, 18, 19, 20, 21, 22, 23, 24, 25, 26, 27, 28, 29, 30, 31, 32, 33, 34, 35] (by decide +kernel) (by decide +kernel)
set_option maxRecDepth 20000 in
theorem gX6_isHere_X6_isRider : GoodIn wsX6_isHere (wsV RX6 107 RX6 yX6_isRider wsX6_isRider) := goodIn_app (goodIn_of _ (by decide +kernel)) ggX6_isHere_X6_isRider
set_option maxRecDepth 20000 in
theorem ggX6_isHere_X6_isAboard : GoodIn wsX6_isHere wsX6_isAboard := goodIn_r _ [14] (by decide +kernel) (by decide +kernel)
set_option maxRecDepth 20000 in
theorem gX6_isHere_X6_isAboard : GoodIn wsX6_isHere (wsV RX6 110 RX6 yX6_isAboard wsX6_isAboard) := goodIn_app (goodIn_of _ (by decide +kernel)) ggX6_isHere_X6_isAboard
theorem dX6_isHere_0 : decode cX6_isHere 0 = .ok (.aload_n 0, 1) := by decide +kernel
theorem dX6_isHere_1 : decode cX6_isHere 1 = .ok (.iload_n 1, 1) := by decide +kernel
theorem dX6_isHere_2 : decode cX6_isHere 2 = .ok (.invokevirtual 107, 3) := by decide +kernel
theorem dX6_isHere_5 : decode cX6_isHere 5 = .ok (.ifCond .eq 19, 3) := by decide +kernel
theorem dX6_isHere_8 : decode cX6_isHere 8 = .ok (.aload_n 0, 1) := by decide +kernel
theorem dX6_isHere_9 : decode cX6_isHere 9 = .ok (.aload_n 0, 1) := by decide +kernel
theorem dX6_isHere_10 : decode cX6_isHere 10 = .ok (.getfield 29, 3) := by decide +kernel
theorem dX6_isHere_13 : decode cX6_isHere 13 = .ok (.iload_n 1, 1) := by decide +kernel
theorem dX6_isHere_14 : decode cX6_isHere 14 = .ok (.invokevirtual 110, 3) := by decide +kernel
theorem dX6_isHere_17 : decode cX6_isHere 17 = .ok (.ifCond .eq 7, 3) := by decide +kernel
theorem dX6_isHere_20 : decode cX6_isHere 20 = .ok (.iconst 1, 1) := by decide +kernel
theorem dX6_isHere_21 : decode cX6_isHere 21 = .ok (.goto 4, 3) := by decide +kernel
theorem dX6_isHere_24 : decode cX6_isHere 24 = .ok (.iconst 0, 1) := by decide +kernel
theorem dX6_isHere_25 : decode cX6_isHere 25 = .ok (.ireturn, 1) := by decide +kernel
theorem dX6_manyOf_0 : decode cX6_manyOf 0 = .ok (.iconst 0, 1) := by decide +kernel
theorem dX6_manyOf_1 : decode cX6_manyOf 1 = .ok (.istore_n 1, 1) := by decide +kernel
theorem dX6_manyOf_2 : decode cX6_manyOf 2 = .ok (.iconst 0, 1) := by decide +kernel
theorem dX6_manyOf_3 : decode cX6_manyOf 3 = .ok (.istore_n 2, 1) := by decide +kernel
theorem dX6_manyOf_4 : decode cX6_manyOf 4 = .ok (.iload_n 2, 1) := by decide +kernel
theorem dX6_manyOf_5 : decode cX6_manyOf 5 = .ok (.bipush 6, 2) := by decide +kernel
theorem dX6_manyOf_7 : decode cX6_manyOf 7 = .ok (.if_icmp .ge 17, 3) := by decide +kernel
theorem dX6_manyOf_10 : decode cX6_manyOf 10 = .ok (.iload_n 1, 1) := by decide +kernel
theorem dX6_manyOf_11 : decode cX6_manyOf 11 = .ok (.iload_n 0, 1) := by decide +kernel
theorem dX6_manyOf_12 : decode cX6_manyOf 12 = .ok (.iload_n 2, 1) := by decide +kernel
theorem dX6_manyOf_13 : decode cX6_manyOf 13 = .ok (.ishr, 1) := by decide +kernel
theorem dX6_manyOf_14 : decode cX6_manyOf 14 = .ok (.iconst 1, 1) := by decide +kernel
theorem dX6_manyOf_15 : decode cX6_manyOf 15 = .ok (.iand, 1) := by decide +kernel
theorem dX6_manyOf_16 : decode cX6_manyOf 16 = .ok (.iadd, 1) := by decide +kernel
theorem dX6_manyOf_17 : decode cX6_manyOf 17 = .ok (.istore_n 1, 1) := by decide +kernel
theorem dX6_manyOf_18 : decode cX6_manyOf 18 = .ok (.iinc 2 1, 3) := by decide +kernel
theorem dX6_manyOf_21 : decode cX6_manyOf 21 = .ok (.goto (-17), 3) := by decide +kernel
theorem dX6_manyOf_24 : decode cX6_manyOf 24 = .ok (.iload_n 1, 1) := by decide +kernel
theorem dX6_manyOf_25 : decode cX6_manyOf 25 = .ok (.ireturn, 1) := by decide +kernel
theorem dX6_apart_0 : decode cX6_apart 0 = .ok (.iload_n 0, 1) := by decide +kernel
theorem dX6_apart_1 : decode cX6_apart 1 = .ok (.iload_n 1, 1) := by decide +kernel
theorem dX6_apart_2 : decode cX6_apart 2 = .ok (.if_icmp .ge 9, 3) := by decide +kernel
theorem dX6_apart_5 : decode cX6_apart 5 = .ok (.iload_n 1, 1) := by decide +kernel
theorem dX6_apart_6 : decode cX6_apart 6 = .ok (.iload_n 0, 1) := by decide +kernel
theorem dX6_apart_7 : decode cX6_apart 7 = .ok (.isub, 1) := by decide +kernel
theorem dX6_apart_8 : decode cX6_apart 8 = .ok (.goto 6, 3) := by decide +kernel
theorem dX6_apart_11 : decode cX6_apart 11 = .ok (.iload_n 0, 1) := by decide +kernel
theorem dX6_apart_12 : decode cX6_apart 12 = .ok (.iload_n 1, 1) := by decide +kernel
theorem dX6_apart_13 : decode cX6_apart 13 = .ok (.isub, 1) := by decide +kernel
theorem dX6_apart_14 : decode cX6_apart 14 = .ok (.ireturn, 1) := by decide +kernel
set_option maxRecDepth 20000 in
theorem ggX6_isNearer_X6_apart : GoodIn wsX6_isNearer wsX6_apart := goodIn_r _ [5] (by decide +kernel) (by decide +kernel)
set_option maxRecDepth 20000 in
theorem gX6_isNearer_X6_apart : GoodIn wsX6_isNearer (va_wsS RX6 114 yX6_apart wsX6_apart) := goodIn_app (goodIn_of _ (by decide +kernel)) ggX6_isNearer_X6_apart
theorem dX6_isNearer_0 : decode cX6_isNearer 0 = .ok (.iload_n 3, 1) := by decide +kernel
theorem dX6_isNearer_1 : decode cX6_isNearer 1 = .ok (.lookupswitch 87 #[(0, 27), (1, 64)], 27) := by decide +kernel
theorem dX6_isNearer_28 : decode cX6_isNearer 28 = .ok (.aload_n 1, 1) := by decide +kernel
theorem dX6_isNearer_29 : decode cX6_isNearer 29 = .ok (.iconst 4, 1) := by decide +kernel
theorem dX6_isNearer_30 : decode cX6_isNearer 30 = .ok (.iload_n 2, 1) := by decide +kernel
theorem dX6_isNearer_31 : decode cX6_isNearer 31 = .ok (.iadd, 1) := by decide +kernel
theorem dX6_isNearer_32 : decode cX6_isNearer 32 = .ok (.iaload, 1) := by decide +kernel
theorem dX6_isNearer_33 : decode cX6_isNearer 33 = .ok (.aload_n 1, 1) := by decide +kernel
theorem dX6_isNearer_34 : decode cX6_isNearer 34 = .ok (.iconst 4, 1) := by decide +kernel
theorem dX6_isNearer_35 : decode cX6_isNearer 35 = .ok (.iload 4, 2) := by decide +kernel
theorem dX6_isNearer_37 : decode cX6_isNearer 37 = .ok (.iadd, 1) := by decide +kernel
theorem dX6_isNearer_38 : decode cX6_isNearer 38 = .ok (.iaload, 1) := by decide +kernel
theorem dX6_isNearer_39 : decode cX6_isNearer 39 = .ok (.invokestatic 114, 3) := by decide +kernel
theorem dX6_isNearer_42 : decode cX6_isNearer 42 = .ok (.aload_n 1, 1) := by decide +kernel
theorem dX6_isNearer_43 : decode cX6_isNearer 43 = .ok (.iconst 4, 1) := by decide +kernel
theorem dX6_isNearer_44 : decode cX6_isNearer 44 = .ok (.iload_n 2, 1) := by decide +kernel
theorem dX6_isNearer_45 : decode cX6_isNearer 45 = .ok (.iadd, 1) := by decide +kernel
theorem dX6_isNearer_46 : decode cX6_isNearer 46 = .ok (.iaload, 1) := by decide +kernel
theorem dX6_isNearer_47 : decode cX6_isNearer 47 = .ok (.aload_n 1, 1) := by decide +kernel
theorem dX6_isNearer_48 : decode cX6_isNearer 48 = .ok (.iconst 4, 1) := by decide +kernel
theorem dX6_isNearer_49 : decode cX6_isNearer 49 = .ok (.iload 5, 2) := by decide +kernel
theorem dX6_isNearer_51 : decode cX6_isNearer 51 = .ok (.iadd, 1) := by decide +kernel
theorem dX6_isNearer_52 : decode cX6_isNearer 52 = .ok (.iaload, 1) := by decide +kernel
theorem dX6_isNearer_53 : decode cX6_isNearer 53 = .ok (.invokestatic 114, 3) := by decide +kernel
theorem dX6_isNearer_56 : decode cX6_isNearer 56 = .ok (.if_icmp .ge 7, 3) := by decide +kernel
theorem dX6_isNearer_59 : decode cX6_isNearer 59 = .ok (.iconst 1, 1) := by decide +kernel
theorem dX6_isNearer_60 : decode cX6_isNearer 60 = .ok (.goto 4, 3) := by decide +kernel
theorem dX6_isNearer_63 : decode cX6_isNearer 63 = .ok (.iconst 0, 1) := by decide +kernel
theorem dX6_isNearer_64 : decode cX6_isNearer 64 = .ok (.ireturn, 1) := by decide +kernel
theorem dX6_isNearer_65 : decode cX6_isNearer 65 = .ok (.aload_n 0, 1) := by decide +kernel
theorem dX6_isNearer_66 : decode cX6_isNearer 66 = .ok (.getfield 20, 3) := by decide +kernel
theorem dX6_isNearer_69 : decode cX6_isNearer 69 = .ok (.iload 4, 2) := by decide +kernel
theorem dX6_isNearer_71 : decode cX6_isNearer 71 = .ok (.iaload, 1) := by decide +kernel
theorem dX6_isNearer_72 : decode cX6_isNearer 72 = .ok (.aload_n 0, 1) := by decide +kernel
theorem dX6_isNearer_73 : decode cX6_isNearer 73 = .ok (.getfield 20, 3) := by decide +kernel
theorem dX6_isNearer_76 : decode cX6_isNearer 76 = .ok (.iload 5, 2) := by decide +kernel
theorem dX6_isNearer_78 : decode cX6_isNearer 78 = .ok (.iaload, 1) := by decide +kernel
theorem dX6_isNearer_79 : decode cX6_isNearer 79 = .ok (.if_icmp .le 7, 3) := by decide +kernel
theorem dX6_isNearer_82 : decode cX6_isNearer 82 = .ok (.iconst 1, 1) := by decide +kernel
theorem dX6_isNearer_83 : decode cX6_isNearer 83 = .ok (.goto 4, 3) := by decide +kernel
theorem dX6_isNearer_86 : decode cX6_isNearer 86 = .ok (.iconst 0, 1) := by decide +kernel
theorem dX6_isNearer_87 : decode cX6_isNearer 87 = .ok (.ireturn, 1) := by decide +kernel
theorem dX6_isNearer_88 : decode cX6_isNearer 88 = .ok (.iload 4, 2) := by decide +kernel
theorem dX6_isNearer_90 : decode cX6_isNearer 90 = .ok (.iload_n 2, 1) := by decide +kernel
theorem dX6_isNearer_91 : decode cX6_isNearer 91 = .ok (.isub, 1) := by decide +kernel
theorem dX6_isNearer_92 : decode cX6_isNearer 92 = .ok (.bipush 6, 2) := by decide +kernel
theorem dX6_isNearer_94 : decode cX6_isNearer 94 = .ok (.iadd, 1) := by decide +kernel
theorem dX6_isNearer_95 : decode cX6_isNearer 95 = .ok (.bipush 6, 2) := by decide +kernel
theorem dX6_isNearer_97 : decode cX6_isNearer 97 = .ok (.irem, 1) := by decide +kernel
theorem dX6_isNearer_98 : decode cX6_isNearer 98 = .ok (.iload 5, 2) := by decide +kernel
theorem dX6_isNearer_100 : decode cX6_isNearer 100 = .ok (.iload_n 2, 1) := by decide +kernel
theorem dX6_isNearer_101 : decode cX6_isNearer 101 = .ok (.isub, 1) := by decide +kernel
theorem dX6_isNearer_102 : decode cX6_isNearer 102 = .ok (.bipush 6, 2) := by decide +kernel
theorem dX6_isNearer_104 : decode cX6_isNearer 104 = .ok (.iadd, 1) := by decide +kernel
theorem dX6_isNearer_105 : decode cX6_isNearer 105 = .ok (.bipush 6, 2) := by decide +kernel
theorem dX6_isNearer_107 : decode cX6_isNearer 107 = .ok (.irem, 1) := by decide +kernel
theorem dX6_isNearer_108 : decode cX6_isNearer 108 = .ok (.if_icmp .ge 7, 3) := by decide +kernel
theorem dX6_isNearer_111 : decode cX6_isNearer 111 = .ok (.iconst 1, 1) := by decide +kernel
theorem dX6_isNearer_112 : decode cX6_isNearer 112 = .ok (.goto 4, 3) := by decide +kernel
theorem dX6_isNearer_115 : decode cX6_isNearer 115 = .ok (.iconst 0, 1) := by decide +kernel
theorem dX6_isNearer_116 : decode cX6_isNearer 116 = .ok (.ireturn, 1) := by decide +kernel
set_option maxRecDepth 20000 in
theorem ggX6_whom_X6_isAboard : GoodIn wsX6_whom wsX6_isAboard := goodIn_r _ [6] (by decide +kernel) (by decide +kernel)
set_option maxRecDepth 20000 in
theorem gX6_whom_X6_isAboard : GoodIn wsX6_whom (wsV RX6 110 RX6 yX6_isAboard wsX6_isAboard) := goodIn_app (goodIn_of _ (by decide +kernel)) ggX6_whom_X6_isAboard
set_option maxRecDepth 20000 in
theorem ggX6_whom_X6_isNearer : GoodIn wsX6_whom wsX6_isNearer := goodIn_r _ [10, 11, 12, 13, 5, 14, 15, 16, 17, 18, 19, 20, 21, 22, 23, 24, 25, 26, 27, 28, 29, 30, 31, 32, 33, 34, 35] (by decide +kernel) (by decide +kernel)
set_option maxRecDepth 20000 in
theorem gX6_whom_X6_isNearer : GoodIn wsX6_whom (wsV RX6 117 RX6 yX6_isNearer wsX6_isNearer) := goodIn_app (goodIn_of _ (by decide +kernel)) ggX6_whom_X6_isNearer
theorem dX6_whom_0 : decode cX6_whom 0 = .ok (.bipush (-9), 2) := by decide +kernel
theorem dX6_whom_2 : decode cX6_whom 2 = .ok (.istore 4, 2) := by decide +kernel
theorem dX6_whom_4 : decode cX6_whom 4 = .ok (.iconst 0, 1) := by decide +kernel
theorem dX6_whom_5 : decode cX6_whom 5 = .ok (.istore 5, 2) := by decide +kernel
theorem dX6_whom_7 : decode cX6_whom 7 = .ok (.iload 5, 2) := by decide +kernel
theorem dX6_whom_9 : decode cX6_whom 9 = .ok (.aload_n 0, 1) := by decide +kernel
theorem dX6_whom_10 : decode cX6_whom 10 = .ok (.getfield 13, 3) := by decide +kernel
theorem dX6_whom_13 : decode cX6_whom 13 = .ok (.iconst 0, 1) := by decide +kernel
theorem dX6_whom_14 : decode cX6_whom 14 = .ok (.iaload, 1) := by decide +kernel
theorem dX6_whom_15 : decode cX6_whom 15 = .ok (.if_icmp .ge 67, 3) := by decide +kernel
theorem dX6_whom_18 : decode cX6_whom 18 = .ok (.iload 5, 2) := by decide +kernel
theorem dX6_whom_20 : decode cX6_whom 20 = .ok (.iload_n 2, 1) := by decide +kernel
theorem dX6_whom_21 : decode cX6_whom 21 = .ok (.if_icmp .eq 17, 3) := by decide +kernel
theorem dX6_whom_24 : decode cX6_whom 24 = .ok (.aload_n 0, 1) := by decide +kernel
theorem dX6_whom_25 : decode cX6_whom 25 = .ok (.aload_n 1, 1) := by decide +kernel
theorem dX6_whom_26 : decode cX6_whom 26 = .ok (.iload 5, 2) := by decide +kernel
theorem dX6_whom_28 : decode cX6_whom 28 = .ok (.invokevirtual 110, 3) := by decide +kernel
theorem dX6_whom_31 : decode cX6_whom 31 = .ok (.ifCond .eq 7, 3) := by decide +kernel
theorem dX6_whom_34 : decode cX6_whom 34 = .ok (.iconst 1, 1) := by decide +kernel
theorem dX6_whom_35 : decode cX6_whom 35 = .ok (.goto 4, 3) := by decide +kernel
theorem dX6_whom_38 : decode cX6_whom 38 = .ok (.iconst 0, 1) := by decide +kernel
theorem dX6_whom_39 : decode cX6_whom 39 = .ok (.istore 6, 2) := by decide +kernel
theorem dX6_whom_41 : decode cX6_whom 41 = .ok (.iload 6, 2) := by decide +kernel
theorem dX6_whom_43 : decode cX6_whom 43 = .ok (.ifCond .eq 29, 3) := by decide +kernel
theorem dX6_whom_46 : decode cX6_whom 46 = .ok (.iload 4, 2) := by decide +kernel
theorem dX6_whom_48 : decode cX6_whom 48 = .ok (.bipush (-9), 2) := by decide +kernel
theorem dX6_whom_50 : decode cX6_whom 50 = .ok (.if_icmp .eq 17, 3) := by decide +kernel
theorem dX6_whom_53 : decode cX6_whom 53 = .ok (.aload_n 0, 1) := by decide +kernel
theorem dX6_whom_54 : decode cX6_whom 54 = .ok (.aload_n 1, 1) := by decide +kernel
theorem dX6_whom_55 : decode cX6_whom 55 = .ok (.iload_n 2, 1) := by decide +kernel
theorem dX6_whom_56 : decode cX6_whom 56 = .ok (.iload_n 3, 1) := by decide +kernel
theorem dX6_whom_57 : decode cX6_whom 57 = .ok (.iload 5, 2) := by decide +kernel
theorem dX6_whom_59 : decode cX6_whom 59 = .ok (.iload 4, 2) := by decide +kernel
theorem dX6_whom_61 : decode cX6_whom 61 = .ok (.invokevirtual 117, 3) := by decide +kernel
theorem dX6_whom_64 : decode cX6_whom 64 = .ok (.ifCond .eq 8, 3) := by decide +kernel
theorem dX6_whom_67 : decode cX6_whom 67 = .ok (.iload 5, 2) := by decide +kernel
theorem dX6_whom_69 : decode cX6_whom 69 = .ok (.goto 5, 3) := by decide +kernel
theorem dX6_whom_72 : decode cX6_whom 72 = .ok (.iload 4, 2) := by decide +kernel
theorem dX6_whom_74 : decode cX6_whom 74 = .ok (.istore 4, 2) := by decide +kernel
theorem dX6_whom_76 : decode cX6_whom 76 = .ok (.iinc 5 1, 3) := by decide +kernel
theorem dX6_whom_79 : decode cX6_whom 79 = .ok (.goto (-72), 3) := by decide +kernel
theorem dX6_whom_82 : decode cX6_whom 82 = .ok (.iload 4, 2) := by decide +kernel
theorem dX6_whom_84 : decode cX6_whom 84 = .ok (.ireturn, 1) := by decide +kernel
theorem dX6_byRing_0 : decode cX6_byRing 0 = .ok (.bipush (-9), 2) := by decide +kernel
theorem dX6_byRing_2 : decode cX6_byRing 2 = .ok (.istore 4, 2) := by decide +kernel
theorem dX6_byRing_4 : decode cX6_byRing 4 = .ok (.iconst 0, 1) := by decide +kernel
theorem dX6_byRing_5 : decode cX6_byRing 5 = .ok (.istore 5, 2) := by decide +kernel
theorem dX6_byRing_7 : decode cX6_byRing 7 = .ok (.iload 5, 2) := by decide +kernel
theorem dX6_byRing_9 : decode cX6_byRing 9 = .ok (.aload_n 0, 1) := by decide +kernel
theorem dX6_byRing_10 : decode cX6_byRing 10 = .ok (.getfield 13, 3) := by decide +kernel
theorem dX6_byRing_13 : decode cX6_byRing 13 = .ok (.iconst 0, 1) := by decide +kernel
theorem dX6_byRing_14 : decode cX6_byRing 14 = .ok (.iaload, 1) := by decide +kernel
theorem dX6_byRing_15 : decode cX6_byRing 15 = .ok (.if_icmp .ge 89, 3) := by decide +kernel
theorem dX6_byRing_18 : decode cX6_byRing 18 = .ok (.aload_n 1, 1) := by decide +kernel
theorem dX6_byRing_19 : decode cX6_byRing 19 = .ok (.bipush 16, 2) := by decide +kernel
theorem dX6_byRing_21 : decode cX6_byRing 21 = .ok (.bipush 6, 2) := by decide +kernel
theorem dX6_byRing_23 : decode cX6_byRing 23 = .ok (.iload 5, 2) := by decide +kernel
theorem dX6_byRing_25 : decode cX6_byRing 25 = .ok (.imul, 1) := by decide +kernel
theorem dX6_byRing_26 : decode cX6_byRing 26 = .ok (.iadd, 1) := by decide +kernel
theorem dX6_byRing_27 : decode cX6_byRing 27 = .ok (.iload_n 2, 1) := by decide +kernel
theorem dX6_byRing_28 : decode cX6_byRing 28 = .ok (.iadd, 1) := by decide +kernel
theorem dX6_byRing_29 : decode cX6_byRing 29 = .ok (.iaload, 1) := by decide +kernel
theorem dX6_byRing_30 : decode cX6_byRing 30 = .ok (.istore 6, 2) := by decide +kernel
theorem dX6_byRing_32 : decode cX6_byRing 32 = .ok (.iload 5, 2) := by decide +kernel
theorem dX6_byRing_34 : decode cX6_byRing 34 = .ok (.iload_n 2, 1) := by decide +kernel
theorem dX6_byRing_35 : decode cX6_byRing 35 = .ok (.if_icmp .eq 22, 3) := by decide +kernel
theorem dX6_byRing_38 : decode cX6_byRing 38 = .ok (.iload_n 3, 1) := by decide +kernel
theorem dX6_byRing_39 : decode cX6_byRing 39 = .ok (.iload 5, 2) := by decide +kernel
theorem dX6_byRing_41 : decode cX6_byRing 41 = .ok (.ishr, 1) := by decide +kernel
theorem dX6_byRing_42 : decode cX6_byRing 42 = .ok (.iconst 1, 1) := by decide +kernel
theorem dX6_byRing_43 : decode cX6_byRing 43 = .ok (.iand, 1) := by decide +kernel
theorem dX6_byRing_44 : decode cX6_byRing 44 = .ok (.iconst 1, 1) := by decide +kernel
theorem dX6_byRing_45 : decode cX6_byRing 45 = .ok (.if_icmp .ne 12, 3) := by decide +kernel
theorem dX6_byRing_48 : decode cX6_byRing 48 = .ok (.iload 6, 2) := by decide +kernel
theorem dX6_byRing_50 : decode cX6_byRing 50 = .ok (.ifCond .le 7, 3) := by decide +kernel
theorem dX6_byRing_53 : decode cX6_byRing 53 = .ok (.iconst 1, 1) := by decide +kernel
theorem dX6_byRing_54 : decode cX6_byRing 54 = .ok (.goto 4, 3) := by decide +kernel
theorem dX6_byRing_57 : decode cX6_byRing 57 = .ok (.iconst 0, 1) := by decide +kernel
theorem dX6_byRing_58 : decode cX6_byRing 58 = .ok (.istore 7, 2) := by decide +kernel
theorem dX6_byRing_60 : decode cX6_byRing 60 = .ok (.iload 7, 2) := by decide +kernel
theorem dX6_byRing_62 : decode cX6_byRing 62 = .ok (.ifCond .eq 32, 3) := by decide +kernel
theorem dX6_byRing_65 : decode cX6_byRing 65 = .ok (.iload 4, 2) := by decide +kernel
theorem dX6_byRing_67 : decode cX6_byRing 67 = .ok (.bipush (-9), 2) := by decide +kernel
theorem dX6_byRing_69 : decode cX6_byRing 69 = .ok (.if_icmp .eq 20, 3) := by decide +kernel
theorem dX6_byRing_72 : decode cX6_byRing 72 = .ok (.iload 6, 2) := by decide +kernel
theorem dX6_byRing_74 : decode cX6_byRing 74 = .ok (.aload_n 1, 1) := by decide +kernel
theorem dX6_byRing_75 : decode cX6_byRing 75 = .ok (.bipush 16, 2) := by decide +kernel
theorem dX6_byRing_77 : decode cX6_byRing 77 = .ok (.bipush 6, 2) := by decide +kernel
theorem dX6_byRing_79 : decode cX6_byRing 79 = .ok (.iload 4, 2) := by decide +kernel
theorem dX6_byRing_81 : decode cX6_byRing 81 = .ok (.imul, 1) := by decide +kernel
theorem dX6_byRing_82 : decode cX6_byRing 82 = .ok (.iadd, 1) := by decide +kernel
theorem dX6_byRing_83 : decode cX6_byRing 83 = .ok (.iload_n 2, 1) := by decide +kernel
theorem dX6_byRing_84 : decode cX6_byRing 84 = .ok (.iadd, 1) := by decide +kernel
theorem dX6_byRing_85 : decode cX6_byRing 85 = .ok (.iaload, 1) := by decide +kernel
theorem dX6_byRing_86 : decode cX6_byRing 86 = .ok (.if_icmp .le 8, 3) := by decide +kernel
theorem dX6_byRing_89 : decode cX6_byRing 89 = .ok (.iload 5, 2) := by decide +kernel
theorem dX6_byRing_91 : decode cX6_byRing 91 = .ok (.goto 5, 3) := by decide +kernel
theorem dX6_byRing_94 : decode cX6_byRing 94 = .ok (.iload 4, 2) := by decide +kernel
theorem dX6_byRing_96 : decode cX6_byRing 96 = .ok (.istore 4, 2) := by decide +kernel
theorem dX6_byRing_98 : decode cX6_byRing 98 = .ok (.iinc 5 1, 3) := by decide +kernel
theorem dX6_byRing_101 : decode cX6_byRing 101 = .ok (.goto (-94), 3) := by decide +kernel
theorem dX6_byRing_104 : decode cX6_byRing 104 = .ok (.iload 4, 2) := by decide +kernel
theorem dX6_byRing_106 : decode cX6_byRing 106 = .ok (.ireturn, 1) := by decide +kernel
set_option maxRecDepth 20000 in
theorem ggX6_byTwo_X6_isAboard : GoodIn wsX6_byTwo wsX6_isAboard := goodIn_r _ [7] (by decide +kernel) (by decide +kernel)
set_option maxRecDepth 20000 in
theorem gX6_byTwo_X6_isAboard : GoodIn wsX6_byTwo (wsV RX6 110 RX6 yX6_isAboard wsX6_isAboard) := goodIn_app (goodIn_of _ (by decide +kernel)) ggX6_byTwo_X6_isAboard
theorem dX6_byTwo_0 : decode cX6_byTwo 0 = .ok (.bipush (-9), 2) := by decide +kernel
theorem dX6_byTwo_2 : decode cX6_byTwo 2 = .ok (.istore_n 2, 1) := by decide +kernel
theorem dX6_byTwo_3 : decode cX6_byTwo 3 = .ok (.iconst 0, 1) := by decide +kernel
theorem dX6_byTwo_4 : decode cX6_byTwo 4 = .ok (.istore_n 3, 1) := by decide +kernel
theorem dX6_byTwo_5 : decode cX6_byTwo 5 = .ok (.iload_n 3, 1) := by decide +kernel
theorem dX6_byTwo_6 : decode cX6_byTwo 6 = .ok (.aload_n 0, 1) := by decide +kernel
theorem dX6_byTwo_7 : decode cX6_byTwo 7 = .ok (.getfield 13, 3) := by decide +kernel
theorem dX6_byTwo_10 : decode cX6_byTwo 10 = .ok (.iconst 0, 1) := by decide +kernel
theorem dX6_byTwo_11 : decode cX6_byTwo 11 = .ok (.iaload, 1) := by decide +kernel
theorem dX6_byTwo_12 : decode cX6_byTwo 12 = .ok (.if_icmp .ge 90, 3) := by decide +kernel
theorem dX6_byTwo_15 : decode cX6_byTwo 15 = .ok (.aload_n 0, 1) := by decide +kernel
theorem dX6_byTwo_16 : decode cX6_byTwo 16 = .ok (.getfield 29, 3) := by decide +kernel
theorem dX6_byTwo_19 : decode cX6_byTwo 19 = .ok (.bipush 16, 2) := by decide +kernel
theorem dX6_byTwo_21 : decode cX6_byTwo 21 = .ok (.bipush 6, 2) := by decide +kernel
theorem dX6_byTwo_23 : decode cX6_byTwo 23 = .ok (.iload_n 1, 1) := by decide +kernel
theorem dX6_byTwo_24 : decode cX6_byTwo 24 = .ok (.imul, 1) := by decide +kernel
theorem dX6_byTwo_25 : decode cX6_byTwo 25 = .ok (.iadd, 1) := by decide +kernel
theorem dX6_byTwo_26 : decode cX6_byTwo 26 = .ok (.iload_n 3, 1) := by decide +kernel
theorem dX6_byTwo_27 : decode cX6_byTwo 27 = .ok (.iadd, 1) := by decide +kernel
theorem dX6_byTwo_28 : decode cX6_byTwo 28 = .ok (.iaload, 1) := by decide +kernel
theorem dX6_byTwo_29 : decode cX6_byTwo 29 = .ok (.istore 4, 2) := by decide +kernel
theorem dX6_byTwo_31 : decode cX6_byTwo 31 = .ok (.iload_n 3, 1) := by decide +kernel
theorem dX6_byTwo_32 : decode cX6_byTwo 32 = .ok (.iload_n 1, 1) := by decide +kernel
theorem dX6_byTwo_33 : decode cX6_byTwo 33 = .ok (.if_icmp .eq 24, 3) := by decide +kernel
theorem dX6_byTwo_36 : decode cX6_byTwo 36 = .ok (.aload_n 0, 1) := by decide +kernel
theorem dX6_byTwo_37 : decode cX6_byTwo 37 = .ok (.aload_n 0, 1) := by decide +kernel
theorem dX6_byTwo_38 : decode cX6_byTwo 38 = .ok (.getfield 29, 3) := by decide +kernel
theorem dX6_byTwo_41 : decode cX6_byTwo 41 = .ok (.iload_n 3, 1) := by decide +kernel
theorem dX6_byTwo_42 : decode cX6_byTwo 42 = .ok (.invokevirtual 110, 3) := by decide +kernel
theorem dX6_byTwo_45 : decode cX6_byTwo 45 = .ok (.ifCond .eq 12, 3) := by decide +kernel
theorem dX6_byTwo_48 : decode cX6_byTwo 48 = .ok (.iload 4, 2) := by decide +kernel
theorem dX6_byTwo_50 : decode cX6_byTwo 50 = .ok (.ifCond .le 7, 3) := by decide +kernel
theorem dX6_byTwo_53 : decode cX6_byTwo 53 = .ok (.iconst 1, 1) := by decide +kernel
theorem dX6_byTwo_54 : decode cX6_byTwo 54 = .ok (.goto 4, 3) := by decide +kernel
theorem dX6_byTwo_57 : decode cX6_byTwo 57 = .ok (.iconst 0, 1) := by decide +kernel
theorem dX6_byTwo_58 : decode cX6_byTwo 58 = .ok (.istore 5, 2) := by decide +kernel
theorem dX6_byTwo_60 : decode cX6_byTwo 60 = .ok (.iload 5, 2) := by decide +kernel
theorem dX6_byTwo_62 : decode cX6_byTwo 62 = .ok (.ifCond .eq 32, 3) := by decide +kernel
theorem dX6_byTwo_65 : decode cX6_byTwo 65 = .ok (.iload_n 2, 1) := by decide +kernel
theorem dX6_byTwo_66 : decode cX6_byTwo 66 = .ok (.bipush (-9), 2) := by decide +kernel
theorem dX6_byTwo_68 : decode cX6_byTwo 68 = .ok (.if_icmp .eq 22, 3) := by decide +kernel
theorem dX6_byTwo_71 : decode cX6_byTwo 71 = .ok (.iload 4, 2) := by decide +kernel
theorem dX6_byTwo_73 : decode cX6_byTwo 73 = .ok (.aload_n 0, 1) := by decide +kernel
theorem dX6_byTwo_74 : decode cX6_byTwo 74 = .ok (.getfield 29, 3) := by decide +kernel
theorem dX6_byTwo_77 : decode cX6_byTwo 77 = .ok (.bipush 16, 2) := by decide +kernel
theorem dX6_byTwo_79 : decode cX6_byTwo 79 = .ok (.bipush 6, 2) := by decide +kernel
theorem dX6_byTwo_81 : decode cX6_byTwo 81 = .ok (.iload_n 1, 1) := by decide +kernel
theorem dX6_byTwo_82 : decode cX6_byTwo 82 = .ok (.imul, 1) := by decide +kernel
theorem dX6_byTwo_83 : decode cX6_byTwo 83 = .ok (.iadd, 1) := by decide +kernel
theorem dX6_byTwo_84 : decode cX6_byTwo 84 = .ok (.iload_n 2, 1) := by decide +kernel
theorem dX6_byTwo_85 : decode cX6_byTwo 85 = .ok (.iadd, 1) := by decide +kernel
theorem dX6_byTwo_86 : decode cX6_byTwo 86 = .ok (.iaload, 1) := by decide +kernel
theorem dX6_byTwo_87 : decode cX6_byTwo 87 = .ok (.if_icmp .le 7, 3) := by decide +kernel
theorem dX6_byTwo_90 : decode cX6_byTwo 90 = .ok (.iload_n 3, 1) := by decide +kernel
theorem dX6_byTwo_91 : decode cX6_byTwo 91 = .ok (.goto 4, 3) := by decide +kernel
theorem dX6_byTwo_94 : decode cX6_byTwo 94 = .ok (.iload_n 2, 1) := by decide +kernel
theorem dX6_byTwo_95 : decode cX6_byTwo 95 = .ok (.istore_n 2, 1) := by decide +kernel
theorem dX6_byTwo_96 : decode cX6_byTwo 96 = .ok (.iinc 3 1, 3) := by decide +kernel
theorem dX6_byTwo_99 : decode cX6_byTwo 99 = .ok (.goto (-94), 3) := by decide +kernel
theorem dX6_byTwo_102 : decode cX6_byTwo 102 = .ok (.iload_n 2, 1) := by decide +kernel
theorem dX6_byTwo_103 : decode cX6_byTwo 103 = .ok (.ireturn, 1) := by decide +kernel
set_option maxRecDepth 20000 in
theorem ggX6_rider_X6_isRider : GoodIn wsX6_rider wsX6_isRider := goodIn_r _ [8, 9, 10, 11, 7, 12, 36, 37, 38, 39, 40, 41, 42, 43, 44, 45, 46, 47, 48, 49, 50, 51, 52, 53, 54, 55, 56] (by decide +kernel) (by decide +kernel)
set_option maxRecDepth 20000 in
theorem gX6_rider_X6_isRider : GoodIn wsX6_rider (wsV RX6 107 RX6 yX6_isRider wsX6_isRider) := goodIn_app (goodIn_of _ (by decide +kernel)) ggX6_rider_X6_isRider
set_option maxRecDepth 20000 in
theorem ggX6_rider_X6_isAboard : GoodIn wsX6_rider wsX6_isAboard := goodIn_r _ [16] (by decide +kernel) (by decide +kernel)
set_option maxRecDepth 20000 in
theorem gX6_rider_X6_isAboard : GoodIn wsX6_rider (wsV RX6 110 RX6 yX6_isAboard wsX6_isAboard) := goodIn_app (goodIn_of _ (by decide +kernel)) ggX6_rider_X6_isAboard
set_option maxRecDepth 20000 in
theorem ggX6_rider_X6_whom : GoodIn wsX6_rider wsX6_whom := goodIn_r _ [20, 9, 13, 14, 15, 7, 16, 21, 22, 23, 24, 2, 25, 26, 27, 36, 37, 38, 39, 40, 41, 42, 43, 44, 45, 46, 47, 48, 49, 50, 51, 52, 53, 54, 55, 56] (by decide +kernel) (by decide +kernel)
set_option maxRecDepth 20000 in
theorem gX6_rider_X6_whom : GoodIn wsX6_rider (wsV RX6 121 RX6 yX6_whom wsX6_whom) := goodIn_app (goodIn_of _ (by decide +kernel)) ggX6_rider_X6_whom
set_option maxRecDepth 20000 in
theorem ggX6_rider_X6_byRing : GoodIn wsX6_rider wsX6_byRing := goodIn_r _ [31, 9, 36, 37, 38, 39, 40, 41, 42, 43, 44, 45, 46, 47, 48, 49, 50, 51, 52, 53, 54, 55, 56] (by decide +kernel) (by decide +kernel)
set_option maxRecDepth 20000 in
theorem gX6_rider_X6_byRing : GoodIn wsX6_rider (wsV RX6 125 RX6 yX6_byRing wsX6_byRing) := goodIn_app (goodIn_of _ (by decide +kernel)) ggX6_rider_X6_byRing
set_option maxRecDepth 20000 in
theorem ggX6_rider_X6_byTwo : GoodIn wsX6_rider wsX6_byTwo := goodIn_r _ [35, 9, 1, 13, 14, 15, 7, 16, 36, 37, 38, 39, 40, 41, 42, 43, 44, 45, 46, 47, 48, 49, 50, 51, 52, 53, 54, 55, 56] (by decide +kernel) (by decide +kernel)
set_option maxRecDepth 20000 in
theorem gX6_rider_X6_byTwo : GoodIn wsX6_rider (wsV RX6 128 RX6 yX6_byTwo wsX6_byTwo) := goodIn_app (goodIn_of _ (by decide +kernel)) ggX6_rider_X6_byTwo
theorem dX6_rider_0 : decode cX6_rider 0 = .ok (.aload_n 0, 1) := by decide +kernel
theorem dX6_rider_1 : decode cX6_rider 1 = .ok (.iload_n 1, 1) := by decide +kernel
theorem dX6_rider_2 : decode cX6_rider 2 = .ok (.invokevirtual 107, 3) := by decide +kernel
theorem dX6_rider_5 : decode cX6_rider 5 = .ok (.ifCond .ne 5, 3) := by decide +kernel
theorem dX6_rider_8 : decode cX6_rider 8 = .ok (.iconst (-1), 1) := by decide +kernel
theorem dX6_rider_9 : decode cX6_rider 9 = .ok (.ireturn, 1) := by decide +kernel
theorem dX6_rider_10 : decode cX6_rider 10 = .ok (.aload_n 0, 1) := by decide +kernel
theorem dX6_rider_11 : decode cX6_rider 11 = .ok (.aload_n 0, 1) := by decide +kernel
theorem dX6_rider_12 : decode cX6_rider 12 = .ok (.getfield 29, 3) := by decide +kernel
theorem dX6_rider_15 : decode cX6_rider 15 = .ok (.iload_n 1, 1) := by decide +kernel
theorem dX6_rider_16 : decode cX6_rider 16 = .ok (.invokevirtual 110, 3) := by decide +kernel
theorem dX6_rider_19 : decode cX6_rider 19 = .ok (.istore_n 3, 1) := by decide +kernel
theorem dX6_rider_20 : decode cX6_rider 20 = .ok (.iload_n 2, 1) := by decide +kernel
theorem dX6_rider_21 : decode cX6_rider 21 = .ok (.tableswitch 155 0 7 #[47, 56, 63, 70, 80, 90, 115, 140], 47) := by decide +kernel
theorem dX6_rider_68 : decode cX6_rider 68 = .ok (.aload_n 0, 1) := by decide +kernel
end
section
theorem dX6_rider_69 : decode cX6_rider 69 = .ok (.getfield 29, 3) := by decide +kernel
theorem dX6_rider_72 : decode cX6_rider 72 = .ok (.iconst 4, 1) := by decide +kernel
theorem dX6_rider_73 : decode cX6_rider 73 = .ok (.iload_n 1, 1) := by decide +kernel
theorem dX6_rider_74 : decode cX6_rider 74 = .ok (.iadd, 1) := by decide +kernel
theorem dX6_rider_75 : decode cX6_rider 75 = .ok (.iaload, 1) := by decide +kernel
theorem dX6_rider_76 : decode cX6_rider 76 = .ok (.ireturn, 1) := by decide +kernel
theorem dX6_rider_77 : decode cX6_rider 77 = .ok (.aload_n 0, 1) := by decide +kernel
theorem dX6_rider_78 : decode cX6_rider 78 = .ok (.getfield 20, 3) := by decide +kernel
theorem dX6_rider_81 : decode cX6_rider 81 = .ok (.iload_n 1, 1) := by decide +kernel
theorem dX6_rider_82 : decode cX6_rider 82 = .ok (.iaload, 1) := by decide +kernel
theorem dX6_rider_83 : decode cX6_rider 83 = .ok (.ireturn, 1) := by decide +kernel
theorem dX6_rider_84 : decode cX6_rider 84 = .ok (.aload_n 0, 1) := by decide +kernel
theorem dX6_rider_85 : decode cX6_rider 85 = .ok (.getfield 23, 3) := by decide +kernel
theorem dX6_rider_88 : decode cX6_rider 88 = .ok (.iload_n 1, 1) := by decide +kernel
theorem dX6_rider_89 : decode cX6_rider 89 = .ok (.iaload, 1) := by decide +kernel
theorem dX6_rider_90 : decode cX6_rider 90 = .ok (.ireturn, 1) := by decide +kernel
theorem dX6_rider_91 : decode cX6_rider 91 = .ok (.iload_n 3, 1) := by decide +kernel
theorem dX6_rider_92 : decode cX6_rider 92 = .ok (.ifCond .eq 7, 3) := by decide +kernel
theorem dX6_rider_95 : decode cX6_rider 95 = .ok (.iconst 1, 1) := by decide +kernel
theorem dX6_rider_96 : decode cX6_rider 96 = .ok (.goto 4, 3) := by decide +kernel
theorem dX6_rider_99 : decode cX6_rider 99 = .ok (.iconst 0, 1) := by decide +kernel
theorem dX6_rider_100 : decode cX6_rider 100 = .ok (.ireturn, 1) := by decide +kernel
theorem dX6_rider_101 : decode cX6_rider 101 = .ok (.aload_n 0, 1) := by decide +kernel
theorem dX6_rider_102 : decode cX6_rider 102 = .ok (.getfield 29, 3) := by decide +kernel
theorem dX6_rider_105 : decode cX6_rider 105 = .ok (.bipush 10, 2) := by decide +kernel
theorem dX6_rider_107 : decode cX6_rider 107 = .ok (.iload_n 1, 1) := by decide +kernel
theorem dX6_rider_108 : decode cX6_rider 108 = .ok (.iadd, 1) := by decide +kernel
theorem dX6_rider_109 : decode cX6_rider 109 = .ok (.iaload, 1) := by decide +kernel
theorem dX6_rider_110 : decode cX6_rider 110 = .ok (.ireturn, 1) := by decide +kernel
theorem dX6_rider_111 : decode cX6_rider 111 = .ok (.iload_n 3, 1) := by decide +kernel
theorem dX6_rider_112 : decode cX6_rider 112 = .ok (.ifCond .eq 21, 3) := by decide +kernel
theorem dX6_rider_115 : decode cX6_rider 115 = .ok (.aload_n 0, 1) := by decide +kernel
theorem dX6_rider_116 : decode cX6_rider 116 = .ok (.aload_n 0, 1) := by decide +kernel
theorem dX6_rider_117 : decode cX6_rider 117 = .ok (.getfield 29, 3) := by decide +kernel
theorem dX6_rider_120 : decode cX6_rider 120 = .ok (.iload_n 1, 1) := by decide +kernel
theorem dX6_rider_121 : decode cX6_rider 121 = .ok (.aload_n 0, 1) := by decide +kernel
theorem dX6_rider_122 : decode cX6_rider 122 = .ok (.getfield 23, 3) := by decide +kernel
theorem dX6_rider_125 : decode cX6_rider 125 = .ok (.iload_n 1, 1) := by decide +kernel
theorem dX6_rider_126 : decode cX6_rider 126 = .ok (.iaload, 1) := by decide +kernel
theorem dX6_rider_127 : decode cX6_rider 127 = .ok (.invokevirtual 121, 3) := by decide +kernel
theorem dX6_rider_130 : decode cX6_rider 130 = .ok (.goto 5, 3) := by decide +kernel
theorem dX6_rider_133 : decode cX6_rider 133 = .ok (.bipush (-9), 2) := by decide +kernel
theorem dX6_rider_135 : decode cX6_rider 135 = .ok (.ireturn, 1) := by decide +kernel
theorem dX6_rider_136 : decode cX6_rider 136 = .ok (.iload_n 3, 1) := by decide +kernel
theorem dX6_rider_137 : decode cX6_rider 137 = .ok (.ifCond .eq 21, 3) := by decide +kernel
theorem dX6_rider_140 : decode cX6_rider 140 = .ok (.aload_n 0, 1) := by decide +kernel
theorem dX6_rider_141 : decode cX6_rider 141 = .ok (.aload_n 0, 1) := by decide +kernel
theorem dX6_rider_142 : decode cX6_rider 142 = .ok (.getfield 29, 3) := by decide +kernel
theorem dX6_rider_145 : decode cX6_rider 145 = .ok (.iload_n 1, 1) := by decide +kernel
theorem dX6_rider_146 : decode cX6_rider 146 = .ok (.aload_n 0, 1) := by decide +kernel
theorem dX6_rider_147 : decode cX6_rider 147 = .ok (.getfield 29, 3) := by decide +kernel
theorem dX6_rider_150 : decode cX6_rider 150 = .ok (.iconst 1, 1) := by decide +kernel
theorem dX6_rider_151 : decode cX6_rider 151 = .ok (.iaload, 1) := by decide +kernel
theorem dX6_rider_152 : decode cX6_rider 152 = .ok (.invokevirtual 125, 3) := by decide +kernel
theorem dX6_rider_155 : decode cX6_rider 155 = .ok (.goto 5, 3) := by decide +kernel
theorem dX6_rider_158 : decode cX6_rider 158 = .ok (.bipush (-9), 2) := by decide +kernel
theorem dX6_rider_160 : decode cX6_rider 160 = .ok (.ireturn, 1) := by decide +kernel
theorem dX6_rider_161 : decode cX6_rider 161 = .ok (.iload_n 3, 1) := by decide +kernel
theorem dX6_rider_162 : decode cX6_rider 162 = .ok (.ifCond .eq 11, 3) := by decide +kernel
theorem dX6_rider_165 : decode cX6_rider 165 = .ok (.aload_n 0, 1) := by decide +kernel
theorem dX6_rider_166 : decode cX6_rider 166 = .ok (.iload_n 1, 1) := by decide +kernel
theorem dX6_rider_167 : decode cX6_rider 167 = .ok (.invokevirtual 128, 3) := by decide +kernel
theorem dX6_rider_170 : decode cX6_rider 170 = .ok (.goto 5, 3) := by decide +kernel
theorem dX6_rider_173 : decode cX6_rider 173 = .ok (.bipush (-9), 2) := by decide +kernel
theorem dX6_rider_175 : decode cX6_rider 175 = .ok (.ireturn, 1) := by decide +kernel
theorem dX6_rider_176 : decode cX6_rider 176 = .ok (.iconst (-1), 1) := by decide +kernel
theorem dX6_rider_177 : decode cX6_rider 177 = .ok (.ireturn, 1) := by decide +kernel
set_option maxRecDepth 20000 in
theorem ggX6_latest_X6_isRider : GoodIn wsX6_latest wsX6_isRider := goodIn_r _ [6, 7, 8, 9, 5, 10, 11, 12, 13, 14, 15, 16, 17, 18, 19, 20, 21, 22, 23, 24, 25, 26, 27, 28, 29, 30, 31] (by decide +kernel) (by decide +kernel)
set_option maxRecDepth 20000 in
theorem gX6_latest_X6_isRider : GoodIn wsX6_latest (wsV RX6 107 RX6 yX6_isRider wsX6_isRider) := goodIn_app (goodIn_of _ (by decide +kernel)) ggX6_latest_X6_isRider
theorem dX6_latest_0 : decode cX6_latest 0 = .ok (.aload_n 0, 1) := by decide +kernel
theorem dX6_latest_1 : decode cX6_latest 1 = .ok (.iload_n 1, 1) := by decide +kernel
theorem dX6_latest_2 : decode cX6_latest 2 = .ok (.invokevirtual 107, 3) := by decide +kernel
theorem dX6_latest_5 : decode cX6_latest 5 = .ok (.ifCond .eq 33, 3) := by decide +kernel
theorem dX6_latest_8 : decode cX6_latest 8 = .ok (.aload_n 0, 1) := by decide +kernel
theorem dX6_latest_9 : decode cX6_latest 9 = .ok (.iload_n 2, 1) := by decide +kernel
theorem dX6_latest_10 : decode cX6_latest 10 = .ok (.invokevirtual 107, 3) := by decide +kernel
theorem dX6_latest_13 : decode cX6_latest 13 = .ok (.ifCond .eq 25, 3) := by decide +kernel
theorem dX6_latest_16 : decode cX6_latest 16 = .ok (.iload_n 1, 1) := by decide +kernel
theorem dX6_latest_17 : decode cX6_latest 17 = .ok (.iload_n 2, 1) := by decide +kernel
theorem dX6_latest_18 : decode cX6_latest 18 = .ok (.if_icmp .eq 20, 3) := by decide +kernel
theorem dX6_latest_21 : decode cX6_latest 21 = .ok (.aload_n 0, 1) := by decide +kernel
theorem dX6_latest_22 : decode cX6_latest 22 = .ok (.getfield 29, 3) := by decide +kernel
theorem dX6_latest_25 : decode cX6_latest 25 = .ok (.bipush 16, 2) := by decide +kernel
theorem dX6_latest_27 : decode cX6_latest 27 = .ok (.bipush 6, 2) := by decide +kernel
theorem dX6_latest_29 : decode cX6_latest 29 = .ok (.iload_n 1, 1) := by decide +kernel
theorem dX6_latest_30 : decode cX6_latest 30 = .ok (.imul, 1) := by decide +kernel
theorem dX6_latest_31 : decode cX6_latest 31 = .ok (.iadd, 1) := by decide +kernel
theorem dX6_latest_32 : decode cX6_latest 32 = .ok (.iload_n 2, 1) := by decide +kernel
theorem dX6_latest_33 : decode cX6_latest 33 = .ok (.iadd, 1) := by decide +kernel
theorem dX6_latest_34 : decode cX6_latest 34 = .ok (.iaload, 1) := by decide +kernel
theorem dX6_latest_35 : decode cX6_latest 35 = .ok (.goto 4, 3) := by decide +kernel
theorem dX6_latest_38 : decode cX6_latest 38 = .ok (.iconst (-1), 1) := by decide +kernel
theorem dX6_latest_39 : decode cX6_latest 39 = .ok (.ireturn, 1) := by decide +kernel
theorem dX6_know_0 : decode cX6_know 0 = .ok (.aload_n 0, 1) := by decide +kernel
theorem dX6_know_1 : decode cX6_know 1 = .ok (.getfield 29, 3) := by decide +kernel
theorem dX6_know_4 : decode cX6_know 4 = .ok (.bipush 52, 2) := by decide +kernel
theorem dX6_know_6 : decode cX6_know 6 = .ok (.iaload, 1) := by decide +kernel
theorem dX6_know_7 : decode cX6_know 7 = .ok (.bipush 10, 2) := by decide +kernel
theorem dX6_know_9 : decode cX6_know 9 = .ok (.if_icmp .ne 47, 3) := by decide +kernel
theorem dX6_know_12 : decode cX6_know 12 = .ok (.iconst 0, 1) := by decide +kernel
theorem dX6_know_13 : decode cX6_know 13 = .ok (.istore_n 1, 1) := by decide +kernel
theorem dX6_know_14 : decode cX6_know 14 = .ok (.iload_n 1, 1) := by decide +kernel
theorem dX6_know_15 : decode cX6_know 15 = .ok (.sipush 468, 3) := by decide +kernel
theorem dX6_know_18 : decode cX6_know 18 = .ok (.if_icmp .ge 27, 3) := by decide +kernel
theorem dX6_know_21 : decode cX6_know 21 = .ok (.aload_n 0, 1) := by decide +kernel
theorem dX6_know_22 : decode cX6_know 22 = .ok (.getfield 29, 3) := by decide +kernel
theorem dX6_know_25 : decode cX6_know 25 = .ok (.bipush 53, 2) := by decide +kernel
theorem dX6_know_27 : decode cX6_know 27 = .ok (.iload_n 1, 1) := by decide +kernel
theorem dX6_know_28 : decode cX6_know 28 = .ok (.iadd, 1) := by decide +kernel
theorem dX6_know_29 : decode cX6_know 29 = .ok (.aload_n 0, 1) := by decide +kernel
theorem dX6_know_30 : decode cX6_know 30 = .ok (.getfield 29, 3) := by decide +kernel
theorem dX6_know_33 : decode cX6_know 33 = .ok (.bipush 105, 2) := by decide +kernel
theorem dX6_know_35 : decode cX6_know 35 = .ok (.iload_n 1, 1) := by decide +kernel
theorem dX6_know_36 : decode cX6_know 36 = .ok (.iadd, 1) := by decide +kernel
theorem dX6_know_37 : decode cX6_know 37 = .ok (.iaload, 1) := by decide +kernel
theorem dX6_know_38 : decode cX6_know 38 = .ok (.iastore, 1) := by decide +kernel
theorem dX6_know_39 : decode cX6_know 39 = .ok (.iinc 1 1, 3) := by decide +kernel
theorem dX6_know_42 : decode cX6_know 42 = .ok (.goto (-28), 3) := by decide +kernel
theorem dX6_know_45 : decode cX6_know 45 = .ok (.aload_n 0, 1) := by decide +kernel
theorem dX6_know_46 : decode cX6_know 46 = .ok (.getfield 29, 3) := by decide +kernel
theorem dX6_know_49 : decode cX6_know 49 = .ok (.bipush 52, 2) := by decide +kernel
theorem dX6_know_51 : decode cX6_know 51 = .ok (.dup2, 1) := by decide +kernel
theorem dX6_know_52 : decode cX6_know 52 = .ok (.iaload, 1) := by decide +kernel
theorem dX6_know_53 : decode cX6_know 53 = .ok (.iconst 1, 1) := by decide +kernel
theorem dX6_know_54 : decode cX6_know 54 = .ok (.isub, 1) := by decide +kernel
theorem dX6_know_55 : decode cX6_know 55 = .ok (.iastore, 1) := by decide +kernel
theorem dX6_know_56 : decode cX6_know 56 = .ok (.iconst 0, 1) := by decide +kernel
theorem dX6_know_57 : decode cX6_know 57 = .ok (.istore_n 1, 1) := by decide +kernel
theorem dX6_know_58 : decode cX6_know 58 = .ok (.iload_n 1, 1) := by decide +kernel
theorem dX6_know_59 : decode cX6_know 59 = .ok (.bipush 52, 2) := by decide +kernel
theorem dX6_know_61 : decode cX6_know 61 = .ok (.if_icmp .ge 35, 3) := by decide +kernel
theorem dX6_know_64 : decode cX6_know 64 = .ok (.aload_n 0, 1) := by decide +kernel
theorem dX6_know_65 : decode cX6_know 65 = .ok (.getfield 29, 3) := by decide +kernel
theorem dX6_know_68 : decode cX6_know 68 = .ok (.bipush 53, 2) := by decide +kernel
theorem dX6_know_70 : decode cX6_know 70 = .ok (.bipush 52, 2) := by decide +kernel
theorem dX6_know_72 : decode cX6_know 72 = .ok (.aload_n 0, 1) := by decide +kernel
theorem dX6_know_73 : decode cX6_know 73 = .ok (.getfield 29, 3) := by decide +kernel
theorem dX6_know_76 : decode cX6_know 76 = .ok (.bipush 52, 2) := by decide +kernel
theorem dX6_know_78 : decode cX6_know 78 = .ok (.iaload, 1) := by decide +kernel
theorem dX6_know_79 : decode cX6_know 79 = .ok (.imul, 1) := by decide +kernel
theorem dX6_know_80 : decode cX6_know 80 = .ok (.iadd, 1) := by decide +kernel
theorem dX6_know_81 : decode cX6_know 81 = .ok (.iload_n 1, 1) := by decide +kernel
theorem dX6_know_82 : decode cX6_know 82 = .ok (.iadd, 1) := by decide +kernel
theorem dX6_know_83 : decode cX6_know 83 = .ok (.aload_n 0, 1) := by decide +kernel
theorem dX6_know_84 : decode cX6_know 84 = .ok (.getfield 29, 3) := by decide +kernel
theorem dX6_know_87 : decode cX6_know 87 = .ok (.iload_n 1, 1) := by decide +kernel
theorem dX6_know_88 : decode cX6_know 88 = .ok (.iaload, 1) := by decide +kernel
theorem dX6_know_89 : decode cX6_know 89 = .ok (.iastore, 1) := by decide +kernel
theorem dX6_know_90 : decode cX6_know 90 = .ok (.iinc 1 1, 3) := by decide +kernel
theorem dX6_know_93 : decode cX6_know 93 = .ok (.goto (-35), 3) := by decide +kernel
theorem dX6_know_96 : decode cX6_know 96 = .ok (.aload_n 0, 1) := by decide +kernel
theorem dX6_know_97 : decode cX6_know 97 = .ok (.getfield 29, 3) := by decide +kernel
theorem dX6_know_100 : decode cX6_know 100 = .ok (.bipush 52, 2) := by decide +kernel
theorem dX6_know_102 : decode cX6_know 102 = .ok (.dup2, 1) := by decide +kernel
theorem dX6_know_103 : decode cX6_know 103 = .ok (.iaload, 1) := by decide +kernel
theorem dX6_know_104 : decode cX6_know 104 = .ok (.iconst 1, 1) := by decide +kernel
theorem dX6_know_105 : decode cX6_know 105 = .ok (.iadd, 1) := by decide +kernel
theorem dX6_know_106 : decode cX6_know 106 = .ok (.iastore, 1) := by decide +kernel
theorem dX6_know_107 : decode cX6_know 107 = .ok (.return_, 1) := by decide +kernel
theorem dX6_think_0 : decode cX6_think 0 = .ok (.aload_n 0, 1) := by decide +kernel
theorem dX6_think_1 : decode cX6_think 1 = .ok (.iconst 2, 1) := by decide +kernel
theorem dX6_think_2 : decode cX6_think 2 = .ok (.dup2, 1) := by decide +kernel
theorem dX6_think_3 : decode cX6_think 3 = .ok (.iaload, 1) := by decide +kernel
theorem dX6_think_4 : decode cX6_think 4 = .ok (.iconst 1, 1) := by decide +kernel
theorem dX6_think_5 : decode cX6_think 5 = .ok (.iadd, 1) := by decide +kernel
theorem dX6_think_6 : decode cX6_think 6 = .ok (.iastore, 1) := by decide +kernel
theorem dX6_think_7 : decode cX6_think 7 = .ok (.aload_n 0, 1) := by decide +kernel
theorem dX6_think_8 : decode cX6_think 8 = .ok (.bipush 16, 2) := by decide +kernel
theorem dX6_think_10 : decode cX6_think 10 = .ok (.bipush 6, 2) := by decide +kernel
theorem dX6_think_12 : decode cX6_think 12 = .ok (.iload_n 1, 1) := by decide +kernel
theorem dX6_think_13 : decode cX6_think 13 = .ok (.imul, 1) := by decide +kernel
theorem dX6_think_14 : decode cX6_think 14 = .ok (.iadd, 1) := by decide +kernel
theorem dX6_think_15 : decode cX6_think 15 = .ok (.iload_n 2, 1) := by decide +kernel
theorem dX6_think_16 : decode cX6_think 16 = .ok (.iadd, 1) := by decide +kernel
theorem dX6_think_17 : decode cX6_think 17 = .ok (.aload_n 0, 1) := by decide +kernel
theorem dX6_think_18 : decode cX6_think 18 = .ok (.iconst 2, 1) := by decide +kernel
theorem dX6_think_19 : decode cX6_think 19 = .ok (.iaload, 1) := by decide +kernel
theorem dX6_think_20 : decode cX6_think 20 = .ok (.iastore, 1) := by decide +kernel
theorem dX6_think_21 : decode cX6_think 21 = .ok (.return_, 1) := by decide +kernel
set_option maxRecDepth 20000 in
theorem ggX6_ride_X6_isAboard : GoodIn wsX6_ride wsX6_isAboard := goodIn_r _ [7] (by decide +kernel) (by decide +kernel)
set_option maxRecDepth 20000 in
theorem gX6_ride_X6_isAboard : GoodIn wsX6_ride (wsV RX6 110 RX6 yX6_isAboard wsX6_isAboard) := goodIn_app (goodIn_of _ (by decide +kernel)) ggX6_ride_X6_isAboard
set_option maxRecDepth 20000 in
theorem ggX6_ride_X6_whom : GoodIn wsX6_ride wsX6_whom := goodIn_r _ [11, 1, 3, 4, 5, 6, 7, 12, 13, 14, 15, 16, 17, 18, 19, 23, 24, 25, 26, 27, 28, 29, 30, 31, 32, 33, 34, 35, 36, 37, 38, 39, 40, 41, 42, 43] (by decide +kernel) (by decide +kernel)
set_option maxRecDepth 20000 in
theorem gX6_ride_X6_whom : GoodIn wsX6_ride (wsV RX6 121 RX6 yX6_whom wsX6_whom) := goodIn_app (goodIn_of _ (by decide +kernel)) ggX6_ride_X6_whom
set_option maxRecDepth 20000 in
theorem ggX6_ride_X6_think : GoodIn wsX6_ride wsX6_think := goodIn_r _ [22] (by decide +kernel) (by decide +kernel)
set_option maxRecDepth 20000 in
theorem gX6_ride_X6_think : GoodIn wsX6_ride (va_wsS RX6 132 yX6_think wsX6_think) := goodIn_app (goodIn_of _ (by decide +kernel)) ggX6_ride_X6_think
theorem dX6_ride_0 : decode cX6_ride 0 = .ok (.aload_n 1, 1) := by decide +kernel
theorem dX6_ride_1 : decode cX6_ride 1 = .ok (.iconst 0, 1) := by decide +kernel
theorem dX6_ride_2 : decode cX6_ride 2 = .ok (.dup2, 1) := by decide +kernel
theorem dX6_ride_3 : decode cX6_ride 3 = .ok (.iaload, 1) := by decide +kernel
theorem dX6_ride_4 : decode cX6_ride 4 = .ok (.iconst 1, 1) := by decide +kernel
theorem dX6_ride_5 : decode cX6_ride 5 = .ok (.iadd, 1) := by decide +kernel
theorem dX6_ride_6 : decode cX6_ride 6 = .ok (.iastore, 1) := by decide +kernel
theorem dX6_ride_7 : decode cX6_ride 7 = .ok (.iconst 0, 1) := by decide +kernel
theorem dX6_ride_8 : decode cX6_ride 8 = .ok (.istore_n 2, 1) := by decide +kernel
theorem dX6_ride_9 : decode cX6_ride 9 = .ok (.iload_n 2, 1) := by decide +kernel
theorem dX6_ride_10 : decode cX6_ride 10 = .ok (.aload_n 0, 1) := by decide +kernel
theorem dX6_ride_11 : decode cX6_ride 11 = .ok (.getfield 13, 3) := by decide +kernel
theorem dX6_ride_14 : decode cX6_ride 14 = .ok (.iconst 0, 1) := by decide +kernel
theorem dX6_ride_15 : decode cX6_ride 15 = .ok (.iaload, 1) := by decide +kernel
theorem dX6_ride_16 : decode cX6_ride 16 = .ok (.if_icmp .ge 48, 3) := by decide +kernel
theorem dX6_ride_19 : decode cX6_ride 19 = .ok (.aload_n 0, 1) := by decide +kernel
theorem dX6_ride_20 : decode cX6_ride 20 = .ok (.aload_n 1, 1) := by decide +kernel
theorem dX6_ride_21 : decode cX6_ride 21 = .ok (.iload_n 2, 1) := by decide +kernel
theorem dX6_ride_22 : decode cX6_ride 22 = .ok (.invokevirtual 110, 3) := by decide +kernel
theorem dX6_ride_25 : decode cX6_ride 25 = .ok (.ifCond .eq 18, 3) := by decide +kernel
theorem dX6_ride_28 : decode cX6_ride 28 = .ok (.aload_n 0, 1) := by decide +kernel
theorem dX6_ride_29 : decode cX6_ride 29 = .ok (.aload_n 1, 1) := by decide +kernel
theorem dX6_ride_30 : decode cX6_ride 30 = .ok (.iload_n 2, 1) := by decide +kernel
theorem dX6_ride_31 : decode cX6_ride 31 = .ok (.aload_n 0, 1) := by decide +kernel
theorem dX6_ride_32 : decode cX6_ride 32 = .ok (.getfield 23, 3) := by decide +kernel
theorem dX6_ride_35 : decode cX6_ride 35 = .ok (.iload_n 2, 1) := by decide +kernel
theorem dX6_ride_36 : decode cX6_ride 36 = .ok (.iaload, 1) := by decide +kernel
theorem dX6_ride_37 : decode cX6_ride 37 = .ok (.invokevirtual 121, 3) := by decide +kernel
theorem dX6_ride_40 : decode cX6_ride 40 = .ok (.goto 5, 3) := by decide +kernel
theorem dX6_ride_43 : decode cX6_ride 43 = .ok (.bipush (-9), 2) := by decide +kernel
theorem dX6_ride_45 : decode cX6_ride 45 = .ok (.istore_n 3, 1) := by decide +kernel
theorem dX6_ride_46 : decode cX6_ride 46 = .ok (.iload_n 3, 1) := by decide +kernel
theorem dX6_ride_47 : decode cX6_ride 47 = .ok (.bipush (-9), 2) := by decide +kernel
theorem dX6_ride_49 : decode cX6_ride 49 = .ok (.if_icmp .eq 9, 3) := by decide +kernel
theorem dX6_ride_52 : decode cX6_ride 52 = .ok (.aload_n 1, 1) := by decide +kernel
theorem dX6_ride_53 : decode cX6_ride 53 = .ok (.iload_n 2, 1) := by decide +kernel
theorem dX6_ride_54 : decode cX6_ride 54 = .ok (.iload_n 3, 1) := by decide +kernel
theorem dX6_ride_55 : decode cX6_ride 55 = .ok (.invokestatic 132, 3) := by decide +kernel
theorem dX6_ride_58 : decode cX6_ride 58 = .ok (.iinc 2 1, 3) := by decide +kernel
theorem dX6_ride_61 : decode cX6_ride 61 = .ok (.goto (-52), 3) := by decide +kernel
theorem dX6_ride_64 : decode cX6_ride 64 = .ok (.return_, 1) := by decide +kernel
set_option maxRecDepth 20000 in
theorem ggX6_rides_X6_know : GoodIn wsX6_rides wsX6_know := goodIn_r _ [6, 1, 32, 33, 34, 35, 36, 37, 38, 39, 40, 41, 42, 43, 44, 45, 46, 47, 48, 49, 50, 51, 52] (by decide +kernel) (by decide +kernel)
set_option maxRecDepth 20000 in
theorem gX6_rides_X6_know : GoodIn wsX6_rides (wsV RX6 136 RX6 yX6_know wsX6_know) := goodIn_app (goodIn_of _ (by decide +kernel)) ggX6_rides_X6_know
set_option maxRecDepth 20000 in
theorem ggX6_rides_X6_ride : GoodIn wsX6_rides wsX6_ride := goodIn_r _ [10, 11, 12, 13, 14, 15, 5, 16, 17, 18, 19, 20, 21, 22, 23, 24, 25, 26, 27, 28, 29, 30, 31, 32, 33, 34, 35, 36, 37, 38, 39, 40, 41, 42, 43, 44, 45, 46, 47, 48, 49, 50, 51, 52] (by decide +kernel) (by decide +kernel)
set_option maxRecDepth 20000 in
theorem gX6_rides_X6_ride : GoodIn wsX6_rides (wsV RX6 139 RX6 yX6_ride wsX6_ride) := goodIn_app (goodIn_of _ (by decide +kernel)) ggX6_rides_X6_ride
theorem dX6_rides_0 : decode cX6_rides 0 = .ok (.aload_n 0, 1) := by decide +kernel
theorem dX6_rides_1 : decode cX6_rides 1 = .ok (.getfield 29, 3) := by decide +kernel
theorem dX6_rides_4 : decode cX6_rides 4 = .ok (.iconst 0, 1) := by decide +kernel
theorem dX6_rides_5 : decode cX6_rides 5 = .ok (.iaload, 1) := by decide +kernel
theorem dX6_rides_6 : decode cX6_rides 6 = .ok (.bipush 99, 2) := by decide +kernel
theorem dX6_rides_8 : decode cX6_rides 8 = .ok (.if_icmp .ne 6, 3) := by decide +kernel
theorem dX6_rides_11 : decode cX6_rides 11 = .ok (.bipush (-2), 2) := by decide +kernel
theorem dX6_rides_13 : decode cX6_rides 13 = .ok (.ireturn, 1) := by decide +kernel
theorem dX6_rides_14 : decode cX6_rides 14 = .ok (.aload_n 0, 1) := by decide +kernel
theorem dX6_rides_15 : decode cX6_rides 15 = .ok (.invokevirtual 136, 3) := by decide +kernel
theorem dX6_rides_18 : decode cX6_rides 18 = .ok (.aload_n 0, 1) := by decide +kernel
theorem dX6_rides_19 : decode cX6_rides 19 = .ok (.aload_n 0, 1) := by decide +kernel
theorem dX6_rides_20 : decode cX6_rides 20 = .ok (.getfield 29, 3) := by decide +kernel
theorem dX6_rides_23 : decode cX6_rides 23 = .ok (.invokevirtual 139, 3) := by decide +kernel
theorem dX6_rides_26 : decode cX6_rides 26 = .ok (.aload_n 0, 1) := by decide +kernel
theorem dX6_rides_27 : decode cX6_rides 27 = .ok (.getfield 29, 3) := by decide +kernel
theorem dX6_rides_30 : decode cX6_rides 30 = .ok (.iconst 0, 1) := by decide +kernel
theorem dX6_rides_31 : decode cX6_rides 31 = .ok (.iaload, 1) := by decide +kernel
theorem dX6_rides_32 : decode cX6_rides 32 = .ok (.ireturn, 1) := by decide +kernel
set_option maxRecDepth 20000 in
theorem ggX6_thinks_X6_isRider : GoodIn wsX6_thinks wsX6_isRider := goodIn_r _ [6, 7, 8, 9, 5, 10, 22, 23, 24, 25, 26, 27, 28, 29, 30, 31, 32, 33, 34, 35, 36, 37, 38, 39, 40, 41, 42] (by decide +kernel) (by decide +kernel)
set_option maxRecDepth 20000 in
theorem gX6_thinks_X6_isRider : GoodIn wsX6_thinks (wsV RX6 107 RX6 yX6_isRider wsX6_isRider) := goodIn_app (goodIn_of _ (by decide +kernel)) ggX6_thinks_X6_isRider
set_option maxRecDepth 20000 in
theorem ggX6_thinks_X6_isAboard : GoodIn wsX6_thinks wsX6_isAboard := goodIn_r _ [14] (by decide +kernel) (by decide +kernel)
set_option maxRecDepth 20000 in
theorem gX6_thinks_X6_isAboard : GoodIn wsX6_thinks (wsV RX6 110 RX6 yX6_isAboard wsX6_isAboard) := goodIn_app (goodIn_of _ (by decide +kernel)) ggX6_thinks_X6_isAboard
set_option maxRecDepth 20000 in
theorem ggX6_thinks_X6_know : GoodIn wsX6_thinks wsX6_know := goodIn_r _ [18, 1, 22, 23, 24, 25, 26, 27, 28, 29, 30, 31, 32, 33, 34, 35, 36, 37, 38, 39, 40, 41, 42] (by decide +kernel) (by decide +kernel)
set_option maxRecDepth 20000 in
theorem gX6_thinks_X6_know : GoodIn wsX6_thinks (wsV RX6 136 RX6 yX6_know wsX6_know) := goodIn_app (goodIn_of _ (by decide +kernel)) ggX6_thinks_X6_know
set_option maxRecDepth 20000 in
theorem ggX6_thinks_X6_think : GoodIn wsX6_thinks wsX6_think := goodIn_r _ [21] (by decide +kernel) (by decide +kernel)
set_option maxRecDepth 20000 in
theorem gX6_thinks_X6_think : GoodIn wsX6_thinks (va_wsS RX6 132 yX6_think wsX6_think) := goodIn_app (goodIn_of _ (by decide +kernel)) ggX6_thinks_X6_think
theorem dX6_thinks_0 : decode cX6_thinks 0 = .ok (.aload_n 0, 1) := by decide +kernel
theorem dX6_thinks_1 : decode cX6_thinks 1 = .ok (.iload_n 1, 1) := by decide +kernel
theorem dX6_thinks_2 : decode cX6_thinks 2 = .ok (.invokevirtual 107, 3) := by decide +kernel
theorem dX6_thinks_5 : decode cX6_thinks 5 = .ok (.ifCond .eq 16, 3) := by decide +kernel
theorem dX6_thinks_8 : decode cX6_thinks 8 = .ok (.aload_n 0, 1) := by decide +kernel
theorem dX6_thinks_9 : decode cX6_thinks 9 = .ok (.iload_n 2, 1) := by decide +kernel
theorem dX6_thinks_10 : decode cX6_thinks 10 = .ok (.invokevirtual 107, 3) := by decide +kernel
theorem dX6_thinks_13 : decode cX6_thinks 13 = .ok (.ifCond .eq 8, 3) := by decide +kernel
theorem dX6_thinks_16 : decode cX6_thinks 16 = .ok (.iload_n 1, 1) := by decide +kernel
theorem dX6_thinks_17 : decode cX6_thinks 17 = .ok (.iload_n 2, 1) := by decide +kernel
theorem dX6_thinks_18 : decode cX6_thinks 18 = .ok (.if_icmp .ne 5, 3) := by decide +kernel
theorem dX6_thinks_21 : decode cX6_thinks 21 = .ok (.iconst (-1), 1) := by decide +kernel
theorem dX6_thinks_22 : decode cX6_thinks 22 = .ok (.ireturn, 1) := by decide +kernel
theorem dX6_thinks_23 : decode cX6_thinks 23 = .ok (.aload_n 0, 1) := by decide +kernel
theorem dX6_thinks_24 : decode cX6_thinks 24 = .ok (.aload_n 0, 1) := by decide +kernel
theorem dX6_thinks_25 : decode cX6_thinks 25 = .ok (.getfield 29, 3) := by decide +kernel
theorem dX6_thinks_28 : decode cX6_thinks 28 = .ok (.iload_n 1, 1) := by decide +kernel
theorem dX6_thinks_29 : decode cX6_thinks 29 = .ok (.invokevirtual 110, 3) := by decide +kernel
theorem dX6_thinks_32 : decode cX6_thinks 32 = .ok (.ifCond .eq 15, 3) := by decide +kernel
theorem dX6_thinks_35 : decode cX6_thinks 35 = .ok (.aload_n 0, 1) := by decide +kernel
theorem dX6_thinks_36 : decode cX6_thinks 36 = .ok (.aload_n 0, 1) := by decide +kernel
theorem dX6_thinks_37 : decode cX6_thinks 37 = .ok (.getfield 29, 3) := by decide +kernel
theorem dX6_thinks_40 : decode cX6_thinks 40 = .ok (.iload_n 2, 1) := by decide +kernel
theorem dX6_thinks_41 : decode cX6_thinks 41 = .ok (.invokevirtual 110, 3) := by decide +kernel
theorem dX6_thinks_44 : decode cX6_thinks 44 = .ok (.ifCond .ne 6, 3) := by decide +kernel
theorem dX6_thinks_47 : decode cX6_thinks 47 = .ok (.bipush (-2), 2) := by decide +kernel
theorem dX6_thinks_49 : decode cX6_thinks 49 = .ok (.ireturn, 1) := by decide +kernel
theorem dX6_thinks_50 : decode cX6_thinks 50 = .ok (.aload_n 0, 1) := by decide +kernel
theorem dX6_thinks_51 : decode cX6_thinks 51 = .ok (.invokevirtual 136, 3) := by decide +kernel
theorem dX6_thinks_54 : decode cX6_thinks 54 = .ok (.aload_n 0, 1) := by decide +kernel
theorem dX6_thinks_55 : decode cX6_thinks 55 = .ok (.getfield 29, 3) := by decide +kernel
theorem dX6_thinks_58 : decode cX6_thinks 58 = .ok (.iload_n 1, 1) := by decide +kernel
theorem dX6_thinks_59 : decode cX6_thinks 59 = .ok (.iload_n 2, 1) := by decide +kernel
theorem dX6_thinks_60 : decode cX6_thinks 60 = .ok (.invokestatic 132, 3) := by decide +kernel
theorem dX6_thinks_63 : decode cX6_thinks 63 = .ok (.aload_n 0, 1) := by decide +kernel
theorem dX6_thinks_64 : decode cX6_thinks 64 = .ok (.getfield 29, 3) := by decide +kernel
theorem dX6_thinks_67 : decode cX6_thinks 67 = .ok (.iconst 2, 1) := by decide +kernel
theorem dX6_thinks_68 : decode cX6_thinks 68 = .ok (.iaload, 1) := by decide +kernel
theorem dX6_thinks_69 : decode cX6_thinks 69 = .ok (.ireturn, 1) := by decide +kernel
set_option maxRecDepth 20000 in
theorem ggX6_down_X6_know : GoodIn wsX6_down wsX6_know := goodIn_r _ [6, 1, 7, 8, 9, 10, 11, 12, 13, 14, 15, 16, 17, 18, 19, 20, 21, 22, 23, 24, 25, 26, 27] (by decide +kernel) (by decide +kernel)
set_option maxRecDepth 20000 in
theorem gX6_down_X6_know : GoodIn wsX6_down (wsV RX6 136 RX6 yX6_know wsX6_know) := goodIn_app (goodIn_of _ (by decide +kernel)) ggX6_down_X6_know
theorem dX6_down_0 : decode cX6_down 0 = .ok (.aload_n 0, 1) := by decide +kernel
theorem dX6_down_1 : decode cX6_down 1 = .ok (.invokevirtual 136, 3) := by decide +kernel
theorem dX6_down_4 : decode cX6_down 4 = .ok (.iload_n 1, 1) := by decide +kernel
theorem dX6_down_5 : decode cX6_down 5 = .ok (.bipush (-9), 2) := by decide +kernel
theorem dX6_down_7 : decode cX6_down 7 = .ok (.if_icmp .ne 16, 3) := by decide +kernel
theorem dX6_down_10 : decode cX6_down 10 = .ok (.aload_n 0, 1) := by decide +kernel
theorem dX6_down_11 : decode cX6_down 11 = .ok (.getfield 29, 3) := by decide +kernel
theorem dX6_down_14 : decode cX6_down 14 = .ok (.iconst 3, 1) := by decide +kernel
theorem dX6_down_15 : decode cX6_down 15 = .ok (.dup2, 1) := by decide +kernel
theorem dX6_down_16 : decode cX6_down 16 = .ok (.iaload, 1) := by decide +kernel
theorem dX6_down_17 : decode cX6_down 17 = .ok (.iconst 1, 1) := by decide +kernel
theorem dX6_down_18 : decode cX6_down 18 = .ok (.iadd, 1) := by decide +kernel
theorem dX6_down_19 : decode cX6_down 19 = .ok (.iastore, 1) := by decide +kernel
theorem dX6_down_20 : decode cX6_down 20 = .ok (.goto 32, 3) := by decide +kernel
theorem dX6_down_23 : decode cX6_down 23 = .ok (.aload_n 0, 1) := by decide +kernel
theorem dX6_down_24 : decode cX6_down 24 = .ok (.getfield 29, 3) := by decide +kernel
theorem dX6_down_27 : decode cX6_down 27 = .ok (.iconst 1, 1) := by decide +kernel
theorem dX6_down_28 : decode cX6_down 28 = .ok (.dup2, 1) := by decide +kernel
theorem dX6_down_29 : decode cX6_down 29 = .ok (.iaload, 1) := by decide +kernel
theorem dX6_down_30 : decode cX6_down 30 = .ok (.iconst 1, 1) := by decide +kernel
theorem dX6_down_31 : decode cX6_down 31 = .ok (.iload_n 1, 1) := by decide +kernel
theorem dX6_down_32 : decode cX6_down 32 = .ok (.ishl, 1) := by decide +kernel
theorem dX6_down_33 : decode cX6_down 33 = .ok (.iconst (-1), 1) := by decide +kernel
theorem dX6_down_34 : decode cX6_down 34 = .ok (.ixor, 1) := by decide +kernel
theorem dX6_down_35 : decode cX6_down 35 = .ok (.iand, 1) := by decide +kernel
theorem dX6_down_36 : decode cX6_down 36 = .ok (.iastore, 1) := by decide +kernel
theorem dX6_down_37 : decode cX6_down 37 = .ok (.aload_n 0, 1) := by decide +kernel
theorem dX6_down_38 : decode cX6_down 38 = .ok (.getfield 29, 3) := by decide +kernel
theorem dX6_down_41 : decode cX6_down 41 = .ok (.bipush 10, 2) := by decide +kernel
theorem dX6_down_43 : decode cX6_down 43 = .ok (.iload_n 1, 1) := by decide +kernel
theorem dX6_down_44 : decode cX6_down 44 = .ok (.iadd, 1) := by decide +kernel
theorem dX6_down_45 : decode cX6_down 45 = .ok (.aload_n 0, 1) := by decide +kernel
theorem dX6_down_46 : decode cX6_down 46 = .ok (.getfield 29, 3) := by decide +kernel
theorem dX6_down_49 : decode cX6_down 49 = .ok (.iconst 0, 1) := by decide +kernel
theorem dX6_down_50 : decode cX6_down 50 = .ok (.iaload, 1) := by decide +kernel
theorem dX6_down_51 : decode cX6_down 51 = .ok (.iastore, 1) := by decide +kernel
theorem dX6_down_52 : decode cX6_down 52 = .ok (.iload_n 1, 1) := by decide +kernel
theorem dX6_down_53 : decode cX6_down 53 = .ok (.ireturn, 1) := by decide +kernel
set_option maxRecDepth 20000 in
theorem ggX6_rings_X6_isRider : GoodIn wsX6_rings wsX6_isRider := goodIn_r _ [6, 7, 8, 9, 5, 10, 27, 28, 29, 30, 31, 32, 33, 34, 35, 36, 37, 38, 39, 40, 41, 42, 43, 44, 45, 46, 47] (by decide +kernel) (by decide +kernel)
set_option maxRecDepth 20000 in
theorem gX6_rings_X6_isRider : GoodIn wsX6_rings (wsV RX6 107 RX6 yX6_isRider wsX6_isRider) := goodIn_app (goodIn_of _ (by decide +kernel)) ggX6_rings_X6_isRider
set_option maxRecDepth 20000 in
theorem ggX6_rings_X6_isAboard : GoodIn wsX6_rings wsX6_isAboard := goodIn_r _ [14] (by decide +kernel) (by decide +kernel)
set_option maxRecDepth 20000 in
theorem gX6_rings_X6_isAboard : GoodIn wsX6_rings (wsV RX6 110 RX6 yX6_isAboard wsX6_isAboard) := goodIn_app (goodIn_of _ (by decide +kernel)) ggX6_rings_X6_isAboard
set_option maxRecDepth 20000 in
theorem ggX6_rings_X6_byRing : GoodIn wsX6_rings wsX6_byRing := goodIn_r _ [18, 7, 27, 28, 29, 30, 31, 32, 33, 34, 35, 36, 37, 38, 39, 40, 41, 42, 43, 44, 45, 46, 47] (by decide +kernel) (by decide +kernel)
set_option maxRecDepth 20000 in
theorem gX6_rings_X6_byRing : GoodIn wsX6_rings (wsV RX6 125 RX6 yX6_byRing wsX6_byRing) := goodIn_app (goodIn_of _ (by decide +kernel)) ggX6_rings_X6_byRing
set_option maxRecDepth 20000 in
theorem ggX6_rings_X6_down : GoodIn wsX6_rings wsX6_down := goodIn_r _ [22, 1, 23, 24, 25, 5, 26, 27, 28, 29, 30, 31, 32, 33, 34, 35, 36, 37, 38, 39, 40, 41, 42, 43, 44, 45, 46, 47] (by decide +kernel) (by decide +kernel)
set_option maxRecDepth 20000 in
theorem gX6_rings_X6_down : GoodIn wsX6_rings (wsV RX6 143 RX6 yX6_down wsX6_down) := goodIn_app (goodIn_of _ (by decide +kernel)) ggX6_rings_X6_down
theorem dX6_rings_0 : decode cX6_rings 0 = .ok (.aload_n 0, 1) := by decide +kernel
theorem dX6_rings_1 : decode cX6_rings 1 = .ok (.iload_n 1, 1) := by decide +kernel
theorem dX6_rings_2 : decode cX6_rings 2 = .ok (.invokevirtual 107, 3) := by decide +kernel
theorem dX6_rings_5 : decode cX6_rings 5 = .ok (.ifCond .ne 5, 3) := by decide +kernel
theorem dX6_rings_8 : decode cX6_rings 8 = .ok (.iconst (-1), 1) := by decide +kernel
theorem dX6_rings_9 : decode cX6_rings 9 = .ok (.ireturn, 1) := by decide +kernel
theorem dX6_rings_10 : decode cX6_rings 10 = .ok (.aload_n 0, 1) := by decide +kernel
theorem dX6_rings_11 : decode cX6_rings 11 = .ok (.aload_n 0, 1) := by decide +kernel
theorem dX6_rings_12 : decode cX6_rings 12 = .ok (.getfield 29, 3) := by decide +kernel
theorem dX6_rings_15 : decode cX6_rings 15 = .ok (.iload_n 1, 1) := by decide +kernel
theorem dX6_rings_16 : decode cX6_rings 16 = .ok (.invokevirtual 110, 3) := by decide +kernel
theorem dX6_rings_19 : decode cX6_rings 19 = .ok (.ifCond .eq 25, 3) := by decide +kernel
theorem dX6_rings_22 : decode cX6_rings 22 = .ok (.aload_n 0, 1) := by decide +kernel
theorem dX6_rings_23 : decode cX6_rings 23 = .ok (.aload_n 0, 1) := by decide +kernel
theorem dX6_rings_24 : decode cX6_rings 24 = .ok (.aload_n 0, 1) := by decide +kernel
theorem dX6_rings_25 : decode cX6_rings 25 = .ok (.getfield 29, 3) := by decide +kernel
theorem dX6_rings_28 : decode cX6_rings 28 = .ok (.iload_n 1, 1) := by decide +kernel
theorem dX6_rings_29 : decode cX6_rings 29 = .ok (.aload_n 0, 1) := by decide +kernel
theorem dX6_rings_30 : decode cX6_rings 30 = .ok (.getfield 29, 3) := by decide +kernel
theorem dX6_rings_33 : decode cX6_rings 33 = .ok (.iconst 1, 1) := by decide +kernel
theorem dX6_rings_34 : decode cX6_rings 34 = .ok (.iaload, 1) := by decide +kernel
theorem dX6_rings_35 : decode cX6_rings 35 = .ok (.invokevirtual 125, 3) := by decide +kernel
theorem dX6_rings_38 : decode cX6_rings 38 = .ok (.invokevirtual 143, 3) := by decide +kernel
theorem dX6_rings_41 : decode cX6_rings 41 = .ok (.goto 5, 3) := by decide +kernel
theorem dX6_rings_44 : decode cX6_rings 44 = .ok (.bipush (-2), 2) := by decide +kernel
theorem dX6_rings_46 : decode cX6_rings 46 = .ok (.ireturn, 1) := by decide +kernel
set_option maxRecDepth 20000 in
theorem ggX6_twice_X6_isRider : GoodIn wsX6_twice wsX6_isRider := goodIn_r _ [6, 7, 8, 9, 5, 10, 27, 28, 29, 30, 31, 32, 33, 34, 35, 36, 37, 38, 39, 40, 41, 42, 43, 44, 45, 46, 47] (by decide +kernel) (by decide +kernel)
set_option maxRecDepth 20000 in
theorem gX6_twice_X6_isRider : GoodIn wsX6_twice (wsV RX6 107 RX6 yX6_isRider wsX6_isRider) := goodIn_app (goodIn_of _ (by decide +kernel)) ggX6_twice_X6_isRider
set_option maxRecDepth 20000 in
theorem ggX6_twice_X6_isAboard : GoodIn wsX6_twice wsX6_isAboard := goodIn_r _ [14] (by decide +kernel) (by decide +kernel)
set_option maxRecDepth 20000 in
theorem gX6_twice_X6_isAboard : GoodIn wsX6_twice (wsV RX6 110 RX6 yX6_isAboard wsX6_isAboard) := goodIn_app (goodIn_of _ (by decide +kernel)) ggX6_twice_X6_isAboard
set_option maxRecDepth 20000 in
theorem ggX6_twice_X6_byTwo : GoodIn wsX6_twice wsX6_byTwo := goodIn_r _ [18, 7, 1, 11, 12, 13, 5, 14, 27, 28, 29, 30, 31, 32, 33, 34, 35, 36, 37, 38, 39, 40, 41, 42, 43, 44, 45, 46, 47] (by decide +kernel) (by decide +kernel)
set_option maxRecDepth 20000 in
theorem gX6_twice_X6_byTwo : GoodIn wsX6_twice (wsV RX6 128 RX6 yX6_byTwo wsX6_byTwo) := goodIn_app (goodIn_of _ (by decide +kernel)) ggX6_twice_X6_byTwo
set_option maxRecDepth 20000 in
theorem ggX6_twice_X6_down : GoodIn wsX6_twice wsX6_down := goodIn_r _ [22, 1, 23, 24, 25, 5, 26, 27, 28, 29, 30, 31, 32, 33, 34, 35, 36, 37, 38, 39, 40, 41, 42, 43, 44, 45, 46, 47] (by decide +kernel) (by decide +kernel)
set_option maxRecDepth 20000 in
theorem gX6_twice_X6_down : GoodIn wsX6_twice (wsV RX6 143 RX6 yX6_down wsX6_down) := goodIn_app (goodIn_of _ (by decide +kernel)) ggX6_twice_X6_down
theorem dX6_twice_0 : decode cX6_twice 0 = .ok (.aload_n 0, 1) := by decide +kernel
theorem dX6_twice_1 : decode cX6_twice 1 = .ok (.iload_n 1, 1) := by decide +kernel
theorem dX6_twice_2 : decode cX6_twice 2 = .ok (.invokevirtual 107, 3) := by decide +kernel
theorem dX6_twice_5 : decode cX6_twice 5 = .ok (.ifCond .ne 5, 3) := by decide +kernel
theorem dX6_twice_8 : decode cX6_twice 8 = .ok (.iconst (-1), 1) := by decide +kernel
theorem dX6_twice_9 : decode cX6_twice 9 = .ok (.ireturn, 1) := by decide +kernel
theorem dX6_twice_10 : decode cX6_twice 10 = .ok (.aload_n 0, 1) := by decide +kernel
theorem dX6_twice_11 : decode cX6_twice 11 = .ok (.aload_n 0, 1) := by decide +kernel
theorem dX6_twice_12 : decode cX6_twice 12 = .ok (.getfield 29, 3) := by decide +kernel
theorem dX6_twice_15 : decode cX6_twice 15 = .ok (.iload_n 1, 1) := by decide +kernel
theorem dX6_twice_16 : decode cX6_twice 16 = .ok (.invokevirtual 110, 3) := by decide +kernel
theorem dX6_twice_19 : decode cX6_twice 19 = .ok (.ifCond .eq 15, 3) := by decide +kernel
theorem dX6_twice_22 : decode cX6_twice 22 = .ok (.aload_n 0, 1) := by decide +kernel
theorem dX6_twice_23 : decode cX6_twice 23 = .ok (.aload_n 0, 1) := by decide +kernel
theorem dX6_twice_24 : decode cX6_twice 24 = .ok (.iload_n 1, 1) := by decide +kernel
theorem dX6_twice_25 : decode cX6_twice 25 = .ok (.invokevirtual 128, 3) := by decide +kernel
theorem dX6_twice_28 : decode cX6_twice 28 = .ok (.invokevirtual 143, 3) := by decide +kernel
theorem dX6_twice_31 : decode cX6_twice 31 = .ok (.goto 5, 3) := by decide +kernel
theorem dX6_twice_34 : decode cX6_twice 34 = .ok (.bipush (-2), 2) := by decide +kernel
theorem dX6_twice_36 : decode cX6_twice 36 = .ok (.ireturn, 1) := by decide +kernel
set_option maxRecDepth 20000 in
theorem ggX6_seats_X6_isRider : GoodIn wsX6_seats wsX6_isRider := goodIn_r _ [6, 7, 8, 9, 5, 10, 19, 20, 21, 22, 23, 24, 25, 26, 27, 28, 29, 30, 31, 32, 33, 34, 35, 36, 37, 38, 39] (by decide +kernel) (by decide +kernel)
set_option maxRecDepth 20000 in
theorem gX6_seats_X6_isRider : GoodIn wsX6_seats (wsV RX6 107 RX6 yX6_isRider wsX6_isRider) := goodIn_app (goodIn_of _ (by decide +kernel)) ggX6_seats_X6_isRider
set_option maxRecDepth 20000 in
theorem ggX6_seats_X6_in : GoodIn wsX6_seats wsX6_in := goodIn_r _ [10] (by decide +kernel) (by decide +kernel)
set_option maxRecDepth 20000 in
theorem gX6_seats_X6_in : GoodIn wsX6_seats (va_wsS RX6 54 yX6_in wsX6_in) := goodIn_app (goodIn_of _ (by decide +kernel)) ggX6_seats_X6_in
set_option maxRecDepth 20000 in
theorem ggX6_seats_X6_isAboard : GoodIn wsX6_seats wsX6_isAboard := goodIn_r _ [14] (by decide +kernel) (by decide +kernel)
set_option maxRecDepth 20000 in
theorem gX6_seats_X6_isAboard : GoodIn wsX6_seats (wsV RX6 110 RX6 yX6_isAboard wsX6_isAboard) := goodIn_app (goodIn_of _ (by decide +kernel)) ggX6_seats_X6_isAboard
set_option maxRecDepth 20000 in
theorem ggX6_seats_X6_know : GoodIn wsX6_seats wsX6_know := goodIn_r _ [18, 1, 19, 20, 21, 22, 23, 24, 25, 26, 27, 28, 29, 30, 31, 32, 33, 34, 35, 36, 37, 38, 39] (by decide +kernel) (by decide +kernel)
set_option maxRecDepth 20000 in
theorem gX6_seats_X6_know : GoodIn wsX6_seats (wsV RX6 136 RX6 yX6_know wsX6_know) := goodIn_app (goodIn_of _ (by decide +kernel)) ggX6_seats_X6_know
theorem dX6_seats_0 : decode cX6_seats 0 = .ok (.aload_n 0, 1) := by decide +kernel
theorem dX6_seats_1 : decode cX6_seats 1 = .ok (.iload_n 1, 1) := by decide +kernel
theorem dX6_seats_2 : decode cX6_seats 2 = .ok (.invokevirtual 107, 3) := by decide +kernel
theorem dX6_seats_5 : decode cX6_seats 5 = .ok (.ifCond .eq 13, 3) := by decide +kernel
theorem dX6_seats_8 : decode cX6_seats 8 = .ok (.iload_n 2, 1) := by decide +kernel
theorem dX6_seats_9 : decode cX6_seats 9 = .ok (.iconst 0, 1) := by decide +kernel
theorem dX6_seats_10 : decode cX6_seats 10 = .ok (.bipush 9, 2) := by decide +kernel
theorem dX6_seats_12 : decode cX6_seats 12 = .ok (.invokestatic 54, 3) := by decide +kernel
theorem dX6_seats_15 : decode cX6_seats 15 = .ok (.ifCond .ne 5, 3) := by decide +kernel
theorem dX6_seats_18 : decode cX6_seats 18 = .ok (.iconst (-1), 1) := by decide +kernel
theorem dX6_seats_19 : decode cX6_seats 19 = .ok (.ireturn, 1) := by decide +kernel
theorem dX6_seats_20 : decode cX6_seats 20 = .ok (.aload_n 0, 1) := by decide +kernel
theorem dX6_seats_21 : decode cX6_seats 21 = .ok (.getfield 29, 3) := by decide +kernel
theorem dX6_seats_24 : decode cX6_seats 24 = .ok (.iconst 4, 1) := by decide +kernel
theorem dX6_seats_25 : decode cX6_seats 25 = .ok (.iload_n 1, 1) := by decide +kernel
theorem dX6_seats_26 : decode cX6_seats 26 = .ok (.iadd, 1) := by decide +kernel
theorem dX6_seats_27 : decode cX6_seats 27 = .ok (.iaload, 1) := by decide +kernel
theorem dX6_seats_28 : decode cX6_seats 28 = .ok (.istore_n 3, 1) := by decide +kernel
theorem dX6_seats_29 : decode cX6_seats 29 = .ok (.aload_n 0, 1) := by decide +kernel
theorem dX6_seats_30 : decode cX6_seats 30 = .ok (.aload_n 0, 1) := by decide +kernel
theorem dX6_seats_31 : decode cX6_seats 31 = .ok (.getfield 29, 3) := by decide +kernel
theorem dX6_seats_34 : decode cX6_seats 34 = .ok (.iload_n 1, 1) := by decide +kernel
theorem dX6_seats_35 : decode cX6_seats 35 = .ok (.invokevirtual 110, 3) := by decide +kernel
theorem dX6_seats_38 : decode cX6_seats 38 = .ok (.ifCond .eq 8, 3) := by decide +kernel
theorem dX6_seats_41 : decode cX6_seats 41 = .ok (.iload_n 3, 1) := by decide +kernel
theorem dX6_seats_42 : decode cX6_seats 42 = .ok (.iload_n 2, 1) := by decide +kernel
theorem dX6_seats_43 : decode cX6_seats 43 = .ok (.if_icmp .ne 6, 3) := by decide +kernel
theorem dX6_seats_46 : decode cX6_seats 46 = .ok (.bipush (-2), 2) := by decide +kernel
theorem dX6_seats_48 : decode cX6_seats 48 = .ok (.ireturn, 1) := by decide +kernel
theorem dX6_seats_49 : decode cX6_seats 49 = .ok (.aload_n 0, 1) := by decide +kernel
theorem dX6_seats_50 : decode cX6_seats 50 = .ok (.invokevirtual 136, 3) := by decide +kernel
theorem dX6_seats_53 : decode cX6_seats 53 = .ok (.aload_n 0, 1) := by decide +kernel
theorem dX6_seats_54 : decode cX6_seats 54 = .ok (.getfield 29, 3) := by decide +kernel
theorem dX6_seats_57 : decode cX6_seats 57 = .ok (.iconst 4, 1) := by decide +kernel
theorem dX6_seats_58 : decode cX6_seats 58 = .ok (.iload_n 1, 1) := by decide +kernel
theorem dX6_seats_59 : decode cX6_seats 59 = .ok (.iadd, 1) := by decide +kernel
theorem dX6_seats_60 : decode cX6_seats 60 = .ok (.iload_n 2, 1) := by decide +kernel
theorem dX6_seats_61 : decode cX6_seats 61 = .ok (.iastore, 1) := by decide +kernel
theorem dX6_seats_62 : decode cX6_seats 62 = .ok (.iload_n 3, 1) := by decide +kernel
theorem dX6_seats_63 : decode cX6_seats 63 = .ok (.ireturn, 1) := by decide +kernel
set_option maxRecDepth 20000 in
theorem ggX6_boards_X6_isRider : GoodIn wsX6_boards wsX6_isRider := goodIn_r _ [6, 7, 8, 9, 5, 10, 22, 23, 24, 25, 26, 27, 28, 29, 30, 31, 32, 33, 34, 35, 36, 37, 38, 39, 40, 41, 42] (by decide +kernel) (by decide +kernel)
set_option maxRecDepth 20000 in
theorem gX6_boards_X6_isRider : GoodIn wsX6_boards (wsV RX6 107 RX6 yX6_isRider wsX6_isRider) := goodIn_app (goodIn_of _ (by decide +kernel)) ggX6_boards_X6_isRider
set_option maxRecDepth 20000 in
theorem ggX6_boards_X6_isAboard : GoodIn wsX6_boards wsX6_isAboard := goodIn_r _ [14] (by decide +kernel) (by decide +kernel)
set_option maxRecDepth 20000 in
theorem gX6_boards_X6_isAboard : GoodIn wsX6_boards (wsV RX6 110 RX6 yX6_isAboard wsX6_isAboard) := goodIn_app (goodIn_of _ (by decide +kernel)) ggX6_boards_X6_isAboard
set_option maxRecDepth 20000 in
theorem ggX6_boards_X6_know : GoodIn wsX6_boards wsX6_know := goodIn_r _ [18, 1, 22, 23, 24, 25, 26, 27, 28, 29, 30, 31, 32, 33, 34, 35, 36, 37, 38, 39, 40, 41, 42] (by decide +kernel) (by decide +kernel)
set_option maxRecDepth 20000 in
theorem gX6_boards_X6_know : GoodIn wsX6_boards (wsV RX6 136 RX6 yX6_know wsX6_know) := goodIn_app (goodIn_of _ (by decide +kernel)) ggX6_boards_X6_know
set_option maxRecDepth 20000 in
theorem ggX6_boards_X6_manyOf : GoodIn wsX6_boards wsX6_manyOf := goodIn_r _ [21] (by decide +kernel) (by decide +kernel)
set_option maxRecDepth 20000 in
theorem gX6_boards_X6_manyOf : GoodIn wsX6_boards (va_wsS RX6 146 yX6_manyOf wsX6_manyOf) := goodIn_app (goodIn_of _ (by decide +kernel)) ggX6_boards_X6_manyOf
theorem dX6_boards_0 : decode cX6_boards 0 = .ok (.aload_n 0, 1) := by decide +kernel
theorem dX6_boards_1 : decode cX6_boards 1 = .ok (.iload_n 1, 1) := by decide +kernel
theorem dX6_boards_2 : decode cX6_boards 2 = .ok (.invokevirtual 107, 3) := by decide +kernel
theorem dX6_boards_5 : decode cX6_boards 5 = .ok (.ifCond .ne 5, 3) := by decide +kernel
theorem dX6_boards_8 : decode cX6_boards 8 = .ok (.iconst (-1), 1) := by decide +kernel
theorem dX6_boards_9 : decode cX6_boards 9 = .ok (.ireturn, 1) := by decide +kernel
theorem dX6_boards_10 : decode cX6_boards 10 = .ok (.aload_n 0, 1) := by decide +kernel
theorem dX6_boards_11 : decode cX6_boards 11 = .ok (.aload_n 0, 1) := by decide +kernel
theorem dX6_boards_12 : decode cX6_boards 12 = .ok (.getfield 29, 3) := by decide +kernel
theorem dX6_boards_15 : decode cX6_boards 15 = .ok (.iload_n 1, 1) := by decide +kernel
theorem dX6_boards_16 : decode cX6_boards 16 = .ok (.invokevirtual 110, 3) := by decide +kernel
theorem dX6_boards_19 : decode cX6_boards 19 = .ok (.ifCond .eq 6, 3) := by decide +kernel
theorem dX6_boards_22 : decode cX6_boards 22 = .ok (.bipush (-2), 2) := by decide +kernel
theorem dX6_boards_24 : decode cX6_boards 24 = .ok (.ireturn, 1) := by decide +kernel
theorem dX6_boards_25 : decode cX6_boards 25 = .ok (.aload_n 0, 1) := by decide +kernel
theorem dX6_boards_26 : decode cX6_boards 26 = .ok (.invokevirtual 136, 3) := by decide +kernel
theorem dX6_boards_29 : decode cX6_boards 29 = .ok (.aload_n 0, 1) := by decide +kernel
theorem dX6_boards_30 : decode cX6_boards 30 = .ok (.getfield 29, 3) := by decide +kernel
theorem dX6_boards_33 : decode cX6_boards 33 = .ok (.iconst 1, 1) := by decide +kernel
theorem dX6_boards_34 : decode cX6_boards 34 = .ok (.dup2, 1) := by decide +kernel
theorem dX6_boards_35 : decode cX6_boards 35 = .ok (.iaload, 1) := by decide +kernel
theorem dX6_boards_36 : decode cX6_boards 36 = .ok (.iconst 1, 1) := by decide +kernel
theorem dX6_boards_37 : decode cX6_boards 37 = .ok (.iload_n 1, 1) := by decide +kernel
theorem dX6_boards_38 : decode cX6_boards 38 = .ok (.ishl, 1) := by decide +kernel
theorem dX6_boards_39 : decode cX6_boards 39 = .ok (.ior, 1) := by decide +kernel
theorem dX6_boards_40 : decode cX6_boards 40 = .ok (.iastore, 1) := by decide +kernel
theorem dX6_boards_41 : decode cX6_boards 41 = .ok (.aload_n 0, 1) := by decide +kernel
theorem dX6_boards_42 : decode cX6_boards 42 = .ok (.getfield 29, 3) := by decide +kernel
theorem dX6_boards_45 : decode cX6_boards 45 = .ok (.bipush 10, 2) := by decide +kernel
theorem dX6_boards_47 : decode cX6_boards 47 = .ok (.iload_n 1, 1) := by decide +kernel
theorem dX6_boards_48 : decode cX6_boards 48 = .ok (.iadd, 1) := by decide +kernel
theorem dX6_boards_49 : decode cX6_boards 49 = .ok (.bipush (-9), 2) := by decide +kernel
theorem dX6_boards_51 : decode cX6_boards 51 = .ok (.iastore, 1) := by decide +kernel
theorem dX6_boards_52 : decode cX6_boards 52 = .ok (.aload_n 0, 1) := by decide +kernel
theorem dX6_boards_53 : decode cX6_boards 53 = .ok (.getfield 29, 3) := by decide +kernel
theorem dX6_boards_56 : decode cX6_boards 56 = .ok (.iconst 1, 1) := by decide +kernel
theorem dX6_boards_57 : decode cX6_boards 57 = .ok (.iaload, 1) := by decide +kernel
theorem dX6_boards_58 : decode cX6_boards 58 = .ok (.invokestatic 146, 3) := by decide +kernel
theorem dX6_boards_61 : decode cX6_boards 61 = .ok (.ireturn, 1) := by decide +kernel
theorem dX6_undo_0 : decode cX6_undo 0 = .ok (.aload_n 0, 1) := by decide +kernel
theorem dX6_undo_1 : decode cX6_undo 1 = .ok (.getfield 29, 3) := by decide +kernel
theorem dX6_undo_4 : decode cX6_undo 4 = .ok (.bipush 52, 2) := by decide +kernel
theorem dX6_undo_6 : decode cX6_undo 6 = .ok (.iaload, 1) := by decide +kernel
theorem dX6_undo_7 : decode cX6_undo 7 = .ok (.ifCond .ne 6, 3) := by decide +kernel
theorem dX6_undo_10 : decode cX6_undo 10 = .ok (.bipush (-2), 2) := by decide +kernel
theorem dX6_undo_12 : decode cX6_undo 12 = .ok (.ireturn, 1) := by decide +kernel
theorem dX6_undo_13 : decode cX6_undo 13 = .ok (.aload_n 0, 1) := by decide +kernel
theorem dX6_undo_14 : decode cX6_undo 14 = .ok (.getfield 29, 3) := by decide +kernel
theorem dX6_undo_17 : decode cX6_undo 17 = .ok (.bipush 52, 2) := by decide +kernel
theorem dX6_undo_19 : decode cX6_undo 19 = .ok (.dup2, 1) := by decide +kernel
theorem dX6_undo_20 : decode cX6_undo 20 = .ok (.iaload, 1) := by decide +kernel
theorem dX6_undo_21 : decode cX6_undo 21 = .ok (.iconst 1, 1) := by decide +kernel
theorem dX6_undo_22 : decode cX6_undo 22 = .ok (.isub, 1) := by decide +kernel
theorem dX6_undo_23 : decode cX6_undo 23 = .ok (.iastore, 1) := by decide +kernel
theorem dX6_undo_24 : decode cX6_undo 24 = .ok (.iconst 0, 1) := by decide +kernel
theorem dX6_undo_25 : decode cX6_undo 25 = .ok (.istore_n 1, 1) := by decide +kernel
theorem dX6_undo_26 : decode cX6_undo 26 = .ok (.iload_n 1, 1) := by decide +kernel
theorem dX6_undo_27 : decode cX6_undo 27 = .ok (.bipush 52, 2) := by decide +kernel
theorem dX6_undo_29 : decode cX6_undo 29 = .ok (.if_icmp .ge 35, 3) := by decide +kernel
theorem dX6_undo_32 : decode cX6_undo 32 = .ok (.aload_n 0, 1) := by decide +kernel
theorem dX6_undo_33 : decode cX6_undo 33 = .ok (.getfield 29, 3) := by decide +kernel
theorem dX6_undo_36 : decode cX6_undo 36 = .ok (.iload_n 1, 1) := by decide +kernel
theorem dX6_undo_37 : decode cX6_undo 37 = .ok (.aload_n 0, 1) := by decide +kernel
theorem dX6_undo_38 : decode cX6_undo 38 = .ok (.getfield 29, 3) := by decide +kernel
theorem dX6_undo_41 : decode cX6_undo 41 = .ok (.bipush 53, 2) := by decide +kernel
theorem dX6_undo_43 : decode cX6_undo 43 = .ok (.bipush 52, 2) := by decide +kernel
theorem dX6_undo_45 : decode cX6_undo 45 = .ok (.aload_n 0, 1) := by decide +kernel
theorem dX6_undo_46 : decode cX6_undo 46 = .ok (.getfield 29, 3) := by decide +kernel
theorem dX6_undo_49 : decode cX6_undo 49 = .ok (.bipush 52, 2) := by decide +kernel
theorem dX6_undo_51 : decode cX6_undo 51 = .ok (.iaload, 1) := by decide +kernel
theorem dX6_undo_52 : decode cX6_undo 52 = .ok (.imul, 1) := by decide +kernel
theorem dX6_undo_53 : decode cX6_undo 53 = .ok (.iadd, 1) := by decide +kernel
theorem dX6_undo_54 : decode cX6_undo 54 = .ok (.iload_n 1, 1) := by decide +kernel
theorem dX6_undo_55 : decode cX6_undo 55 = .ok (.iadd, 1) := by decide +kernel
theorem dX6_undo_56 : decode cX6_undo 56 = .ok (.iaload, 1) := by decide +kernel
theorem dX6_undo_57 : decode cX6_undo 57 = .ok (.iastore, 1) := by decide +kernel
theorem dX6_undo_58 : decode cX6_undo 58 = .ok (.iinc 1 1, 3) := by decide +kernel
theorem dX6_undo_61 : decode cX6_undo 61 = .ok (.goto (-35), 3) := by decide +kernel
theorem dX6_undo_64 : decode cX6_undo 64 = .ok (.aload_n 0, 1) := by decide +kernel
theorem dX6_undo_65 : decode cX6_undo 65 = .ok (.getfield 29, 3) := by decide +kernel
theorem dX6_undo_68 : decode cX6_undo 68 = .ok (.bipush 52, 2) := by decide +kernel
theorem dX6_undo_70 : decode cX6_undo 70 = .ok (.iaload, 1) := by decide +kernel
theorem dX6_undo_71 : decode cX6_undo 71 = .ok (.ireturn, 1) := by decide +kernel
theorem dX6_now_0 : decode cX6_now 0 = .ok (.iload_n 1, 1) := by decide +kernel
theorem dX6_now_1 : decode cX6_now 1 = .ok (.tableswitch 63 0 4 #[35, 35, 35, 35, 42], 35) := by decide +kernel
theorem dX6_now_36 : decode cX6_now 36 = .ok (.aload_n 0, 1) := by decide +kernel
theorem dX6_now_37 : decode cX6_now 37 = .ok (.getfield 29, 3) := by decide +kernel
theorem dX6_now_40 : decode cX6_now 40 = .ok (.iload_n 1, 1) := by decide +kernel
theorem dX6_now_41 : decode cX6_now 41 = .ok (.iaload, 1) := by decide +kernel
theorem dX6_now_42 : decode cX6_now 42 = .ok (.ireturn, 1) := by decide +kernel
theorem dX6_now_43 : decode cX6_now 43 = .ok (.aload_n 0, 1) := by decide +kernel
theorem dX6_now_44 : decode cX6_now 44 = .ok (.getfield 29, 3) := by decide +kernel
theorem dX6_now_47 : decode cX6_now 47 = .ok (.iconst 0, 1) := by decide +kernel
theorem dX6_now_48 : decode cX6_now 48 = .ok (.iaload, 1) := by decide +kernel
theorem dX6_now_49 : decode cX6_now 49 = .ok (.aload_n 0, 1) := by decide +kernel
theorem dX6_now_50 : decode cX6_now 50 = .ok (.getfield 26, 3) := by decide +kernel
theorem dX6_now_53 : decode cX6_now 53 = .ok (.iconst 0, 1) := by decide +kernel
theorem dX6_now_54 : decode cX6_now 54 = .ok (.iaload, 1) := by decide +kernel
theorem dX6_now_55 : decode cX6_now 55 = .ok (.if_icmp .lt 7, 3) := by decide +kernel
theorem dX6_now_58 : decode cX6_now 58 = .ok (.iconst 1, 1) := by decide +kernel
theorem dX6_now_59 : decode cX6_now 59 = .ok (.goto 4, 3) := by decide +kernel
theorem dX6_now_62 : decode cX6_now 62 = .ok (.iconst 0, 1) := by decide +kernel
theorem dX6_now_63 : decode cX6_now 63 = .ok (.ireturn, 1) := by decide +kernel
theorem dX6_now_64 : decode cX6_now 64 = .ok (.iconst (-1), 1) := by decide +kernel
theorem dX6_now_65 : decode cX6_now 65 = .ok (.ireturn, 1) := by decide +kernel
set_option maxRecDepth 20000 in
theorem ggX6_doesGo_X6_byRing : GoodIn wsX6_doesGo wsX6_byRing := goodIn_r _ [7, 2, 8, 9, 10, 11, 12, 13, 14, 15, 16, 17, 18, 19, 20, 21, 22, 23, 24, 25, 26, 27, 28] (by decide +kernel) (by decide +kernel)
set_option maxRecDepth 20000 in
theorem gX6_doesGo_X6_byRing : GoodIn wsX6_doesGo (wsV RX6 125 RX6 yX6_byRing wsX6_byRing) := goodIn_app (goodIn_of _ (by decide +kernel)) ggX6_doesGo_X6_byRing
theorem dX6_doesGo_0 : decode cX6_doesGo 0 = .ok (.iload_n 2, 1) := by decide +kernel
theorem dX6_doesGo_1 : decode cX6_doesGo 1 = .ok (.istore 5, 2) := by decide +kernel
theorem dX6_doesGo_3 : decode cX6_doesGo 3 = .ok (.iload_n 3, 1) := by decide +kernel
theorem dX6_doesGo_4 : decode cX6_doesGo 4 = .ok (.iconst 1, 1) := by decide +kernel
theorem dX6_doesGo_5 : decode cX6_doesGo 5 = .ok (.isub, 1) := by decide +kernel
theorem dX6_doesGo_6 : decode cX6_doesGo 6 = .ok (.istore 6, 2) := by decide +kernel
theorem dX6_doesGo_8 : decode cX6_doesGo 8 = .ok (.iload 6, 2) := by decide +kernel
theorem dX6_doesGo_10 : decode cX6_doesGo 10 = .ok (.ifCond .lt 28, 3) := by decide +kernel
theorem dX6_doesGo_13 : decode cX6_doesGo 13 = .ok (.aload_n 0, 1) := by decide +kernel
theorem dX6_doesGo_14 : decode cX6_doesGo 14 = .ok (.getfield 39, 3) := by decide +kernel
theorem dX6_doesGo_17 : decode cX6_doesGo 17 = .ok (.iload 6, 2) := by decide +kernel
theorem dX6_doesGo_19 : decode cX6_doesGo 19 = .ok (.iload 5, 2) := by decide +kernel
theorem dX6_doesGo_21 : decode cX6_doesGo 21 = .ok (.bipush 6, 2) := by decide +kernel
theorem dX6_doesGo_23 : decode cX6_doesGo 23 = .ok (.irem, 1) := by decide +kernel
theorem dX6_doesGo_24 : decode cX6_doesGo 24 = .ok (.iastore, 1) := by decide +kernel
theorem dX6_doesGo_25 : decode cX6_doesGo 25 = .ok (.iload 5, 2) := by decide +kernel
theorem dX6_doesGo_27 : decode cX6_doesGo 27 = .ok (.bipush 6, 2) := by decide +kernel
theorem dX6_doesGo_29 : decode cX6_doesGo 29 = .ok (.idiv, 1) := by decide +kernel
theorem dX6_doesGo_30 : decode cX6_doesGo 30 = .ok (.istore 5, 2) := by decide +kernel
theorem dX6_doesGo_32 : decode cX6_doesGo 32 = .ok (.iinc 6 (-1), 3) := by decide +kernel
theorem dX6_doesGo_35 : decode cX6_doesGo 35 = .ok (.goto (-27), 3) := by decide +kernel
theorem dX6_doesGo_38 : decode cX6_doesGo 38 = .ok (.aload_n 1, 1) := by decide +kernel
theorem dX6_doesGo_39 : decode cX6_doesGo 39 = .ok (.iconst 1, 1) := by decide +kernel
theorem dX6_doesGo_40 : decode cX6_doesGo 40 = .ok (.iaload, 1) := by decide +kernel
theorem dX6_doesGo_41 : decode cX6_doesGo 41 = .ok (.istore 6, 2) := by decide +kernel
theorem dX6_doesGo_43 : decode cX6_doesGo 43 = .ok (.iconst 0, 1) := by decide +kernel
theorem dX6_doesGo_44 : decode cX6_doesGo 44 = .ok (.istore 7, 2) := by decide +kernel
theorem dX6_doesGo_46 : decode cX6_doesGo 46 = .ok (.iconst 0, 1) := by decide +kernel
theorem dX6_doesGo_47 : decode cX6_doesGo 47 = .ok (.istore 8, 2) := by decide +kernel
theorem dX6_doesGo_49 : decode cX6_doesGo 49 = .ok (.iload 8, 2) := by decide +kernel
theorem dX6_doesGo_51 : decode cX6_doesGo 51 = .ok (.iload_n 3, 1) := by decide +kernel
theorem dX6_doesGo_52 : decode cX6_doesGo 52 = .ok (.if_icmp .ge 105, 3) := by decide +kernel
theorem dX6_doesGo_55 : decode cX6_doesGo 55 = .ok (.aload_n 0, 1) := by decide +kernel
theorem dX6_doesGo_56 : decode cX6_doesGo 56 = .ok (.getfield 39, 3) := by decide +kernel
theorem dX6_doesGo_59 : decode cX6_doesGo 59 = .ok (.iload 8, 2) := by decide +kernel
theorem dX6_doesGo_61 : decode cX6_doesGo 61 = .ok (.iaload, 1) := by decide +kernel
theorem dX6_doesGo_62 : decode cX6_doesGo 62 = .ok (.istore 9, 2) := by decide +kernel
theorem dX6_doesGo_64 : decode cX6_doesGo 64 = .ok (.iload 9, 2) := by decide +kernel
theorem dX6_doesGo_66 : decode cX6_doesGo 66 = .ok (.aload_n 0, 1) := by decide +kernel
theorem dX6_doesGo_67 : decode cX6_doesGo 67 = .ok (.getfield 13, 3) := by decide +kernel
theorem dX6_doesGo_70 : decode cX6_doesGo 70 = .ok (.iconst 0, 1) := by decide +kernel
theorem dX6_doesGo_71 : decode cX6_doesGo 71 = .ok (.iaload, 1) := by decide +kernel
theorem dX6_doesGo_72 : decode cX6_doesGo 72 = .ok (.if_icmp .ge 36, 3) := by decide +kernel
theorem dX6_doesGo_75 : decode cX6_doesGo 75 = .ok (.iload 6, 2) := by decide +kernel
theorem dX6_doesGo_77 : decode cX6_doesGo 77 = .ok (.iload 9, 2) := by decide +kernel
theorem dX6_doesGo_79 : decode cX6_doesGo 79 = .ok (.ishr, 1) := by decide +kernel
theorem dX6_doesGo_80 : decode cX6_doesGo 80 = .ok (.iconst 1, 1) := by decide +kernel
theorem dX6_doesGo_81 : decode cX6_doesGo 81 = .ok (.iand, 1) := by decide +kernel
theorem dX6_doesGo_82 : decode cX6_doesGo 82 = .ok (.iconst 1, 1) := by decide +kernel
theorem dX6_doesGo_83 : decode cX6_doesGo 83 = .ok (.if_icmp .ne 25, 3) := by decide +kernel
theorem dX6_doesGo_86 : decode cX6_doesGo 86 = .ok (.iload 7, 2) := by decide +kernel
theorem dX6_doesGo_88 : decode cX6_doesGo 88 = .ok (.iload 9, 2) := by decide +kernel
theorem dX6_doesGo_90 : decode cX6_doesGo 90 = .ok (.ishr, 1) := by decide +kernel
theorem dX6_doesGo_91 : decode cX6_doesGo 91 = .ok (.iconst 1, 1) := by decide +kernel
theorem dX6_doesGo_92 : decode cX6_doesGo 92 = .ok (.iand, 1) := by decide +kernel
theorem dX6_doesGo_93 : decode cX6_doesGo 93 = .ok (.ifCond .ne 15, 3) := by decide +kernel
theorem dX6_doesGo_96 : decode cX6_doesGo 96 = .ok (.aload_n 0, 1) := by decide +kernel
theorem dX6_doesGo_97 : decode cX6_doesGo 97 = .ok (.aload_n 1, 1) := by decide +kernel
theorem dX6_doesGo_98 : decode cX6_doesGo 98 = .ok (.iload 9, 2) := by decide +kernel
theorem dX6_doesGo_100 : decode cX6_doesGo 100 = .ok (.iload 6, 2) := by decide +kernel
theorem dX6_doesGo_102 : decode cX6_doesGo 102 = .ok (.invokevirtual 125, 3) := by decide +kernel
theorem dX6_doesGo_105 : decode cX6_doesGo 105 = .ok (.goto 5, 3) := by decide +kernel
theorem dX6_doesGo_108 : decode cX6_doesGo 108 = .ok (.bipush (-9), 2) := by decide +kernel
theorem dX6_doesGo_110 : decode cX6_doesGo 110 = .ok (.istore 10, 2) := by decide +kernel
theorem dX6_doesGo_112 : decode cX6_doesGo 112 = .ok (.iload 10, 2) := by decide +kernel
theorem dX6_doesGo_114 : decode cX6_doesGo 114 = .ok (.bipush (-9), 2) := by decide +kernel
theorem dX6_doesGo_116 : decode cX6_doesGo 116 = .ok (.if_icmp .eq 13, 3) := by decide +kernel
theorem dX6_doesGo_119 : decode cX6_doesGo 119 = .ok (.iload 4, 2) := by decide +kernel
theorem dX6_doesGo_121 : decode cX6_doesGo 121 = .ok (.iload 10, 2) := by decide +kernel
theorem dX6_doesGo_123 : decode cX6_doesGo 123 = .ok (.ishr, 1) := by decide +kernel
theorem dX6_doesGo_124 : decode cX6_doesGo 124 = .ok (.iconst 1, 1) := by decide +kernel
theorem dX6_doesGo_125 : decode cX6_doesGo 125 = .ok (.iand, 1) := by decide +kernel
theorem dX6_doesGo_126 : decode cX6_doesGo 126 = .ok (.ifCond .ne 5, 3) := by decide +kernel
theorem dX6_doesGo_129 : decode cX6_doesGo 129 = .ok (.iconst 0, 1) := by decide +kernel
theorem dX6_doesGo_130 : decode cX6_doesGo 130 = .ok (.ireturn, 1) := by decide +kernel
theorem dX6_doesGo_131 : decode cX6_doesGo 131 = .ok (.iload 7, 2) := by decide +kernel
theorem dX6_doesGo_133 : decode cX6_doesGo 133 = .ok (.iconst 1, 1) := by decide +kernel
theorem dX6_doesGo_134 : decode cX6_doesGo 134 = .ok (.iload 9, 2) := by decide +kernel
theorem dX6_doesGo_136 : decode cX6_doesGo 136 = .ok (.ishl, 1) := by decide +kernel
theorem dX6_doesGo_137 : decode cX6_doesGo 137 = .ok (.ior, 1) := by decide +kernel
theorem dX6_doesGo_138 : decode cX6_doesGo 138 = .ok (.istore 7, 2) := by decide +kernel
theorem dX6_doesGo_140 : decode cX6_doesGo 140 = .ok (.iload 6, 2) := by decide +kernel
theorem dX6_doesGo_142 : decode cX6_doesGo 142 = .ok (.iconst 1, 1) := by decide +kernel
theorem dX6_doesGo_143 : decode cX6_doesGo 143 = .ok (.iload 10, 2) := by decide +kernel
theorem dX6_doesGo_145 : decode cX6_doesGo 145 = .ok (.ishl, 1) := by decide +kernel
theorem dX6_doesGo_146 : decode cX6_doesGo 146 = .ok (.iconst (-1), 1) := by decide +kernel
theorem dX6_doesGo_147 : decode cX6_doesGo 147 = .ok (.ixor, 1) := by decide +kernel
theorem dX6_doesGo_148 : decode cX6_doesGo 148 = .ok (.iand, 1) := by decide +kernel
theorem dX6_doesGo_149 : decode cX6_doesGo 149 = .ok (.istore 6, 2) := by decide +kernel
theorem dX6_doesGo_151 : decode cX6_doesGo 151 = .ok (.iinc 8 1, 3) := by decide +kernel
theorem dX6_doesGo_154 : decode cX6_doesGo 154 = .ok (.goto (-105), 3) := by decide +kernel
theorem dX6_doesGo_157 : decode cX6_doesGo 157 = .ok (.iconst 1, 1) := by decide +kernel
theorem dX6_doesGo_158 : decode cX6_doesGo 158 = .ok (.ireturn, 1) := by decide +kernel
set_option maxRecDepth 20000 in
theorem ggX6_rowsOf_X6_manyOf : GoodIn wsX6_rowsOf wsX6_manyOf := goodIn_r _ [4] (by decide +kernel) (by decide +kernel)
set_option maxRecDepth 20000 in
theorem gX6_rowsOf_X6_manyOf : GoodIn wsX6_rowsOf (va_wsS RX6 146 yX6_manyOf wsX6_manyOf) := goodIn_app (goodIn_of _ (by decide +kernel)) ggX6_rowsOf_X6_manyOf
set_option maxRecDepth 20000 in
theorem ggX6_rowsOf_X6_doesGo : GoodIn wsX6_rowsOf wsX6_doesGo := goodIn_r _ [8, 9, 10, 11, 12, 13, 3, 14, 15, 16, 17, 18, 19, 20, 21, 22, 23, 24, 25, 26, 27, 28, 29, 30, 31, 32, 33, 34, 35] (by decide +kernel) (by decide +kernel)
set_option maxRecDepth 20000 in
theorem gX6_rowsOf_X6_doesGo : GoodIn wsX6_rowsOf (wsV RX6 149 RX6 yX6_doesGo wsX6_doesGo) := goodIn_app (goodIn_of _ (by decide +kernel)) ggX6_rowsOf_X6_doesGo
theorem dX6_rowsOf_0 : decode cX6_rowsOf 0 = .ok (.iconst 1, 1) := by decide +kernel
theorem dX6_rowsOf_1 : decode cX6_rowsOf 1 = .ok (.istore_n 3, 1) := by decide +kernel
theorem dX6_rowsOf_2 : decode cX6_rowsOf 2 = .ok (.iconst 0, 1) := by decide +kernel
theorem dX6_rowsOf_3 : decode cX6_rowsOf 3 = .ok (.istore 4, 2) := by decide +kernel
theorem dX6_rowsOf_5 : decode cX6_rowsOf 5 = .ok (.iload 4, 2) := by decide +kernel
theorem dX6_rowsOf_7 : decode cX6_rowsOf 7 = .ok (.iload_n 2, 1) := by decide +kernel
theorem dX6_rowsOf_8 : decode cX6_rowsOf 8 = .ok (.invokestatic 146, 3) := by decide +kernel
theorem dX6_rowsOf_11 : decode cX6_rowsOf 11 = .ok (.if_icmp .ge 14, 3) := by decide +kernel
theorem dX6_rowsOf_14 : decode cX6_rowsOf 14 = .ok (.iload_n 3, 1) := by decide +kernel
theorem dX6_rowsOf_15 : decode cX6_rowsOf 15 = .ok (.bipush 6, 2) := by decide +kernel
theorem dX6_rowsOf_17 : decode cX6_rowsOf 17 = .ok (.imul, 1) := by decide +kernel
theorem dX6_rowsOf_18 : decode cX6_rowsOf 18 = .ok (.istore_n 3, 1) := by decide +kernel
theorem dX6_rowsOf_19 : decode cX6_rowsOf 19 = .ok (.iinc 4 1, 3) := by decide +kernel
theorem dX6_rowsOf_22 : decode cX6_rowsOf 22 = .ok (.goto (-17), 3) := by decide +kernel
theorem dX6_rowsOf_25 : decode cX6_rowsOf 25 = .ok (.iconst 0, 1) := by decide +kernel
theorem dX6_rowsOf_26 : decode cX6_rowsOf 26 = .ok (.istore 4, 2) := by decide +kernel
theorem dX6_rowsOf_28 : decode cX6_rowsOf 28 = .ok (.iconst 0, 1) := by decide +kernel
theorem dX6_rowsOf_29 : decode cX6_rowsOf 29 = .ok (.istore 5, 2) := by decide +kernel
theorem dX6_rowsOf_31 : decode cX6_rowsOf 31 = .ok (.iconst 0, 1) := by decide +kernel
theorem dX6_rowsOf_32 : decode cX6_rowsOf 32 = .ok (.istore 6, 2) := by decide +kernel
theorem dX6_rowsOf_34 : decode cX6_rowsOf 34 = .ok (.iload 6, 2) := by decide +kernel
theorem dX6_rowsOf_36 : decode cX6_rowsOf 36 = .ok (.iload_n 3, 1) := by decide +kernel
theorem dX6_rowsOf_37 : decode cX6_rowsOf 37 = .ok (.if_icmp .ge 41, 3) := by decide +kernel
theorem dX6_rowsOf_40 : decode cX6_rowsOf 40 = .ok (.aload_n 0, 1) := by decide +kernel
theorem dX6_rowsOf_41 : decode cX6_rowsOf 41 = .ok (.aload_n 1, 1) := by decide +kernel
theorem dX6_rowsOf_42 : decode cX6_rowsOf 42 = .ok (.iload 6, 2) := by decide +kernel
theorem dX6_rowsOf_44 : decode cX6_rowsOf 44 = .ok (.iload_n 2, 1) := by decide +kernel
theorem dX6_rowsOf_45 : decode cX6_rowsOf 45 = .ok (.invokestatic 146, 3) := by decide +kernel
theorem dX6_rowsOf_48 : decode cX6_rowsOf 48 = .ok (.iload_n 2, 1) := by decide +kernel
theorem dX6_rowsOf_49 : decode cX6_rowsOf 49 = .ok (.invokevirtual 149, 3) := by decide +kernel
theorem dX6_rowsOf_52 : decode cX6_rowsOf 52 = .ok (.ifCond .eq 20, 3) := by decide +kernel
theorem dX6_rowsOf_55 : decode cX6_rowsOf 55 = .ok (.iload 4, 2) := by decide +kernel
theorem dX6_rowsOf_57 : decode cX6_rowsOf 57 = .ok (.ifCond .ne 8, 3) := by decide +kernel
theorem dX6_rowsOf_60 : decode cX6_rowsOf 60 = .ok (.iload 6, 2) := by decide +kernel
theorem dX6_rowsOf_62 : decode cX6_rowsOf 62 = .ok (.goto 5, 3) := by decide +kernel
theorem dX6_rowsOf_65 : decode cX6_rowsOf 65 = .ok (.iload 5, 2) := by decide +kernel
theorem dX6_rowsOf_67 : decode cX6_rowsOf 67 = .ok (.istore 5, 2) := by decide +kernel
theorem dX6_rowsOf_69 : decode cX6_rowsOf 69 = .ok (.iinc 4 1, 3) := by decide +kernel
theorem dX6_rowsOf_72 : decode cX6_rowsOf 72 = .ok (.iinc 6 1, 3) := by decide +kernel
theorem dX6_rowsOf_75 : decode cX6_rowsOf 75 = .ok (.goto (-41), 3) := by decide +kernel
theorem dX6_rowsOf_78 : decode cX6_rowsOf 78 = .ok (.aload_n 0, 1) := by decide +kernel
theorem dX6_rowsOf_79 : decode cX6_rowsOf 79 = .ok (.aload_n 1, 1) := by decide +kernel
theorem dX6_rowsOf_80 : decode cX6_rowsOf 80 = .ok (.iload 5, 2) := by decide +kernel
theorem dX6_rowsOf_82 : decode cX6_rowsOf 82 = .ok (.iload_n 2, 1) := by decide +kernel
theorem dX6_rowsOf_83 : decode cX6_rowsOf 83 = .ok (.invokestatic 146, 3) := by decide +kernel
theorem dX6_rowsOf_86 : decode cX6_rowsOf 86 = .ok (.iload_n 2, 1) := by decide +kernel
theorem dX6_rowsOf_87 : decode cX6_rowsOf 87 = .ok (.invokevirtual 149, 3) := by decide +kernel
theorem dX6_rowsOf_90 : decode cX6_rowsOf 90 = .ok (.pop, 1) := by decide +kernel
theorem dX6_rowsOf_91 : decode cX6_rowsOf 91 = .ok (.iload 4, 2) := by decide +kernel
theorem dX6_rowsOf_93 : decode cX6_rowsOf 93 = .ok (.ireturn, 1) := by decide +kernel
set_option maxRecDepth 20000 in
theorem ggX6_isSet_X6_in : GoodIn wsX6_isSet wsX6_in := goodIn_r _ [6] (by decide +kernel) (by decide +kernel)
set_option maxRecDepth 20000 in
theorem gX6_isSet_X6_in : GoodIn wsX6_isSet (va_wsS RX6 54 yX6_in wsX6_in) := goodIn_app (goodIn_of _ (by decide +kernel)) ggX6_isSet_X6_in
theorem dX6_isSet_0 : decode cX6_isSet 0 = .ok (.iload_n 1, 1) := by decide +kernel
theorem dX6_isSet_1 : decode cX6_isSet 1 = .ok (.iconst 0, 1) := by decide +kernel
theorem dX6_isSet_2 : decode cX6_isSet 2 = .ok (.iconst 1, 1) := by decide +kernel
theorem dX6_isSet_3 : decode cX6_isSet 3 = .ok (.aload_n 0, 1) := by decide +kernel
theorem dX6_isSet_4 : decode cX6_isSet 4 = .ok (.getfield 13, 3) := by decide +kernel
theorem dX6_isSet_7 : decode cX6_isSet 7 = .ok (.iconst 0, 1) := by decide +kernel
theorem dX6_isSet_8 : decode cX6_isSet 8 = .ok (.iaload, 1) := by decide +kernel
theorem dX6_isSet_9 : decode cX6_isSet 9 = .ok (.ishl, 1) := by decide +kernel
theorem dX6_isSet_10 : decode cX6_isSet 10 = .ok (.iconst 1, 1) := by decide +kernel
theorem dX6_isSet_11 : decode cX6_isSet 11 = .ok (.isub, 1) := by decide +kernel
theorem dX6_isSet_12 : decode cX6_isSet 12 = .ok (.invokestatic 54, 3) := by decide +kernel
theorem dX6_isSet_15 : decode cX6_isSet 15 = .ok (.ifCond .eq 20, 3) := by decide +kernel
theorem dX6_isSet_18 : decode cX6_isSet 18 = .ok (.iload_n 1, 1) := by decide +kernel
theorem dX6_isSet_19 : decode cX6_isSet 19 = .ok (.aload_n 0, 1) := by decide +kernel
theorem dX6_isSet_20 : decode cX6_isSet 20 = .ok (.getfield 29, 3) := by decide +kernel
theorem dX6_isSet_23 : decode cX6_isSet 23 = .ok (.iconst 1, 1) := by decide +kernel
theorem dX6_isSet_24 : decode cX6_isSet 24 = .ok (.iaload, 1) := by decide +kernel
theorem dX6_isSet_25 : decode cX6_isSet 25 = .ok (.iconst (-1), 1) := by decide +kernel
theorem dX6_isSet_26 : decode cX6_isSet 26 = .ok (.ixor, 1) := by decide +kernel
theorem dX6_isSet_27 : decode cX6_isSet 27 = .ok (.iand, 1) := by decide +kernel
theorem dX6_isSet_28 : decode cX6_isSet 28 = .ok (.ifCond .ne 7, 3) := by decide +kernel
theorem dX6_isSet_31 : decode cX6_isSet 31 = .ok (.iconst 1, 1) := by decide +kernel
theorem dX6_isSet_32 : decode cX6_isSet 32 = .ok (.goto 4, 3) := by decide +kernel
theorem dX6_isSet_35 : decode cX6_isSet 35 = .ok (.iconst 0, 1) := by decide +kernel
theorem dX6_isSet_36 : decode cX6_isSet 36 = .ok (.ireturn, 1) := by decide +kernel
set_option maxRecDepth 20000 in
theorem ggX6_row_X6_isSet : GoodIn wsX6_row wsX6_isSet := goodIn_r _ [7, 8, 1, 9, 10, 6, 11, 27, 28, 29, 30, 31, 32, 33, 34, 35, 36, 37, 38, 39, 40, 41, 42, 43, 44, 45, 46, 47] (by decide +kernel) (by decide +kernel)
set_option maxRecDepth 20000 in
theorem gX6_row_X6_isSet : GoodIn wsX6_row (wsV RX6 153 RX6 yX6_isSet wsX6_isSet) := goodIn_app (goodIn_of _ (by decide +kernel)) ggX6_row_X6_isSet
set_option maxRecDepth 20000 in
theorem ggX6_row_X6_in : GoodIn wsX6_row wsX6_in := goodIn_r _ [11] (by decide +kernel) (by decide +kernel)
set_option maxRecDepth 20000 in
theorem gX6_row_X6_in : GoodIn wsX6_row (va_wsS RX6 54 yX6_in wsX6_in) := goodIn_app (goodIn_of _ (by decide +kernel)) ggX6_row_X6_in
set_option maxRecDepth 20000 in
theorem ggX6_row_X6_rowsOf : GoodIn wsX6_row wsX6_rowsOf := goodIn_r _ [15, 16, 17, 6, 18, 19, 20, 21, 22, 2, 8, 23, 24, 25, 26, 27, 28, 29, 30, 31, 32, 33, 34, 35, 36, 37, 38, 39, 40, 41, 42, 43, 44, 45, 46, 47] (by decide +kernel) (by decide +kernel)
set_option maxRecDepth 20000 in
theorem gX6_row_X6_rowsOf : GoodIn wsX6_row (wsV RX6 156 RX6 yX6_rowsOf wsX6_rowsOf) := goodIn_app (goodIn_of _ (by decide +kernel)) ggX6_row_X6_rowsOf
set_option maxRecDepth 20000 in
theorem ggX6_row_X6_manyOf : GoodIn wsX6_row wsX6_manyOf := goodIn_r _ [18] (by decide +kernel) (by decide +kernel)
set_option maxRecDepth 20000 in
theorem gX6_row_X6_manyOf : GoodIn wsX6_row (va_wsS RX6 146 yX6_manyOf wsX6_manyOf) := goodIn_app (goodIn_of _ (by decide +kernel)) ggX6_row_X6_manyOf
theorem dX6_row_0 : decode cX6_row 0 = .ok (.aload_n 0, 1) := by decide +kernel
theorem dX6_row_1 : decode cX6_row 1 = .ok (.iload_n 1, 1) := by decide +kernel
theorem dX6_row_2 : decode cX6_row 2 = .ok (.invokevirtual 153, 3) := by decide +kernel
theorem dX6_row_5 : decode cX6_row 5 = .ok (.ifCond .eq 12, 3) := by decide +kernel
theorem dX6_row_8 : decode cX6_row 8 = .ok (.iload_n 2, 1) := by decide +kernel
theorem dX6_row_9 : decode cX6_row 9 = .ok (.iconst (-1), 1) := by decide +kernel
theorem dX6_row_10 : decode cX6_row 10 = .ok (.iconst 5, 1) := by decide +kernel
theorem dX6_row_11 : decode cX6_row 11 = .ok (.invokestatic 54, 3) := by decide +kernel
theorem dX6_row_14 : decode cX6_row 14 = .ok (.ifCond .ne 5, 3) := by decide +kernel
theorem dX6_row_17 : decode cX6_row 17 = .ok (.iconst (-1), 1) := by decide +kernel
theorem dX6_row_18 : decode cX6_row 18 = .ok (.ireturn, 1) := by decide +kernel
theorem dX6_row_19 : decode cX6_row 19 = .ok (.aload_n 0, 1) := by decide +kernel
theorem dX6_row_20 : decode cX6_row 20 = .ok (.aload_n 0, 1) := by decide +kernel
theorem dX6_row_21 : decode cX6_row 21 = .ok (.getfield 29, 3) := by decide +kernel
theorem dX6_row_24 : decode cX6_row 24 = .ok (.iload_n 1, 1) := by decide +kernel
theorem dX6_row_25 : decode cX6_row 25 = .ok (.invokevirtual 156, 3) := by decide +kernel
theorem dX6_row_28 : decode cX6_row 28 = .ok (.istore_n 3, 1) := by decide +kernel
theorem dX6_row_29 : decode cX6_row 29 = .ok (.iload_n 2, 1) := by decide +kernel
theorem dX6_row_30 : decode cX6_row 30 = .ok (.iconst (-1), 1) := by decide +kernel
theorem dX6_row_31 : decode cX6_row 31 = .ok (.if_icmp .ne 7, 3) := by decide +kernel
theorem dX6_row_34 : decode cX6_row 34 = .ok (.iload_n 3, 1) := by decide +kernel
theorem dX6_row_35 : decode cX6_row 35 = .ok (.goto 26, 3) := by decide +kernel
theorem dX6_row_38 : decode cX6_row 38 = .ok (.iload_n 3, 1) := by decide +kernel
theorem dX6_row_39 : decode cX6_row 39 = .ok (.ifCond .le 20, 3) := by decide +kernel
theorem dX6_row_42 : decode cX6_row 42 = .ok (.iload_n 2, 1) := by decide +kernel
theorem dX6_row_43 : decode cX6_row 43 = .ok (.iload_n 1, 1) := by decide +kernel
theorem dX6_row_44 : decode cX6_row 44 = .ok (.invokestatic 146, 3) := by decide +kernel
theorem dX6_row_47 : decode cX6_row 47 = .ok (.if_icmp .ge 12, 3) := by decide +kernel
theorem dX6_row_50 : decode cX6_row 50 = .ok (.aload_n 0, 1) := by decide +kernel
theorem dX6_row_51 : decode cX6_row 51 = .ok (.getfield 39, 3) := by decide +kernel
theorem dX6_row_54 : decode cX6_row 54 = .ok (.iload_n 2, 1) := by decide +kernel
theorem dX6_row_55 : decode cX6_row 55 = .ok (.iaload, 1) := by decide +kernel
theorem dX6_row_56 : decode cX6_row 56 = .ok (.goto 5, 3) := by decide +kernel
theorem dX6_row_59 : decode cX6_row 59 = .ok (.bipush (-9), 2) := by decide +kernel
theorem dX6_row_61 : decode cX6_row 61 = .ok (.ireturn, 1) := by decide +kernel
set_option maxRecDepth 20000 in
theorem ggX6_soon_X6_isSet : GoodIn wsX6_soon wsX6_isSet := goodIn_r _ [6, 7, 8, 9, 10, 5, 11, 56, 57, 58, 59, 60, 61, 62, 63, 64, 65, 66, 67, 68, 69, 70, 71, 72, 73, 74, 75, 76] (by decide +kernel) (by decide +kernel)
set_option maxRecDepth 20000 in
theorem gX6_soon_X6_isSet : GoodIn wsX6_soon (wsV RX6 153 RX6 yX6_isSet wsX6_isSet) := goodIn_app (goodIn_of _ (by decide +kernel)) ggX6_soon_X6_isSet
set_option maxRecDepth 20000 in
theorem ggX6_soon_X6_take : GoodIn wsX6_soon wsX6_take := goodIn_r _ [15, 1, 8, 56, 57, 58, 59, 60, 61, 62, 63, 64, 65, 66, 67, 68, 69, 70, 71, 72, 73, 74, 75, 76] (by decide +kernel) (by decide +kernel)
set_option maxRecDepth 20000 in
theorem gX6_soon_X6_take : GoodIn wsX6_soon (wsV RX6 160 RX6 yX6_take wsX6_take) := goodIn_app (goodIn_of _ (by decide +kernel)) ggX6_soon_X6_take
set_option maxRecDepth 20000 in
theorem ggX6_soon_X6_rowsOf : GoodIn wsX6_soon wsX6_rowsOf := goodIn_r _ [19, 20, 21, 5, 22, 23, 24, 25, 26, 27, 7, 28, 29, 30, 31, 56, 57, 58, 59, 60, 61, 62, 63, 64, 65, 66, 67, 68, 69, 70, 71, 72, 73, 74, 75, 76] (by decide +kernel) (by decide +kernel)
set_option maxRecDepth 20000 in
theorem gX6_soon_X6_rowsOf : GoodIn wsX6_soon (wsV RX6 156 RX6 yX6_rowsOf wsX6_rowsOf) := goodIn_app (goodIn_of _ (by decide +kernel)) ggX6_soon_X6_rowsOf
set_option maxRecDepth 20000 in
theorem ggX6_soon_X6_ride : GoodIn wsX6_soon wsX6_ride := goodIn_r _ [35, 7, 36, 37, 38, 39, 5, 40, 41, 42, 43, 44, 45, 46, 47, 48, 49, 50, 51, 52, 53, 54, 55, 56, 57, 58, 59, 60, 61, 62, 63, 64, 65, 66, 67, 68, 69, 70, 71, 72, 73, 74, 75, 76] (by decide +kernel) (by decide +kernel)
set_option maxRecDepth 20000 in
theorem gX6_soon_X6_ride : GoodIn wsX6_soon (wsV RX6 139 RX6 yX6_ride wsX6_ride) := goodIn_app (goodIn_of _ (by decide +kernel)) ggX6_soon_X6_ride
theorem dX6_soon_0 : decode cX6_soon 0 = .ok (.aload_n 0, 1) := by decide +kernel
theorem dX6_soon_1 : decode cX6_soon 1 = .ok (.iload_n 1, 1) := by decide +kernel
theorem dX6_soon_2 : decode cX6_soon 2 = .ok (.invokevirtual 153, 3) := by decide +kernel
theorem dX6_soon_5 : decode cX6_soon 5 = .ok (.ifCond .ne 5, 3) := by decide +kernel
theorem dX6_soon_8 : decode cX6_soon 8 = .ok (.iconst (-1), 1) := by decide +kernel
theorem dX6_soon_9 : decode cX6_soon 9 = .ok (.ireturn, 1) := by decide +kernel
theorem dX6_soon_10 : decode cX6_soon 10 = .ok (.aload_n 0, 1) := by decide +kernel
theorem dX6_soon_11 : decode cX6_soon 11 = .ok (.invokevirtual 160, 3) := by decide +kernel
theorem dX6_soon_14 : decode cX6_soon 14 = .ok (.iconst 0, 1) := by decide +kernel
theorem dX6_soon_15 : decode cX6_soon 15 = .ok (.istore_n 2, 1) := by decide +kernel
theorem dX6_soon_16 : decode cX6_soon 16 = .ok (.iload_n 2, 1) := by decide +kernel
theorem dX6_soon_17 : decode cX6_soon 17 = .ok (.bipush 20, 2) := by decide +kernel
theorem dX6_soon_19 : decode cX6_soon 19 = .ok (.if_icmp .gt 31, 3) := by decide +kernel
theorem dX6_soon_22 : decode cX6_soon 22 = .ok (.aload_n 0, 1) := by decide +kernel
theorem dX6_soon_23 : decode cX6_soon 23 = .ok (.aload_n 0, 1) := by decide +kernel
theorem dX6_soon_24 : decode cX6_soon 24 = .ok (.getfield 36, 3) := by decide +kernel
theorem dX6_soon_27 : decode cX6_soon 27 = .ok (.iload_n 1, 1) := by decide +kernel
theorem dX6_soon_28 : decode cX6_soon 28 = .ok (.invokevirtual 156, 3) := by decide +kernel
theorem dX6_soon_31 : decode cX6_soon 31 = .ok (.ifCond .le 5, 3) := by decide +kernel
theorem dX6_soon_34 : decode cX6_soon 34 = .ok (.iload_n 2, 1) := by decide +kernel
theorem dX6_soon_35 : decode cX6_soon 35 = .ok (.ireturn, 1) := by decide +kernel
theorem dX6_soon_36 : decode cX6_soon 36 = .ok (.aload_n 0, 1) := by decide +kernel
theorem dX6_soon_37 : decode cX6_soon 37 = .ok (.aload_n 0, 1) := by decide +kernel
theorem dX6_soon_38 : decode cX6_soon 38 = .ok (.getfield 36, 3) := by decide +kernel
theorem dX6_soon_41 : decode cX6_soon 41 = .ok (.invokevirtual 139, 3) := by decide +kernel
theorem dX6_soon_44 : decode cX6_soon 44 = .ok (.iinc 2 1, 3) := by decide +kernel
theorem dX6_soon_47 : decode cX6_soon 47 = .ok (.goto (-31), 3) := by decide +kernel
theorem dX6_soon_50 : decode cX6_soon 50 = .ok (.bipush (-9), 2) := by decide +kernel
theorem dX6_soon_52 : decode cX6_soon 52 = .ok (.ireturn, 1) := by decide +kernel
set_option maxRecDepth 20000 in
theorem ggX6_odds_X6_isHere : GoodIn wsX6_odds wsX6_isHere := goodIn_r _ [7, 1, 8, 9, 10, 6, 11, 2, 12, 13, 14, 15, 16, 17, 18, 19, 20, 21, 22, 23, 24, 25, 26, 27, 28, 29, 30, 31, 32, 33, 34, 35, 36, 37, 38, 39] (by decide +kernel) (by decide +kernel)
set_option maxRecDepth 20000 in
theorem gX6_odds_X6_isHere : GoodIn wsX6_odds (wsV RX6 163 RX6 yX6_isHere wsX6_isHere) := goodIn_app (goodIn_of _ (by decide +kernel)) ggX6_odds_X6_isHere
set_option maxRecDepth 20000 in
theorem ggX6_odds_X6_in : GoodIn wsX6_odds wsX6_in := goodIn_r _ [14] (by decide +kernel) (by decide +kernel)
set_option maxRecDepth 20000 in
theorem gX6_odds_X6_in : GoodIn wsX6_odds (va_wsS RX6 54 yX6_in wsX6_in) := goodIn_app (goodIn_of _ (by decide +kernel)) ggX6_odds_X6_in
set_option maxRecDepth 20000 in
theorem ggX6_odds_X6_isAboard : GoodIn wsX6_odds wsX6_isAboard := goodIn_r _ [18] (by decide +kernel) (by decide +kernel)
set_option maxRecDepth 20000 in
theorem gX6_odds_X6_isAboard : GoodIn wsX6_odds (wsV RX6 110 RX6 yX6_isAboard wsX6_isAboard) := goodIn_app (goodIn_of _ (by decide +kernel)) ggX6_odds_X6_isAboard
theorem dX6_odds_0 : decode cX6_odds 0 = .ok (.aload_n 0, 1) := by decide +kernel
theorem dX6_odds_1 : decode cX6_odds 1 = .ok (.iload_n 1, 1) := by decide +kernel
theorem dX6_odds_2 : decode cX6_odds 2 = .ok (.invokevirtual 163, 3) := by decide +kernel
theorem dX6_odds_5 : decode cX6_odds 5 = .ok (.ifCond .eq 36, 3) := by decide +kernel
theorem dX6_odds_8 : decode cX6_odds 8 = .ok (.aload_n 0, 1) := by decide +kernel
theorem dX6_odds_9 : decode cX6_odds 9 = .ok (.iload_n 2, 1) := by decide +kernel
theorem dX6_odds_10 : decode cX6_odds 10 = .ok (.invokevirtual 163, 3) := by decide +kernel
theorem dX6_odds_13 : decode cX6_odds 13 = .ok (.ifCond .eq 28, 3) := by decide +kernel
theorem dX6_odds_16 : decode cX6_odds 16 = .ok (.iload_n 1, 1) := by decide +kernel
theorem dX6_odds_17 : decode cX6_odds 17 = .ok (.iload_n 2, 1) := by decide +kernel
theorem dX6_odds_18 : decode cX6_odds 18 = .ok (.if_icmp .eq 23, 3) := by decide +kernel
theorem dX6_odds_21 : decode cX6_odds 21 = .ok (.iload_n 3, 1) := by decide +kernel
theorem dX6_odds_22 : decode cX6_odds 22 = .ok (.iconst 0, 1) := by decide +kernel
theorem dX6_odds_23 : decode cX6_odds 23 = .ok (.bipush 10, 2) := by decide +kernel
theorem dX6_odds_25 : decode cX6_odds 25 = .ok (.invokestatic 54, 3) := by decide +kernel
theorem dX6_odds_28 : decode cX6_odds 28 = .ok (.ifCond .eq 13, 3) := by decide +kernel
theorem dX6_odds_31 : decode cX6_odds 31 = .ok (.iload 4, 2) := by decide +kernel
theorem dX6_odds_33 : decode cX6_odds 33 = .ok (.iconst 0, 1) := by decide +kernel
theorem dX6_odds_34 : decode cX6_odds 34 = .ok (.iconst 1, 1) := by decide +kernel
theorem dX6_odds_35 : decode cX6_odds 35 = .ok (.invokestatic 54, 3) := by decide +kernel
theorem dX6_odds_38 : decode cX6_odds 38 = .ok (.ifCond .ne 5, 3) := by decide +kernel
theorem dX6_odds_41 : decode cX6_odds 41 = .ok (.iconst (-1), 1) := by decide +kernel
theorem dX6_odds_42 : decode cX6_odds 42 = .ok (.ireturn, 1) := by decide +kernel
theorem dX6_odds_43 : decode cX6_odds 43 = .ok (.aload_n 0, 1) := by decide +kernel
theorem dX6_odds_44 : decode cX6_odds 44 = .ok (.getfield 29, 3) := by decide +kernel
theorem dX6_odds_47 : decode cX6_odds 47 = .ok (.bipush 16, 2) := by decide +kernel
theorem dX6_odds_49 : decode cX6_odds 49 = .ok (.bipush 6, 2) := by decide +kernel
theorem dX6_odds_51 : decode cX6_odds 51 = .ok (.iload_n 2, 1) := by decide +kernel
theorem dX6_odds_52 : decode cX6_odds 52 = .ok (.imul, 1) := by decide +kernel
theorem dX6_odds_53 : decode cX6_odds 53 = .ok (.iadd, 1) := by decide +kernel
theorem dX6_odds_54 : decode cX6_odds 54 = .ok (.iload_n 1, 1) := by decide +kernel
theorem dX6_odds_55 : decode cX6_odds 55 = .ok (.iadd, 1) := by decide +kernel
theorem dX6_odds_56 : decode cX6_odds 56 = .ok (.iaload, 1) := by decide +kernel
theorem dX6_odds_57 : decode cX6_odds 57 = .ok (.istore 5, 2) := by decide +kernel
theorem dX6_odds_59 : decode cX6_odds 59 = .ok (.iload 5, 2) := by decide +kernel
theorem dX6_odds_61 : decode cX6_odds 61 = .ok (.ifCond .le 10, 3) := by decide +kernel
theorem dX6_odds_64 : decode cX6_odds 64 = .ok (.bipush 10, 2) := by decide +kernel
theorem dX6_odds_66 : decode cX6_odds 66 = .ok (.iload_n 3, 1) := by decide +kernel
theorem dX6_odds_67 : decode cX6_odds 67 = .ok (.isub, 1) := by decide +kernel
theorem dX6_odds_68 : decode cX6_odds 68 = .ok (.goto 4, 3) := by decide +kernel
theorem dX6_odds_71 : decode cX6_odds 71 = .ok (.iconst 0, 1) := by decide +kernel
theorem dX6_odds_72 : decode cX6_odds 72 = .ok (.istore 6, 2) := by decide +kernel
theorem dX6_odds_74 : decode cX6_odds 74 = .ok (.bipush 10, 2) := by decide +kernel
theorem dX6_odds_76 : decode cX6_odds 76 = .ok (.istore 7, 2) := by decide +kernel
theorem dX6_odds_78 : decode cX6_odds 78 = .ok (.iconst 0, 1) := by decide +kernel
theorem dX6_odds_79 : decode cX6_odds 79 = .ok (.istore 8, 2) := by decide +kernel
theorem dX6_odds_81 : decode cX6_odds 81 = .ok (.iload 8, 2) := by decide +kernel
theorem dX6_odds_83 : decode cX6_odds 83 = .ok (.aload_n 0, 1) := by decide +kernel
theorem dX6_odds_84 : decode cX6_odds 84 = .ok (.getfield 13, 3) := by decide +kernel
theorem dX6_odds_87 : decode cX6_odds 87 = .ok (.iconst 0, 1) := by decide +kernel
theorem dX6_odds_88 : decode cX6_odds 88 = .ok (.iaload, 1) := by decide +kernel
theorem dX6_odds_89 : decode cX6_odds 89 = .ok (.if_icmp .ge 67, 3) := by decide +kernel
theorem dX6_odds_92 : decode cX6_odds 92 = .ok (.iload 8, 2) := by decide +kernel
theorem dX6_odds_94 : decode cX6_odds 94 = .ok (.iload_n 1, 1) := by decide +kernel
theorem dX6_odds_95 : decode cX6_odds 95 = .ok (.if_icmp .eq 55, 3) := by decide +kernel
theorem dX6_odds_98 : decode cX6_odds 98 = .ok (.iload 8, 2) := by decide +kernel
theorem dX6_odds_100 : decode cX6_odds 100 = .ok (.iload_n 2, 1) := by decide +kernel
theorem dX6_odds_101 : decode cX6_odds 101 = .ok (.if_icmp .eq 49, 3) := by decide +kernel
theorem dX6_odds_104 : decode cX6_odds 104 = .ok (.aload_n 0, 1) := by decide +kernel
theorem dX6_odds_105 : decode cX6_odds 105 = .ok (.aload_n 0, 1) := by decide +kernel
theorem dX6_odds_106 : decode cX6_odds 106 = .ok (.getfield 29, 3) := by decide +kernel
theorem dX6_odds_109 : decode cX6_odds 109 = .ok (.iload 8, 2) := by decide +kernel
theorem dX6_odds_111 : decode cX6_odds 111 = .ok (.invokevirtual 110, 3) := by decide +kernel
theorem dX6_odds_114 : decode cX6_odds 114 = .ok (.ifCond .eq 36, 3) := by decide +kernel
theorem dX6_odds_117 : decode cX6_odds 117 = .ok (.aload_n 0, 1) := by decide +kernel
theorem dX6_odds_118 : decode cX6_odds 118 = .ok (.getfield 29, 3) := by decide +kernel
theorem dX6_odds_121 : decode cX6_odds 121 = .ok (.bipush 16, 2) := by decide +kernel
theorem dX6_odds_123 : decode cX6_odds 123 = .ok (.bipush 6, 2) := by decide +kernel
theorem dX6_odds_125 : decode cX6_odds 125 = .ok (.iload 8, 2) := by decide +kernel
theorem dX6_odds_127 : decode cX6_odds 127 = .ok (.imul, 1) := by decide +kernel
theorem dX6_odds_128 : decode cX6_odds 128 = .ok (.iadd, 1) := by decide +kernel
theorem dX6_odds_129 : decode cX6_odds 129 = .ok (.iload_n 1, 1) := by decide +kernel
theorem dX6_odds_130 : decode cX6_odds 130 = .ok (.iadd, 1) := by decide +kernel
theorem dX6_odds_131 : decode cX6_odds 131 = .ok (.iaload, 1) := by decide +kernel
theorem dX6_odds_132 : decode cX6_odds 132 = .ok (.iload 5, 2) := by decide +kernel
theorem dX6_odds_134 : decode cX6_odds 134 = .ok (.if_icmp .le 16, 3) := by decide +kernel
theorem dX6_odds_137 : decode cX6_odds 137 = .ok (.iload 6, 2) := by decide +kernel
theorem dX6_odds_139 : decode cX6_odds 139 = .ok (.iload_n 3, 1) := by decide +kernel
theorem dX6_odds_140 : decode cX6_odds 140 = .ok (.imul, 1) := by decide +kernel
end
section
theorem dX6_odds_141 : decode cX6_odds 141 = .ok (.istore 6, 2) := by decide +kernel
theorem dX6_odds_143 : decode cX6_odds 143 = .ok (.iload 7, 2) := by decide +kernel
theorem dX6_odds_145 : decode cX6_odds 145 = .ok (.bipush 10, 2) := by decide +kernel
theorem dX6_odds_147 : decode cX6_odds 147 = .ok (.imul, 1) := by decide +kernel
theorem dX6_odds_148 : decode cX6_odds 148 = .ok (.istore 7, 2) := by decide +kernel
theorem dX6_odds_150 : decode cX6_odds 150 = .ok (.iinc 8 1, 3) := by decide +kernel
theorem dX6_odds_153 : decode cX6_odds 153 = .ok (.goto (-72), 3) := by decide +kernel
theorem dX6_odds_156 : decode cX6_odds 156 = .ok (.iload 6, 2) := by decide +kernel
theorem dX6_odds_158 : decode cX6_odds 158 = .ok (.istore 8, 2) := by decide +kernel
theorem dX6_odds_160 : decode cX6_odds 160 = .ok (.iload 7, 2) := by decide +kernel
theorem dX6_odds_162 : decode cX6_odds 162 = .ok (.istore 9, 2) := by decide +kernel
theorem dX6_odds_164 : decode cX6_odds 164 = .ok (.iload 9, 2) := by decide +kernel
theorem dX6_odds_166 : decode cX6_odds 166 = .ok (.ifCond .eq 21, 3) := by decide +kernel
theorem dX6_odds_169 : decode cX6_odds 169 = .ok (.iload 8, 2) := by decide +kernel
theorem dX6_odds_171 : decode cX6_odds 171 = .ok (.iload 9, 2) := by decide +kernel
theorem dX6_odds_173 : decode cX6_odds 173 = .ok (.irem, 1) := by decide +kernel
theorem dX6_odds_174 : decode cX6_odds 174 = .ok (.istore 10, 2) := by decide +kernel
theorem dX6_odds_176 : decode cX6_odds 176 = .ok (.iload 9, 2) := by decide +kernel
theorem dX6_odds_178 : decode cX6_odds 178 = .ok (.istore 8, 2) := by decide +kernel
theorem dX6_odds_180 : decode cX6_odds 180 = .ok (.iload 10, 2) := by decide +kernel
theorem dX6_odds_182 : decode cX6_odds 182 = .ok (.istore 9, 2) := by decide +kernel
theorem dX6_odds_184 : decode cX6_odds 184 = .ok (.goto (-20), 3) := by decide +kernel
theorem dX6_odds_187 : decode cX6_odds 187 = .ok (.iload 4, 2) := by decide +kernel
theorem dX6_odds_189 : decode cX6_odds 189 = .ok (.ifCond .ne 11, 3) := by decide +kernel
theorem dX6_odds_192 : decode cX6_odds 192 = .ok (.iload 6, 2) := by decide +kernel
theorem dX6_odds_194 : decode cX6_odds 194 = .ok (.iload 8, 2) := by decide +kernel
theorem dX6_odds_196 : decode cX6_odds 196 = .ok (.idiv, 1) := by decide +kernel
theorem dX6_odds_197 : decode cX6_odds 197 = .ok (.goto 8, 3) := by decide +kernel
theorem dX6_odds_200 : decode cX6_odds 200 = .ok (.iload 7, 2) := by decide +kernel
theorem dX6_odds_202 : decode cX6_odds 202 = .ok (.iload 8, 2) := by decide +kernel
theorem dX6_odds_204 : decode cX6_odds 204 = .ok (.idiv, 1) := by decide +kernel
theorem dX6_odds_205 : decode cX6_odds 205 = .ok (.ireturn, 1) := by decide +kernel
set_option maxRecDepth 20000 in
theorem ggX6_circle_X6_isHere : GoodIn wsX6_circle wsX6_isHere := goodIn_r _ [7, 1, 8, 9, 10, 6, 11, 12, 13, 14, 15, 16, 17, 18, 19, 32, 33, 34, 35, 36, 37, 38, 39, 40, 41, 42, 43, 44, 45, 46, 47, 48, 49, 50, 51, 52] (by decide +kernel) (by decide +kernel)
set_option maxRecDepth 20000 in
theorem gX6_circle_X6_isHere : GoodIn wsX6_circle (wsV RX6 163 RX6 yX6_isHere wsX6_isHere) := goodIn_app (goodIn_of _ (by decide +kernel)) ggX6_circle_X6_isHere
set_option maxRecDepth 20000 in
theorem ggX6_circle_X6_in : GoodIn wsX6_circle wsX6_in := goodIn_r _ [15] (by decide +kernel) (by decide +kernel)
set_option maxRecDepth 20000 in
theorem gX6_circle_X6_in : GoodIn wsX6_circle (va_wsS RX6 54 yX6_in wsX6_in) := goodIn_app (goodIn_of _ (by decide +kernel)) ggX6_circle_X6_in
set_option maxRecDepth 20000 in
theorem ggX6_circle_X6_whom : GoodIn wsX6_circle wsX6_whom := goodIn_r _ [23, 12, 16, 17, 18, 6, 19, 24, 25, 26, 27, 28, 29, 30, 31, 32, 33, 34, 35, 36, 37, 38, 39, 40, 41, 42, 43, 44, 45, 46, 47, 48, 49, 50, 51, 52] (by decide +kernel) (by decide +kernel)
set_option maxRecDepth 20000 in
theorem gX6_circle_X6_whom : GoodIn wsX6_circle (wsV RX6 121 RX6 yX6_whom wsX6_whom) := goodIn_app (goodIn_of _ (by decide +kernel)) ggX6_circle_X6_whom
theorem dX6_circle_0 : decode cX6_circle 0 = .ok (.aload_n 0, 1) := by decide +kernel
theorem dX6_circle_1 : decode cX6_circle 1 = .ok (.iload_n 1, 1) := by decide +kernel
theorem dX6_circle_2 : decode cX6_circle 2 = .ok (.invokevirtual 163, 3) := by decide +kernel
theorem dX6_circle_5 : decode cX6_circle 5 = .ok (.ifCond .eq 12, 3) := by decide +kernel
theorem dX6_circle_8 : decode cX6_circle 8 = .ok (.iload_n 2, 1) := by decide +kernel
theorem dX6_circle_9 : decode cX6_circle 9 = .ok (.iconst 0, 1) := by decide +kernel
theorem dX6_circle_10 : decode cX6_circle 10 = .ok (.iconst 1, 1) := by decide +kernel
theorem dX6_circle_11 : decode cX6_circle 11 = .ok (.invokestatic 54, 3) := by decide +kernel
theorem dX6_circle_14 : decode cX6_circle 14 = .ok (.ifCond .ne 5, 3) := by decide +kernel
theorem dX6_circle_17 : decode cX6_circle 17 = .ok (.iconst (-1), 1) := by decide +kernel
theorem dX6_circle_18 : decode cX6_circle 18 = .ok (.ireturn, 1) := by decide +kernel
theorem dX6_circle_19 : decode cX6_circle 19 = .ok (.iload_n 1, 1) := by decide +kernel
theorem dX6_circle_20 : decode cX6_circle 20 = .ok (.istore_n 3, 1) := by decide +kernel
theorem dX6_circle_21 : decode cX6_circle 21 = .ok (.iconst 0, 1) := by decide +kernel
theorem dX6_circle_22 : decode cX6_circle 22 = .ok (.istore 4, 2) := by decide +kernel
theorem dX6_circle_24 : decode cX6_circle 24 = .ok (.iload 4, 2) := by decide +kernel
theorem dX6_circle_26 : decode cX6_circle 26 = .ok (.bipush 6, 2) := by decide +kernel
theorem dX6_circle_28 : decode cX6_circle 28 = .ok (.if_icmp .ge 31, 3) := by decide +kernel
theorem dX6_circle_31 : decode cX6_circle 31 = .ok (.iload_n 3, 1) := by decide +kernel
theorem dX6_circle_32 : decode cX6_circle 32 = .ok (.bipush (-9), 2) := by decide +kernel
theorem dX6_circle_34 : decode cX6_circle 34 = .ok (.if_icmp .eq 25, 3) := by decide +kernel
theorem dX6_circle_37 : decode cX6_circle 37 = .ok (.aload_n 0, 1) := by decide +kernel
theorem dX6_circle_38 : decode cX6_circle 38 = .ok (.aload_n 0, 1) := by decide +kernel
theorem dX6_circle_39 : decode cX6_circle 39 = .ok (.getfield 29, 3) := by decide +kernel
theorem dX6_circle_42 : decode cX6_circle 42 = .ok (.iload_n 3, 1) := by decide +kernel
theorem dX6_circle_43 : decode cX6_circle 43 = .ok (.aload_n 0, 1) := by decide +kernel
theorem dX6_circle_44 : decode cX6_circle 44 = .ok (.getfield 23, 3) := by decide +kernel
theorem dX6_circle_47 : decode cX6_circle 47 = .ok (.iload_n 3, 1) := by decide +kernel
theorem dX6_circle_48 : decode cX6_circle 48 = .ok (.iaload, 1) := by decide +kernel
theorem dX6_circle_49 : decode cX6_circle 49 = .ok (.invokevirtual 121, 3) := by decide +kernel
theorem dX6_circle_52 : decode cX6_circle 52 = .ok (.istore_n 3, 1) := by decide +kernel
theorem dX6_circle_53 : decode cX6_circle 53 = .ok (.iinc 4 1, 3) := by decide +kernel
theorem dX6_circle_56 : decode cX6_circle 56 = .ok (.goto (-32), 3) := by decide +kernel
theorem dX6_circle_59 : decode cX6_circle 59 = .ok (.iload_n 3, 1) := by decide +kernel
theorem dX6_circle_60 : decode cX6_circle 60 = .ok (.bipush (-9), 2) := by decide +kernel
theorem dX6_circle_62 : decode cX6_circle 62 = .ok (.if_icmp .ne 6, 3) := by decide +kernel
theorem dX6_circle_65 : decode cX6_circle 65 = .ok (.bipush (-9), 2) := by decide +kernel
theorem dX6_circle_67 : decode cX6_circle 67 = .ok (.ireturn, 1) := by decide +kernel
theorem dX6_circle_68 : decode cX6_circle 68 = .ok (.iconst 1, 1) := by decide +kernel
theorem dX6_circle_69 : decode cX6_circle 69 = .ok (.istore 4, 2) := by decide +kernel
theorem dX6_circle_71 : decode cX6_circle 71 = .ok (.iload_n 3, 1) := by decide +kernel
theorem dX6_circle_72 : decode cX6_circle 72 = .ok (.istore 5, 2) := by decide +kernel
theorem dX6_circle_74 : decode cX6_circle 74 = .ok (.aload_n 0, 1) := by decide +kernel
theorem dX6_circle_75 : decode cX6_circle 75 = .ok (.aload_n 0, 1) := by decide +kernel
theorem dX6_circle_76 : decode cX6_circle 76 = .ok (.getfield 29, 3) := by decide +kernel
theorem dX6_circle_79 : decode cX6_circle 79 = .ok (.iload_n 3, 1) := by decide +kernel
theorem dX6_circle_80 : decode cX6_circle 80 = .ok (.aload_n 0, 1) := by decide +kernel
theorem dX6_circle_81 : decode cX6_circle 81 = .ok (.getfield 23, 3) := by decide +kernel
theorem dX6_circle_84 : decode cX6_circle 84 = .ok (.iload_n 3, 1) := by decide +kernel
theorem dX6_circle_85 : decode cX6_circle 85 = .ok (.iaload, 1) := by decide +kernel
theorem dX6_circle_86 : decode cX6_circle 86 = .ok (.invokevirtual 121, 3) := by decide +kernel
theorem dX6_circle_89 : decode cX6_circle 89 = .ok (.istore 6, 2) := by decide +kernel
theorem dX6_circle_91 : decode cX6_circle 91 = .ok (.iload 6, 2) := by decide +kernel
theorem dX6_circle_93 : decode cX6_circle 93 = .ok (.iload_n 3, 1) := by decide +kernel
theorem dX6_circle_94 : decode cX6_circle 94 = .ok (.if_icmp .eq 44, 3) := by decide +kernel
theorem dX6_circle_97 : decode cX6_circle 97 = .ok (.iload 6, 2) := by decide +kernel
theorem dX6_circle_99 : decode cX6_circle 99 = .ok (.iload 5, 2) := by decide +kernel
theorem dX6_circle_101 : decode cX6_circle 101 = .ok (.if_icmp .ge 8, 3) := by decide +kernel
theorem dX6_circle_104 : decode cX6_circle 104 = .ok (.iload 6, 2) := by decide +kernel
theorem dX6_circle_106 : decode cX6_circle 106 = .ok (.goto 5, 3) := by decide +kernel
theorem dX6_circle_109 : decode cX6_circle 109 = .ok (.iload 5, 2) := by decide +kernel
theorem dX6_circle_111 : decode cX6_circle 111 = .ok (.istore 5, 2) := by decide +kernel
theorem dX6_circle_113 : decode cX6_circle 113 = .ok (.iinc 4 1, 3) := by decide +kernel
theorem dX6_circle_116 : decode cX6_circle 116 = .ok (.aload_n 0, 1) := by decide +kernel
theorem dX6_circle_117 : decode cX6_circle 117 = .ok (.aload_n 0, 1) := by decide +kernel
theorem dX6_circle_118 : decode cX6_circle 118 = .ok (.getfield 29, 3) := by decide +kernel
theorem dX6_circle_121 : decode cX6_circle 121 = .ok (.iload 6, 2) := by decide +kernel
theorem dX6_circle_123 : decode cX6_circle 123 = .ok (.aload_n 0, 1) := by decide +kernel
theorem dX6_circle_124 : decode cX6_circle 124 = .ok (.getfield 23, 3) := by decide +kernel
theorem dX6_circle_127 : decode cX6_circle 127 = .ok (.iload 6, 2) := by decide +kernel
theorem dX6_circle_129 : decode cX6_circle 129 = .ok (.iaload, 1) := by decide +kernel
theorem dX6_circle_130 : decode cX6_circle 130 = .ok (.invokevirtual 121, 3) := by decide +kernel
theorem dX6_circle_133 : decode cX6_circle 133 = .ok (.istore 6, 2) := by decide +kernel
theorem dX6_circle_135 : decode cX6_circle 135 = .ok (.goto (-44), 3) := by decide +kernel
theorem dX6_circle_138 : decode cX6_circle 138 = .ok (.iload_n 2, 1) := by decide +kernel
theorem dX6_circle_139 : decode cX6_circle 139 = .ok (.ifCond .ne 8, 3) := by decide +kernel
theorem dX6_circle_142 : decode cX6_circle 142 = .ok (.iload 4, 2) := by decide +kernel
theorem dX6_circle_144 : decode cX6_circle 144 = .ok (.goto 5, 3) := by decide +kernel
theorem dX6_circle_147 : decode cX6_circle 147 = .ok (.iload 5, 2) := by decide +kernel
theorem dX6_circle_149 : decode cX6_circle 149 = .ok (.ireturn, 1) := by decide +kernel
set_option maxRecDepth 20000 in
theorem ggX6_chair_X6_isHere : GoodIn wsX6_chair wsX6_isHere := goodIn_r _ [6, 7, 8, 9, 10, 5, 11, 12, 13, 14, 15, 16, 17, 18, 19, 36, 37, 38, 39, 40, 41, 42, 43, 44, 45, 46, 47, 48, 49, 50, 51, 52, 53, 54, 55, 56] (by decide +kernel) (by decide +kernel)
set_option maxRecDepth 20000 in
theorem gX6_chair_X6_isHere : GoodIn wsX6_chair (wsV RX6 163 RX6 yX6_isHere wsX6_isHere) := goodIn_app (goodIn_of _ (by decide +kernel)) ggX6_chair_X6_isHere
set_option maxRecDepth 20000 in
theorem ggX6_chair_X6_take : GoodIn wsX6_chair wsX6_take := goodIn_r _ [23, 1, 7, 36, 37, 38, 39, 40, 41, 42, 43, 44, 45, 46, 47, 48, 49, 50, 51, 52, 53, 54, 55, 56] (by decide +kernel) (by decide +kernel)
set_option maxRecDepth 20000 in
theorem gX6_chair_X6_take : GoodIn wsX6_chair (wsV RX6 160 RX6 yX6_take wsX6_take) := goodIn_app (goodIn_of _ (by decide +kernel)) ggX6_chair_X6_take
set_option maxRecDepth 20000 in
theorem ggX6_chair_X6_whom : GoodIn wsX6_chair wsX6_whom := goodIn_r _ [27, 12, 16, 17, 18, 5, 19, 28, 29, 30, 31, 32, 33, 34, 35, 36, 37, 38, 39, 40, 41, 42, 43, 44, 45, 46, 47, 48, 49, 50, 51, 52, 53, 54, 55, 56] (by decide +kernel) (by decide +kernel)
set_option maxRecDepth 20000 in
theorem gX6_chair_X6_whom : GoodIn wsX6_chair (wsV RX6 121 RX6 yX6_whom wsX6_whom) := goodIn_app (goodIn_of _ (by decide +kernel)) ggX6_chair_X6_whom
theorem dX6_chair_0 : decode cX6_chair 0 = .ok (.aload_n 0, 1) := by decide +kernel
theorem dX6_chair_1 : decode cX6_chair 1 = .ok (.iload_n 1, 1) := by decide +kernel
theorem dX6_chair_2 : decode cX6_chair 2 = .ok (.invokevirtual 163, 3) := by decide +kernel
theorem dX6_chair_5 : decode cX6_chair 5 = .ok (.ifCond .eq 16, 3) := by decide +kernel
theorem dX6_chair_8 : decode cX6_chair 8 = .ok (.aload_n 0, 1) := by decide +kernel
theorem dX6_chair_9 : decode cX6_chair 9 = .ok (.iload_n 2, 1) := by decide +kernel
theorem dX6_chair_10 : decode cX6_chair 10 = .ok (.invokevirtual 163, 3) := by decide +kernel
theorem dX6_chair_13 : decode cX6_chair 13 = .ok (.ifCond .eq 8, 3) := by decide +kernel
theorem dX6_chair_16 : decode cX6_chair 16 = .ok (.iload_n 1, 1) := by decide +kernel
theorem dX6_chair_17 : decode cX6_chair 17 = .ok (.iload_n 2, 1) := by decide +kernel
theorem dX6_chair_18 : decode cX6_chair 18 = .ok (.if_icmp .ne 5, 3) := by decide +kernel
theorem dX6_chair_21 : decode cX6_chair 21 = .ok (.iconst (-1), 1) := by decide +kernel
theorem dX6_chair_22 : decode cX6_chair 22 = .ok (.ireturn, 1) := by decide +kernel
theorem dX6_chair_23 : decode cX6_chair 23 = .ok (.aload_n 0, 1) := by decide +kernel
theorem dX6_chair_24 : decode cX6_chair 24 = .ok (.invokevirtual 160, 3) := by decide +kernel
theorem dX6_chair_27 : decode cX6_chair 27 = .ok (.iconst 0, 1) := by decide +kernel
theorem dX6_chair_28 : decode cX6_chair 28 = .ok (.istore_n 3, 1) := by decide +kernel
theorem dX6_chair_29 : decode cX6_chair 29 = .ok (.iload_n 3, 1) := by decide +kernel
theorem dX6_chair_30 : decode cX6_chair 30 = .ok (.bipush 9, 2) := by decide +kernel
theorem dX6_chair_32 : decode cX6_chair 32 = .ok (.if_icmp .gt 34, 3) := by decide +kernel
theorem dX6_chair_35 : decode cX6_chair 35 = .ok (.aload_n 0, 1) := by decide +kernel
theorem dX6_chair_36 : decode cX6_chair 36 = .ok (.getfield 36, 3) := by decide +kernel
theorem dX6_chair_39 : decode cX6_chair 39 = .ok (.iconst 4, 1) := by decide +kernel
theorem dX6_chair_40 : decode cX6_chair 40 = .ok (.iload_n 1, 1) := by decide +kernel
theorem dX6_chair_41 : decode cX6_chair 41 = .ok (.iadd, 1) := by decide +kernel
theorem dX6_chair_42 : decode cX6_chair 42 = .ok (.iload_n 3, 1) := by decide +kernel
theorem dX6_chair_43 : decode cX6_chair 43 = .ok (.iastore, 1) := by decide +kernel
theorem dX6_chair_44 : decode cX6_chair 44 = .ok (.aload_n 0, 1) := by decide +kernel
theorem dX6_chair_45 : decode cX6_chair 45 = .ok (.aload_n 0, 1) := by decide +kernel
theorem dX6_chair_46 : decode cX6_chair 46 = .ok (.getfield 36, 3) := by decide +kernel
theorem dX6_chair_49 : decode cX6_chair 49 = .ok (.iload_n 1, 1) := by decide +kernel
theorem dX6_chair_50 : decode cX6_chair 50 = .ok (.iconst 0, 1) := by decide +kernel
theorem dX6_chair_51 : decode cX6_chair 51 = .ok (.invokevirtual 121, 3) := by decide +kernel
theorem dX6_chair_54 : decode cX6_chair 54 = .ok (.iload_n 2, 1) := by decide +kernel
theorem dX6_chair_55 : decode cX6_chair 55 = .ok (.if_icmp .ne 5, 3) := by decide +kernel
theorem dX6_chair_58 : decode cX6_chair 58 = .ok (.iload_n 3, 1) := by decide +kernel
theorem dX6_chair_59 : decode cX6_chair 59 = .ok (.ireturn, 1) := by decide +kernel
theorem dX6_chair_60 : decode cX6_chair 60 = .ok (.iinc 3 1, 3) := by decide +kernel
theorem dX6_chair_63 : decode cX6_chair 63 = .ok (.goto (-34), 3) := by decide +kernel
theorem dX6_chair_66 : decode cX6_chair 66 = .ok (.bipush (-9), 2) := by decide +kernel
theorem dX6_chair_68 : decode cX6_chair 68 = .ok (.ireturn, 1) := by decide +kernel
set_option maxRecDepth 20000 in
theorem ggX6_saw_X6_isHere : GoodIn wsX6_saw wsX6_isHere := goodIn_r _ [8, 9, 10, 11, 12, 7, 13, 14, 15, 16, 17, 18, 19, 20, 21, 22, 23, 24, 25, 26, 27, 28, 29, 30, 31, 32, 33, 34, 35, 36, 37, 38, 39, 40, 41, 42] (by decide +kernel) (by decide +kernel)
set_option maxRecDepth 20000 in
theorem gX6_saw_X6_isHere : GoodIn wsX6_saw (wsV RX6 163 RX6 yX6_isHere wsX6_isHere) := goodIn_app (goodIn_of _ (by decide +kernel)) ggX6_saw_X6_isHere
theorem dX6_saw_0 : decode cX6_saw 0 = .ok (.aload_n 0, 1) := by decide +kernel
theorem dX6_saw_1 : decode cX6_saw 1 = .ok (.iload_n 1, 1) := by decide +kernel
theorem dX6_saw_2 : decode cX6_saw 2 = .ok (.invokevirtual 163, 3) := by decide +kernel
theorem dX6_saw_5 : decode cX6_saw 5 = .ok (.ifCond .eq 16, 3) := by decide +kernel
theorem dX6_saw_8 : decode cX6_saw 8 = .ok (.aload_n 0, 1) := by decide +kernel
theorem dX6_saw_9 : decode cX6_saw 9 = .ok (.iload_n 2, 1) := by decide +kernel
theorem dX6_saw_10 : decode cX6_saw 10 = .ok (.invokevirtual 163, 3) := by decide +kernel
theorem dX6_saw_13 : decode cX6_saw 13 = .ok (.ifCond .eq 8, 3) := by decide +kernel
theorem dX6_saw_16 : decode cX6_saw 16 = .ok (.iload_n 1, 1) := by decide +kernel
theorem dX6_saw_17 : decode cX6_saw 17 = .ok (.iload_n 2, 1) := by decide +kernel
theorem dX6_saw_18 : decode cX6_saw 18 = .ok (.if_icmp .ne 5, 3) := by decide +kernel
theorem dX6_saw_21 : decode cX6_saw 21 = .ok (.iconst (-1), 1) := by decide +kernel
theorem dX6_saw_22 : decode cX6_saw 22 = .ok (.ireturn, 1) := by decide +kernel
theorem dX6_saw_23 : decode cX6_saw 23 = .ok (.aload_n 0, 1) := by decide +kernel
theorem dX6_saw_24 : decode cX6_saw 24 = .ok (.getfield 96, 3) := by decide +kernel
theorem dX6_saw_27 : decode cX6_saw 27 = .ok (.bipush 6, 2) := by decide +kernel
theorem dX6_saw_29 : decode cX6_saw 29 = .ok (.if_icmp .ne 6, 3) := by decide +kernel
theorem dX6_saw_32 : decode cX6_saw 32 = .ok (.bipush (-3), 2) := by decide +kernel
theorem dX6_saw_34 : decode cX6_saw 34 = .ok (.ireturn, 1) := by decide +kernel
theorem dX6_saw_35 : decode cX6_saw 35 = .ok (.aload_n 0, 1) := by decide +kernel
theorem dX6_saw_36 : decode cX6_saw 36 = .ok (.getfield 42, 3) := by decide +kernel
theorem dX6_saw_39 : decode cX6_saw 39 = .ok (.aload_n 0, 1) := by decide +kernel
theorem dX6_saw_40 : decode cX6_saw 40 = .ok (.getfield 96, 3) := by decide +kernel
theorem dX6_saw_43 : decode cX6_saw 43 = .ok (.iload_n 1, 1) := by decide +kernel
theorem dX6_saw_44 : decode cX6_saw 44 = .ok (.iastore, 1) := by decide +kernel
theorem dX6_saw_45 : decode cX6_saw 45 = .ok (.aload_n 0, 1) := by decide +kernel
theorem dX6_saw_46 : decode cX6_saw 46 = .ok (.getfield 45, 3) := by decide +kernel
theorem dX6_saw_49 : decode cX6_saw 49 = .ok (.aload_n 0, 1) := by decide +kernel
theorem dX6_saw_50 : decode cX6_saw 50 = .ok (.getfield 96, 3) := by decide +kernel
theorem dX6_saw_53 : decode cX6_saw 53 = .ok (.iload_n 2, 1) := by decide +kernel
theorem dX6_saw_54 : decode cX6_saw 54 = .ok (.iastore, 1) := by decide +kernel
theorem dX6_saw_55 : decode cX6_saw 55 = .ok (.aload_n 0, 1) := by decide +kernel
theorem dX6_saw_56 : decode cX6_saw 56 = .ok (.dup, 1) := by decide +kernel
theorem dX6_saw_57 : decode cX6_saw 57 = .ok (.getfield 96, 3) := by decide +kernel
theorem dX6_saw_60 : decode cX6_saw 60 = .ok (.iconst 1, 1) := by decide +kernel
theorem dX6_saw_61 : decode cX6_saw 61 = .ok (.iadd, 1) := by decide +kernel
theorem dX6_saw_62 : decode cX6_saw 62 = .ok (.putfield 96, 3) := by decide +kernel
theorem dX6_saw_65 : decode cX6_saw 65 = .ok (.aload_n 0, 1) := by decide +kernel
theorem dX6_saw_66 : decode cX6_saw 66 = .ok (.getfield 96, 3) := by decide +kernel
theorem dX6_saw_69 : decode cX6_saw 69 = .ok (.ireturn, 1) := by decide +kernel
theorem dX6_forget_0 : decode cX6_forget 0 = .ok (.aload_n 0, 1) := by decide +kernel
theorem dX6_forget_1 : decode cX6_forget 1 = .ok (.getfield 96, 3) := by decide +kernel
theorem dX6_forget_4 : decode cX6_forget 4 = .ok (.istore_n 1, 1) := by decide +kernel
theorem dX6_forget_5 : decode cX6_forget 5 = .ok (.aload_n 0, 1) := by decide +kernel
theorem dX6_forget_6 : decode cX6_forget 6 = .ok (.iconst 0, 1) := by decide +kernel
theorem dX6_forget_7 : decode cX6_forget 7 = .ok (.putfield 96, 3) := by decide +kernel
theorem dX6_forget_10 : decode cX6_forget 10 = .ok (.iload_n 1, 1) := by decide +kernel
theorem dX6_forget_11 : decode cX6_forget 11 = .ok (.ireturn, 1) := by decide +kernel
set_option maxRecDepth 20000 in
theorem ggX6_lawsOf_X6_isAboard : GoodIn wsX6_lawsOf wsX6_isAboard := goodIn_r _ [9] (by decide +kernel) (by decide +kernel)
set_option maxRecDepth 20000 in
theorem gX6_lawsOf_X6_isAboard : GoodIn wsX6_lawsOf (wsV RX6 110 RX6 yX6_isAboard wsX6_isAboard) := goodIn_app (goodIn_of _ (by decide +kernel)) ggX6_lawsOf_X6_isAboard
set_option maxRecDepth 20000 in
theorem ggX6_lawsOf_X6_whom : GoodIn wsX6_lawsOf wsX6_whom := goodIn_r _ [13, 14, 5, 6, 7, 8, 9, 15, 16, 17, 18, 19, 20, 21, 22, 23, 24, 25, 26, 27, 28, 29, 30, 31, 32, 33, 34, 35, 36, 37, 38, 39, 40, 41, 42, 43] (by decide +kernel) (by decide +kernel)
set_option maxRecDepth 20000 in
theorem gX6_lawsOf_X6_whom : GoodIn wsX6_lawsOf (wsV RX6 121 RX6 yX6_whom wsX6_whom) := goodIn_app (goodIn_of _ (by decide +kernel)) ggX6_lawsOf_X6_whom
theorem dX6_lawsOf_0 : decode cX6_lawsOf 0 = .ok (.iconst 0, 1) := by decide +kernel
theorem dX6_lawsOf_1 : decode cX6_lawsOf 1 = .ok (.istore_n 2, 1) := by decide +kernel
theorem dX6_lawsOf_2 : decode cX6_lawsOf 2 = .ok (.iconst 0, 1) := by decide +kernel
theorem dX6_lawsOf_3 : decode cX6_lawsOf 3 = .ok (.istore_n 3, 1) := by decide +kernel
theorem dX6_lawsOf_4 : decode cX6_lawsOf 4 = .ok (.iload_n 3, 1) := by decide +kernel
theorem dX6_lawsOf_5 : decode cX6_lawsOf 5 = .ok (.iconst 2, 1) := by decide +kernel
theorem dX6_lawsOf_6 : decode cX6_lawsOf 6 = .ok (.if_icmp .gt 109, 3) := by decide +kernel
theorem dX6_lawsOf_9 : decode cX6_lawsOf 9 = .ok (.aload_n 0, 1) := by decide +kernel
theorem dX6_lawsOf_10 : decode cX6_lawsOf 10 = .ok (.aload_n 0, 1) := by decide +kernel
theorem dX6_lawsOf_11 : decode cX6_lawsOf 11 = .ok (.getfield 29, 3) := by decide +kernel
theorem dX6_lawsOf_14 : decode cX6_lawsOf 14 = .ok (.iload_n 1, 1) := by decide +kernel
theorem dX6_lawsOf_15 : decode cX6_lawsOf 15 = .ok (.invokevirtual 110, 3) := by decide +kernel
theorem dX6_lawsOf_18 : decode cX6_lawsOf 18 = .ok (.ifCond .eq 16, 3) := by decide +kernel
theorem dX6_lawsOf_21 : decode cX6_lawsOf 21 = .ok (.aload_n 0, 1) := by decide +kernel
theorem dX6_lawsOf_22 : decode cX6_lawsOf 22 = .ok (.aload_n 0, 1) := by decide +kernel
theorem dX6_lawsOf_23 : decode cX6_lawsOf 23 = .ok (.getfield 29, 3) := by decide +kernel
theorem dX6_lawsOf_26 : decode cX6_lawsOf 26 = .ok (.iload_n 1, 1) := by decide +kernel
theorem dX6_lawsOf_27 : decode cX6_lawsOf 27 = .ok (.iload_n 3, 1) := by decide +kernel
theorem dX6_lawsOf_28 : decode cX6_lawsOf 28 = .ok (.invokevirtual 121, 3) := by decide +kernel
theorem dX6_lawsOf_31 : decode cX6_lawsOf 31 = .ok (.goto 5, 3) := by decide +kernel
theorem dX6_lawsOf_34 : decode cX6_lawsOf 34 = .ok (.bipush (-9), 2) := by decide +kernel
theorem dX6_lawsOf_36 : decode cX6_lawsOf 36 = .ok (.istore 4, 2) := by decide +kernel
theorem dX6_lawsOf_38 : decode cX6_lawsOf 38 = .ok (.iconst 1, 1) := by decide +kernel
theorem dX6_lawsOf_39 : decode cX6_lawsOf 39 = .ok (.istore 5, 2) := by decide +kernel
theorem dX6_lawsOf_41 : decode cX6_lawsOf 41 = .ok (.iconst 0, 1) := by decide +kernel
theorem dX6_lawsOf_42 : decode cX6_lawsOf 42 = .ok (.istore 6, 2) := by decide +kernel
theorem dX6_lawsOf_44 : decode cX6_lawsOf 44 = .ok (.iload 6, 2) := by decide +kernel
theorem dX6_lawsOf_46 : decode cX6_lawsOf 46 = .ok (.aload_n 0, 1) := by decide +kernel
theorem dX6_lawsOf_47 : decode cX6_lawsOf 47 = .ok (.getfield 96, 3) := by decide +kernel
theorem dX6_lawsOf_50 : decode cX6_lawsOf 50 = .ok (.if_icmp .ge 44, 3) := by decide +kernel
theorem dX6_lawsOf_53 : decode cX6_lawsOf 53 = .ok (.iload 5, 2) := by decide +kernel
theorem dX6_lawsOf_55 : decode cX6_lawsOf 55 = .ok (.ifCond .eq 30, 3) := by decide +kernel
theorem dX6_lawsOf_58 : decode cX6_lawsOf 58 = .ok (.aload_n 0, 1) := by decide +kernel
theorem dX6_lawsOf_59 : decode cX6_lawsOf 59 = .ok (.getfield 42, 3) := by decide +kernel
theorem dX6_lawsOf_62 : decode cX6_lawsOf 62 = .ok (.iload 6, 2) := by decide +kernel
theorem dX6_lawsOf_64 : decode cX6_lawsOf 64 = .ok (.iaload, 1) := by decide +kernel
theorem dX6_lawsOf_65 : decode cX6_lawsOf 65 = .ok (.iload_n 1, 1) := by decide +kernel
theorem dX6_lawsOf_66 : decode cX6_lawsOf 66 = .ok (.if_icmp .ne 15, 3) := by decide +kernel
theorem dX6_lawsOf_69 : decode cX6_lawsOf 69 = .ok (.aload_n 0, 1) := by decide +kernel
theorem dX6_lawsOf_70 : decode cX6_lawsOf 70 = .ok (.getfield 45, 3) := by decide +kernel
theorem dX6_lawsOf_73 : decode cX6_lawsOf 73 = .ok (.iload 6, 2) := by decide +kernel
theorem dX6_lawsOf_75 : decode cX6_lawsOf 75 = .ok (.iaload, 1) := by decide +kernel
theorem dX6_lawsOf_76 : decode cX6_lawsOf 76 = .ok (.iload 4, 2) := by decide +kernel
theorem dX6_lawsOf_78 : decode cX6_lawsOf 78 = .ok (.if_icmp .ne 7, 3) := by decide +kernel
theorem dX6_lawsOf_81 : decode cX6_lawsOf 81 = .ok (.iconst 1, 1) := by decide +kernel
theorem dX6_lawsOf_82 : decode cX6_lawsOf 82 = .ok (.goto 4, 3) := by decide +kernel
theorem dX6_lawsOf_85 : decode cX6_lawsOf 85 = .ok (.iconst 0, 1) := by decide +kernel
theorem dX6_lawsOf_86 : decode cX6_lawsOf 86 = .ok (.istore 5, 2) := by decide +kernel
theorem dX6_lawsOf_88 : decode cX6_lawsOf 88 = .ok (.iinc 6 1, 3) := by decide +kernel
theorem dX6_lawsOf_91 : decode cX6_lawsOf 91 = .ok (.goto (-47), 3) := by decide +kernel
theorem dX6_lawsOf_94 : decode cX6_lawsOf 94 = .ok (.iload_n 2, 1) := by decide +kernel
theorem dX6_lawsOf_95 : decode cX6_lawsOf 95 = .ok (.iload 5, 2) := by decide +kernel
theorem dX6_lawsOf_97 : decode cX6_lawsOf 97 = .ok (.ifCond .eq 9, 3) := by decide +kernel
theorem dX6_lawsOf_100 : decode cX6_lawsOf 100 = .ok (.iconst 1, 1) := by decide +kernel
theorem dX6_lawsOf_101 : decode cX6_lawsOf 101 = .ok (.iload_n 3, 1) := by decide +kernel
theorem dX6_lawsOf_102 : decode cX6_lawsOf 102 = .ok (.ishl, 1) := by decide +kernel
theorem dX6_lawsOf_103 : decode cX6_lawsOf 103 = .ok (.goto 4, 3) := by decide +kernel
theorem dX6_lawsOf_106 : decode cX6_lawsOf 106 = .ok (.iconst 0, 1) := by decide +kernel
theorem dX6_lawsOf_107 : decode cX6_lawsOf 107 = .ok (.ior, 1) := by decide +kernel
theorem dX6_lawsOf_108 : decode cX6_lawsOf 108 = .ok (.istore_n 2, 1) := by decide +kernel
theorem dX6_lawsOf_109 : decode cX6_lawsOf 109 = .ok (.iinc 3 1, 3) := by decide +kernel
theorem dX6_lawsOf_112 : decode cX6_lawsOf 112 = .ok (.goto (-108), 3) := by decide +kernel
theorem dX6_lawsOf_115 : decode cX6_lawsOf 115 = .ok (.iload_n 2, 1) := by decide +kernel
theorem dX6_lawsOf_116 : decode cX6_lawsOf 116 = .ok (.ireturn, 1) := by decide +kernel
set_option maxRecDepth 20000 in
theorem ggX6_laws_X6_isRider : GoodIn wsX6_laws wsX6_isRider := goodIn_r _ [5, 6, 7, 8, 4, 9, 34, 35, 36, 37, 38, 39, 40, 41, 42, 43, 44, 45, 46, 47, 48, 49, 50, 51, 52, 53, 54] (by decide +kernel) (by decide +kernel)
set_option maxRecDepth 20000 in
theorem gX6_laws_X6_isRider : GoodIn wsX6_laws (wsV RX6 107 RX6 yX6_isRider wsX6_isRider) := goodIn_app (goodIn_of _ (by decide +kernel)) ggX6_laws_X6_isRider
set_option maxRecDepth 20000 in
theorem ggX6_laws_X6_lawsOf : GoodIn wsX6_laws wsX6_lawsOf := goodIn_r _ [13, 14, 15, 16, 17, 18, 19, 20, 4, 21, 22, 23, 24, 25, 6, 26, 27, 28, 29, 30, 31, 32, 33, 34, 35, 36, 37, 38, 39, 40, 41, 42, 43, 44, 45, 46, 47, 48, 49, 50, 51, 52, 53, 54] (by decide +kernel) (by decide +kernel)
set_option maxRecDepth 20000 in
theorem gX6_laws_X6_lawsOf : GoodIn wsX6_laws (wsV RX6 166 RX6 yX6_lawsOf wsX6_lawsOf) := goodIn_app (goodIn_of _ (by decide +kernel)) ggX6_laws_X6_lawsOf
theorem dX6_laws_0 : decode cX6_laws 0 = .ok (.aload_n 0, 1) := by decide +kernel
theorem dX6_laws_1 : decode cX6_laws 1 = .ok (.iload_n 1, 1) := by decide +kernel
theorem dX6_laws_2 : decode cX6_laws 2 = .ok (.invokevirtual 107, 3) := by decide +kernel
theorem dX6_laws_5 : decode cX6_laws 5 = .ok (.ifCond .eq 11, 3) := by decide +kernel
theorem dX6_laws_8 : decode cX6_laws 8 = .ok (.aload_n 0, 1) := by decide +kernel
theorem dX6_laws_9 : decode cX6_laws 9 = .ok (.iload_n 1, 1) := by decide +kernel
theorem dX6_laws_10 : decode cX6_laws 10 = .ok (.invokevirtual 166, 3) := by decide +kernel
theorem dX6_laws_13 : decode cX6_laws 13 = .ok (.goto 4, 3) := by decide +kernel
theorem dX6_laws_16 : decode cX6_laws 16 = .ok (.iconst (-1), 1) := by decide +kernel
theorem dX6_laws_17 : decode cX6_laws 17 = .ok (.ireturn, 1) := by decide +kernel
set_option maxRecDepth 20000 in
theorem ggX6_likely_X6_isAboard : GoodIn wsX6_likely wsX6_isAboard := goodIn_r _ [7] (by decide +kernel) (by decide +kernel)
set_option maxRecDepth 20000 in
theorem gX6_likely_X6_isAboard : GoodIn wsX6_likely (wsV RX6 110 RX6 yX6_isAboard wsX6_isAboard) := goodIn_app (goodIn_of _ (by decide +kernel)) ggX6_likely_X6_isAboard
set_option maxRecDepth 20000 in
theorem ggX6_likely_X6_lawsOf : GoodIn wsX6_likely wsX6_lawsOf := goodIn_r _ [11, 2, 12, 13, 14, 3, 4, 5, 6, 7, 15, 16, 17, 18, 1, 19, 20, 21, 22, 23, 24, 25, 26, 30, 31, 32, 33, 34, 35, 36, 37, 38, 39, 40, 41, 42, 43, 44, 45, 46, 47, 48, 49, 50] (by decide +kernel) (by decide +kernel)
set_option maxRecDepth 20000 in
theorem gX6_likely_X6_lawsOf : GoodIn wsX6_likely (wsV RX6 166 RX6 yX6_lawsOf wsX6_lawsOf) := goodIn_app (goodIn_of _ (by decide +kernel)) ggX6_likely_X6_lawsOf
set_option maxRecDepth 20000 in
theorem ggX6_likely_X6_manyOf : GoodIn wsX6_likely wsX6_manyOf := goodIn_r _ [29] (by decide +kernel) (by decide +kernel)
set_option maxRecDepth 20000 in
theorem gX6_likely_X6_manyOf : GoodIn wsX6_likely (va_wsS RX6 146 yX6_manyOf wsX6_manyOf) := goodIn_app (goodIn_of _ (by decide +kernel)) ggX6_likely_X6_manyOf
theorem dX6_likely_0 : decode cX6_likely 0 = .ok (.iconst 1, 1) := by decide +kernel
theorem dX6_likely_1 : decode cX6_likely 1 = .ok (.istore_n 1, 1) := by decide +kernel
theorem dX6_likely_2 : decode cX6_likely 2 = .ok (.iconst 0, 1) := by decide +kernel
theorem dX6_likely_3 : decode cX6_likely 3 = .ok (.istore_n 2, 1) := by decide +kernel
theorem dX6_likely_4 : decode cX6_likely 4 = .ok (.iload_n 2, 1) := by decide +kernel
theorem dX6_likely_5 : decode cX6_likely 5 = .ok (.aload_n 0, 1) := by decide +kernel
theorem dX6_likely_6 : decode cX6_likely 6 = .ok (.getfield 13, 3) := by decide +kernel
theorem dX6_likely_9 : decode cX6_likely 9 = .ok (.iconst 0, 1) := by decide +kernel
theorem dX6_likely_10 : decode cX6_likely 10 = .ok (.iaload, 1) := by decide +kernel
theorem dX6_likely_11 : decode cX6_likely 11 = .ok (.if_icmp .ge 36, 3) := by decide +kernel
theorem dX6_likely_14 : decode cX6_likely 14 = .ok (.iload_n 1, 1) := by decide +kernel
theorem dX6_likely_15 : decode cX6_likely 15 = .ok (.aload_n 0, 1) := by decide +kernel
theorem dX6_likely_16 : decode cX6_likely 16 = .ok (.aload_n 0, 1) := by decide +kernel
theorem dX6_likely_17 : decode cX6_likely 17 = .ok (.getfield 29, 3) := by decide +kernel
theorem dX6_likely_20 : decode cX6_likely 20 = .ok (.iload_n 2, 1) := by decide +kernel
theorem dX6_likely_21 : decode cX6_likely 21 = .ok (.invokevirtual 110, 3) := by decide +kernel
theorem dX6_likely_24 : decode cX6_likely 24 = .ok (.ifCond .eq 14, 3) := by decide +kernel
theorem dX6_likely_27 : decode cX6_likely 27 = .ok (.aload_n 0, 1) := by decide +kernel
theorem dX6_likely_28 : decode cX6_likely 28 = .ok (.iload_n 2, 1) := by decide +kernel
theorem dX6_likely_29 : decode cX6_likely 29 = .ok (.invokevirtual 166, 3) := by decide +kernel
theorem dX6_likely_32 : decode cX6_likely 32 = .ok (.invokestatic 146, 3) := by decide +kernel
theorem dX6_likely_35 : decode cX6_likely 35 = .ok (.goto 4, 3) := by decide +kernel
theorem dX6_likely_38 : decode cX6_likely 38 = .ok (.iconst 1, 1) := by decide +kernel
theorem dX6_likely_39 : decode cX6_likely 39 = .ok (.imul, 1) := by decide +kernel
theorem dX6_likely_40 : decode cX6_likely 40 = .ok (.istore_n 1, 1) := by decide +kernel
theorem dX6_likely_41 : decode cX6_likely 41 = .ok (.iinc 2 1, 3) := by decide +kernel
theorem dX6_likely_44 : decode cX6_likely 44 = .ok (.goto (-40), 3) := by decide +kernel
theorem dX6_likely_47 : decode cX6_likely 47 = .ok (.iload_n 1, 1) := by decide +kernel
theorem dX6_likely_48 : decode cX6_likely 48 = .ok (.ireturn, 1) := by decide +kernel
set_option maxRecDepth 20000 in
theorem ggX6_mark_X6_in : GoodIn wsX6_mark wsX6_in := goodIn_r _ [14] (by decide +kernel) (by decide +kernel)
set_option maxRecDepth 20000 in
theorem gX6_mark_X6_in : GoodIn wsX6_mark (va_wsS RX6 54 yX6_in wsX6_in) := goodIn_app (goodIn_of _ (by decide +kernel)) ggX6_mark_X6_in
set_option maxRecDepth 20000 in
theorem ggX6_mark_X6_isRider : GoodIn wsX6_mark wsX6_isRider := goodIn_r _ [18, 3, 11, 12, 13, 14, 19, 20, 21, 22, 23, 24, 25, 26, 27, 28, 29, 30, 31, 32, 33, 34, 35, 36, 37, 38, 39] (by decide +kernel) (by decide +kernel)
set_option maxRecDepth 20000 in
theorem gX6_mark_X6_isRider : GoodIn wsX6_mark (wsV RX6 107 RX6 yX6_isRider wsX6_isRider) := goodIn_app (goodIn_of _ (by decide +kernel)) ggX6_mark_X6_isRider
theorem dX6_mark_0 : decode cX6_mark 0 = .ok (.iload_n 1, 1) := by decide +kernel
theorem dX6_mark_1 : decode cX6_mark 1 = .ok (.iconst 0, 1) := by decide +kernel
theorem dX6_mark_2 : decode cX6_mark 2 = .ok (.iconst 5, 1) := by decide +kernel
theorem dX6_mark_3 : decode cX6_mark 3 = .ok (.invokestatic 54, 3) := by decide +kernel
theorem dX6_mark_6 : decode cX6_mark 6 = .ok (.ifCond .eq 11, 3) := by decide +kernel
theorem dX6_mark_9 : decode cX6_mark 9 = .ok (.aload_n 0, 1) := by decide +kernel
theorem dX6_mark_10 : decode cX6_mark 10 = .ok (.iload_n 2, 1) := by decide +kernel
theorem dX6_mark_11 : decode cX6_mark 11 = .ok (.invokevirtual 107, 3) := by decide +kernel
theorem dX6_mark_14 : decode cX6_mark 14 = .ok (.ifCond .ne 6, 3) := by decide +kernel
theorem dX6_mark_17 : decode cX6_mark 17 = .ok (.ldc 169, 2) := by decide +kernel
theorem dX6_mark_19 : decode cX6_mark 19 = .ok (.ireturn, 1) := by decide +kernel
theorem dX6_mark_20 : decode cX6_mark 20 = .ok (.aload_n 0, 1) := by decide +kernel
theorem dX6_mark_21 : decode cX6_mark 21 = .ok (.getfield 29, 3) := by decide +kernel
theorem dX6_mark_24 : decode cX6_mark 24 = .ok (.iconst 4, 1) := by decide +kernel
theorem dX6_mark_25 : decode cX6_mark 25 = .ok (.iload_n 2, 1) := by decide +kernel
theorem dX6_mark_26 : decode cX6_mark 26 = .ok (.iadd, 1) := by decide +kernel
theorem dX6_mark_27 : decode cX6_mark 27 = .ok (.iaload, 1) := by decide +kernel
theorem dX6_mark_28 : decode cX6_mark 28 = .ok (.istore_n 3, 1) := by decide +kernel
theorem dX6_mark_29 : decode cX6_mark 29 = .ok (.iload_n 3, 1) := by decide +kernel
theorem dX6_mark_30 : decode cX6_mark 30 = .ok (.istore 4, 2) := by decide +kernel
theorem dX6_mark_32 : decode cX6_mark 32 = .ok (.iconst 0, 1) := by decide +kernel
theorem dX6_mark_33 : decode cX6_mark 33 = .ok (.istore 5, 2) := by decide +kernel
theorem dX6_mark_35 : decode cX6_mark 35 = .ok (.iload 5, 2) := by decide +kernel
theorem dX6_mark_37 : decode cX6_mark 37 = .ok (.aload_n 0, 1) := by decide +kernel
theorem dX6_mark_38 : decode cX6_mark 38 = .ok (.getfield 13, 3) := by decide +kernel
theorem dX6_mark_41 : decode cX6_mark 41 = .ok (.iconst 0, 1) := by decide +kernel
theorem dX6_mark_42 : decode cX6_mark 42 = .ok (.iaload, 1) := by decide +kernel
theorem dX6_mark_43 : decode cX6_mark 43 = .ok (.if_icmp .ge 43, 3) := by decide +kernel
theorem dX6_mark_46 : decode cX6_mark 46 = .ok (.iload 4, 2) := by decide +kernel
theorem dX6_mark_48 : decode cX6_mark 48 = .ok (.iload 5, 2) := by decide +kernel
theorem dX6_mark_50 : decode cX6_mark 50 = .ok (.iload_n 2, 1) := by decide +kernel
theorem dX6_mark_51 : decode cX6_mark 51 = .ok (.if_icmp .eq 25, 3) := by decide +kernel
theorem dX6_mark_54 : decode cX6_mark 54 = .ok (.aload_n 0, 1) := by decide +kernel
theorem dX6_mark_55 : decode cX6_mark 55 = .ok (.getfield 29, 3) := by decide +kernel
theorem dX6_mark_58 : decode cX6_mark 58 = .ok (.bipush 16, 2) := by decide +kernel
theorem dX6_mark_60 : decode cX6_mark 60 = .ok (.bipush 6, 2) := by decide +kernel
theorem dX6_mark_62 : decode cX6_mark 62 = .ok (.iload 5, 2) := by decide +kernel
theorem dX6_mark_64 : decode cX6_mark 64 = .ok (.imul, 1) := by decide +kernel
theorem dX6_mark_65 : decode cX6_mark 65 = .ok (.iadd, 1) := by decide +kernel
theorem dX6_mark_66 : decode cX6_mark 66 = .ok (.iload_n 2, 1) := by decide +kernel
theorem dX6_mark_67 : decode cX6_mark 67 = .ok (.iadd, 1) := by decide +kernel
theorem dX6_mark_68 : decode cX6_mark 68 = .ok (.iaload, 1) := by decide +kernel
theorem dX6_mark_69 : decode cX6_mark 69 = .ok (.ifCond .le 7, 3) := by decide +kernel
theorem dX6_mark_72 : decode cX6_mark 72 = .ok (.iconst 1, 1) := by decide +kernel
theorem dX6_mark_73 : decode cX6_mark 73 = .ok (.goto 4, 3) := by decide +kernel
theorem dX6_mark_76 : decode cX6_mark 76 = .ok (.iconst 0, 1) := by decide +kernel
theorem dX6_mark_77 : decode cX6_mark 77 = .ok (.isub, 1) := by decide +kernel
theorem dX6_mark_78 : decode cX6_mark 78 = .ok (.istore 4, 2) := by decide +kernel
theorem dX6_mark_80 : decode cX6_mark 80 = .ok (.iinc 5 1, 3) := by decide +kernel
theorem dX6_mark_83 : decode cX6_mark 83 = .ok (.goto (-48), 3) := by decide +kernel
theorem dX6_mark_86 : decode cX6_mark 86 = .ok (.iload_n 1, 1) := by decide +kernel
theorem dX6_mark_87 : decode cX6_mark 87 = .ok (.tableswitch 121 0 4 #[33, 45, 66, 81, 104], 33) := by decide +kernel
theorem dX6_mark_120 : decode cX6_mark 120 = .ok (.aload_n 0, 1) := by decide +kernel
theorem dX6_mark_121 : decode cX6_mark 121 = .ok (.dup, 1) := by decide +kernel
theorem dX6_mark_122 : decode cX6_mark 122 = .ok (.getfield 170, 3) := by decide +kernel
theorem dX6_mark_125 : decode cX6_mark 125 = .ok (.lconst 1, 1) := by decide +kernel
theorem dX6_mark_126 : decode cX6_mark 126 = .ok (.ladd, 1) := by decide +kernel
theorem dX6_mark_127 : decode cX6_mark 127 = .ok (.putfield 170, 3) := by decide +kernel
theorem dX6_mark_130 : decode cX6_mark 130 = .ok (.iload_n 3, 1) := by decide +kernel
theorem dX6_mark_131 : decode cX6_mark 131 = .ok (.ireturn, 1) := by decide +kernel
theorem dX6_mark_132 : decode cX6_mark 132 = .ok (.aload_n 0, 1) := by decide +kernel
theorem dX6_mark_133 : decode cX6_mark 133 = .ok (.dup, 1) := by decide +kernel
theorem dX6_mark_134 : decode cX6_mark 134 = .ok (.getfield 170, 3) := by decide +kernel
theorem dX6_mark_137 : decode cX6_mark 137 = .ok (.ldc2_w 174, 3) := by decide +kernel
theorem dX6_mark_140 : decode cX6_mark 140 = .ok (.ladd, 1) := by decide +kernel
theorem dX6_mark_141 : decode cX6_mark 141 = .ok (.putfield 170, 3) := by decide +kernel
theorem dX6_mark_144 : decode cX6_mark 144 = .ok (.iload_n 3, 1) := by decide +kernel
theorem dX6_mark_145 : decode cX6_mark 145 = .ok (.aload_n 0, 1) := by decide +kernel
theorem dX6_mark_146 : decode cX6_mark 146 = .ok (.getfield 20, 3) := by decide +kernel
theorem dX6_mark_149 : decode cX6_mark 149 = .ok (.iload_n 2, 1) := by decide +kernel
theorem dX6_mark_150 : decode cX6_mark 150 = .ok (.iaload, 1) := by decide +kernel
theorem dX6_mark_151 : decode cX6_mark 151 = .ok (.iadd, 1) := by decide +kernel
theorem dX6_mark_152 : decode cX6_mark 152 = .ok (.ireturn, 1) := by decide +kernel
theorem dX6_mark_153 : decode cX6_mark 153 = .ok (.aload_n 0, 1) := by decide +kernel
theorem dX6_mark_154 : decode cX6_mark 154 = .ok (.dup, 1) := by decide +kernel
theorem dX6_mark_155 : decode cX6_mark 155 = .ok (.getfield 170, 3) := by decide +kernel
theorem dX6_mark_158 : decode cX6_mark 158 = .ok (.ldc2_w 176, 3) := by decide +kernel
theorem dX6_mark_161 : decode cX6_mark 161 = .ok (.ladd, 1) := by decide +kernel
theorem dX6_mark_162 : decode cX6_mark 162 = .ok (.putfield 170, 3) := by decide +kernel
theorem dX6_mark_165 : decode cX6_mark 165 = .ok (.iload 4, 2) := by decide +kernel
theorem dX6_mark_167 : decode cX6_mark 167 = .ok (.ireturn, 1) := by decide +kernel
theorem dX6_mark_168 : decode cX6_mark 168 = .ok (.aload_n 0, 1) := by decide +kernel
theorem dX6_mark_169 : decode cX6_mark 169 = .ok (.dup, 1) := by decide +kernel
theorem dX6_mark_170 : decode cX6_mark 170 = .ok (.getfield 170, 3) := by decide +kernel
theorem dX6_mark_173 : decode cX6_mark 173 = .ok (.ldc2_w 178, 3) := by decide +kernel
theorem dX6_mark_176 : decode cX6_mark 176 = .ok (.ladd, 1) := by decide +kernel
theorem dX6_mark_177 : decode cX6_mark 177 = .ok (.putfield 170, 3) := by decide +kernel
theorem dX6_mark_180 : decode cX6_mark 180 = .ok (.iconst 2, 1) := by decide +kernel
theorem dX6_mark_181 : decode cX6_mark 181 = .ok (.iload_n 3, 1) := by decide +kernel
theorem dX6_mark_182 : decode cX6_mark 182 = .ok (.aload_n 0, 1) := by decide +kernel
theorem dX6_mark_183 : decode cX6_mark 183 = .ok (.getfield 20, 3) := by decide +kernel
theorem dX6_mark_186 : decode cX6_mark 186 = .ok (.iload_n 2, 1) := by decide +kernel
theorem dX6_mark_187 : decode cX6_mark 187 = .ok (.iaload, 1) := by decide +kernel
theorem dX6_mark_188 : decode cX6_mark 188 = .ok (.iadd, 1) := by decide +kernel
theorem dX6_mark_189 : decode cX6_mark 189 = .ok (.imul, 1) := by decide +kernel
theorem dX6_mark_190 : decode cX6_mark 190 = .ok (.ireturn, 1) := by decide +kernel
theorem dX6_mark_191 : decode cX6_mark 191 = .ok (.aload_n 0, 1) := by decide +kernel
theorem dX6_mark_192 : decode cX6_mark 192 = .ok (.dup, 1) := by decide +kernel
theorem dX6_mark_193 : decode cX6_mark 193 = .ok (.getfield 170, 3) := by decide +kernel
theorem dX6_mark_196 : decode cX6_mark 196 = .ok (.ldc2_w 180, 3) := by decide +kernel
theorem dX6_mark_199 : decode cX6_mark 199 = .ok (.ladd, 1) := by decide +kernel
theorem dX6_mark_200 : decode cX6_mark 200 = .ok (.putfield 170, 3) := by decide +kernel
theorem dX6_mark_203 : decode cX6_mark 203 = .ok (.iload 4, 2) := by decide +kernel
theorem dX6_mark_205 : decode cX6_mark 205 = .ok (.iload_n 2, 1) := by decide +kernel
theorem dX6_mark_206 : decode cX6_mark 206 = .ok (.iadd, 1) := by decide +kernel
theorem dX6_mark_207 : decode cX6_mark 207 = .ok (.ireturn, 1) := by decide +kernel
theorem dX6_mark_208 : decode cX6_mark 208 = .ok (.aload_n 0, 1) := by decide +kernel
theorem dX6_mark_209 : decode cX6_mark 209 = .ok (.dup, 1) := by decide +kernel
theorem dX6_mark_210 : decode cX6_mark 210 = .ok (.getfield 170, 3) := by decide +kernel
theorem dX6_mark_213 : decode cX6_mark 213 = .ok (.ldc2_w 182, 3) := by decide +kernel
theorem dX6_mark_216 : decode cX6_mark 216 = .ok (.ladd, 1) := by decide +kernel
theorem dX6_mark_217 : decode cX6_mark 217 = .ok (.putfield 170, 3) := by decide +kernel
theorem dX6_mark_220 : decode cX6_mark 220 = .ok (.iload_n 3, 1) := by decide +kernel
theorem dX6_mark_221 : decode cX6_mark 221 = .ok (.aload_n 0, 1) := by decide +kernel
theorem dX6_mark_222 : decode cX6_mark 222 = .ok (.getfield 29, 3) := by decide +kernel
theorem dX6_mark_225 : decode cX6_mark 225 = .ok (.iconst 0, 1) := by decide +kernel
theorem dX6_mark_226 : decode cX6_mark 226 = .ok (.iaload, 1) := by decide +kernel
theorem dX6_mark_227 : decode cX6_mark 227 = .ok (.iadd, 1) := by decide +kernel
theorem dX6_mark_228 : decode cX6_mark 228 = .ok (.ireturn, 1) := by decide +kernel
set_option maxRecDepth 20000 in
theorem ggX6_keep_X6_in : GoodIn wsX6_keep wsX6_in := goodIn_r _ [6] (by decide +kernel) (by decide +kernel)
set_option maxRecDepth 20000 in
theorem gX6_keep_X6_in : GoodIn wsX6_keep (va_wsS RX6 54 yX6_in wsX6_in) := goodIn_app (goodIn_of _ (by decide +kernel)) ggX6_keep_X6_in
theorem dX6_keep_0 : decode cX6_keep 0 = .ok (.iload_n 1, 1) := by decide +kernel
theorem dX6_keep_1 : decode cX6_keep 1 = .ok (.iconst 0, 1) := by decide +kernel
theorem dX6_keep_2 : decode cX6_keep 2 = .ok (.iconst 1, 1) := by decide +kernel
theorem dX6_keep_3 : decode cX6_keep 3 = .ok (.invokestatic 54, 3) := by decide +kernel
theorem dX6_keep_6 : decode cX6_keep 6 = .ok (.ifCond .ne 5, 3) := by decide +kernel
theorem dX6_keep_9 : decode cX6_keep 9 = .ok (.iconst (-1), 1) := by decide +kernel
theorem dX6_keep_10 : decode cX6_keep 10 = .ok (.ireturn, 1) := by decide +kernel
theorem dX6_keep_11 : decode cX6_keep 11 = .ok (.iconst 0, 1) := by decide +kernel
theorem dX6_keep_12 : decode cX6_keep 12 = .ok (.istore_n 2, 1) := by decide +kernel
theorem dX6_keep_13 : decode cX6_keep 13 = .ok (.iload_n 2, 1) := by decide +kernel
theorem dX6_keep_14 : decode cX6_keep 14 = .ok (.sipush 573, 3) := by decide +kernel
theorem dX6_keep_17 : decode cX6_keep 17 = .ok (.if_icmp .ge 29, 3) := by decide +kernel
theorem dX6_keep_20 : decode cX6_keep 20 = .ok (.aload_n 0, 1) := by decide +kernel
theorem dX6_keep_21 : decode cX6_keep 21 = .ok (.getfield 29, 3) := by decide +kernel
theorem dX6_keep_24 : decode cX6_keep 24 = .ok (.sipush 573, 3) := by decide +kernel
theorem dX6_keep_27 : decode cX6_keep 27 = .ok (.iconst 1, 1) := by decide +kernel
theorem dX6_keep_28 : decode cX6_keep 28 = .ok (.iload_n 1, 1) := by decide +kernel
theorem dX6_keep_29 : decode cX6_keep 29 = .ok (.iadd, 1) := by decide +kernel
theorem dX6_keep_30 : decode cX6_keep 30 = .ok (.imul, 1) := by decide +kernel
theorem dX6_keep_31 : decode cX6_keep 31 = .ok (.iload_n 2, 1) := by decide +kernel
theorem dX6_keep_32 : decode cX6_keep 32 = .ok (.iadd, 1) := by decide +kernel
theorem dX6_keep_33 : decode cX6_keep 33 = .ok (.aload_n 0, 1) := by decide +kernel
theorem dX6_keep_34 : decode cX6_keep 34 = .ok (.getfield 29, 3) := by decide +kernel
theorem dX6_keep_37 : decode cX6_keep 37 = .ok (.iload_n 2, 1) := by decide +kernel
theorem dX6_keep_38 : decode cX6_keep 38 = .ok (.iaload, 1) := by decide +kernel
theorem dX6_keep_39 : decode cX6_keep 39 = .ok (.iastore, 1) := by decide +kernel
theorem dX6_keep_40 : decode cX6_keep 40 = .ok (.iinc 2 1, 3) := by decide +kernel
theorem dX6_keep_43 : decode cX6_keep 43 = .ok (.goto (-30), 3) := by decide +kernel
theorem dX6_keep_46 : decode cX6_keep 46 = .ok (.aload_n 0, 1) := by decide +kernel
theorem dX6_keep_47 : decode cX6_keep 47 = .ok (.getfield 32, 3) := by decide +kernel
theorem dX6_keep_50 : decode cX6_keep 50 = .ok (.iload_n 1, 1) := by decide +kernel
theorem dX6_keep_51 : decode cX6_keep 51 = .ok (.iconst 1, 1) := by decide +kernel
theorem dX6_keep_52 : decode cX6_keep 52 = .ok (.bastore, 1) := by decide +kernel
theorem dX6_keep_53 : decode cX6_keep 53 = .ok (.aload_n 0, 1) := by decide +kernel
theorem dX6_keep_54 : decode cX6_keep 54 = .ok (.getfield 29, 3) := by decide +kernel
theorem dX6_keep_57 : decode cX6_keep 57 = .ok (.iconst 0, 1) := by decide +kernel
theorem dX6_keep_58 : decode cX6_keep 58 = .ok (.iaload, 1) := by decide +kernel
theorem dX6_keep_59 : decode cX6_keep 59 = .ok (.ireturn, 1) := by decide +kernel
set_option maxRecDepth 20000 in
theorem ggX6_back_X6_in : GoodIn wsX6_back wsX6_in := goodIn_r _ [6] (by decide +kernel) (by decide +kernel)
set_option maxRecDepth 20000 in
theorem gX6_back_X6_in : GoodIn wsX6_back (va_wsS RX6 54 yX6_in wsX6_in) := goodIn_app (goodIn_of _ (by decide +kernel)) ggX6_back_X6_in
theorem dX6_back_0 : decode cX6_back 0 = .ok (.iload_n 1, 1) := by decide +kernel
theorem dX6_back_1 : decode cX6_back 1 = .ok (.iconst 0, 1) := by decide +kernel
theorem dX6_back_2 : decode cX6_back 2 = .ok (.iconst 1, 1) := by decide +kernel
theorem dX6_back_3 : decode cX6_back 3 = .ok (.invokestatic 54, 3) := by decide +kernel
theorem dX6_back_6 : decode cX6_back 6 = .ok (.ifCond .ne 5, 3) := by decide +kernel
theorem dX6_back_9 : decode cX6_back 9 = .ok (.iconst (-1), 1) := by decide +kernel
theorem dX6_back_10 : decode cX6_back 10 = .ok (.ireturn, 1) := by decide +kernel
theorem dX6_back_11 : decode cX6_back 11 = .ok (.aload_n 0, 1) := by decide +kernel
theorem dX6_back_12 : decode cX6_back 12 = .ok (.getfield 32, 3) := by decide +kernel
theorem dX6_back_15 : decode cX6_back 15 = .ok (.iload_n 1, 1) := by decide +kernel
theorem dX6_back_16 : decode cX6_back 16 = .ok (.baload, 1) := by decide +kernel
theorem dX6_back_17 : decode cX6_back 17 = .ok (.ifCond .ne 6, 3) := by decide +kernel
theorem dX6_back_20 : decode cX6_back 20 = .ok (.bipush (-2), 2) := by decide +kernel
theorem dX6_back_22 : decode cX6_back 22 = .ok (.ireturn, 1) := by decide +kernel
theorem dX6_back_23 : decode cX6_back 23 = .ok (.iconst 0, 1) := by decide +kernel
theorem dX6_back_24 : decode cX6_back 24 = .ok (.istore_n 2, 1) := by decide +kernel
theorem dX6_back_25 : decode cX6_back 25 = .ok (.iload_n 2, 1) := by decide +kernel
theorem dX6_back_26 : decode cX6_back 26 = .ok (.sipush 573, 3) := by decide +kernel
theorem dX6_back_29 : decode cX6_back 29 = .ok (.if_icmp .ge 29, 3) := by decide +kernel
theorem dX6_back_32 : decode cX6_back 32 = .ok (.aload_n 0, 1) := by decide +kernel
theorem dX6_back_33 : decode cX6_back 33 = .ok (.getfield 29, 3) := by decide +kernel
theorem dX6_back_36 : decode cX6_back 36 = .ok (.iload_n 2, 1) := by decide +kernel
theorem dX6_back_37 : decode cX6_back 37 = .ok (.aload_n 0, 1) := by decide +kernel
theorem dX6_back_38 : decode cX6_back 38 = .ok (.getfield 29, 3) := by decide +kernel
theorem dX6_back_41 : decode cX6_back 41 = .ok (.sipush 573, 3) := by decide +kernel
theorem dX6_back_44 : decode cX6_back 44 = .ok (.iconst 1, 1) := by decide +kernel
theorem dX6_back_45 : decode cX6_back 45 = .ok (.iload_n 1, 1) := by decide +kernel
theorem dX6_back_46 : decode cX6_back 46 = .ok (.iadd, 1) := by decide +kernel
theorem dX6_back_47 : decode cX6_back 47 = .ok (.imul, 1) := by decide +kernel
theorem dX6_back_48 : decode cX6_back 48 = .ok (.iload_n 2, 1) := by decide +kernel
theorem dX6_back_49 : decode cX6_back 49 = .ok (.iadd, 1) := by decide +kernel
theorem dX6_back_50 : decode cX6_back 50 = .ok (.iaload, 1) := by decide +kernel
theorem dX6_back_51 : decode cX6_back 51 = .ok (.iastore, 1) := by decide +kernel
theorem dX6_back_52 : decode cX6_back 52 = .ok (.iinc 2 1, 3) := by decide +kernel
theorem dX6_back_55 : decode cX6_back 55 = .ok (.goto (-30), 3) := by decide +kernel
theorem dX6_back_58 : decode cX6_back 58 = .ok (.aload_n 0, 1) := by decide +kernel
theorem dX6_back_59 : decode cX6_back 59 = .ok (.getfield 29, 3) := by decide +kernel
theorem dX6_back_62 : decode cX6_back 62 = .ok (.iconst 0, 1) := by decide +kernel
theorem dX6_back_63 : decode cX6_back 63 = .ok (.iaload, 1) := by decide +kernel
theorem dX6_back_64 : decode cX6_back 64 = .ok (.ireturn, 1) := by decide +kernel
theorem dX6_count_0 : decode cX6_count 0 = .ok (.iload_n 1, 1) := by decide +kernel
theorem dX6_count_1 : decode cX6_count 1 = .ok (.tableswitch 67 0 4 #[35, 42, 49, 54, 62], 35) := by decide +kernel
theorem dX6_count_36 : decode cX6_count 36 = .ok (.aload_n 0, 1) := by decide +kernel
theorem dX6_count_37 : decode cX6_count 37 = .ok (.getfield 13, 3) := by decide +kernel
theorem dX6_count_40 : decode cX6_count 40 = .ok (.iconst 0, 1) := by decide +kernel
theorem dX6_count_41 : decode cX6_count 41 = .ok (.iaload, 1) := by decide +kernel
theorem dX6_count_42 : decode cX6_count 42 = .ok (.ireturn, 1) := by decide +kernel
theorem dX6_count_43 : decode cX6_count 43 = .ok (.aload_n 0, 1) := by decide +kernel
theorem dX6_count_44 : decode cX6_count 44 = .ok (.getfield 26, 3) := by decide +kernel
theorem dX6_count_47 : decode cX6_count 47 = .ok (.iconst 0, 1) := by decide +kernel
theorem dX6_count_48 : decode cX6_count 48 = .ok (.iaload, 1) := by decide +kernel
theorem dX6_count_49 : decode cX6_count 49 = .ok (.ireturn, 1) := by decide +kernel
theorem dX6_count_50 : decode cX6_count 50 = .ok (.aload_n 0, 1) := by decide +kernel
theorem dX6_count_51 : decode cX6_count 51 = .ok (.getfield 96, 3) := by decide +kernel
theorem dX6_count_54 : decode cX6_count 54 = .ok (.ireturn, 1) := by decide +kernel
theorem dX6_count_55 : decode cX6_count 55 = .ok (.aload_n 0, 1) := by decide +kernel
theorem dX6_count_56 : decode cX6_count 56 = .ok (.getfield 29, 3) := by decide +kernel
theorem dX6_count_59 : decode cX6_count 59 = .ok (.bipush 52, 2) := by decide +kernel
theorem dX6_count_61 : decode cX6_count 61 = .ok (.iaload, 1) := by decide +kernel
theorem dX6_count_62 : decode cX6_count 62 = .ok (.ireturn, 1) := by decide +kernel
theorem dX6_count_63 : decode cX6_count 63 = .ok (.aload_n 0, 1) := by decide +kernel
theorem dX6_count_64 : decode cX6_count 64 = .ok (.getfield 58, 3) := by decide +kernel
theorem dX6_count_67 : decode cX6_count 67 = .ok (.ireturn, 1) := by decide +kernel
theorem dX6_count_68 : decode cX6_count 68 = .ok (.iconst (-1), 1) := by decide +kernel
theorem dX6_count_69 : decode cX6_count 69 = .ok (.ireturn, 1) := by decide +kernel
theorem dX6_trace_0 : decode cX6_trace 0 = .ok (.aload_n 0, 1) := by decide +kernel
theorem dX6_trace_1 : decode cX6_trace 1 = .ok (.getfield 170, 3) := by decide +kernel
theorem dX6_trace_4 : decode cX6_trace 4 = .ok (.lreturn, 1) := by decide +kernel
theorem dJ6_bitCount_0f7a4_0 : decode cJ6_bitCount_0f7a4 0 = .ok (.iload_n 0, 1) := by decide +kernel
theorem dJ6_bitCount_0f7a4_1 : decode cJ6_bitCount_0f7a4 1 = .ok (.iload_n 0, 1) := by decide +kernel
theorem dJ6_bitCount_0f7a4_2 : decode cJ6_bitCount_0f7a4 2 = .ok (.iconst 1, 1) := by decide +kernel
theorem dJ6_bitCount_0f7a4_3 : decode cJ6_bitCount_0f7a4 3 = .ok (.iushr, 1) := by decide +kernel
theorem dJ6_bitCount_0f7a4_4 : decode cJ6_bitCount_0f7a4 4 = .ok (.ldc_w 265, 3) := by decide +kernel
theorem dJ6_bitCount_0f7a4_7 : decode cJ6_bitCount_0f7a4 7 = .ok (.iand, 1) := by decide +kernel
theorem dJ6_bitCount_0f7a4_8 : decode cJ6_bitCount_0f7a4 8 = .ok (.isub, 1) := by decide +kernel
theorem dJ6_bitCount_0f7a4_9 : decode cJ6_bitCount_0f7a4 9 = .ok (.istore_n 0, 1) := by decide +kernel
theorem dJ6_bitCount_0f7a4_10 : decode cJ6_bitCount_0f7a4 10 = .ok (.iload_n 0, 1) := by decide +kernel
theorem dJ6_bitCount_0f7a4_11 : decode cJ6_bitCount_0f7a4 11 = .ok (.ldc_w 266, 3) := by decide +kernel
theorem dJ6_bitCount_0f7a4_14 : decode cJ6_bitCount_0f7a4 14 = .ok (.iand, 1) := by decide +kernel
theorem dJ6_bitCount_0f7a4_15 : decode cJ6_bitCount_0f7a4 15 = .ok (.iload_n 0, 1) := by decide +kernel
theorem dJ6_bitCount_0f7a4_16 : decode cJ6_bitCount_0f7a4 16 = .ok (.iconst 2, 1) := by decide +kernel
theorem dJ6_bitCount_0f7a4_17 : decode cJ6_bitCount_0f7a4 17 = .ok (.iushr, 1) := by decide +kernel
theorem dJ6_bitCount_0f7a4_18 : decode cJ6_bitCount_0f7a4 18 = .ok (.ldc_w 266, 3) := by decide +kernel
theorem dJ6_bitCount_0f7a4_21 : decode cJ6_bitCount_0f7a4 21 = .ok (.iand, 1) := by decide +kernel
theorem dJ6_bitCount_0f7a4_22 : decode cJ6_bitCount_0f7a4 22 = .ok (.iadd, 1) := by decide +kernel
theorem dJ6_bitCount_0f7a4_23 : decode cJ6_bitCount_0f7a4 23 = .ok (.istore_n 0, 1) := by decide +kernel
theorem dJ6_bitCount_0f7a4_24 : decode cJ6_bitCount_0f7a4 24 = .ok (.iload_n 0, 1) := by decide +kernel
theorem dJ6_bitCount_0f7a4_25 : decode cJ6_bitCount_0f7a4 25 = .ok (.iload_n 0, 1) := by decide +kernel
theorem dJ6_bitCount_0f7a4_26 : decode cJ6_bitCount_0f7a4 26 = .ok (.iconst 4, 1) := by decide +kernel
theorem dJ6_bitCount_0f7a4_27 : decode cJ6_bitCount_0f7a4 27 = .ok (.iushr, 1) := by decide +kernel
theorem dJ6_bitCount_0f7a4_28 : decode cJ6_bitCount_0f7a4 28 = .ok (.iadd, 1) := by decide +kernel
theorem dJ6_bitCount_0f7a4_29 : decode cJ6_bitCount_0f7a4 29 = .ok (.ldc_w 267, 3) := by decide +kernel
theorem dJ6_bitCount_0f7a4_32 : decode cJ6_bitCount_0f7a4 32 = .ok (.iand, 1) := by decide +kernel
theorem dJ6_bitCount_0f7a4_33 : decode cJ6_bitCount_0f7a4 33 = .ok (.istore_n 0, 1) := by decide +kernel
theorem dJ6_bitCount_0f7a4_34 : decode cJ6_bitCount_0f7a4 34 = .ok (.iload_n 0, 1) := by decide +kernel
theorem dJ6_bitCount_0f7a4_35 : decode cJ6_bitCount_0f7a4 35 = .ok (.iload_n 0, 1) := by decide +kernel
theorem dJ6_bitCount_0f7a4_36 : decode cJ6_bitCount_0f7a4 36 = .ok (.bipush 8, 2) := by decide +kernel
theorem dJ6_bitCount_0f7a4_38 : decode cJ6_bitCount_0f7a4 38 = .ok (.iushr, 1) := by decide +kernel
theorem dJ6_bitCount_0f7a4_39 : decode cJ6_bitCount_0f7a4 39 = .ok (.iadd, 1) := by decide +kernel
theorem dJ6_bitCount_0f7a4_40 : decode cJ6_bitCount_0f7a4 40 = .ok (.istore_n 0, 1) := by decide +kernel
theorem dJ6_bitCount_0f7a4_41 : decode cJ6_bitCount_0f7a4 41 = .ok (.iload_n 0, 1) := by decide +kernel
theorem dJ6_bitCount_0f7a4_42 : decode cJ6_bitCount_0f7a4 42 = .ok (.iload_n 0, 1) := by decide +kernel
theorem dJ6_bitCount_0f7a4_43 : decode cJ6_bitCount_0f7a4 43 = .ok (.bipush 16, 2) := by decide +kernel
theorem dJ6_bitCount_0f7a4_45 : decode cJ6_bitCount_0f7a4 45 = .ok (.iushr, 1) := by decide +kernel
theorem dJ6_bitCount_0f7a4_46 : decode cJ6_bitCount_0f7a4 46 = .ok (.iadd, 1) := by decide +kernel
theorem dJ6_bitCount_0f7a4_47 : decode cJ6_bitCount_0f7a4 47 = .ok (.istore_n 0, 1) := by decide +kernel
theorem dJ6_bitCount_0f7a4_48 : decode cJ6_bitCount_0f7a4 48 = .ok (.iload_n 0, 1) := by decide +kernel
theorem dJ6_bitCount_0f7a4_49 : decode cJ6_bitCount_0f7a4 49 = .ok (.bipush 63, 2) := by decide +kernel
theorem dJ6_bitCount_0f7a4_51 : decode cJ6_bitCount_0f7a4 51 = .ok (.iand, 1) := by decide +kernel
theorem dJ6_bitCount_0f7a4_52 : decode cJ6_bitCount_0f7a4 52 = .ok (.ireturn, 1) := by decide +kernel
theorem dJ9_abs_0f7a4_0 : decode cJ9_abs_0f7a4 0 = .ok (.iload_n 0, 1) := by decide +kernel
theorem dJ9_abs_0f7a4_1 : decode cJ9_abs_0f7a4 1 = .ok (.ifCond .ge 8, 3) := by decide +kernel
theorem dJ9_abs_0f7a4_4 : decode cJ9_abs_0f7a4 4 = .ok (.iload_n 0, 1) := by decide +kernel
theorem dJ9_abs_0f7a4_5 : decode cJ9_abs_0f7a4 5 = .ok (.ineg, 1) := by decide +kernel
theorem dJ9_abs_0f7a4_6 : decode cJ9_abs_0f7a4 6 = .ok (.goto 4, 3) := by decide +kernel
theorem dJ9_abs_0f7a4_9 : decode cJ9_abs_0f7a4 9 = .ok (.iload_n 0, 1) := by decide +kernel
theorem dJ9_abs_0f7a4_10 : decode cJ9_abs_0f7a4 10 = .ok (.ireturn, 1) := by decide +kernel
theorem dJ9_min_7cf53_0 : decode cJ9_min_7cf53 0 = .ok (.iload_n 0, 1) := by decide +kernel
theorem dJ9_min_7cf53_1 : decode cJ9_min_7cf53 1 = .ok (.iload_n 1, 1) := by decide +kernel
theorem dJ9_min_7cf53_2 : decode cJ9_min_7cf53 2 = .ok (.if_icmp .gt 7, 3) := by decide +kernel
theorem dJ9_min_7cf53_5 : decode cJ9_min_7cf53 5 = .ok (.iload_n 0, 1) := by decide +kernel
theorem dJ9_min_7cf53_6 : decode cJ9_min_7cf53 6 = .ok (.goto 4, 3) := by decide +kernel
theorem dJ9_min_7cf53_9 : decode cJ9_min_7cf53 9 = .ok (.iload_n 1, 1) := by decide +kernel
theorem dJ9_min_7cf53_10 : decode cJ9_min_7cf53 10 = .ok (.ireturn, 1) := by decide +kernel
set_option maxRecDepth 20000 in
theorem ggL_law_X5_init : GoodIn wsL_law wsX5_init := goodIn_r _ [8, 9, 10, 11, 12, 13, 14, 15, 16, 17, 18, 19, 20, 21, 22, 23, 24, 25, 26, 27, 28, 29, 30, 31, 32, 33, 34, 35, 36, 37, 38, 39, 40, 41, 42, 43, 44, 45, 46, 47, 48, 49, 50, 51, 52, 53, 54, 55, 56, 57, 58, 59, 60, 61, 62, 63, 64, 65, 66, 67, 2, 68, 69, 70, 71, 72, 73, 74, 75, 76, 77, 78, 79, 80, 81, 82, 83, 84, 85, 86, 87, 741, 742, 743, 744, 745, 746, 747, 709, 710, 711, 712, 713, 714, 715, 716, 717, 718, 719, 748, 749, 750, 751, 752, 753, 754, 755, 756, 757, 758, 759, 760, 761, 762, 763, 764, 765] (by decide +kernel) (by decide +kernel)
set_option maxRecDepth 20000 in
theorem gL_law_X5_init : GoodIn wsL_law (wsX5_init) := ggL_law_X5_init
set_option maxRecDepth 20000 in
theorem ggL_law_X6_init : GoodIn wsL_law wsX6_init := goodIn_r _ [90, 91, 10, 11, 92, 93, 30, 94, 95, 96, 97, 98, 99, 100, 101, 102, 103, 104, 105, 106, 107, 108, 5, 109, 110, 111, 112, 113, 114, 115, 720, 721, 722, 723, 724, 725, 726, 727, 728, 729, 730, 731, 732, 733, 734, 735, 736, 737, 738, 739, 740] (by decide +kernel) (by decide +kernel)
set_option maxRecDepth 20000 in
theorem gL_law_X6_init : GoodIn wsL_law (wsX6_init) := ggL_law_X6_init
set_option maxRecDepth 20000 in
theorem ggL_law_X5_type : GoodIn wsL_law wsX5_type := goodIn_r _ [119, 15, 120, 121, 122, 123, 14, 124, 125, 36, 709, 710, 711, 712, 713, 714, 715, 716, 717, 718, 719, 741, 742, 743, 744, 745, 746, 747] (by decide +kernel) (by decide +kernel)
set_option maxRecDepth 20000 in
theorem gL_law_X5_type : GoodIn wsL_law (wsV RL 13 RX5 yX5_type wsX5_type) := goodIn_app (goodIn_of _ (by decide +kernel)) ggL_law_X5_type
set_option maxRecDepth 20000 in
theorem ggL_law_X6_type : GoodIn wsL_law wsX6_type := goodIn_r _ [129, 130, 93, 131, 132, 5, 133, 720, 721, 722, 723, 724, 725, 726, 727, 728, 729, 730, 731, 732, 733, 734, 735, 736, 737, 738, 739, 740] (by decide +kernel) (by decide +kernel)
set_option maxRecDepth 20000 in
theorem gL_law_X6_type : GoodIn wsL_law (wsV RL 17 RX6 yX6_type wsX6_type) := goodIn_app (goodIn_of _ (by decide +kernel)) ggL_law_X6_type
set_option maxRecDepth 20000 in
theorem ggL_law_X5_clear : GoodIn wsL_law wsX5_clear := goodIn_r _ [137, 15, 120, 709, 710, 711, 712, 713, 714, 715, 716, 717, 718, 719, 741, 742, 743, 744, 745, 746, 747] (by decide +kernel) (by decide +kernel)
set_option maxRecDepth 20000 in
theorem gL_law_X5_clear : GoodIn wsL_law (wsV RL 18 RX5 yX5_clear wsX5_clear) := goodIn_app (goodIn_of _ (by decide +kernel)) ggL_law_X5_clear
set_option maxRecDepth 20000 in
theorem ggL_law_X6_clear : GoodIn wsL_law wsX6_clear := goodIn_r _ [141, 130, 720, 721, 722, 723, 724, 725, 726, 727, 728, 729, 730, 731, 732, 733, 734, 735, 736, 737, 738, 739, 740] (by decide +kernel) (by decide +kernel)
set_option maxRecDepth 20000 in
theorem gL_law_X6_clear : GoodIn wsL_law (wsV RL 22 RX6 yX6_clear wsX6_clear) := goodIn_app (goodIn_of _ (by decide +kernel)) ggL_law_X6_clear
set_option maxRecDepth 20000 in
theorem ggL_law_X5_car : GoodIn wsL_law wsX5_car := goodIn_r _ [145, 15, 20, 19, 120, 146, 147, 148, 149, 14, 150, 151, 152, 153, 154, 155, 156, 157, 18, 158, 159, 160, 40, 161, 162, 163, 164, 165, 125, 36, 166, 167, 168, 169, 170, 171, 172, 173, 174, 175, 176, 177, 178, 179, 180, 181, 182, 183, 184, 185, 186, 187, 188, 189, 190, 191, 192, 193, 194, 195, 196, 197, 198, 199, 200, 201, 202, 203, 204, 205, 206, 207, 208, 209, 210, 211, 41, 212, 85, 86, 87, 42, 43, 65, 66, 67, 2, 68, 24, 69, 70, 71, 72, 73, 74, 75, 76, 28, 77, 78, 79, 80, 81, 82, 83, 56, 84, 57, 58, 709, 710, 711, 712, 713, 714, 715, 716, 717, 718, 719, 741, 742, 743, 744, 745, 746, 747, 748, 749, 750, 751, 752, 753, 754, 755, 763, 764, 765, 756, 757, 758, 759, 760, 761, 762] (by decide +kernel) (by decide +kernel)
set_option maxRecDepth 20000 in
theorem gL_law_X5_car : GoodIn wsL_law (wsV RL 23 RX5 yX5_car wsX5_car) := goodIn_app (goodIn_of _ (by decide +kernel)) ggL_law_X5_car
set_option maxRecDepth 20000 in
theorem ggL_law_X6_car : GoodIn wsL_law wsX6_car := goodIn_r _ [216, 217, 218, 219, 130, 106, 107, 108, 5, 109, 94, 98, 110, 220, 221, 222, 223, 224, 225, 226, 227, 228, 229, 93, 131, 132, 133, 230, 231, 232, 233, 234, 235, 236, 237, 238, 239, 240, 241, 95, 96, 97, 242, 243, 244, 245, 111, 112, 113, 114, 99, 115, 101, 720, 721, 722, 723, 724, 725, 726, 727, 728, 729, 730, 731, 732, 733, 734, 735, 736, 737, 738, 739, 740] (by decide +kernel) (by decide +kernel)
set_option maxRecDepth 20000 in
theorem gL_law_X6_car : GoodIn wsL_law (wsV RL 26 RX6 yX6_car wsX6_car) := goodIn_app (goodIn_of _ (by decide +kernel)) ggL_law_X6_car
set_option maxRecDepth 20000 in
theorem ggL_law_X5_rider : GoodIn wsL_law wsX5_rider := goodIn_r _ [249, 24, 69, 250, 19, 251, 252, 253, 254, 255, 256, 257, 2, 258, 259, 260, 261, 262, 28, 263, 80, 264, 265, 266, 267, 268, 269, 270, 271, 272, 273, 180, 274, 275, 276, 277, 278, 279, 280, 281, 282, 283, 284, 285, 286, 287, 288, 289, 290, 58, 291, 292, 293, 294, 709, 710, 711, 712, 713, 714, 715, 716, 717, 718, 719, 754, 755, 756, 757, 758, 759, 760, 761, 762, 748, 749, 750, 751, 752, 753] (by decide +kernel) (by decide +kernel)
set_option maxRecDepth 20000 in
theorem gL_law_X5_rider : GoodIn wsL_law (wsV RL 27 RX5 yX5_rider wsX5_rider) := goodIn_app (goodIn_of _ (by decide +kernel)) ggL_law_X5_rider
set_option maxRecDepth 20000 in
theorem ggL_law_X6_rider : GoodIn wsL_law wsX6_rider := goodIn_r _ [298, 99, 96, 97, 299, 300, 301, 5, 302, 94, 131, 132, 133, 303, 304, 305, 306, 307, 308, 309, 310, 311, 312, 313, 314, 315, 316, 317, 318, 319, 320, 321, 322, 323, 324, 325, 720, 721, 722, 723, 724, 725, 726, 727, 728, 729, 730, 731, 732, 733, 734, 735, 736, 737, 738, 739, 740] (by decide +kernel) (by decide +kernel)
set_option maxRecDepth 20000 in
theorem gL_law_X6_rider : GoodIn wsL_law (wsV RL 31 RX6 yX6_rider wsX6_rider) := goodIn_app (goodIn_of _ (by decide +kernel)) ggL_law_X6_rider
set_option maxRecDepth 20000 in
theorem ggL_law_X5_latest : GoodIn wsL_law wsX5_latest := goodIn_r _ [329, 24, 69, 330, 331, 332, 2, 333, 255, 256, 257, 258, 19, 259, 287, 288, 289, 28, 290, 58, 709, 710, 711, 712, 713, 714, 715, 716, 717, 718, 719, 754, 755, 748, 749, 750, 751, 752, 753, 756, 757, 758, 759, 760, 761, 762] (by decide +kernel) (by decide +kernel)
set_option maxRecDepth 20000 in
theorem gL_law_X5_latest : GoodIn wsL_law (wsV RL 32 RX5 yX5_latest wsX5_latest) := goodIn_app (goodIn_of _ (by decide +kernel)) ggL_law_X5_latest
set_option maxRecDepth 20000 in
theorem ggL_law_X6_latest : GoodIn wsL_law wsX6_latest := goodIn_r _ [337, 99, 299, 300, 301, 5, 302, 94, 131, 132, 133, 720, 721, 722, 723, 724, 725, 726, 727, 728, 729, 730, 731, 732, 733, 734, 735, 736, 737, 738, 739, 740] (by decide +kernel) (by decide +kernel)
set_option maxRecDepth 20000 in
theorem gL_law_X6_latest : GoodIn wsL_law (wsV RL 35 RX6 yX6_latest wsX6_latest) := goodIn_app (goodIn_of _ (by decide +kernel)) ggL_law_X6_latest
set_option maxRecDepth 20000 in
theorem ggL_law_X5_rides : GoodIn wsL_law wsX5_rides := goodIn_r _ [341, 24, 69, 342, 70, 343, 344, 345, 51, 346, 64, 347, 348, 349, 350, 351, 352, 353, 354, 355, 28, 356, 78, 80, 81, 82, 56, 84, 85, 86, 87, 57, 58, 357, 358, 359, 2, 360, 19, 259, 252, 264, 265, 266, 267, 250, 260, 261, 262, 263, 268, 269, 270, 271, 272, 273, 180, 274, 275, 276, 277, 278, 251, 279, 280, 281, 282, 361, 362, 363, 364, 709, 710, 711, 712, 713, 714, 715, 716, 717, 718, 719, 754, 755, 756, 757, 758, 759, 760, 761, 762, 763, 764, 765, 748, 749, 750, 751, 752, 753] (by decide +kernel) (by decide +kernel)
set_option maxRecDepth 20000 in
theorem gL_law_X5_rides : GoodIn wsL_law (wsV RL 36 RX5 yX5_rides wsX5_rides) := goodIn_app (goodIn_of _ (by decide +kernel)) ggL_law_X5_rides
set_option maxRecDepth 20000 in
theorem ggL_law_X6_rides : GoodIn wsL_law wsX6_rides := goodIn_r _ [368, 99, 369, 370, 371, 5, 372, 373, 374, 375, 376, 94, 97, 303, 304, 305, 306, 307, 308, 309, 310, 311, 312, 313, 314, 96, 315, 316, 317, 377, 378, 379, 720, 721, 722, 723, 724, 725, 726, 727, 728, 729, 730, 731, 732, 733, 734, 735, 736, 737, 738, 739, 740] (by decide +kernel) (by decide +kernel)
set_option maxRecDepth 20000 in
theorem gL_law_X6_rides : GoodIn wsL_law (wsV RL 39 RX6 yX6_rides wsX6_rides) := goodIn_app (goodIn_of _ (by decide +kernel)) ggL_law_X6_rides
set_option maxRecDepth 20000 in
theorem ggL_law_X5_thinks : GoodIn wsL_law wsX5_thinks := goodIn_r _ [383, 24, 69, 70, 384, 330, 331, 332, 2, 333, 255, 256, 257, 258, 19, 259, 260, 261, 262, 28, 263, 80, 343, 344, 345, 51, 346, 64, 347, 348, 349, 350, 351, 352, 353, 354, 355, 356, 78, 81, 82, 56, 84, 85, 86, 87, 57, 58, 361, 362, 363, 364, 709, 710, 711, 712, 713, 714, 715, 716, 717, 718, 719, 754, 755, 756, 757, 758, 759, 760, 761, 762, 748, 749, 750, 751, 752, 753, 763, 764, 765] (by decide +kernel) (by decide +kernel)
set_option maxRecDepth 20000 in
theorem gL_law_X5_thinks : GoodIn wsL_law (wsV RL 40 RX5 yX5_thinks wsX5_thinks) := goodIn_app (goodIn_of _ (by decide +kernel)) ggL_law_X5_thinks
set_option maxRecDepth 20000 in
theorem ggL_law_X6_thinks : GoodIn wsL_law wsX6_thinks := goodIn_r _ [388, 99, 299, 300, 301, 5, 302, 94, 131, 132, 133, 303, 304, 305, 306, 369, 370, 371, 372, 377, 378, 379, 720, 721, 722, 723, 724, 725, 726, 727, 728, 729, 730, 731, 732, 733, 734, 735, 736, 737, 738, 739, 740] (by decide +kernel) (by decide +kernel)
set_option maxRecDepth 20000 in
theorem gL_law_X6_thinks : GoodIn wsL_law (wsV RL 43 RX6 yX6_thinks wsX6_thinks) := goodIn_app (goodIn_of _ (by decide +kernel)) ggL_law_X6_thinks
set_option maxRecDepth 20000 in
theorem ggL_law_X5_rings : GoodIn wsL_law wsX5_rings := goodIn_r _ [392, 24, 69, 70, 254, 255, 256, 257, 2, 258, 19, 259, 260, 261, 262, 28, 263, 80, 343, 344, 345, 51, 346, 64, 347, 348, 349, 350, 351, 352, 353, 354, 355, 356, 78, 81, 82, 56, 84, 85, 86, 87, 57, 58, 283, 284, 285, 286, 287, 288, 289, 290, 393, 394, 395, 396, 709, 710, 711, 712, 713, 714, 715, 716, 717, 718, 719, 754, 755, 756, 757, 758, 759, 760, 761, 762, 748, 749, 750, 751, 752, 753, 763, 764, 765] (by decide +kernel) (by decide +kernel)
set_option maxRecDepth 20000 in
theorem gL_law_X5_rings : GoodIn wsL_law (wsV RL 44 RX5 yX5_rings wsX5_rings) := goodIn_app (goodIn_of _ (by decide +kernel)) ggL_law_X5_rings
set_option maxRecDepth 20000 in
theorem ggL_law_X6_rings : GoodIn wsL_law wsX6_rings := goodIn_r _ [400, 99, 299, 300, 301, 5, 302, 94, 131, 132, 133, 303, 304, 305, 306, 318, 319, 320, 321, 401, 402, 403, 404, 369, 370, 371, 372, 720, 721, 722, 723, 724, 725, 726, 727, 728, 729, 730, 731, 732, 733, 734, 735, 736, 737, 738, 739, 740] (by decide +kernel) (by decide +kernel)
set_option maxRecDepth 20000 in
theorem gL_law_X6_rings : GoodIn wsL_law (wsV RL 47 RX6 yX6_rings wsX6_rings) := goodIn_app (goodIn_of _ (by decide +kernel)) ggL_law_X6_rings
set_option maxRecDepth 20000 in
theorem ggL_law_X5_twice : GoodIn wsL_law wsX5_twice := goodIn_r _ [408, 24, 69, 70, 255, 256, 257, 2, 258, 19, 259, 260, 261, 262, 28, 263, 80, 343, 344, 345, 51, 346, 64, 347, 348, 349, 350, 351, 352, 353, 354, 355, 356, 78, 81, 82, 56, 84, 85, 86, 87, 57, 58, 291, 292, 293, 294, 287, 288, 289, 290, 393, 394, 395, 396, 709, 710, 711, 712, 713, 714, 715, 716, 717, 718, 719, 754, 755, 748, 749, 750, 751, 752, 753, 756, 757, 758, 759, 760, 761, 762, 763, 764, 765] (by decide +kernel) (by decide +kernel)
set_option maxRecDepth 20000 in
theorem gL_law_X5_twice : GoodIn wsL_law (wsV RL 48 RX5 yX5_twice wsX5_twice) := goodIn_app (goodIn_of _ (by decide +kernel)) ggL_law_X5_twice
set_option maxRecDepth 20000 in
theorem ggL_law_X6_twice : GoodIn wsL_law wsX6_twice := goodIn_r _ [412, 99, 299, 300, 301, 5, 302, 94, 131, 132, 133, 303, 304, 305, 306, 322, 323, 324, 325, 401, 402, 403, 404, 369, 370, 371, 372, 720, 721, 722, 723, 724, 725, 726, 727, 728, 729, 730, 731, 732, 733, 734, 735, 736, 737, 738, 739, 740] (by decide +kernel) (by decide +kernel)
set_option maxRecDepth 20000 in
theorem gL_law_X6_twice : GoodIn wsL_law (wsV RL 51 RX6 yX6_twice wsX6_twice) := goodIn_app (goodIn_of _ (by decide +kernel)) ggL_law_X6_twice
set_option maxRecDepth 20000 in
theorem ggL_law_X5_seats : GoodIn wsL_law wsX5_seats := goodIn_r _ [416, 24, 69, 250, 70, 255, 256, 257, 2, 258, 19, 259, 260, 261, 262, 28, 263, 80, 343, 344, 345, 51, 346, 64, 347, 348, 349, 350, 351, 352, 353, 354, 355, 356, 78, 81, 82, 56, 84, 85, 86, 87, 57, 58, 709, 710, 711, 712, 713, 714, 715, 716, 717, 718, 719, 754, 755, 756, 757, 758, 759, 760, 761, 762, 748, 749, 750, 751, 752, 753, 763, 764, 765] (by decide +kernel) (by decide +kernel)
set_option maxRecDepth 20000 in
theorem gL_law_X5_seats : GoodIn wsL_law (wsV RL 52 RX5 yX5_seats wsX5_seats) := goodIn_app (goodIn_of _ (by decide +kernel)) ggL_law_X5_seats
set_option maxRecDepth 20000 in
theorem ggL_law_X6_seats : GoodIn wsL_law wsX6_seats := goodIn_r _ [420, 99, 299, 300, 301, 5, 302, 94, 131, 132, 133, 303, 304, 305, 306, 369, 370, 371, 372, 720, 721, 722, 723, 724, 725, 726, 727, 728, 729, 730, 731, 732, 733, 734, 735, 736, 737, 738, 739, 740] (by decide +kernel) (by decide +kernel)
set_option maxRecDepth 20000 in
theorem gL_law_X6_seats : GoodIn wsL_law (wsV RL 55 RX6 yX6_seats wsX6_seats) := goodIn_app (goodIn_of _ (by decide +kernel)) ggL_law_X6_seats
set_option maxRecDepth 20000 in
theorem ggL_law_X5_boards : GoodIn wsL_law wsX5_boards := goodIn_r _ [424, 24, 69, 70, 254, 253, 255, 256, 257, 2, 258, 19, 259, 260, 261, 262, 28, 263, 80, 343, 344, 345, 51, 346, 64, 347, 348, 349, 350, 351, 352, 353, 354, 355, 356, 78, 81, 82, 56, 84, 85, 86, 87, 57, 58, 425, 426, 427, 428, 429, 430, 431, 709, 710, 711, 712, 713, 714, 715, 716, 717, 718, 719, 754, 755, 756, 757, 758, 759, 760, 761, 762, 748, 749, 750, 751, 752, 753, 763, 764, 765] (by decide +kernel) (by decide +kernel)
set_option maxRecDepth 20000 in
theorem gL_law_X5_boards : GoodIn wsL_law (wsV RL 56 RX5 yX5_boards wsX5_boards) := goodIn_app (goodIn_of _ (by decide +kernel)) ggL_law_X5_boards
set_option maxRecDepth 20000 in
theorem ggL_law_X6_boards : GoodIn wsL_law wsX6_boards := goodIn_r _ [435, 99, 299, 300, 301, 5, 302, 94, 131, 132, 133, 303, 304, 305, 306, 369, 370, 371, 372, 436, 437, 438, 720, 721, 722, 723, 724, 725, 726, 727, 728, 729, 730, 731, 732, 733, 734, 735, 736, 737, 738, 739, 740] (by decide +kernel) (by decide +kernel)
set_option maxRecDepth 20000 in
theorem gL_law_X6_boards : GoodIn wsL_law (wsV RL 59 RX6 yX6_boards wsX6_boards) := goodIn_app (goodIn_of _ (by decide +kernel)) ggL_law_X6_boards
set_option maxRecDepth 20000 in
theorem ggL_law_X5_undo : GoodIn wsL_law wsX5_undo := goodIn_r _ [442, 24, 70, 71, 69, 443, 444, 445, 51, 446, 347, 64, 349, 350, 351, 352, 348, 353, 354, 355, 28, 356, 78, 80, 81, 82, 56, 84, 85, 86, 87, 57, 58, 709, 710, 711, 712, 713, 714, 715, 716, 717, 718, 719, 754, 755, 763, 764, 765, 756, 757, 758, 759, 760, 761, 762] (by decide +kernel) (by decide +kernel)
set_option maxRecDepth 20000 in
theorem gL_law_X5_undo : GoodIn wsL_law (wsV RL 60 RX5 yX5_undo wsX5_undo) := goodIn_app (goodIn_of _ (by decide +kernel)) ggL_law_X5_undo
set_option maxRecDepth 20000 in
theorem ggL_law_X6_undo : GoodIn wsL_law wsX6_undo := goodIn_r _ [450, 99, 720, 721, 722, 723, 724, 725, 726, 727, 728, 729, 730, 731, 732, 733, 734, 735, 736, 737, 738, 739, 740] (by decide +kernel) (by decide +kernel)
set_option maxRecDepth 20000 in
theorem gL_law_X6_undo : GoodIn wsL_law (wsV RL 63 RX6 yX6_undo wsX6_undo) := goodIn_app (goodIn_of _ (by decide +kernel)) ggL_law_X6_undo
set_option maxRecDepth 20000 in
theorem ggL_law_X5_now : GoodIn wsL_law wsX5_now := goodIn_r _ [454, 24, 69, 342, 254, 384, 455, 19, 456, 709, 710, 711, 712, 713, 714, 715, 716, 717, 718, 719, 754, 755, 756, 757, 758, 759, 760, 761, 762, 748, 749, 750, 751, 752, 753] (by decide +kernel) (by decide +kernel)
set_option maxRecDepth 20000 in
theorem gL_law_X5_now : GoodIn wsL_law (wsV RL 64 RX5 yX5_now wsX5_now) := goodIn_app (goodIn_of _ (by decide +kernel)) ggL_law_X5_now
set_option maxRecDepth 20000 in
theorem ggL_law_X6_now : GoodIn wsL_law wsX6_now := goodIn_r _ [460, 99, 98, 720, 721, 722, 723, 724, 725, 726, 727, 728, 729, 730, 731, 732, 733, 734, 735, 736, 737, 738, 739, 740] (by decide +kernel) (by decide +kernel)
set_option maxRecDepth 20000 in
theorem gL_law_X6_now : GoodIn wsL_law (wsV RL 67 RX6 yX6_now wsX6_now) := goodIn_app (goodIn_of _ (by decide +kernel)) ggL_law_X6_now
set_option maxRecDepth 20000 in
theorem ggL_law_X5_row : GoodIn wsL_law wsX5_row := goodIn_r _ [464, 24, 69, 254, 465, 466, 467, 28, 468, 80, 469, 470, 471, 2, 472, 19, 259, 473, 474, 475, 476, 283, 284, 285, 286, 287, 288, 289, 290, 58, 477, 478, 479, 480, 481, 482, 483, 484, 709, 710, 711, 712, 713, 714, 715, 716, 717, 718, 719, 754, 755, 756, 757, 758, 759, 760, 761, 762, 748, 749, 750, 751, 752, 753] (by decide +kernel) (by decide +kernel)
set_option maxRecDepth 20000 in
theorem gL_law_X5_row : GoodIn wsL_law (wsV RL 68 RX5 yX5_row wsX5_row) := goodIn_app (goodIn_of _ (by decide +kernel)) ggL_law_X5_row
set_option maxRecDepth 20000 in
theorem ggL_law_X6_row : GoodIn wsL_law wsX6_row := goodIn_r _ [488, 99, 103, 489, 490, 491, 5, 492, 94, 131, 132, 133, 493, 494, 495, 496, 436, 437, 438, 497, 498, 499, 500, 318, 319, 320, 321, 720, 721, 722, 723, 724, 725, 726, 727, 728, 729, 730, 731, 732, 733, 734, 735, 736, 737, 738, 739, 740] (by decide +kernel) (by decide +kernel)
set_option maxRecDepth 20000 in
theorem gL_law_X6_row : GoodIn wsL_law (wsV RL 71 RX6 yX6_row wsX6_row) := goodIn_app (goodIn_of _ (by decide +kernel)) ggL_law_X6_row
set_option maxRecDepth 20000 in
theorem ggL_law_X5_soon : GoodIn wsL_law wsX5_soon := goodIn_r _ [504, 24, 69, 254, 29, 465, 466, 467, 28, 468, 80, 469, 470, 471, 2, 472, 19, 259, 473, 474, 475, 476, 283, 284, 285, 286, 287, 288, 289, 290, 58, 505, 354, 355, 356, 78, 81, 82, 56, 84, 85, 86, 87, 57, 357, 358, 359, 360, 342, 252, 264, 265, 266, 267, 250, 260, 261, 262, 263, 268, 269, 270, 271, 272, 273, 180, 274, 275, 276, 277, 278, 251, 279, 280, 281, 282, 361, 362, 363, 364, 709, 710, 711, 712, 713, 714, 715, 716, 717, 718, 719, 754, 755, 756, 757, 758, 759, 760, 761, 762, 748, 749, 750, 751, 752, 753] (by decide +kernel) (by decide +kernel)
set_option maxRecDepth 20000 in
theorem gL_law_X5_soon : GoodIn wsL_law (wsV RL 72 RX5 yX5_soon wsX5_soon) := goodIn_app (goodIn_of _ (by decide +kernel)) ggL_law_X5_soon
set_option maxRecDepth 20000 in
theorem ggL_law_X6_soon : GoodIn wsL_law wsX6_soon := goodIn_r _ [509, 102, 489, 490, 491, 5, 492, 94, 99, 131, 132, 133, 510, 511, 512, 513, 493, 494, 495, 496, 436, 437, 438, 497, 498, 499, 500, 103, 318, 319, 320, 321, 373, 374, 375, 376, 97, 303, 304, 305, 306, 307, 308, 309, 310, 311, 312, 313, 314, 96, 315, 316, 317, 377, 378, 379, 720, 721, 722, 723, 724, 725, 726, 727, 728, 729, 730, 731, 732, 733, 734, 735, 736, 737, 738, 739, 740] (by decide +kernel) (by decide +kernel)
set_option maxRecDepth 20000 in
theorem gL_law_X6_soon : GoodIn wsL_law (wsV RL 75 RX6 yX6_soon wsX6_soon) := goodIn_app (goodIn_of _ (by decide +kernel)) ggL_law_X6_soon
set_option maxRecDepth 20000 in
theorem ggL_law_X5_odds : GoodIn wsL_law wsX5_odds := goodIn_r _ [517, 518, 519, 520, 2, 521, 24, 69, 330, 331, 332, 333, 255, 256, 257, 258, 19, 259, 260, 261, 262, 28, 263, 80, 522, 523, 524, 525, 287, 288, 289, 290, 58, 526, 527, 528, 529, 530, 531, 532, 533, 534, 535, 536, 537, 538, 539, 709, 710, 711, 712, 713, 714, 715, 716, 717, 718, 719, 754, 755, 748, 749, 750, 751, 752, 753, 756, 757, 758, 759, 760, 761, 762] (by decide +kernel) (by decide +kernel)
set_option maxRecDepth 20000 in
theorem gL_law_X5_odds : GoodIn wsL_law (wsV RL 76 RX5 yX5_odds wsX5_odds) := goodIn_app (goodIn_of _ (by decide +kernel)) ggL_law_X5_odds
set_option maxRecDepth 20000 in
theorem ggL_law_X6_odds : GoodIn wsL_law wsX6_odds := goodIn_r _ [543, 99, 94, 544, 545, 546, 5, 547, 299, 300, 301, 302, 131, 132, 133, 303, 304, 305, 306, 720, 721, 722, 723, 724, 725, 726, 727, 728, 729, 730, 731, 732, 733, 734, 735, 736, 737, 738, 739, 740] (by decide +kernel) (by decide +kernel)
set_option maxRecDepth 20000 in
theorem gL_law_X6_odds : GoodIn wsL_law (wsV RL 80 RX6 yX6_odds wsX6_odds) := goodIn_app (goodIn_of _ (by decide +kernel)) ggL_law_X6_odds
set_option maxRecDepth 20000 in
theorem ggL_law_X5_circle : GoodIn wsL_law wsX5_circle := goodIn_r _ [551, 24, 69, 255, 256, 257, 2, 258, 19, 259, 260, 261, 262, 28, 263, 80, 552, 553, 554, 555, 252, 264, 265, 266, 267, 250, 268, 269, 270, 271, 272, 273, 180, 274, 275, 276, 277, 278, 251, 279, 280, 281, 282, 425, 426, 427, 428, 429, 430, 431, 556, 557, 558, 709, 710, 711, 712, 713, 714, 715, 716, 717, 718, 719, 754, 755, 748, 749, 750, 751, 752, 753, 756, 757, 758, 759, 760, 761, 762] (by decide +kernel) (by decide +kernel)
set_option maxRecDepth 20000 in
theorem gL_law_X5_circle : GoodIn wsL_law (wsV RL 81 RX5 yX5_circle wsX5_circle) := goodIn_app (goodIn_of _ (by decide +kernel)) ggL_law_X5_circle
set_option maxRecDepth 20000 in
theorem ggL_law_X6_circle : GoodIn wsL_law wsX6_circle := goodIn_r _ [562, 99, 97, 544, 545, 546, 5, 547, 299, 300, 301, 302, 94, 131, 132, 133, 303, 304, 305, 306, 307, 308, 309, 310, 311, 312, 313, 314, 96, 315, 316, 317, 720, 721, 722, 723, 724, 725, 726, 727, 728, 729, 730, 731, 732, 733, 734, 735, 736, 737, 738, 739, 740] (by decide +kernel) (by decide +kernel)
set_option maxRecDepth 20000 in
theorem gL_law_X6_circle : GoodIn wsL_law (wsV RL 84 RX6 yX6_circle wsX6_circle) := goodIn_app (goodIn_of _ (by decide +kernel)) ggL_law_X6_circle
set_option maxRecDepth 20000 in
theorem ggL_law_X5_chair : GoodIn wsL_law wsX5_chair := goodIn_r _ [566, 24, 69, 518, 519, 520, 2, 521, 330, 331, 332, 333, 255, 256, 257, 258, 19, 259, 260, 261, 262, 28, 263, 80, 268, 269, 270, 271, 250, 272, 273, 180, 274, 709, 710, 711, 712, 713, 714, 715, 716, 717, 718, 719, 754, 755, 748, 749, 750, 751, 752, 753, 756, 757, 758, 759, 760, 761, 762] (by decide +kernel) (by decide +kernel)
set_option maxRecDepth 20000 in
theorem gL_law_X5_chair : GoodIn wsL_law (wsV RL 85 RX5 yX5_chair wsX5_chair) := goodIn_app (goodIn_of _ (by decide +kernel)) ggL_law_X5_chair
set_option maxRecDepth 20000 in
theorem ggL_law_X6_chair : GoodIn wsL_law wsX6_chair := goodIn_r _ [570, 102, 544, 545, 546, 5, 547, 99, 299, 300, 301, 302, 94, 131, 132, 133, 303, 304, 305, 306, 510, 511, 512, 513, 307, 308, 309, 310, 311, 312, 313, 314, 96, 315, 316, 317, 720, 721, 722, 723, 724, 725, 726, 727, 728, 729, 730, 731, 732, 733, 734, 735, 736, 737, 738, 739, 740] (by decide +kernel) (by decide +kernel)
set_option maxRecDepth 20000 in
theorem gL_law_X6_chair : GoodIn wsL_law (wsV RL 88 RX6 yX6_chair wsX6_chair) := goodIn_app (goodIn_of _ (by decide +kernel)) ggL_law_X6_chair
set_option maxRecDepth 20000 in
theorem ggL_law_X5_saw : GoodIn wsL_law wsX5_saw := goodIn_r _ [574, 72, 31, 32, 518, 519, 520, 2, 521, 24, 69, 330, 331, 332, 333, 255, 256, 257, 258, 19, 259, 260, 261, 262, 28, 263, 80, 709, 710, 711, 712, 713, 714, 715, 716, 717, 718, 719, 754, 755, 748, 749, 750, 751, 752, 753, 756, 757, 758, 759, 760, 761, 762] (by decide +kernel) (by decide +kernel)
set_option maxRecDepth 20000 in
theorem gL_law_X5_saw : GoodIn wsL_law (wsV RL 89 RX5 yX5_saw wsX5_saw) := goodIn_app (goodIn_of _ (by decide +kernel)) ggL_law_X5_saw
set_option maxRecDepth 20000 in
theorem ggL_law_X6_saw : GoodIn wsL_law wsX6_saw := goodIn_r _ [578, 115, 104, 105, 544, 545, 546, 5, 547, 99, 299, 300, 301, 302, 94, 131, 132, 133, 303, 304, 305, 306, 720, 721, 722, 723, 724, 725, 726, 727, 728, 729, 730, 731, 732, 733, 734, 735, 736, 737, 738, 739, 740] (by decide +kernel) (by decide +kernel)
set_option maxRecDepth 20000 in
theorem gL_law_X6_saw : GoodIn wsL_law (wsV RL 92 RX6 yX6_saw wsX6_saw) := goodIn_app (goodIn_of _ (by decide +kernel)) ggL_law_X6_saw
set_option maxRecDepth 20000 in
theorem ggL_law_X5_forget : GoodIn wsL_law wsX5_forget := goodIn_r _ [582, 72, 709, 710, 711, 712, 713, 714, 715, 716, 717, 718, 719] (by decide +kernel) (by decide +kernel)
set_option maxRecDepth 20000 in
theorem gL_law_X5_forget : GoodIn wsL_law (wsV RL 93 RX5 yX5_forget wsX5_forget) := goodIn_app (goodIn_of _ (by decide +kernel)) ggL_law_X5_forget
set_option maxRecDepth 20000 in
theorem ggL_law_X6_forget : GoodIn wsL_law wsX6_forget := goodIn_r _ [586, 115, 720, 721, 722, 723, 724, 725, 726, 727, 728, 729, 730, 731, 732, 733, 734, 735, 736, 737, 738, 739, 740] (by decide +kernel) (by decide +kernel)
set_option maxRecDepth 20000 in
theorem gL_law_X6_forget : GoodIn wsL_law (wsV RL 96 RX6 yX6_forget wsX6_forget) := goodIn_app (goodIn_of _ (by decide +kernel)) ggL_law_X6_forget
set_option maxRecDepth 20000 in
theorem ggL_law_X5_laws : GoodIn wsL_law wsX5_laws := goodIn_r _ [590, 255, 256, 257, 2, 258, 19, 259, 591, 592, 593, 594, 595, 596, 597, 598, 24, 69, 72, 31, 32, 264, 265, 266, 267, 250, 260, 261, 262, 28, 263, 80, 268, 269, 270, 271, 272, 273, 180, 274, 275, 276, 277, 278, 251, 279, 280, 281, 282, 709, 710, 711, 712, 713, 714, 715, 716, 717, 718, 719, 748, 749, 750, 751, 752, 753, 754, 755, 756, 757, 758, 759, 760, 761, 762] (by decide +kernel) (by decide +kernel)
set_option maxRecDepth 20000 in
theorem gL_law_X5_laws : GoodIn wsL_law (wsV RL 97 RX5 yX5_laws wsX5_laws) := goodIn_app (goodIn_of _ (by decide +kernel)) ggL_law_X5_laws
set_option maxRecDepth 20000 in
theorem ggL_law_X6_laws : GoodIn wsL_law wsX6_laws := goodIn_r _ [602, 299, 300, 301, 5, 302, 94, 131, 132, 133, 603, 604, 605, 606, 99, 115, 104, 105, 303, 304, 305, 306, 307, 308, 309, 310, 311, 312, 313, 314, 96, 315, 316, 317, 720, 721, 722, 723, 724, 725, 726, 727, 728, 729, 730, 731, 732, 733, 734, 735, 736, 737, 738, 739, 740] (by decide +kernel) (by decide +kernel)
set_option maxRecDepth 20000 in
theorem gL_law_X6_laws : GoodIn wsL_law (wsV RL 100 RX6 yX6_laws wsX6_laws) := goodIn_app (goodIn_of _ (by decide +kernel)) ggL_law_X6_laws
set_option maxRecDepth 20000 in
theorem ggL_law_X5_likely : GoodIn wsL_law wsX5_likely := goodIn_r _ [610, 19, 259, 24, 69, 260, 261, 262, 28, 263, 80, 591, 592, 593, 2, 594, 595, 596, 597, 598, 72, 31, 32, 264, 265, 266, 267, 250, 268, 269, 270, 271, 272, 273, 180, 274, 275, 276, 277, 278, 251, 279, 280, 281, 282, 425, 426, 427, 428, 429, 430, 431, 709, 710, 711, 712, 713, 714, 715, 716, 717, 718, 719, 748, 749, 750, 751, 752, 753, 754, 755, 756, 757, 758, 759, 760, 761, 762] (by decide +kernel) (by decide +kernel)
set_option maxRecDepth 20000 in
theorem gL_law_X5_likely : GoodIn wsL_law (wsV RL 101 RX5 yX5_likely wsX5_likely) := goodIn_app (goodIn_of _ (by decide +kernel)) ggL_law_X5_likely
set_option maxRecDepth 20000 in
theorem ggL_law_X6_likely : GoodIn wsL_law wsX6_likely := goodIn_r _ [614, 94, 99, 303, 304, 305, 5, 306, 603, 604, 605, 606, 115, 104, 105, 307, 308, 309, 310, 311, 312, 313, 314, 96, 315, 316, 317, 436, 437, 438, 720, 721, 722, 723, 724, 725, 726, 727, 728, 729, 730, 731, 732, 733, 734, 735, 736, 737, 738, 739, 740] (by decide +kernel) (by decide +kernel)
set_option maxRecDepth 20000 in
theorem gL_law_X6_likely : GoodIn wsL_law (wsV RL 104 RX6 yX6_likely wsX6_likely) := goodIn_app (goodIn_of _ (by decide +kernel)) ggL_law_X6_likely
set_option maxRecDepth 20000 in
theorem ggL_law_X5_mark : GoodIn wsL_law wsX5_mark := goodIn_r _ [618, 619, 255, 256, 257, 2, 258, 19, 259, 620, 621, 622, 623, 624, 24, 69, 250, 625, 626, 627, 628, 629, 251, 630, 631, 632, 633, 634, 635, 636, 637, 638, 287, 288, 289, 28, 290, 58, 639, 640, 641, 642, 643, 644, 645, 646, 647, 648, 649, 650, 651, 652, 653, 342, 709, 710, 711, 712, 713, 714, 715, 716, 717, 718, 719, 748, 749, 750, 751, 752, 753, 754, 755, 756, 757, 758, 759, 760, 761, 762] (by decide +kernel) (by decide +kernel)
set_option maxRecDepth 20000 in
theorem gL_law_X5_mark : GoodIn wsL_law (wsV RL 105 RX5 yX5_mark wsX5_mark) := goodIn_app (goodIn_of _ (by decide +kernel)) ggL_law_X5_mark
set_option maxRecDepth 20000 in
theorem ggL_law_X6_mark : GoodIn wsL_law wsX6_mark := goodIn_r _ [657, 658, 99, 94, 659, 660, 96, 661, 662, 663, 664, 131, 132, 5, 133, 299, 300, 301, 302, 720, 721, 722, 723, 724, 725, 726, 727, 728, 729, 730, 731, 732, 733, 734, 735, 736, 737, 738, 739, 740] (by decide +kernel) (by decide +kernel)
set_option maxRecDepth 20000 in
theorem gL_law_X6_mark : GoodIn wsL_law (wsV RL 108 RX6 yX6_mark wsX6_mark) := goodIn_app (goodIn_of _ (by decide +kernel)) ggL_law_X6_mark
set_option maxRecDepth 20000 in
theorem ggL_law_X5_keep : GoodIn wsL_law wsX5_keep := goodIn_r _ [668, 25, 24, 73, 69, 342, 669, 670, 2, 671, 672, 673, 674, 23, 675, 48, 52, 676, 354, 355, 28, 356, 78, 80, 81, 82, 56, 84, 85, 86, 87, 57, 58, 677, 678, 679, 51, 680, 347, 348, 64, 349, 350, 351, 352, 353, 709, 710, 711, 712, 713, 714, 715, 716, 717, 718, 719, 754, 755, 756, 757, 758, 759, 760, 761, 762, 763, 764, 765] (by decide +kernel) (by decide +kernel)
set_option maxRecDepth 20000 in
theorem gL_law_X5_keep : GoodIn wsL_law (wsV RL 109 RX5 yX5_keep wsX5_keep) := goodIn_app (goodIn_of _ (by decide +kernel)) ggL_law_X5_keep
set_option maxRecDepth 20000 in
theorem ggL_law_X6_keep : GoodIn wsL_law wsX6_keep := goodIn_r _ [684, 99, 101, 131, 132, 5, 133, 720, 721, 722, 723, 724, 725, 726, 727, 728, 729, 730, 731, 732, 733, 734, 735, 736, 737, 738, 739, 740] (by decide +kernel) (by decide +kernel)
set_option maxRecDepth 20000 in
theorem gL_law_X6_keep : GoodIn wsL_law (wsV RL 112 RX6 yX6_keep wsX6_keep) := goodIn_app (goodIn_of _ (by decide +kernel)) ggL_law_X6_keep
set_option maxRecDepth 20000 in
theorem ggL_law_X5_back : GoodIn wsL_law wsX5_back := goodIn_r _ [688, 73, 24, 25, 69, 342, 669, 670, 2, 671, 672, 673, 674, 23, 675, 48, 52, 676, 354, 355, 28, 356, 78, 80, 81, 82, 56, 84, 85, 86, 87, 57, 58, 677, 678, 679, 51, 680, 347, 348, 64, 349, 350, 351, 352, 353, 709, 710, 711, 712, 713, 714, 715, 716, 717, 718, 719, 754, 755, 756, 757, 758, 759, 760, 761, 762, 763, 764, 765] (by decide +kernel) (by decide +kernel)
set_option maxRecDepth 20000 in
theorem gL_law_X5_back : GoodIn wsL_law (wsV RL 113 RX5 yX5_back wsX5_back) := goodIn_app (goodIn_of _ (by decide +kernel)) ggL_law_X5_back
set_option maxRecDepth 20000 in
theorem ggL_law_X6_back : GoodIn wsL_law wsX6_back := goodIn_r _ [692, 101, 99, 131, 132, 5, 133, 720, 721, 722, 723, 724, 725, 726, 727, 728, 729, 730, 731, 732, 733, 734, 735, 736, 737, 738, 739, 740] (by decide +kernel) (by decide +kernel)
set_option maxRecDepth 20000 in
theorem gL_law_X6_back : GoodIn wsL_law (wsV RL 116 RX6 yX6_back wsX6_back) := goodIn_app (goodIn_of _ (by decide +kernel)) ggL_law_X6_back
set_option maxRecDepth 20000 in
theorem ggL_law_X5_count : GoodIn wsL_law wsX5_count := goodIn_r _ [696, 19, 259, 456, 72, 24, 70, 71, 15, 120, 709, 710, 711, 712, 713, 714, 715, 716, 717, 718, 719, 748, 749, 750, 751, 752, 753, 754, 755, 763, 764, 765, 741, 742, 743, 744, 745, 746, 747] (by decide +kernel) (by decide +kernel)
set_option maxRecDepth 20000 in
theorem gL_law_X5_count : GoodIn wsL_law (wsV RL 117 RX5 yX5_count wsX5_count) := goodIn_app (goodIn_of _ (by decide +kernel)) ggL_law_X5_count
set_option maxRecDepth 20000 in
theorem ggL_law_X6_count : GoodIn wsL_law wsX6_count := goodIn_r _ [700, 94, 98, 115, 99, 130, 720, 721, 722, 723, 724, 725, 726, 727, 728, 729, 730, 731, 732, 733, 734, 735, 736, 737, 738, 739, 740] (by decide +kernel) (by decide +kernel)
set_option maxRecDepth 20000 in
theorem gL_law_X6_count : GoodIn wsL_law (wsV RL 120 RX6 yX6_count wsX6_count) := goodIn_app (goodIn_of _ (by decide +kernel)) ggL_law_X6_count
set_option maxRecDepth 20000 in
theorem ggL_law_X5_trace : GoodIn wsL_law wsX5_trace := goodIn_r _ [704, 624, 709, 710, 711, 712, 713, 714, 715, 716, 717, 718, 719] (by decide +kernel) (by decide +kernel)
set_option maxRecDepth 20000 in
theorem gL_law_X5_trace : GoodIn wsL_law (wsV RL 121 RX5 yX5_trace wsX5_trace) := goodIn_app (goodIn_of _ (by decide +kernel)) ggL_law_X5_trace
set_option maxRecDepth 20000 in
theorem ggL_law_X6_trace : GoodIn wsL_law wsX6_trace := goodIn_r _ [708, 659, 720, 721, 722, 723, 724, 725, 726, 727, 728, 729, 730, 731, 732, 733, 734, 735, 736, 737, 738, 739, 740] (by decide +kernel) (by decide +kernel)
set_option maxRecDepth 20000 in
theorem gL_law_X6_trace : GoodIn wsL_law (wsV RL 125 RX6 yX6_trace wsX6_trace) := goodIn_app (goodIn_of _ (by decide +kernel)) ggL_law_X6_trace
end
section
/-! The walk once for all: transformers z_*, one an instruction, and that each is sound at its place; the world is all the cells from b on, in the order in which they were made. -/
abbrev zE : Type := Nat → va_E
abbrev zL : Type := List (Nat × Value)
/-- what is wanted at a place: locals, stack, cells made so far, slots made so far, the world -/
abbrev zC : Type := zL → List Value → Nat → Nat → zE → Prop
abbrev zY : Type := Nat → ClassId
abbrev zPo : Type := Option Value → zE → Prop
abbrev zSp : Type := Nat → zY → List Value → Nat → zE → zPo → Prop
abbrev zty (cy : zY) : List (ClassId × FieldType) := [(cy 0, .byte), (cy 1, .int), (cy 2, .boolean), (cy 3, .object "BellCars$Image"), (cy 4, .object "BellCars$Moment")]
def zwl (b n : Nat) (E : zE) : va_W := (List.range n).map (fun i => (b + i, E i))
theorem zwl_at {b n i : Nat} {E : zE} (h : i < n) : (zwl b n E)[i]? = some (b + i, E i) := by simp [zwl, h]
theorem zwl_len (b n : Nat) (E : zE) : (zwl b n E).length = n := by simp [zwl]
theorem zwl_mem {b n k : Nat} {E : zE} {q : Nat × va_E} (h : (zwl b n E)[k]? = some q) : k < n ∧ q = (b + k, E k) := by
  have h1 : k < n := by
    have := (List.getElem?_eq_some_iff.mp h).1
    rwa [zwl_len] at this
  rw [zwl_at h1] at h
  exact ⟨h1, (Option.some.inj h).symm⟩
theorem zwl_set {b n i : Nat} {E : zE} (e : va_E) (h : i < n) : (zwl b n E).set i (b + i, e) = zwl b n (va_up E i e) := by
  apply List.ext_getElem?
  intro k
  rw [List.getElem?_set, zwl_len]
  by_cases hk : k < n
  · rw [zwl_at hk, zwl_at hk]
    by_cases e1 : i = k
    · subst e1; simp [va_up, h]
    · have : ¬ k = i := fun q => e1 q.symm
      simp [va_up, e1, this]
  · have h1 : ¬ i = k := by omega
    have h2 : (zwl b n E)[k]? = none := List.getElem?_eq_none (by rw [zwl_len]; omega)
    have h3 : (zwl b n (va_up E i e))[k]? = none := List.getElem?_eq_none (by rw [zwl_len]; omega)
    rw [if_neg h1, h2, h3]
theorem zwl_push {b n : Nat} {E : zE} (e : va_E) : zwl b n E ++ [(b + n, e)] = zwl b (n + 1) (va_up E n e) := by
  unfold zwl
  rw [List.range_succ, List.map_append]
  congr 1
  · apply List.map_congr_left
    intro i hi
    have : i ≠ n := Nat.ne_of_lt (List.mem_range.mp hi)
    simp [va_up, this]
  · simp [va_up]
theorem zwl_D {b n : Nat} {E : zE} : va_D (fun q => b ≤ q) (zwl b n E) := by
  refine ⟨fun i j p q hi hj hpq => ?_, fun k q hk => ?_⟩
  · obtain ⟨_, rfl⟩ := zwl_mem hi
    obtain ⟨_, rfl⟩ := zwl_mem hj
    simp at hpq
    exact hpq
  · obtain ⟨_, rfl⟩ := zwl_mem hk
    exact Nat.le_add_right _ _
/-! locals -/
def zld : zL → Nat → (Value → Prop) → Prop
  | [], _, _ => False
  | (j, v) :: t, k, K => if j = k then K v else zld t k K
def zst : zL → Nat → Value → zL
  | [], k, v => [(k, v)]
  | (j, w) :: t, k, v => if j = k then (k, v) :: t else (j, w) :: zst t k v
def zpick (l : zL) : List Nat → (zL → Prop) → Prop
  | [], K => K []
  | k :: ks, K => zld l k (fun v => zpick l ks (fun r => K ((k, v) :: r)))
theorem zld_c (j k : Nat) (v : Value) (t : zL) (K : Value → Prop) : zld ((j, v) :: t) k K = if j = k then K v else zld t k K := rfl
theorem zst_n (k : Nat) (v : Value) : zst [] k v = [(k, v)] := rfl
theorem zst_c (j k : Nat) (w v : Value) (t : zL) : zst ((j, w) :: t) k v = if j = k then (k, v) :: t else (j, w) :: zst t k v := rfl
theorem zpick_n (l : zL) (K : zL → Prop) : zpick l [] K = K [] := rfl
theorem zpick_c (l : zL) (k : Nat) (ks : List Nat) (K : zL → Prop) : zpick l (k :: ks) K = zld l k (fun v => zpick l ks (fun r => K ((k, v) :: r))) := rfl
def zhas (ls : Array Slot) (nL : Nat) (l : zL) : Prop := lv_has ls nL l ∧ (∀ q ∈ l, q.2.category = 1) ∧ (l.map Prod.fst).Nodup
theorem zld_mem {l : zL} {k : Nat} {K : Value → Prop} (h : zld l k K) : ∃ v, (k, v) ∈ l ∧ K v := by
  induction l with
  | nil => exact absurd h id
  | cons q t ih =>
    obtain ⟨j, w⟩ := q
    rw [zld_c] at h
    by_cases e : j = k
    · rw [if_pos e] at h; subst e; exact ⟨w, List.mem_cons_self, h⟩
    · rw [if_neg e] at h; obtain ⟨v, h1, h2⟩ := ih h; exact ⟨v, List.mem_cons_of_mem _ h1, h2⟩
theorem zst_mem {l : zL} {k : Nat} {v : Value} (hn : (l.map Prod.fst).Nodup) {q : Nat × Value} (h : q ∈ zst l k v) : q = (k, v) ∨ (q ∈ l ∧ q.1 ≠ k) := by
  induction l with
  | nil => rw [zst_n] at h; exact Or.inl (List.mem_singleton.mp h)
  | cons p t ih =>
    obtain ⟨j, w⟩ := p
    rw [zst_c] at h
    rw [List.map_cons, List.nodup_cons] at hn
    by_cases e : j = k
    · rw [if_pos e] at h
      rcases List.mem_cons.mp h with h | h
      · exact Or.inl h
      · refine Or.inr ⟨List.mem_cons_of_mem _ h, fun e2 => hn.1 ?_⟩
        show j ∈ _
        rw [e, ← e2]
        exact List.mem_map_of_mem h
    · rw [if_neg e] at h
      rcases List.mem_cons.mp h with h | h
      · subst h; exact Or.inr ⟨List.mem_cons_self, e⟩
      · rcases ih hn.2 h with h | ⟨h1, h2⟩
        · exact Or.inl h
        · exact Or.inr ⟨List.mem_cons_of_mem _ h1, h2⟩
theorem zst_keys {l : zL} {k : Nat} {v : Value} {j : Nat} (h : j ∈ (zst l k v).map Prod.fst) : j = k ∨ j ∈ l.map Prod.fst := by
  induction l with
  | nil => rw [zst_n] at h; simp at h; exact Or.inl h
  | cons p t ih =>
    obtain ⟨i, w⟩ := p
    rw [zst_c] at h
    by_cases e : i = k
    · rw [if_pos e] at h
      rw [List.map_cons, List.mem_cons] at h
      rcases h with h | h
      · exact Or.inl h
      · exact Or.inr (by rw [List.map_cons]; exact List.mem_cons_of_mem _ h)
    · rw [if_neg e] at h
      rw [List.map_cons, List.mem_cons] at h
      rcases h with h | h
      · exact Or.inr (by rw [List.map_cons]; exact List.mem_cons.mpr (Or.inl h))
      · rcases ih h with h | h
        · exact Or.inl h
        · exact Or.inr (by rw [List.map_cons]; exact List.mem_cons_of_mem _ h)
theorem zst_nodup {l : zL} {k : Nat} {v : Value} (hn : (l.map Prod.fst).Nodup) : ((zst l k v).map Prod.fst).Nodup := by
  induction l with
  | nil => rw [zst_n]; simp
  | cons p t ih =>
    obtain ⟨j, w⟩ := p
    rw [List.map_cons, List.nodup_cons] at hn
    rw [zst_c]
    by_cases e : j = k
    · rw [if_pos e, List.map_cons, List.nodup_cons]; subst e; exact hn
    · rw [if_neg e, List.map_cons, List.nodup_cons]
      refine ⟨fun h => ?_, ih hn.2⟩
      rcases zst_keys h with h | h
      · exact e h
      · exact hn.1 h
theorem zhas_st {ls' : Array Slot} {nL : Nat} {l : zL} {k : Nat} {v : Value} (hc : ∀ q ∈ l, q.2.category = 1) (hn : (l.map Prod.fst).Nodup) (hv : v.category = 1) (h : lv_has ls' nL ((k, v) :: l.filter (fun q => !(q.1 == k) && !(q.1 + 1 == k && q.2.category == 2)))) : zhas ls' nL (zst l k v) := by
  refine ⟨⟨h.1, h.2.1, fun q hq => h.2.2 q ?_⟩, fun q hq => ?_, zst_nodup hn⟩
  · rcases zst_mem hn hq with e | ⟨h1, h2⟩
    · rw [e]; exact List.mem_cons_self
    · refine List.mem_cons_of_mem _ (List.mem_filter.mpr ⟨h1, ?_⟩)
      simp [h2, hc q h1]
  · rcases zst_mem hn hq with e | ⟨h1, h2⟩
    · rw [e]; exact hv
    · exact hc q h1
theorem zpick_spec {l : zL} {ks : List Nat} {K : zL → Prop} (h : zpick l ks K) : ∃ r, K r ∧ (∀ q ∈ r, q ∈ l) ∧ r.map Prod.fst = ks := by
  induction ks generalizing K with
  | nil => exact ⟨[], h, fun q hq => absurd hq List.not_mem_nil, rfl⟩
  | cons k ks ih =>
    rw [zpick_c] at h
    obtain ⟨v, hm, h⟩ := zld_mem h
    obtain ⟨r, h1, h2, h3⟩ := ih h
    refine ⟨(k, v) :: r, h1, fun q hq => ?_, by rw [List.map_cons, h3]⟩
    rcases List.mem_cons.mp hq with e | e
    · rw [e]; exact hm
    · exact h2 q e
/-! transformers -/
def z_cut (ks : List Nat) (K : zC) (l : zL) (st : List Value) (k u : Nat) (E : zE) : Prop := zpick l ks (fun r => K r st k u E)
def z_iload (i : Nat) (K : zC) (l : zL) (st : List Value) (k u : Nat) (E : zE) : Prop := zld l i (fun v => match v with | .int x => K l (.int x :: st) k u E | _ => False)
def z_aload (i : Nat) (K : zC) (l : zL) (st : List Value) (k u : Nat) (E : zE) : Prop := zld l i (fun v => match v with | .ref x => K l (.ref x :: st) k u E | _ => False)
def z_istore (i : Nat) (K : zC) (l : zL) (st : List Value) (k u : Nat) (E : zE) : Prop := match st with | .int x :: r => K (zst l i (.int x)) r k u E | _ => False
def z_astore (i : Nat) (K : zC) (l : zL) (st : List Value) (k u : Nat) (E : zE) : Prop := match st with | .ref x :: r => K (zst l i (.ref x)) r k u E | _ => False
def z_iinc (i : Nat) (d : Int32) (K : zC) (l : zL) (st : List Value) (k u : Nat) (E : zE) : Prop := zld l i (fun v => match v with | .int x => K (zst l i (.int (x + d))) st k u E | _ => False)
def z_const (x : Int32) (K : zC) (l : zL) (st : List Value) (k u : Nat) (E : zE) : Prop := K l (.int x :: st) k u E
def z_lconst (x : Int64) (K : zC) (l : zL) (st : List Value) (k u : Nat) (E : zE) : Prop := K l (.long x :: st) k u E
def z_bin (f : Int32 → Int32 → Int32) (K : zC) (l : zL) (st : List Value) (k u : Nat) (E : zE) : Prop := match st with | .int y :: .int x :: r => K l (.int (f x y) :: r) k u E | _ => False
def z_bin0 (f : Int32 → Int32 → Int32) (K : zC) (l : zL) (st : List Value) (k u : Nat) (E : zE) : Prop := match st with | .int y :: .int x :: r => ¬ y = 0 ∧ K l (.int (f x y) :: r) k u E | _ => False
def z_un (f : Int32 → Int32) (K : zC) (l : zL) (st : List Value) (k u : Nat) (E : zE) : Prop := match st with | .int x :: r => K l (.int (f x) :: r) k u E | _ => False
def z_ladd (K : zC) (l : zL) (st : List Value) (k u : Nat) (E : zE) : Prop := match st with | .long y :: .long x :: r => K l (.long (x + y) :: r) k u E | _ => False
def z_dup (K : zC) (l : zL) (st : List Value) (k u : Nat) (E : zE) : Prop := match st with | .int x :: r => K l (.int x :: .int x :: r) k u E | .ref x :: r => K l (.ref x :: .ref x :: r) k u E | _ => False
def z_dup2 (K : zC) (l : zL) (st : List Value) (k u : Nat) (E : zE) : Prop := match st with | .int x :: .ref y :: r => K l (.int x :: .ref y :: .int x :: .ref y :: r) k u E | _ => False
def z_pop (K : zC) (l : zL) (st : List Value) (k u : Nat) (E : zE) : Prop := match st with | .int _ :: r => K l r k u E | _ => False
def z_if (c : Int32 → Prop) (Kt Kf : zC) (l : zL) (st : List Value) (k u : Nat) (E : zE) : Prop := match st with | .int x :: r => (c x → Kt l r k u E) ∧ (¬ c x → Kf l r k u E) | _ => False
def z_icmp (c : Int32 → Int32 → Prop) (Kt Kf : zC) (l : zL) (st : List Value) (k u : Nat) (E : zE) : Prop := match st with | .int y :: .int x :: r => (c x y → Kt l r k u E) ∧ (¬ c x y → Kf l r k u E) | _ => False
def z_sw : List (Int32 × zC) → zC → Int32 → zC
  | [], Kd, _ => Kd
  | (v, K) :: t, Kd, x => fun l st k u E => (x = v → K l st k u E) ∧ (¬ x = v → z_sw t Kd x l st k u E)
def z_switch (t : List (Int32 × zC)) (Kd : zC) (l : zL) (st : List Value) (k u : Nat) (E : zE) : Prop := match st with | .int x :: r => z_sw t Kd x l r k u E | _ => False
def z_get (b n0 ci fk : Nat) (K : zC) (l : zL) (st : List Value) (k u : Nat) (E : zE) : Prop := match st with
  | .ref a :: r => b ≤ a ∧ a - b < n0 + k ∧ (match E (a - b) with | .inr (c, fs) => c = ci ∧ (match fs[fk]? with | some v => K l (v :: r) k u E | none => False) | _ => False)
  | _ => False
def zok : Nat → Value → Prop
  | 0, .int _ => True
  | 1, .ref _ => True
  | 2, .long _ => True
  | 3, .int x => x = 0 ∨ x = 1
  | _, _ => False
def z_put (b n0 ci fk vt : Nat) (K : zC) (l : zL) (st : List Value) (k u : Nat) (E : zE) : Prop := match st with
  | v :: .ref a :: r => b ≤ a ∧ a - b < n0 + k ∧ (match E (a - b) with | .inr (c, fs) => c = ci ∧ fk < fs.length ∧ zok vt v ∧ K l r k u (va_up E (a - b) (.inr (ci, fs.set fk v))) | _ => False)
  | _ => False
def z_ald (b n0 : Nat) (cA : ClassId) (K : zC) (l : zL) (st : List Value) (k u : Nat) (E : zE) : Prop := match st with
  | .int i :: .ref a :: r => b ≤ a ∧ a - b < n0 + k ∧ (match E (a - b) with | .inl (c, len, .inl f) => c = cA ∧ vp_in i len ∧ K l (.int (f i.toNatClampNeg) :: r) k u E | _ => False)
  | _ => False
def z_ast (b n0 : Nat) (cA : ClassId) (g : Int32 → Int32) (K : zC) (l : zL) (st : List Value) (k u : Nat) (E : zE) : Prop := match st with
  | .int x :: .int i :: .ref a :: r => b ≤ a ∧ a - b < n0 + k ∧ (match E (a - b) with | .inl (c, len, .inl f) => c = cA ∧ vp_in i len ∧ K l r k u (va_up E (a - b) (.inl (cA, len, .inl (upd f i.toNatClampNeg (g x))))) | _ => False)
  | _ => False
def z_aald (b n0 : Nat) (cA : ClassId) (K : zC) (l : zL) (st : List Value) (k u : Nat) (E : zE) : Prop := match st with
  | .int i :: .ref a :: r => b ≤ a ∧ a - b < n0 + k ∧ (match E (a - b) with | .inl (c, len, .inr (.inr (.inr (.inr f)))) => c = cA ∧ vp_in i len ∧ K l (va_rf (f i.toNatClampNeg) :: r) k u E | _ => False)
  | _ => False
def z_aast (b n0 : Nat) (cA : ClassId) (ci : Nat) (K : zC) (l : zL) (st : List Value) (k u : Nat) (E : zE) : Prop := match st with
  | .ref v :: .int i :: .ref a :: r => b ≤ a ∧ a - b < n0 + k ∧ b ≤ v ∧ v - b < n0 + k ∧ (match E (v - b) with | .inr (c, _) => c = ci | _ => False) ∧ (match E (a - b) with | .inl (c, len, .inr (.inr (.inr (.inr f)))) => c = cA ∧ vp_in i len ∧ K l r k u (va_up E (a - b) (.inl (cA, len, .inr (.inr (.inr (.inr (va_up f i.toNatClampNeg (some v)))))))) | _ => False)
  | _ => False
def z_copy (b n0 : Nat) (cA : ClassId) (K : zC) (l : zL) (st : List Value) (k u : Nat) (E : zE) : Prop := match st with
  | .int n :: .int dp :: .ref a :: .int sp :: .ref a0 :: r => r.length ≤ 4 ∧ b ≤ a ∧ a - b < n0 + k ∧ b ≤ a0 ∧ a0 - b < n0 + k ∧ dp = 0 ∧ sp = 0 ∧ ¬ n < 0 ∧
    (match E (a0 - b) with
      | .inl (c0, len0, .inl f) => (match E (a - b) with
        | .inl (c1, len1, .inl g) => c0 = cA ∧ c1 = cA ∧ n.toNatClampNeg ≤ len0 ∧ n.toNatClampNeg ≤ len1 ∧ K l r k u (va_up E (a - b) (.inl (cA, len1, .inl (va_cpy f g 0 0 n.toNatClampNeg))))
        | _ => False)
      | _ => False)
  | _ => False
def z_new (b n0 rc rs ci nf : Nat) (fs : List Value) (K : zC) (l : zL) (st : List Value) (k u : Nat) (E : zE) : Prop := k + 1 ≤ rc ∧ u + nf ≤ rs ∧ K l (.ref (b + (n0 + k)) :: st) (k + 1) (u + nf) (va_up E (n0 + k) (.inr (ci, fs)))
def z_newa (b n0 rc rs : Nat) (cA : ClassId) (K : zC) (l : zL) (st : List Value) (k u : Nat) (E : zE) : Prop := match st with
  | .int n :: r => ¬ n < 0 ∧ n.toNatClampNeg ≤ 10000 ∧ k + 1 ≤ rc ∧ u + n.toNatClampNeg ≤ rs ∧ K l (.ref (b + (n0 + k)) :: r) (k + 1) (u + n.toNatClampNeg) (va_up E (n0 + k) (.inl (cA, n.toNatClampNeg, .inl (fun _ => 0))))
  | _ => False
def z_anewa (b n0 rc rs : Nat) (cA : ClassId) (K : zC) (l : zL) (st : List Value) (k u : Nat) (E : zE) : Prop := match st with
  | .int n :: r => ¬ n < 0 ∧ n.toNatClampNeg ≤ 10000 ∧ k + 1 ≤ rc ∧ u + n.toNatClampNeg ≤ rs ∧ K l (.ref (b + (n0 + k)) :: r) (k + 1) (u + n.toNatClampNeg) (va_up E (n0 + k) (.inl (cA, n.toNatClampNeg, .inr (.inr (.inr (.inr (fun _ => none)))))))
  | _ => False
def z_callV (b n0 rc rs : Nat) (cy : zY) (ci na mc ms : Nat) (sp : zSp) (K : zC) (l : zL) (st : List Value) (k u : Nat) (E : zE) : Prop := match st.drop na with
  | .ref a :: r => r.length ≤ 4 ∧ (st.take na).length = na ∧ k + mc ≤ rc ∧ u + ms ≤ rs ∧ b ≤ a ∧ a - b < n0 + k ∧ (match E (a - b) with | .inr (c, _) => c = ci | _ => False) ∧ sp b cy (.ref a :: (st.take na).reverse) (n0 + k) E (fun v E' => K l (v.toList ++ r) (k + mc) (u + ms) E')
  | _ => False
def z_callS (b n0 rc rs : Nat) (cy : zY) (na mc ms : Nat) (sp : zSp) (K : zC) (l : zL) (st : List Value) (k u : Nat) (E : zE) : Prop := (st.drop na).length ≤ 4 ∧ (st.take na).length = na ∧ k + mc ≤ rc ∧ u + ms ≤ rs ∧ sp b cy (st.take na).reverse (n0 + k) E (fun v E' => K l (v.toList ++ st.drop na) (k + mc) (u + ms) E')
def z_iret (mc ms : Nat) (P : zPo) (_ : zL) (st : List Value) (k u : Nat) (E : zE) : Prop := match st with | [.int x] => k = mc ∧ u ≤ ms ∧ P (some (.int x)) E | _ => False
def z_zret (mc ms : Nat) (P : zPo) (_ : zL) (st : List Value) (k u : Nat) (E : zE) : Prop := match st with | [.int x] => k = mc ∧ u ≤ ms ∧ (x = 0 ∨ x = 1) ∧ P (some (.int x)) E | _ => False
def z_lret (mc ms : Nat) (P : zPo) (_ : zL) (st : List Value) (k u : Nat) (E : zE) : Prop := match st with | [.long x] => k = mc ∧ u ≤ ms ∧ P (some (.long x)) E | _ => False
def z_vret (mc ms : Nat) (P : zPo) (_ : zL) (st : List Value) (k u : Nat) (E : zE) : Prop := match st with | [] => k = mc ∧ u ≤ ms ∧ P none E | _ => False
def z_min (rc rs : Nat) (K : zC) (l : zL) (st : List Value) (k u : Nat) (E : zE) : Prop := match st with | .int y :: .int x :: r => r.length ≤ 4 ∧ k ≤ rc ∧ u ≤ rs ∧ K l (.int (if y < x then y else x) :: r) k u E | _ => False
def z_abs (rc rs : Nat) (K : zC) (l : zL) (st : List Value) (k u : Nat) (E : zE) : Prop := match st with | .int x :: r => r.length ≤ 4 ∧ k ≤ rc ∧ u ≤ rs ∧ K l (.int (if 0 ≤ x then x else 0 - x) :: r) k u E | _ => False
def z_oinit (K : zC) (l : zL) (st : List Value) (k u : Nat) (E : zE) : Prop := match st with | .ref _ :: r => r.length ≤ 4 ∧ K l r k u E | _ => False
def z_callI (b n0 rc rs : Nat) (cy : zY) (mc ms : Nat) (sp : zSp) (K : zC) (l : zL) (st : List Value) (k u : Nat) (E : zE) : Prop := match st with | .ref a :: r => r.length ≤ 4 ∧ k + mc ≤ rc ∧ u + ms ≤ rs ∧ sp b cy [.ref a] (n0 + k) E (fun v E' => K l (v.toList ++ r) (k + mc) (u + ms) E') | _ => False
end
section
/-- what the tables say, of classes, arrays and nest mates -/
def zNest : List Cond := [.methodLinkNest RX5 11 yX3_init RX5, .methodLinkNest RX5 18 yX4_init RX5, .methodLinkNest RX5 28 yX0_init RX5, .methodLinkNest RX5 39 yX1_init RX5, .methodLinkNest RX0 9 yX1_init RX5, .methodLinkNest RX2 17 yX1_init RX5]
def zK (D : va_G) (cy : zY) (U : State) : Prop := va_K D vwCl (zty cy) U ∧ va_AO "BellCars$Image" U ∧ va_AO "BellCars$Moment" U ∧ ∀ w ∈ zNest, va_Nw w U
theorem zK.warm {D : va_G} {cy : zY} {s U : State} (hW : s.WarmedH U.vm) (h : zK D cy s) : zK D cy U := by
  refine ⟨va_K.moved hW.alike h.1, h.2.1.moved hW.alike, h.2.2.1.moved hW.alike, fun w hw => ?_⟩
  have h1 := h.2.2.2 w hw
  simp only [zNest, List.mem_cons, List.not_mem_nil, or_false] at hw
  rcases hw with rfl | rfl | rfl | rfl | rfl | rfl <;> exact va_Nw.warmM hW h1
theorem zK.same {D : va_G} {cy : zY} {s U : State} (hv : s.vm = U.vm) (h : zK D cy s) : zK D cy U := by
  refine ⟨va_K.moved (by rw [hv]; exact Vm.Alike.refl _) h.1, h.2.1.moved (by rw [hv]; exact Vm.Alike.refl _), h.2.2.1.moved (by rw [hv]; exact Vm.Alike.refl _), fun w hw => ?_⟩
  have h1 := h.2.2.2 w hw
  simp only [zNest, List.mem_cons, List.not_mem_nil, or_false] at hw
  rcases hw with rfl | rfl | rfl | rfl | rfl | rfl <;> exact va_Nw.same rfl hv h1
/-- a method's contract: from every world and answer wanted that 'sp' allows, it comes to its end, with an answer and a world that are wanted -/
def zPre (D : va_G) (cy : zY) (b n : Nat) (E : zE) (U : State) : Prop := U.heap.size = b + n ∧ va_P D vwCl (zwl b n E) U.heap ∧ zK D cy U
def zQ (D : va_G) (b n : Nat) (P : zPo) : Array Value → State → Outcome → State → Prop := fun _ st oc t => (∃ (v : Option Value) (E' : zE), oc = .returned v ∧ P v E' ∧ va_P D vwCl (zwl b n E') t.heap) ∧ va_F (fun q => b ≤ q) st t
def zMet (la : Launch) (y : MethodName) (ws : List Cond) (rm : Room) (mc ms : Nat) (sp : zSp) : Prop :=
  ∀ (D : va_G) (cy : zY) (b n : Nat) (as : List Value) (E : zE) (P : zPo), sp b cy as n E P → Met la y ws rm (va_Pc as (zPre D cy b n E)) (zQ D b (n + mc) P) mc ms (fun q => b ≤ q)
theorem zPre_blind {D : va_G} {cy : zY} {b n : Nat} {as : List Value} {E : zE} : FrameBlind (va_Pc as (zPre D cy b n E)) := fun a U g mk h => ⟨h.1, h.2.1, h.2.2.1, zK.same (s := U) (U := U.calling g mk a) rfl h.2.2.2⟩
def zgood (as : List Value) (nL : Nat) : Prop := as.length ≤ nL ∧ ∀ v ∈ as, v.category = 1
theorem zgood_args {as : List Value} (h : ∀ v ∈ as, v.category = 1) : ∀ i : Nat, (lg_sl as).length = as.length ∧ (∀ q ∈ lv_args i as, q.2.category = 1 ∧ i ≤ q.1) ∧ ((lv_args i as).map Prod.fst).Nodup := by
  induction as with
  | nil => exact fun i => ⟨rfl, fun q hq => absurd hq List.not_mem_nil, List.nodup_nil⟩
  | cons v t ih =>
    intro i
    have hv := h v List.mem_cons_self
    have hne : ¬ v.category = 2 := by omega
    obtain ⟨h1, h2, h3⟩ := ih (fun w hw => h w (List.mem_cons_of_mem _ hw)) (i + 1)
    have e : lv_args i (v :: t) = (i, v) :: lv_args (i + 1) t := by rw [lv_args, if_neg hne]
    refine ⟨?_, ?_, ?_⟩
    · have : lg_sl (v :: t) = [.val v] ++ lg_sl t := by simp [lg_sl, hne]
      rw [this, List.length_append, h1]; simp; omega
    · rw [e]
      intro q hq
      rcases List.mem_cons.mp hq with rfl | hq
      · exact ⟨hv, Nat.le_refl _⟩
      · have := h2 q hq; exact ⟨this.1, by omega⟩
    · rw [e, List.map_cons, List.nodup_cons]
      refine ⟨fun hm => ?_, h3⟩
      obtain ⟨q, hq, he⟩ := List.mem_map.mp hm
      have := (h2 q hq).2
      have he' : q.1 = i := he
      omega
theorem zok_int : ∀ v, zok 0 v → narrow .int v = v ∧ fits .int v = true := by
  intro v h
  cases v <;> first | exact absurd h id | exact ⟨rfl, rfl⟩
theorem zok_long : ∀ v, zok 2 v → narrow .long v = v ∧ fits .long v = true := by
  intro v h
  cases v <;> first | exact absurd h id | exact ⟨rfl, rfl⟩
theorem zok_obj {C : String} : ∀ v, zok 1 v → narrow (.object C) v = v ∧ fits (.object C) v = true := by
  intro v h
  cases v <;> first | exact absurd h id | exact ⟨rfl, rfl⟩
theorem zok_arr {t : FieldType} : ∀ v, zok 1 v → narrow (.array t) v = v ∧ fits (.array t) v = true := by
  intro v h
  cases v <;> first | exact absurd h id | exact ⟨rfl, rfl⟩
theorem zok_bool : ∀ v, zok 3 v → narrow .boolean v = v ∧ fits .boolean v = true := by
  intro v h
  cases v with
  | int x =>
    have h : x = 0 ∨ x = 1 := h
    rcases h with rfl | rfl <;> exact ⟨rfl, rfl⟩
  | _ => exact absurd h id
section ZS
variable {p : Program} {la : Launch} {e : Env} {R : Room} {s : State} {m : MethodId} {args : Array Value} {below : List Frame} {meth : Method} {c : Code} {Q : State → Prop} {nL : Nat} {D : va_G} {cy : zY} {b n0 : Nat}
/-- from this place, with these locals, this stack and this world, the machine comes to a state with Q -/
def zAt (p : Program) (la : Launch) (e : Env) (R : Room) (s : State) (m : MethodId) (args : Array Value) (below : List Frame) (meth : Method) (c : Code) (Q : State → Prop) (nL : Nat) (D : va_G) (b n0 : Nat) (pc : Nat) : zC := fun l st k u E =>
  ∀ (ls : Array Slot) (H : Heap) (locs : List Loc), zhas ls nL l → va_P D vwCl (zwl b (n0 + k) E) H → va_S (fun q => b ≤ q) s.heap H locs → W p la e R s m args below meth c H locs k u Q (F0 m pc ls st)
def zS (p : Program) (la : Launch) (e : Env) (R : Room) (s : State) (m : MethodId) (args : Array Value) (below : List Frame) (meth : Method) (c : Code) (Q : State → Prop) (nL : Nat) (D : va_G) (b n0 : Nat) (pc : Nat) (K : zC) : Prop := ∀ l st k u E, K l st k u E → zAt p la e R s m args below meth c Q nL D b n0 pc l st k u E
/-- what a method's walk stands on -/
def zX (p : Program) (la : Launch) (e : Env) (R : Room) (s : State) (m : MethodId) (args : Array Value) (below : List Frame) (meth : Method) (c : Code) (nL : Nat) (D : va_G) (cy : zY) (b n0 : Nat) (cc : ByteArray) (Ts : List Cond) (own : String) : Prop :=
  CallFix p m c cc nL s args Ts own ∧ zK D cy s ∧ s.heap.size = b + n0 ∧ meth.locks = false
theorem zS_at {pc : Nat} : zS p la e R s m args below meth c Q nL D b n0 pc (zAt p la e R s m args below meth c Q nL D b n0 pc) := fun _ _ _ _ _ h => h
theorem s_cut {pc : Nat} {ks : List Nat} {K : zC} (hn : ks.Nodup) (h : zS p la e R s m args below meth c Q nL D b n0 pc K) : zS p la e R s m args below meth c Q nL D b n0 pc (z_cut ks K) := by
  intro l st k u E q ls H locs hl
  obtain ⟨r, h1, h2, h3⟩ := zpick_spec q
  exact h r st k u E h1 ls H locs ⟨⟨hl.1.1, hl.1.2.1, fun q hq => hl.1.2.2 q (h2 q hq)⟩, fun q hq => hl.2.1 q (h2 q hq), by rw [h3]; exact hn⟩
variable {cc : ByteArray} {Ts : List Cond} {own : String}
theorem s_iload_n (X : zX p la e R s m args below meth c nL D cy b n0 cc Ts own) {pc i : Nat} {j : Fin 4} {K : zC} (hd : decode cc pc = .ok (.iload_n j, 1)) (hj : (j : Nat) = i) (h : zS p la e R s m args below meth c Q nL D b n0 (pc + 1) K) : zS p la e R s m args below meth c Q nL D b n0 pc (z_iload i K) := by
  intro l st k u E q ls H locs hl hP hS
  obtain ⟨v, hm, hq⟩ := zld_mem q
  cases v with
  | int x => exact lv_iload_n X.1.1 X.1.2.1 hd hj (hl.1.2.2 _ hm) (h _ _ _ _ _ hq ls H locs hl hP hS)
  | _ => exact absurd hq id
theorem s_iload (X : zX p la e R s m args below meth c nL D cy b n0 cc Ts own) {pc i : Nat} {K : zC} (hd : decode cc pc = .ok (.iload i, 2)) (h : zS p la e R s m args below meth c Q nL D b n0 (pc + 2) K) : zS p la e R s m args below meth c Q nL D b n0 pc (z_iload i K) := by
  intro l st k u E q ls H locs hl hP hS
  obtain ⟨v, hm, hq⟩ := zld_mem q
  cases v with
  | int x => exact lv_iload X.1.1 X.1.2.1 hd (hl.1.2.2 _ hm) (h _ _ _ _ _ hq ls H locs hl hP hS)
  | _ => exact absurd hq id
theorem s_aload_n (X : zX p la e R s m args below meth c nL D cy b n0 cc Ts own) {pc i : Nat} {j : Fin 4} {K : zC} (hd : decode cc pc = .ok (.aload_n j, 1)) (hj : (j : Nat) = i) (h : zS p la e R s m args below meth c Q nL D b n0 (pc + 1) K) : zS p la e R s m args below meth c Q nL D b n0 pc (z_aload i K) := by
  intro l st k u E q ls H locs hl hP hS
  obtain ⟨v, hm, hq⟩ := zld_mem q
  cases v with
  | ref x => exact lv_aload_n X.1.1 X.1.2.1 hd hj (hl.1.2.2 _ hm) (h _ _ _ _ _ hq ls H locs hl hP hS)
  | _ => exact absurd hq id
theorem s_istore_n (X : zX p la e R s m args below meth c nL D cy b n0 cc Ts own) {pc i : Nat} {j : Fin 4} {K : zC} (hd : decode cc pc = .ok (.istore_n j, 1)) (hj : (j : Nat) = i) (hi : i < nL) (h : zS p la e R s m args below meth c Q nL D b n0 (pc + 1) K) : zS p la e R s m args below meth c Q nL D b n0 pc (z_istore i K) := by
  intro l st k u E q0 ls H locs hl hP hS
  match st, q0 with
  | .int x :: r, q => exact lv_istore_n X.1.1 X.1.2.1 hd hj hl.1 hi rfl (fun ls' hl' => h _ _ _ _ _ q ls' H locs (zhas_st hl.2.1 hl.2.2 rfl hl') hP hS)
theorem s_istore (X : zX p la e R s m args below meth c nL D cy b n0 cc Ts own) {pc i : Nat} {K : zC} (hd : decode cc pc = .ok (.istore i, 2)) (hi : i < nL) (h : zS p la e R s m args below meth c Q nL D b n0 (pc + 2) K) : zS p la e R s m args below meth c Q nL D b n0 pc (z_istore i K) := by
  intro l st k u E q0 ls H locs hl hP hS
  match st, q0 with
  | .int x :: r, q => exact lv_istore X.1.1 X.1.2.1 hd hl.1 hi rfl (fun ls' hl' => h _ _ _ _ _ q ls' H locs (zhas_st hl.2.1 hl.2.2 rfl hl') hP hS)
theorem s_astore_n (X : zX p la e R s m args below meth c nL D cy b n0 cc Ts own) {pc i : Nat} {j : Fin 4} {K : zC} (hd : decode cc pc = .ok (.astore_n j, 1)) (hj : (j : Nat) = i) (hi : i < nL) (h : zS p la e R s m args below meth c Q nL D b n0 (pc + 1) K) : zS p la e R s m args below meth c Q nL D b n0 pc (z_astore i K) := by
  intro l st k u E q0 ls H locs hl hP hS
  match st, q0 with
  | .ref x :: r, q => exact lv_astore_n X.1.1 X.1.2.1 hd hj hl.1 hi rfl (fun ls' hl' => h _ _ _ _ _ q ls' H locs (zhas_st hl.2.1 hl.2.2 rfl hl') hP hS)
theorem s_iinc (X : zX p la e R s m args below meth c nL D cy b n0 cc Ts own) {pc i : Nat} {n : Int} {d : Int32} {K : zC} (hd : decode cc pc = .ok (.iinc i n, 3)) (hn : Int32.ofInt n = d) (hi : i < nL) (h : zS p la e R s m args below meth c Q nL D b n0 (pc + 3) K) : zS p la e R s m args below meth c Q nL D b n0 pc (z_iinc i d K) := by
  intro l st k u E q ls H locs hl hP hS
  obtain ⟨v, hm, hq⟩ := zld_mem q
  cases v with
  | int x =>
    obtain ⟨t, ht⟩ := List.getElem?_of_mem hm
    exact lv_iinc (k := t) (v := x + d) X.1.1 X.1.2.1 hd hl.1 ht (by rw [hn]) hi rfl (fun ls' hl' => h _ _ _ _ _ hq ls' H locs (zhas_st hl.2.1 hl.2.2 rfl hl') hP hS)
  | _ => exact absurd hq id
theorem s_iconst (X : zX p la e R s m args below meth c nL D cy b n0 cc Ts own) {pc : Nat} {n : Int} {x : Int32} {K : zC} (hd : decode cc pc = .ok (.iconst n, 1)) (hn : Int32.ofInt n = x) (h : zS p la e R s m args below meth c Q nL D b n0 (pc + 1) K) : zS p la e R s m args below meth c Q nL D b n0 pc (z_const x K) :=
  fun l st k u E q ls H locs hl hP hS => lv_iconst X.1.1 X.1.2.1 hd hn (h _ _ _ _ _ q ls H locs hl hP hS)
theorem s_bipush (X : zX p la e R s m args below meth c nL D cy b n0 cc Ts own) {pc : Nat} {n : Int} {x : Int32} {K : zC} (hd : decode cc pc = .ok (.bipush n, 2)) (hn : (Int8.ofInt n).toInt32 = x) (h : zS p la e R s m args below meth c Q nL D b n0 (pc + 2) K) : zS p la e R s m args below meth c Q nL D b n0 pc (z_const x K) :=
  fun l st k u E q ls H locs hl hP hS => lv_bipush X.1.1 X.1.2.1 hd hn (h _ _ _ _ _ q ls H locs hl hP hS)
theorem s_sipush (X : zX p la e R s m args below meth c nL D cy b n0 cc Ts own) {pc : Nat} {n : Int} {x : Int32} {K : zC} (hd : decode cc pc = .ok (.sipush n, 3)) (hn : (Int16.ofInt n).toInt32 = x) (h : zS p la e R s m args below meth c Q nL D b n0 (pc + 3) K) : zS p la e R s m args below meth c Q nL D b n0 pc (z_const x K) :=
  fun l st k u E q ls H locs hl hP hS => lv_sipush X.1.1 X.1.2.1 hd hn (h _ _ _ _ _ q ls H locs hl hP hS)
theorem s_ldc (X : zX p la e R s m args below meth c nL D cy b n0 cc Ts own) {pc i : Nat} {x : Int32} {K : zC} (hd : decode cc pc = .ok (.ldc i, 2)) (hm : Cond.constant own i x ∈ Ts) (h : zS p la e R s m args below meth c Q nL D b n0 (pc + 2) K) : zS p la e R s m args below meth c Q nL D b n0 pc (z_const x K) :=
  fun l st k u E q ls H locs hl hP hS => lv_ldc X.1.1 X.1.2.1 X.1.2.2.2.1 (X.1.2.2.2.2 _ hm) hd (h _ _ _ _ _ q ls H locs hl hP hS)
theorem s_ldcw (X : zX p la e R s m args below meth c nL D cy b n0 cc Ts own) {pc i : Nat} {x : Int32} {K : zC} (hd : decode cc pc = .ok (.ldc_w i, 3)) (hm : Cond.constant own i x ∈ Ts) (h : zS p la e R s m args below meth c Q nL D b n0 (pc + 3) K) : zS p la e R s m args below meth c Q nL D b n0 pc (z_const x K) :=
  fun l st k u E q ls H locs hl hP hS => lv_ldcw X.1.1 X.1.2.1 X.1.2.2.2.1 (X.1.2.2.2.2 _ hm) hd (h _ _ _ _ _ q ls H locs hl hP hS)
theorem s_ldc2 (X : zX p la e R s m args below meth c nL D cy b n0 cc Ts own) {pc i : Nat} {x : Int64} {K : zC} (hd : decode cc pc = .ok (.ldc2_w i, 3)) (hm : Cond.constantLong own i x ∈ Ts) (h : zS p la e R s m args below meth c Q nL D b n0 (pc + 3) K) : zS p la e R s m args below meth c Q nL D b n0 pc (z_lconst x K) :=
  fun l st k u E q ls H locs hl hP hS => lv_ldc2 X.1.1 X.1.2.1 X.1.2.2.2.1 (X.1.2.2.2.2 _ hm) hd (h _ _ _ _ _ q ls H locs hl hP hS)
theorem s_lconst (X : zX p la e R s m args below meth c nL D cy b n0 cc Ts own) {pc : Nat} {n : Fin 2} {x : Int64} {K : zC} (hd : decode cc pc = .ok (.lconst n, 1)) (hn : Int64.ofNat (n : Nat) = x) (h : zS p la e R s m args below meth c Q nL D b n0 (pc + 1) K) : zS p la e R s m args below meth c Q nL D b n0 pc (z_lconst x K) :=
  fun l st k u E q ls H locs hl hP hS => lv_lconst X.1.1 X.1.2.1 hd hn (h _ _ _ _ _ q ls H locs hl hP hS)
theorem s_iadd (X : zX p la e R s m args below meth c nL D cy b n0 cc Ts own) {pc : Nat} {K : zC} (hd : decode cc pc = .ok (.iadd, 1)) (h : zS p la e R s m args below meth c Q nL D b n0 (pc + 1) K) : zS p la e R s m args below meth c Q nL D b n0 pc (z_bin (fun x y => x + y) K) := by
  intro l st k u E q0 ls H locs hl hP hS
  match st, q0 with
  | .int y :: .int x :: r, q => exact lv_iadd X.1.1 X.1.2.1 hd (h _ _ _ _ _ q ls H locs hl hP hS)
theorem s_isub (X : zX p la e R s m args below meth c nL D cy b n0 cc Ts own) {pc : Nat} {K : zC} (hd : decode cc pc = .ok (.isub, 1)) (h : zS p la e R s m args below meth c Q nL D b n0 (pc + 1) K) : zS p la e R s m args below meth c Q nL D b n0 pc (z_bin (fun x y => x - y) K) := by
  intro l st k u E q0 ls H locs hl hP hS
  match st, q0 with
  | .int y :: .int x :: r, q => exact lv_isub X.1.1 X.1.2.1 hd (h _ _ _ _ _ q ls H locs hl hP hS)
theorem s_imul (X : zX p la e R s m args below meth c nL D cy b n0 cc Ts own) {pc : Nat} {K : zC} (hd : decode cc pc = .ok (.imul, 1)) (h : zS p la e R s m args below meth c Q nL D b n0 (pc + 1) K) : zS p la e R s m args below meth c Q nL D b n0 pc (z_bin (fun x y => x * y) K) := by
  intro l st k u E q0 ls H locs hl hP hS
  match st, q0 with
  | .int y :: .int x :: r, q => exact lv_imul X.1.1 X.1.2.1 hd (h _ _ _ _ _ q ls H locs hl hP hS)
theorem s_iand (X : zX p la e R s m args below meth c nL D cy b n0 cc Ts own) {pc : Nat} {K : zC} (hd : decode cc pc = .ok (.iand, 1)) (h : zS p la e R s m args below meth c Q nL D b n0 (pc + 1) K) : zS p la e R s m args below meth c Q nL D b n0 pc (z_bin (fun x y => x &&& y) K) := by
  intro l st k u E q0 ls H locs hl hP hS
  match st, q0 with
  | .int y :: .int x :: r, q => exact lv_iand X.1.1 X.1.2.1 hd (h _ _ _ _ _ q ls H locs hl hP hS)
theorem s_ior (X : zX p la e R s m args below meth c nL D cy b n0 cc Ts own) {pc : Nat} {K : zC} (hd : decode cc pc = .ok (.ior, 1)) (h : zS p la e R s m args below meth c Q nL D b n0 (pc + 1) K) : zS p la e R s m args below meth c Q nL D b n0 pc (z_bin (fun x y => x ||| y) K) := by
  intro l st k u E q0 ls H locs hl hP hS
  match st, q0 with
  | .int y :: .int x :: r, q => exact lv_ior X.1.1 X.1.2.1 hd (h _ _ _ _ _ q ls H locs hl hP hS)
theorem s_ixor (X : zX p la e R s m args below meth c nL D cy b n0 cc Ts own) {pc : Nat} {K : zC} (hd : decode cc pc = .ok (.ixor, 1)) (h : zS p la e R s m args below meth c Q nL D b n0 (pc + 1) K) : zS p la e R s m args below meth c Q nL D b n0 pc (z_bin (fun x y => x ^^^ y) K) := by
  intro l st k u E q0 ls H locs hl hP hS
  match st, q0 with
  | .int y :: .int x :: r, q => exact lv_ixor X.1.1 X.1.2.1 hd (h _ _ _ _ _ q ls H locs hl hP hS)
theorem s_ishl (X : zX p la e R s m args below meth c nL D cy b n0 cc Ts own) {pc : Nat} {K : zC} (hd : decode cc pc = .ok (.ishl, 1)) (h : zS p la e R s m args below meth c Q nL D b n0 (pc + 1) K) : zS p la e R s m args below meth c Q nL D b n0 pc (z_bin (fun x y => x <<< (y &&& 31)) K) := by
  intro l st k u E q0 ls H locs hl hP hS
  match st, q0 with
  | .int y :: .int x :: r, q => exact lv_ishl X.1.1 X.1.2.1 hd (h _ _ _ _ _ q ls H locs hl hP hS)
theorem s_ishr (X : zX p la e R s m args below meth c nL D cy b n0 cc Ts own) {pc : Nat} {K : zC} (hd : decode cc pc = .ok (.ishr, 1)) (h : zS p la e R s m args below meth c Q nL D b n0 (pc + 1) K) : zS p la e R s m args below meth c Q nL D b n0 pc (z_bin (fun x y => x >>> (y &&& 31)) K) := by
  intro l st k u E q0 ls H locs hl hP hS
  match st, q0 with
  | .int y :: .int x :: r, q => exact lv_ishr X.1.1 X.1.2.1 hd (h _ _ _ _ _ q ls H locs hl hP hS)
theorem s_iushr (X : zX p la e R s m args below meth c nL D cy b n0 cc Ts own) {pc : Nat} {K : zC} (hd : decode cc pc = .ok (.iushr, 1)) (h : zS p la e R s m args below meth c Q nL D b n0 (pc + 1) K) : zS p la e R s m args below meth c Q nL D b n0 pc (z_bin (fun x y => (x.toUInt32 >>> (y.toUInt32 &&& Int32.toUInt32 31)).toInt32) K) := by
  intro l st k u E q0 ls H locs hl hP hS
  match st, q0 with
  | .int y :: .int x :: r, q => exact lv_iushr X.1.1 X.1.2.1 hd rfl (h _ _ _ _ _ q ls H locs hl hP hS)
theorem s_idiv (X : zX p la e R s m args below meth c nL D cy b n0 cc Ts own) {pc : Nat} {K : zC} (hd : decode cc pc = .ok (.idiv, 1)) (h : zS p la e R s m args below meth c Q nL D b n0 (pc + 1) K) : zS p la e R s m args below meth c Q nL D b n0 pc (z_bin0 (fun x y => x / y) K) := by
  intro l st k u E q0 ls H locs hl hP hS
  match st, q0 with
  | .int y :: .int x :: r, q => exact lv_idiv X.1.1 X.1.2.1 hd q.1 (h _ _ _ _ _ q.2 ls H locs hl hP hS)
theorem s_irem (X : zX p la e R s m args below meth c nL D cy b n0 cc Ts own) {pc : Nat} {K : zC} (hd : decode cc pc = .ok (.irem, 1)) (h : zS p la e R s m args below meth c Q nL D b n0 (pc + 1) K) : zS p la e R s m args below meth c Q nL D b n0 pc (z_bin0 (fun x y => x - x / y * y) K) := by
  intro l st k u E q0 ls H locs hl hP hS
  match st, q0 with
  | .int y :: .int x :: r, q => exact lv_irem X.1.1 X.1.2.1 hd q.1 (h _ _ _ _ _ q.2 ls H locs hl hP hS)
theorem s_ineg (X : zX p la e R s m args below meth c nL D cy b n0 cc Ts own) {pc : Nat} {K : zC} (hd : decode cc pc = .ok (.ineg, 1)) (h : zS p la e R s m args below meth c Q nL D b n0 (pc + 1) K) : zS p la e R s m args below meth c Q nL D b n0 pc (z_un (fun x => -x) K) := by
  intro l st k u E q0 ls H locs hl hP hS
  match st, q0 with
  | .int x :: r, q => exact lv_ineg X.1.1 X.1.2.1 hd (h _ _ _ _ _ q ls H locs hl hP hS)
theorem s_i2b (X : zX p la e R s m args below meth c nL D cy b n0 cc Ts own) {pc : Nat} {K : zC} (hd : decode cc pc = .ok (.i2b, 1)) (h : zS p la e R s m args below meth c Q nL D b n0 (pc + 1) K) : zS p la e R s m args below meth c Q nL D b n0 pc (z_un (fun x => x.toInt8.toInt32) K) := by
  intro l st k u E q0 ls H locs hl hP hS
  match st, q0 with
  | .int x :: r, q => exact lv_i2b X.1.1 X.1.2.1 hd rfl (h _ _ _ _ _ q ls H locs hl hP hS)
theorem s_ladd (X : zX p la e R s m args below meth c nL D cy b n0 cc Ts own) {pc : Nat} {K : zC} (hd : decode cc pc = .ok (.ladd, 1)) (h : zS p la e R s m args below meth c Q nL D b n0 (pc + 1) K) : zS p la e R s m args below meth c Q nL D b n0 pc (z_ladd K) := by
  intro l st k u E q0 ls H locs hl hP hS
  match st, q0 with
  | .long y :: .long x :: r, q => exact lv_ladd X.1.1 X.1.2.1 hd (h _ _ _ _ _ q ls H locs hl hP hS)
theorem s_dup (X : zX p la e R s m args below meth c nL D cy b n0 cc Ts own) {pc : Nat} {K : zC} (hd : decode cc pc = .ok (.dup, 1)) (h : zS p la e R s m args below meth c Q nL D b n0 (pc + 1) K) : zS p la e R s m args below meth c Q nL D b n0 pc (z_dup K) := by
  intro l st k u E q0 ls H locs hl hP hS
  match st, q0 with
  | .int x :: r, q => exact lv_dup X.1.1 X.1.2.1 hd rfl (h _ _ _ _ _ q ls H locs hl hP hS)
  | .ref x :: r, q => exact lv_dup X.1.1 X.1.2.1 hd rfl (h _ _ _ _ _ q ls H locs hl hP hS)
theorem s_dup2 (X : zX p la e R s m args below meth c nL D cy b n0 cc Ts own) {pc : Nat} {K : zC} (hd : decode cc pc = .ok (.dup2, 1)) (h : zS p la e R s m args below meth c Q nL D b n0 (pc + 1) K) : zS p la e R s m args below meth c Q nL D b n0 pc (z_dup2 K) := by
  intro l st k u E q0 ls H locs hl hP hS
  match st, q0 with
  | .int x :: .ref y :: r, q => exact lv_dup2_11 X.1.1 X.1.2.1 hd rfl rfl (h _ _ _ _ _ q ls H locs hl hP hS)
theorem s_pop (X : zX p la e R s m args below meth c nL D cy b n0 cc Ts own) {pc : Nat} {K : zC} (hd : decode cc pc = .ok (.pop, 1)) (h : zS p la e R s m args below meth c Q nL D b n0 (pc + 1) K) : zS p la e R s m args below meth c Q nL D b n0 pc (z_pop K) := by
  intro l st k u E q0 ls H locs hl hP hS
  match st, q0 with
  | .int x :: r, q => exact lv_pop X.1.1 X.1.2.1 hd rfl (h _ _ _ _ _ q ls H locs hl hP hS)
theorem s_goto (X : zX p la e R s m args below meth c nL D cy b n0 cc Ts own) {pc tgt : Nat} {off : Int} {K : zC} (hd : decode cc pc = .ok (.goto off, 3)) (ht : (pc : Int) + off = (tgt : Int)) (h : zS p la e R s m args below meth c Q nL D b n0 tgt K) : zS p la e R s m args below meth c Q nL D b n0 pc K :=
  fun l st k u E q ls H locs hl hP hS => lv_goto X.1.1 X.1.2.1 hd ht (h _ _ _ _ _ q ls H locs hl hP hS)
theorem s_if_eq (X : zX p la e R s m args below meth c nL D cy b n0 cc Ts own) {pc tgt : Nat} {off : Int} {Kt Kf : zC} (hd : decode cc pc = .ok (.ifCond .eq off, 3)) (ht : (pc : Int) + off = (tgt : Int)) (h1 : zS p la e R s m args below meth c Q nL D b n0 tgt Kt) (h2 : zS p la e R s m args below meth c Q nL D b n0 (pc + 3) Kf) : zS p la e R s m args below meth c Q nL D b n0 pc (z_if (fun x => x = 0) Kt Kf) := by
  intro l st k u E q0 ls H locs hl hP hS
  match st, q0 with
  | .int x :: r, q => exact lv_if_eq X.1.1 X.1.2.1 hd ht (fun w => h1 _ _ _ _ _ (q.1 w) ls H locs hl hP hS) (fun w => h2 _ _ _ _ _ (q.2 w) ls H locs hl hP hS)
theorem s_if_ne (X : zX p la e R s m args below meth c nL D cy b n0 cc Ts own) {pc tgt : Nat} {off : Int} {Kt Kf : zC} (hd : decode cc pc = .ok (.ifCond .ne off, 3)) (ht : (pc : Int) + off = (tgt : Int)) (h1 : zS p la e R s m args below meth c Q nL D b n0 tgt Kt) (h2 : zS p la e R s m args below meth c Q nL D b n0 (pc + 3) Kf) : zS p la e R s m args below meth c Q nL D b n0 pc (z_if (fun x => x = 0) Kf Kt) := by
  intro l st k u E q0 ls H locs hl hP hS
  match st, q0 with
  | .int x :: r, q => exact lv_if_ne X.1.1 X.1.2.1 hd ht (fun w => h1 _ _ _ _ _ (q.2 w) ls H locs hl hP hS) (fun w => h2 _ _ _ _ _ (q.1 w) ls H locs hl hP hS)
theorem s_if_lt (X : zX p la e R s m args below meth c nL D cy b n0 cc Ts own) {pc tgt : Nat} {off : Int} {Kt Kf : zC} (hd : decode cc pc = .ok (.ifCond .lt off, 3)) (ht : (pc : Int) + off = (tgt : Int)) (h1 : zS p la e R s m args below meth c Q nL D b n0 tgt Kt) (h2 : zS p la e R s m args below meth c Q nL D b n0 (pc + 3) Kf) : zS p la e R s m args below meth c Q nL D b n0 pc (z_if (fun x => x < 0) Kt Kf) := by
  intro l st k u E q0 ls H locs hl hP hS
  match st, q0 with
  | .int x :: r, q => exact lv_if_lt X.1.1 X.1.2.1 hd ht (fun w => h1 _ _ _ _ _ (q.1 w) ls H locs hl hP hS) (fun w => h2 _ _ _ _ _ (q.2 w) ls H locs hl hP hS)
theorem s_if_ge (X : zX p la e R s m args below meth c nL D cy b n0 cc Ts own) {pc tgt : Nat} {off : Int} {Kt Kf : zC} (hd : decode cc pc = .ok (.ifCond .ge off, 3)) (ht : (pc : Int) + off = (tgt : Int)) (h1 : zS p la e R s m args below meth c Q nL D b n0 tgt Kt) (h2 : zS p la e R s m args below meth c Q nL D b n0 (pc + 3) Kf) : zS p la e R s m args below meth c Q nL D b n0 pc (z_if (fun x => 0 ≤ x) Kt Kf) := by
  intro l st k u E q0 ls H locs hl hP hS
  match st, q0 with
  | .int x :: r, q => exact lv_if_ge X.1.1 X.1.2.1 hd ht (fun w => h1 _ _ _ _ _ (q.1 w) ls H locs hl hP hS) (fun w => h2 _ _ _ _ _ (q.2 w) ls H locs hl hP hS)
theorem s_if_gt (X : zX p la e R s m args below meth c nL D cy b n0 cc Ts own) {pc tgt : Nat} {off : Int} {Kt Kf : zC} (hd : decode cc pc = .ok (.ifCond .gt off, 3)) (ht : (pc : Int) + off = (tgt : Int)) (h1 : zS p la e R s m args below meth c Q nL D b n0 tgt Kt) (h2 : zS p la e R s m args below meth c Q nL D b n0 (pc + 3) Kf) : zS p la e R s m args below meth c Q nL D b n0 pc (z_if (fun x => 0 < x) Kt Kf) := by
  intro l st k u E q0 ls H locs hl hP hS
  match st, q0 with
  | .int x :: r, q => exact lv_if_gt X.1.1 X.1.2.1 hd ht (fun w => h1 _ _ _ _ _ (q.1 w) ls H locs hl hP hS) (fun w => h2 _ _ _ _ _ (q.2 w) ls H locs hl hP hS)
theorem s_if_le (X : zX p la e R s m args below meth c nL D cy b n0 cc Ts own) {pc tgt : Nat} {off : Int} {Kt Kf : zC} (hd : decode cc pc = .ok (.ifCond .le off, 3)) (ht : (pc : Int) + off = (tgt : Int)) (h1 : zS p la e R s m args below meth c Q nL D b n0 tgt Kt) (h2 : zS p la e R s m args below meth c Q nL D b n0 (pc + 3) Kf) : zS p la e R s m args below meth c Q nL D b n0 pc (z_if (fun x => x ≤ 0) Kt Kf) := by
  intro l st k u E q0 ls H locs hl hP hS
  match st, q0 with
  | .int x :: r, q => exact lv_if_le X.1.1 X.1.2.1 hd ht (fun w => h1 _ _ _ _ _ (q.1 w) ls H locs hl hP hS) (fun w => h2 _ _ _ _ _ (q.2 w) ls H locs hl hP hS)
theorem s_icmp_eq (X : zX p la e R s m args below meth c nL D cy b n0 cc Ts own) {pc tgt : Nat} {off : Int} {Kt Kf : zC} (hd : decode cc pc = .ok (.if_icmp .eq off, 3)) (ht : (pc : Int) + off = (tgt : Int)) (h1 : zS p la e R s m args below meth c Q nL D b n0 tgt Kt) (h2 : zS p la e R s m args below meth c Q nL D b n0 (pc + 3) Kf) : zS p la e R s m args below meth c Q nL D b n0 pc (z_icmp (fun x y => x = y) Kt Kf) := by
  intro l st k u E q0 ls H locs hl hP hS
  match st, q0 with
  | .int y :: .int x :: r, q => exact lv_icmp_eq X.1.1 X.1.2.1 hd ht (fun w => h1 _ _ _ _ _ (q.1 w) ls H locs hl hP hS) (fun w => h2 _ _ _ _ _ (q.2 w) ls H locs hl hP hS)
theorem s_icmp_ne (X : zX p la e R s m args below meth c nL D cy b n0 cc Ts own) {pc tgt : Nat} {off : Int} {Kt Kf : zC} (hd : decode cc pc = .ok (.if_icmp .ne off, 3)) (ht : (pc : Int) + off = (tgt : Int)) (h1 : zS p la e R s m args below meth c Q nL D b n0 tgt Kt) (h2 : zS p la e R s m args below meth c Q nL D b n0 (pc + 3) Kf) : zS p la e R s m args below meth c Q nL D b n0 pc (z_icmp (fun x y => x = y) Kf Kt) := by
  intro l st k u E q0 ls H locs hl hP hS
  match st, q0 with
  | .int y :: .int x :: r, q => exact lv_icmp_ne X.1.1 X.1.2.1 hd ht (fun w => h1 _ _ _ _ _ (q.2 w) ls H locs hl hP hS) (fun w => h2 _ _ _ _ _ (q.1 w) ls H locs hl hP hS)
theorem s_icmp_lt (X : zX p la e R s m args below meth c nL D cy b n0 cc Ts own) {pc tgt : Nat} {off : Int} {Kt Kf : zC} (hd : decode cc pc = .ok (.if_icmp .lt off, 3)) (ht : (pc : Int) + off = (tgt : Int)) (h1 : zS p la e R s m args below meth c Q nL D b n0 tgt Kt) (h2 : zS p la e R s m args below meth c Q nL D b n0 (pc + 3) Kf) : zS p la e R s m args below meth c Q nL D b n0 pc (z_icmp (fun x y => x < y) Kt Kf) := by
  intro l st k u E q0 ls H locs hl hP hS
  match st, q0 with
  | .int y :: .int x :: r, q => exact lv_icmp_lt X.1.1 X.1.2.1 hd ht (fun w => h1 _ _ _ _ _ (q.1 w) ls H locs hl hP hS) (fun w => h2 _ _ _ _ _ (q.2 w) ls H locs hl hP hS)
theorem s_icmp_ge (X : zX p la e R s m args below meth c nL D cy b n0 cc Ts own) {pc tgt : Nat} {off : Int} {Kt Kf : zC} (hd : decode cc pc = .ok (.if_icmp .ge off, 3)) (ht : (pc : Int) + off = (tgt : Int)) (h1 : zS p la e R s m args below meth c Q nL D b n0 tgt Kt) (h2 : zS p la e R s m args below meth c Q nL D b n0 (pc + 3) Kf) : zS p la e R s m args below meth c Q nL D b n0 pc (z_icmp (fun x y => y ≤ x) Kt Kf) := by
  intro l st k u E q0 ls H locs hl hP hS
  match st, q0 with
  | .int y :: .int x :: r, q => exact lv_icmp_ge X.1.1 X.1.2.1 hd ht (fun w => h1 _ _ _ _ _ (q.1 w) ls H locs hl hP hS) (fun w => h2 _ _ _ _ _ (q.2 w) ls H locs hl hP hS)
theorem s_icmp_gt (X : zX p la e R s m args below meth c nL D cy b n0 cc Ts own) {pc tgt : Nat} {off : Int} {Kt Kf : zC} (hd : decode cc pc = .ok (.if_icmp .gt off, 3)) (ht : (pc : Int) + off = (tgt : Int)) (h1 : zS p la e R s m args below meth c Q nL D b n0 tgt Kt) (h2 : zS p la e R s m args below meth c Q nL D b n0 (pc + 3) Kf) : zS p la e R s m args below meth c Q nL D b n0 pc (z_icmp (fun x y => y < x) Kt Kf) := by
  intro l st k u E q0 ls H locs hl hP hS
  match st, q0 with
  | .int y :: .int x :: r, q => exact lv_icmp_gt X.1.1 X.1.2.1 hd ht (fun w => h1 _ _ _ _ _ (q.1 w) ls H locs hl hP hS) (fun w => h2 _ _ _ _ _ (q.2 w) ls H locs hl hP hS)
theorem s_icmp_le (X : zX p la e R s m args below meth c nL D cy b n0 cc Ts own) {pc tgt : Nat} {off : Int} {Kt Kf : zC} (hd : decode cc pc = .ok (.if_icmp .le off, 3)) (ht : (pc : Int) + off = (tgt : Int)) (h1 : zS p la e R s m args below meth c Q nL D b n0 tgt Kt) (h2 : zS p la e R s m args below meth c Q nL D b n0 (pc + 3) Kf) : zS p la e R s m args below meth c Q nL D b n0 pc (z_icmp (fun x y => x ≤ y) Kt Kf) := by
  intro l st k u E q0 ls H locs hl hP hS
  match st, q0 with
  | .int y :: .int x :: r, q => exact lv_icmp_le X.1.1 X.1.2.1 hd ht (fun w => h1 _ _ _ _ _ (q.1 w) ls H locs hl hP hS) (fun w => h2 _ _ _ _ _ (q.2 w) ls H locs hl hP hS)
theorem s_get (X : zX p la e R s m args below meth c nL D cy b n0 cc Ts own) {pc ci fk idx N : Nat} {C : String} {T : u_T} {K : zC} (hd : decode cc pc = .ok (.getfield idx, 3)) (hc : vwCl[ci]? = some (C, T, N)) (hin : ∀ w ∈ u_ws C T N, w ∈ Ts) (hk : fk < N) (hl : Cond.fieldLink own idx (T fk).1 (T fk).2.1 (T fk).2.2.1 ∈ Ts) (h : zS p la e R s m args below meth c Q nL D b n0 (pc + 3) K) : zS p la e R s m args below meth c Q nL D b n0 pc (z_get b n0 ci fk K) := by
  intro l st k u E q0 ls H locs hls hP hS
  match st, q0 with
  | .ref a :: r, q =>
    obtain ⟨h1, h2, q⟩ := q
    obtain ⟨i, rfl⟩ := Nat.exists_eq_add_of_le h1
    rw [Nat.add_sub_cancel_left] at h2 q
    rcases hE : E i with o | ⟨cc1, fs⟩
    · rw [hE] at q; exact absurd q id
    · rw [hE] at q
      obtain ⟨rfl, q⟩ := q
      rcases hv : fs[fk]? with _ | v
      · rw [hv] at q; exact absurd q id
      · rw [hv] at q
        exact va_get X.1.1 X.1.2.1 X.1.2.2.2.2 hin X.1.2.2.2.1 X.2.1.1 hP i (by rw [zwl_at h2, hE]) hc fk hk (X.1.2.2.2.2 _ hl) (fun _ h9 => h9) hv hd (h _ _ _ _ _ q ls H locs hls hP hS)
theorem s_put (X : zX p la e R s m args below meth c nL D cy b n0 cc Ts own) {pc ci fk vt idx N : Nat} {C : String} {T : u_T} {ty0 : Nat → FieldType} {ty : FieldType} {K : zC} (hd : decode cc pc = .ok (.putfield idx, 3)) (hc : vwCl[ci]? = some (C, T, N)) (hin : ∀ w ∈ u_ws C T N, w ∈ Ts) (hty : ∀ k, k < N → parseFieldDescriptor (T k).2.2.1 = some (ty0 k)) (hnm : ∀ a, a < N → ∀ b, b < N → a ≠ b → (T a).2.1 ≠ (T b).2.1) (hk : fk < N) (hl : Cond.fieldLink own idx (T fk).1 (T fk).2.1 (T fk).2.2.1 ∈ Ts) (hfin : (T fk).2.2.2 = false) (hty1 : parseFieldDescriptor (T fk).2.2.1 = some ty) (hfit : ∀ v, zok vt v → narrow ty v = v ∧ fits ty v = true) (h : zS p la e R s m args below meth c Q nL D b n0 (pc + 3) K) : zS p la e R s m args below meth c Q nL D b n0 pc (z_put b n0 ci fk vt K) := by
  intro l st k u E q0 ls H locs hls hP hS
  match st, q0 with
  | v :: .ref a :: r, q =>
    obtain ⟨h1, h2, q⟩ := q
    obtain ⟨i, rfl⟩ := Nat.exists_eq_add_of_le h1
    rw [Nat.add_sub_cancel_left] at h2 q
    rcases hE : E i with o | ⟨cc1, fs⟩
    · rw [hE] at q; exact absurd q id
    · rw [hE] at q
      obtain ⟨rfl, hlen, hok, q⟩ := q
      refine va_put X.1.1 X.1.2.1 X.1.2.2.2.2 hin ty0 hty hnm X.1.2.2.2.1 X.2.1.1 hP zwl_D hS i (by rw [zwl_at h2, hE]) hc fk hk (X.1.2.2.2.2 _ hl) (fun _ h9 => h9) hfin hty1 (hfit v hok).1 (hfit v hok).2 hlen hd (fun H1 locs1 hP1 hD1 hS1 => ?_)
      rw [zwl_set _ h2] at hP1
      exact h _ _ _ _ _ q ls H1 locs1 hls hP1 hS1
theorem s_putF (X : zX p la e R s m args below meth c nL D cy b n0 cc Ts own) {pc ci fk vt idx N : Nat} {C : String} {T : u_T} {ty0 : Nat → FieldType} {ty : FieldType} {K : zC} (hd : decode cc pc = .ok (.putfield idx, 3)) (hinit : meth.name = "<init>") (hc : vwCl[ci]? = some (C, T, N)) (hin : ∀ w ∈ u_ws C T N, w ∈ Ts) (hty : ∀ k, k < N → parseFieldDescriptor (T k).2.2.1 = some (ty0 k)) (hnm : ∀ a, a < N → ∀ b, b < N → a ≠ b → (T a).2.1 ≠ (T b).2.1) (hk : fk < N) (hl : Cond.fieldLink own idx (T fk).1 (T fk).2.1 (T fk).2.2.1 ∈ Ts) (hfin : (T fk).2.2.2 = true) (hown2 : (T fk).1 = own) (hty1 : parseFieldDescriptor (T fk).2.2.1 = some ty) (hfit : ∀ v, zok vt v → narrow ty v = v ∧ fits ty v = true) (h : zS p la e R s m args below meth c Q nL D b n0 (pc + 3) K) : zS p la e R s m args below meth c Q nL D b n0 pc (z_put b n0 ci fk vt K) := by
  intro l st k u E q0 ls H locs hls hP hS
  match st, q0 with
  | v :: .ref a :: r, q =>
    obtain ⟨h1, h2, q⟩ := q
    obtain ⟨i, rfl⟩ := Nat.exists_eq_add_of_le h1
    rw [Nat.add_sub_cancel_left] at h2 q
    rcases hE : E i with o | ⟨cc1, fs⟩
    · rw [hE] at q; exact absurd q id
    · rw [hE] at q
      obtain ⟨rfl, hlen, hok, q⟩ := q
      refine va_putF X.1.1 X.1.2.1 X.1.2.2.2.2 hin ty0 hty hnm X.1.2.2.2.1 X.2.1.1 hP zwl_D hS i (by rw [zwl_at h2, hE]) hc fk hk (X.1.2.2.2.2 _ hl) (fun _ h9 => h9) hfin hinit hown2 hty1 (hfit v hok).1 (hfit v hok).2 hlen hd (fun H1 locs1 hP1 hD1 hS1 => ?_)
      rw [zwl_set _ h2] at hP1
      exact h _ _ _ _ _ q ls H1 locs1 hls hP1 hS1
theorem s_iald (X : zX p la e R s m args below meth c nL D cy b n0 cc Ts own) {pc : Nat} {K : zC} (hd : decode cc pc = .ok (.iaload, 1)) (h : zS p la e R s m args below meth c Q nL D b n0 (pc + 1) K) : zS p la e R s m args below meth c Q nL D b n0 pc (z_ald b n0 (cy 1) K) := by
  intro l st k u E q0 ls H locs hls hP hS
  match st, q0 with
  | .int i :: .ref a :: r, q =>
    obtain ⟨h1, h2, q⟩ := q
    obtain ⟨j, rfl⟩ := Nat.exists_eq_add_of_le h1
    rw [Nat.add_sub_cancel_left] at h2 q
    rcases hE : E j with ⟨c0, len, f | f⟩ | o
    case inl.inr => rw [hE] at q; exact absurd q id
    case inr => rw [hE] at q; exact absurd q id
    · rw [hE] at q
      obtain ⟨rfl, hi, q⟩ := q
      exact va_iald X.1.1 X.1.2.1 X.2.1.1 hP j 1 (by rw [zwl_at h2, hE]) rfl hi hd (h _ _ _ _ _ q ls H locs hls hP hS)
theorem s_bald (X : zX p la e R s m args below meth c nL D cy b n0 cc Ts own) {pc : Nat} {K : zC} (hd : decode cc pc = .ok (.baload, 1)) (h : zS p la e R s m args below meth c Q nL D b n0 (pc + 1) K) : zS p la e R s m args below meth c Q nL D b n0 pc (z_ald b n0 (cy 0) K) := by
  intro l st k u E q0 ls H locs hls hP hS
  match st, q0 with
  | .int i :: .ref a :: r, q =>
    obtain ⟨h1, h2, q⟩ := q
    obtain ⟨j, rfl⟩ := Nat.exists_eq_add_of_le h1
    rw [Nat.add_sub_cancel_left] at h2 q
    rcases hE : E j with ⟨c0, len, f | f⟩ | o
    case inl.inr => rw [hE] at q; exact absurd q id
    case inr => rw [hE] at q; exact absurd q id
    · rw [hE] at q
      obtain ⟨rfl, hi, q⟩ := q
      exact va_bald X.1.1 X.1.2.1 X.2.1.1 hP j 0 (by rw [zwl_at h2, hE]) rfl hi hd (h _ _ _ _ _ q ls H locs hls hP hS)
theorem s_zald (X : zX p la e R s m args below meth c nL D cy b n0 cc Ts own) {pc : Nat} {K : zC} (hd : decode cc pc = .ok (.baload, 1)) (h : zS p la e R s m args below meth c Q nL D b n0 (pc + 1) K) : zS p la e R s m args below meth c Q nL D b n0 pc (z_ald b n0 (cy 2) K) := by
  intro l st k u E q0 ls H locs hls hP hS
  match st, q0 with
  | .int i :: .ref a :: r, q =>
    obtain ⟨h1, h2, q⟩ := q
    obtain ⟨j, rfl⟩ := Nat.exists_eq_add_of_le h1
    rw [Nat.add_sub_cancel_left] at h2 q
    rcases hE : E j with ⟨c0, len, f | f⟩ | o
    case inl.inr => rw [hE] at q; exact absurd q id
    case inr => rw [hE] at q; exact absurd q id
    · rw [hE] at q
      obtain ⟨rfl, hi, q⟩ := q
      exact va_zald X.1.1 X.1.2.1 X.2.1.1 hP j 2 (by rw [zwl_at h2, hE]) rfl hi hd (h _ _ _ _ _ q ls H locs hls hP hS)
theorem s_iast (X : zX p la e R s m args below meth c nL D cy b n0 cc Ts own) {pc : Nat} {K : zC} (hd : decode cc pc = .ok (.iastore, 1)) (h : zS p la e R s m args below meth c Q nL D b n0 (pc + 1) K) : zS p la e R s m args below meth c Q nL D b n0 pc (z_ast b n0 (cy 1) (fun x => x) K) := by
  intro l st k u E q0 ls H locs hls hP hS
  match st, q0 with
  | .int x :: .int i :: .ref a :: r, q =>
    obtain ⟨h1, h2, q⟩ := q
    obtain ⟨j, rfl⟩ := Nat.exists_eq_add_of_le h1
    rw [Nat.add_sub_cancel_left] at h2 q
    rcases hE : E j with ⟨c0, len, f | f⟩ | o
    case inl.inr => rw [hE] at q; exact absurd q id
    case inr => rw [hE] at q; exact absurd q id
    · rw [hE] at q
      obtain ⟨rfl, hi, q⟩ := q
      refine va_iast X.1.1 X.1.2.1 X.2.1.1 hP zwl_D hS j 1 (by rw [zwl_at h2, hE]) rfl hi hd (fun H1 locs1 hP1 hD1 hS1 => ?_)
      rw [zwl_set _ h2] at hP1
      exact h _ _ _ _ _ q ls H1 locs1 hls hP1 hS1
theorem s_bast (X : zX p la e R s m args below meth c nL D cy b n0 cc Ts own) {pc : Nat} {K : zC} (hd : decode cc pc = .ok (.bastore, 1)) (h : zS p la e R s m args below meth c Q nL D b n0 (pc + 1) K) : zS p la e R s m args below meth c Q nL D b n0 pc (z_ast b n0 (cy 0) (fun x => vp_nar .byte x) K) := by
  intro l st k u E q0 ls H locs hls hP hS
  match st, q0 with
  | .int x :: .int i :: .ref a :: r, q =>
    obtain ⟨h1, h2, q⟩ := q
    obtain ⟨j, rfl⟩ := Nat.exists_eq_add_of_le h1
    rw [Nat.add_sub_cancel_left] at h2 q
    rcases hE : E j with ⟨c0, len, f | f⟩ | o
    case inl.inr => rw [hE] at q; exact absurd q id
    case inr => rw [hE] at q; exact absurd q id
    · rw [hE] at q
      obtain ⟨rfl, hi, q⟩ := q
      refine va_bast X.1.1 X.1.2.1 X.2.1.1 hP zwl_D hS j 0 (by rw [zwl_at h2, hE]) rfl hi hd (fun H1 locs1 hP1 hD1 hS1 => ?_)
      rw [zwl_set _ h2] at hP1
      exact h _ _ _ _ _ q ls H1 locs1 hls hP1 hS1
theorem s_zast (X : zX p la e R s m args below meth c nL D cy b n0 cc Ts own) {pc : Nat} {K : zC} (hd : decode cc pc = .ok (.bastore, 1)) (h : zS p la e R s m args below meth c Q nL D b n0 (pc + 1) K) : zS p la e R s m args below meth c Q nL D b n0 pc (z_ast b n0 (cy 2) (fun x => vp_nar .boolean x) K) := by
  intro l st k u E q0 ls H locs hls hP hS
  match st, q0 with
  | .int x :: .int i :: .ref a :: r, q =>
    obtain ⟨h1, h2, q⟩ := q
    obtain ⟨j, rfl⟩ := Nat.exists_eq_add_of_le h1
    rw [Nat.add_sub_cancel_left] at h2 q
    rcases hE : E j with ⟨c0, len, f | f⟩ | o
    case inl.inr => rw [hE] at q; exact absurd q id
    case inr => rw [hE] at q; exact absurd q id
    · rw [hE] at q
      obtain ⟨rfl, hi, q⟩ := q
      refine va_zast X.1.1 X.1.2.1 X.2.1.1 hP zwl_D hS j 2 (by rw [zwl_at h2, hE]) rfl hi hd (fun H1 locs1 hP1 hD1 hS1 => ?_)
      rw [zwl_set _ h2] at hP1
      exact h _ _ _ _ _ q ls H1 locs1 hls hP1 hS1
theorem s_aald (X : zX p la e R s m args below meth c nL D cy b n0 cc Ts own) {pc t0 : Nat} {C : String} {cA : ClassId} {K : zC} (hd : decode cc pc = .ok (.aaload, 1)) (ht : (zty cy)[t0]? = some (cA, .object C)) (h : zS p la e R s m args below meth c Q nL D b n0 (pc + 1) K) : zS p la e R s m args below meth c Q nL D b n0 pc (z_aald b n0 cA K) := by
  intro l st k u E q0 ls H locs hls hP hS
  match st, q0 with
  | .int i :: .ref a :: r, q =>
    obtain ⟨h1, h2, q⟩ := q
    obtain ⟨j, rfl⟩ := Nat.exists_eq_add_of_le h1
    rw [Nat.add_sub_cancel_left] at h2 q
    rcases hE : E j with ⟨c0, len, f | f | f | f | f⟩ | o
    case inl.inr.inr.inr.inr =>
      rw [hE] at q
      obtain ⟨rfl, hi, q⟩ := q
      exact va_aldq X.1.1 X.1.2.1 X.2.1.1 hP j t0 (by rw [zwl_at h2, hE]) ht hi hd (h _ _ _ _ _ q ls H locs hls hP hS)
    all_goals (rw [hE] at q; exact absurd q id)
theorem s_aast (X : zX p la e R s m args below meth c nL D cy b n0 cc Ts own) {pc t0 ci : Nat} {rr : vw_C} {cA : ClassId} {K : zC} (hd : decode cc pc = .ok (.aastore, 1)) (hc : vwCl[ci]? = some rr) (ht : (zty cy)[t0]? = some (cA, .object rr.1)) (h : zS p la e R s m args below meth c Q nL D b n0 (pc + 1) K) : zS p la e R s m args below meth c Q nL D b n0 pc (z_aast b n0 cA ci K) := by
  intro l st k u E q0 ls H locs hls hP hS
  match st, q0 with
  | .ref v :: .int i :: .ref a :: r, q =>
    obtain ⟨h1, h2, h3, h4, q2, q⟩ := q
    obtain ⟨j, rfl⟩ := Nat.exists_eq_add_of_le h1
    obtain ⟨jv, rfl⟩ := Nat.exists_eq_add_of_le h3
    rw [Nat.add_sub_cancel_left] at h2 h4 q q2
    rcases hV : E jv with o | ⟨cv, fv⟩
    · rw [hV] at q2; exact absurd q2 id
    rw [hV] at q2
    replace q2 : cv = ci := q2
    subst q2
    rcases hE : E j with ⟨c0, len, f | f | f | f | f⟩ | o
    case inl.inr.inr.inr.inr =>
      rw [hE] at q
      obtain ⟨rfl, hi, q⟩ := q
      refine va_astq X.1.1 X.1.2.1 X.2.1.1 hP zwl_D hS j t0 jv cv (by rw [zwl_at h2, hE]) ht (by rw [zwl_at h4, hV]) hc hi hd (fun H1 locs1 hP1 hD1 hS1 => ?_)
      rw [zwl_set _ h2] at hP1
      exact h _ _ _ _ _ q ls H1 locs1 hls hP1 hS1
    all_goals (rw [hE] at q; exact absurd q id)
theorem z_cat {st : List Value} (h : st.length ≤ 4) : (st.map fun v => v.category).sum ≤ 8 := by
  have h2 : ∀ st : List Value, (st.map fun v => v.category).sum ≤ 2 * st.length := by
    intro st
    induction st with
    | nil => simp
    | cons v t ih =>
      rw [List.map_cons, List.sum_cons, List.length_cons]
      have : v.category ≤ 2 := by rcases lv_cat v with h | h <;> omega
      omega
  have := h2 st
  omega
theorem z_fits_int : ∀ i : Nat, ∀ (f : Nat → Int32), fits .int (.int (f i)) = true := fun _ _ => rfl
theorem s_copy (X : zX p la e R s m args below meth c nL D cy b n0 cc Ts own) {pc idx : Nat} {K : zC} (hd : decode cc pc = .ok (.invokestatic idx, 3)) (hl : Cond.methodLink own idx arraycopyName ∈ Ts) (hn : Cond.native arraycopyName ∈ Ts) (hs : Cond.static arraycopyName ∈ Ts) (hi : Cond.initialized "java/lang/System" ∈ Ts) (hf : 1 ≤ R.frames) (hr : 40 ≤ R.locals) (h : zS p la e R s m args below meth c Q nL D b n0 (pc + 3) K) : zS p la e R s m args below meth c Q nL D b n0 pc (z_copy b n0 (cy 1) K) := by
  intro l st k u E q0 ls H locs hls hP hS
  match st, q0 with
  | .int n :: .int dp :: .ref a :: .int sp :: .ref a0 :: r, q =>
    obtain ⟨hlen, h1, h2, h3, h4, rfl, rfl, hn0, q⟩ := q
    obtain ⟨j, rfl⟩ := Nat.exists_eq_add_of_le h1
    obtain ⟨j0, rfl⟩ := Nat.exists_eq_add_of_le h3
    rw [Nat.add_sub_cancel_left] at h2 h4 q
    rcases hE0 : E j0 with ⟨c0, len0, f | f⟩ | o
    case inl.inr => rw [hE0] at q; exact absurd q id
    case inr => rw [hE0] at q; exact absurd q id
    · rw [hE0] at q
      replace q : (match E (b + j - b) with | .inl (c1, len1, .inl g) => c0 = cy 1 ∧ c1 = cy 1 ∧ n.toNatClampNeg ≤ len0 ∧ n.toNatClampNeg ≤ len1 ∧ K l r k u (va_up E (b + j - b) (.inl (cy 1, len1, .inl (va_cpy f g 0 0 n.toNatClampNeg)))) | _ => False) := q
      rw [Nat.add_sub_cancel_left] at q
      rcases hE : E j with ⟨c1, len1, g | g⟩ | o
      case inl.inr => rw [hE] at q; exact absurd q id
      case inr => rw [hE] at q; exact absurd q id
      · rw [hE] at q
        obtain ⟨rfl, rfl, hn1, hn2, q⟩ := q
        have hc := z_cat hlen
        have e0 : (0 : Int32).toNatClampNeg = 0 := rfl
        refine va_copyi (sp := 0) (dp := 0) X.1.1 X.1.2.1 (by rw [X.1.2.2.1]; exact hls.1.1.symm) X.1.2.2.2.1 (X.1.2.2.2.2 _ hl) (X.1.2.2.2.2 _ hn) (X.1.2.2.2.2 _ hs) (X.1.2.2.2.2 _ hi) X.2.1.1 hP zwl_D hS j0 j 1 1 (by rw [zwl_at h4, hE0]) (by rw [zwl_at h2, hE]) rfl rfl rfl (by decide) (by decide) hn0 (by rw [e0]; omega) (by rw [e0]; omega) (fun _ _ => rfl) hf ?_ hd (fun H1 locs1 hP1 hD1 hS1 => ?_)
        · have : nativeFrameWords "java/lang/System" "arraycopy" 5 ≤ 20 := by decide +kernel
          omega
        · rw [zwl_set _ h2] at hP1
          exact h _ _ _ _ _ q ls H1 locs1 hls hP1 hS1
theorem z_size (X : zX p la e R s m args below meth c nL D cy b n0 cc Ts own) {H : Heap} {locs : List Loc} {k u : Nat} {E : zE} {g : JFrame} (hP : va_P D vwCl (zwl b (n0 + k) E) H) (hS : va_S (fun q => b ≤ q) s.heap H locs) (kk : H.size = b + (n0 + k) → W p la e R s m args below meth c H locs k u Q g) : W p la e R s m args below meth c H locs k u Q g := by
  intro T hT Xs
  refine kk ?_ T hT Xs
  have h1 : H.size ≤ s.heap.size + k := by rw [← hT]; exact Xs.same.2.2.1
  have h2 : b + (n0 + k) ≤ H.size := by
    by_cases e : n0 + k = 0
    · have := hS.1
      have h5 := X.2.2.1
      omega
    · have h6 : n0 + k - 1 < n0 + k := by omega
      have h7 := (hP _ _ (zwl_at (b := b) (E := E) h6)).lt
      show _ ≤ _
      have h8 : b + (n0 + k - 1) < H.size := h7
      omega
  have h5 := X.2.2.1
  omega
theorem z_fresh (X : zX p la e R s m args below meth c nL D cy b n0 cc Ts own) {H H1 : Heap} {k : Nat} {E : zE} {a : Nat} {e0 : va_E} (hP : va_P D vwCl (zwl b (n0 + k) E) H) (hP1 : va_P D vwCl (zwl b (n0 + k) E ++ [(a, e0)]) H1) (hD1 : va_D (fun q => b ≤ q) (zwl b (n0 + k) E ++ [(a, e0)])) (hz : H1.size ≤ s.heap.size + (k + 1)) : a = b + (n0 + k) := by
  have hl : (zwl b (n0 + k) E ++ [(a, e0)])[n0 + k]? = some (a, e0) := by
    rw [List.getElem?_append_right (by rw [zwl_len]; exact Nat.le_refl _), zwl_len, Nat.sub_self]
    rfl
  have h1 : a < H1.size := (hP1 _ _ hl).lt
  have h2 : b ≤ a := hD1.2 _ _ hl
  have h5 := X.2.2.1
  rcases Nat.lt_or_ge a (b + (n0 + k)) with h3 | h3
  · exfalso
    have h4 : a - b < n0 + k := by omega
    have h6 : (zwl b (n0 + k) E ++ [(a, e0)])[a - b]? = some (b + (a - b), E (a - b)) := by
      rw [List.getElem?_append_left (by rw [zwl_len]; exact h4)]
      exact zwl_at h4
    have h7 := hD1.1 _ _ _ _ h6 hl (by show b + (a - b) = a; omega)
    omega
  · omega
theorem s_table (X : zX p la e R s m args below meth c nL D cy b n0 cc Ts own) {pc len tgt : Nat} {dflt lo hi : Int} {offs : Array Int} {t : List (Int32 × zC)} {Kd : zC} (hd : decode cc pc = .ok (.tableswitch dflt lo hi offs, len))
    (ht : ∀ (x : Int32), (∀ q ∈ t, ¬ x = q.1) → x.toInt < lo ∨ hi < x.toInt) (htd : (pc : Int) + dflt = (tgt : Int)) (hKd : zS p la e R s m args below meth c Q nL D b n0 tgt Kd)
    (hc : ∀ q ∈ t, ∃ (off : Int) (tg : Nat), ¬ q.1.toInt < lo ∧ ¬ hi < q.1.toInt ∧ offs[(q.1.toInt - lo).toNat]? = some off ∧ (pc : Int) + off = (tg : Int) ∧ zS p la e R s m args below meth c Q nL D b n0 tg q.2) : zS p la e R s m args below meth c Q nL D b n0 pc (z_switch t Kd) := by
  intro l st k u E q0 ls H locs hls hP hS
  match st, q0 with
  | .int x :: r, q =>
    have key : ∀ t' : List (Int32 × zC), z_sw t' Kd x l r k u E → (∃ v K, (v, K) ∈ t' ∧ x = v ∧ K l r k u E) ∨ ((∀ v K, (v, K) ∈ t' → ¬ x = v) ∧ Kd l r k u E) := by
      intro t'
      induction t' with
      | nil => exact fun h => Or.inr ⟨fun v K h => absurd h List.not_mem_nil, h⟩
      | cons w t' ih =>
        obtain ⟨v, K⟩ := w
        intro h
        by_cases e : x = v
        · exact Or.inl ⟨v, K, List.mem_cons_self, e, h.1 e⟩
        · rcases ih (h.2 e) with ⟨v', K', h1, h2, h3⟩ | ⟨h1, h2⟩
          · exact Or.inl ⟨v', K', List.mem_cons_of_mem _ h1, h2, h3⟩
          · refine Or.inr ⟨fun v' K' hm => ?_, h2⟩
            rcases List.mem_cons.mp hm with e2 | e2
            · cases e2; exact e
            · exact h1 v' K' e2
    rcases key t q with ⟨v, K, h1, rfl, h3⟩ | ⟨h1, h2⟩
    · obtain ⟨off, tg, g1, g2, g3, g4, g5⟩ := hc (x, K) h1
      exact lv_tableIn X.1.1 X.1.2.1 hd g1 g2 g3 g4 (g5 _ _ _ _ _ h3 ls H locs hls hP hS)
    · exact lv_tableOut X.1.1 X.1.2.1 hd (ht x (fun q hq => h1 q.1 q.2 hq)) htd (hKd _ _ _ _ _ h2 ls H locs hls hP hS)
theorem s_lookup (X : zX p la e R s m args below meth c nL D cy b n0 cc Ts own) {pc len tgt : Nat} {dflt : Int} {ps : Array (Int × Int)} {t : List (Int32 × zC)} {Kd : zC} (hd : decode cc pc = .ok (.lookupswitch dflt ps, len)) (hp : (ps.toList.zip (ps.toList.drop 1)).all (fun (a, next) => a.1 < next.1) = true)
    (ht : ∀ (x : Int32), (∀ q ∈ t, ¬ x = q.1) → Op.lookupswitch.offset ps.toList dflt x.toInt = dflt) (htd : (pc : Int) + dflt = (tgt : Int)) (hKd : zS p la e R s m args below meth c Q nL D b n0 tgt Kd)
    (hc : ∀ q ∈ t, ∃ (off : Int) (tg : Nat), Op.lookupswitch.offset ps.toList dflt q.1.toInt = off ∧ (pc : Int) + off = (tg : Int) ∧ zS p la e R s m args below meth c Q nL D b n0 tg q.2) : zS p la e R s m args below meth c Q nL D b n0 pc (z_switch t Kd) := by
  intro l st k u E q0 ls H locs hls hP hS
  match st, q0 with
  | .int x :: r, q =>
    have key : ∀ t' : List (Int32 × zC), z_sw t' Kd x l r k u E → (∃ v K, (v, K) ∈ t' ∧ x = v ∧ K l r k u E) ∨ ((∀ v K, (v, K) ∈ t' → ¬ x = v) ∧ Kd l r k u E) := by
      intro t'
      induction t' with
      | nil => exact fun h => Or.inr ⟨fun v K h => absurd h List.not_mem_nil, h⟩
      | cons w t' ih =>
        obtain ⟨v, K⟩ := w
        intro h
        by_cases e : x = v
        · exact Or.inl ⟨v, K, List.mem_cons_self, e, h.1 e⟩
        · rcases ih (h.2 e) with ⟨v', K', h1, h2, h3⟩ | ⟨h1, h2⟩
          · exact Or.inl ⟨v', K', List.mem_cons_of_mem _ h1, h2, h3⟩
          · refine Or.inr ⟨fun v' K' hm => ?_, h2⟩
            rcases List.mem_cons.mp hm with e2 | e2
            · cases e2; exact e
            · exact h1 v' K' e2
    rcases key t q with ⟨v, K, h1, rfl, h3⟩ | ⟨h1, h2⟩
    · obtain ⟨off, tg, g1, g2, g3⟩ := hc (x, K) h1
      exact lv_lookup X.1.1 X.1.2.1 hd hp g1 g2 (g3 _ _ _ _ _ h3 ls H locs hls hP hS)
    · exact lv_lookup X.1.1 X.1.2.1 hd hp (ht x (fun q hq => h1 q.1 q.2 hq)) htd (hKd _ _ _ _ _ h2 ls H locs hls hP hS)
theorem s_min (X : zX p la e R s m args below meth c nL D cy b n0 cc Ts own) {pc idx : Nat} {K : zC} (hd : decode cc pc = .ok (.invokestatic idx, 3)) (hl : Cond.methodLink own idx Lib.Math.min.name ∈ Ts) (hs : Cond.static Lib.Math.min.name ∈ Ts) (hi : Cond.initialized "java/lang/Math" ∈ Ts) (hco : Cond.code Lib.Math.min.name Lib.Math.min.code 2 (some .int) ∈ Ts) (hf : 1 ≤ R.frames) (hr : 40 ≤ R.locals) (h : zS p la e R s m args below meth c Q nL D b n0 (pc + 3) K) : zS p la e R s m args below meth c Q nL D b n0 pc (z_min R.cells R.slots K) := by
  intro l st k u E q0 ls H locs hls hP hS
  match st, q0 with
  | .int y :: .int x :: r, q =>
    obtain ⟨hlen, hc1, hs1, q⟩ := q
    have hc := z_cat hlen
    exact va_mmin X.1.1 X.1.2.1 (by rw [X.1.2.2.1]; exact hls.1.1.symm) X.1.2.2.2.1 (X.1.2.2.2.2 _ hl) (X.1.2.2.2.2 _ hs) (X.1.2.2.2.2 _ hi) (X.1.2.2.2.2 _ hco) hf (by omega) hc1 hs1 hd (h _ _ _ _ _ q ls H locs hls hP hS)
theorem s_abs (X : zX p la e R s m args below meth c nL D cy b n0 cc Ts own) {pc idx : Nat} {K : zC} (hd : decode cc pc = .ok (.invokestatic idx, 3)) (hl : Cond.methodLink own idx Lib.Math.abs.name ∈ Ts) (hs : Cond.static Lib.Math.abs.name ∈ Ts) (hi : Cond.initialized "java/lang/Math" ∈ Ts) (hco : Cond.code Lib.Math.abs.name Lib.Math.abs.code 1 (some .int) ∈ Ts) (hf : 1 ≤ R.frames) (hr : 40 ≤ R.locals) (h : zS p la e R s m args below meth c Q nL D b n0 (pc + 3) K) : zS p la e R s m args below meth c Q nL D b n0 pc (z_abs R.cells R.slots K) := by
  intro l st k u E q0 ls H locs hls hP hS
  match st, q0 with
  | .int x :: r, q =>
    obtain ⟨hlen, hc1, hs1, q⟩ := q
    have hc := z_cat hlen
    exact va_mabs X.1.1 X.1.2.1 (by rw [X.1.2.2.1]; exact hls.1.1.symm) X.1.2.2.2.1 (X.1.2.2.2.2 _ hl) (X.1.2.2.2.2 _ hs) (X.1.2.2.2.2 _ hi) (X.1.2.2.2.2 _ hco) hf (by omega) hc1 hs1 hd (h _ _ _ _ _ q ls H locs hls hP hS)
theorem s_objInit (X : zX p la e R s m args below meth c nL D cy b n0 cc Ts own) {pc idx : Nat} {K : zC} (hd : decode cc pc = .ok (.invokespecial idx, 3)) (hl : Cond.methodLink own idx Lib.objectInit ∈ Ts) (hs : Cond.instanceMethod Lib.objectInit ∈ Ts) (hco : Cond.code Lib.objectInit ⟨#[0xb1]⟩ 1 none ∈ Ts) (hf : 1 ≤ R.frames) (hr : 40 ≤ R.locals) (h : zS p la e R s m args below meth c Q nL D b n0 (pc + 3) K) : zS p la e R s m args below meth c Q nL D b n0 pc (z_oinit K) := by
  intro l st k u E q0 ls H locs hls hP hS
  match st, q0 with
  | .ref a :: r, q =>
    obtain ⟨hlen, q⟩ := q
    have hc := z_cat hlen
    exact W.objInit X.1.1 X.1.2.1 X.1.2.2.2.1 (X.1.2.2.2.2 _ hl) (X.1.2.2.2.2 _ hs) (X.1.2.2.2.2 _ hco) rfl (by rw [X.1.2.2.1]; exact hls.1.1) rfl hd hf (by show 2 * 0 + _ + 12 ≤ _; omega) (h _ _ _ _ _ q ls H locs hls hP hS)
theorem s_new (X : zX p la e R s m args below meth c nL D cy b n0 cc Ts own) {pc ci nf idx : Nat} {C : String} {T : u_T} {ty0 : Nat → FieldType} {fs : List Value} {K : zC} (hd : decode cc pc = .ok (.new idx, 3)) (hc : vwCl[ci]? = some (C, T, nf)) (hin : ∀ w ∈ u_ws C T nf, w ∈ Ts) (hty : ∀ k, k < nf → parseFieldDescriptor (T k).2.2.1 = some (ty0 k)) (hcl : Cond.classLink own idx C ∈ Ts) (hins : Cond.instantiable C nf ∈ Ts) (hini : Cond.initialized C ∈ Ts) (hfs : ∀ j, j < nf → defaultValue (ty0 j) = vp_V fs j) (h : zS p la e R s m args below meth c Q nL D b n0 (pc + 3) K) : zS p la e R s m args below meth c Q nL D b n0 pc (z_new b n0 R.cells R.slots ci nf fs K) := by
  intro l st k u E q ls H locs hls hP hS
  obtain ⟨h1, h2, q⟩ := q
  refine va_new X.1.1 X.1.2.1 X.1.2.2.2.2 hin ty0 hty X.1.2.2.2.1 (X.1.2.2.2.2 _ hcl) (X.1.2.2.2.2 _ hins) (X.1.2.2.2.2 _ hini) X.2.1.1 hP zwl_D hS (fun q hq => by have := X.2.2.1; show b ≤ q; omega) hc hfs h1 h2 hd (fun a H1 hP1 hD1 hS1 => ?_)
  intro T hT Xs
  obtain rfl := z_fresh X hP hP1 hD1 (by rw [← hT]; exact Xs.same.2.2.1)
  rw [zwl_push] at hP1
  exact h _ _ _ _ _ q ls H1 locs hls hP1 hS1 T hT Xs
theorem s_newa (X : zX p la e R s m args below meth c nL D cy b n0 cc Ts own) {pc t0 : Nat} {atype : ArrayType} {ty : FieldType} {cA : ClassId} {K : zC} (hd : decode cc pc = .ok (.newarray atype, 2)) (hty : newarray.typeOf atype = ty) (ht : (zty cy)[t0]? = some (cA, ty)) (hcl : Cond.arrayClass ty ∈ Ts) (hby : componentBytes ty ≤ 8) (hnm : ∀ c1 c2, va_RA s c1 ty → va_RA s c2 ty → c1 = c2) (hcell : ∀ (c0 : ClassId) (N : Nat), vp_cell c0 (N, .inl (fun _ => 0)) = arrV c0 N (fun _ => defaultValue ty)) (h : zS p la e R s m args below meth c Q nL D b n0 (pc + 2) K) : zS p la e R s m args below meth c Q nL D b n0 pc (z_newa b n0 R.cells R.slots cA K) := by
  intro l st k u E q0 ls H locs hls hP hS
  match st, q0 with
  | .int n :: r, q =>
    obtain ⟨hn0, hn1, h1, h2, q⟩ := q
    refine va_newa (N' := n.toNatClampNeg) (a0 := (n.toNatClampNeg, .inl (fun _ => 0))) X.1.1 X.1.2.1 (by rw [hty]; exact X.1.2.2.2.2 _ hcl) hty X.2.1.1 hP zwl_D hS (fun q hq => by have := X.2.2.1; show b ≤ q; omega) (fun c0 => hcell c0 _) hn0 rfl (by have := Nat.mul_le_mul hn1 hby; omega) h1 h2 hd (fun a c1 H1 hK1 hP1 hD1 hS1 => ?_)
    have e1 : c1 = cA := hnm _ _ (hK1.2 5 (c1, ty) rfl).2 (X.2.1.1.2 t0 _ ht).2
    subst e1
    intro T hT Xs
    obtain rfl := z_fresh X hP hP1 hD1 (by rw [← hT]; exact Xs.same.2.2.1)
    rw [zwl_push] at hP1
    exact h _ _ _ _ _ q ls H1 locs hls hP1 hS1 T hT Xs
theorem s_anewa (X : zX p la e R s m args below meth c nL D cy b n0 cc Ts own) {pc t0 idx : Nat} {C : String} {cA : ClassId} {K : zC} (hd : decode cc pc = .ok (.anewarray idx, 3)) (ht : (zty cy)[t0]? = some (cA, .object C)) (hcl : Cond.classLink own idx C ∈ Ts) (hao : zK D cy s → va_AO C s) (h : zS p la e R s m args below meth c Q nL D b n0 (pc + 3) K) : zS p la e R s m args below meth c Q nL D b n0 pc (z_anewa b n0 R.cells R.slots cA K) := by
  intro l st k u E q0 ls H locs hls hP hS
  match st, q0 with
  | .int n :: r, q =>
    obtain ⟨hn0, hn1, h1, h2, q⟩ := q
    refine va_newq (N' := n.toNatClampNeg) X.1.1 X.1.2.1 X.1.2.2.2.1 (X.1.2.2.2.2 _ hcl) (hao X.2.1) X.2.1.1 hP zwl_D hS (fun q hq => by have := X.2.2.1; show b ≤ q; omega) hn0 rfl (by omega) h1 h2 hd (fun a c1 H1 hK1 hP1 hD1 hS1 => ?_)
    have e1 : c1 = cA := by
      obtain ⟨_, _, _, _, _, f1⟩ := (hK1.2 5 (c1, .object C) rfl).2
      obtain ⟨_, _, _, _, _, f2⟩ := (X.2.1.1.2 t0 _ ht).2
      exact Option.some.inj (f1.symm.trans f2)
    subst e1
    intro T hT Xs
    obtain rfl := z_fresh X hP hP1 hD1 (by rw [← hT]; exact Xs.same.2.2.1)
    rw [zwl_push] at hP1
    exact h _ _ _ _ _ q ls H1 locs hls hP1 hS1 T hT Xs
theorem s_iret (X : zX p la e R s m args below meth c nL D cy b n0 cc Ts own) {pc mc ms : Nat} {P : zPo} (hd : decode cc pc = .ok (.ireturn, 1)) (hr : meth.sig.returnType = some .int) : zS p la e R s m args below meth c (MQ below (zQ D b (n0 + mc) P) args s mc ms (fun q => b ≤ q)) nL D b n0 pc (z_iret mc ms P) := by
  intro l st k u E q0 ls H locs hls hP hS
  match st, q0 with
  | [.int x], q =>
    obtain ⟨rfl, hu, q⟩ := q
    refine W.widen (Nat.le_refl _) hu ?_
    exact W.iret X.1.1 X.1.2.1 hr (fun t ht hW => ⟨⟨some (.int x), E, rfl, q, by rw [ht]; exact hP⟩, hS.F ht⟩) hS.2.2 hd X.2.2.2
theorem s_lret (X : zX p la e R s m args below meth c nL D cy b n0 cc Ts own) {pc mc ms : Nat} {P : zPo} (hd : decode cc pc = .ok (.lreturn, 1)) (hr : meth.sig.returnType = some .long) : zS p la e R s m args below meth c (MQ below (zQ D b (n0 + mc) P) args s mc ms (fun q => b ≤ q)) nL D b n0 pc (z_lret mc ms P) := by
  intro l st k u E q0 ls H locs hls hP hS
  match st, q0 with
  | [.long x], q =>
    obtain ⟨rfl, hu, q⟩ := q
    refine W.widen (Nat.le_refl _) hu ?_
    exact W.lret X.1.1 X.1.2.1 hr (fun t ht hW => ⟨⟨some (.long x), E, rfl, q, by rw [ht]; exact hP⟩, hS.F ht⟩) hS.2.2 hd X.2.2.2
theorem s_zret (X : zX p la e R s m args below meth c nL D cy b n0 cc Ts own) {pc mc ms : Nat} {P : zPo} (hd : decode cc pc = .ok (.ireturn, 1)) (hr : meth.sig.returnType = some .boolean) : zS p la e R s m args below meth c (MQ below (zQ D b (n0 + mc) P) args s mc ms (fun q => b ≤ q)) nL D b n0 pc (z_zret mc ms P) := by
  intro l st k u E q0 ls H locs hls hP hS
  match st, q0 with
  | [.int x], q =>
    obtain ⟨rfl, hu, hx, q⟩ := q
    refine W.widen (Nat.le_refl _) hu ?_
    exact W.zret X.1.1 X.1.2.1 hr (by rcases hx with rfl | rfl <;> rfl) (fun t ht hW => ⟨⟨some (.int x), E, rfl, q, by rw [ht]; exact hP⟩, hS.F ht⟩) hS.2.2 hd X.2.2.2
theorem s_vret (X : zX p la e R s m args below meth c nL D cy b n0 cc Ts own) {pc mc ms : Nat} {P : zPo} (hd : decode cc pc = .ok (.return_, 1)) (hr : meth.sig.returnType = none) : zS p la e R s m args below meth c (MQ below (zQ D b (n0 + mc) P) args s mc ms (fun q => b ≤ q)) nL D b n0 pc (z_vret mc ms P) := by
  intro l st k u E q0 ls H locs hls hP hS
  match st, q0 with
  | [], q =>
    obtain ⟨rfl, hu, q⟩ := q
    refine W.widen (Nat.le_refl _) hu ?_
    exact W.vret X.1.1 X.1.2.1 hr (fun t ht hW => ⟨⟨none, E, rfl, q, by rw [ht]; exact hP⟩, hS.F ht⟩) hS.2.2 hd X.2.2.2
theorem z_after {H : Heap} {locs : List Loc} {k u mc ms : Nat} {pc : Nat} {ls : Array Slot} {st r : List Value} {l : zL} {K : zC} {P : zPo} {av : Array Value} (hls : zhas ls nL l) (hS : va_S (fun q => b ≤ q) s.heap H locs)
    (hrun : va_Run p la e R s m args below meth c H locs k u mc ms (F0 m pc ls st) r (zQ D b (n0 + k + mc) P av) (fun q => b ≤ q)) (hPK : ∀ v E', P v E' → K l (v.toList ++ r) (k + mc) (u + ms) E') (h : zS p la e R s m args below meth c Q nL D b n0 (pc + 3) K) : W p la e R s m args below meth c H locs k u Q (F0 m pc ls st) := by
  intro T hT Xs
  obtain ⟨v, st₀, t, T', L, h0, X', hL, e1, e2, ⟨⟨v', E', hv, hp, hP'⟩, hz, hk⟩, st'⟩ := hrun T hT Xs
  cases hv
  rw [h0] at hz hk
  obtain ⟨t2, a1, b1⟩ := h _ _ _ _ _ (hPK _ _ hp) ls T'.heap (locs ++ L) hls (by rw [e1, ← Nat.add_assoc]; exact hP')
    ⟨Nat.le_trans hS.1 (by rw [e1]; exact hz), fun q h1 h2 => by rw [e1, hk q (Nat.lt_of_lt_of_le h1 hS.1) h2]; exact hS.2.1 q h1 h2, fun q hq => by
      rcases List.mem_append.mp hq with h | h
      · exact hS.2.2 q h
      · exact hL q h⟩ T' rfl X'
  exact ⟨t2, st' t2 a1, b1⟩
theorem s_callV (X : zX p la e R s m args below meth c nL D cy b n0 cc Ts own) {pc idx ci na mc ms maxL N : Nat} {C : String} {T0 : u_T} {y : MethodName} {ws ws' : List Cond} {rm : Room} {bytes : ByteArray} {ret : Option FieldType} {sp : zSp} {K : zC} (hM : zMet la y ws rm mc ms sp) (hd : decode cc pc = .ok (.invokevirtual idx, 3)) (hc : vwCl[ci]? = some (C, T0, N)) (hG : GoodIn Ts (wsV own idx C y ws)) (hw : ws = Cond.code y bytes maxL ret :: ws') (hrc : rm.cells = mc) (hrs : rm.slots = ms)
    (hdd : y.cls = C ∧ y.cls ≠ "java/lang/invoke/MethodHandle" ∧ y.cls ≠ "java/lang/invoke/VarHandle" ∧ (parseMethodDescriptor y.desc).map (fun d => d.parameters.length) = some na) (hR : rm.frames + 1 ≤ R.frames ∧ 8 + (maxL + 11) + rm.locals ≤ R.locals) (h : zS p la e R s m args below meth c Q nL D b n0 (pc + 3) K) : zS p la e R s m args below meth c Q nL D b n0 pc (z_callV b n0 R.cells R.slots cy ci na mc ms sp K) := by
  intro l st k u E q0 ls H locs hls hP hS
  unfold z_callV at q0
  match hst : st.drop na, q0 with
  | .ref a :: r, q =>
    obtain ⟨hlen, hna, hc1, hs1, h1, h2, hE, hsp⟩ := q
    obtain ⟨j, rfl⟩ := Nat.exists_eq_add_of_le h1
    rw [Nat.add_sub_cancel_left] at h2 hE
    refine z_size X hP hS (fun hz => ?_)
    rcases hEj : E j with o | ⟨cj, fj⟩
    · rw [hEj] at hE; exact absurd hE id
    · rw [hEj] at hE
      replace hE : cj = ci := hE
      subst hE
      have hrun := va_runV (e := e) (R := R) (below := below) (meth := meth) (H := H) (locs := locs) (cells := k) (slots := u) (g := F0 m pc ls st) (As := (st.take na).reverse) (rest := r) (b := b + j) X.1 (hM D cy b (n0 + k) _ E _ hsp) (cwV na X.1.2.2.2.2 hG hw hrc hrs hdd hR)
        ⟨zPre_blind, va_recv X.2.1.1 hP hc (by rw [zwl_at h2, hEj]), fun U hU hW => ⟨rfl, by rw [hU]; exact hz, by rw [hU]; exact hP, X.2.1.warm hW⟩⟩ rfl (by rw [List.length_reverse]; exact hna) hls.1.1 (by rw [List.reverse_reverse, ← hst, List.take_append_drop]) (lv_room (z_cat hlen)) hd ⟨hc1, hs1⟩
      exact z_after hls hS hrun (fun v E' hv => hv) h
theorem s_callS (X : zX p la e R s m args below meth c nL D cy b n0 cc Ts own) {pc idx na mc ms maxL : Nat} {y : MethodName} {ws ws' : List Cond} {rm : Room} {bytes : ByteArray} {ret : Option FieldType} {sp : zSp} {K : zC} (hM : zMet la y ws rm mc ms sp) (hd : decode cc pc = .ok (.invokestatic idx, 3)) (hG : GoodIn Ts (va_wsS own idx y ws)) (hw : ws = Cond.code y bytes maxL ret :: ws') (hrc : rm.cells = mc) (hrs : rm.slots = ms)
    (hdd : y.cls ≠ "java/lang/invoke/MethodHandle" ∧ y.cls ≠ "java/lang/invoke/VarHandle" ∧ (parseMethodDescriptor y.desc).map (fun d => d.parameters.length) = some na) (hR : rm.frames + 1 ≤ R.frames ∧ 8 + (maxL + 11) + rm.locals ≤ R.locals) (h : zS p la e R s m args below meth c Q nL D b n0 (pc + 3) K) : zS p la e R s m args below meth c Q nL D b n0 pc (z_callS b n0 R.cells R.slots cy na mc ms sp K) := by
  intro l st k u E q ls H locs hls hP hS
  obtain ⟨hlen, hna, hc1, hs1, hsp⟩ := q
  refine z_size X hP hS (fun hz => ?_)
  have hrun := va_runS (e := e) (R := R) (below := below) (meth := meth) (H := H) (locs := locs) (cells := k) (slots := u) (g := F0 m pc ls st) (As := (st.take na).reverse) (rest := st.drop na) X.1 (hM D cy b (n0 + k) _ E _ hsp) (va_cwS na X.1.2.2.2.2 hG hw hrc hrs hdd hR)
    ⟨zPre_blind, fun U hU hW => ⟨rfl, by rw [hU]; exact hz, by rw [hU]; exact hP, X.2.1.warm hW⟩⟩ rfl (by rw [List.length_reverse]; exact hna) hls.1.1 (by rw [List.reverse_reverse, List.take_append_drop]) (lv_room (z_cat hlen)) hd ⟨hc1, hs1⟩
  exact z_after hls hS hrun (fun v E' hv => hv) h
theorem s_callI (X : zX p la e R s m args below meth c nL D cy b n0 cc Ts own) {pc idx mc ms maxL : Nat} {y : MethodName} {ws ws' : List Cond} {rm : Room} {bytes : ByteArray} {sp : zSp} {K : zC} (hM : zMet la y ws rm mc ms sp) (hd : decode cc pc = .ok (.invokespecial idx, 3)) (hG : GoodIn Ts ws) (hw : ws = Cond.code y bytes maxL none :: ws') (hrc : rm.cells = mc) (hrs : rm.slots = ms) (hini : Cond.initialized y.cls ∈ Ts) (hl : Cond.methodLink own idx y ∈ Ts) (hin : Cond.instanceMethod y ∈ Ts) (hy1 : y.name = "<init>")
    (hdd : y.cls ≠ "java/lang/invoke/MethodHandle" ∧ y.cls ≠ "java/lang/invoke/VarHandle" ∧ (parseMethodDescriptor y.desc).map (fun d => d.parameters.length) = some 0) (hR : rm.frames + 1 ≤ R.frames ∧ 8 + (maxL + 11) + rm.locals ≤ R.locals) (h : zS p la e R s m args below meth c Q nL D b n0 (pc + 3) K) : zS p la e R s m args below meth c Q nL D b n0 pc (z_callI b n0 R.cells R.slots cy mc ms sp K) := by
  intro l st k u E q0 ls H locs hls hP hS
  match st, q0 with
  | .ref a :: r, q =>
    obtain ⟨hlen, hc1, hs1, hsp⟩ := q
    refine z_size X hP hS (fun hz => ?_)
    have hrun := va_runI (e := e) (R := R) (below := below) (meth := meth) (H := H) (locs := locs) (cells := k) (slots := u) (g := F0 m pc ls (.ref a :: r)) (As := []) (b := a) (rest := r) X.1 (hM D cy b (n0 + k) _ E _ hsp) (cwI 0 X.1.2.2.2.2 hG hw hrc hrs (X.1.2.2.2.2 _ hini) (X.1.2.2.2.2 _ hl) (X.1.2.2.2.2 _ hin) hy1 hdd hR)
      ⟨zPre_blind, fun U hU hW => ⟨rfl, by rw [hU]; exact hz, by rw [hU]; exact hP, X.2.1.warm hW⟩⟩ rfl rfl hls.1.1 rfl (lv_room (z_cat hlen)) hd ⟨hc1, hs1⟩
    exact z_after hls hS hrun (fun v E' hv => hv) h
theorem s_callN (X : zX p la e R s m args below meth c nL D cy b n0 cc Ts own) {pc idx mc ms maxL : Nat} {y : MethodName} {host : String} {ws ws' : List Cond} {rm : Room} {bytes : ByteArray} {sp : zSp} {K : zC} (hM : zMet la y ws rm mc ms sp) (hd : decode cc pc = .ok (.invokespecial idx, 3)) (hG : GoodIn Ts ws) (hw : ws = Cond.code y bytes maxL none :: ws') (hrc : rm.cells = mc) (hrs : rm.slots = ms) (hini : Cond.initialized y.cls ∈ Ts) (hl : Cond.methodLinkNest own idx y host ∈ zNest) (hin : Cond.instanceMethod y ∈ Ts) (hy1 : y.name = "<init>")
    (hdd : y.cls ≠ "java/lang/invoke/MethodHandle" ∧ y.cls ≠ "java/lang/invoke/VarHandle" ∧ (parseMethodDescriptor y.desc).map (fun d => d.parameters.length) = some 0) (hR : rm.frames + 1 ≤ R.frames ∧ 8 + (maxL + 11) + rm.locals ≤ R.locals) (h : zS p la e R s m args below meth c Q nL D b n0 (pc + 3) K) : zS p la e R s m args below meth c Q nL D b n0 pc (z_callI b n0 R.cells R.slots cy mc ms sp K) := by
  intro l st k u E q0 ls H locs hls hP hS
  match st, q0 with
  | .ref a :: r, q =>
    obtain ⟨hlen, hc1, hs1, hsp⟩ := q
    refine z_size X hP hS (fun hz => ?_)
    have hrun := va_runIN (e := e) (R := R) (below := below) (meth := meth) (H := H) (locs := locs) (cells := k) (slots := u) (g := F0 m pc ls (.ref a :: r)) (As := []) (b := a) (rest := r) (n := 0) X.1 (hM D cy b (n0 + k) _ E _ hsp) ⟨va_cnB 0 X.1.2.2.2.2 hG hw hrc hrs (X.2.1.2.2.2 _ hl) (X.1.2.2.2.2 _ hini) hdd hR, hy1, X.1.2.2.2.2 _ hin⟩
      ⟨zPre_blind, fun U hU hW => ⟨rfl, by rw [hU]; exact hz, by rw [hU]; exact hP, X.2.1.warm hW⟩⟩ rfl rfl hls.1.1 rfl (lv_room (z_cat hlen)) hd ⟨hc1, hs1⟩
    exact z_after hls hS hrun (fun v E' hv => hv) h
end ZS
theorem z_of {la : Launch} {y : MethodName} {ws ws' : List Cond} {rm : Room} {mc ms maxL : Nat} {sp : zSp} {cc : ByteArray} {ret : Option FieldType} (hy : plainName y.cls = true) (hw : ws = Cond.code y cc maxL ret :: ws')
    (body : ∀ (p : Program) (e : Env) (s : State) (m : MethodId) (args : Array Value) (below : List Frame) (meth : Method) (c : Code) (D : va_G) (cy : zY) (b n : Nat) (as : List Value) (E : zE) (P : zPo), sp b cy as n E P → zX p la e rm s m args below meth c maxL D cy b n cc ws y.cls → meth.sig.returnType = ret → (y.name = "<init>" → meth.name = "<init>") →
      zgood as maxL ∧ zAt p la e rm s m args below meth c (MQ below (zQ D b (n + mc) P) args s mc ms (fun q => b ≤ q)) maxL D b n 0 (lv_args 0 as) [] 0 0 E) : zMet la y ws rm mc ms sp := by
  intro D cy b n as E P hsp
  refine Met.ofW (cc := cc) (maxL := maxL) (ret := ret) hy hw ?_
  intro p e s m args below meth c s₁ B hml hv
  obtain ⟨rfl, hz, hP, hK⟩ := hv
  have hts := atoms_spec (ws := ws) B.pre
  have hown : s.vm.findClass y.cls = some m.cls := findClass_of_methodNamed B.named
  have X : zX p la e rm s m as.toArray below meth c maxL D cy b n cc ws y.cls := ⟨⟨B.exec, B.bytes, hml, hown, hts⟩, hK, hz, B.notSynchronized⟩
  obtain ⟨⟨g1, g2⟩, hat⟩ := body p e s m as.toArray below meth c D cy b n as E P hsp X B.returns (fun h => by rw [← h]; exact (name_of_methodNamed B.named B.method).1)
  obtain ⟨f1, f2, f3⟩ := zgood_args g2 0
  have hl := lv_entry as (n := maxL) (by rw [f1]; exact g1)
  rw [lg_entry_eq]
  exact hat _ s.heap [] ⟨hl, fun q hq => (f2 q hq).1, f3⟩ hP va_S.rf
end
section
/-! what a transformer says where the stack is known -/
section ZE
variable {b n0 rc rs mc ms ci fk vt na k u i : Nat} {cy : zY} {cA : ClassId} {P : zPo} {sp : zSp} {K Kt Kf : zC} {l : zL} {st r : List Value} {E : zE} {x y : Int32} {X Y : Int64} {a a0 : Nat} {v : Value} {c1 : Int32 → Prop} {c2 : Int32 → Int32 → Prop} {f : Int32 → Int32 → Int32} {g : Int32 → Int32}
theorem e_cut {ks : List Nat} : z_cut ks K l st k u E = zpick l ks (fun r => K r st k u E) := rfl
theorem e_iload : z_iload i K l st k u E = zld l i (fun v => match v with | .int x => K l (.int x :: st) k u E | _ => False) := rfl
theorem e_aload : z_aload i K l st k u E = zld l i (fun v => match v with | .ref x => K l (.ref x :: st) k u E | _ => False) := rfl
theorem e_istore : z_istore i K l (.int x :: r) k u E = K (zst l i (.int x)) r k u E := rfl
theorem e_astore : z_astore i K l (.ref a :: r) k u E = K (zst l i (.ref a)) r k u E := rfl
theorem e_iinc {d : Int32} : z_iinc i d K l st k u E = zld l i (fun v => match v with | .int x => K (zst l i (.int (x + d))) st k u E | _ => False) := rfl
theorem e_const : z_const x K l st k u E = K l (.int x :: st) k u E := rfl
theorem e_lconst : z_lconst X K l st k u E = K l (.long X :: st) k u E := rfl
theorem e_bin : z_bin f K l (.int y :: .int x :: r) k u E = K l (.int (f x y) :: r) k u E := rfl
theorem e_bin0 : z_bin0 f K l (.int y :: .int x :: r) k u E = (¬ y = 0 ∧ K l (.int (f x y) :: r) k u E) := rfl
theorem e_un : z_un g K l (.int x :: r) k u E = K l (.int (g x) :: r) k u E := rfl
theorem e_ladd : z_ladd K l (.long Y :: .long X :: r) k u E = K l (.long (X + Y) :: r) k u E := rfl
theorem e_dupi : z_dup K l (.int x :: r) k u E = K l (.int x :: .int x :: r) k u E := rfl
theorem e_dupr : z_dup K l (.ref a :: r) k u E = K l (.ref a :: .ref a :: r) k u E := rfl
theorem e_dup2 : z_dup2 K l (.int x :: .ref a :: r) k u E = K l (.int x :: .ref a :: .int x :: .ref a :: r) k u E := rfl
theorem e_pop : z_pop K l (.int x :: r) k u E = K l r k u E := rfl
theorem e_if : z_if c1 Kt Kf l (.int x :: r) k u E = ((c1 x → Kt l r k u E) ∧ (¬ c1 x → Kf l r k u E)) := rfl
theorem e_icmp : z_icmp c2 Kt Kf l (.int y :: .int x :: r) k u E = ((c2 x y → Kt l r k u E) ∧ (¬ c2 x y → Kf l r k u E)) := rfl
theorem e_sw {t : List (Int32 × zC)} : z_switch t K l (.int x :: r) k u E = z_sw t K x l r k u E := rfl
theorem e_sw0 : z_sw [] K x l r k u E = K l r k u E := rfl
theorem e_sw1 {t : List (Int32 × zC)} : z_sw ((y, Kt) :: t) K x l r k u E = ((x = y → Kt l r k u E) ∧ (¬ x = y → z_sw t K x l r k u E)) := rfl
theorem e_get : z_get b n0 ci fk K l (.ref a :: r) k u E = (b ≤ a ∧ a - b < n0 + k ∧ (match E (a - b) with | .inr (c, fs) => c = ci ∧ (match fs[fk]? with | some v => K l (v :: r) k u E | none => False) | _ => False)) := rfl
theorem e_put : z_put b n0 ci fk vt K l (v :: .ref a :: r) k u E = (b ≤ a ∧ a - b < n0 + k ∧ (match E (a - b) with | .inr (c, fs) => c = ci ∧ fk < fs.length ∧ zok vt v ∧ K l r k u (va_up E (a - b) (.inr (ci, fs.set fk v))) | _ => False)) := rfl
theorem e_ald : z_ald b n0 cA K l (.int x :: .ref a :: r) k u E = (b ≤ a ∧ a - b < n0 + k ∧ (match E (a - b) with | .inl (c, len, .inl f) => c = cA ∧ vp_in x len ∧ K l (.int (f x.toNatClampNeg) :: r) k u E | _ => False)) := rfl
theorem e_ast : z_ast b n0 cA g K l (.int y :: .int x :: .ref a :: r) k u E = (b ≤ a ∧ a - b < n0 + k ∧ (match E (a - b) with | .inl (c, len, .inl f) => c = cA ∧ vp_in x len ∧ K l r k u (va_up E (a - b) (.inl (cA, len, .inl (upd f x.toNatClampNeg (g y))))) | _ => False)) := rfl
theorem e_aald : z_aald b n0 cA K l (.int x :: .ref a :: r) k u E = (b ≤ a ∧ a - b < n0 + k ∧ (match E (a - b) with | .inl (c, len, .inr (.inr (.inr (.inr f)))) => c = cA ∧ vp_in x len ∧ K l (va_rf (f x.toNatClampNeg) :: r) k u E | _ => False)) := rfl
theorem e_aast : z_aast b n0 cA ci K l (.ref a0 :: .int x :: .ref a :: r) k u E = (b ≤ a ∧ a - b < n0 + k ∧ b ≤ a0 ∧ a0 - b < n0 + k ∧ (match E (a0 - b) with | .inr (c, _) => c = ci | _ => False) ∧ (match E (a - b) with | .inl (c, len, .inr (.inr (.inr (.inr f)))) => c = cA ∧ vp_in x len ∧ K l r k u (va_up E (a - b) (.inl (cA, len, .inr (.inr (.inr (.inr (va_up f x.toNatClampNeg (some a0)))))))) | _ => False)) := rfl
theorem e_copy {dp sp0 : Int32} : z_copy b n0 cA K l (.int x :: .int dp :: .ref a :: .int sp0 :: .ref a0 :: r) k u E = (r.length ≤ 4 ∧ b ≤ a ∧ a - b < n0 + k ∧ b ≤ a0 ∧ a0 - b < n0 + k ∧ dp = 0 ∧ sp0 = 0 ∧ ¬ x < 0 ∧ (match E (a0 - b) with | .inl (c0, len0, .inl f) => (match E (a - b) with | .inl (c1, len1, .inl g) => c0 = cA ∧ c1 = cA ∧ x.toNatClampNeg ≤ len0 ∧ x.toNatClampNeg ≤ len1 ∧ K l r k u (va_up E (a - b) (.inl (cA, len1, .inl (va_cpy f g 0 0 x.toNatClampNeg)))) | _ => False) | _ => False)) := rfl
theorem e_new {nf : Nat} {fs : List Value} : z_new b n0 rc rs ci nf fs K l st k u E = (k + 1 ≤ rc ∧ u + nf ≤ rs ∧ K l (.ref (b + (n0 + k)) :: st) (k + 1) (u + nf) (va_up E (n0 + k) (.inr (ci, fs)))) := rfl
theorem e_newa : z_newa b n0 rc rs cA K l (.int x :: r) k u E = (¬ x < 0 ∧ x.toNatClampNeg ≤ 10000 ∧ k + 1 ≤ rc ∧ u + x.toNatClampNeg ≤ rs ∧ K l (.ref (b + (n0 + k)) :: r) (k + 1) (u + x.toNatClampNeg) (va_up E (n0 + k) (.inl (cA, x.toNatClampNeg, .inl (fun _ => 0))))) := rfl
theorem e_anewa : z_anewa b n0 rc rs cA K l (.int x :: r) k u E = (¬ x < 0 ∧ x.toNatClampNeg ≤ 10000 ∧ k + 1 ≤ rc ∧ u + x.toNatClampNeg ≤ rs ∧ K l (.ref (b + (n0 + k)) :: r) (k + 1) (u + x.toNatClampNeg) (va_up E (n0 + k) (.inl (cA, x.toNatClampNeg, .inr (.inr (.inr (.inr (fun _ => none)))))))) := rfl
theorem e_min : z_min rc rs K l (.int y :: .int x :: r) k u E = (r.length ≤ 4 ∧ k ≤ rc ∧ u ≤ rs ∧ K l (.int (if y < x then y else x) :: r) k u E) := rfl
theorem e_abs : z_abs rc rs K l (.int x :: r) k u E = (r.length ≤ 4 ∧ k ≤ rc ∧ u ≤ rs ∧ K l (.int (if 0 ≤ x then x else 0 - x) :: r) k u E) := rfl
theorem e_oinit : z_oinit K l (.ref a :: r) k u E = (r.length ≤ 4 ∧ K l r k u E) := rfl
theorem e_callI : z_callI b n0 rc rs cy mc ms sp K l (.ref a :: r) k u E = (r.length ≤ 4 ∧ k + mc ≤ rc ∧ u + ms ≤ rs ∧ sp b cy [.ref a] (n0 + k) E (fun v E' => K l (v.toList ++ r) (k + mc) (u + ms) E')) := rfl
theorem e_callV : z_callV b n0 rc rs cy ci na mc ms sp K l st k u E = (match st.drop na with
  | .ref a :: r => r.length ≤ 4 ∧ (st.take na).length = na ∧ k + mc ≤ rc ∧ u + ms ≤ rs ∧ b ≤ a ∧ a - b < n0 + k ∧ (match E (a - b) with | .inr (c, _) => c = ci | _ => False) ∧ sp b cy (.ref a :: (st.take na).reverse) (n0 + k) E (fun v E' => K l (v.toList ++ r) (k + mc) (u + ms) E')
  | _ => False) := rfl
theorem e_callS : z_callS b n0 rc rs cy na mc ms sp K l st k u E = ((st.drop na).length ≤ 4 ∧ (st.take na).length = na ∧ k + mc ≤ rc ∧ u + ms ≤ rs ∧ sp b cy (st.take na).reverse (n0 + k) E (fun v E' => K l (v.toList ++ st.drop na) (k + mc) (u + ms) E')) := rfl
theorem e_iret : z_iret mc ms P l [.int x] k u E = (k = mc ∧ u ≤ ms ∧ P (some (.int x)) E) := rfl
theorem e_zret : z_zret mc ms P l [.int x] k u E = (k = mc ∧ u ≤ ms ∧ (x = 0 ∨ x = 1) ∧ P (some (.int x)) E) := rfl
theorem e_lret : z_lret mc ms P l [.long X] k u E = (k = mc ∧ u ≤ ms ∧ P (some (.long X)) E) := rfl
theorem e_vret : z_vret mc ms P l [] k u E = (k = mc ∧ u ≤ ms ∧ P none E) := rfl
theorem e_tl1 : (some v).toList ++ r = v :: r := rfl
theorem e_tl0 : (none : Option Value).toList ++ r = r := rfl
theorem e_up (f : zE) (j q : Nat) (w : va_E) : va_up f j w q = if q = j then w else f q := rfl
end ZE
/-! the mathematics of a car -/
def zfo (ok : Nat → Bool) (bt : Nat → Nat → Bool) : Nat → Option Nat
  | 0 => none
  | k + 1 => match zfo ok bt k with
    | none => if ok k then some k else none
    | some f => if ok k && bt k f then some k else some f
def zrv : Option Nat → Int32
  | none => -9
  | some k => nI k
def zdn (x : Nat) : Int32 := if x = 0 then -9 else nI (x - 1)
def zad (a b : Nat) : Nat := (a - b) + (b - a)
/-- whom r thinks of by the law 'by', if his seat is s -/
def zwho (n : Nat) (lo c : Nat → Nat) (r s by0 : Nat) : Option Nat := zfo (fun q => decide (q ≠ r) && (c 1).testBit q) (fun q f => if by0 = 0 then decide (zad (c (4 + q)) s < zad (c (4 + f)) s) else if by0 = 1 then decide (lo f < lo q) else decide ((q + 6 - r) % 6 < (f + 6 - r) % 6)) n
/-- who gets down if r rings, of those of M -/
def zring (n : Nat) (c : Nat → Nat) (M r : Nat) : Option Nat := zfo (fun q => decide (q ≠ r) && M.testBit q && decide (0 < c (16 + 6 * q + r))) (fun q f => decide (c (16 + 6 * f + r) < c (16 + 6 * q + r))) n
def ztwo (n : Nat) (c : Nat → Nat) (r : Nat) : Option Nat := zfo (fun q => decide (q ≠ r) && (c 1).testBit q && decide (0 < c (16 + 6 * r + q))) (fun q f => decide (c (16 + 6 * r + f) < c (16 + 6 * r + q))) n
def zup (c : Nat → Nat) (i v : Nat) : Nat → Nat := fun k => if k = i then v else c k
def zthink (c : Nat → Nat) (r q : Nat) : Nat → Nat := zup (zup c 2 (c 2 + 1)) (16 + 6 * r + q) (c 2 + 1)
def zclr (M q : Nat) : Nat := if M.testBit q then M - 2 ^ q else M
def zset (M q : Nat) : Nat := if M.testBit q then M else M + 2 ^ q
def zrideL (n : Nat) (lo la : Nat → Nat) : Nat → (Nat → Nat) → (Nat → Nat)
  | 0, c => c
  | r + 1, c0 => let c := zrideL n lo la r c0; if (c 1).testBit r then (match zwho n lo c r (c (4 + r)) (la r) with | none => c | some q => zthink c r q) else c
def zride (n : Nat) (lo la c : Nat → Nat) : Nat → Nat := zrideL n lo la n (zup c 0 (c 0 + 1))
def zdown (c : Nat → Nat) : Option Nat → (Nat → Nat)
  | none => zup c 3 (c 3 + 1)
  | some q => zup (zup c 1 (zclr (c 1) q)) (10 + q) (c 0 + 1)
/-- a moment that can be: n riders -/
def zMok (n : Nat) (c : Nat → Nat) : Prop := n ≤ 6 ∧ c 1 < 2 ^ n ∧ c 0 < 1000 ∧ c 2 < 1000000 ∧ (∀ j, j < n → c (4 + j) ≤ 9) ∧ (∀ j, j < 36 → c (16 + j) ≤ c 2) ∧ (∀ j, j < 6 → c (16 + 7 * j) = 0)
/-! the class's cells -/
/-- a moment of n riders at place i holds c -/
def zMo (b : Nat) (cy : zY) (E : zE) (i n : Nat) (c : Nat → Nat) : Prop := n ≤ 6 ∧ ∃ f g h : Nat → Int32, E i = .inr (1, [.int (nI (c 0)), .int (nI (c 1)), .int (nI (c 2)), .int (nI (c 3)), .ref (b + (i + 1)), .ref (b + (i + 2)), .ref (b + (i + 3))]) ∧ E (i + 1) = .inl (cy 1, 6, .inl f) ∧ E (i + 2) = .inl (cy 1, 6, .inl g) ∧ E (i + 3) = .inl (cy 1, 36, .inl h) ∧ (∀ j, j < n → f j = nI (c (4 + j))) ∧ (∀ j, j < 6 → g j = zdn (c (10 + j))) ∧ (∀ j, j < 36 → h j = nI (c (16 + j)))
theorem e_argi {i : Nat} {x : Int32} {vs : List Value} : lv_args i (.int x :: vs) = (i, .int x) :: lv_args (i + 1) vs := rfl
theorem e_argr {i : Nat} {x : Nat} {vs : List Value} : lv_args i (.ref x :: vs) = (i, .ref x) :: lv_args (i + 1) vs := rfl
theorem e_argn {i : Nat} : lv_args i [] = [] := rfl
theorem zg0 : ∀ v ∈ ([] : List Value), v.category = 1 := fun _ h => absurd h List.not_mem_nil
theorem zg1 {v : Value} {t : List Value} (h : v.category = 1) (ht : ∀ w ∈ t, w.category = 1) : ∀ w ∈ v :: t, w.category = 1 := fun w hw => by
  rcases List.mem_cons.mp hw with rfl | hw
  · exact h
  · exact ht w hw
theorem zbit_all : ∀ M : Fin 64, ∀ r : Fin 6, ((nI M.val >>> (nI r.val &&& 31)) &&& 1) = if M.val.testBit r.val then 1 else 0 := by decide +kernel
theorem zbit {M r : Nat} (hM : M < 64) (hr : r < 6) : ((nI M >>> (nI r &&& 31)) &&& 1) = if M.testBit r then 1 else 0 := zbit_all ⟨M, hM⟩ ⟨r, hr⟩
theorem zclr_all : ∀ M : Fin 64, ∀ r : Fin 6, (nI M.val &&& ((1 <<< (nI r.val &&& 31)) ^^^ (-1))) = nI (zclr M.val r.val) := by decide +kernel
theorem zclr_i {M r : Nat} (hM : M < 64) (hr : r < 6) : (nI M &&& ((1 <<< (nI r &&& 31)) ^^^ (-1))) = nI (zclr M r) := zclr_all ⟨M, hM⟩ ⟨r, hr⟩
theorem zset_all : ∀ M : Fin 64, ∀ r : Fin 6, (nI M.val ||| (1 <<< (nI r.val &&& 31))) = nI (zset M.val r.val) := by decide +kernel
theorem zset_i {M r : Nat} (hM : M < 64) (hr : r < 6) : (nI M ||| (1 <<< (nI r &&& 31))) = nI (zset M r) := zset_all ⟨M, hM⟩ ⟨r, hr⟩
theorem nI_c (n : Nat) (h : n < 2 ^ 31) : (nI n).toNatClampNeg = n := nI_clamp h
theorem zix {r q : Nat} : nI r * 6 + nI q = nI (6 * r + q) := by
  have h : (6 : Int32) = nI 6 := rfl
  rw [h, pk_mul, nI_add, Nat.mul_comm]
theorem zMok.l64 {n : Nat} {c : Nat → Nat} (h : zMok n c) : c 1 < 64 := by
  have h1 := h.2.1
  have h2 : 2 ^ n ≤ 2 ^ 6 := Nat.pow_le_pow_right (by omega) h.1
  have h3 : (2 : Nat) ^ 6 = 64 := rfl
  omega
theorem zthink_lo {c : Nat → Nat} {r q k : Nat} (h : k < 16) (h2 : k ≠ 2) : zthink c r q k = c k := by
  unfold zthink zup
  rw [if_neg (by omega), if_neg h2]
theorem zthink_2 {c : Nat → Nat} {r q : Nat} : zthink c r q 2 = c 2 + 1 := by
  unfold zthink zup
  rw [if_neg (by omega), if_pos rfl]
theorem zthink_hi {c : Nat → Nat} {r q j : Nat} : zthink c r q (16 + j) = if j = 6 * r + q then c 2 + 1 else c (16 + j) := by
  unfold zthink zup
  by_cases h : j = 6 * r + q
  · rw [if_pos (by omega), if_pos h]
  · rw [if_neg (by omega), if_neg (by omega), if_neg h]
theorem zMo.congr {b : Nat} {cy : zY} {E E' : zE} {i n : Nat} {c : Nat → Nat} (h : zMo b cy E i n c) (hE : ∀ j, i ≤ j → j ≤ i + 3 → E' j = E j) : zMo b cy E' i n c := by
  obtain ⟨hn, f, g, w, h0, h1, h2, h3, r⟩ := h
  exact ⟨hn, f, g, w, by rw [hE _ (by omega) (by omega)]; exact h0, by rw [hE _ (by omega) (by omega)]; exact h1, by rw [hE _ (by omega) (by omega)]; exact h2, by rw [hE _ (by omega) (by omega)]; exact h3, r⟩
end
section
/-! BellCars$Moment: reads -/
def sp_X1_isAboard : zSp := fun b cy as N E P => ∃ (i r n : Nat) (c : Nat → Nat), as = [.ref (b + i), .int (nI r)] ∧ zMo b cy E i n c ∧ i + 3 < N ∧ r < 6 ∧ c 1 < 64 ∧ P (some (.int (if (c 1).testBit r then 1 else 0))) E
abbrev rm_X1_isAboard : Room := { frames := 1, cells := 0, slots := 0, locals := 40 }
def B_X1_isAboard_16 (b n0 : Nat) (cy : zY) (P : zPo) (A : Nat → zC) : zC :=
  z_zret 0 0 P
def B_X1_isAboard_0 (b n0 : Nat) (cy : zY) (P : zPo) (A : Nat → zC) : zC :=
  z_aload 0 (z_get b n0 1 1 (z_iload 1 (z_bin (fun x y => x >>> (y &&& 31)) (z_const (1) (z_bin (fun x y => x &&& y) (z_if (fun x => x = 0) (z_const (0) (B_X1_isAboard_16 b n0 cy P A)) (z_const (1) (B_X1_isAboard_16 b n0 cy P A))))))))
def zVC_X1_isAboard (sp : zSp) : Prop := ∀ (b : Nat) (cy : zY) (n : Nat) (as : List Value) (E : zE) (P : zPo) (A : Nat → zC), sp b cy as n E P → zgood as 2 ∧ B_X1_isAboard_0 b n cy P A (lv_args 0 as) [] 0 0 E

set_option maxRecDepth 100000 in
set_option maxHeartbeats 4000000 in
theorem vc_X1_isAboard : zVC_X1_isAboard sp_X1_isAboard := by
  intro b cy N as E P A hsp
  obtain ⟨i, r, n, c, rfl, ⟨hn, f, g, h, h0, h1, h2, h3, hf, hg, hh⟩, hi, hr, hc, hP⟩ := hsp
  refine ⟨⟨Nat.le_of_ble_eq_true rfl, zg1 rfl (zg1 rfl (zg0))⟩, ?_⟩
  have hi0 : i < N := by omega
  simp only [B_X1_isAboard_0, B_X1_isAboard_16, e_cut, e_iload, e_aload, e_istore, e_astore, e_iinc, e_const, e_lconst, e_bin, e_bin0, e_un, e_ladd, e_dupi, e_dupr, e_dup2, e_pop, e_if, e_icmp, e_sw, e_sw0, e_sw1, e_get, e_put, e_ald, e_ast, e_aald, e_aast, e_copy, e_new, e_newa, e_anewa, e_min, e_abs, e_oinit, e_callI, e_callV, e_callS, e_iret, e_zret, e_lret, e_vret, e_tl1, e_tl0, e_argi, e_argr, e_argn, zld_c, zst_n, zst_c, zpick_n, zpick_c, List.drop_succ_cons, List.drop_zero, List.take_succ_cons, List.take_zero, List.length_cons, List.length_nil, List.reverse_cons, List.reverse_nil, List.nil_append, List.cons_append, List.append_nil, List.getElem?_cons_zero, List.getElem?_cons_succ, List.set_cons_zero, List.set_cons_succ, Nat.add_sub_cancel_left, Nat.sub_self, Nat.add_zero, Nat.zero_add, Nat.le_add_right, Nat.le_refl, true_and, and_true, va_rf, zok, h0, hi0, zbit hc hr]
  cases ht : (c 1).testBit r <;> simp [ht] at hP ⊢ <;> exact hP
set_option maxRecDepth 20000 in
theorem f_X1_isAboard_30 : Cond.fieldLink RX1 30 (TX1 1).1 (TX1 1).2.1 (TX1 1).2.2.1 ∈ wsX1_isAboard := by decide +kernel
set_option maxRecDepth 20000 in
theorem k_X1_isAboard_1 : ∀ w ∈ u_ws RX1 TX1 7, w ∈ wsX1_isAboard := fun _ h => List.mem_cons_of_mem _ (List.mem_append_right _ h)
set_option maxRecDepth 100000 in
set_option maxHeartbeats 4000000 in
theorem S_X1_isAboard_16 {p : Program} {e : Env} {s : State} {m : MethodId} {args : Array Value} {below : List Frame} {meth : Method} {c : Code} {D : va_G} {cy : zY} {b n0 : Nat} {P : zPo} (la : Launch) (X : zX p la e (rm_X1_isAboard) s m args below meth c 2 D cy b n0 cX1_isAboard wsX1_isAboard RX1) (hr : meth.sig.returnType = (some .boolean)) : zS p la e (rm_X1_isAboard) s m args below meth c (MQ below (zQ D b (n0 + 0) P) args s 0 0 (fun q => b ≤ q)) 2 D b n0 16 (B_X1_isAboard_16 b n0 cy P (zAt p la e (rm_X1_isAboard) s m args below meth c (MQ below (zQ D b (n0 + 0) P) args s 0 0 (fun q => b ≤ q)) 2 D b n0)) := by
  unfold B_X1_isAboard_16
  exact (s_zret X dX1_isAboard_16 hr)
set_option maxRecDepth 100000 in
set_option maxHeartbeats 4000000 in
theorem S_X1_isAboard_0 {p : Program} {e : Env} {s : State} {m : MethodId} {args : Array Value} {below : List Frame} {meth : Method} {c : Code} {D : va_G} {cy : zY} {b n0 : Nat} {P : zPo} (la : Launch) (X : zX p la e (rm_X1_isAboard) s m args below meth c 2 D cy b n0 cX1_isAboard wsX1_isAboard RX1) (hr : meth.sig.returnType = (some .boolean)) : zS p la e (rm_X1_isAboard) s m args below meth c (MQ below (zQ D b (n0 + 0) P) args s 0 0 (fun q => b ≤ q)) 2 D b n0 0 (B_X1_isAboard_0 b n0 cy P (zAt p la e (rm_X1_isAboard) s m args below meth c (MQ below (zQ D b (n0 + 0) P) args s 0 0 (fun q => b ≤ q)) 2 D b n0)) := by
  unfold B_X1_isAboard_0
  exact (s_aload_n X dX1_isAboard_0 rfl (s_get X dX1_isAboard_1 rfl k_X1_isAboard_1 (by decide) f_X1_isAboard_30 (s_iload_n X dX1_isAboard_4 rfl (s_ishr X dX1_isAboard_5 (s_iconst X dX1_isAboard_6 (by decide) (s_iand X dX1_isAboard_7 (s_if_eq X dX1_isAboard_8 (by decide) (s_iconst X dX1_isAboard_15 (by decide) (S_X1_isAboard_16 la X hr)) (s_iconst X dX1_isAboard_11 (by decide) (s_goto X dX1_isAboard_12 (by decide) (S_X1_isAboard_16 la X hr))))))))))
theorem w_X1_isAboard (la : Launch) (sp : zSp) (vc : zVC_X1_isAboard sp) : zMet la yX1_isAboard wsX1_isAboard rm_X1_isAboard 0 0 sp :=
  z_of (cc := cX1_isAboard) (maxL := 2) (ret := (some .boolean)) (by decide +kernel) rfl (fun p e s m args below meth c D cy b n as E P hsp X hr hin => by
    obtain ⟨h1, h2⟩ := vc b cy n as E P (zAt p la e (rm_X1_isAboard) s m args below meth c (MQ below (zQ D b (n + 0) P) args s 0 0 (fun q => b ≤ q)) 2 D b n) hsp
    exact ⟨h1, S_X1_isAboard_0 la X hr _ _ _ _ _ h2⟩)

theorem m_X1_isAboard (la : Launch) : zMet la yX1_isAboard wsX1_isAboard rm_X1_isAboard 0 0 sp_X1_isAboard := w_X1_isAboard la _ vc_X1_isAboard
def sp_X1_thoughtOf : zSp := fun b cy as N E P => ∃ (i r q n : Nat) (c : Nat → Nat), as = [.ref (b + i), .int (nI r), .int (nI q)] ∧ zMo b cy E i n c ∧ i + 3 < N ∧ r < 6 ∧ q < 6 ∧ P (some (.int (nI (c (16 + 6 * r + q))))) E
abbrev rm_X1_thoughtOf : Room := { frames := 1, cells := 0, slots := 0, locals := 40 }
def B_X1_thoughtOf_0 (b n0 : Nat) (cy : zY) (P : zPo) (A : Nat → zC) : zC :=
  z_aload 0 (z_get b n0 1 6 (z_iload 1 (z_const (6) (z_bin (fun x y => x * y) (z_iload 2 (z_bin (fun x y => x + y) (z_ald b n0 (cy 1) (z_iret 0 0 P))))))))
def zVC_X1_thoughtOf (sp : zSp) : Prop := ∀ (b : Nat) (cy : zY) (n : Nat) (as : List Value) (E : zE) (P : zPo) (A : Nat → zC), sp b cy as n E P → zgood as 3 ∧ B_X1_thoughtOf_0 b n cy P A (lv_args 0 as) [] 0 0 E

set_option maxRecDepth 100000 in
set_option maxHeartbeats 4000000 in
theorem vc_X1_thoughtOf : zVC_X1_thoughtOf sp_X1_thoughtOf := by
  intro b cy N as E P A hsp
  obtain ⟨i, r, q, n, c, rfl, ⟨hn, f, g, h, h0, h1, h2, h3, hf, hg, hh⟩, hi, hr, hq, hP⟩ := hsp
  refine ⟨⟨Nat.le_of_ble_eq_true rfl, zg1 rfl (zg1 rfl (zg1 rfl (zg0)))⟩, ?_⟩
  have hi0 : i < N := by omega
  have hin : vp_in (nI (6 * r + q)) 36 := vp_in_nI (by omega) (by omega)
  have hcl : (nI (6 * r + q)).toNatClampNeg = 6 * r + q := nI_clamp (by omega)
  have hv : h (6 * r + q) = nI (c (16 + 6 * r + q)) := by rw [hh _ (by omega), Nat.add_assoc]
  simp only [B_X1_thoughtOf_0, e_cut, e_iload, e_aload, e_istore, e_astore, e_iinc, e_const, e_lconst, e_bin, e_bin0, e_un, e_ladd, e_dupi, e_dupr, e_dup2, e_pop, e_if, e_icmp, e_sw, e_sw0, e_sw1, e_get, e_put, e_ald, e_ast, e_aald, e_aast, e_copy, e_new, e_newa, e_anewa, e_min, e_abs, e_oinit, e_callI, e_callV, e_callS, e_iret, e_zret, e_lret, e_vret, e_tl1, e_tl0, e_argi, e_argr, e_argn, zld_c, zst_n, zst_c, zpick_n, zpick_c, List.drop_succ_cons, List.drop_zero, List.take_succ_cons, List.take_zero, List.length_cons, List.length_nil, List.reverse_cons, List.reverse_nil, List.nil_append, List.cons_append, List.append_nil, List.getElem?_cons_zero, List.getElem?_cons_succ, List.set_cons_zero, List.set_cons_succ, Nat.add_sub_cancel_left, Nat.sub_self, Nat.add_zero, Nat.zero_add, Nat.le_add_right, Nat.le_refl, true_and, and_true, va_rf, zok, h0, hi0, h3, hi, zix, hin, hcl, hv]
  exact hP
set_option maxRecDepth 20000 in
theorem f_X1_thoughtOf_18 : Cond.fieldLink RX1 18 (TX1 6).1 (TX1 6).2.1 (TX1 6).2.2.1 ∈ wsX1_thoughtOf := by decide +kernel
set_option maxRecDepth 20000 in
theorem k_X1_thoughtOf_1 : ∀ w ∈ u_ws RX1 TX1 7, w ∈ wsX1_thoughtOf := fun _ h => List.mem_cons_of_mem _ (List.mem_append_right _ h)
set_option maxRecDepth 100000 in
set_option maxHeartbeats 4000000 in
theorem S_X1_thoughtOf_0 {p : Program} {e : Env} {s : State} {m : MethodId} {args : Array Value} {below : List Frame} {meth : Method} {c : Code} {D : va_G} {cy : zY} {b n0 : Nat} {P : zPo} (la : Launch) (X : zX p la e (rm_X1_thoughtOf) s m args below meth c 3 D cy b n0 cX1_thoughtOf wsX1_thoughtOf RX1) (hr : meth.sig.returnType = (some .int)) : zS p la e (rm_X1_thoughtOf) s m args below meth c (MQ below (zQ D b (n0 + 0) P) args s 0 0 (fun q => b ≤ q)) 3 D b n0 0 (B_X1_thoughtOf_0 b n0 cy P (zAt p la e (rm_X1_thoughtOf) s m args below meth c (MQ below (zQ D b (n0 + 0) P) args s 0 0 (fun q => b ≤ q)) 3 D b n0)) := by
  unfold B_X1_thoughtOf_0
  exact (s_aload_n X dX1_thoughtOf_0 rfl (s_get X dX1_thoughtOf_1 rfl k_X1_thoughtOf_1 (by decide) f_X1_thoughtOf_18 (s_iload_n X dX1_thoughtOf_4 rfl (s_bipush X dX1_thoughtOf_5 (by decide) (s_imul X dX1_thoughtOf_7 (s_iload_n X dX1_thoughtOf_8 rfl (s_iadd X dX1_thoughtOf_9 (s_iald X dX1_thoughtOf_10 (s_iret X dX1_thoughtOf_11 hr)))))))))
theorem w_X1_thoughtOf (la : Launch) (sp : zSp) (vc : zVC_X1_thoughtOf sp) : zMet la yX1_thoughtOf wsX1_thoughtOf rm_X1_thoughtOf 0 0 sp :=
  z_of (cc := cX1_thoughtOf) (maxL := 3) (ret := (some .int)) (by decide +kernel) rfl (fun p e s m args below meth c D cy b n as E P hsp X hr hin => by
    obtain ⟨h1, h2⟩ := vc b cy n as E P (zAt p la e (rm_X1_thoughtOf) s m args below meth c (MQ below (zQ D b (n + 0) P) args s 0 0 (fun q => b ≤ q)) 3 D b n) hsp
    exact ⟨h1, S_X1_thoughtOf_0 la X hr _ _ _ _ _ h2⟩)

theorem m_X1_thoughtOf (la : Launch) : zMet la yX1_thoughtOf wsX1_thoughtOf rm_X1_thoughtOf 0 0 sp_X1_thoughtOf := w_X1_thoughtOf la _ vc_X1_thoughtOf
/-! writes -/
def sp_X1_think : zSp := fun b cy as N E P => ∃ (i r q n : Nat) (c : Nat → Nat), as = [.ref (b + i), .int (nI r), .int (nI q)] ∧ zMo b cy E i n c ∧ i + 3 < N ∧ r < 6 ∧ q < 6 ∧ (∀ E', zMo b cy E' i n (zthink c r q) → (∀ j, j < i ∨ i + 3 < j → E' j = E j) → P none E')
abbrev rm_X1_think : Room := { frames := 1, cells := 0, slots := 0, locals := 40 }
def B_X1_think_0 (b n0 : Nat) (cy : zY) (P : zPo) (A : Nat → zC) : zC :=
  z_aload 0 (z_dup (z_get b n0 1 2 (z_const (1) (z_bin (fun x y => x + y) (z_put b n0 1 2 0 (z_aload 0 (z_get b n0 1 6 (z_iload 1 (z_const (6) (z_bin (fun x y => x * y) (z_iload 2 (z_bin (fun x y => x + y) (z_aload 0 (z_get b n0 1 2 (z_ast b n0 (cy 1) (fun x => x) (z_vret 0 0 P))))))))))))))))
def zVC_X1_think (sp : zSp) : Prop := ∀ (b : Nat) (cy : zY) (n : Nat) (as : List Value) (E : zE) (P : zPo) (A : Nat → zC), sp b cy as n E P → zgood as 3 ∧ B_X1_think_0 b n cy P A (lv_args 0 as) [] 0 0 E

set_option maxRecDepth 100000 in
set_option maxHeartbeats 4000000 in
theorem vc_X1_think : zVC_X1_think sp_X1_think := by
  intro b cy N as E P A hsp
  obtain ⟨i, r, q, n, c, rfl, ⟨hn, f, g, h, h0, h1, h2, h3, hf, hg, hh⟩, hi, hr, hq, hP⟩ := hsp
  refine ⟨⟨Nat.le_of_ble_eq_true rfl, zg1 rfl (zg1 rfl (zg1 rfl (zg0)))⟩, ?_⟩
  have hi0 : i < N := by omega
  have hin : vp_in (nI (6 * r + q)) 36 := vp_in_nI (by omega) (by omega)
  have hcl : (nI (6 * r + q)).toNatClampNeg = 6 * r + q := nI_clamp (by omega)
  have e1 : (i + 3 = i) = False := by simp
  simp only [B_X1_think_0, e_cut, e_iload, e_aload, e_istore, e_astore, e_iinc, e_const, e_lconst, e_bin, e_bin0, e_un, e_ladd, e_dupi, e_dupr, e_dup2, e_pop, e_if, e_icmp, e_sw, e_sw0, e_sw1, e_get, e_put, e_ald, e_ast, e_aald, e_aast, e_copy, e_new, e_newa, e_anewa, e_min, e_abs, e_oinit, e_callI, e_callV, e_callS, e_iret, e_zret, e_lret, e_vret, e_tl1, e_tl0, e_argi, e_argr, e_argn, zld_c, zst_n, zst_c, zpick_n, zpick_c, List.drop_succ_cons, List.drop_zero, List.take_succ_cons, List.take_zero, List.length_cons, List.length_nil, List.reverse_cons, List.reverse_nil, List.nil_append, List.cons_append, List.append_nil, List.getElem?_cons_zero, List.getElem?_cons_succ, List.set_cons_zero, List.set_cons_succ, Nat.add_sub_cancel_left, Nat.sub_self, Nat.add_zero, Nat.zero_add, Nat.le_add_right, Nat.le_refl, true_and, and_true, va_rf, zok, h0, hi0, h3, hi, zix, hin, hcl, e_up, e1, if_true, if_false, nI_1]
  refine ⟨by decide, hP _ ⟨hn, f, g, upd h (6 * r + q) (nI (c 2 + 1)), ?_, ?_, ?_, ?_, ?_, ?_, ?_⟩ ?_⟩
  · simp [e_up, zthink_lo, zthink_2]
  · simp [e_up, h1]
  · simp [e_up, h2]
  · simp [e_up]
  · intro j hj
    rw [zthink_lo (by omega) (by omega)]; exact hf j hj
  · intro j hj
    rw [zthink_lo (by omega) (by omega)]; exact hg j hj
  · intro j hj
    rw [zthink_hi]
    simp only [upd]
    by_cases h9 : j = 6 * r + q
    · rw [if_pos h9, if_pos h9]
    · rw [if_neg h9, if_neg h9]; exact hh j hj
  · intro j hj
    have a1 : ¬ j = i := by omega
    have a2 : ¬ j = i + 3 := by omega
    simp [e_up, a1, a2]
end
