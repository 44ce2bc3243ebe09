section
-- ===== PART A: goes FIRST, ahead of the names: the tables' words, and 'selects' of the private methods out of them =====
/-- a private method of a class that the tables say can be made, by its rows of tables_1 -/
def lw_okq (q : MethodName × Nat) : Prop := (q.1.cls ≠ "java/lang/invoke/MethodHandle" ∧ q.1.cls ≠ "java/lang/invoke/VarHandle") ∧ Cond.instantiable q.1.cls q.2 ∈ tables_1 ∧ Cond.privateMethod q.1 ∈ tables_1 ∧ Cond.instanceMethod q.1 ∈ tables_1
theorem lw_p0 : lw_okq (⟨"BallastLine$Track", "renew", "(I)V"⟩, 8) := ⟨⟨by decide +kernel, by decide +kernel⟩, List.mem_of_getElem? (i := 19) (by decide +kernel), List.mem_of_getElem? (i := 25) (by decide +kernel), List.mem_of_getElem? (i := 26) (by decide +kernel)⟩
theorem lw_p1 : lw_okq (⟨"BallastLine$Track", "has", "(I)Z"⟩, 8) := ⟨⟨by decide +kernel, by decide +kernel⟩, List.mem_of_getElem? (i := 19) (by decide +kernel), List.mem_of_getElem? (i := 166) (by decide +kernel), List.mem_of_getElem? (i := 167) (by decide +kernel)⟩
theorem lw_p2 : lw_okq (⟨"BallastLine$Track", "setLost", "(IZ)V"⟩, 8) := ⟨⟨by decide +kernel, by decide +kernel⟩, List.mem_of_getElem? (i := 19) (by decide +kernel), List.mem_of_getElem? (i := 171) (by decide +kernel), List.mem_of_getElem? (i := 172) (by decide +kernel)⟩
theorem lw_p3 : lw_okq (⟨"BallastLine$Track", "forgetHanging", "(I)V"⟩, 8) := ⟨⟨by decide +kernel, by decide +kernel⟩, List.mem_of_getElem? (i := 19) (by decide +kernel), List.mem_of_getElem? (i := 175) (by decide +kernel), List.mem_of_getElem? (i := 176) (by decide +kernel)⟩
theorem lw_p4 : lw_okq (⟨"BallastLine", "found", "(I)I"⟩, 8) := ⟨⟨by decide +kernel, by decide +kernel⟩, List.mem_of_getElem? (i := 11) (by decide +kernel), List.mem_of_getElem? (i := 193) (by decide +kernel), List.mem_of_getElem? (i := 194) (by decide +kernel)⟩
theorem lw_p5 : lw_okq (⟨"BallastLine$Track", "setBed", "(II)V"⟩, 8) := ⟨⟨by decide +kernel, by decide +kernel⟩, List.mem_of_getElem? (i := 19) (by decide +kernel), List.mem_of_getElem? (i := 197) (by decide +kernel), List.mem_of_getElem? (i := 198) (by decide +kernel)⟩
theorem lw_p6 : lw_okq (⟨"BallastLine", "tell", "(J)I"⟩, 8) := ⟨⟨by decide +kernel, by decide +kernel⟩, List.mem_of_getElem? (i := 11) (by decide +kernel), List.mem_of_getElem? (i := 201) (by decide +kernel), List.mem_of_getElem? (i := 202) (by decide +kernel)⟩
theorem lw_p7 : lw_okq (⟨"BallastLine$Track", "isOf", "(II)Z"⟩, 8) := ⟨⟨by decide +kernel, by decide +kernel⟩, List.mem_of_getElem? (i := 19) (by decide +kernel), List.mem_of_getElem? (i := 217) (by decide +kernel), List.mem_of_getElem? (i := 218) (by decide +kernel)⟩
theorem lw_p8 : lw_okq (⟨"BallastLine$Track", "height", "(I)I"⟩, 8) := ⟨⟨by decide +kernel, by decide +kernel⟩, List.mem_of_getElem? (i := 19) (by decide +kernel), List.mem_of_getElem? (i := 225) (by decide +kernel), List.mem_of_getElem? (i := 226) (by decide +kernel)⟩
theorem lw_p9 : lw_okq (⟨"BallastLine$Track", "stands", "(I)Z"⟩, 8) := ⟨⟨by decide +kernel, by decide +kernel⟩, List.mem_of_getElem? (i := 19) (by decide +kernel), List.mem_of_getElem? (i := 229) (by decide +kernel), List.mem_of_getElem? (i := 230) (by decide +kernel)⟩
theorem lw_p10 : lw_okq (⟨"BallastLine$Track", "lineAt", "(III)I"⟩, 8) := ⟨⟨by decide +kernel, by decide +kernel⟩, List.mem_of_getElem? (i := 19) (by decide +kernel), List.mem_of_getElem? (i := 235) (by decide +kernel), List.mem_of_getElem? (i := 236) (by decide +kernel)⟩
theorem lw_p11 : lw_okq (⟨"BallastLine$Track", "nearestBed", "(I)I"⟩, 8) := ⟨⟨by decide +kernel, by decide +kernel⟩, List.mem_of_getElem? (i := 19) (by decide +kernel), List.mem_of_getElem? (i := 245) (by decide +kernel), List.mem_of_getElem? (i := 246) (by decide +kernel)⟩
theorem lw_p12 : lw_okq (⟨"BallastLine$Train", "roll", "(LBallastLine$Track;I)I"⟩, 3) := ⟨⟨by decide +kernel, by decide +kernel⟩, List.mem_of_getElem? (i := 66) (by decide +kernel), List.mem_of_getElem? (i := 269) (by decide +kernel), List.mem_of_getElem? (i := 270) (by decide +kernel)⟩
theorem lw_p13 : lw_okq (⟨"BallastLine$Train", "pressAt", "(LBallastLine$Track;II)I"⟩, 3) := ⟨⟨by decide +kernel, by decide +kernel⟩, List.mem_of_getElem? (i := 66) (by decide +kernel), List.mem_of_getElem? (i := 273) (by decide +kernel), List.mem_of_getElem? (i := 274) (by decide +kernel)⟩
theorem lw_p14 : lw_okq (⟨"BallastLine$Track", "jointAt", "(I)Z"⟩, 8) := ⟨⟨by decide +kernel, by decide +kernel⟩, List.mem_of_getElem? (i := 19) (by decide +kernel), List.mem_of_getElem? (i := 277) (by decide +kernel), List.mem_of_getElem? (i := 278) (by decide +kernel)⟩
theorem lw_p15 : lw_okq (⟨"BallastLine$Track", "bears", "(I)Z"⟩, 8) := ⟨⟨by decide +kernel, by decide +kernel⟩, List.mem_of_getElem? (i := 19) (by decide +kernel), List.mem_of_getElem? (i := 281) (by decide +kernel), List.mem_of_getElem? (i := 282) (by decide +kernel)⟩
def lw_privs_1 : List (MethodName × Nat) := [(⟨"BallastLine$Track", "renew", "(I)V"⟩, 8), (⟨"BallastLine$Track", "has", "(I)Z"⟩, 8), (⟨"BallastLine$Track", "setLost", "(IZ)V"⟩, 8), (⟨"BallastLine$Track", "forgetHanging", "(I)V"⟩, 8), (⟨"BallastLine", "found", "(I)I"⟩, 8), (⟨"BallastLine$Track", "setBed", "(II)V"⟩, 8), (⟨"BallastLine", "tell", "(J)I"⟩, 8), (⟨"BallastLine$Track", "isOf", "(II)Z"⟩, 8), (⟨"BallastLine$Track", "height", "(I)I"⟩, 8), (⟨"BallastLine$Track", "stands", "(I)Z"⟩, 8), (⟨"BallastLine$Track", "lineAt", "(III)I"⟩, 8), (⟨"BallastLine$Track", "nearestBed", "(I)I"⟩, 8), (⟨"BallastLine$Train", "roll", "(LBallastLine$Track;I)I"⟩, 3), (⟨"BallastLine$Train", "pressAt", "(LBallastLine$Track;II)I"⟩, 3), (⟨"BallastLine$Track", "jointAt", "(I)Z"⟩, 8), (⟨"BallastLine$Track", "bears", "(I)Z"⟩, 8)]
theorem lw_r1 : ∀ q ∈ lw_privs_1, lw_okq q := List.forall_mem_cons.mpr ⟨lw_p0, List.forall_mem_cons.mpr ⟨lw_p1, List.forall_mem_cons.mpr ⟨lw_p2, List.forall_mem_cons.mpr ⟨lw_p3, List.forall_mem_cons.mpr ⟨lw_p4, List.forall_mem_cons.mpr ⟨lw_p5, List.forall_mem_cons.mpr ⟨lw_p6, List.forall_mem_cons.mpr ⟨lw_p7, List.forall_mem_cons.mpr ⟨lw_p8, List.forall_mem_cons.mpr ⟨lw_p9, List.forall_mem_cons.mpr ⟨lw_p10, List.forall_mem_cons.mpr ⟨lw_p11, List.forall_mem_cons.mpr ⟨lw_p12, List.forall_mem_cons.mpr ⟨lw_p13, List.forall_mem_cons.mpr ⟨lw_p14, List.forall_mem_cons.mpr ⟨lw_p15, fun _ h => absurd h List.not_mem_nil⟩⟩⟩⟩⟩⟩⟩⟩⟩⟩⟩⟩⟩⟩⟩⟩
theorem lw_p16 : lw_okq (⟨"BallastLine$Train", "settle", "(LBallastLine$Track;IIII)I"⟩, 3) := ⟨⟨by decide +kernel, by decide +kernel⟩, List.mem_of_getElem? (i := 66) (by decide +kernel), List.mem_of_getElem? (i := 286) (by decide +kernel), List.mem_of_getElem? (i := 287) (by decide +kernel)⟩
theorem lw_p17 : lw_okq (⟨"BallastLine$Track", "sink", "(II)I"⟩, 8) := ⟨⟨by decide +kernel, by decide +kernel⟩, List.mem_of_getElem? (i := 19) (by decide +kernel), List.mem_of_getElem? (i := 297) (by decide +kernel), List.mem_of_getElem? (i := 298) (by decide +kernel)⟩
theorem lw_p18 : lw_okq (⟨"BallastLine$Track", "standing", "(II)I"⟩, 8) := ⟨⟨by decide +kernel, by decide +kernel⟩, List.mem_of_getElem? (i := 19) (by decide +kernel), List.mem_of_getElem? (i := 306) (by decide +kernel), List.mem_of_getElem? (i := 307) (by decide +kernel)⟩
theorem lw_p19 : lw_okq (⟨"BallastLine$Track", "sumOfBeds", "()I"⟩, 8) := ⟨⟨by decide +kernel, by decide +kernel⟩, List.mem_of_getElem? (i := 19) (by decide +kernel), List.mem_of_getElem? (i := 310) (by decide +kernel), List.mem_of_getElem? (i := 311) (by decide +kernel)⟩
theorem lw_p20 : lw_okq (⟨"BallastLine$Track", "raise", "(II)Z"⟩, 8) := ⟨⟨by decide +kernel, by decide +kernel⟩, List.mem_of_getElem? (i := 19) (by decide +kernel), List.mem_of_getElem? (i := 319) (by decide +kernel), List.mem_of_getElem? (i := 320) (by decide +kernel)⟩
theorem lw_p21 : lw_okq (⟨"BallastLine$Runs", "open", "(I)I"⟩, 2) := ⟨⟨by decide +kernel, by decide +kernel⟩, List.mem_of_getElem? (i := 86) (by decide +kernel), List.mem_of_getElem? (i := 330) (by decide +kernel), List.mem_of_getElem? (i := 331) (by decide +kernel)⟩
theorem lw_p22 : lw_okq (⟨"BallastLine$Track", "chord", "(II)I"⟩, 8) := ⟨⟨by decide +kernel, by decide +kernel⟩, List.mem_of_getElem? (i := 19) (by decide +kernel), List.mem_of_getElem? (i := 334) (by decide +kernel), List.mem_of_getElem? (i := 335) (by decide +kernel)⟩
theorem lw_p23 : lw_okq (⟨"BallastLine$Runs", "unbend", "(IIII)V"⟩, 2) := ⟨⟨by decide +kernel, by decide +kernel⟩, List.mem_of_getElem? (i := 86) (by decide +kernel), List.mem_of_getElem? (i := 356) (by decide +kernel), List.mem_of_getElem? (i := 357) (by decide +kernel)⟩
theorem lw_p24 : lw_okq (⟨"BallastLine$Runs", "bestShift", "(III)I"⟩, 2) := ⟨⟨by decide +kernel, by decide +kernel⟩, List.mem_of_getElem? (i := 86) (by decide +kernel), List.mem_of_getElem? (i := 378) (by decide +kernel), List.mem_of_getElem? (i := 379) (by decide +kernel)⟩
theorem lw_p25 : lw_okq (⟨"BallastLine$Runs", "squaresApart", "(IIII)J"⟩, 2) := ⟨⟨by decide +kernel, by decide +kernel⟩, List.mem_of_getElem? (i := 86) (by decide +kernel), List.mem_of_getElem? (i := 382) (by decide +kernel), List.mem_of_getElem? (i := 383) (by decide +kernel)⟩
theorem lw_p26 : lw_okq (⟨"BallastLine$Runs", "steepest", "(II)I"⟩, 2) := ⟨⟨by decide +kernel, by decide +kernel⟩, List.mem_of_getElem? (i := 86) (by decide +kernel), List.mem_of_getElem? (i := 391) (by decide +kernel), List.mem_of_getElem? (i := 392) (by decide +kernel)⟩
theorem lw_p27 : lw_okq (⟨"BallastLine$Runs", "stepAfter", "(II)J"⟩, 2) := ⟨⟨by decide +kernel, by decide +kernel⟩, List.mem_of_getElem? (i := 86) (by decide +kernel), List.mem_of_getElem? (i := 395) (by decide +kernel), List.mem_of_getElem? (i := 396) (by decide +kernel)⟩
theorem lw_p28 : lw_okq (⟨"BallastLine", "pressOf", "(II)I"⟩, 8) := ⟨⟨by decide +kernel, by decide +kernel⟩, List.mem_of_getElem? (i := 11) (by decide +kernel), List.mem_of_getElem? (i := 421) (by decide +kernel), List.mem_of_getElem? (i := 422) (by decide +kernel)⟩
theorem lw_p29 : lw_okq (⟨"BallastLine$Track", "sumOfStones", "(II)I"⟩, 8) := ⟨⟨by decide +kernel, by decide +kernel⟩, List.mem_of_getElem? (i := 19) (by decide +kernel), List.mem_of_getElem? (i := 429) (by decide +kernel), List.mem_of_getElem? (i := 430) (by decide +kernel)⟩
theorem lw_p30 : lw_okq (⟨"BallastLine$Track", "greatestChord", "(II)I"⟩, 8) := ⟨⟨by decide +kernel, by decide +kernel⟩, List.mem_of_getElem? (i := 19) (by decide +kernel), List.mem_of_getElem? (i := 437) (by decide +kernel), List.mem_of_getElem? (i := 438) (by decide +kernel)⟩
theorem lw_p31 : lw_okq (⟨"BallastLine$Works", "add", "(II)I"⟩, 6) := ⟨⟨by decide +kernel, by decide +kernel⟩, List.mem_of_getElem? (i := 103) (by decide +kernel), List.mem_of_getElem? (i := 449) (by decide +kernel), List.mem_of_getElem? (i := 450) (by decide +kernel)⟩
def lw_privs_2 : List (MethodName × Nat) := [(⟨"BallastLine$Train", "settle", "(LBallastLine$Track;IIII)I"⟩, 3), (⟨"BallastLine$Track", "sink", "(II)I"⟩, 8), (⟨"BallastLine$Track", "standing", "(II)I"⟩, 8), (⟨"BallastLine$Track", "sumOfBeds", "()I"⟩, 8), (⟨"BallastLine$Track", "raise", "(II)Z"⟩, 8), (⟨"BallastLine$Runs", "open", "(I)I"⟩, 2), (⟨"BallastLine$Track", "chord", "(II)I"⟩, 8), (⟨"BallastLine$Runs", "unbend", "(IIII)V"⟩, 2), (⟨"BallastLine$Runs", "bestShift", "(III)I"⟩, 2), (⟨"BallastLine$Runs", "squaresApart", "(IIII)J"⟩, 2), (⟨"BallastLine$Runs", "steepest", "(II)I"⟩, 2), (⟨"BallastLine$Runs", "stepAfter", "(II)J"⟩, 2), (⟨"BallastLine", "pressOf", "(II)I"⟩, 8), (⟨"BallastLine$Track", "sumOfStones", "(II)I"⟩, 8), (⟨"BallastLine$Track", "greatestChord", "(II)I"⟩, 8), (⟨"BallastLine$Works", "add", "(II)I"⟩, 6)]
theorem lw_r2 : ∀ q ∈ lw_privs_2, lw_okq q := List.forall_mem_cons.mpr ⟨lw_p16, List.forall_mem_cons.mpr ⟨lw_p17, List.forall_mem_cons.mpr ⟨lw_p18, List.forall_mem_cons.mpr ⟨lw_p19, List.forall_mem_cons.mpr ⟨lw_p20, List.forall_mem_cons.mpr ⟨lw_p21, List.forall_mem_cons.mpr ⟨lw_p22, List.forall_mem_cons.mpr ⟨lw_p23, List.forall_mem_cons.mpr ⟨lw_p24, List.forall_mem_cons.mpr ⟨lw_p25, List.forall_mem_cons.mpr ⟨lw_p26, List.forall_mem_cons.mpr ⟨lw_p27, List.forall_mem_cons.mpr ⟨lw_p28, List.forall_mem_cons.mpr ⟨lw_p29, List.forall_mem_cons.mpr ⟨lw_p30, List.forall_mem_cons.mpr ⟨lw_p31, fun _ h => absurd h List.not_mem_nil⟩⟩⟩⟩⟩⟩⟩⟩⟩⟩⟩⟩⟩⟩⟩⟩
theorem lw_p32 : lw_okq (⟨"BallastLine$Works", "isWorse", "(II)Z"⟩, 6) := ⟨⟨by decide +kernel, by decide +kernel⟩, List.mem_of_getElem? (i := 103) (by decide +kernel), List.mem_of_getElem? (i := 453) (by decide +kernel), List.mem_of_getElem? (i := 454) (by decide +kernel)⟩
theorem lw_p33 : lw_okq (⟨"BallastLine$Works", "bestSet", "(I)I"⟩, 6) := ⟨⟨by decide +kernel, by decide +kernel⟩, List.mem_of_getElem? (i := 103) (by decide +kernel), List.mem_of_getElem? (i := 461) (by decide +kernel), List.mem_of_getElem? (i := 462) (by decide +kernel)⟩
theorem lw_p34 : lw_okq (⟨"BallastLine$Works", "gainOf", "(I)I"⟩, 6) := ⟨⟨by decide +kernel, by decide +kernel⟩, List.mem_of_getElem? (i := 103) (by decide +kernel), List.mem_of_getElem? (i := 471) (by decide +kernel), List.mem_of_getElem? (i := 472) (by decide +kernel)⟩
theorem lw_p35 : lw_okq (⟨"BallastLine$Works", "worstFirst", "(I)I"⟩, 6) := ⟨⟨by decide +kernel, by decide +kernel⟩, List.mem_of_getElem? (i := 103) (by decide +kernel), List.mem_of_getElem? (i := 479) (by decide +kernel), List.mem_of_getElem? (i := 480) (by decide +kernel)⟩
theorem lw_p36 : lw_okq (⟨"BallastLine$Runs", "howMany", "()I"⟩, 2) := ⟨⟨by decide +kernel, by decide +kernel⟩, List.mem_of_getElem? (i := 86) (by decide +kernel), List.mem_of_getElem? (i := 491) (by decide +kernel), List.mem_of_getElem? (i := 492) (by decide +kernel)⟩
theorem lw_p37 : lw_okq (⟨"BallastLine$Runs", "digestOn", "(JI)J"⟩, 2) := ⟨⟨by decide +kernel, by decide +kernel⟩, List.mem_of_getElem? (i := 86) (by decide +kernel), List.mem_of_getElem? (i := 511) (by decide +kernel), List.mem_of_getElem? (i := 512) (by decide +kernel)⟩
theorem lw_p38 : lw_okq (⟨"BallastLineModel", "isSleeper", "(I)Z"⟩, 20) := ⟨⟨by decide +kernel, by decide +kernel⟩, List.mem_of_getElem? (i := 516) (by decide +kernel), List.mem_of_getElem? (i := 595) (by decide +kernel), List.mem_of_getElem? (i := 596) (by decide +kernel)⟩
theorem lw_p39 : lw_okq (⟨"BallastLineModel", "looked", "(I)I"⟩, 20) := ⟨⟨by decide +kernel, by decide +kernel⟩, List.mem_of_getElem? (i := 516) (by decide +kernel), List.mem_of_getElem? (i := 607) (by decide +kernel), List.mem_of_getElem? (i := 608) (by decide +kernel)⟩
theorem lw_p40 : lw_okq (⟨"BallastLineModel", "meets", "(I)I"⟩, 20) := ⟨⟨by decide +kernel, by decide +kernel⟩, List.mem_of_getElem? (i := 516) (by decide +kernel), List.mem_of_getElem? (i := 611) (by decide +kernel), List.mem_of_getElem? (i := 612) (by decide +kernel)⟩
theorem lw_p41 : lw_okq (⟨"BallastLineModel", "tells", "(II)I"⟩, 20) := ⟨⟨by decide +kernel, by decide +kernel⟩, List.mem_of_getElem? (i := 516) (by decide +kernel), List.mem_of_getElem? (i := 623) (by decide +kernel), List.mem_of_getElem? (i := 624) (by decide +kernel)⟩
theorem lw_p42 : lw_okq (⟨"BallastLineModel", "railAt", "(I)I"⟩, 20) := ⟨⟨by decide +kernel, by decide +kernel⟩, List.mem_of_getElem? (i := 516) (by decide +kernel), List.mem_of_getElem? (i := 635) (by decide +kernel), List.mem_of_getElem? (i := 636) (by decide +kernel)⟩
theorem lw_p43 : lw_okq (⟨"BallastLineModel", "tell", "(JI)I"⟩, 20) := ⟨⟨by decide +kernel, by decide +kernel⟩, List.mem_of_getElem? (i := 516) (by decide +kernel), List.mem_of_getElem? (i := 642) (by decide +kernel), List.mem_of_getElem? (i := 643) (by decide +kernel)⟩
theorem lw_p44 : lw_okq (⟨"BallastLineModel", "rolls", "(II)I"⟩, 20) := ⟨⟨by decide +kernel, by decide +kernel⟩, List.mem_of_getElem? (i := 516) (by decide +kernel), List.mem_of_getElem? (i := 666) (by decide +kernel), List.mem_of_getElem? (i := 667) (by decide +kernel)⟩
theorem lw_p45 : lw_okq (⟨"BallastLineModel", "bears", "(I)Z"⟩, 20) := ⟨⟨by decide +kernel, by decide +kernel⟩, List.mem_of_getElem? (i := 516) (by decide +kernel), List.mem_of_getElem? (i := 670) (by decide +kernel), List.mem_of_getElem? (i := 671) (by decide +kernel)⟩
theorem lw_p46 : lw_okq (⟨"BallastLineModel", "sink", "(II)I"⟩, 20) := ⟨⟨by decide +kernel, by decide +kernel⟩, List.mem_of_getElem? (i := 516) (by decide +kernel), List.mem_of_getElem? (i := 674) (by decide +kernel), List.mem_of_getElem? (i := 675) (by decide +kernel)⟩
theorem lw_p47 : lw_okq (⟨"BallastLineModel", "chordAt", "(II)I"⟩, 20) := ⟨⟨by decide +kernel, by decide +kernel⟩, List.mem_of_getElem? (i := 516) (by decide +kernel), List.mem_of_getElem? (i := 693) (by decide +kernel), List.mem_of_getElem? (i := 694) (by decide +kernel)⟩
def lw_privs_3 : List (MethodName × Nat) := [(⟨"BallastLine$Works", "isWorse", "(II)Z"⟩, 6), (⟨"BallastLine$Works", "bestSet", "(I)I"⟩, 6), (⟨"BallastLine$Works", "gainOf", "(I)I"⟩, 6), (⟨"BallastLine$Works", "worstFirst", "(I)I"⟩, 6), (⟨"BallastLine$Runs", "howMany", "()I"⟩, 2), (⟨"BallastLine$Runs", "digestOn", "(JI)J"⟩, 2), (⟨"BallastLineModel", "isSleeper", "(I)Z"⟩, 20), (⟨"BallastLineModel", "looked", "(I)I"⟩, 20), (⟨"BallastLineModel", "meets", "(I)I"⟩, 20), (⟨"BallastLineModel", "tells", "(II)I"⟩, 20), (⟨"BallastLineModel", "railAt", "(I)I"⟩, 20), (⟨"BallastLineModel", "tell", "(JI)I"⟩, 20), (⟨"BallastLineModel", "rolls", "(II)I"⟩, 20), (⟨"BallastLineModel", "bears", "(I)Z"⟩, 20), (⟨"BallastLineModel", "sink", "(II)I"⟩, 20), (⟨"BallastLineModel", "chordAt", "(II)I"⟩, 20)]
theorem lw_r3 : ∀ q ∈ lw_privs_3, lw_okq q := List.forall_mem_cons.mpr ⟨lw_p32, List.forall_mem_cons.mpr ⟨lw_p33, List.forall_mem_cons.mpr ⟨lw_p34, List.forall_mem_cons.mpr ⟨lw_p35, List.forall_mem_cons.mpr ⟨lw_p36, List.forall_mem_cons.mpr ⟨lw_p37, List.forall_mem_cons.mpr ⟨lw_p38, List.forall_mem_cons.mpr ⟨lw_p39, List.forall_mem_cons.mpr ⟨lw_p40, List.forall_mem_cons.mpr ⟨lw_p41, List.forall_mem_cons.mpr ⟨lw_p42, List.forall_mem_cons.mpr ⟨lw_p43, List.forall_mem_cons.mpr ⟨lw_p44, List.forall_mem_cons.mpr ⟨lw_p45, List.forall_mem_cons.mpr ⟨lw_p46, List.forall_mem_cons.mpr ⟨lw_p47, fun _ h => absurd h List.not_mem_nil⟩⟩⟩⟩⟩⟩⟩⟩⟩⟩⟩⟩⟩⟩⟩⟩
theorem lw_p48 : lw_okq (⟨"BallastLineModel", "askedFor", "(I)I"⟩, 20) := ⟨⟨by decide +kernel, by decide +kernel⟩, List.mem_of_getElem? (i := 516) (by decide +kernel), List.mem_of_getElem? (i := 707) (by decide +kernel), List.mem_of_getElem? (i := 708) (by decide +kernel)⟩
theorem lw_p49 : lw_okq (⟨"BallastLineModel", "apart", "(III)J"⟩, 20) := ⟨⟨by decide +kernel, by decide +kernel⟩, List.mem_of_getElem? (i := 516) (by decide +kernel), List.mem_of_getElem? (i := 732) (by decide +kernel), List.mem_of_getElem? (i := 733) (by decide +kernel)⟩
theorem lw_p50 : lw_okq (⟨"BallastLineModel", "pressOf", "(II)J"⟩, 20) := ⟨⟨by decide +kernel, by decide +kernel⟩, List.mem_of_getElem? (i := 516) (by decide +kernel), List.mem_of_getElem? (i := 759) (by decide +kernel), List.mem_of_getElem? (i := 760) (by decide +kernel)⟩
theorem lw_p51 : lw_okq (⟨"BallastLineModel", "sumOf", "(IZ)I"⟩, 20) := ⟨⟨by decide +kernel, by decide +kernel⟩, List.mem_of_getElem? (i := 516) (by decide +kernel), List.mem_of_getElem? (i := 779) (by decide +kernel), List.mem_of_getElem? (i := 780) (by decide +kernel)⟩
theorem lw_p52 : lw_okq (⟨"BallastLineModel", "tellsCount", "(I)I"⟩, 20) := ⟨⟨by decide +kernel, by decide +kernel⟩, List.mem_of_getElem? (i := 516) (by decide +kernel), List.mem_of_getElem? (i := 795) (by decide +kernel), List.mem_of_getElem? (i := 796) (by decide +kernel)⟩
def lw_privs_4 : List (MethodName × Nat) := [(⟨"BallastLineModel", "askedFor", "(I)I"⟩, 20), (⟨"BallastLineModel", "apart", "(III)J"⟩, 20), (⟨"BallastLineModel", "pressOf", "(II)J"⟩, 20), (⟨"BallastLineModel", "sumOf", "(IZ)I"⟩, 20), (⟨"BallastLineModel", "tellsCount", "(I)I"⟩, 20)]
theorem lw_r4 : ∀ q ∈ lw_privs_4, lw_okq q := List.forall_mem_cons.mpr ⟨lw_p48, List.forall_mem_cons.mpr ⟨lw_p49, List.forall_mem_cons.mpr ⟨lw_p50, List.forall_mem_cons.mpr ⟨lw_p51, List.forall_mem_cons.mpr ⟨lw_p52, fun _ h => absurd h List.not_mem_nil⟩⟩⟩⟩⟩
def lw_privs : List (MethodName × Nat) := lw_privs_1 ++ (lw_privs_2 ++ (lw_privs_3 ++ (lw_privs_4)))
def lw_tbl : List Cond := k2_sels lw_privs ++ tables_1
theorem lw_privs_ok : ∀ q ∈ lw_privs, lw_okq q := by
  show ∀ q ∈ lw_privs_1 ++ (lw_privs_2 ++ (lw_privs_3 ++ (lw_privs_4))), lw_okq q
  exact List.forall_mem_append.mpr ⟨lw_r1, List.forall_mem_append.mpr ⟨lw_r2, List.forall_mem_append.mpr ⟨lw_r3, lw_r4⟩⟩⟩
end
section
/-! ===== BEGIN words of one list among another's, by their places ===== -/
theorem goodIn_r {big : List Cond} (ws : List Cond) (ps : List Nat) (hp : ws = ps.filterMap (fun i => big[i]?)) (h : ws.all goodWord = true) : GoodIn big ws := by
  intro w hw
  have h1 := List.all_eq_true.mp h w hw
  rw [hp] at hw
  obtain ⟨i, -, hi⟩ := List.mem_filterMap.mp hw
  have hm : w ∈ big := by first | exact List.mem_of_getElem? hi | exact List.getElem?_mem hi
  exact ⟨hm, good_of_word h1⟩
theorem goodIn_app {big a b : List Cond} (ha : GoodIn big a) (hb : GoodIn big b) : GoodIn big (a ++ b) := fun w h => (List.mem_append.mp h).elim (ha w) (hb w)
theorem goodIn_ca {big a b : List Cond} {c : Cond} (ha : GoodIn big (c :: a)) (hb : GoodIn big b) : GoodIn big (c :: (a ++ b)) := fun w h => (List.mem_cons.mp h).elim (fun e => ha w (List.mem_cons.mpr (Or.inl e))) (fun h => (List.mem_append.mp h).elim (fun h => ha w (List.mem_cons.mpr (Or.inr h))) (hb w))
theorem goodIn_sub {big ws : List Cond} (hm : ∀ w ∈ ws, w ∈ big) (h : ws.all goodWord = true) : GoodIn big ws := fun w hw => ⟨hm w hw, good_of_word (List.all_eq_true.mp h w hw)⟩
/-! ===== END ===== -/

/-! ===== BEGIN new T[n][m]: the outer array a place, the inner ones among the pooled ===== -/
/-- f, but v at every address of l -/
def vr_up {α : Type} (f : Nat → α) (l : List Nat) (v : α) : Nat → α := fun a => if a ∈ l then v else f a
theorem vr_up_in {α : Type} {f : Nat → α} {l : List Nat} {v : α} {a : Nat} (h : a ∈ l) : vr_up f l v a = v := if_pos h
theorem vr_up_ne {α : Type} {f : Nat → α} {l : List Nat} {v : α} {a : Nat} (h : a ∉ l) : vr_up f l v a = f a := if_neg h
theorem vr_rows {L l : List Nat} {f : Nat → va_E} {e : va_E} (h : ∀ a, a ∈ l → a ∉ L) : va_pl L f ++ l.map (fun a => (a, e)) = va_pl (L ++ l) (vr_up f l e) := by
  unfold va_pl
  rw [List.map_append]
  congr 1
  · apply List.map_congr_left
    intro a ha
    rw [vr_up_ne (fun q => h a q ha)]
  · apply List.map_congr_left
    intro a ha
    rw [vr_up_in ha]
theorem vr_lay {X rows : va_W} {x : Nat × va_E} {pl : va_W} {D : va_G} {cl : List vw_C} {H : Heap} (hP : va_P D cl (((X ++ pl) ++ [x]) ++ rows) H) : va_P D cl ((X ++ [x]) ++ (pl ++ rows)) H := by
  rw [List.append_assoc (X ++ pl)] at hP
  have h := va_P.swap hP
  rw [← List.append_assoc X] at h
  have h2 := va_P.swap h
  rw [List.append_assoc (X ++ [x])] at h2
  exact h2
theorem vr_layD {X rows : va_W} {x : Nat × va_E} {pl : va_W} {A : Nat → Prop} (hD : va_D A (((X ++ pl) ++ [x]) ++ rows)) : va_D A ((X ++ [x]) ++ (pl ++ rows)) := by
  rw [List.append_assoc (X ++ pl)] at hD
  have h := va_D.swap hD
  rw [← List.append_assoc X] at h
  have h2 := va_D.swap h
  rw [List.append_assoc (X ++ [x])] at h2
  exact h2
theorem vr_outer (c : ClassId) (N h0 : Nat) : ∀ i : Nat, Jvm.Free.Multi.outerC c N h0 i = arrV c N (fun j => va_rf (if j < i then some (h0 + 1 + j) else none))
  | 0 => by
    show ({ cls := c, slots := Array.replicate N .null, vm := .none } : Cell) = _
    rw [arrV_new]
    refine congrArg (arrV c N) (funext fun j => ?_)
    simp [va_rf]
  | i + 1 => by
    show (Jvm.Free.Multi.outerC c N h0 i).setSlot i (.ref (h0 + 1 + i)) = _
    rw [vr_outer c N h0 i, arrV_store]
    refine congrArg (arrV c N) (funext fun j => ?_)
    by_cases e : j = i
    · subst e
      simp [updV, va_rf]
    · by_cases h : j < i
      · simp [updV, e, h, Nat.lt_succ_of_lt h]
      · simp [updV, e, h, show ¬ j < i + 1 by omega]
theorem va_AOA_pad : True := trivial
def va_AOA (ty : FieldType) (U : State) : Prop := (Cond.arrayOver (.array ty)).before #[] U = true
theorem va_AOA.use {ty : FieldType} {A : Array Value} {U : State} (h : va_AOA ty U) : (Cond.arrayOver (.array ty)).before A U = true := h
section VGM
variable {p : Program} {l : Launch} {e : Env} {R : Room} {s : State} {m : MethodId} {args : Array Value} {below : List Frame} {meth : Method} {c : Code} {H : Heap} {locs : List Loc} {cells slots : Nat} {Q : State → Prop}
variable {cc : ByteArray} {pc : Nat} {ls : Array Slot} {rest : List Value} {D : va_G} {cl : List vw_C} {A : Nat → Prop} {a : Nat} {tys : List (ClassId × FieldType)} {ws : va_W} {H0 : Heap}
theorem va_mna {X : va_W} {L : List Nat} {f : Nat → va_E} {cc : ByteArray} (hexec : p.tables.exec = Jvm.exec) (hb : c.code = cc) {own : String} {index : Nat} {ty : FieldType} {cy : ClassId} (hown : s.vm.findClass own = some m.cls) (hclink : (Cond.classLink own index ("[" ++ (FieldType.array ty).toString)).before args s = true) (hover : va_AOA ty s) (harr : (Cond.arrayClass ty).before args s = true) (hcy : s.vm.findClass (FieldType.array ty).toString = some cy)
    (hK : va_K D cl tys s) (hP : va_P D cl (X ++ va_pl L f) H) (hD : va_D A (X ++ va_pl L f)) (hS : va_S A H0 H locs) (hA : ∀ q, H0.size ≤ q → A q) {n k : Int32} {N' K' : Nat} {z : vp_A} (hn : ¬ n < 0) (hk : ¬ k < 0) (hN : n.toNatClampNeg = N') (hM : k.toNatClampNeg = K')
    (hb1 : N' * 4 ≤ 536870912) (hb2 : K' * componentBytes ty ≤ 536870912) (hb3 : K' ≤ 536870912) (hdf : fits ty (defaultValue ty) = true) (hdd : (defaultValue ty).isDefault = true) (hcells : cells + (1 + N') ≤ R.cells) (hslots : slots + (N' + N' * K') ≤ R.slots) (hz : ∀ c : ClassId, Jvm.Free.Multi.innerC c K' (defaultValue ty) = vp_cell c z) (hdg : decode cc pc = .ok (.multianewarray index 2, 4))
    (kk : ∀ (q : Nat) (r : Nat → Nat) (cA : ClassId) (H1 : Heap), (∀ i j : Nat, i < N' → j < N' → r i = r j → i = j) → (∀ i : Nat, i < N' → r i ∉ L) → va_K D cl (tys ++ [(cA, .array ty)]) s →
      va_P D cl ((X ++ [(q, .inl (cA, N', .inr (.inr (.inr (.inr (fun i => if i < N' then some (r i) else none))))))]) ++ va_pl (L ++ (List.range N').map r) (vr_up f ((List.range N').map r) (.inl (cy, z)))) H1 → va_D A ((X ++ [(q, .inl (cA, N', .inr (.inr (.inr (.inr (fun i => if i < N' then some (r i) else none))))))]) ++ va_pl (L ++ (List.range N').map r) (vr_up f ((List.range N').map r) (.inl (cy, z)))) → va_S A H0 H1 locs →
      W p l e R s m args below meth c H1 locs (cells + 1 + N') (slots + N' + N' * K') Q (F0 m (pc + 4) ls (.ref q :: rest))) : W p l e R s m args below meth c H locs cells slots Q (F0 m pc ls (.int k :: .int n :: rest)) := by
  subst hN
  subst hM
  intro T hT Xs
  obtain ⟨vm₁, cA, comp, -, fA, fC, hO, -, X', step⟩ := Xs.multianewarray2F hexec hown hclink (va_AOA.use hover) harr (g := F0 m pc ls (.int k :: .int n :: rest)) rfl (by rw [hb]; exact hdg) rfl hn hk hb1 hb2 hb3 hdf hdd hcells hslots
  have ec : some cy = some comp := hcy.symm.trans fC
  cases ec
  generalize hF : Jvm.Free.Multi.fill (T.setVm vm₁) cA cy n.toNatClampNeg k.toNatClampNeg (defaultValue ty) n.toNatClampNeg = F at X' step
  have hTh : (T.setVm vm₁).heap = H := hT
  obtain ⟨f1, f2, -, -⟩ := Jvm.Free.Multi.fill_facts (T.setVm vm₁) cA cy n.toNatClampNeg k.toNatClampNeg (defaultValue ty) n.toNatClampNeg
  rw [hF, hTh] at f1 f2
  have hold : ∀ x : Nat, x < H.size → F.heap[x]? = H[x]? := fun x hx => by
    have := Jvm.Free.Multi.fill_old (T.setVm vm₁) cA cy n.toNatClampNeg k.toNatClampNeg (defaultValue ty) (a := x) (by rw [hTh]; exact hx) n.toNatClampNeg
    rw [hF, hTh] at this
    exact this
  have hrow : ∀ j : Nat, j < n.toNatClampNeg → F.heap[H.size + 1 + j]? = some (vp_cell cy z) := fun j hj => by
    have := Jvm.Free.Multi.fill_inner (T.setVm vm₁) cA cy n.toNatClampNeg k.toNatClampNeg (defaultValue ty) n.toNatClampNeg j hj
    rw [hF, hTh, hz] at this
    exact this
  have hout : Jvm.Free.Multi.outerC cA n.toNatClampNeg H.size n.toNatClampNeg = vp_cell cA (n.toNatClampNeg, .inr (.inr (.inr (.inr (fun i => if i < n.toNatClampNeg then some (H.size + 1 + i) else none))))) := by
    rw [vp_cell_q]
    exact vr_outer cA n.toNatClampNeg H.size n.toNatClampNeg
  rw [hout] at f2
  have hlt : ∀ a, a ∈ L → a < H.size := fun a ha => by
    obtain ⟨k9, hk9⟩ := va_pl_get (X := X) (f := f) ha
    exact (hP k9 _ hk9).lt
  have hnl : ∀ i : Nat, i < n.toNatClampNeg → H.size + 1 + i ∉ L := fun i _ h => by
    have := hlt _ h
    omega
  have hnm : ∀ a, a ∈ (List.range n.toNatClampNeg).map (fun i => H.size + 1 + i) → a ∉ L := fun a ha h => by
    obtain ⟨i, -, rfl⟩ := List.mem_map.mp ha
    have := hlt _ h
    omega
  have hP0 : va_P D cl (X ++ va_pl L f) F.heap := hP.kept (fun k9 x hx => hold x.1 ((hP k9 x hx).lt))
  have hP1 : va_P D cl ((X ++ va_pl L f) ++ [(H.size, .inl (cA, n.toNatClampNeg, .inr (.inr (.inr (.inr (fun i => if i < n.toNatClampNeg then some (H.size + 1 + i) else none))))))]) F.heap := hP0.app (fun k9 x hx => by
    have h0 : k9 < 1 := (List.getElem?_eq_some_iff.mp hx).1
    rw [show k9 = 0 by omega] at hx
    cases hx
    exact f2)
  have hP2 : va_P D cl (((X ++ va_pl L f) ++ [(H.size, .inl (cA, n.toNatClampNeg, .inr (.inr (.inr (.inr (fun i => if i < n.toNatClampNeg then some (H.size + 1 + i) else none))))))]) ++ ((List.range n.toNatClampNeg).map (fun i => H.size + 1 + i)).map (fun a => (a, .inl (cy, z)))) F.heap := hP1.app (fun k9 x hx => by
    obtain ⟨a, ha, rfl⟩ := List.mem_map.mp (List.mem_of_getElem? hx)
    obtain ⟨i, hi, rfl⟩ := List.mem_map.mp ha
    exact hrow i (List.mem_range.mp hi))
  have hD2 : va_D A (((X ++ va_pl L f) ++ [(H.size, .inl (cA, n.toNatClampNeg, .inr (.inr (.inr (.inr (fun i => if i < n.toNatClampNeg then some (H.size + 1 + i) else none))))))]) ++ ((List.range n.toNatClampNeg).map (fun i => H.size + 1 + i)).map (fun a => (a, .inl (cy, z)))) := by
    have hD1 := hD.push (e := .inl (cA, n.toNatClampNeg, .inr (.inr (.inr (.inr (fun i => if i < n.toNatClampNeg then some (H.size + 1 + i) else none)))))) hP rfl (hA _ hS.1)
    generalize hW1 : (X ++ va_pl L f) ++ [(H.size, .inl (cA, n.toNatClampNeg, .inr (.inr (.inr (.inr (fun i => if i < n.toNatClampNeg then some (H.size + 1 + i) else none))))))] = W1 at hD1 hP1 ⊢
    have hle : ∀ (k9 : Nat) (x : Nat × va_E), W1[k9]? = some x → x.1 ≤ H.size := fun k9 x hx => by
      rw [← hW1] at hx
      by_cases hl : k9 < (X ++ va_pl L f).length
      · rw [List.getElem?_append_left hl] at hx
        exact Nat.le_of_lt ((hP k9 x hx).lt)
      · rw [List.getElem?_append_right (by omega)] at hx
        have h0 : k9 - (X ++ va_pl L f).length < 1 := (List.getElem?_eq_some_iff.mp hx).1
        rw [show k9 - (X ++ va_pl L f).length = 0 by omega] at hx
        cases hx
        exact Nat.le_refl _
    have hr : ∀ (k9 : Nat) (x : Nat × va_E), (((List.range n.toNatClampNeg).map (fun i => H.size + 1 + i)).map (fun a => ((a, .inl (cy, z)) : Nat × va_E)))[k9]? = some x → x.1 = H.size + 1 + k9 := fun k9 x hx => by
      rw [List.getElem?_map, List.getElem?_map] at hx
      by_cases h9 : k9 < n.toNatClampNeg
      · rw [List.getElem?_range h9] at hx
        cases hx
        rfl
      · have hn0 : (List.range n.toNatClampNeg)[k9]? = none := List.getElem?_eq_none (by rw [List.length_range]; omega)
        rw [hn0] at hx
        cases hx
    refine ⟨fun i j x y hi hj hxy => ?_, fun k9 x hx => ?_⟩
    · by_cases h1 : i < W1.length <;> by_cases h2 : j < W1.length
      · rw [List.getElem?_append_left h1] at hi
        rw [List.getElem?_append_left h2] at hj
        exact hD1.1 i j x y hi hj hxy
      · rw [List.getElem?_append_left h1] at hi
        rw [List.getElem?_append_right (by omega)] at hj
        have := hle _ _ hi
        have := hr _ _ hj
        omega
      · rw [List.getElem?_append_right (by omega)] at hi
        rw [List.getElem?_append_left h2] at hj
        have := hle _ _ hj
        have := hr _ _ hi
        omega
      · rw [List.getElem?_append_right (by omega)] at hi hj
        have := hr _ _ hi
        have := hr _ _ hj
        omega
    · by_cases h1 : k9 < W1.length
      · rw [List.getElem?_append_left h1] at hx
        exact hD1.2 k9 x hx
      · rw [List.getElem?_append_right (by omega)] at hx
        have := hr _ _ hx
        exact hA _ (by have := hS.1; omega)
  have hAr : ArrOfT s cA (.array ty) := fun N9 z9 => by
    obtain ⟨-, k9, hk9, cm9, hkk9⟩ := (hO 0 0 0).1
    exact ⟨(fun q hq => by cases hq), k9, hk9, cm9, hkk9⟩
  have hK2 : va_K D cl (tys ++ [(cA, .array ty)]) s := ⟨hK.1, fun k9 x hx => by
    by_cases hl : k9 < tys.length
    · rw [List.getElem?_append_left hl] at hx
      exact hK.2 k9 x hx
    · rw [List.getElem?_append_right (by omega)] at hx
      have h0 : k9 - tys.length < 1 := (List.getElem?_eq_some_iff.mp hx).1
      rw [show k9 - tys.length = 0 by omega] at hx
      cases hx
      exact ⟨hAr, fA⟩⟩
  obtain ⟨t, a1, b1⟩ := kk H.size (fun i => H.size + 1 + i) cA F.heap (fun i j _ _ h => by have h9 : H.size + 1 + i = H.size + 1 + j := h; omega) hnl hK2 (by rw [← vr_rows hnm]; exact vr_lay hP2) (by rw [← vr_rows hnm]; exact vr_layD hD2) ⟨by rw [f1]; have := hS.1; omega, fun x h1 h2 => (hold x (Nat.lt_of_lt_of_le h1 hS.1)).trans (hS.2.1 x h1 h2), hS.2.2⟩ F rfl X'
  refine ⟨t, step t ?_, b1⟩
  have e : T.heap.size = H.size := by rw [hT]
  rw [e]
  exact a1
end VGM
/-! ===== END ===== -/
end
section
/-! ===== BEGIN printed: names, fields, word lists, decode rows ===== -/
def RX0 : String := "BallastLine$Runs"
def TX0 : u_T := fun k => match k with
  | 0 => ("BallastLine$Runs", "rows", "[[I", true)
  | _ => ("BallastLine$Runs", "there", "[Z", true)
def tyX0 : Nat → FieldType := fun k => match k with
  | 0 => .array (.array .int)
  | _ => .array .boolean
abbrev wsX00 : List Cond := u_ws RX0 TX0 2
theorem nmX0 : ∀ a, a < 2 → ∀ b, b < 2 → a ≠ b → (TX0 a).2.1 ≠ (TX0 b).2.1 := by decide +kernel
theorem tyX0_ok : ∀ k, k < 2 → parseFieldDescriptor (TX0 k).2.2.1 = some (tyX0 k) := by decide +kernel
abbrev cX0_init : ByteArray := prog_2_method_1_code
def yX0_init : MethodName := ⟨RX0, "<init>", "()V"⟩
abbrev cX0_open : ByteArray := prog_2_method_2_code
def yX0_open : MethodName := ⟨RX0, "open", "(I)I"⟩
abbrev cX0_howMany : ByteArray := prog_2_method_3_code
def yX0_howMany : MethodName := ⟨RX0, "howMany", "()I"⟩
abbrev cX0_unbend : ByteArray := prog_2_method_4_code
def yX0_unbend : MethodName := ⟨RX0, "unbend", "(IIII)V"⟩
abbrev cX0_bestShift : ByteArray := prog_2_method_5_code
def yX0_bestShift : MethodName := ⟨RX0, "bestShift", "(III)I"⟩
abbrev cX0_squaresApart : ByteArray := prog_2_method_6_code
def yX0_squaresApart : MethodName := ⟨RX0, "squaresApart", "(IIII)J"⟩
abbrev cX0_steepest : ByteArray := prog_2_method_7_code
def yX0_steepest : MethodName := ⟨RX0, "steepest", "(II)I"⟩
abbrev cX0_stepAfter : ByteArray := prog_2_method_8_code
def yX0_stepAfter : MethodName := ⟨RX0, "stepAfter", "(II)J"⟩
abbrev cX0_digestOn : ByteArray := prog_2_method_9_code
def yX0_digestOn : MethodName := ⟨RX0, "digestOn", "(JI)J"⟩
def RX1 : String := "BallastLine$Track"
def TX1 : u_T := fun k => match k with
  | 0 => ("BallastLine$Track", "kinds", "[I", true)
  | 1 => ("BallastLine$Track", "beds", "[I", true)
  | 2 => ("BallastLine$Track", "firmness", "[I", true)
  | 3 => ("BallastLine$Track", "hundredths", "[I", true)
  | 4 => ("BallastLine$Track", "axlesOver", "[I", true)
  | 5 => ("BallastLine$Track", "lost", "[Z", true)
  | 6 => ("BallastLine$Track", "hanging", "[I", true)
  | _ => ("BallastLine$Track", "size", "I", false)
def tyX1 : Nat → FieldType := fun k => match k with
  | 0 => .array .int
  | 1 => .array .int
  | 2 => .array .int
  | 3 => .array .int
  | 4 => .array .int
  | 5 => .array .boolean
  | 6 => .array .int
  | _ => .int
abbrev wsX10 : List Cond := u_ws RX1 TX1 8
theorem nmX1 : ∀ a, a < 8 → ∀ b, b < 8 → a ≠ b → (TX1 a).2.1 ≠ (TX1 b).2.1 := by decide +kernel
theorem tyX1_ok : ∀ k, k < 8 → parseFieldDescriptor (TX1 k).2.2.1 = some (tyX1 k) := by decide +kernel
abbrev cX1_init : ByteArray := prog_3_method_1_code
def yX1_init : MethodName := ⟨RX1, "<init>", "()V"⟩
abbrev cX1_renew : ByteArray := prog_3_method_2_code
def yX1_renew : MethodName := ⟨RX1, "renew", "(I)V"⟩
abbrev cX1_has : ByteArray := prog_3_method_3_code
def yX1_has : MethodName := ⟨RX1, "has", "(I)Z"⟩
abbrev cX1_stands : ByteArray := prog_3_method_4_code
def yX1_stands : MethodName := ⟨RX1, "stands", "(I)Z"⟩
abbrev cX1_isOf : ByteArray := prog_3_method_5_code
def yX1_isOf : MethodName := ⟨RX1, "isOf", "(II)Z"⟩
abbrev cX1_setLost : ByteArray := prog_3_method_6_code
def yX1_setLost : MethodName := ⟨RX1, "setLost", "(IZ)V"⟩
abbrev cX1_setBed : ByteArray := prog_3_method_7_code
def yX1_setBed : MethodName := ⟨RX1, "setBed", "(II)V"⟩
abbrev cX1_forgetHanging : ByteArray := prog_3_method_8_code
def yX1_forgetHanging : MethodName := ⟨RX1, "forgetHanging", "(I)V"⟩
abbrev cX1_height : ByteArray := prog_3_method_9_code
def yX1_height : MethodName := ⟨RX1, "height", "(I)I"⟩
abbrev cX1_lineAt : ByteArray := prog_3_method_10_code
def yX1_lineAt : MethodName := ⟨RX1, "lineAt", "(III)I"⟩
abbrev cX1_nearestBed : ByteArray := prog_3_method_11_code
def yX1_nearestBed : MethodName := ⟨RX1, "nearestBed", "(I)I"⟩
abbrev cX1_bears : ByteArray := prog_3_method_12_code
def yX1_bears : MethodName := ⟨RX1, "bears", "(I)Z"⟩
abbrev cX1_jointAt : ByteArray := prog_3_method_13_code
def yX1_jointAt : MethodName := ⟨RX1, "jointAt", "(I)Z"⟩
abbrev cX1_sink : ByteArray := prog_3_method_14_code
def yX1_sink : MethodName := ⟨RX1, "sink", "(II)I"⟩
abbrev cX1_raise : ByteArray := prog_3_method_15_code
def yX1_raise : MethodName := ⟨RX1, "raise", "(II)Z"⟩
abbrev cX1_chord : ByteArray := prog_3_method_16_code
def yX1_chord : MethodName := ⟨RX1, "chord", "(II)I"⟩
abbrev cX1_greatestChord : ByteArray := prog_3_method_17_code
def yX1_greatestChord : MethodName := ⟨RX1, "greatestChord", "(II)I"⟩
abbrev cX1_standing : ByteArray := prog_3_method_18_code
def yX1_standing : MethodName := ⟨RX1, "standing", "(II)I"⟩
abbrev cX1_sumOfStones : ByteArray := prog_3_method_19_code
def yX1_sumOfStones : MethodName := ⟨RX1, "sumOfStones", "(II)I"⟩
abbrev cX1_sumOfBeds : ByteArray := prog_3_method_20_code
def yX1_sumOfBeds : MethodName := ⟨RX1, "sumOfBeds", "()I"⟩
def RX2 : String := "BallastLine$Train"
def TX2 : u_T := fun k => match k with
  | 0 => ("BallastLine$Train", "weights", "[I", true)
  | 1 => ("BallastLine$Train", "sinkings", "[B", true)
  | _ => ("BallastLine$Train", "axles", "I", false)
def tyX2 : Nat → FieldType := fun k => match k with
  | 0 => .array .int
  | 1 => .array .byte
  | _ => .int
abbrev wsX20 : List Cond := u_ws RX2 TX2 3
theorem nmX2 : ∀ a, a < 3 → ∀ b, b < 3 → a ≠ b → (TX2 a).2.1 ≠ (TX2 b).2.1 := by decide +kernel
theorem tyX2_ok : ∀ k, k < 3 → parseFieldDescriptor (TX2 k).2.2.1 = some (tyX2 k) := by decide +kernel
abbrev cX2_init : ByteArray := prog_4_method_1_code
def yX2_init : MethodName := ⟨RX2, "<init>", "()V"⟩
abbrev cX2_roll : ByteArray := prog_4_method_2_code
def yX2_roll : MethodName := ⟨RX2, "roll", "(LBallastLine$Track;I)I"⟩
abbrev cX2_pressAt : ByteArray := prog_4_method_3_code
def yX2_pressAt : MethodName := ⟨RX2, "pressAt", "(LBallastLine$Track;II)I"⟩
abbrev cX2_settle : ByteArray := prog_4_method_4_code
def yX2_settle : MethodName := ⟨RX2, "settle", "(LBallastLine$Track;IIII)I"⟩
def RX3 : String := "BallastLine$Works"
def TX3 : u_T := fun k => match k with
  | 0 => ("BallastLine$Works", "costs", "[I", true)
  | 1 => ("BallastLine$Works", "gains", "[I", true)
  | 2 => ("BallastLine$Works", "costsBelow", "[I", true)
  | 3 => ("BallastLine$Works", "gainsBelow", "[I", true)
  | 4 => ("BallastLine$Works", "order", "[I", true)
  | _ => ("BallastLine$Works", "size", "I", false)
def tyX3 : Nat → FieldType := fun k => match k with
  | 0 => .array .int
  | 1 => .array .int
  | 2 => .array .int
  | 3 => .array .int
  | 4 => .array .int
  | _ => .int
abbrev wsX30 : List Cond := u_ws RX3 TX3 6
theorem nmX3 : ∀ a, a < 6 → ∀ b, b < 6 → a ≠ b → (TX3 a).2.1 ≠ (TX3 b).2.1 := by decide +kernel
theorem tyX3_ok : ∀ k, k < 6 → parseFieldDescriptor (TX3 k).2.2.1 = some (tyX3 k) := by decide +kernel
abbrev cX3_init : ByteArray := prog_5_method_1_code
def yX3_init : MethodName := ⟨RX3, "<init>", "()V"⟩
abbrev cX3_add : ByteArray := prog_5_method_2_code
def yX3_add : MethodName := ⟨RX3, "add", "(II)I"⟩
abbrev cX3_isWorse : ByteArray := prog_5_method_3_code
def yX3_isWorse : MethodName := ⟨RX3, "isWorse", "(II)Z"⟩
abbrev cX3_bestSet : ByteArray := prog_5_method_4_code
def yX3_bestSet : MethodName := ⟨RX3, "bestSet", "(I)I"⟩
abbrev cX3_worstFirst : ByteArray := prog_5_method_5_code
def yX3_worstFirst : MethodName := ⟨RX3, "worstFirst", "(I)I"⟩
abbrev cX3_gainOf : ByteArray := prog_5_method_6_code
def yX3_gainOf : MethodName := ⟨RX3, "gainOf", "(I)I"⟩
def RX4 : String := "BallastLine"
def TX4 : u_T := fun k => match k with
  | 0 => ("BallastLine", "track", "LBallastLine$Track;", true)
  | 1 => ("BallastLine", "train", "LBallastLine$Train;", true)
  | 2 => ("BallastLine", "runs", "LBallastLine$Runs;", true)
  | 3 => ("BallastLine", "works", "LBallastLine$Works;", true)
  | 4 => ("BallastLine", "freeAt", "[I", true)
  | 5 => ("BallastLine", "findingCounts", "[I", true)
  | 6 => ("BallastLine", "latestFinding", "I", false)
  | _ => ("BallastLine", "latestTold", "J", false)
def tyX4 : Nat → FieldType := fun k => match k with
  | 0 => .object "BallastLine$Track"
  | 1 => .object "BallastLine$Train"
  | 2 => .object "BallastLine$Runs"
  | 3 => .object "BallastLine$Works"
  | 4 => .array .int
  | 5 => .array .int
  | 6 => .int
  | _ => .long
abbrev wsX40 : List Cond := u_ws RX4 TX4 8
theorem nmX4 : ∀ a, a < 8 → ∀ b, b < 8 → a ≠ b → (TX4 a).2.1 ≠ (TX4 b).2.1 := by decide +kernel
theorem tyX4_ok : ∀ k, k < 8 → parseFieldDescriptor (TX4 k).2.2.1 = some (tyX4 k) := by decide +kernel
abbrev cX4_init : ByteArray := prog_1_method_1_code
def yX4_init : MethodName := ⟨RX4, "<init>", "()V"⟩
abbrev cX4_line : ByteArray := prog_1_method_2_code
def yX4_line : MethodName := ⟨RX4, "line", "(I)I"⟩
abbrev cX4_sleeper : ByteArray := prog_1_method_3_code
def yX4_sleeper : MethodName := ⟨RX4, "sleeper", "(II)I"⟩
abbrev cX4_lose : ByteArray := prog_1_method_4_code
def yX4_lose : MethodName := ⟨RX4, "lose", "(IZ)I"⟩
abbrev cX4_bed : ByteArray := prog_1_method_5_code
def yX4_bed : MethodName := ⟨RX4, "bed", "(II)I"⟩
abbrev cX4_stones : ByteArray := prog_1_method_6_code
def yX4_stones : MethodName := ⟨RX4, "stones", "(II)I"⟩
abbrev cX4_told : ByteArray := prog_1_method_7_code
def yX4_told : MethodName := ⟨RX4, "told", "(II)I"⟩
abbrev cX4_mark : ByteArray := prog_1_method_8_code
def yX4_mark : MethodName := ⟨RX4, "mark", "(II)I"⟩
abbrev cX4_rail : ByteArray := prog_1_method_9_code
def yX4_rail : MethodName := ⟨RX4, "rail", "(I)I"⟩
abbrev cX4_gap : ByteArray := prog_1_method_10_code
def yX4_gap : MethodName := ⟨RX4, "gap", "(I)I"⟩
abbrev cX4_axle : ByteArray := prog_1_method_11_code
def yX4_axle : MethodName := ⟨RX4, "axle", "(I)I"⟩
abbrev cX4_uncouple : ByteArray := prog_1_method_12_code
def yX4_uncouple : MethodName := ⟨RX4, "uncouple", "()I"⟩
abbrev cX4_table : ByteArray := prog_1_method_13_code
def yX4_table : MethodName := ⟨RX4, "table", "(II)I"⟩
abbrev cX4_pass : ByteArray := prog_1_method_14_code
def yX4_pass : MethodName := ⟨RX4, "pass", "(I)I"⟩
abbrev cX4_mean : ByteArray := prog_1_method_15_code
def yX4_mean : MethodName := ⟨RX4, "mean", "()I"⟩
abbrev cX4_lift : ByteArray := prog_1_method_16_code
def yX4_lift : MethodName := ⟨RX4, "lift", "(III)I"⟩
abbrev cX4_measure : ByteArray := prog_1_method_17_code
def yX4_measure : MethodName := ⟨RX4, "measure", "(II)I"⟩
abbrev cX4_level : ByteArray := prog_1_method_18_code
def yX4_level : MethodName := ⟨RX4, "level", "(I)I"⟩
abbrev cX4_lay : ByteArray := prog_1_method_19_code
def yX4_lay : MethodName := ⟨RX4, "lay", "(III)I"⟩
abbrev cX4_at : ByteArray := prog_1_method_20_code
def yX4_at : MethodName := ⟨RX4, "at", "(II)I"⟩
abbrev cX4_shape : ByteArray := prog_1_method_21_code
def yX4_shape : MethodName := ⟨RX4, "shape", "(III)I"⟩
abbrev cX4_tear : ByteArray := prog_1_method_22_code
def yX4_tear : MethodName := ⟨RX4, "tear", "(I)I"⟩
abbrev cX4_copy : ByteArray := prog_1_method_23_code
def yX4_copy : MethodName := ⟨RX4, "copy", "(IIIII)I"⟩
abbrev cX4_fit : ByteArray := prog_1_method_24_code
def yX4_fit : MethodName := ⟨RX4, "fit", "(II)I"⟩
abbrev cX4_worst : ByteArray := prog_1_method_25_code
def yX4_worst : MethodName := ⟨RX4, "worst", "(I)I"⟩
abbrev cX4_pull : ByteArray := prog_1_method_26_code
def yX4_pull : MethodName := ⟨RX4, "pull", "(II)I"⟩
abbrev cX4_cut : ByteArray := prog_1_method_27_code
def yX4_cut : MethodName := ⟨RX4, "cut", "(II)I"⟩
abbrev cX4_press : ByteArray := prog_1_method_28_code
def yX4_press : MethodName := ⟨RX4, "press", "(II)I"⟩
abbrev cX4_margin : ByteArray := prog_1_method_29_code
def yX4_margin : MethodName := ⟨RX4, "margin", "(II)I"⟩
abbrev cX4_work : ByteArray := prog_1_method_30_code
def yX4_work : MethodName := ⟨RX4, "work", "(II)I"⟩
abbrev cX4_best : ByteArray := prog_1_method_31_code
def yX4_best : MethodName := ⟨RX4, "best", "(I)I"⟩
abbrev cX4_first : ByteArray := prog_1_method_32_code
def yX4_first : MethodName := ⟨RX4, "first", "(I)I"⟩
abbrev cX4_asked : ByteArray := prog_1_method_33_code
def yX4_asked : MethodName := ⟨RX4, "asked", "()J"⟩
abbrev cX4_count : ByteArray := prog_1_method_34_code
def yX4_count : MethodName := ⟨RX4, "count", "(I)I"⟩
abbrev cX4_finding : ByteArray := prog_1_method_35_code
def yX4_finding : MethodName := ⟨RX4, "finding", "()I"⟩
abbrev cX4_findings : ByteArray := prog_1_method_36_code
def yX4_findings : MethodName := ⟨RX4, "findings", "(I)I"⟩
abbrev cX4_digest : ByteArray := prog_1_method_37_code
def yX4_digest : MethodName := ⟨RX4, "digest", "()J"⟩
abbrev cX4_found : ByteArray := prog_1_method_38_code
def yX4_found : MethodName := ⟨RX4, "found", "(I)I"⟩
abbrev cX4_tell : ByteArray := prog_1_method_39_code
def yX4_tell : MethodName := ⟨RX4, "tell", "(J)I"⟩
abbrev cX4_pressOf : ByteArray := prog_1_method_40_code
def yX4_pressOf : MethodName := ⟨RX4, "pressOf", "(II)I"⟩
abbrev cX4_within : ByteArray := prog_1_method_41_code
def yX4_within : MethodName := ⟨RX4, "within", "(III)Z"⟩
abbrev cX4_isRun : ByteArray := prog_1_method_42_code
def yX4_isRun : MethodName := ⟨RX4, "isRun", "(I)Z"⟩
abbrev cX4_isStretch : ByteArray := prog_1_method_43_code
def yX4_isStretch : MethodName := ⟨RX4, "isStretch", "(I)Z"⟩
abbrev cX4_isTemperature : ByteArray := prog_1_method_44_code
def yX4_isTemperature : MethodName := ⟨RX4, "isTemperature", "(I)Z"⟩
abbrev cX4_holdsPlaces : ByteArray := prog_1_method_45_code
def yX4_holdsPlaces : MethodName := ⟨RX4, "holdsPlaces", "(II)Z"⟩
abbrev cX4_cutShare : ByteArray := prog_1_method_46_code
def yX4_cutShare : MethodName := ⟨RX4, "cutShare", "(II)I"⟩
abbrev cX4_floorShare : ByteArray := prog_1_method_47_code
def yX4_floorShare : MethodName := ⟨RX4, "floorShare", "(II)I"⟩
def RX5 : String := "BallastLineModel"
def TX5 : u_T := fun k => match k with
  | 0 => ("BallastLineModel", "finding", "I", false)
  | 1 => ("BallastLineModel", "findings", "[I", true)
  | 2 => ("BallastLineModel", "asked", "J", false)
  | 3 => ("BallastLineModel", "many", "I", false)
  | 4 => ("BallastLineModel", "kinds", "[I", true)
  | 5 => ("BallastLineModel", "beds", "[I", true)
  | 6 => ("BallastLineModel", "stones", "[I", true)
  | 7 => ("BallastLineModel", "hundredths", "[I", true)
  | 8 => ("BallastLineModel", "jolts", "[I", true)
  | 9 => ("BallastLineModel", "isLost", "[Z", true)
  | 10 => ("BallastLineModel", "free", "[I", true)
  | 11 => ("BallastLineModel", "axles", "I", false)
  | 12 => ("BallastLineModel", "weights", "[I", true)
  | 13 => ("BallastLineModel", "table", "[I", true)
  | 14 => ("BallastLineModel", "isRun", "[Z", true)
  | 15 => ("BallastLineModel", "runs", "[I", true)
  | 16 => ("BallastLineModel", "moving", "[I", true)
  | 17 => ("BallastLineModel", "works", "I", false)
  | 18 => ("BallastLineModel", "costs", "[I", true)
  | _ => ("BallastLineModel", "gains", "[I", true)
def tyX5 : Nat → FieldType := fun k => match k with
  | 0 => .int
  | 1 => .array .int
  | 2 => .long
  | 3 => .int
  | 4 => .array .int
  | 5 => .array .int
  | 6 => .array .int
  | 7 => .array .int
  | 8 => .array .int
  | 9 => .array .boolean
  | 10 => .array .int
  | 11 => .int
  | 12 => .array .int
  | 13 => .array .int
  | 14 => .array .boolean
  | 15 => .array .int
  | 16 => .array .int
  | 17 => .int
  | 18 => .array .int
  | _ => .array .int
abbrev wsX50 : List Cond := u_ws RX5 TX5 20
theorem nmX5 : ∀ a, a < 20 → ∀ b, b < 20 → a ≠ b → (TX5 a).2.1 ≠ (TX5 b).2.1 := by decide +kernel
theorem tyX5_ok : ∀ k, k < 20 → parseFieldDescriptor (TX5 k).2.2.1 = some (tyX5 k) := by decide +kernel
abbrev cX5_init : ByteArray := prog_7_method_1_code
def yX5_init : MethodName := ⟨RX5, "<init>", "()V"⟩
abbrev cX5_in : ByteArray := prog_7_method_3_code
def yX5_in : MethodName := ⟨RX5, "in", "(III)Z"⟩
abbrev cX5_meets : ByteArray := prog_7_method_4_code
def yX5_meets : MethodName := ⟨RX5, "meets", "(I)I"⟩
abbrev cX5_tell : ByteArray := prog_7_method_5_code
def yX5_tell : MethodName := ⟨RX5, "tell", "(JI)I"⟩
abbrev cX5_line : ByteArray := prog_7_method_6_code
def yX5_line : MethodName := ⟨RX5, "line", "(I)I"⟩
abbrev cX5_isSleeper : ByteArray := prog_7_method_7_code
def yX5_isSleeper : MethodName := ⟨RX5, "isSleeper", "(I)Z"⟩
abbrev cX5_looked : ByteArray := prog_7_method_8_code
def yX5_looked : MethodName := ⟨RX5, "looked", "(I)I"⟩
abbrev cX5_sleeper : ByteArray := prog_7_method_9_code
def yX5_sleeper : MethodName := ⟨RX5, "sleeper", "(II)I"⟩
abbrev cX5_lose : ByteArray := prog_7_method_10_code
def yX5_lose : MethodName := ⟨RX5, "lose", "(IZ)I"⟩
abbrev cX5_bed : ByteArray := prog_7_method_11_code
def yX5_bed : MethodName := ⟨RX5, "bed", "(II)I"⟩
abbrev cX5_stones : ByteArray := prog_7_method_12_code
def yX5_stones : MethodName := ⟨RX5, "stones", "(II)I"⟩
abbrev cX5_tells : ByteArray := prog_7_method_13_code
def yX5_tells : MethodName := ⟨RX5, "tells", "(II)I"⟩
abbrev cX5_told : ByteArray := prog_7_method_14_code
def yX5_told : MethodName := ⟨RX5, "told", "(II)I"⟩
abbrev cX5_mark : ByteArray := prog_7_method_15_code
def yX5_mark : MethodName := ⟨RX5, "mark", "(II)I"⟩
abbrev cX5_floor : ByteArray := prog_7_method_16_code
def yX5_floor : MethodName := ⟨RX5, "floor", "(JI)I"⟩
abbrev cX5_railAt : ByteArray := prog_7_method_17_code
def yX5_railAt : MethodName := ⟨RX5, "railAt", "(I)I"⟩
abbrev cX5_rail : ByteArray := prog_7_method_18_code
def yX5_rail : MethodName := ⟨RX5, "rail", "(I)I"⟩
abbrev cX5_gap : ByteArray := prog_7_method_19_code
def yX5_gap : MethodName := ⟨RX5, "gap", "(I)I"⟩
abbrev cX5_axle : ByteArray := prog_7_method_20_code
def yX5_axle : MethodName := ⟨RX5, "axle", "(I)I"⟩
abbrev cX5_uncouple : ByteArray := prog_7_method_21_code
def yX5_uncouple : MethodName := ⟨RX5, "uncouple", "()I"⟩
abbrev cX5_table : ByteArray := prog_7_method_22_code
def yX5_table : MethodName := ⟨RX5, "table", "(II)I"⟩
abbrev cX5_bears : ByteArray := prog_7_method_23_code
def yX5_bears : MethodName := ⟨RX5, "bears", "(I)Z"⟩
abbrev cX5_sink : ByteArray := prog_7_method_24_code
def yX5_sink : MethodName := ⟨RX5, "sink", "(II)I"⟩
abbrev cX5_rolls : ByteArray := prog_7_method_25_code
def yX5_rolls : MethodName := ⟨RX5, "rolls", "(II)I"⟩
abbrev cX5_pass : ByteArray := prog_7_method_26_code
def yX5_pass : MethodName := ⟨RX5, "pass", "(I)I"⟩
abbrev cX5_mean : ByteArray := prog_7_method_27_code
def yX5_mean : MethodName := ⟨RX5, "mean", "()I"⟩
abbrev cX5_lift : ByteArray := prog_7_method_28_code
def yX5_lift : MethodName := ⟨RX5, "lift", "(III)I"⟩
abbrev cX5_isNumber : ByteArray := prog_7_method_29_code
def yX5_isNumber : MethodName := ⟨RX5, "isNumber", "(I)Z"⟩
abbrev cX5_chordAt : ByteArray := prog_7_method_30_code
def yX5_chordAt : MethodName := ⟨RX5, "chordAt", "(II)I"⟩
abbrev cX5_measure : ByteArray := prog_7_method_31_code
def yX5_measure : MethodName := ⟨RX5, "measure", "(II)I"⟩
abbrev cX5_level : ByteArray := prog_7_method_32_code
def yX5_level : MethodName := ⟨RX5, "level", "(I)I"⟩
abbrev cX5_askedFor : ByteArray := prog_7_method_33_code
def yX5_askedFor : MethodName := ⟨RX5, "askedFor", "(I)I"⟩
abbrev cX5_lay : ByteArray := prog_7_method_34_code
def yX5_lay : MethodName := ⟨RX5, "lay", "(III)I"⟩
abbrev cX5_at : ByteArray := prog_7_method_35_code
def yX5_at : MethodName := ⟨RX5, "at", "(II)I"⟩
abbrev cX5_shape : ByteArray := prog_7_method_36_code
def yX5_shape : MethodName := ⟨RX5, "shape", "(III)I"⟩
abbrev cX5_tear : ByteArray := prog_7_method_37_code
def yX5_tear : MethodName := ⟨RX5, "tear", "(I)I"⟩
abbrev cX5_copy : ByteArray := prog_7_method_38_code
def yX5_copy : MethodName := ⟨RX5, "copy", "(IIIII)I"⟩
abbrev cX5_apart : ByteArray := prog_7_method_39_code
def yX5_apart : MethodName := ⟨RX5, "apart", "(III)J"⟩
abbrev cX5_fit : ByteArray := prog_7_method_40_code
def yX5_fit : MethodName := ⟨RX5, "fit", "(II)I"⟩
abbrev cX5_worst : ByteArray := prog_7_method_41_code
def yX5_worst : MethodName := ⟨RX5, "worst", "(I)I"⟩
abbrev cX5_isStretch : ByteArray := prog_7_method_42_code
def yX5_isStretch : MethodName := ⟨RX5, "isStretch", "(I)Z"⟩
abbrev cX5_isWarmth : ByteArray := prog_7_method_43_code
def yX5_isWarmth : MethodName := ⟨RX5, "isWarmth", "(I)Z"⟩
abbrev cX5_pull : ByteArray := prog_7_method_44_code
def yX5_pull : MethodName := ⟨RX5, "pull", "(II)I"⟩
abbrev cX5_cut : ByteArray := prog_7_method_45_code
def yX5_cut : MethodName := ⟨RX5, "cut", "(II)I"⟩
abbrev cX5_pressOf : ByteArray := prog_7_method_46_code
def yX5_pressOf : MethodName := ⟨RX5, "pressOf", "(II)J"⟩
abbrev cX5_press : ByteArray := prog_7_method_47_code
def yX5_press : MethodName := ⟨RX5, "press", "(II)I"⟩
abbrev cX5_margin : ByteArray := prog_7_method_48_code
def yX5_margin : MethodName := ⟨RX5, "margin", "(II)I"⟩
abbrev cX5_work : ByteArray := prog_7_method_49_code
def yX5_work : MethodName := ⟨RX5, "work", "(II)I"⟩
abbrev cX5_sumOf : ByteArray := prog_7_method_50_code
def yX5_sumOf : MethodName := ⟨RX5, "sumOf", "(IZ)I"⟩
abbrev cX5_best : ByteArray := prog_7_method_51_code
def yX5_best : MethodName := ⟨RX5, "best", "(I)I"⟩
abbrev cX5_first : ByteArray := prog_7_method_52_code
def yX5_first : MethodName := ⟨RX5, "first", "(I)I"⟩
abbrev cX5_asked : ByteArray := prog_7_method_53_code
def yX5_asked : MethodName := ⟨RX5, "asked", "()J"⟩
abbrev cX5_tellsCount : ByteArray := prog_7_method_54_code
def yX5_tellsCount : MethodName := ⟨RX5, "tellsCount", "(I)I"⟩
abbrev cX5_count : ByteArray := prog_7_method_55_code
def yX5_count : MethodName := ⟨RX5, "count", "(I)I"⟩
abbrev cX5_finding : ByteArray := prog_7_method_56_code
def yX5_finding : MethodName := ⟨RX5, "finding", "()I"⟩
abbrev cX5_findings : ByteArray := prog_7_method_57_code
def yX5_findings : MethodName := ⟨RX5, "findings", "(I)I"⟩
abbrev cX5_digest : ByteArray := prog_7_method_58_code
def yX5_digest : MethodName := ⟨RX5, "digest", "()J"⟩
def RJ6 : String := "java/lang/Integer"
def TJ6 : u_T := fun k => match k with
  | _ => ("", "", "", false)
def tyJ6 : Nat → FieldType := fun k => match k with
  | _ => .int
abbrev wsJ60 : List Cond := u_ws RJ6 TJ6 0
theorem nmJ6 : ∀ a, a < 0 → ∀ b, b < 0 → a ≠ b → (TJ6 a).2.1 ≠ (TJ6 b).2.1 := by decide +kernel
theorem tyJ6_ok : ∀ k, k < 0 → parseFieldDescriptor (TJ6 k).2.2.1 = some (tyJ6 k) := by decide +kernel
abbrev cJ6_bitCount_0f7a4 : ByteArray := prog_8_method_49_code
def yJ6_bitCount_0f7a4 : MethodName := ⟨RJ6, "bitCount", "(I)I"⟩
def RJ9 : String := "java/lang/Math"
def TJ9 : u_T := fun k => match k with
  | _ => ("", "", "", false)
def tyJ9 : Nat → FieldType := fun k => match k with
  | _ => .int
abbrev wsJ90 : List Cond := u_ws RJ9 TJ9 0
theorem nmJ9 : ∀ a, a < 0 → ∀ b, b < 0 → a ≠ b → (TJ9 a).2.1 ≠ (TJ9 b).2.1 := by decide +kernel
theorem tyJ9_ok : ∀ k, k < 0 → parseFieldDescriptor (TJ9 k).2.2.1 = some (tyJ9 k) := by decide +kernel
abbrev cJ9_floorDiv_7cf53 : ByteArray := prog_9_method_47_code
def yJ9_floorDiv_7cf53 : MethodName := ⟨RJ9, "floorDiv", "(II)I"⟩
abbrev cJ9_abs_0f7a4 : ByteArray := prog_9_method_59_code
def yJ9_abs_0f7a4 : MethodName := ⟨RJ9, "abs", "(I)I"⟩
abbrev cJ9_abs_067f4 : ByteArray := prog_9_method_61_code
def yJ9_abs_067f4 : MethodName := ⟨RJ9, "abs", "(J)J"⟩
abbrev cJ9_max_7cf53 : ByteArray := prog_9_method_65_code
def yJ9_max_7cf53 : MethodName := ⟨RJ9, "max", "(II)I"⟩
abbrev cJ9_min_7cf53 : ByteArray := prog_9_method_69_code
def yJ9_min_7cf53 : MethodName := ⟨RJ9, "min", "(II)I"⟩
def RJ10 : String := "java/lang/System"
def TJ10 : u_T := fun k => match k with
  | _ => ("", "", "", false)
def tyJ10 : Nat → FieldType := fun k => match k with
  | _ => .int
abbrev wsJ100 : List Cond := u_ws RJ10 TJ10 0
theorem nmJ10 : ∀ a, a < 0 → ∀ b, b < 0 → a ≠ b → (TJ10 a).2.1 ≠ (TJ10 b).2.1 := by decide +kernel
theorem tyJ10_ok : ∀ k, k < 0 → parseFieldDescriptor (TJ10 k).2.2.1 = some (tyJ10 k) := by decide +kernel
def RL : String := "BallastLineLaw"
abbrev cL_law : ByteArray := code
def yL_law : MethodName := ⟨RL, "law", "([I)Z"⟩
def wsX0_init : List Cond := .code yX0_init cX0_init 1 none :: ([.methodLink RX0 3 objectInit, .instanceMethod objectInit, .code objectInit ⟨#[0xb1]⟩ 1 none, .classLink RX0 9 "[[I", .arrayClass .int, .fieldLink RX0 11 "BallastLine$Runs" "rows" "[[I", .arrayClass .boolean, .fieldLink RX0 16 "BallastLine$Runs" "there" "[Z"] ++ wsX00)
def wsX0_open : List Cond := .code yX0_open cX0_open 3 (some .int) :: ([.fieldLink RX0 16 "BallastLine$Runs" "there" "[Z"] ++ wsX00)
def wsX0_howMany : List Cond := .code yX0_howMany cX0_howMany 3 (some .int) :: ([.fieldLink RX0 16 "BallastLine$Runs" "there" "[Z"] ++ wsX00)
def wsX0_unbend : List Cond := .code yX0_unbend cX0_unbend 9 none :: ([.fieldLink RX0 11 "BallastLine$Runs" "rows" "[[I"] ++ wsX00)
def wsX0_squaresApart : List Cond := .code yX0_squaresApart cX0_squaresApart 10 (some .long) :: ([.fieldLink RX0 11 "BallastLine$Runs" "rows" "[[I"] ++ wsX00)
def wsX0_bestShift : List Cond := .code yX0_bestShift cX0_bestShift 11 (some .int) :: ([.methodLink RX0 20 yX0_squaresApart, .instanceMethod yX0_squaresApart, .selects RX0 yX0_squaresApart yX0_squaresApart, .initialized RX0, .code yX0_squaresApart cX0_squaresApart 10 (some .long), .fieldLink RX0 11 "BallastLine$Runs" "rows" "[[I"] ++ wsX00)
def wsX0_stepAfter : List Cond := .code yX0_stepAfter cX0_stepAfter 3 (some .long) :: ([.fieldLink RX0 11 "BallastLine$Runs" "rows" "[[I", .methodLink RX0 28 Lib.MathLoose.abs_long.x, .static Lib.MathLoose.abs_long.x, .initialized "java/lang/Math", .code Lib.MathLoose.abs_long.x Lib.MathLoose.abs_long.code 2 (some .long)] ++ wsX00)
def wsX0_steepest : List Cond := .code yX0_steepest cX0_steepest 5 (some .int) :: ([.methodLink RX0 24 yX0_stepAfter, .instanceMethod yX0_stepAfter, .selects RX0 yX0_stepAfter yX0_stepAfter, .initialized RX0, .code yX0_stepAfter cX0_stepAfter 3 (some .long), .fieldLink RX0 11 "BallastLine$Runs" "rows" "[[I", .methodLink RX0 28 Lib.MathLoose.abs_long.x, .static Lib.MathLoose.abs_long.x, .initialized "java/lang/Math", .code Lib.MathLoose.abs_long.x Lib.MathLoose.abs_long.code 2 (some .long)] ++ wsX00)
def wsX0_digestOn : List Cond := .code yX0_digestOn cX0_digestOn 7 (some .long) :: ([.fieldLink RX0 16 "BallastLine$Runs" "there" "[Z", .constantLong RX0 34 (31), .fieldLink RX0 11 "BallastLine$Runs" "rows" "[[I"] ++ wsX00)
def wsX1_renew : List Cond := .code yX1_renew cX1_renew 3 none :: ([.fieldLink RX1 40 "BallastLine$Track" "size" "I", .fieldLink RX1 11 "BallastLine$Track" "kinds" "[I", .fieldLink RX1 17 "BallastLine$Track" "beds" "[I", .fieldLink RX1 20 "BallastLine$Track" "firmness" "[I", .fieldLink RX1 23 "BallastLine$Track" "hundredths" "[I", .fieldLink RX1 26 "BallastLine$Track" "axlesOver" "[I", .fieldLink RX1 29 "BallastLine$Track" "lost" "[Z", .fieldLink RX1 33 "BallastLine$Track" "hanging" "[I"] ++ wsX10)
def wsX1_init : List Cond := .code yX1_init cX1_init 1 none :: ([.methodLink RX1 5 objectInit, .instanceMethod objectInit, .code objectInit ⟨#[0xb1]⟩ 1 none, .arrayClass .int, .fieldLink RX1 11 "BallastLine$Track" "kinds" "[I", .fieldLink RX1 17 "BallastLine$Track" "beds" "[I", .fieldLink RX1 20 "BallastLine$Track" "firmness" "[I", .fieldLink RX1 23 "BallastLine$Track" "hundredths" "[I", .fieldLink RX1 26 "BallastLine$Track" "axlesOver" "[I", .arrayClass .boolean, .fieldLink RX1 29 "BallastLine$Track" "lost" "[Z", .fieldLink RX1 33 "BallastLine$Track" "hanging" "[I", .methodLink RX1 36 yX1_renew, .instanceMethod yX1_renew, .selects RX1 yX1_renew yX1_renew, .initialized RX1, .code yX1_renew cX1_renew 3 none, .fieldLink RX1 40 "BallastLine$Track" "size" "I"] ++ wsX10)
def wsX4_within : List Cond := .code yX4_within cX4_within 3 (some .boolean) :: ([])
def wsX1_has : List Cond := .code yX1_has cX1_has 2 (some .boolean) :: ([.fieldLink RX1 40 "BallastLine$Track" "size" "I", .static yX4_within, .initialized RX4, .code yX4_within cX4_within 3 (some .boolean)] ++ wsX10)
def wsX1_stands : List Cond := .code yX1_stands cX1_stands 2 (some .boolean) :: ([.fieldLink RX1 29 "BallastLine$Track" "lost" "[Z", .methodLink RX1 48 yX1_has, .instanceMethod yX1_has, .selects RX1 yX1_has yX1_has, .initialized RX1, .code yX1_has cX1_has 2 (some .boolean), .fieldLink RX1 40 "BallastLine$Track" "size" "I", .static yX4_within, .initialized RX4, .code yX4_within cX4_within 3 (some .boolean)] ++ wsX10)
def wsX1_isOf : List Cond := .code yX1_isOf cX1_isOf 3 (some .boolean) :: ([.fieldLink RX1 11 "BallastLine$Track" "kinds" "[I"] ++ wsX10)
def wsX1_forgetHanging : List Cond := .code yX1_forgetHanging cX1_forgetHanging 4 none :: ([.fieldLink RX1 40 "BallastLine$Track" "size" "I", .methodLink RX1 55 Lib.Math.min.name, .static Lib.Math.min.name, .initialized "java/lang/Math", .code Lib.Math.min.name Lib.Math.min.code 2 (some .int), .methodLink RX1 61 Lib.Math.max.name, .static Lib.Math.max.name, .code Lib.Math.max.name Lib.Math.max.code 2 (some .int), .fieldLink RX1 33 "BallastLine$Track" "hanging" "[I"] ++ wsX10)
def wsX1_setLost : List Cond := .code yX1_setLost cX1_setLost 3 none :: ([.fieldLink RX1 29 "BallastLine$Track" "lost" "[Z", .methodLink RX1 52 yX1_forgetHanging, .instanceMethod yX1_forgetHanging, .selects RX1 yX1_forgetHanging yX1_forgetHanging, .initialized RX1, .code yX1_forgetHanging cX1_forgetHanging 4 none, .fieldLink RX1 40 "BallastLine$Track" "size" "I", .methodLink RX1 55 Lib.Math.min.name, .static Lib.Math.min.name, .initialized "java/lang/Math", .code Lib.Math.min.name Lib.Math.min.code 2 (some .int), .methodLink RX1 61 Lib.Math.max.name, .static Lib.Math.max.name, .code Lib.Math.max.name Lib.Math.max.code 2 (some .int), .fieldLink RX1 33 "BallastLine$Track" "hanging" "[I"] ++ wsX10)
def wsX1_setBed : List Cond := .code yX1_setBed cX1_setBed 3 none :: ([.fieldLink RX1 17 "BallastLine$Track" "beds" "[I", .methodLink RX1 52 yX1_forgetHanging, .instanceMethod yX1_forgetHanging, .selects RX1 yX1_forgetHanging yX1_forgetHanging, .initialized RX1, .code yX1_forgetHanging cX1_forgetHanging 4 none, .fieldLink RX1 40 "BallastLine$Track" "size" "I", .methodLink RX1 55 Lib.Math.min.name, .static Lib.Math.min.name, .initialized "java/lang/Math", .code Lib.Math.min.name Lib.Math.min.code 2 (some .int), .methodLink RX1 61 Lib.Math.max.name, .static Lib.Math.max.name, .code Lib.Math.max.name Lib.Math.max.code 2 (some .int), .fieldLink RX1 33 "BallastLine$Track" "hanging" "[I"] ++ wsX10)
def wsJ9_floorDiv_7cf53 : List Cond := .code yJ9_floorDiv_7cf53 cJ9_floorDiv_7cf53 3 (some .int) :: ([])
def wsX4_floorShare : List Cond := .code yX4_floorShare cX4_floorShare 2 (some .int) :: ([.methodLink RX4 237 yJ9_floorDiv_7cf53, .static yJ9_floorDiv_7cf53, .initialized RJ9, .code yJ9_floorDiv_7cf53 cJ9_floorDiv_7cf53 3 (some .int)])
def wsX1_lineAt : List Cond := .code yX1_lineAt cX1_lineAt 4 (some .int) :: ([.fieldLink RX1 17 "BallastLine$Track" "beds" "[I", .static yX4_floorShare, .initialized RX4, .code yX4_floorShare cX4_floorShare 2 (some .int), .methodLink RX4 237 yJ9_floorDiv_7cf53, .static yJ9_floorDiv_7cf53, .initialized RJ9, .code yJ9_floorDiv_7cf53 cJ9_floorDiv_7cf53 3 (some .int)] ++ wsX10)
def wsX1_nearestBed : List Cond := .code yX1_nearestBed cX1_nearestBed 3 (some .int) :: ([.fieldLink RX1 40 "BallastLine$Track" "size" "I", .fieldLink RX1 17 "BallastLine$Track" "beds" "[I", .methodLink RX1 64 yX1_stands, .instanceMethod yX1_stands, .selects RX1 yX1_stands yX1_stands, .initialized RX1, .code yX1_stands cX1_stands 2 (some .boolean), .fieldLink RX1 29 "BallastLine$Track" "lost" "[Z", .methodLink RX1 48 yX1_has, .instanceMethod yX1_has, .selects RX1 yX1_has yX1_has, .code yX1_has cX1_has 2 (some .boolean), .static yX4_within, .initialized RX4, .code yX4_within cX4_within 3 (some .boolean)] ++ wsX10)
def wsX1_height_r1 : List Cond := [Cond.fieldLink RX1 17 "BallastLine$Track" "beds" "[I", Cond.constant RX1 67 (-2147483648), Cond.methodLink RX1 61 Lib.Math.max.name, Cond.static Lib.Math.max.name, Cond.initialized "java/lang/Math", Cond.code Lib.Math.max.name Lib.Math.max.code 2 (some .int), Cond.fieldLink RX1 40 "BallastLine$Track" "size" "I", Cond.methodLink RX1 55 Lib.Math.min.name, Cond.static Lib.Math.min.name, Cond.code Lib.Math.min.name Lib.Math.min.code 2 (some .int), Cond.fieldLink RX1 29 "BallastLine$Track" "lost" "[Z", Cond.methodLink RX1 64 yX1_stands, Cond.instanceMethod yX1_stands, Cond.selects RX1 yX1_stands yX1_stands, Cond.initialized RX1, Cond.code yX1_stands cX1_stands 2 (some .boolean), Cond.methodLink RX1 48 yX1_has, Cond.instanceMethod yX1_has, Cond.selects RX1 yX1_has yX1_has, Cond.code yX1_has cX1_has 2 (some .boolean), Cond.static yX4_within, Cond.initialized RX4, Cond.code yX4_within cX4_within 3 (some .boolean), Cond.methodLink RX1 68 yX1_lineAt]
def wsX1_height_r2 : List Cond := [Cond.instanceMethod yX1_lineAt, Cond.selects RX1 yX1_lineAt yX1_lineAt, Cond.code yX1_lineAt cX1_lineAt 4 (some .int), Cond.static yX4_floorShare, Cond.code yX4_floorShare cX4_floorShare 2 (some .int), Cond.methodLink RX4 237 yJ9_floorDiv_7cf53, Cond.static yJ9_floorDiv_7cf53, Cond.initialized RJ9, Cond.code yJ9_floorDiv_7cf53 cJ9_floorDiv_7cf53 3 (some .int), Cond.methodLink RX1 72 yX1_nearestBed, Cond.instanceMethod yX1_nearestBed, Cond.selects RX1 yX1_nearestBed yX1_nearestBed, Cond.code yX1_nearestBed cX1_nearestBed 3 (some .int)]
def wsX1_height : List Cond := .code yX1_height cX1_height 6 (some .int) :: ((wsX1_height_r1 ++ wsX1_height_r2) ++ wsX10)
def wsX1_bears_r1 : List Cond := [Cond.fieldLink RX1 33 "BallastLine$Track" "hanging" "[I", Cond.fieldLink RX1 17 "BallastLine$Track" "beds" "[I", Cond.methodLink RX1 64 yX1_stands, Cond.instanceMethod yX1_stands, Cond.selects RX1 yX1_stands yX1_stands, Cond.initialized RX1, Cond.code yX1_stands cX1_stands 2 (some .boolean), Cond.fieldLink RX1 29 "BallastLine$Track" "lost" "[Z", Cond.methodLink RX1 48 yX1_has, Cond.instanceMethod yX1_has, Cond.selects RX1 yX1_has yX1_has, Cond.code yX1_has cX1_has 2 (some .boolean), Cond.fieldLink RX1 40 "BallastLine$Track" "size" "I", Cond.static yX4_within, Cond.initialized RX4, Cond.code yX4_within cX4_within 3 (some .boolean), Cond.methodLink RX1 79 yX1_height, Cond.instanceMethod yX1_height, Cond.selects RX1 yX1_height yX1_height, Cond.code yX1_height cX1_height 6 (some .int), Cond.constant RX1 67 (-2147483648), Cond.methodLink RX1 61 Lib.Math.max.name, Cond.static Lib.Math.max.name, Cond.initialized "java/lang/Math"]
def wsX1_bears_r2 : List Cond := [Cond.code Lib.Math.max.name Lib.Math.max.code 2 (some .int), Cond.methodLink RX1 55 Lib.Math.min.name, Cond.static Lib.Math.min.name, Cond.code Lib.Math.min.name Lib.Math.min.code 2 (some .int), Cond.methodLink RX1 68 yX1_lineAt, Cond.instanceMethod yX1_lineAt, Cond.selects RX1 yX1_lineAt yX1_lineAt, Cond.code yX1_lineAt cX1_lineAt 4 (some .int), Cond.static yX4_floorShare, Cond.code yX4_floorShare cX4_floorShare 2 (some .int), Cond.methodLink RX4 237 yJ9_floorDiv_7cf53, Cond.static yJ9_floorDiv_7cf53, Cond.initialized RJ9, Cond.code yJ9_floorDiv_7cf53 cJ9_floorDiv_7cf53 3 (some .int), Cond.methodLink RX1 72 yX1_nearestBed, Cond.instanceMethod yX1_nearestBed, Cond.selects RX1 yX1_nearestBed yX1_nearestBed, Cond.code yX1_nearestBed cX1_nearestBed 3 (some .int)]
def wsX1_bears : List Cond := .code yX1_bears cX1_bears 2 (some .boolean) :: ((wsX1_bears_r1 ++ wsX1_bears_r2) ++ wsX10)
def wsX1_jointAt : List Cond := .code yX1_jointAt cX1_jointAt 2 (some .boolean) :: ([.fieldLink RX1 11 "BallastLine$Track" "kinds" "[I", .methodLink RX1 64 yX1_stands, .instanceMethod yX1_stands, .selects RX1 yX1_stands yX1_stands, .initialized RX1, .code yX1_stands cX1_stands 2 (some .boolean), .fieldLink RX1 29 "BallastLine$Track" "lost" "[Z", .methodLink RX1 48 yX1_has, .instanceMethod yX1_has, .selects RX1 yX1_has yX1_has, .code yX1_has cX1_has 2 (some .boolean), .fieldLink RX1 40 "BallastLine$Track" "size" "I", .static yX4_within, .initialized RX4, .code yX4_within cX4_within 3 (some .boolean)] ++ wsX10)
def wsX1_sink : List Cond := .code yX1_sink cX1_sink 5 (some .int) :: ([.fieldLink RX1 23 "BallastLine$Track" "hundredths" "[I", .fieldLink RX1 17 "BallastLine$Track" "beds" "[I", .methodLink RX1 82 yX1_setBed, .instanceMethod yX1_setBed, .selects RX1 yX1_setBed yX1_setBed, .initialized RX1, .code yX1_setBed cX1_setBed 3 none, .methodLink RX1 52 yX1_forgetHanging, .instanceMethod yX1_forgetHanging, .selects RX1 yX1_forgetHanging yX1_forgetHanging, .code yX1_forgetHanging cX1_forgetHanging 4 none, .fieldLink RX1 40 "BallastLine$Track" "size" "I", .methodLink RX1 55 Lib.Math.min.name, .static Lib.Math.min.name, .initialized "java/lang/Math", .code Lib.Math.min.name Lib.Math.min.code 2 (some .int), .methodLink RX1 61 Lib.Math.max.name, .static Lib.Math.max.name, .code Lib.Math.max.name Lib.Math.max.code 2 (some .int), .fieldLink RX1 33 "BallastLine$Track" "hanging" "[I"] ++ wsX10)
def wsX1_raise_r1 : List Cond := [Cond.fieldLink RX1 17 "BallastLine$Track" "beds" "[I", Cond.fieldLink RX1 23 "BallastLine$Track" "hundredths" "[I", Cond.fieldLink RX1 20 "BallastLine$Track" "firmness" "[I", Cond.methodLink RX1 61 Lib.Math.max.name, Cond.static Lib.Math.max.name, Cond.initialized "java/lang/Math", Cond.code Lib.Math.max.name Lib.Math.max.code 2 (some .int), Cond.methodLink RX1 64 yX1_stands, Cond.instanceMethod yX1_stands, Cond.selects RX1 yX1_stands yX1_stands, Cond.initialized RX1, Cond.code yX1_stands cX1_stands 2 (some .boolean), Cond.fieldLink RX1 29 "BallastLine$Track" "lost" "[Z", Cond.methodLink RX1 48 yX1_has, Cond.instanceMethod yX1_has, Cond.selects RX1 yX1_has yX1_has, Cond.code yX1_has cX1_has 2 (some .boolean), Cond.fieldLink RX1 40 "BallastLine$Track" "size" "I", Cond.static yX4_within, Cond.initialized RX4, Cond.code yX4_within cX4_within 3 (some .boolean), Cond.methodLink RX1 82 yX1_setBed, Cond.instanceMethod yX1_setBed, Cond.selects RX1 yX1_setBed yX1_setBed]
def wsX1_raise_r2 : List Cond := [Cond.code yX1_setBed cX1_setBed 3 none, Cond.methodLink RX1 52 yX1_forgetHanging, Cond.instanceMethod yX1_forgetHanging, Cond.selects RX1 yX1_forgetHanging yX1_forgetHanging, Cond.code yX1_forgetHanging cX1_forgetHanging 4 none, Cond.methodLink RX1 55 Lib.Math.min.name, Cond.static Lib.Math.min.name, Cond.code Lib.Math.min.name Lib.Math.min.code 2 (some .int), Cond.fieldLink RX1 33 "BallastLine$Track" "hanging" "[I"]
def wsX1_raise : List Cond := .code yX1_raise cX1_raise 3 (some .boolean) :: ((wsX1_raise_r1 ++ wsX1_raise_r2) ++ wsX10)
def wsX1_chord_r1 : List Cond := [Cond.methodLink RX1 48 yX1_has, Cond.instanceMethod yX1_has, Cond.selects RX1 yX1_has yX1_has, Cond.initialized RX1, Cond.code yX1_has cX1_has 2 (some .boolean), Cond.fieldLink RX1 40 "BallastLine$Track" "size" "I", Cond.static yX4_within, Cond.initialized RX4, Cond.code yX4_within cX4_within 3 (some .boolean), Cond.methodLink RX1 79 yX1_height, Cond.instanceMethod yX1_height, Cond.selects RX1 yX1_height yX1_height, Cond.code yX1_height cX1_height 6 (some .int), Cond.fieldLink RX1 17 "BallastLine$Track" "beds" "[I", Cond.constant RX1 67 (-2147483648), Cond.methodLink RX1 61 Lib.Math.max.name, Cond.static Lib.Math.max.name, Cond.initialized "java/lang/Math", Cond.code Lib.Math.max.name Lib.Math.max.code 2 (some .int), Cond.methodLink RX1 55 Lib.Math.min.name, Cond.static Lib.Math.min.name, Cond.code Lib.Math.min.name Lib.Math.min.code 2 (some .int), Cond.fieldLink RX1 29 "BallastLine$Track" "lost" "[Z", Cond.methodLink RX1 64 yX1_stands]
def wsX1_chord_r2 : List Cond := [Cond.instanceMethod yX1_stands, Cond.selects RX1 yX1_stands yX1_stands, Cond.code yX1_stands cX1_stands 2 (some .boolean), Cond.methodLink RX1 68 yX1_lineAt, Cond.instanceMethod yX1_lineAt, Cond.selects RX1 yX1_lineAt yX1_lineAt, Cond.code yX1_lineAt cX1_lineAt 4 (some .int), Cond.static yX4_floorShare, Cond.code yX4_floorShare cX4_floorShare 2 (some .int), Cond.methodLink RX4 237 yJ9_floorDiv_7cf53, Cond.static yJ9_floorDiv_7cf53, Cond.initialized RJ9, Cond.code yJ9_floorDiv_7cf53 cJ9_floorDiv_7cf53 3 (some .int), Cond.methodLink RX1 72 yX1_nearestBed, Cond.instanceMethod yX1_nearestBed, Cond.selects RX1 yX1_nearestBed yX1_nearestBed, Cond.code yX1_nearestBed cX1_nearestBed 3 (some .int)]
def wsX1_chord : List Cond := .code yX1_chord cX1_chord 3 (some .int) :: ((wsX1_chord_r1 ++ wsX1_chord_r2) ++ wsX10)
def wsX1_greatestChord_r1 : List Cond := [Cond.methodLink RX1 89 Lib.Math.abs.name, Cond.static Lib.Math.abs.name, Cond.initialized "java/lang/Math", Cond.code Lib.Math.abs.name Lib.Math.abs.code 1 (some .int), Cond.methodLink RX1 61 Lib.Math.max.name, Cond.static Lib.Math.max.name, Cond.code Lib.Math.max.name Lib.Math.max.code 2 (some .int), Cond.methodLink RX1 86 yX1_chord, Cond.instanceMethod yX1_chord, Cond.selects RX1 yX1_chord yX1_chord, Cond.initialized RX1, Cond.code yX1_chord cX1_chord 3 (some .int), Cond.methodLink RX1 48 yX1_has, Cond.instanceMethod yX1_has, Cond.selects RX1 yX1_has yX1_has, Cond.code yX1_has cX1_has 2 (some .boolean), Cond.fieldLink RX1 40 "BallastLine$Track" "size" "I", Cond.static yX4_within, Cond.initialized RX4, Cond.code yX4_within cX4_within 3 (some .boolean), Cond.methodLink RX1 79 yX1_height, Cond.instanceMethod yX1_height, Cond.selects RX1 yX1_height yX1_height, Cond.code yX1_height cX1_height 6 (some .int)]
def wsX1_greatestChord_r2 : List Cond := [Cond.fieldLink RX1 17 "BallastLine$Track" "beds" "[I", Cond.constant RX1 67 (-2147483648), Cond.methodLink RX1 55 Lib.Math.min.name, Cond.static Lib.Math.min.name, Cond.code Lib.Math.min.name Lib.Math.min.code 2 (some .int), Cond.fieldLink RX1 29 "BallastLine$Track" "lost" "[Z", Cond.methodLink RX1 64 yX1_stands, Cond.instanceMethod yX1_stands, Cond.selects RX1 yX1_stands yX1_stands, Cond.code yX1_stands cX1_stands 2 (some .boolean), Cond.methodLink RX1 68 yX1_lineAt, Cond.instanceMethod yX1_lineAt, Cond.selects RX1 yX1_lineAt yX1_lineAt, Cond.code yX1_lineAt cX1_lineAt 4 (some .int), Cond.static yX4_floorShare, Cond.code yX4_floorShare cX4_floorShare 2 (some .int), Cond.methodLink RX4 237 yJ9_floorDiv_7cf53, Cond.static yJ9_floorDiv_7cf53, Cond.initialized RJ9, Cond.code yJ9_floorDiv_7cf53 cJ9_floorDiv_7cf53 3 (some .int), Cond.methodLink RX1 72 yX1_nearestBed, Cond.instanceMethod yX1_nearestBed, Cond.selects RX1 yX1_nearestBed yX1_nearestBed, Cond.code yX1_nearestBed cX1_nearestBed 3 (some .int)]
def wsX1_greatestChord : List Cond := .code yX1_greatestChord cX1_greatestChord 5 (some .int) :: ((wsX1_greatestChord_r1 ++ wsX1_greatestChord_r2) ++ wsX10)
def wsX1_standing : List Cond := .code yX1_standing cX1_standing 5 (some .int) :: ([.methodLink RX1 64 yX1_stands, .instanceMethod yX1_stands, .selects RX1 yX1_stands yX1_stands, .initialized RX1, .code yX1_stands cX1_stands 2 (some .boolean), .fieldLink RX1 29 "BallastLine$Track" "lost" "[Z", .methodLink RX1 48 yX1_has, .instanceMethod yX1_has, .selects RX1 yX1_has yX1_has, .code yX1_has cX1_has 2 (some .boolean), .fieldLink RX1 40 "BallastLine$Track" "size" "I", .static yX4_within, .initialized RX4, .code yX4_within cX4_within 3 (some .boolean)] ++ wsX10)
def wsX1_sumOfStones : List Cond := .code yX1_sumOfStones cX1_sumOfStones 5 (some .int) :: ([.fieldLink RX1 20 "BallastLine$Track" "firmness" "[I", .methodLink RX1 64 yX1_stands, .instanceMethod yX1_stands, .selects RX1 yX1_stands yX1_stands, .initialized RX1, .code yX1_stands cX1_stands 2 (some .boolean), .fieldLink RX1 29 "BallastLine$Track" "lost" "[Z", .methodLink RX1 48 yX1_has, .instanceMethod yX1_has, .selects RX1 yX1_has yX1_has, .code yX1_has cX1_has 2 (some .boolean), .fieldLink RX1 40 "BallastLine$Track" "size" "I", .static yX4_within, .initialized RX4, .code yX4_within cX4_within 3 (some .boolean)] ++ wsX10)
def wsX1_sumOfBeds : List Cond := .code yX1_sumOfBeds cX1_sumOfBeds 3 (some .int) :: ([.fieldLink RX1 40 "BallastLine$Track" "size" "I", .fieldLink RX1 29 "BallastLine$Track" "lost" "[Z", .fieldLink RX1 17 "BallastLine$Track" "beds" "[I"] ++ wsX10)
def wsX2_init : List Cond := .code yX2_init cX2_init 1 none :: ([.methodLink RX2 3 objectInit, .instanceMethod objectInit, .code objectInit ⟨#[0xb1]⟩ 1 none, .arrayClass .int, .fieldLink RX2 9 "BallastLine$Train" "weights" "[I", .arrayClass .byte, .fieldLink RX2 15 "BallastLine$Train" "sinkings" "[B", .fieldLink RX2 19 "BallastLine$Train" "axles" "I"] ++ wsX20)
def wsX4_cutShare : List Cond := .code yX4_cutShare cX4_cutShare 2 (some .int) :: ([])
def wsX2_settle_r1 : List Cond := [Cond.methodLink RX2 56 Lib.Math.min.name, Cond.static Lib.Math.min.name, Cond.initialized "java/lang/Math", Cond.code Lib.Math.min.name Lib.Math.min.code 2 (some .int), Cond.fieldLink RX2 15 "BallastLine$Train" "sinkings" "[B", Cond.methodLink RX2 61 Lib.Math.max.name, Cond.static Lib.Math.max.name, Cond.code Lib.Math.max.name Lib.Math.max.code 2 (some .int), Cond.instanceMethod yX1_has, Cond.initialized RX1, Cond.selects RX1 yX1_has yX1_has, Cond.code yX1_has cX1_has 2 (some .boolean), Cond.fieldLink RX1 40 "BallastLine$Track" "size" "I", Cond.static yX4_within, Cond.initialized RX4, Cond.code yX4_within cX4_within 3 (some .boolean), Cond.static yX4_cutShare, Cond.code yX4_cutShare cX4_cutShare 2 (some .int), Cond.instanceMethod yX1_isOf, Cond.selects RX1 yX1_isOf yX1_isOf, Cond.code yX1_isOf cX1_isOf 3 (some .boolean), Cond.fieldLink RX1 11 "BallastLine$Track" "kinds" "[I", Cond.instanceMethod yX1_sink, Cond.selects RX1 yX1_sink yX1_sink]
def wsX2_settle_r2 : List Cond := [Cond.code yX1_sink cX1_sink 5 (some .int), Cond.fieldLink RX1 23 "BallastLine$Track" "hundredths" "[I", Cond.fieldLink RX1 17 "BallastLine$Track" "beds" "[I", Cond.methodLink RX1 82 yX1_setBed, Cond.instanceMethod yX1_setBed, Cond.selects RX1 yX1_setBed yX1_setBed, Cond.code yX1_setBed cX1_setBed 3 none, Cond.methodLink RX1 52 yX1_forgetHanging, Cond.instanceMethod yX1_forgetHanging, Cond.selects RX1 yX1_forgetHanging yX1_forgetHanging, Cond.code yX1_forgetHanging cX1_forgetHanging 4 none, Cond.methodLink RX1 55 Lib.Math.min.name, Cond.methodLink RX1 61 Lib.Math.max.name, Cond.fieldLink RX1 33 "BallastLine$Track" "hanging" "[I"]
def wsX2_settle : List Cond := .code yX2_settle cX2_settle 9 (some .int) :: ((wsX2_settle_r1 ++ wsX2_settle_r2) ++ wsX10 ++ wsX20)
def wsX2_pressAt_r1 : List Cond := [Cond.instanceMethod yX1_jointAt, Cond.initialized RX1, Cond.selects RX1 yX1_jointAt yX1_jointAt, Cond.code yX1_jointAt cX1_jointAt 2 (some .boolean), Cond.fieldLink RX1 11 "BallastLine$Track" "kinds" "[I", Cond.methodLink RX1 64 yX1_stands, Cond.instanceMethod yX1_stands, Cond.selects RX1 yX1_stands yX1_stands, Cond.code yX1_stands cX1_stands 2 (some .boolean), Cond.fieldLink RX1 29 "BallastLine$Track" "lost" "[Z", Cond.methodLink RX1 48 yX1_has, Cond.instanceMethod yX1_has, Cond.selects RX1 yX1_has yX1_has, Cond.code yX1_has cX1_has 2 (some .boolean), Cond.fieldLink RX1 40 "BallastLine$Track" "size" "I", Cond.static yX4_within, Cond.initialized RX4, Cond.code yX4_within cX4_within 3 (some .boolean), Cond.instanceMethod yX1_bears, Cond.selects RX1 yX1_bears yX1_bears, Cond.code yX1_bears cX1_bears 2 (some .boolean), Cond.fieldLink RX1 33 "BallastLine$Track" "hanging" "[I", Cond.fieldLink RX1 17 "BallastLine$Track" "beds" "[I", Cond.methodLink RX1 79 yX1_height]
def wsX2_pressAt_r2 : List Cond := [Cond.instanceMethod yX1_height, Cond.selects RX1 yX1_height yX1_height, Cond.code yX1_height cX1_height 6 (some .int), Cond.constant RX1 67 (-2147483648), Cond.methodLink RX1 61 Lib.Math.max.name, Cond.static Lib.Math.max.name, Cond.initialized "java/lang/Math", Cond.code Lib.Math.max.name Lib.Math.max.code 2 (some .int), Cond.methodLink RX1 55 Lib.Math.min.name, Cond.static Lib.Math.min.name, Cond.code Lib.Math.min.name Lib.Math.min.code 2 (some .int), Cond.methodLink RX1 68 yX1_lineAt, Cond.instanceMethod yX1_lineAt, Cond.selects RX1 yX1_lineAt yX1_lineAt, Cond.code yX1_lineAt cX1_lineAt 4 (some .int), Cond.static yX4_floorShare, Cond.code yX4_floorShare cX4_floorShare 2 (some .int), Cond.methodLink RX4 237 yJ9_floorDiv_7cf53, Cond.static yJ9_floorDiv_7cf53, Cond.initialized RJ9, Cond.code yJ9_floorDiv_7cf53 cJ9_floorDiv_7cf53 3 (some .int), Cond.methodLink RX1 72 yX1_nearestBed, Cond.instanceMethod yX1_nearestBed, Cond.selects RX1 yX1_nearestBed yX1_nearestBed]
def wsX2_pressAt_r3 : List Cond := [Cond.code yX1_nearestBed cX1_nearestBed 3 (some .int), Cond.methodLink RX2 42 yX2_settle, Cond.instanceMethod yX2_settle, Cond.selects RX2 yX2_settle yX2_settle, Cond.initialized RX2, Cond.code yX2_settle cX2_settle 9 (some .int), Cond.methodLink RX2 56 Lib.Math.min.name, Cond.fieldLink RX2 15 "BallastLine$Train" "sinkings" "[B", Cond.methodLink RX2 61 Lib.Math.max.name, Cond.static yX4_cutShare, Cond.code yX4_cutShare cX4_cutShare 2 (some .int), Cond.instanceMethod yX1_isOf, Cond.selects RX1 yX1_isOf yX1_isOf, Cond.code yX1_isOf cX1_isOf 3 (some .boolean), Cond.instanceMethod yX1_sink, Cond.selects RX1 yX1_sink yX1_sink, Cond.code yX1_sink cX1_sink 5 (some .int), Cond.fieldLink RX1 23 "BallastLine$Track" "hundredths" "[I", Cond.methodLink RX1 82 yX1_setBed, Cond.instanceMethod yX1_setBed, Cond.selects RX1 yX1_setBed yX1_setBed, Cond.code yX1_setBed cX1_setBed 3 none, Cond.methodLink RX1 52 yX1_forgetHanging, Cond.instanceMethod yX1_forgetHanging]
def wsX2_pressAt_r4 : List Cond := [Cond.selects RX1 yX1_forgetHanging yX1_forgetHanging, Cond.code yX1_forgetHanging cX1_forgetHanging 4 none]
def wsX2_pressAt : List Cond := .code yX2_pressAt cX2_pressAt 9 (some .int) :: ((wsX2_pressAt_r1 ++ (wsX2_pressAt_r2 ++ (wsX2_pressAt_r3 ++ wsX2_pressAt_r4))) ++ wsX10 ++ wsX20)
def wsX2_roll_r1 : List Cond := [Cond.fieldLink RX2 19 "BallastLine$Train" "axles" "I", Cond.fieldLink RX2 9 "BallastLine$Train" "weights" "[I", Cond.methodLink RX2 28 yX2_pressAt, Cond.instanceMethod yX2_pressAt, Cond.selects RX2 yX2_pressAt yX2_pressAt, Cond.initialized RX2, Cond.code yX2_pressAt cX2_pressAt 9 (some .int), Cond.instanceMethod yX1_jointAt, Cond.initialized RX1, Cond.selects RX1 yX1_jointAt yX1_jointAt, Cond.code yX1_jointAt cX1_jointAt 2 (some .boolean), Cond.fieldLink RX1 11 "BallastLine$Track" "kinds" "[I", Cond.methodLink RX1 64 yX1_stands, Cond.instanceMethod yX1_stands, Cond.selects RX1 yX1_stands yX1_stands, Cond.code yX1_stands cX1_stands 2 (some .boolean), Cond.fieldLink RX1 29 "BallastLine$Track" "lost" "[Z", Cond.methodLink RX1 48 yX1_has, Cond.instanceMethod yX1_has, Cond.selects RX1 yX1_has yX1_has, Cond.code yX1_has cX1_has 2 (some .boolean), Cond.fieldLink RX1 40 "BallastLine$Track" "size" "I", Cond.static yX4_within, Cond.initialized RX4]
def wsX2_roll_r2 : List Cond := [Cond.code yX4_within cX4_within 3 (some .boolean), Cond.instanceMethod yX1_bears, Cond.selects RX1 yX1_bears yX1_bears, Cond.code yX1_bears cX1_bears 2 (some .boolean), Cond.fieldLink RX1 33 "BallastLine$Track" "hanging" "[I", Cond.fieldLink RX1 17 "BallastLine$Track" "beds" "[I", Cond.methodLink RX1 79 yX1_height, Cond.instanceMethod yX1_height, Cond.selects RX1 yX1_height yX1_height, Cond.code yX1_height cX1_height 6 (some .int), Cond.constant RX1 67 (-2147483648), Cond.methodLink RX1 61 Lib.Math.max.name, Cond.static Lib.Math.max.name, Cond.initialized "java/lang/Math", Cond.code Lib.Math.max.name Lib.Math.max.code 2 (some .int), Cond.methodLink RX1 55 Lib.Math.min.name, Cond.static Lib.Math.min.name, Cond.code Lib.Math.min.name Lib.Math.min.code 2 (some .int), Cond.methodLink RX1 68 yX1_lineAt, Cond.instanceMethod yX1_lineAt, Cond.selects RX1 yX1_lineAt yX1_lineAt, Cond.code yX1_lineAt cX1_lineAt 4 (some .int), Cond.static yX4_floorShare, Cond.code yX4_floorShare cX4_floorShare 2 (some .int)]
def wsX2_roll_r3 : List Cond := [Cond.methodLink RX4 237 yJ9_floorDiv_7cf53, Cond.static yJ9_floorDiv_7cf53, Cond.initialized RJ9, Cond.code yJ9_floorDiv_7cf53 cJ9_floorDiv_7cf53 3 (some .int), Cond.methodLink RX1 72 yX1_nearestBed, Cond.instanceMethod yX1_nearestBed, Cond.selects RX1 yX1_nearestBed yX1_nearestBed, Cond.code yX1_nearestBed cX1_nearestBed 3 (some .int), Cond.methodLink RX2 42 yX2_settle, Cond.instanceMethod yX2_settle, Cond.selects RX2 yX2_settle yX2_settle, Cond.code yX2_settle cX2_settle 9 (some .int), Cond.methodLink RX2 56 Lib.Math.min.name, Cond.fieldLink RX2 15 "BallastLine$Train" "sinkings" "[B", Cond.methodLink RX2 61 Lib.Math.max.name, Cond.static yX4_cutShare, Cond.code yX4_cutShare cX4_cutShare 2 (some .int), Cond.instanceMethod yX1_isOf, Cond.selects RX1 yX1_isOf yX1_isOf, Cond.code yX1_isOf cX1_isOf 3 (some .boolean), Cond.instanceMethod yX1_sink, Cond.selects RX1 yX1_sink yX1_sink, Cond.code yX1_sink cX1_sink 5 (some .int), Cond.fieldLink RX1 23 "BallastLine$Track" "hundredths" "[I"]
def wsX2_roll_r4 : List Cond := [Cond.methodLink RX1 82 yX1_setBed, Cond.instanceMethod yX1_setBed, Cond.selects RX1 yX1_setBed yX1_setBed, Cond.code yX1_setBed cX1_setBed 3 none, Cond.methodLink RX1 52 yX1_forgetHanging, Cond.instanceMethod yX1_forgetHanging, Cond.selects RX1 yX1_forgetHanging yX1_forgetHanging, Cond.code yX1_forgetHanging cX1_forgetHanging 4 none]
def wsX2_roll : List Cond := .code yX2_roll cX2_roll 7 (some .int) :: ((wsX2_roll_r1 ++ (wsX2_roll_r2 ++ (wsX2_roll_r3 ++ wsX2_roll_r4))) ++ wsX10 ++ wsX20)
def wsX3_init : List Cond := .code yX3_init cX3_init 1 none :: ([.methodLink RX3 3 objectInit, .instanceMethod objectInit, .code objectInit ⟨#[0xb1]⟩ 1 none, .arrayClass .int, .fieldLink RX3 9 "BallastLine$Works" "costs" "[I", .fieldLink RX3 15 "BallastLine$Works" "gains" "[I", .fieldLink RX3 18 "BallastLine$Works" "costsBelow" "[I", .fieldLink RX3 21 "BallastLine$Works" "gainsBelow" "[I", .fieldLink RX3 24 "BallastLine$Works" "order" "[I", .fieldLink RX3 27 "BallastLine$Works" "size" "I"] ++ wsX30)
def wsX3_isWorse : List Cond := .code yX3_isWorse cX3_isWorse 3 (some .boolean) :: ([.fieldLink RX3 15 "BallastLine$Works" "gains" "[I", .fieldLink RX3 9 "BallastLine$Works" "costs" "[I"] ++ wsX30)
def wsX3_add : List Cond := .code yX3_add cX3_add 5 (some .int) :: ([.fieldLink RX3 27 "BallastLine$Works" "size" "I", .fieldLink RX3 9 "BallastLine$Works" "costs" "[I", .fieldLink RX3 15 "BallastLine$Works" "gains" "[I", .fieldLink RX3 18 "BallastLine$Works" "costsBelow" "[I", .fieldLink RX3 21 "BallastLine$Works" "gainsBelow" "[I", .fieldLink RX3 24 "BallastLine$Works" "order" "[I", .methodLink RX3 31 yX3_isWorse, .instanceMethod yX3_isWorse, .selects RX3 yX3_isWorse yX3_isWorse, .initialized RX3, .code yX3_isWorse cX3_isWorse 3 (some .boolean)] ++ wsX30)
def wsJ6_bitCount_0f7a4 : List Cond := .code yJ6_bitCount_0f7a4 cJ6_bitCount_0f7a4 1 (some .int) :: ([.constant RJ6 265 (1431655765), .constant RJ6 266 (858993459), .constant RJ6 267 (252645135)])
def wsX3_bestSet : List Cond := .code yX3_bestSet cX3_bestSet 9 (some .int) :: ([.fieldLink RX3 27 "BallastLine$Works" "size" "I", .fieldLink RX3 9 "BallastLine$Works" "costs" "[I", .fieldLink RX3 18 "BallastLine$Works" "costsBelow" "[I", .fieldLink RX3 15 "BallastLine$Works" "gains" "[I", .fieldLink RX3 21 "BallastLine$Works" "gainsBelow" "[I", .methodLink RX3 35 yJ6_bitCount_0f7a4, .static yJ6_bitCount_0f7a4, .initialized RJ6, .code yJ6_bitCount_0f7a4 cJ6_bitCount_0f7a4 1 (some .int), .constant RJ6 265 (1431655765), .constant RJ6 266 (858993459), .constant RJ6 267 (252645135)] ++ wsX30)
def wsX3_worstFirst : List Cond := .code yX3_worstFirst cX3_worstFirst 6 (some .int) :: ([.fieldLink RX3 27 "BallastLine$Works" "size" "I", .fieldLink RX3 24 "BallastLine$Works" "order" "[I", .fieldLink RX3 9 "BallastLine$Works" "costs" "[I"] ++ wsX30)
def wsX3_gainOf : List Cond := .code yX3_gainOf cX3_gainOf 4 (some .int) :: ([.fieldLink RX3 27 "BallastLine$Works" "size" "I", .fieldLink RX3 15 "BallastLine$Works" "gains" "[I"] ++ wsX30)
def wsX4_init_r1 : List Cond := [Cond.methodLink RX4 1 objectInit, Cond.instanceMethod objectInit, Cond.code objectInit ⟨#[0xb1]⟩ 1 none, Cond.classLink RX4 7 RX1, Cond.instantiable RX1 8, Cond.initialized RX1, Cond.fieldLink RX4 10 "BallastLine" "track" "LBallastLine$Track;", Cond.classLink RX4 16 RX2, Cond.instantiable RX2 3, Cond.initialized RX2, Cond.fieldLink RX4 19 "BallastLine" "train" "LBallastLine$Train;", Cond.classLink RX4 23 RX0, Cond.instantiable RX0 2, Cond.initialized RX0, Cond.fieldLink RX4 26 "BallastLine" "runs" "LBallastLine$Runs;", Cond.classLink RX4 30 RX3, Cond.instantiable RX3 6, Cond.initialized RX3, Cond.fieldLink RX4 33 "BallastLine" "works" "LBallastLine$Works;", Cond.arrayClass .int, Cond.fieldLink RX4 37 "BallastLine" "freeAt" "[I", Cond.fieldLink RX4 41 "BallastLine" "findingCounts" "[I", Cond.fieldLink RX4 44 "BallastLine" "latestFinding" "I", Cond.fieldLink RX4 48 "BallastLine" "latestTold" "J"]
def wsX4_init_r2 : List Cond := [Cond.instanceMethod yX1_init, Cond.code yX1_init cX1_init 1 none, Cond.methodLink RX1 5 objectInit, Cond.fieldLink RX1 11 "BallastLine$Track" "kinds" "[I", Cond.fieldLink RX1 17 "BallastLine$Track" "beds" "[I", Cond.fieldLink RX1 20 "BallastLine$Track" "firmness" "[I", Cond.fieldLink RX1 23 "BallastLine$Track" "hundredths" "[I", Cond.fieldLink RX1 26 "BallastLine$Track" "axlesOver" "[I", Cond.arrayClass .boolean, Cond.fieldLink RX1 29 "BallastLine$Track" "lost" "[Z", Cond.fieldLink RX1 33 "BallastLine$Track" "hanging" "[I", Cond.methodLink RX1 36 yX1_renew, Cond.instanceMethod yX1_renew, Cond.selects RX1 yX1_renew yX1_renew, Cond.code yX1_renew cX1_renew 3 none, Cond.fieldLink RX1 40 "BallastLine$Track" "size" "I", Cond.instanceMethod yX2_init, Cond.code yX2_init cX2_init 1 none, Cond.methodLink RX2 3 objectInit, Cond.fieldLink RX2 9 "BallastLine$Train" "weights" "[I", Cond.arrayClass .byte, Cond.fieldLink RX2 15 "BallastLine$Train" "sinkings" "[B", Cond.fieldLink RX2 19 "BallastLine$Train" "axles" "I", Cond.instanceMethod yX0_init]
def wsX4_init_r3 : List Cond := [Cond.code yX0_init cX0_init 1 none, Cond.methodLink RX0 3 objectInit, Cond.classLink RX0 9 "[[I", Cond.fieldLink RX0 11 "BallastLine$Runs" "rows" "[[I", Cond.fieldLink RX0 16 "BallastLine$Runs" "there" "[Z", Cond.instanceMethod yX3_init, Cond.code yX3_init cX3_init 1 none, Cond.methodLink RX3 3 objectInit, Cond.fieldLink RX3 9 "BallastLine$Works" "costs" "[I", Cond.fieldLink RX3 15 "BallastLine$Works" "gains" "[I", Cond.fieldLink RX3 18 "BallastLine$Works" "costsBelow" "[I", Cond.fieldLink RX3 21 "BallastLine$Works" "gainsBelow" "[I", Cond.fieldLink RX3 24 "BallastLine$Works" "order" "[I", Cond.fieldLink RX3 27 "BallastLine$Works" "size" "I"]
def wsX4_init : List Cond := .code yX4_init cX4_init 2 none :: ((wsX4_init_r1 ++ (wsX4_init_r2 ++ wsX4_init_r3)) ++ wsX10 ++ wsX40 ++ wsX20 ++ wsX00 ++ wsX30)
def wsX4_line : List Cond := .code yX4_line cX4_line 2 (some .int) :: ([.fieldLink RX4 10 "BallastLine" "track" "LBallastLine$Track;", .methodLink RX4 52 yX4_within, .static yX4_within, .initialized RX4, .code yX4_within cX4_within 3 (some .boolean), .instanceMethod yX1_renew, .initialized RX1, .selects RX1 yX1_renew yX1_renew, .code yX1_renew cX1_renew 3 none, .fieldLink RX1 40 "BallastLine$Track" "size" "I", .fieldLink RX1 11 "BallastLine$Track" "kinds" "[I", .fieldLink RX1 17 "BallastLine$Track" "beds" "[I", .fieldLink RX1 20 "BallastLine$Track" "firmness" "[I", .fieldLink RX1 23 "BallastLine$Track" "hundredths" "[I", .fieldLink RX1 26 "BallastLine$Track" "axlesOver" "[I", .fieldLink RX1 29 "BallastLine$Track" "lost" "[Z", .fieldLink RX1 33 "BallastLine$Track" "hanging" "[I"] ++ wsX40 ++ wsX10)
def wsX4_sleeper_r1 : List Cond := [Cond.fieldLink RX4 10 "BallastLine" "track" "LBallastLine$Track;", Cond.instanceMethod yX1_has, Cond.initialized RX1, Cond.selects RX1 yX1_has yX1_has, Cond.code yX1_has cX1_has 2 (some .boolean), Cond.fieldLink RX1 40 "BallastLine$Track" "size" "I", Cond.static yX4_within, Cond.initialized RX4, Cond.code yX4_within cX4_within 3 (some .boolean), Cond.methodLink RX4 52 yX4_within, Cond.instanceMethod yX1_setLost, Cond.selects RX1 yX1_setLost yX1_setLost, Cond.code yX1_setLost cX1_setLost 3 none, Cond.fieldLink RX1 29 "BallastLine$Track" "lost" "[Z", Cond.methodLink RX1 52 yX1_forgetHanging, Cond.instanceMethod yX1_forgetHanging, Cond.selects RX1 yX1_forgetHanging yX1_forgetHanging, Cond.code yX1_forgetHanging cX1_forgetHanging 4 none, Cond.methodLink RX1 55 Lib.Math.min.name, Cond.static Lib.Math.min.name, Cond.initialized "java/lang/Math", Cond.code Lib.Math.min.name Lib.Math.min.code 2 (some .int), Cond.methodLink RX1 61 Lib.Math.max.name, Cond.static Lib.Math.max.name]
def wsX4_sleeper_r2 : List Cond := [Cond.code Lib.Math.max.name Lib.Math.max.code 2 (some .int), Cond.fieldLink RX1 33 "BallastLine$Track" "hanging" "[I"]
def wsX4_sleeper : List Cond := .code yX4_sleeper cX4_sleeper 4 (some .int) :: ((wsX4_sleeper_r1 ++ wsX4_sleeper_r2) ++ wsX40 ++ wsX10)
def wsX4_lose_r1 : List Cond := [Cond.fieldLink RX4 10 "BallastLine" "track" "LBallastLine$Track;", Cond.instanceMethod yX1_has, Cond.initialized RX1, Cond.selects RX1 yX1_has yX1_has, Cond.code yX1_has cX1_has 2 (some .boolean), Cond.fieldLink RX1 40 "BallastLine$Track" "size" "I", Cond.static yX4_within, Cond.initialized RX4, Cond.code yX4_within cX4_within 3 (some .boolean), Cond.instanceMethod yX1_setLost, Cond.selects RX1 yX1_setLost yX1_setLost, Cond.code yX1_setLost cX1_setLost 3 none, Cond.fieldLink RX1 29 "BallastLine$Track" "lost" "[Z", Cond.methodLink RX1 52 yX1_forgetHanging, Cond.instanceMethod yX1_forgetHanging, Cond.selects RX1 yX1_forgetHanging yX1_forgetHanging, Cond.code yX1_forgetHanging cX1_forgetHanging 4 none, Cond.methodLink RX1 55 Lib.Math.min.name, Cond.static Lib.Math.min.name, Cond.initialized "java/lang/Math", Cond.code Lib.Math.min.name Lib.Math.min.code 2 (some .int), Cond.methodLink RX1 61 Lib.Math.max.name, Cond.static Lib.Math.max.name, Cond.code Lib.Math.max.name Lib.Math.max.code 2 (some .int)]
def wsX4_lose_r2 : List Cond := [Cond.fieldLink RX1 33 "BallastLine$Track" "hanging" "[I"]
def wsX4_lose : List Cond := .code yX4_lose cX4_lose 4 (some .int) :: ((wsX4_lose_r1 ++ wsX4_lose_r2) ++ wsX40 ++ wsX10)
def wsX4_found : List Cond := .code yX4_found cX4_found 2 (some .int) :: ([.fieldLink RX4 44 "BallastLine" "latestFinding" "I", .fieldLink RX4 41 "BallastLine" "findingCounts" "[I"] ++ wsX40)
def wsX4_tell : List Cond := .code yX4_tell cX4_tell 3 (some .int) :: ([.fieldLink RX4 48 "BallastLine" "latestTold" "J"] ++ wsX40)
def wsX4_bed_r1 : List Cond := [Cond.fieldLink RX4 10 "BallastLine" "track" "LBallastLine$Track;", Cond.instanceMethod yX1_has, Cond.initialized RX1, Cond.selects RX1 yX1_has yX1_has, Cond.code yX1_has cX1_has 2 (some .boolean), Cond.fieldLink RX1 40 "BallastLine$Track" "size" "I", Cond.static yX4_within, Cond.initialized RX4, Cond.code yX4_within cX4_within 3 (some .boolean), Cond.methodLink RX4 52 yX4_within, Cond.methodLink RX4 75 yX4_found, Cond.instanceMethod yX4_found, Cond.selects RX4 yX4_found yX4_found, Cond.code yX4_found cX4_found 2 (some .int), Cond.fieldLink RX4 44 "BallastLine" "latestFinding" "I", Cond.fieldLink RX4 41 "BallastLine" "findingCounts" "[I", Cond.instanceMethod yX1_setBed, Cond.selects RX1 yX1_setBed yX1_setBed, Cond.code yX1_setBed cX1_setBed 3 none, Cond.fieldLink RX1 17 "BallastLine$Track" "beds" "[I", Cond.methodLink RX1 52 yX1_forgetHanging, Cond.instanceMethod yX1_forgetHanging, Cond.selects RX1 yX1_forgetHanging yX1_forgetHanging, Cond.code yX1_forgetHanging cX1_forgetHanging 4 none]
def wsX4_bed_r2 : List Cond := [Cond.methodLink RX1 55 Lib.Math.min.name, Cond.static Lib.Math.min.name, Cond.initialized "java/lang/Math", Cond.code Lib.Math.min.name Lib.Math.min.code 2 (some .int), Cond.methodLink RX1 61 Lib.Math.max.name, Cond.static Lib.Math.max.name, Cond.code Lib.Math.max.name Lib.Math.max.code 2 (some .int), Cond.fieldLink RX1 33 "BallastLine$Track" "hanging" "[I", Cond.methodLink RX4 86 yX4_tell, Cond.instanceMethod yX4_tell, Cond.selects RX4 yX4_tell yX4_tell, Cond.code yX4_tell cX4_tell 3 (some .int), Cond.fieldLink RX4 48 "BallastLine" "latestTold" "J"]
def wsX4_bed : List Cond := .code yX4_bed cX4_bed 4 (some .int) :: ((wsX4_bed_r1 ++ wsX4_bed_r2) ++ wsX40 ++ wsX10)
def wsX4_stones : List Cond := .code yX4_stones cX4_stones 4 (some .int) :: ([.fieldLink RX4 10 "BallastLine" "track" "LBallastLine$Track;", .instanceMethod yX1_has, .initialized RX1, .selects RX1 yX1_has yX1_has, .code yX1_has cX1_has 2 (some .boolean), .fieldLink RX1 40 "BallastLine$Track" "size" "I", .static yX4_within, .initialized RX4, .code yX4_within cX4_within 3 (some .boolean), .methodLink RX4 52 yX4_within, .methodLink RX4 75 yX4_found, .instanceMethod yX4_found, .selects RX4 yX4_found yX4_found, .code yX4_found cX4_found 2 (some .int), .fieldLink RX4 44 "BallastLine" "latestFinding" "I", .fieldLink RX4 41 "BallastLine" "findingCounts" "[I"] ++ wsX40 ++ wsX10)
def wsX4_told : List Cond := .code yX4_told cX4_told 3 (some .int) :: ([.fieldLink RX4 10 "BallastLine" "track" "LBallastLine$Track;", .instanceMethod yX1_has, .initialized RX1, .selects RX1 yX1_has yX1_has, .code yX1_has cX1_has 2 (some .boolean), .fieldLink RX1 40 "BallastLine$Track" "size" "I", .static yX4_within, .initialized RX4, .code yX4_within cX4_within 3 (some .boolean)] ++ wsX40 ++ wsX10)
def wsX4_mark : List Cond := .code yX4_mark cX4_mark 3 (some .int) :: ([.fieldLink RX4 10 "BallastLine" "track" "LBallastLine$Track;", .instanceMethod yX1_has, .initialized RX1, .selects RX1 yX1_has yX1_has, .code yX1_has cX1_has 2 (some .boolean), .fieldLink RX1 40 "BallastLine$Track" "size" "I", .static yX4_within, .initialized RX4, .code yX4_within cX4_within 3 (some .boolean), .methodLink RX4 52 yX4_within, .methodLink RX4 75 yX4_found, .instanceMethod yX4_found, .selects RX4 yX4_found yX4_found, .code yX4_found cX4_found 2 (some .int), .fieldLink RX4 44 "BallastLine" "latestFinding" "I", .fieldLink RX4 41 "BallastLine" "findingCounts" "[I", .instanceMethod yX1_isOf, .selects RX1 yX1_isOf yX1_isOf, .code yX1_isOf cX1_isOf 3 (some .boolean), .fieldLink RX1 11 "BallastLine$Track" "kinds" "[I"] ++ wsX40 ++ wsX10)
def wsX4_rail_r1 : List Cond := [Cond.fieldLink RX4 10 "BallastLine" "track" "LBallastLine$Track;", Cond.instanceMethod yX1_has, Cond.initialized RX1, Cond.selects RX1 yX1_has yX1_has, Cond.code yX1_has cX1_has 2 (some .boolean), Cond.fieldLink RX1 40 "BallastLine$Track" "size" "I", Cond.static yX4_within, Cond.initialized RX4, Cond.code yX4_within cX4_within 3 (some .boolean), Cond.instanceMethod yX1_height, Cond.selects RX1 yX1_height yX1_height, Cond.code yX1_height cX1_height 6 (some .int), Cond.fieldLink RX1 17 "BallastLine$Track" "beds" "[I", Cond.constant RX1 67 (-2147483648), Cond.methodLink RX1 61 Lib.Math.max.name, Cond.static Lib.Math.max.name, Cond.initialized "java/lang/Math", Cond.code Lib.Math.max.name Lib.Math.max.code 2 (some .int), Cond.methodLink RX1 55 Lib.Math.min.name, Cond.static Lib.Math.min.name, Cond.code Lib.Math.min.name Lib.Math.min.code 2 (some .int), Cond.fieldLink RX1 29 "BallastLine$Track" "lost" "[Z", Cond.methodLink RX1 64 yX1_stands, Cond.instanceMethod yX1_stands]
def wsX4_rail_r2 : List Cond := [Cond.selects RX1 yX1_stands yX1_stands, Cond.code yX1_stands cX1_stands 2 (some .boolean), Cond.methodLink RX1 48 yX1_has, Cond.methodLink RX1 68 yX1_lineAt, Cond.instanceMethod yX1_lineAt, Cond.selects RX1 yX1_lineAt yX1_lineAt, Cond.code yX1_lineAt cX1_lineAt 4 (some .int), Cond.static yX4_floorShare, Cond.code yX4_floorShare cX4_floorShare 2 (some .int), Cond.methodLink RX4 237 yJ9_floorDiv_7cf53, Cond.static yJ9_floorDiv_7cf53, Cond.initialized RJ9, Cond.code yJ9_floorDiv_7cf53 cJ9_floorDiv_7cf53 3 (some .int), Cond.methodLink RX1 72 yX1_nearestBed, Cond.instanceMethod yX1_nearestBed, Cond.selects RX1 yX1_nearestBed yX1_nearestBed, Cond.code yX1_nearestBed cX1_nearestBed 3 (some .int), Cond.methodLink RX4 86 yX4_tell, Cond.instanceMethod yX4_tell, Cond.selects RX4 yX4_tell yX4_tell, Cond.code yX4_tell cX4_tell 3 (some .int), Cond.fieldLink RX4 48 "BallastLine" "latestTold" "J"]
def wsX4_rail : List Cond := .code yX4_rail cX4_rail 2 (some .int) :: ((wsX4_rail_r1 ++ wsX4_rail_r2) ++ wsX40 ++ wsX10)
def wsX4_gap_r1 : List Cond := [Cond.fieldLink RX4 10 "BallastLine" "track" "LBallastLine$Track;", Cond.instanceMethod yX1_has, Cond.initialized RX1, Cond.selects RX1 yX1_has yX1_has, Cond.code yX1_has cX1_has 2 (some .boolean), Cond.fieldLink RX1 40 "BallastLine$Track" "size" "I", Cond.static yX4_within, Cond.initialized RX4, Cond.code yX4_within cX4_within 3 (some .boolean), Cond.methodLink RX4 75 yX4_found, Cond.instanceMethod yX4_found, Cond.selects RX4 yX4_found yX4_found, Cond.code yX4_found cX4_found 2 (some .int), Cond.fieldLink RX4 44 "BallastLine" "latestFinding" "I", Cond.fieldLink RX4 41 "BallastLine" "findingCounts" "[I", Cond.instanceMethod yX1_height, Cond.selects RX1 yX1_height yX1_height, Cond.code yX1_height cX1_height 6 (some .int), Cond.fieldLink RX1 17 "BallastLine$Track" "beds" "[I", Cond.constant RX1 67 (-2147483648), Cond.methodLink RX1 61 Lib.Math.max.name, Cond.static Lib.Math.max.name, Cond.initialized "java/lang/Math", Cond.code Lib.Math.max.name Lib.Math.max.code 2 (some .int)]
def wsX4_gap_r2 : List Cond := [Cond.methodLink RX1 55 Lib.Math.min.name, Cond.static Lib.Math.min.name, Cond.code Lib.Math.min.name Lib.Math.min.code 2 (some .int), Cond.fieldLink RX1 29 "BallastLine$Track" "lost" "[Z", Cond.methodLink RX1 64 yX1_stands, Cond.instanceMethod yX1_stands, Cond.selects RX1 yX1_stands yX1_stands, Cond.code yX1_stands cX1_stands 2 (some .boolean), Cond.methodLink RX1 48 yX1_has, Cond.methodLink RX1 68 yX1_lineAt, Cond.instanceMethod yX1_lineAt, Cond.selects RX1 yX1_lineAt yX1_lineAt, Cond.code yX1_lineAt cX1_lineAt 4 (some .int), Cond.static yX4_floorShare, Cond.code yX4_floorShare cX4_floorShare 2 (some .int), Cond.methodLink RX4 237 yJ9_floorDiv_7cf53, Cond.static yJ9_floorDiv_7cf53, Cond.initialized RJ9, Cond.code yJ9_floorDiv_7cf53 cJ9_floorDiv_7cf53 3 (some .int), Cond.methodLink RX1 72 yX1_nearestBed, Cond.instanceMethod yX1_nearestBed, Cond.selects RX1 yX1_nearestBed yX1_nearestBed, Cond.code yX1_nearestBed cX1_nearestBed 3 (some .int)]
def wsX4_gap : List Cond := .code yX4_gap cX4_gap 2 (some .int) :: ((wsX4_gap_r1 ++ wsX4_gap_r2) ++ wsX40 ++ wsX10)
def wsX4_axle : List Cond := .code yX4_axle cX4_axle 2 (some .int) :: ([.fieldLink RX4 19 "BallastLine" "train" "LBallastLine$Train;", .methodLink RX4 52 yX4_within, .static yX4_within, .initialized RX4, .code yX4_within cX4_within 3 (some .boolean)] ++ wsX40 ++ wsX20)
def wsX4_uncouple : List Cond := .code yX4_uncouple cX4_uncouple 2 (some .int) :: ([.fieldLink RX4 19 "BallastLine" "train" "LBallastLine$Train;"] ++ wsX40 ++ wsX20)
def wsX4_table : List Cond := .code yX4_table cX4_table 4 (some .int) :: ([.fieldLink RX4 19 "BallastLine" "train" "LBallastLine$Train;", .methodLink RX4 52 yX4_within, .static yX4_within, .initialized RX4, .code yX4_within cX4_within 3 (some .boolean)] ++ wsX40 ++ wsX20)
def wsX4_pass_r1 : List Cond := [Cond.fieldLink RX4 19 "BallastLine" "train" "LBallastLine$Train;", Cond.fieldLink RX4 10 "BallastLine" "track" "LBallastLine$Track;", Cond.methodLink RX4 52 yX4_within, Cond.static yX4_within, Cond.initialized RX4, Cond.code yX4_within cX4_within 3 (some .boolean), Cond.instanceMethod yX2_roll, Cond.initialized RX2, Cond.selects RX2 yX2_roll yX2_roll, Cond.code yX2_roll cX2_roll 7 (some .int), Cond.fieldLink RX2 19 "BallastLine$Train" "axles" "I", Cond.fieldLink RX2 9 "BallastLine$Train" "weights" "[I", Cond.methodLink RX2 28 yX2_pressAt, Cond.instanceMethod yX2_pressAt, Cond.selects RX2 yX2_pressAt yX2_pressAt, Cond.code yX2_pressAt cX2_pressAt 9 (some .int), Cond.instanceMethod yX1_jointAt, Cond.initialized RX1, Cond.selects RX1 yX1_jointAt yX1_jointAt, Cond.code yX1_jointAt cX1_jointAt 2 (some .boolean), Cond.fieldLink RX1 11 "BallastLine$Track" "kinds" "[I", Cond.methodLink RX1 64 yX1_stands, Cond.instanceMethod yX1_stands, Cond.selects RX1 yX1_stands yX1_stands]
def wsX4_pass_r2 : List Cond := [Cond.code yX1_stands cX1_stands 2 (some .boolean), Cond.fieldLink RX1 29 "BallastLine$Track" "lost" "[Z", Cond.methodLink RX1 48 yX1_has, Cond.instanceMethod yX1_has, Cond.selects RX1 yX1_has yX1_has, Cond.code yX1_has cX1_has 2 (some .boolean), Cond.fieldLink RX1 40 "BallastLine$Track" "size" "I", Cond.instanceMethod yX1_bears, Cond.selects RX1 yX1_bears yX1_bears, Cond.code yX1_bears cX1_bears 2 (some .boolean), Cond.fieldLink RX1 33 "BallastLine$Track" "hanging" "[I", Cond.fieldLink RX1 17 "BallastLine$Track" "beds" "[I", Cond.methodLink RX1 79 yX1_height, Cond.instanceMethod yX1_height, Cond.selects RX1 yX1_height yX1_height, Cond.code yX1_height cX1_height 6 (some .int), Cond.constant RX1 67 (-2147483648), Cond.methodLink RX1 61 Lib.Math.max.name, Cond.static Lib.Math.max.name, Cond.initialized "java/lang/Math", Cond.code Lib.Math.max.name Lib.Math.max.code 2 (some .int), Cond.methodLink RX1 55 Lib.Math.min.name, Cond.static Lib.Math.min.name, Cond.code Lib.Math.min.name Lib.Math.min.code 2 (some .int)]
def wsX4_pass_r3 : List Cond := [Cond.methodLink RX1 68 yX1_lineAt, Cond.instanceMethod yX1_lineAt, Cond.selects RX1 yX1_lineAt yX1_lineAt, Cond.code yX1_lineAt cX1_lineAt 4 (some .int), Cond.static yX4_floorShare, Cond.code yX4_floorShare cX4_floorShare 2 (some .int), Cond.methodLink RX4 237 yJ9_floorDiv_7cf53, Cond.static yJ9_floorDiv_7cf53, Cond.initialized RJ9, Cond.code yJ9_floorDiv_7cf53 cJ9_floorDiv_7cf53 3 (some .int), Cond.methodLink RX1 72 yX1_nearestBed, Cond.instanceMethod yX1_nearestBed, Cond.selects RX1 yX1_nearestBed yX1_nearestBed, Cond.code yX1_nearestBed cX1_nearestBed 3 (some .int), Cond.methodLink RX2 42 yX2_settle, Cond.instanceMethod yX2_settle, Cond.selects RX2 yX2_settle yX2_settle, Cond.code yX2_settle cX2_settle 9 (some .int), Cond.methodLink RX2 56 Lib.Math.min.name, Cond.fieldLink RX2 15 "BallastLine$Train" "sinkings" "[B", Cond.methodLink RX2 61 Lib.Math.max.name, Cond.static yX4_cutShare, Cond.code yX4_cutShare cX4_cutShare 2 (some .int), Cond.instanceMethod yX1_isOf]
def wsX4_pass_r4 : List Cond := [Cond.selects RX1 yX1_isOf yX1_isOf, Cond.code yX1_isOf cX1_isOf 3 (some .boolean), Cond.instanceMethod yX1_sink, Cond.selects RX1 yX1_sink yX1_sink, Cond.code yX1_sink cX1_sink 5 (some .int), Cond.fieldLink RX1 23 "BallastLine$Track" "hundredths" "[I", Cond.methodLink RX1 82 yX1_setBed, Cond.instanceMethod yX1_setBed, Cond.selects RX1 yX1_setBed yX1_setBed, Cond.code yX1_setBed cX1_setBed 3 none, Cond.methodLink RX1 52 yX1_forgetHanging, Cond.instanceMethod yX1_forgetHanging, Cond.selects RX1 yX1_forgetHanging yX1_forgetHanging, Cond.code yX1_forgetHanging cX1_forgetHanging 4 none]
def wsX4_pass : List Cond := .code yX4_pass cX4_pass 2 (some .int) :: ((wsX4_pass_r1 ++ (wsX4_pass_r2 ++ (wsX4_pass_r3 ++ wsX4_pass_r4))) ++ wsX40 ++ wsX20 ++ wsX10)
def wsX4_mean_r1 : List Cond := [Cond.fieldLink RX4 10 "BallastLine" "track" "LBallastLine$Track;", Cond.instanceMethod yX1_standing, Cond.initialized RX1, Cond.selects RX1 yX1_standing yX1_standing, Cond.code yX1_standing cX1_standing 5 (some .int), Cond.methodLink RX1 64 yX1_stands, Cond.instanceMethod yX1_stands, Cond.selects RX1 yX1_stands yX1_stands, Cond.code yX1_stands cX1_stands 2 (some .boolean), Cond.fieldLink RX1 29 "BallastLine$Track" "lost" "[Z", Cond.methodLink RX1 48 yX1_has, Cond.instanceMethod yX1_has, Cond.selects RX1 yX1_has yX1_has, Cond.code yX1_has cX1_has 2 (some .boolean), Cond.fieldLink RX1 40 "BallastLine$Track" "size" "I", Cond.static yX4_within, Cond.initialized RX4, Cond.code yX4_within cX4_within 3 (some .boolean), Cond.methodLink RX4 75 yX4_found, Cond.instanceMethod yX4_found, Cond.selects RX4 yX4_found yX4_found, Cond.code yX4_found cX4_found 2 (some .int), Cond.fieldLink RX4 44 "BallastLine" "latestFinding" "I", Cond.fieldLink RX4 41 "BallastLine" "findingCounts" "[I"]
def wsX4_mean_r2 : List Cond := [Cond.instanceMethod yX1_sumOfBeds, Cond.selects RX1 yX1_sumOfBeds yX1_sumOfBeds, Cond.code yX1_sumOfBeds cX1_sumOfBeds 3 (some .int), Cond.fieldLink RX1 17 "BallastLine$Track" "beds" "[I", Cond.methodLink RX4 131 yX4_floorShare, Cond.static yX4_floorShare, Cond.code yX4_floorShare cX4_floorShare 2 (some .int), Cond.methodLink RX4 237 yJ9_floorDiv_7cf53, Cond.static yJ9_floorDiv_7cf53, Cond.initialized RJ9, Cond.code yJ9_floorDiv_7cf53 cJ9_floorDiv_7cf53 3 (some .int), Cond.methodLink RX4 86 yX4_tell, Cond.instanceMethod yX4_tell, Cond.selects RX4 yX4_tell yX4_tell, Cond.code yX4_tell cX4_tell 3 (some .int), Cond.fieldLink RX4 48 "BallastLine" "latestTold" "J"]
def wsX4_mean : List Cond := .code yX4_mean cX4_mean 2 (some .int) :: ((wsX4_mean_r1 ++ wsX4_mean_r2) ++ wsX40 ++ wsX10)
def wsX4_lift_r1 : List Cond := [Cond.fieldLink RX4 10 "BallastLine" "track" "LBallastLine$Track;", Cond.instanceMethod yX1_has, Cond.initialized RX1, Cond.selects RX1 yX1_has yX1_has, Cond.code yX1_has cX1_has 2 (some .boolean), Cond.fieldLink RX1 40 "BallastLine$Track" "size" "I", Cond.static yX4_within, Cond.initialized RX4, Cond.code yX4_within cX4_within 3 (some .boolean), Cond.methodLink RX4 52 yX4_within, Cond.instanceMethod yX1_raise, Cond.selects RX1 yX1_raise yX1_raise, Cond.code yX1_raise cX1_raise 3 (some .boolean), Cond.fieldLink RX1 17 "BallastLine$Track" "beds" "[I", Cond.fieldLink RX1 23 "BallastLine$Track" "hundredths" "[I", Cond.fieldLink RX1 20 "BallastLine$Track" "firmness" "[I", Cond.methodLink RX1 61 Lib.Math.max.name, Cond.static Lib.Math.max.name, Cond.initialized "java/lang/Math", Cond.code Lib.Math.max.name Lib.Math.max.code 2 (some .int), Cond.methodLink RX1 64 yX1_stands, Cond.instanceMethod yX1_stands, Cond.selects RX1 yX1_stands yX1_stands, Cond.code yX1_stands cX1_stands 2 (some .boolean)]
def wsX4_lift_r2 : List Cond := [Cond.fieldLink RX1 29 "BallastLine$Track" "lost" "[Z", Cond.methodLink RX1 48 yX1_has, Cond.methodLink RX1 82 yX1_setBed, Cond.instanceMethod yX1_setBed, Cond.selects RX1 yX1_setBed yX1_setBed, Cond.code yX1_setBed cX1_setBed 3 none, Cond.methodLink RX1 52 yX1_forgetHanging, Cond.instanceMethod yX1_forgetHanging, Cond.selects RX1 yX1_forgetHanging yX1_forgetHanging, Cond.code yX1_forgetHanging cX1_forgetHanging 4 none, Cond.methodLink RX1 55 Lib.Math.min.name, Cond.static Lib.Math.min.name, Cond.code Lib.Math.min.name Lib.Math.min.code 2 (some .int), Cond.fieldLink RX1 33 "BallastLine$Track" "hanging" "[I"]
def wsX4_lift : List Cond := .code yX4_lift cX4_lift 6 (some .int) :: ((wsX4_lift_r1 ++ wsX4_lift_r2) ++ wsX40 ++ wsX10)
def wsX4_isRun : List Cond := .code yX4_isRun cX4_isRun 1 (some .boolean) :: ([.methodLink RX4 52 yX4_within, .static yX4_within, .initialized RX4, .code yX4_within cX4_within 3 (some .boolean)])
def wsX4_measure_r1 : List Cond := [Cond.fieldLink RX4 26 "BallastLine" "runs" "LBallastLine$Runs;", Cond.fieldLink RX4 10 "BallastLine" "track" "LBallastLine$Track;", Cond.methodLink RX4 137 yX4_isRun, Cond.static yX4_isRun, Cond.initialized RX4, Cond.code yX4_isRun cX4_isRun 1 (some .boolean), Cond.methodLink RX4 52 yX4_within, Cond.static yX4_within, Cond.code yX4_within cX4_within 3 (some .boolean), Cond.instanceMethod yX0_open, Cond.initialized RX0, Cond.selects RX0 yX0_open yX0_open, Cond.code yX0_open cX0_open 3 (some .int), Cond.fieldLink RX0 16 "BallastLine$Runs" "there" "[Z", Cond.instanceMethod yX1_chord, Cond.initialized RX1, Cond.selects RX1 yX1_chord yX1_chord, Cond.code yX1_chord cX1_chord 3 (some .int), Cond.methodLink RX1 48 yX1_has, Cond.instanceMethod yX1_has, Cond.selects RX1 yX1_has yX1_has, Cond.code yX1_has cX1_has 2 (some .boolean), Cond.fieldLink RX1 40 "BallastLine$Track" "size" "I", Cond.methodLink RX1 79 yX1_height]
def wsX4_measure_r2 : List Cond := [Cond.instanceMethod yX1_height, Cond.selects RX1 yX1_height yX1_height, Cond.code yX1_height cX1_height 6 (some .int), Cond.fieldLink RX1 17 "BallastLine$Track" "beds" "[I", Cond.constant RX1 67 (-2147483648), Cond.methodLink RX1 61 Lib.Math.max.name, Cond.static Lib.Math.max.name, Cond.initialized "java/lang/Math", Cond.code Lib.Math.max.name Lib.Math.max.code 2 (some .int), Cond.methodLink RX1 55 Lib.Math.min.name, Cond.static Lib.Math.min.name, Cond.code Lib.Math.min.name Lib.Math.min.code 2 (some .int), Cond.fieldLink RX1 29 "BallastLine$Track" "lost" "[Z", Cond.methodLink RX1 64 yX1_stands, Cond.instanceMethod yX1_stands, Cond.selects RX1 yX1_stands yX1_stands, Cond.code yX1_stands cX1_stands 2 (some .boolean), Cond.methodLink RX1 68 yX1_lineAt, Cond.instanceMethod yX1_lineAt, Cond.selects RX1 yX1_lineAt yX1_lineAt, Cond.code yX1_lineAt cX1_lineAt 4 (some .int), Cond.static yX4_floorShare, Cond.code yX4_floorShare cX4_floorShare 2 (some .int), Cond.methodLink RX4 237 yJ9_floorDiv_7cf53]
def wsX4_measure_r3 : List Cond := [Cond.static yJ9_floorDiv_7cf53, Cond.initialized RJ9, Cond.code yJ9_floorDiv_7cf53 cJ9_floorDiv_7cf53 3 (some .int), Cond.methodLink RX1 72 yX1_nearestBed, Cond.instanceMethod yX1_nearestBed, Cond.selects RX1 yX1_nearestBed yX1_nearestBed, Cond.code yX1_nearestBed cX1_nearestBed 3 (some .int)]
def wsX4_measure : List Cond := .code yX4_measure cX4_measure 5 (some .int) :: ((wsX4_measure_r1 ++ (wsX4_measure_r2 ++ wsX4_measure_r3)) ++ wsX40 ++ wsX00 ++ wsX10)
def wsX4_level_r1 : List Cond := [Cond.fieldLink RX4 26 "BallastLine" "runs" "LBallastLine$Runs;", Cond.fieldLink RX4 10 "BallastLine" "track" "LBallastLine$Track;", Cond.methodLink RX4 137 yX4_isRun, Cond.static yX4_isRun, Cond.initialized RX4, Cond.code yX4_isRun cX4_isRun 1 (some .boolean), Cond.methodLink RX4 52 yX4_within, Cond.static yX4_within, Cond.code yX4_within cX4_within 3 (some .boolean), Cond.instanceMethod yX0_open, Cond.initialized RX0, Cond.selects RX0 yX0_open yX0_open, Cond.code yX0_open cX0_open 3 (some .int), Cond.fieldLink RX0 16 "BallastLine$Runs" "there" "[Z", Cond.instanceMethod yX1_has, Cond.initialized RX1, Cond.selects RX1 yX1_has yX1_has, Cond.code yX1_has cX1_has 2 (some .boolean), Cond.fieldLink RX1 40 "BallastLine$Track" "size" "I", Cond.instanceMethod yX1_height, Cond.selects RX1 yX1_height yX1_height, Cond.code yX1_height cX1_height 6 (some .int), Cond.fieldLink RX1 17 "BallastLine$Track" "beds" "[I", Cond.constant RX1 67 (-2147483648)]
def wsX4_level_r2 : List Cond := [Cond.methodLink RX1 61 Lib.Math.max.name, Cond.static Lib.Math.max.name, Cond.initialized "java/lang/Math", Cond.code Lib.Math.max.name Lib.Math.max.code 2 (some .int), Cond.methodLink RX1 55 Lib.Math.min.name, Cond.static Lib.Math.min.name, Cond.code Lib.Math.min.name Lib.Math.min.code 2 (some .int), Cond.fieldLink RX1 29 "BallastLine$Track" "lost" "[Z", Cond.methodLink RX1 64 yX1_stands, Cond.instanceMethod yX1_stands, Cond.selects RX1 yX1_stands yX1_stands, Cond.code yX1_stands cX1_stands 2 (some .boolean), Cond.methodLink RX1 48 yX1_has, Cond.methodLink RX1 68 yX1_lineAt, Cond.instanceMethod yX1_lineAt, Cond.selects RX1 yX1_lineAt yX1_lineAt, Cond.code yX1_lineAt cX1_lineAt 4 (some .int), Cond.static yX4_floorShare, Cond.code yX4_floorShare cX4_floorShare 2 (some .int), Cond.methodLink RX4 237 yJ9_floorDiv_7cf53, Cond.static yJ9_floorDiv_7cf53, Cond.initialized RJ9, Cond.code yJ9_floorDiv_7cf53 cJ9_floorDiv_7cf53 3 (some .int), Cond.methodLink RX1 72 yX1_nearestBed]
def wsX4_level_r3 : List Cond := [Cond.instanceMethod yX1_nearestBed, Cond.selects RX1 yX1_nearestBed yX1_nearestBed, Cond.code yX1_nearestBed cX1_nearestBed 3 (some .int)]
def wsX4_level : List Cond := .code yX4_level cX4_level 4 (some .int) :: ((wsX4_level_r1 ++ (wsX4_level_r2 ++ wsX4_level_r3)) ++ wsX40 ++ wsX00 ++ wsX10)
def wsX4_lay : List Cond := .code yX4_lay cX4_lay 5 (some .int) :: ([.constant RX4 150 (-100000), .constant RX4 151 (100000), .fieldLink RX4 26 "BallastLine" "runs" "LBallastLine$Runs;", .methodLink RX4 137 yX4_isRun, .static yX4_isRun, .initialized RX4, .code yX4_isRun cX4_isRun 1 (some .boolean), .methodLink RX4 52 yX4_within, .static yX4_within, .code yX4_within cX4_within 3 (some .boolean), .methodLink RX4 75 yX4_found, .instanceMethod yX4_found, .selects RX4 yX4_found yX4_found, .code yX4_found cX4_found 2 (some .int), .fieldLink RX4 44 "BallastLine" "latestFinding" "I", .fieldLink RX4 41 "BallastLine" "findingCounts" "[I", .methodLink RX4 86 yX4_tell, .instanceMethod yX4_tell, .selects RX4 yX4_tell yX4_tell, .code yX4_tell cX4_tell 3 (some .int), .fieldLink RX4 48 "BallastLine" "latestTold" "J"] ++ wsX40 ++ wsX00)
def wsX4_at : List Cond := .code yX4_at cX4_at 3 (some .int) :: ([.fieldLink RX4 26 "BallastLine" "runs" "LBallastLine$Runs;", .methodLink RX4 137 yX4_isRun, .static yX4_isRun, .initialized RX4, .code yX4_isRun cX4_isRun 1 (some .boolean), .methodLink RX4 52 yX4_within, .static yX4_within, .code yX4_within cX4_within 3 (some .boolean), .methodLink RX4 75 yX4_found, .instanceMethod yX4_found, .selects RX4 yX4_found yX4_found, .code yX4_found cX4_found 2 (some .int), .fieldLink RX4 44 "BallastLine" "latestFinding" "I", .fieldLink RX4 41 "BallastLine" "findingCounts" "[I", .methodLink RX4 86 yX4_tell, .instanceMethod yX4_tell, .selects RX4 yX4_tell yX4_tell, .code yX4_tell cX4_tell 3 (some .int), .fieldLink RX4 48 "BallastLine" "latestTold" "J"] ++ wsX40 ++ wsX00)
def wsX4_shape : List Cond := .code yX4_shape cX4_shape 4 (some .int) :: ([.fieldLink RX4 26 "BallastLine" "runs" "LBallastLine$Runs;", .fieldLink RX4 10 "BallastLine" "track" "LBallastLine$Track;", .methodLink RX4 137 yX4_isRun, .static yX4_isRun, .initialized RX4, .code yX4_isRun cX4_isRun 1 (some .boolean), .methodLink RX4 52 yX4_within, .static yX4_within, .code yX4_within cX4_within 3 (some .boolean), .methodLink RX4 75 yX4_found, .instanceMethod yX4_found, .selects RX4 yX4_found yX4_found, .code yX4_found cX4_found 2 (some .int), .fieldLink RX4 44 "BallastLine" "latestFinding" "I", .fieldLink RX4 41 "BallastLine" "findingCounts" "[I", .instanceMethod yX0_unbend, .initialized RX0, .selects RX0 yX0_unbend yX0_unbend, .code yX0_unbend cX0_unbend 9 none, .fieldLink RX0 11 "BallastLine$Runs" "rows" "[[I"] ++ wsX40 ++ wsX00 ++ wsX10)
def wsX4_tear : List Cond := .code yX4_tear cX4_tear 2 (some .int) :: ([.fieldLink RX4 26 "BallastLine" "runs" "LBallastLine$Runs;", .methodLink RX4 137 yX4_isRun, .static yX4_isRun, .initialized RX4, .code yX4_isRun cX4_isRun 1 (some .boolean), .methodLink RX4 52 yX4_within, .static yX4_within, .code yX4_within cX4_within 3 (some .boolean), .methodLink RX4 75 yX4_found, .instanceMethod yX4_found, .selects RX4 yX4_found yX4_found, .code yX4_found cX4_found 2 (some .int), .fieldLink RX4 44 "BallastLine" "latestFinding" "I", .fieldLink RX4 41 "BallastLine" "findingCounts" "[I"] ++ wsX40 ++ wsX00)
def wsX4_holdsPlaces : List Cond := .code yX4_holdsPlaces cX4_holdsPlaces 2 (some .boolean) :: ([.methodLink RX4 52 yX4_within, .static yX4_within, .initialized RX4, .code yX4_within cX4_within 3 (some .boolean)])
def wsX4_copy : List Cond := .code yX4_copy cX4_copy 6 (some .int) :: ([.fieldLink RX4 26 "BallastLine" "runs" "LBallastLine$Runs;", .methodLink RX4 162 arraycopyName, .native arraycopyName, .static arraycopyName, .initialized "java/lang/System", .methodLink RX4 137 yX4_isRun, .static yX4_isRun, .initialized RX4, .code yX4_isRun cX4_isRun 1 (some .boolean), .methodLink RX4 52 yX4_within, .static yX4_within, .code yX4_within cX4_within 3 (some .boolean), .methodLink RX4 75 yX4_found, .instanceMethod yX4_found, .selects RX4 yX4_found yX4_found, .code yX4_found cX4_found 2 (some .int), .fieldLink RX4 44 "BallastLine" "latestFinding" "I", .fieldLink RX4 41 "BallastLine" "findingCounts" "[I", .methodLink RX4 159 yX4_holdsPlaces, .static yX4_holdsPlaces, .code yX4_holdsPlaces cX4_holdsPlaces 2 (some .boolean)] ++ wsX40 ++ wsX00)
def wsX4_fit_r1 : List Cond := [Cond.fieldLink RX4 10 "BallastLine" "track" "LBallastLine$Track;", Cond.fieldLink RX4 26 "BallastLine" "runs" "LBallastLine$Runs;", Cond.methodLink RX4 137 yX4_isRun, Cond.static yX4_isRun, Cond.initialized RX4, Cond.code yX4_isRun cX4_isRun 1 (some .boolean), Cond.methodLink RX4 52 yX4_within, Cond.static yX4_within, Cond.code yX4_within cX4_within 3 (some .boolean), Cond.methodLink RX4 75 yX4_found, Cond.instanceMethod yX4_found, Cond.selects RX4 yX4_found yX4_found, Cond.code yX4_found cX4_found 2 (some .int), Cond.fieldLink RX4 44 "BallastLine" "latestFinding" "I", Cond.fieldLink RX4 41 "BallastLine" "findingCounts" "[I", Cond.instanceMethod yX0_bestShift, Cond.initialized RX0, Cond.selects RX0 yX0_bestShift yX0_bestShift, Cond.code yX0_bestShift cX0_bestShift 11 (some .int), Cond.methodLink RX0 20 yX0_squaresApart, Cond.instanceMethod yX0_squaresApart, Cond.selects RX0 yX0_squaresApart yX0_squaresApart, Cond.code yX0_squaresApart cX0_squaresApart 10 (some .long), Cond.fieldLink RX0 11 "BallastLine$Runs" "rows" "[[I"]
def wsX4_fit_r2 : List Cond := [Cond.methodLink RX4 86 yX4_tell, Cond.instanceMethod yX4_tell, Cond.selects RX4 yX4_tell yX4_tell, Cond.code yX4_tell cX4_tell 3 (some .int), Cond.fieldLink RX4 48 "BallastLine" "latestTold" "J"]
def wsX4_fit : List Cond := .code yX4_fit cX4_fit 4 (some .int) :: ((wsX4_fit_r1 ++ wsX4_fit_r2) ++ wsX40 ++ wsX10 ++ wsX00)
def wsX4_worst_r1 : List Cond := [Cond.fieldLink RX4 26 "BallastLine" "runs" "LBallastLine$Runs;", Cond.fieldLink RX4 10 "BallastLine" "track" "LBallastLine$Track;", Cond.methodLink RX4 137 yX4_isRun, Cond.static yX4_isRun, Cond.initialized RX4, Cond.code yX4_isRun cX4_isRun 1 (some .boolean), Cond.methodLink RX4 52 yX4_within, Cond.static yX4_within, Cond.code yX4_within cX4_within 3 (some .boolean), Cond.methodLink RX4 75 yX4_found, Cond.instanceMethod yX4_found, Cond.selects RX4 yX4_found yX4_found, Cond.code yX4_found cX4_found 2 (some .int), Cond.fieldLink RX4 44 "BallastLine" "latestFinding" "I", Cond.fieldLink RX4 41 "BallastLine" "findingCounts" "[I", Cond.instanceMethod yX0_steepest, Cond.initialized RX0, Cond.selects RX0 yX0_steepest yX0_steepest, Cond.code yX0_steepest cX0_steepest 5 (some .int), Cond.methodLink RX0 24 yX0_stepAfter, Cond.instanceMethod yX0_stepAfter, Cond.selects RX0 yX0_stepAfter yX0_stepAfter, Cond.code yX0_stepAfter cX0_stepAfter 3 (some .long), Cond.fieldLink RX0 11 "BallastLine$Runs" "rows" "[[I"]
def wsX4_worst_r2 : List Cond := [Cond.methodLink RX0 28 Lib.MathLoose.abs_long.x, Cond.static Lib.MathLoose.abs_long.x, Cond.initialized "java/lang/Math", Cond.code Lib.MathLoose.abs_long.x Lib.MathLoose.abs_long.code 2 (some .long), Cond.methodLink RX4 86 yX4_tell, Cond.instanceMethod yX4_tell, Cond.selects RX4 yX4_tell yX4_tell, Cond.code yX4_tell cX4_tell 3 (some .int), Cond.fieldLink RX4 48 "BallastLine" "latestTold" "J"]
def wsX4_worst : List Cond := .code yX4_worst cX4_worst 3 (some .int) :: ((wsX4_worst_r1 ++ wsX4_worst_r2) ++ wsX40 ++ wsX00 ++ wsX10)
def wsX4_isStretch : List Cond := .code yX4_isStretch cX4_isStretch 1 (some .boolean) :: ([.methodLink RX4 52 yX4_within, .static yX4_within, .initialized RX4, .code yX4_within cX4_within 3 (some .boolean)])
def wsX4_pull : List Cond := .code yX4_pull cX4_pull 3 (some .int) :: ([.fieldLink RX4 37 "BallastLine" "freeAt" "[I", .methodLink RX4 183 yX4_isStretch, .static yX4_isStretch, .initialized RX4, .code yX4_isStretch cX4_isStretch 1 (some .boolean), .methodLink RX4 52 yX4_within, .static yX4_within, .code yX4_within cX4_within 3 (some .boolean)] ++ wsX40)
def wsX4_isTemperature : List Cond := .code yX4_isTemperature cX4_isTemperature 1 (some .boolean) :: ([.methodLink RX4 52 yX4_within, .static yX4_within, .initialized RX4, .code yX4_within cX4_within 3 (some .boolean)])
def wsX4_cut : List Cond := .code yX4_cut cX4_cut 4 (some .int) :: ([.fieldLink RX4 37 "BallastLine" "freeAt" "[I", .methodLink RX4 183 yX4_isStretch, .static yX4_isStretch, .initialized RX4, .code yX4_isStretch cX4_isStretch 1 (some .boolean), .methodLink RX4 52 yX4_within, .static yX4_within, .code yX4_within cX4_within 3 (some .boolean), .methodLink RX4 186 yX4_isTemperature, .static yX4_isTemperature, .code yX4_isTemperature cX4_isTemperature 1 (some .boolean), .methodLink RX4 86 yX4_tell, .instanceMethod yX4_tell, .selects RX4 yX4_tell yX4_tell, .code yX4_tell cX4_tell 3 (some .int), .fieldLink RX4 48 "BallastLine" "latestTold" "J"] ++ wsX40)
def wsX4_pressOf : List Cond := .code yX4_pressOf cX4_pressOf 3 (some .int) :: ([.fieldLink RX4 37 "BallastLine" "freeAt" "[I"] ++ wsX40)
def wsX4_press : List Cond := .code yX4_press cX4_press 3 (some .int) :: ([.methodLink RX4 183 yX4_isStretch, .static yX4_isStretch, .initialized RX4, .code yX4_isStretch cX4_isStretch 1 (some .boolean), .methodLink RX4 52 yX4_within, .static yX4_within, .code yX4_within cX4_within 3 (some .boolean), .methodLink RX4 186 yX4_isTemperature, .static yX4_isTemperature, .code yX4_isTemperature cX4_isTemperature 1 (some .boolean), .methodLink RX4 189 yX4_pressOf, .instanceMethod yX4_pressOf, .selects RX4 yX4_pressOf yX4_pressOf, .code yX4_pressOf cX4_pressOf 3 (some .int), .fieldLink RX4 37 "BallastLine" "freeAt" "[I", .methodLink RX4 86 yX4_tell, .instanceMethod yX4_tell, .selects RX4 yX4_tell yX4_tell, .code yX4_tell cX4_tell 3 (some .int), .fieldLink RX4 48 "BallastLine" "latestTold" "J"] ++ wsX40)
def wsX4_margin_r1 : List Cond := [Cond.fieldLink RX4 10 "BallastLine" "track" "LBallastLine$Track;", Cond.constantLong RX4 198 (9000), Cond.constantLong RX4 200 (300), Cond.constantLong RX4 202 (60), Cond.methodLink RX4 183 yX4_isStretch, Cond.static yX4_isStretch, Cond.initialized RX4, Cond.code yX4_isStretch cX4_isStretch 1 (some .boolean), Cond.methodLink RX4 52 yX4_within, Cond.static yX4_within, Cond.code yX4_within cX4_within 3 (some .boolean), Cond.methodLink RX4 186 yX4_isTemperature, Cond.static yX4_isTemperature, Cond.code yX4_isTemperature cX4_isTemperature 1 (some .boolean), Cond.instanceMethod yX1_standing, Cond.initialized RX1, Cond.selects RX1 yX1_standing yX1_standing, Cond.code yX1_standing cX1_standing 5 (some .int), Cond.methodLink RX1 64 yX1_stands, Cond.instanceMethod yX1_stands, Cond.selects RX1 yX1_stands yX1_stands, Cond.code yX1_stands cX1_stands 2 (some .boolean), Cond.fieldLink RX1 29 "BallastLine$Track" "lost" "[Z", Cond.methodLink RX1 48 yX1_has]
def wsX4_margin_r2 : List Cond := [Cond.instanceMethod yX1_has, Cond.selects RX1 yX1_has yX1_has, Cond.code yX1_has cX1_has 2 (some .boolean), Cond.fieldLink RX1 40 "BallastLine$Track" "size" "I", Cond.methodLink RX4 75 yX4_found, Cond.instanceMethod yX4_found, Cond.selects RX4 yX4_found yX4_found, Cond.code yX4_found cX4_found 2 (some .int), Cond.fieldLink RX4 44 "BallastLine" "latestFinding" "I", Cond.fieldLink RX4 41 "BallastLine" "findingCounts" "[I", Cond.instanceMethod yX1_sumOfStones, Cond.selects RX1 yX1_sumOfStones yX1_sumOfStones, Cond.code yX1_sumOfStones cX1_sumOfStones 5 (some .int), Cond.fieldLink RX1 20 "BallastLine$Track" "firmness" "[I", Cond.methodLink RX4 195 yX4_cutShare, Cond.static yX4_cutShare, Cond.code yX4_cutShare cX4_cutShare 2 (some .int), Cond.instanceMethod yX1_greatestChord, Cond.selects RX1 yX1_greatestChord yX1_greatestChord, Cond.code yX1_greatestChord cX1_greatestChord 5 (some .int), Cond.methodLink RX1 89 Lib.Math.abs.name, Cond.static Lib.Math.abs.name, Cond.initialized "java/lang/Math", Cond.code Lib.Math.abs.name Lib.Math.abs.code 1 (some .int)]
def wsX4_margin_r3 : List Cond := [Cond.methodLink RX1 61 Lib.Math.max.name, Cond.static Lib.Math.max.name, Cond.code Lib.Math.max.name Lib.Math.max.code 2 (some .int), Cond.methodLink RX1 86 yX1_chord, Cond.instanceMethod yX1_chord, Cond.selects RX1 yX1_chord yX1_chord, Cond.code yX1_chord cX1_chord 3 (some .int), Cond.methodLink RX1 79 yX1_height, Cond.instanceMethod yX1_height, Cond.selects RX1 yX1_height yX1_height, Cond.code yX1_height cX1_height 6 (some .int), Cond.fieldLink RX1 17 "BallastLine$Track" "beds" "[I", Cond.constant RX1 67 (-2147483648), Cond.methodLink RX1 55 Lib.Math.min.name, Cond.static Lib.Math.min.name, Cond.code Lib.Math.min.name Lib.Math.min.code 2 (some .int), Cond.methodLink RX1 68 yX1_lineAt, Cond.instanceMethod yX1_lineAt, Cond.selects RX1 yX1_lineAt yX1_lineAt, Cond.code yX1_lineAt cX1_lineAt 4 (some .int), Cond.static yX4_floorShare, Cond.code yX4_floorShare cX4_floorShare 2 (some .int), Cond.methodLink RX4 237 yJ9_floorDiv_7cf53, Cond.static yJ9_floorDiv_7cf53]
def wsX4_margin_r4 : List Cond := [Cond.initialized RJ9, Cond.code yJ9_floorDiv_7cf53 cJ9_floorDiv_7cf53 3 (some .int), Cond.methodLink RX1 72 yX1_nearestBed, Cond.instanceMethod yX1_nearestBed, Cond.selects RX1 yX1_nearestBed yX1_nearestBed, Cond.code yX1_nearestBed cX1_nearestBed 3 (some .int), Cond.methodLink RX4 189 yX4_pressOf, Cond.instanceMethod yX4_pressOf, Cond.selects RX4 yX4_pressOf yX4_pressOf, Cond.code yX4_pressOf cX4_pressOf 3 (some .int), Cond.fieldLink RX4 37 "BallastLine" "freeAt" "[I", Cond.methodLink RX4 86 yX4_tell, Cond.instanceMethod yX4_tell, Cond.selects RX4 yX4_tell yX4_tell, Cond.code yX4_tell cX4_tell 3 (some .int), Cond.fieldLink RX4 48 "BallastLine" "latestTold" "J"]
def wsX4_margin : List Cond := .code yX4_margin cX4_margin 10 (some .int) :: ((wsX4_margin_r1 ++ (wsX4_margin_r2 ++ (wsX4_margin_r3 ++ wsX4_margin_r4))) ++ wsX40 ++ wsX10)
def wsX4_work : List Cond := .code yX4_work cX4_work 3 (some .int) :: ([.fieldLink RX4 33 "BallastLine" "works" "LBallastLine$Works;", .methodLink RX4 52 yX4_within, .static yX4_within, .initialized RX4, .code yX4_within cX4_within 3 (some .boolean), .instanceMethod yX3_add, .initialized RX3, .selects RX3 yX3_add yX3_add, .code yX3_add cX3_add 5 (some .int), .fieldLink RX3 27 "BallastLine$Works" "size" "I", .fieldLink RX3 9 "BallastLine$Works" "costs" "[I", .fieldLink RX3 15 "BallastLine$Works" "gains" "[I", .fieldLink RX3 18 "BallastLine$Works" "costsBelow" "[I", .fieldLink RX3 21 "BallastLine$Works" "gainsBelow" "[I", .fieldLink RX3 24 "BallastLine$Works" "order" "[I", .methodLink RX3 31 yX3_isWorse, .instanceMethod yX3_isWorse, .selects RX3 yX3_isWorse yX3_isWorse, .code yX3_isWorse cX3_isWorse 3 (some .boolean)] ++ wsX40 ++ wsX30)
def wsX4_best_r1 : List Cond := [Cond.fieldLink RX4 33 "BallastLine" "works" "LBallastLine$Works;", Cond.methodLink RX4 52 yX4_within, Cond.static yX4_within, Cond.initialized RX4, Cond.code yX4_within cX4_within 3 (some .boolean), Cond.instanceMethod yX3_bestSet, Cond.initialized RX3, Cond.selects RX3 yX3_bestSet yX3_bestSet, Cond.code yX3_bestSet cX3_bestSet 9 (some .int), Cond.fieldLink RX3 27 "BallastLine$Works" "size" "I", Cond.fieldLink RX3 9 "BallastLine$Works" "costs" "[I", Cond.fieldLink RX3 18 "BallastLine$Works" "costsBelow" "[I", Cond.fieldLink RX3 15 "BallastLine$Works" "gains" "[I", Cond.fieldLink RX3 21 "BallastLine$Works" "gainsBelow" "[I", Cond.methodLink RX3 35 yJ6_bitCount_0f7a4, Cond.static yJ6_bitCount_0f7a4, Cond.initialized RJ6, Cond.code yJ6_bitCount_0f7a4 cJ6_bitCount_0f7a4 1 (some .int), Cond.constant RJ6 265 (1431655765), Cond.constant RJ6 266 (858993459), Cond.constant RJ6 267 (252645135), Cond.methodLink RX4 86 yX4_tell, Cond.instanceMethod yX4_tell, Cond.selects RX4 yX4_tell yX4_tell]
def wsX4_best_r2 : List Cond := [Cond.code yX4_tell cX4_tell 3 (some .int), Cond.fieldLink RX4 48 "BallastLine" "latestTold" "J", Cond.instanceMethod yX3_gainOf, Cond.selects RX3 yX3_gainOf yX3_gainOf, Cond.code yX3_gainOf cX3_gainOf 4 (some .int)]
def wsX4_best : List Cond := .code yX4_best cX4_best 3 (some .int) :: ((wsX4_best_r1 ++ wsX4_best_r2) ++ wsX40 ++ wsX30)
def wsX4_first : List Cond := .code yX4_first cX4_first 3 (some .int) :: ([.fieldLink RX4 33 "BallastLine" "works" "LBallastLine$Works;", .methodLink RX4 52 yX4_within, .static yX4_within, .initialized RX4, .code yX4_within cX4_within 3 (some .boolean), .instanceMethod yX3_worstFirst, .initialized RX3, .selects RX3 yX3_worstFirst yX3_worstFirst, .code yX3_worstFirst cX3_worstFirst 6 (some .int), .fieldLink RX3 27 "BallastLine$Works" "size" "I", .fieldLink RX3 24 "BallastLine$Works" "order" "[I", .fieldLink RX3 9 "BallastLine$Works" "costs" "[I", .methodLink RX4 86 yX4_tell, .instanceMethod yX4_tell, .selects RX4 yX4_tell yX4_tell, .code yX4_tell cX4_tell 3 (some .int), .fieldLink RX4 48 "BallastLine" "latestTold" "J", .instanceMethod yX3_gainOf, .selects RX3 yX3_gainOf yX3_gainOf, .code yX3_gainOf cX3_gainOf 4 (some .int), .fieldLink RX3 15 "BallastLine$Works" "gains" "[I"] ++ wsX40 ++ wsX30)
def wsX4_asked : List Cond := .code yX4_asked cX4_asked 1 (some .long) :: ([.fieldLink RX4 48 "BallastLine" "latestTold" "J"] ++ wsX40)
def wsX4_count_r1 : List Cond := [Cond.fieldLink RX4 10 "BallastLine" "track" "LBallastLine$Track;", Cond.fieldLink RX4 19 "BallastLine" "train" "LBallastLine$Train;", Cond.fieldLink RX4 26 "BallastLine" "runs" "LBallastLine$Runs;", Cond.fieldLink RX4 33 "BallastLine" "works" "LBallastLine$Works;", Cond.instanceMethod yX1_standing, Cond.initialized RX1, Cond.selects RX1 yX1_standing yX1_standing, Cond.code yX1_standing cX1_standing 5 (some .int), Cond.methodLink RX1 64 yX1_stands, Cond.instanceMethod yX1_stands, Cond.selects RX1 yX1_stands yX1_stands, Cond.code yX1_stands cX1_stands 2 (some .boolean), Cond.fieldLink RX1 29 "BallastLine$Track" "lost" "[Z", Cond.methodLink RX1 48 yX1_has, Cond.instanceMethod yX1_has, Cond.selects RX1 yX1_has yX1_has, Cond.code yX1_has cX1_has 2 (some .boolean), Cond.fieldLink RX1 40 "BallastLine$Track" "size" "I", Cond.static yX4_within, Cond.initialized RX4, Cond.code yX4_within cX4_within 3 (some .boolean), Cond.instanceMethod yX0_howMany, Cond.initialized RX0, Cond.selects RX0 yX0_howMany yX0_howMany]
def wsX4_count_r2 : List Cond := [Cond.code yX0_howMany cX0_howMany 3 (some .int), Cond.fieldLink RX0 16 "BallastLine$Runs" "there" "[Z"]
def wsX4_count : List Cond := .code yX4_count cX4_count 2 (some .int) :: ((wsX4_count_r1 ++ wsX4_count_r2) ++ wsX40 ++ wsX10 ++ wsX20 ++ wsX30 ++ wsX00)
def wsX4_finding : List Cond := .code yX4_finding cX4_finding 1 (some .int) :: ([.fieldLink RX4 44 "BallastLine" "latestFinding" "I"] ++ wsX40)
def wsX4_findings : List Cond := .code yX4_findings cX4_findings 2 (some .int) :: ([.fieldLink RX4 41 "BallastLine" "findingCounts" "[I", .methodLink RX4 52 yX4_within, .static yX4_within, .initialized RX4, .code yX4_within cX4_within 3 (some .boolean)] ++ wsX40)
def wsX4_digest_r1 : List Cond := [Cond.constantLong RX4 223 (17), Cond.constantLong RX4 225 (31), Cond.fieldLink RX4 10 "BallastLine" "track" "LBallastLine$Track;", Cond.fieldLink RX4 37 "BallastLine" "freeAt" "[I", Cond.fieldLink RX4 26 "BallastLine" "runs" "LBallastLine$Runs;", Cond.methodLink RX4 227 yX4_count, Cond.instanceMethod yX4_count, Cond.selects RX4 yX4_count yX4_count, Cond.initialized RX4, Cond.code yX4_count cX4_count 2 (some .int), Cond.fieldLink RX4 19 "BallastLine" "train" "LBallastLine$Train;", Cond.fieldLink RX4 33 "BallastLine" "works" "LBallastLine$Works;", Cond.instanceMethod yX1_standing, Cond.initialized RX1, Cond.selects RX1 yX1_standing yX1_standing, Cond.code yX1_standing cX1_standing 5 (some .int), Cond.methodLink RX1 64 yX1_stands, Cond.instanceMethod yX1_stands, Cond.selects RX1 yX1_stands yX1_stands, Cond.code yX1_stands cX1_stands 2 (some .boolean), Cond.fieldLink RX1 29 "BallastLine$Track" "lost" "[Z", Cond.methodLink RX1 48 yX1_has, Cond.instanceMethod yX1_has, Cond.selects RX1 yX1_has yX1_has]
def wsX4_digest_r2 : List Cond := [Cond.code yX1_has cX1_has 2 (some .boolean), Cond.fieldLink RX1 40 "BallastLine$Track" "size" "I", Cond.static yX4_within, Cond.code yX4_within cX4_within 3 (some .boolean), Cond.instanceMethod yX0_howMany, Cond.initialized RX0, Cond.selects RX0 yX0_howMany yX0_howMany, Cond.code yX0_howMany cX0_howMany 3 (some .int), Cond.fieldLink RX0 16 "BallastLine$Runs" "there" "[Z", Cond.methodLink RX4 230 yX4_told, Cond.instanceMethod yX4_told, Cond.selects RX4 yX4_told yX4_told, Cond.code yX4_told cX4_told 3 (some .int), Cond.instanceMethod yX0_digestOn, Cond.selects RX0 yX0_digestOn yX0_digestOn, Cond.code yX0_digestOn cX0_digestOn 7 (some .long), Cond.constantLong RX0 34 (31), Cond.fieldLink RX0 11 "BallastLine$Runs" "rows" "[[I"]
def wsX4_digest : List Cond := .code yX4_digest cX4_digest 5 (some .long) :: ((wsX4_digest_r1 ++ wsX4_digest_r2) ++ wsX40 ++ wsX10 ++ wsX20 ++ wsX30 ++ wsX00)
def wsX5_in : List Cond := .code yX5_in cX5_in 3 (some .boolean) :: ([])
def wsX5_line : List Cond := .code yX5_line cX5_line 3 (some .int) :: ([.fieldLink RX5 72 "BallastLineModel" "many" "I", .fieldLink RX5 13 "BallastLineModel" "kinds" "[I", .fieldLink RX5 16 "BallastLineModel" "beds" "[I", .fieldLink RX5 19 "BallastLineModel" "stones" "[I", .fieldLink RX5 22 "BallastLineModel" "hundredths" "[I", .fieldLink RX5 25 "BallastLineModel" "jolts" "[I", .fieldLink RX5 28 "BallastLineModel" "isLost" "[Z", .methodLink RX5 68 yX5_in, .static yX5_in, .initialized RX5, .code yX5_in cX5_in 3 (some .boolean)] ++ wsX50)
def wsX5_init_r1 : List Cond := [Cond.methodLink RX5 1 objectInit, Cond.instanceMethod objectInit, Cond.code objectInit ⟨#[0xb1]⟩ 1 none, Cond.arrayClass .int, Cond.fieldLink RX5 7 "BallastLineModel" "findings" "[I", Cond.fieldLink RX5 13 "BallastLineModel" "kinds" "[I", Cond.fieldLink RX5 16 "BallastLineModel" "beds" "[I", Cond.fieldLink RX5 19 "BallastLineModel" "stones" "[I", Cond.fieldLink RX5 22 "BallastLineModel" "hundredths" "[I", Cond.fieldLink RX5 25 "BallastLineModel" "jolts" "[I", Cond.arrayClass .boolean, Cond.fieldLink RX5 28 "BallastLineModel" "isLost" "[Z", Cond.fieldLink RX5 32 "BallastLineModel" "free" "[I", Cond.fieldLink RX5 35 "BallastLineModel" "weights" "[I", Cond.fieldLink RX5 38 "BallastLineModel" "table" "[I", Cond.fieldLink RX5 41 "BallastLineModel" "isRun" "[Z", Cond.fieldLink RX5 44 "BallastLineModel" "runs" "[I", Cond.fieldLink RX5 47 "BallastLineModel" "moving" "[I", Cond.fieldLink RX5 50 "BallastLineModel" "costs" "[I", Cond.fieldLink RX5 53 "BallastLineModel" "gains" "[I", Cond.methodLink RX5 56 yX5_line, Cond.instanceMethod yX5_line, Cond.selects RX5 yX5_line yX5_line, Cond.initialized RX5]
def wsX5_init_r2 : List Cond := [Cond.code yX5_line cX5_line 3 (some .int), Cond.fieldLink RX5 72 "BallastLineModel" "many" "I", Cond.methodLink RX5 68 yX5_in, Cond.static yX5_in, Cond.code yX5_in cX5_in 3 (some .boolean)]
def wsX5_init : List Cond := .code yX5_init cX5_init 2 none :: ((wsX5_init_r1 ++ wsX5_init_r2) ++ wsX50)
def wsX5_meets : List Cond := .code yX5_meets cX5_meets 2 (some .int) :: ([.fieldLink RX5 60 "BallastLineModel" "finding" "I", .fieldLink RX5 7 "BallastLineModel" "findings" "[I"] ++ wsX50)
def wsX5_tell : List Cond := .code yX5_tell cX5_tell 4 (some .int) :: ([.fieldLink RX5 64 "BallastLineModel" "asked" "J"] ++ wsX50)
def wsX5_isSleeper : List Cond := .code yX5_isSleeper cX5_isSleeper 2 (some .boolean) :: ([.fieldLink RX5 72 "BallastLineModel" "many" "I", .methodLink RX5 68 yX5_in, .static yX5_in, .initialized RX5, .code yX5_in cX5_in 3 (some .boolean)] ++ wsX50)
def wsX5_looked : List Cond := .code yX5_looked cX5_looked 2 (some .int) :: ([.fieldLink RX5 28 "BallastLineModel" "isLost" "[Z", .methodLink RX5 75 yX5_isSleeper, .instanceMethod yX5_isSleeper, .selects RX5 yX5_isSleeper yX5_isSleeper, .initialized RX5, .code yX5_isSleeper cX5_isSleeper 2 (some .boolean), .fieldLink RX5 72 "BallastLineModel" "many" "I", .methodLink RX5 68 yX5_in, .static yX5_in, .code yX5_in cX5_in 3 (some .boolean), .methodLink RX5 79 yX5_meets, .instanceMethod yX5_meets, .selects RX5 yX5_meets yX5_meets, .code yX5_meets cX5_meets 2 (some .int), .fieldLink RX5 60 "BallastLineModel" "finding" "I", .fieldLink RX5 7 "BallastLineModel" "findings" "[I"] ++ wsX50)
def wsX5_sleeper : List Cond := .code yX5_sleeper cX5_sleeper 4 (some .int) :: ([.fieldLink RX5 13 "BallastLineModel" "kinds" "[I", .fieldLink RX5 28 "BallastLineModel" "isLost" "[Z", .methodLink RX5 75 yX5_isSleeper, .instanceMethod yX5_isSleeper, .selects RX5 yX5_isSleeper yX5_isSleeper, .initialized RX5, .code yX5_isSleeper cX5_isSleeper 2 (some .boolean), .fieldLink RX5 72 "BallastLineModel" "many" "I", .methodLink RX5 68 yX5_in, .static yX5_in, .code yX5_in cX5_in 3 (some .boolean)] ++ wsX50)
def wsX5_lose : List Cond := .code yX5_lose cX5_lose 4 (some .int) :: ([.fieldLink RX5 28 "BallastLineModel" "isLost" "[Z", .methodLink RX5 75 yX5_isSleeper, .instanceMethod yX5_isSleeper, .selects RX5 yX5_isSleeper yX5_isSleeper, .initialized RX5, .code yX5_isSleeper cX5_isSleeper 2 (some .boolean), .fieldLink RX5 72 "BallastLineModel" "many" "I", .methodLink RX5 68 yX5_in, .static yX5_in, .code yX5_in cX5_in 3 (some .boolean)] ++ wsX50)
def wsX5_bed : List Cond := .code yX5_bed cX5_bed 4 (some .int) :: ([.fieldLink RX5 16 "BallastLineModel" "beds" "[I", .fieldLink RX5 64 "BallastLineModel" "asked" "J", .methodLink RX5 68 yX5_in, .static yX5_in, .initialized RX5, .code yX5_in cX5_in 3 (some .boolean), .methodLink RX5 82 yX5_looked, .instanceMethod yX5_looked, .selects RX5 yX5_looked yX5_looked, .code yX5_looked cX5_looked 2 (some .int), .fieldLink RX5 28 "BallastLineModel" "isLost" "[Z", .methodLink RX5 75 yX5_isSleeper, .instanceMethod yX5_isSleeper, .selects RX5 yX5_isSleeper yX5_isSleeper, .code yX5_isSleeper cX5_isSleeper 2 (some .boolean), .fieldLink RX5 72 "BallastLineModel" "many" "I", .methodLink RX5 79 yX5_meets, .instanceMethod yX5_meets, .selects RX5 yX5_meets yX5_meets, .code yX5_meets cX5_meets 2 (some .int), .fieldLink RX5 60 "BallastLineModel" "finding" "I", .fieldLink RX5 7 "BallastLineModel" "findings" "[I"] ++ wsX50)
def wsX5_stones : List Cond := .code yX5_stones cX5_stones 5 (some .int) :: ([.fieldLink RX5 19 "BallastLineModel" "stones" "[I", .methodLink RX5 68 yX5_in, .static yX5_in, .initialized RX5, .code yX5_in cX5_in 3 (some .boolean), .methodLink RX5 82 yX5_looked, .instanceMethod yX5_looked, .selects RX5 yX5_looked yX5_looked, .code yX5_looked cX5_looked 2 (some .int), .fieldLink RX5 28 "BallastLineModel" "isLost" "[Z", .methodLink RX5 75 yX5_isSleeper, .instanceMethod yX5_isSleeper, .selects RX5 yX5_isSleeper yX5_isSleeper, .code yX5_isSleeper cX5_isSleeper 2 (some .boolean), .fieldLink RX5 72 "BallastLineModel" "many" "I", .methodLink RX5 79 yX5_meets, .instanceMethod yX5_meets, .selects RX5 yX5_meets yX5_meets, .code yX5_meets cX5_meets 2 (some .int), .fieldLink RX5 60 "BallastLineModel" "finding" "I", .fieldLink RX5 7 "BallastLineModel" "findings" "[I"] ++ wsX50)
def wsX5_tells : List Cond := .code yX5_tells cX5_tells 3 (some .int) :: ([.fieldLink RX5 13 "BallastLineModel" "kinds" "[I", .fieldLink RX5 19 "BallastLineModel" "stones" "[I", .fieldLink RX5 22 "BallastLineModel" "hundredths" "[I", .fieldLink RX5 28 "BallastLineModel" "isLost" "[Z"] ++ wsX50)
def wsX5_told : List Cond := .code yX5_told cX5_told 3 (some .int) :: ([.methodLink RX5 75 yX5_isSleeper, .instanceMethod yX5_isSleeper, .selects RX5 yX5_isSleeper yX5_isSleeper, .initialized RX5, .code yX5_isSleeper cX5_isSleeper 2 (some .boolean), .fieldLink RX5 72 "BallastLineModel" "many" "I", .methodLink RX5 68 yX5_in, .static yX5_in, .code yX5_in cX5_in 3 (some .boolean), .methodLink RX5 85 yX5_tells, .instanceMethod yX5_tells, .selects RX5 yX5_tells yX5_tells, .code yX5_tells cX5_tells 3 (some .int), .fieldLink RX5 13 "BallastLineModel" "kinds" "[I", .fieldLink RX5 19 "BallastLineModel" "stones" "[I", .fieldLink RX5 22 "BallastLineModel" "hundredths" "[I", .fieldLink RX5 28 "BallastLineModel" "isLost" "[Z"] ++ wsX50)
def wsX5_mark : List Cond := .code yX5_mark cX5_mark 4 (some .int) :: ([.fieldLink RX5 13 "BallastLineModel" "kinds" "[I", .fieldLink RX5 22 "BallastLineModel" "hundredths" "[I", .fieldLink RX5 19 "BallastLineModel" "stones" "[I", .fieldLink RX5 25 "BallastLineModel" "jolts" "[I", .methodLink RX5 68 yX5_in, .static yX5_in, .initialized RX5, .code yX5_in cX5_in 3 (some .boolean), .methodLink RX5 82 yX5_looked, .instanceMethod yX5_looked, .selects RX5 yX5_looked yX5_looked, .code yX5_looked cX5_looked 2 (some .int), .fieldLink RX5 28 "BallastLineModel" "isLost" "[Z", .methodLink RX5 75 yX5_isSleeper, .instanceMethod yX5_isSleeper, .selects RX5 yX5_isSleeper yX5_isSleeper, .code yX5_isSleeper cX5_isSleeper 2 (some .boolean), .fieldLink RX5 72 "BallastLineModel" "many" "I", .methodLink RX5 79 yX5_meets, .instanceMethod yX5_meets, .selects RX5 yX5_meets yX5_meets, .code yX5_meets cX5_meets 2 (some .int), .fieldLink RX5 60 "BallastLineModel" "finding" "I", .fieldLink RX5 7 "BallastLineModel" "findings" "[I"] ++ wsX50)
def wsX5_floor : List Cond := .code yX5_floor cX5_floor 5 (some .int) :: ([])
def wsX5_railAt : List Cond := .code yX5_railAt cX5_railAt 7 (some .int) :: ([.fieldLink RX5 72 "BallastLineModel" "many" "I", .fieldLink RX5 28 "BallastLineModel" "isLost" "[Z", .fieldLink RX5 16 "BallastLineModel" "beds" "[I", .methodLink RX5 89 yX5_floor, .static yX5_floor, .initialized RX5, .code yX5_floor cX5_floor 5 (some .int), .methodLink RX5 75 yX5_isSleeper, .instanceMethod yX5_isSleeper, .selects RX5 yX5_isSleeper yX5_isSleeper, .code yX5_isSleeper cX5_isSleeper 2 (some .boolean), .methodLink RX5 68 yX5_in, .static yX5_in, .code yX5_in cX5_in 3 (some .boolean)] ++ wsX50)
def wsX5_rail : List Cond := .code yX5_rail cX5_rail 2 (some .int) :: ([.methodLink RX5 75 yX5_isSleeper, .instanceMethod yX5_isSleeper, .selects RX5 yX5_isSleeper yX5_isSleeper, .initialized RX5, .code yX5_isSleeper cX5_isSleeper 2 (some .boolean), .fieldLink RX5 72 "BallastLineModel" "many" "I", .methodLink RX5 68 yX5_in, .static yX5_in, .code yX5_in cX5_in 3 (some .boolean), .methodLink RX5 93 yX5_railAt, .instanceMethod yX5_railAt, .selects RX5 yX5_railAt yX5_railAt, .code yX5_railAt cX5_railAt 7 (some .int), .fieldLink RX5 28 "BallastLineModel" "isLost" "[Z", .fieldLink RX5 16 "BallastLineModel" "beds" "[I", .methodLink RX5 89 yX5_floor, .static yX5_floor, .code yX5_floor cX5_floor 5 (some .int), .methodLink RX5 96 yX5_tell, .instanceMethod yX5_tell, .selects RX5 yX5_tell yX5_tell, .code yX5_tell cX5_tell 4 (some .int), .fieldLink RX5 64 "BallastLineModel" "asked" "J"] ++ wsX50)
def wsX5_gap_r1 : List Cond := [Cond.fieldLink RX5 16 "BallastLineModel" "beds" "[I", Cond.methodLink RX5 82 yX5_looked, Cond.instanceMethod yX5_looked, Cond.selects RX5 yX5_looked yX5_looked, Cond.initialized RX5, Cond.code yX5_looked cX5_looked 2 (some .int), Cond.fieldLink RX5 28 "BallastLineModel" "isLost" "[Z", Cond.methodLink RX5 75 yX5_isSleeper, Cond.instanceMethod yX5_isSleeper, Cond.selects RX5 yX5_isSleeper yX5_isSleeper, Cond.code yX5_isSleeper cX5_isSleeper 2 (some .boolean), Cond.fieldLink RX5 72 "BallastLineModel" "many" "I", Cond.methodLink RX5 68 yX5_in, Cond.static yX5_in, Cond.code yX5_in cX5_in 3 (some .boolean), Cond.methodLink RX5 79 yX5_meets, Cond.instanceMethod yX5_meets, Cond.selects RX5 yX5_meets yX5_meets, Cond.code yX5_meets cX5_meets 2 (some .int), Cond.fieldLink RX5 60 "BallastLineModel" "finding" "I", Cond.fieldLink RX5 7 "BallastLineModel" "findings" "[I", Cond.methodLink RX5 93 yX5_railAt, Cond.instanceMethod yX5_railAt, Cond.selects RX5 yX5_railAt yX5_railAt]
def wsX5_gap_r2 : List Cond := [Cond.code yX5_railAt cX5_railAt 7 (some .int), Cond.methodLink RX5 89 yX5_floor, Cond.static yX5_floor, Cond.code yX5_floor cX5_floor 5 (some .int)]
def wsX5_gap : List Cond := .code yX5_gap cX5_gap 3 (some .int) :: ((wsX5_gap_r1 ++ wsX5_gap_r2) ++ wsX50)
def wsX5_axle : List Cond := .code yX5_axle cX5_axle 2 (some .int) :: ([.fieldLink RX5 99 "BallastLineModel" "axles" "I", .fieldLink RX5 35 "BallastLineModel" "weights" "[I", .methodLink RX5 68 yX5_in, .static yX5_in, .initialized RX5, .code yX5_in cX5_in 3 (some .boolean)] ++ wsX50)
def wsX5_uncouple : List Cond := .code yX5_uncouple cX5_uncouple 2 (some .int) :: ([.fieldLink RX5 99 "BallastLineModel" "axles" "I"] ++ wsX50)
def wsX5_table : List Cond := .code yX5_table cX5_table 4 (some .int) :: ([.fieldLink RX5 38 "BallastLineModel" "table" "[I", .methodLink RX5 68 yX5_in, .static yX5_in, .initialized RX5, .code yX5_in cX5_in 3 (some .boolean)] ++ wsX50)
def wsX5_bears : List Cond := .code yX5_bears cX5_bears 2 (some .boolean) :: ([.fieldLink RX5 28 "BallastLineModel" "isLost" "[Z", .fieldLink RX5 16 "BallastLineModel" "beds" "[I", .methodLink RX5 75 yX5_isSleeper, .instanceMethod yX5_isSleeper, .selects RX5 yX5_isSleeper yX5_isSleeper, .initialized RX5, .code yX5_isSleeper cX5_isSleeper 2 (some .boolean), .fieldLink RX5 72 "BallastLineModel" "many" "I", .methodLink RX5 68 yX5_in, .static yX5_in, .code yX5_in cX5_in 3 (some .boolean), .methodLink RX5 93 yX5_railAt, .instanceMethod yX5_railAt, .selects RX5 yX5_railAt yX5_railAt, .code yX5_railAt cX5_railAt 7 (some .int), .methodLink RX5 89 yX5_floor, .static yX5_floor, .code yX5_floor cX5_floor 5 (some .int)] ++ wsX50)
def wsX5_sink : List Cond := .code yX5_sink cX5_sink 6 (some .int) :: ([.fieldLink RX5 19 "BallastLineModel" "stones" "[I", .fieldLink RX5 38 "BallastLineModel" "table" "[I", .fieldLink RX5 13 "BallastLineModel" "kinds" "[I", .fieldLink RX5 22 "BallastLineModel" "hundredths" "[I", .fieldLink RX5 16 "BallastLineModel" "beds" "[I"] ++ wsX50)
def wsX5_rolls_r1 : List Cond := [Cond.fieldLink RX5 13 "BallastLineModel" "kinds" "[I", Cond.fieldLink RX5 28 "BallastLineModel" "isLost" "[Z", Cond.fieldLink RX5 25 "BallastLineModel" "jolts" "[I", Cond.methodLink RX5 102 yX5_bears, Cond.instanceMethod yX5_bears, Cond.selects RX5 yX5_bears yX5_bears, Cond.initialized RX5, Cond.code yX5_bears cX5_bears 2 (some .boolean), Cond.fieldLink RX5 16 "BallastLineModel" "beds" "[I", Cond.methodLink RX5 75 yX5_isSleeper, Cond.instanceMethod yX5_isSleeper, Cond.selects RX5 yX5_isSleeper yX5_isSleeper, Cond.code yX5_isSleeper cX5_isSleeper 2 (some .boolean), Cond.fieldLink RX5 72 "BallastLineModel" "many" "I", Cond.methodLink RX5 68 yX5_in, Cond.static yX5_in, Cond.code yX5_in cX5_in 3 (some .boolean), Cond.methodLink RX5 93 yX5_railAt, Cond.instanceMethod yX5_railAt, Cond.selects RX5 yX5_railAt yX5_railAt, Cond.code yX5_railAt cX5_railAt 7 (some .int), Cond.methodLink RX5 89 yX5_floor, Cond.static yX5_floor, Cond.code yX5_floor cX5_floor 5 (some .int)]
def wsX5_rolls_r2 : List Cond := [Cond.methodLink RX5 105 yX5_sink, Cond.instanceMethod yX5_sink, Cond.selects RX5 yX5_sink yX5_sink, Cond.code yX5_sink cX5_sink 6 (some .int), Cond.fieldLink RX5 19 "BallastLineModel" "stones" "[I", Cond.fieldLink RX5 38 "BallastLineModel" "table" "[I", Cond.fieldLink RX5 22 "BallastLineModel" "hundredths" "[I"]
def wsX5_rolls : List Cond := .code yX5_rolls cX5_rolls 10 (some .int) :: ((wsX5_rolls_r1 ++ wsX5_rolls_r2) ++ wsX50)
def wsX5_pass_r1 : List Cond := [Cond.fieldLink RX5 99 "BallastLineModel" "axles" "I", Cond.fieldLink RX5 72 "BallastLineModel" "many" "I", Cond.fieldLink RX5 35 "BallastLineModel" "weights" "[I", Cond.methodLink RX5 68 yX5_in, Cond.static yX5_in, Cond.initialized RX5, Cond.code yX5_in cX5_in 3 (some .boolean), Cond.methodLink RX5 108 yX5_rolls, Cond.instanceMethod yX5_rolls, Cond.selects RX5 yX5_rolls yX5_rolls, Cond.code yX5_rolls cX5_rolls 10 (some .int), Cond.fieldLink RX5 13 "BallastLineModel" "kinds" "[I", Cond.fieldLink RX5 28 "BallastLineModel" "isLost" "[Z", Cond.fieldLink RX5 25 "BallastLineModel" "jolts" "[I", Cond.methodLink RX5 102 yX5_bears, Cond.instanceMethod yX5_bears, Cond.selects RX5 yX5_bears yX5_bears, Cond.code yX5_bears cX5_bears 2 (some .boolean), Cond.fieldLink RX5 16 "BallastLineModel" "beds" "[I", Cond.methodLink RX5 75 yX5_isSleeper, Cond.instanceMethod yX5_isSleeper, Cond.selects RX5 yX5_isSleeper yX5_isSleeper, Cond.code yX5_isSleeper cX5_isSleeper 2 (some .boolean), Cond.methodLink RX5 93 yX5_railAt]
def wsX5_pass_r2 : List Cond := [Cond.instanceMethod yX5_railAt, Cond.selects RX5 yX5_railAt yX5_railAt, Cond.code yX5_railAt cX5_railAt 7 (some .int), Cond.methodLink RX5 89 yX5_floor, Cond.static yX5_floor, Cond.code yX5_floor cX5_floor 5 (some .int), Cond.methodLink RX5 105 yX5_sink, Cond.instanceMethod yX5_sink, Cond.selects RX5 yX5_sink yX5_sink, Cond.code yX5_sink cX5_sink 6 (some .int), Cond.fieldLink RX5 19 "BallastLineModel" "stones" "[I", Cond.fieldLink RX5 38 "BallastLineModel" "table" "[I", Cond.fieldLink RX5 22 "BallastLineModel" "hundredths" "[I"]
def wsX5_pass : List Cond := .code yX5_pass cX5_pass 6 (some .int) :: ((wsX5_pass_r1 ++ wsX5_pass_r2) ++ wsX50)
def wsX5_mean : List Cond := .code yX5_mean cX5_mean 5 (some .int) :: ([.fieldLink RX5 72 "BallastLineModel" "many" "I", .fieldLink RX5 28 "BallastLineModel" "isLost" "[Z", .fieldLink RX5 16 "BallastLineModel" "beds" "[I", .methodLink RX5 79 yX5_meets, .instanceMethod yX5_meets, .selects RX5 yX5_meets yX5_meets, .initialized RX5, .code yX5_meets cX5_meets 2 (some .int), .fieldLink RX5 60 "BallastLineModel" "finding" "I", .fieldLink RX5 7 "BallastLineModel" "findings" "[I", .methodLink RX5 89 yX5_floor, .static yX5_floor, .code yX5_floor cX5_floor 5 (some .int), .methodLink RX5 96 yX5_tell, .instanceMethod yX5_tell, .selects RX5 yX5_tell yX5_tell, .code yX5_tell cX5_tell 4 (some .int), .fieldLink RX5 64 "BallastLineModel" "asked" "J"] ++ wsX50)
def wsX5_lift : List Cond := .code yX5_lift cX5_lift 6 (some .int) :: ([.fieldLink RX5 28 "BallastLineModel" "isLost" "[Z", .fieldLink RX5 16 "BallastLineModel" "beds" "[I", .fieldLink RX5 22 "BallastLineModel" "hundredths" "[I", .fieldLink RX5 19 "BallastLineModel" "stones" "[I", .methodLink RX5 75 yX5_isSleeper, .instanceMethod yX5_isSleeper, .selects RX5 yX5_isSleeper yX5_isSleeper, .initialized RX5, .code yX5_isSleeper cX5_isSleeper 2 (some .boolean), .fieldLink RX5 72 "BallastLineModel" "many" "I", .methodLink RX5 68 yX5_in, .static yX5_in, .code yX5_in cX5_in 3 (some .boolean)] ++ wsX50)
def wsX5_isNumber : List Cond := .code yX5_isNumber cX5_isNumber 1 (some .boolean) :: ([.methodLink RX5 68 yX5_in, .static yX5_in, .initialized RX5, .code yX5_in cX5_in 3 (some .boolean)])
def wsX5_chordAt : List Cond := .code yX5_chordAt cX5_chordAt 3 (some .int) :: ([.methodLink RX5 75 yX5_isSleeper, .instanceMethod yX5_isSleeper, .selects RX5 yX5_isSleeper yX5_isSleeper, .initialized RX5, .code yX5_isSleeper cX5_isSleeper 2 (some .boolean), .fieldLink RX5 72 "BallastLineModel" "many" "I", .methodLink RX5 68 yX5_in, .static yX5_in, .code yX5_in cX5_in 3 (some .boolean), .methodLink RX5 93 yX5_railAt, .instanceMethod yX5_railAt, .selects RX5 yX5_railAt yX5_railAt, .code yX5_railAt cX5_railAt 7 (some .int), .fieldLink RX5 28 "BallastLineModel" "isLost" "[Z", .fieldLink RX5 16 "BallastLineModel" "beds" "[I", .methodLink RX5 89 yX5_floor, .static yX5_floor, .code yX5_floor cX5_floor 5 (some .int)] ++ wsX50)
def wsX5_measure_r1 : List Cond := [Cond.fieldLink RX5 41 "BallastLineModel" "isRun" "[Z", Cond.fieldLink RX5 44 "BallastLineModel" "runs" "[I", Cond.fieldLink RX5 72 "BallastLineModel" "many" "I", Cond.methodLink RX5 111 yX5_isNumber, Cond.static yX5_isNumber, Cond.initialized RX5, Cond.code yX5_isNumber cX5_isNumber 1 (some .boolean), Cond.methodLink RX5 68 yX5_in, Cond.static yX5_in, Cond.code yX5_in cX5_in 3 (some .boolean), Cond.methodLink RX5 114 yX5_chordAt, Cond.instanceMethod yX5_chordAt, Cond.selects RX5 yX5_chordAt yX5_chordAt, Cond.code yX5_chordAt cX5_chordAt 3 (some .int), Cond.methodLink RX5 75 yX5_isSleeper, Cond.instanceMethod yX5_isSleeper, Cond.selects RX5 yX5_isSleeper yX5_isSleeper, Cond.code yX5_isSleeper cX5_isSleeper 2 (some .boolean), Cond.methodLink RX5 93 yX5_railAt, Cond.instanceMethod yX5_railAt, Cond.selects RX5 yX5_railAt yX5_railAt, Cond.code yX5_railAt cX5_railAt 7 (some .int), Cond.fieldLink RX5 28 "BallastLineModel" "isLost" "[Z", Cond.fieldLink RX5 16 "BallastLineModel" "beds" "[I"]
def wsX5_measure_r2 : List Cond := [Cond.methodLink RX5 89 yX5_floor, Cond.static yX5_floor, Cond.code yX5_floor cX5_floor 5 (some .int)]
def wsX5_measure : List Cond := .code yX5_measure cX5_measure 5 (some .int) :: ((wsX5_measure_r1 ++ wsX5_measure_r2) ++ wsX50)
def wsX5_level : List Cond := .code yX5_level cX5_level 4 (some .int) :: ([.fieldLink RX5 41 "BallastLineModel" "isRun" "[Z", .fieldLink RX5 44 "BallastLineModel" "runs" "[I", .fieldLink RX5 72 "BallastLineModel" "many" "I", .methodLink RX5 111 yX5_isNumber, .static yX5_isNumber, .initialized RX5, .code yX5_isNumber cX5_isNumber 1 (some .boolean), .methodLink RX5 68 yX5_in, .static yX5_in, .code yX5_in cX5_in 3 (some .boolean), .methodLink RX5 93 yX5_railAt, .instanceMethod yX5_railAt, .selects RX5 yX5_railAt yX5_railAt, .code yX5_railAt cX5_railAt 7 (some .int), .fieldLink RX5 28 "BallastLineModel" "isLost" "[Z", .fieldLink RX5 16 "BallastLineModel" "beds" "[I", .methodLink RX5 89 yX5_floor, .static yX5_floor, .code yX5_floor cX5_floor 5 (some .int), .methodLink RX5 75 yX5_isSleeper, .instanceMethod yX5_isSleeper, .selects RX5 yX5_isSleeper yX5_isSleeper, .code yX5_isSleeper cX5_isSleeper 2 (some .boolean)] ++ wsX50)
def wsX5_askedFor : List Cond := .code yX5_askedFor cX5_askedFor 2 (some .int) :: ([.fieldLink RX5 41 "BallastLineModel" "isRun" "[Z", .methodLink RX5 111 yX5_isNumber, .static yX5_isNumber, .initialized RX5, .code yX5_isNumber cX5_isNumber 1 (some .boolean), .methodLink RX5 68 yX5_in, .static yX5_in, .code yX5_in cX5_in 3 (some .boolean), .methodLink RX5 79 yX5_meets, .instanceMethod yX5_meets, .selects RX5 yX5_meets yX5_meets, .code yX5_meets cX5_meets 2 (some .int), .fieldLink RX5 60 "BallastLineModel" "finding" "I", .fieldLink RX5 7 "BallastLineModel" "findings" "[I"] ++ wsX50)
def wsX5_lay : List Cond := .code yX5_lay cX5_lay 5 (some .int) :: ([.constant RX5 117 (-100000), .constant RX5 118 (100000), .fieldLink RX5 44 "BallastLineModel" "runs" "[I", .fieldLink RX5 64 "BallastLineModel" "asked" "J", .methodLink RX5 68 yX5_in, .static yX5_in, .initialized RX5, .code yX5_in cX5_in 3 (some .boolean), .methodLink RX5 119 yX5_askedFor, .instanceMethod yX5_askedFor, .selects RX5 yX5_askedFor yX5_askedFor, .code yX5_askedFor cX5_askedFor 2 (some .int), .fieldLink RX5 41 "BallastLineModel" "isRun" "[Z", .methodLink RX5 111 yX5_isNumber, .static yX5_isNumber, .code yX5_isNumber cX5_isNumber 1 (some .boolean), .methodLink RX5 79 yX5_meets, .instanceMethod yX5_meets, .selects RX5 yX5_meets yX5_meets, .code yX5_meets cX5_meets 2 (some .int), .fieldLink RX5 60 "BallastLineModel" "finding" "I", .fieldLink RX5 7 "BallastLineModel" "findings" "[I"] ++ wsX50)
def wsX5_at : List Cond := .code yX5_at cX5_at 4 (some .int) :: ([.fieldLink RX5 44 "BallastLineModel" "runs" "[I", .methodLink RX5 119 yX5_askedFor, .instanceMethod yX5_askedFor, .selects RX5 yX5_askedFor yX5_askedFor, .initialized RX5, .code yX5_askedFor cX5_askedFor 2 (some .int), .fieldLink RX5 41 "BallastLineModel" "isRun" "[Z", .methodLink RX5 111 yX5_isNumber, .static yX5_isNumber, .code yX5_isNumber cX5_isNumber 1 (some .boolean), .methodLink RX5 68 yX5_in, .static yX5_in, .code yX5_in cX5_in 3 (some .boolean), .methodLink RX5 79 yX5_meets, .instanceMethod yX5_meets, .selects RX5 yX5_meets yX5_meets, .code yX5_meets cX5_meets 2 (some .int), .fieldLink RX5 60 "BallastLineModel" "finding" "I", .fieldLink RX5 7 "BallastLineModel" "findings" "[I", .methodLink RX5 96 yX5_tell, .instanceMethod yX5_tell, .selects RX5 yX5_tell yX5_tell, .code yX5_tell cX5_tell 4 (some .int), .fieldLink RX5 64 "BallastLineModel" "asked" "J"] ++ wsX50)
def wsX5_shape : List Cond := .code yX5_shape cX5_shape 6 (some .int) :: ([.fieldLink RX5 47 "BallastLineModel" "moving" "[I", .fieldLink RX5 72 "BallastLineModel" "many" "I", .fieldLink RX5 44 "BallastLineModel" "runs" "[I", .methodLink RX5 68 yX5_in, .static yX5_in, .initialized RX5, .code yX5_in cX5_in 3 (some .boolean), .methodLink RX5 119 yX5_askedFor, .instanceMethod yX5_askedFor, .selects RX5 yX5_askedFor yX5_askedFor, .code yX5_askedFor cX5_askedFor 2 (some .int), .fieldLink RX5 41 "BallastLineModel" "isRun" "[Z", .methodLink RX5 111 yX5_isNumber, .static yX5_isNumber, .code yX5_isNumber cX5_isNumber 1 (some .boolean), .methodLink RX5 79 yX5_meets, .instanceMethod yX5_meets, .selects RX5 yX5_meets yX5_meets, .code yX5_meets cX5_meets 2 (some .int), .fieldLink RX5 60 "BallastLineModel" "finding" "I", .fieldLink RX5 7 "BallastLineModel" "findings" "[I"] ++ wsX50)
def wsX5_tear : List Cond := .code yX5_tear cX5_tear 3 (some .int) :: ([.fieldLink RX5 41 "BallastLineModel" "isRun" "[Z", .methodLink RX5 119 yX5_askedFor, .instanceMethod yX5_askedFor, .selects RX5 yX5_askedFor yX5_askedFor, .initialized RX5, .code yX5_askedFor cX5_askedFor 2 (some .int), .methodLink RX5 111 yX5_isNumber, .static yX5_isNumber, .code yX5_isNumber cX5_isNumber 1 (some .boolean), .methodLink RX5 68 yX5_in, .static yX5_in, .code yX5_in cX5_in 3 (some .boolean), .methodLink RX5 79 yX5_meets, .instanceMethod yX5_meets, .selects RX5 yX5_meets yX5_meets, .code yX5_meets cX5_meets 2 (some .int), .fieldLink RX5 60 "BallastLineModel" "finding" "I", .fieldLink RX5 7 "BallastLineModel" "findings" "[I"] ++ wsX50)
def wsX5_copy : List Cond := .code yX5_copy cX5_copy 7 (some .int) :: ([.fieldLink RX5 41 "BallastLineModel" "isRun" "[Z", .constantLong RX5 122 (40), .fieldLink RX5 47 "BallastLineModel" "moving" "[I", .fieldLink RX5 44 "BallastLineModel" "runs" "[I", .methodLink RX5 111 yX5_isNumber, .static yX5_isNumber, .initialized RX5, .code yX5_isNumber cX5_isNumber 1 (some .boolean), .methodLink RX5 68 yX5_in, .static yX5_in, .code yX5_in cX5_in 3 (some .boolean), .methodLink RX5 79 yX5_meets, .instanceMethod yX5_meets, .selects RX5 yX5_meets yX5_meets, .code yX5_meets cX5_meets 2 (some .int), .fieldLink RX5 60 "BallastLineModel" "finding" "I", .fieldLink RX5 7 "BallastLineModel" "findings" "[I"] ++ wsX50)
def wsX5_apart : List Cond := .code yX5_apart cX5_apart 9 (some .long) :: ([.fieldLink RX5 72 "BallastLineModel" "many" "I", .fieldLink RX5 44 "BallastLineModel" "runs" "[I"] ++ wsX50)
def wsX5_fit_r1 : List Cond := [Cond.fieldLink RX5 72 "BallastLineModel" "many" "I", Cond.fieldLink RX5 41 "BallastLineModel" "isRun" "[Z", Cond.methodLink RX5 111 yX5_isNumber, Cond.static yX5_isNumber, Cond.initialized RX5, Cond.code yX5_isNumber cX5_isNumber 1 (some .boolean), Cond.methodLink RX5 68 yX5_in, Cond.static yX5_in, Cond.code yX5_in cX5_in 3 (some .boolean), Cond.methodLink RX5 79 yX5_meets, Cond.instanceMethod yX5_meets, Cond.selects RX5 yX5_meets yX5_meets, Cond.code yX5_meets cX5_meets 2 (some .int), Cond.fieldLink RX5 60 "BallastLineModel" "finding" "I", Cond.fieldLink RX5 7 "BallastLineModel" "findings" "[I", Cond.methodLink RX5 124 yX5_apart, Cond.instanceMethod yX5_apart, Cond.selects RX5 yX5_apart yX5_apart, Cond.code yX5_apart cX5_apart 9 (some .long), Cond.fieldLink RX5 44 "BallastLineModel" "runs" "[I", Cond.methodLink RX5 96 yX5_tell, Cond.instanceMethod yX5_tell, Cond.selects RX5 yX5_tell yX5_tell, Cond.code yX5_tell cX5_tell 4 (some .int)]
def wsX5_fit_r2 : List Cond := [Cond.fieldLink RX5 64 "BallastLineModel" "asked" "J"]
def wsX5_fit : List Cond := .code yX5_fit cX5_fit 5 (some .int) :: ((wsX5_fit_r1 ++ wsX5_fit_r2) ++ wsX50)
def wsX5_worst_r1 : List Cond := [Cond.constantLong RX5 128 (-1), Cond.fieldLink RX5 72 "BallastLineModel" "many" "I", Cond.fieldLink RX5 44 "BallastLineModel" "runs" "[I", Cond.methodLink RX5 119 yX5_askedFor, Cond.instanceMethod yX5_askedFor, Cond.selects RX5 yX5_askedFor yX5_askedFor, Cond.initialized RX5, Cond.code yX5_askedFor cX5_askedFor 2 (some .int), Cond.fieldLink RX5 41 "BallastLineModel" "isRun" "[Z", Cond.methodLink RX5 111 yX5_isNumber, Cond.static yX5_isNumber, Cond.code yX5_isNumber cX5_isNumber 1 (some .boolean), Cond.methodLink RX5 68 yX5_in, Cond.static yX5_in, Cond.code yX5_in cX5_in 3 (some .boolean), Cond.methodLink RX5 79 yX5_meets, Cond.instanceMethod yX5_meets, Cond.selects RX5 yX5_meets yX5_meets, Cond.code yX5_meets cX5_meets 2 (some .int), Cond.fieldLink RX5 60 "BallastLineModel" "finding" "I", Cond.fieldLink RX5 7 "BallastLineModel" "findings" "[I", Cond.methodLink RX5 96 yX5_tell, Cond.instanceMethod yX5_tell, Cond.selects RX5 yX5_tell yX5_tell]
def wsX5_worst_r2 : List Cond := [Cond.code yX5_tell cX5_tell 4 (some .int), Cond.fieldLink RX5 64 "BallastLineModel" "asked" "J"]
def wsX5_worst : List Cond := .code yX5_worst cX5_worst 9 (some .int) :: ((wsX5_worst_r1 ++ wsX5_worst_r2) ++ wsX50)
def wsX5_isStretch : List Cond := .code yX5_isStretch cX5_isStretch 1 (some .boolean) :: ([.methodLink RX5 68 yX5_in, .static yX5_in, .initialized RX5, .code yX5_in cX5_in 3 (some .boolean)])
def wsX5_isWarmth : List Cond := .code yX5_isWarmth cX5_isWarmth 1 (some .boolean) :: ([.methodLink RX5 68 yX5_in, .static yX5_in, .initialized RX5, .code yX5_in cX5_in 3 (some .boolean)])
def wsX5_pull : List Cond := .code yX5_pull cX5_pull 3 (some .int) :: ([.fieldLink RX5 32 "BallastLineModel" "free" "[I", .methodLink RX5 130 yX5_isStretch, .static yX5_isStretch, .initialized RX5, .code yX5_isStretch cX5_isStretch 1 (some .boolean), .methodLink RX5 68 yX5_in, .static yX5_in, .code yX5_in cX5_in 3 (some .boolean)] ++ wsX50)
def wsX5_cut : List Cond := .code yX5_cut cX5_cut 3 (some .int) :: ([.fieldLink RX5 32 "BallastLineModel" "free" "[I", .fieldLink RX5 64 "BallastLineModel" "asked" "J", .methodLink RX5 130 yX5_isStretch, .static yX5_isStretch, .initialized RX5, .code yX5_isStretch cX5_isStretch 1 (some .boolean), .methodLink RX5 68 yX5_in, .static yX5_in, .code yX5_in cX5_in 3 (some .boolean), .methodLink RX5 133 yX5_isWarmth, .static yX5_isWarmth, .code yX5_isWarmth cX5_isWarmth 1 (some .boolean)] ++ wsX50)
def wsX5_pressOf : List Cond := .code yX5_pressOf cX5_pressOf 3 (some .long) :: ([.constantLong RX5 136 (24), .fieldLink RX5 32 "BallastLineModel" "free" "[I"] ++ wsX50)
def wsX5_press : List Cond := .code yX5_press cX5_press 3 (some .int) :: ([.methodLink RX5 130 yX5_isStretch, .static yX5_isStretch, .initialized RX5, .code yX5_isStretch cX5_isStretch 1 (some .boolean), .methodLink RX5 68 yX5_in, .static yX5_in, .code yX5_in cX5_in 3 (some .boolean), .methodLink RX5 133 yX5_isWarmth, .static yX5_isWarmth, .code yX5_isWarmth cX5_isWarmth 1 (some .boolean), .methodLink RX5 138 yX5_pressOf, .instanceMethod yX5_pressOf, .selects RX5 yX5_pressOf yX5_pressOf, .code yX5_pressOf cX5_pressOf 3 (some .long), .constantLong RX5 136 (24), .fieldLink RX5 32 "BallastLineModel" "free" "[I", .methodLink RX5 96 yX5_tell, .instanceMethod yX5_tell, .selects RX5 yX5_tell yX5_tell, .code yX5_tell cX5_tell 4 (some .int), .fieldLink RX5 64 "BallastLineModel" "asked" "J"] ++ wsX50)
def wsX5_margin_r1 : List Cond := [Cond.fieldLink RX5 72 "BallastLineModel" "many" "I", Cond.fieldLink RX5 28 "BallastLineModel" "isLost" "[Z", Cond.fieldLink RX5 19 "BallastLineModel" "stones" "[I", Cond.constantLong RX5 142 (9000), Cond.constantLong RX5 144 (300), Cond.constantLong RX5 146 (60), Cond.methodLink RX5 130 yX5_isStretch, Cond.static yX5_isStretch, Cond.initialized RX5, Cond.code yX5_isStretch cX5_isStretch 1 (some .boolean), Cond.methodLink RX5 68 yX5_in, Cond.static yX5_in, Cond.code yX5_in cX5_in 3 (some .boolean), Cond.methodLink RX5 133 yX5_isWarmth, Cond.static yX5_isWarmth, Cond.code yX5_isWarmth cX5_isWarmth 1 (some .boolean), Cond.methodLink RX5 114 yX5_chordAt, Cond.instanceMethod yX5_chordAt, Cond.selects RX5 yX5_chordAt yX5_chordAt, Cond.code yX5_chordAt cX5_chordAt 3 (some .int), Cond.methodLink RX5 75 yX5_isSleeper, Cond.instanceMethod yX5_isSleeper, Cond.selects RX5 yX5_isSleeper yX5_isSleeper, Cond.code yX5_isSleeper cX5_isSleeper 2 (some .boolean)]
def wsX5_margin_r2 : List Cond := [Cond.methodLink RX5 93 yX5_railAt, Cond.instanceMethod yX5_railAt, Cond.selects RX5 yX5_railAt yX5_railAt, Cond.code yX5_railAt cX5_railAt 7 (some .int), Cond.fieldLink RX5 16 "BallastLineModel" "beds" "[I", Cond.methodLink RX5 89 yX5_floor, Cond.static yX5_floor, Cond.code yX5_floor cX5_floor 5 (some .int), Cond.methodLink RX5 79 yX5_meets, Cond.instanceMethod yX5_meets, Cond.selects RX5 yX5_meets yX5_meets, Cond.code yX5_meets cX5_meets 2 (some .int), Cond.fieldLink RX5 60 "BallastLineModel" "finding" "I", Cond.fieldLink RX5 7 "BallastLineModel" "findings" "[I", Cond.methodLink RX5 138 yX5_pressOf, Cond.instanceMethod yX5_pressOf, Cond.selects RX5 yX5_pressOf yX5_pressOf, Cond.code yX5_pressOf cX5_pressOf 3 (some .long), Cond.constantLong RX5 136 (24), Cond.fieldLink RX5 32 "BallastLineModel" "free" "[I", Cond.methodLink RX5 96 yX5_tell, Cond.instanceMethod yX5_tell, Cond.selects RX5 yX5_tell yX5_tell, Cond.code yX5_tell cX5_tell 4 (some .int)]
def wsX5_margin_r3 : List Cond := [Cond.fieldLink RX5 64 "BallastLineModel" "asked" "J"]
def wsX5_margin : List Cond := .code yX5_margin cX5_margin 12 (some .int) :: ((wsX5_margin_r1 ++ (wsX5_margin_r2 ++ wsX5_margin_r3)) ++ wsX50)
def wsX5_work : List Cond := .code yX5_work cX5_work 3 (some .int) :: ([.fieldLink RX5 148 "BallastLineModel" "works" "I", .fieldLink RX5 50 "BallastLineModel" "costs" "[I", .fieldLink RX5 53 "BallastLineModel" "gains" "[I", .methodLink RX5 68 yX5_in, .static yX5_in, .initialized RX5, .code yX5_in cX5_in 3 (some .boolean)] ++ wsX50)
def wsX5_sumOf : List Cond := .code yX5_sumOf cX5_sumOf 5 (some .int) :: ([.fieldLink RX5 148 "BallastLineModel" "works" "I", .fieldLink RX5 50 "BallastLineModel" "costs" "[I", .fieldLink RX5 53 "BallastLineModel" "gains" "[I"] ++ wsX50)
def wsX5_best : List Cond := .code yX5_best cX5_best 6 (some .int) :: ([.fieldLink RX5 148 "BallastLineModel" "works" "I", .methodLink RX5 68 yX5_in, .static yX5_in, .initialized RX5, .code yX5_in cX5_in 3 (some .boolean), .methodLink RX5 151 yX5_sumOf, .instanceMethod yX5_sumOf, .selects RX5 yX5_sumOf yX5_sumOf, .code yX5_sumOf cX5_sumOf 5 (some .int), .fieldLink RX5 50 "BallastLineModel" "costs" "[I", .fieldLink RX5 53 "BallastLineModel" "gains" "[I", .methodLink RX5 96 yX5_tell, .instanceMethod yX5_tell, .selects RX5 yX5_tell yX5_tell, .code yX5_tell cX5_tell 4 (some .int), .fieldLink RX5 64 "BallastLineModel" "asked" "J"] ++ wsX50)
def wsX5_first : List Cond := .code yX5_first cX5_first 8 (some .int) :: ([.fieldLink RX5 148 "BallastLineModel" "works" "I", .fieldLink RX5 53 "BallastLineModel" "gains" "[I", .fieldLink RX5 50 "BallastLineModel" "costs" "[I", .methodLink RX5 68 yX5_in, .static yX5_in, .initialized RX5, .code yX5_in cX5_in 3 (some .boolean), .methodLink RX5 151 yX5_sumOf, .instanceMethod yX5_sumOf, .selects RX5 yX5_sumOf yX5_sumOf, .code yX5_sumOf cX5_sumOf 5 (some .int), .methodLink RX5 96 yX5_tell, .instanceMethod yX5_tell, .selects RX5 yX5_tell yX5_tell, .code yX5_tell cX5_tell 4 (some .int), .fieldLink RX5 64 "BallastLineModel" "asked" "J"] ++ wsX50)
def wsX5_asked : List Cond := .code yX5_asked cX5_asked 1 (some .long) :: ([.fieldLink RX5 64 "BallastLineModel" "asked" "J"] ++ wsX50)
def wsX5_tellsCount : List Cond := .code yX5_tellsCount cX5_tellsCount 4 (some .int) :: ([.fieldLink RX5 72 "BallastLineModel" "many" "I", .fieldLink RX5 28 "BallastLineModel" "isLost" "[Z", .fieldLink RX5 41 "BallastLineModel" "isRun" "[Z", .fieldLink RX5 99 "BallastLineModel" "axles" "I", .fieldLink RX5 148 "BallastLineModel" "works" "I"] ++ wsX50)
def wsX5_count : List Cond := .code yX5_count cX5_count 2 (some .int) :: ([.methodLink RX5 68 yX5_in, .static yX5_in, .initialized RX5, .code yX5_in cX5_in 3 (some .boolean), .methodLink RX5 155 yX5_tellsCount, .instanceMethod yX5_tellsCount, .selects RX5 yX5_tellsCount yX5_tellsCount, .code yX5_tellsCount cX5_tellsCount 4 (some .int), .fieldLink RX5 72 "BallastLineModel" "many" "I", .fieldLink RX5 28 "BallastLineModel" "isLost" "[Z", .fieldLink RX5 41 "BallastLineModel" "isRun" "[Z", .fieldLink RX5 99 "BallastLineModel" "axles" "I", .fieldLink RX5 148 "BallastLineModel" "works" "I"] ++ wsX50)
def wsX5_finding : List Cond := .code yX5_finding cX5_finding 1 (some .int) :: ([.fieldLink RX5 60 "BallastLineModel" "finding" "I"] ++ wsX50)
def wsX5_findings : List Cond := .code yX5_findings cX5_findings 2 (some .int) :: ([.fieldLink RX5 7 "BallastLineModel" "findings" "[I", .methodLink RX5 68 yX5_in, .static yX5_in, .initialized RX5, .code yX5_in cX5_in 3 (some .boolean)] ++ wsX50)
def wsX5_digest : List Cond := .code yX5_digest cX5_digest 5 (some .long) :: ([.constantLong RX5 158 (17), .constantLong RX5 160 (31), .fieldLink RX5 72 "BallastLineModel" "many" "I", .fieldLink RX5 16 "BallastLineModel" "beds" "[I", .fieldLink RX5 32 "BallastLineModel" "free" "[I", .fieldLink RX5 41 "BallastLineModel" "isRun" "[Z", .fieldLink RX5 44 "BallastLineModel" "runs" "[I", .methodLink RX5 155 yX5_tellsCount, .instanceMethod yX5_tellsCount, .selects RX5 yX5_tellsCount yX5_tellsCount, .initialized RX5, .code yX5_tellsCount cX5_tellsCount 4 (some .int), .fieldLink RX5 28 "BallastLineModel" "isLost" "[Z", .fieldLink RX5 99 "BallastLineModel" "axles" "I", .fieldLink RX5 148 "BallastLineModel" "works" "I", .methodLink RX5 85 yX5_tells, .instanceMethod yX5_tells, .selects RX5 yX5_tells yX5_tells, .code yX5_tells cX5_tells 3 (some .int), .fieldLink RX5 13 "BallastLineModel" "kinds" "[I", .fieldLink RX5 19 "BallastLineModel" "stones" "[I", .fieldLink RX5 22 "BallastLineModel" "hundredths" "[I"] ++ wsX50)
def wsJ9_abs_0f7a4 : List Cond := .code yJ9_abs_0f7a4 cJ9_abs_0f7a4 1 (some .int) :: ([])
def wsJ9_abs_067f4 : List Cond := .code yJ9_abs_067f4 cJ9_abs_067f4 2 (some .long) :: ([])
def wsJ9_max_7cf53 : List Cond := .code yJ9_max_7cf53 cJ9_max_7cf53 2 (some .int) :: ([])
def wsJ9_min_7cf53 : List Cond := .code yJ9_min_7cf53 cJ9_min_7cf53 2 (some .int) :: ([])
abbrev vwCl : List vw_C := [(RX0, TX0, 2), (RX1, TX1, 8), (RX2, TX2, 3), (RX3, TX3, 6), (RX4, TX4, 8), (RX5, TX5, 20)]
end
section
set_option maxRecDepth 20000 in
theorem ggX0_bestShift_X0_squaresApart : GoodIn wsX0_bestShift wsX0_squaresApart := goodIn_r _ [5, 6, 7, 8] (by decide +kernel) (by decide +kernel)
set_option maxRecDepth 20000 in
theorem gX0_bestShift_X0_squaresApart : GoodIn wsX0_bestShift (wsV RX0 20 RX0 yX0_squaresApart wsX0_squaresApart) := goodIn_app (goodIn_of _ (by decide +kernel)) ggX0_bestShift_X0_squaresApart
set_option maxRecDepth 20000 in
theorem ggX0_steepest_X0_stepAfter : GoodIn wsX0_steepest wsX0_stepAfter := goodIn_r _ [5, 6, 7, 8, 9, 10, 11, 12] (by decide +kernel) (by decide +kernel)
set_option maxRecDepth 20000 in
theorem gX0_steepest_X0_stepAfter : GoodIn wsX0_steepest (wsV RX0 24 RX0 yX0_stepAfter wsX0_stepAfter) := goodIn_app (goodIn_of _ (by decide +kernel)) ggX0_steepest_X0_stepAfter
set_option maxRecDepth 20000 in
theorem ggX1_init_X1_renew : GoodIn wsX1_init wsX1_renew := goodIn_r _ [17, 18, 5, 6, 7, 8, 9, 11, 12, 19, 20, 21, 22, 23, 24, 25, 26] (by decide +kernel) (by decide +kernel)
set_option maxRecDepth 20000 in
theorem gX1_init_X1_renew : GoodIn wsX1_init (wsV RX1 36 RX1 yX1_renew wsX1_renew) := goodIn_app (goodIn_of _ (by decide +kernel)) ggX1_init_X1_renew
set_option maxRecDepth 20000 in
theorem ggX1_has_X4_within : GoodIn wsX1_has wsX4_within := goodIn_r _ [4] (by decide +kernel) (by decide +kernel)
set_option maxRecDepth 20000 in
theorem gX1_has_X4_within_n44 : GoodIn wsX1_has (wsX4_within) := ggX1_has_X4_within
set_option maxRecDepth 20000 in
theorem ggX1_stands_X1_has : GoodIn wsX1_stands wsX1_has := goodIn_r _ [6, 7, 8, 9, 10, 11, 12, 13, 14, 15, 16, 17, 18] (by decide +kernel) (by decide +kernel)
set_option maxRecDepth 20000 in
theorem gX1_stands_X1_has : GoodIn wsX1_stands (wsV RX1 48 RX1 yX1_has wsX1_has) := goodIn_app (goodIn_of _ (by decide +kernel)) ggX1_stands_X1_has
set_option maxRecDepth 20000 in
theorem ggX1_setLost_X1_forgetHanging : GoodIn wsX1_setLost wsX1_forgetHanging := goodIn_r _ [6, 7, 8, 9, 10, 11, 12, 13, 14, 15, 16, 17, 18, 19, 20, 21, 22, 23] (by decide +kernel) (by decide +kernel)
set_option maxRecDepth 20000 in
theorem gX1_setLost_X1_forgetHanging : GoodIn wsX1_setLost (wsV RX1 52 RX1 yX1_forgetHanging wsX1_forgetHanging) := goodIn_app (goodIn_of _ (by decide +kernel)) ggX1_setLost_X1_forgetHanging
set_option maxRecDepth 20000 in
theorem ggX1_setBed_X1_forgetHanging : GoodIn wsX1_setBed wsX1_forgetHanging := goodIn_r _ [6, 7, 8, 9, 10, 11, 12, 13, 14, 15, 16, 17, 18, 19, 20, 21, 22, 23] (by decide +kernel) (by decide +kernel)
set_option maxRecDepth 20000 in
theorem gX1_setBed_X1_forgetHanging : GoodIn wsX1_setBed (wsV RX1 52 RX1 yX1_forgetHanging wsX1_forgetHanging) := goodIn_app (goodIn_of _ (by decide +kernel)) ggX1_setBed_X1_forgetHanging
set_option maxRecDepth 20000 in
theorem ggX1_height_X1_stands : GoodIn wsX1_height wsX1_stands := goodIn_r _ [16, 11, 17, 18, 19, 15, 20, 7, 21, 22, 23, 38, 39, 40, 41, 42, 43, 44, 45] (by decide +kernel) (by decide +kernel)
set_option maxRecDepth 20000 in
theorem gX1_height_X1_stands : GoodIn wsX1_height (wsV RX1 64 RX1 yX1_stands wsX1_stands) := goodIn_app (goodIn_of _ (by decide +kernel)) ggX1_height_X1_stands
set_option maxRecDepth 20000 in
theorem ggX1_height_X1_lineAt : GoodIn wsX1_height wsX1_lineAt := goodIn_r _ [27, 1, 28, 22, 29, 30, 31, 32, 33, 38, 39, 40, 41, 42, 43, 44, 45] (by decide +kernel) (by decide +kernel)
set_option maxRecDepth 20000 in
theorem gX1_height_X1_lineAt : GoodIn wsX1_height (wsV RX1 68 RX1 yX1_lineAt wsX1_lineAt) := goodIn_app (goodIn_of _ (by decide +kernel)) ggX1_height_X1_lineAt
set_option maxRecDepth 20000 in
theorem ggX1_height_X1_nearestBed : GoodIn wsX1_height wsX1_nearestBed := goodIn_r _ [37, 7, 1, 12, 13, 14, 15, 16, 11, 17, 18, 19, 20, 21, 22, 23, 38, 39, 40, 41, 42, 43, 44, 45] (by decide +kernel) (by decide +kernel)
set_option maxRecDepth 20000 in
theorem gX1_height_X1_nearestBed : GoodIn wsX1_height (wsV RX1 72 RX1 yX1_nearestBed wsX1_nearestBed) := goodIn_app (goodIn_of _ (by decide +kernel)) ggX1_height_X1_nearestBed
set_option maxRecDepth 20000 in
theorem ggX1_lineAt_X4_floorShare : GoodIn wsX1_lineAt wsX4_floorShare := goodIn_r _ [4, 5, 6, 7, 8] (by decide +kernel) (by decide +kernel)
set_option maxRecDepth 20000 in
theorem gX1_lineAt_X4_floorShare_n76 : GoodIn wsX1_lineAt (wsX4_floorShare) := ggX1_lineAt_X4_floorShare
set_option maxRecDepth 20000 in
theorem ggX1_nearestBed_X1_stands : GoodIn wsX1_nearestBed wsX1_stands := goodIn_r _ [7, 8, 9, 10, 11, 6, 12, 1, 13, 14, 15, 16, 17, 18, 19, 20, 21, 22, 23] (by decide +kernel) (by decide +kernel)
set_option maxRecDepth 20000 in
theorem gX1_nearestBed_X1_stands : GoodIn wsX1_nearestBed (wsV RX1 64 RX1 yX1_stands wsX1_stands) := goodIn_app (goodIn_of _ (by decide +kernel)) ggX1_nearestBed_X1_stands
set_option maxRecDepth 20000 in
theorem ggX1_bears_X1_stands : GoodIn wsX1_bears wsX1_stands := goodIn_r _ [7, 8, 9, 10, 11, 6, 12, 13, 14, 15, 16, 43, 44, 45, 46, 47, 48, 49, 50] (by decide +kernel) (by decide +kernel)
set_option maxRecDepth 20000 in
theorem gX1_bears_X1_stands : GoodIn wsX1_bears (wsV RX1 64 RX1 yX1_stands wsX1_stands) := goodIn_app (goodIn_of _ (by decide +kernel)) ggX1_bears_X1_stands
set_option maxRecDepth 20000 in
theorem ggX1_bears_X1_height : GoodIn wsX1_bears wsX1_height := goodIn_r _ [20, 2, 21, 22, 23, 24, 25, 13, 26, 27, 28, 8, 3, 4, 5, 6, 7, 9, 10, 11, 12, 14, 15, 16, 29, 30, 31, 32, 33, 34, 35, 36, 37, 38, 39, 40, 41, 42, 43, 44, 45, 46, 47, 48, 49, 50] (by decide +kernel) (by decide +kernel)
set_option maxRecDepth 20000 in
theorem gX1_bears_X1_height : GoodIn wsX1_bears (wsV RX1 79 RX1 yX1_height wsX1_height) := goodIn_app (goodIn_of _ (by decide +kernel)) ggX1_bears_X1_height
set_option maxRecDepth 20000 in
theorem ggX1_jointAt_X1_stands : GoodIn wsX1_jointAt wsX1_stands := goodIn_r _ [6, 7, 8, 9, 10, 5, 11, 12, 13, 14, 15, 16, 17, 18, 19, 20, 21, 22, 23] (by decide +kernel) (by decide +kernel)
set_option maxRecDepth 20000 in
theorem gX1_jointAt_X1_stands : GoodIn wsX1_jointAt (wsV RX1 64 RX1 yX1_stands wsX1_stands) := goodIn_app (goodIn_of _ (by decide +kernel)) ggX1_jointAt_X1_stands
set_option maxRecDepth 20000 in
theorem ggX1_sink_X1_setBed : GoodIn wsX1_sink wsX1_setBed := goodIn_r _ [7, 2, 8, 9, 10, 6, 11, 12, 13, 14, 15, 16, 17, 18, 19, 20, 21, 22, 23, 24, 25, 26, 27, 28] (by decide +kernel) (by decide +kernel)
set_option maxRecDepth 20000 in
theorem gX1_sink_X1_setBed : GoodIn wsX1_sink (wsV RX1 82 RX1 yX1_setBed wsX1_setBed) := goodIn_app (goodIn_of _ (by decide +kernel)) ggX1_sink_X1_setBed
set_option maxRecDepth 20000 in
theorem ggX1_raise_X1_stands : GoodIn wsX1_raise wsX1_stands := goodIn_r _ [12, 13, 14, 15, 16, 11, 17, 18, 19, 20, 21, 34, 35, 36, 37, 38, 39, 40, 41] (by decide +kernel) (by decide +kernel)
set_option maxRecDepth 20000 in
theorem gX1_raise_X1_stands : GoodIn wsX1_raise (wsV RX1 64 RX1 yX1_stands wsX1_stands) := goodIn_app (goodIn_of _ (by decide +kernel)) ggX1_raise_X1_stands
set_option maxRecDepth 20000 in
theorem ggX1_raise_X1_setBed : GoodIn wsX1_raise wsX1_setBed := goodIn_r _ [25, 1, 26, 27, 28, 11, 29, 18, 30, 31, 6, 32, 4, 5, 7, 33, 34, 35, 36, 37, 38, 39, 40, 41] (by decide +kernel) (by decide +kernel)
set_option maxRecDepth 20000 in
theorem gX1_raise_X1_setBed : GoodIn wsX1_raise (wsV RX1 82 RX1 yX1_setBed wsX1_setBed) := goodIn_app (goodIn_of _ (by decide +kernel)) ggX1_raise_X1_setBed
set_option maxRecDepth 20000 in
theorem ggX1_chord_X1_has : GoodIn wsX1_chord wsX1_has := goodIn_r _ [5, 6, 7, 8, 9, 42, 43, 44, 45, 46, 47, 48, 49] (by decide +kernel) (by decide +kernel)
set_option maxRecDepth 20000 in
theorem gX1_chord_X1_has : GoodIn wsX1_chord (wsV RX1 48 RX1 yX1_has wsX1_has) := goodIn_app (goodIn_of _ (by decide +kernel)) ggX1_chord_X1_has
set_option maxRecDepth 20000 in
theorem ggX1_chord_X1_height : GoodIn wsX1_chord wsX1_height := goodIn_r _ [13, 14, 15, 16, 17, 18, 19, 6, 20, 21, 22, 23, 24, 25, 26, 4, 27, 1, 2, 3, 5, 7, 8, 9, 28, 29, 30, 31, 32, 33, 34, 35, 36, 37, 38, 39, 40, 41, 42, 43, 44, 45, 46, 47, 48, 49] (by decide +kernel) (by decide +kernel)
set_option maxRecDepth 20000 in
theorem gX1_chord_X1_height : GoodIn wsX1_chord (wsV RX1 79 RX1 yX1_height wsX1_height) := goodIn_app (goodIn_of _ (by decide +kernel)) ggX1_chord_X1_height
set_option maxRecDepth 20000 in
theorem ggX1_greatestChord_X1_chord : GoodIn wsX1_greatestChord wsX1_chord := goodIn_r _ [12, 13, 14, 15, 11, 16, 17, 18, 19, 20, 21, 22, 23, 24, 25, 26, 5, 6, 3, 7, 27, 28, 29, 30, 31, 32, 33, 34, 35, 36, 37, 38, 39, 40, 41, 42, 43, 44, 45, 46, 47, 48, 49, 50, 51, 52, 53, 54, 55, 56] (by decide +kernel) (by decide +kernel)
set_option maxRecDepth 20000 in
theorem gX1_greatestChord_X1_chord : GoodIn wsX1_greatestChord (wsV RX1 86 RX1 yX1_chord wsX1_chord) := goodIn_app (goodIn_of _ (by decide +kernel)) ggX1_greatestChord_X1_chord
set_option maxRecDepth 20000 in
theorem ggX1_standing_X1_stands : GoodIn wsX1_standing wsX1_stands := goodIn_r _ [5, 6, 7, 8, 9, 4, 10, 11, 12, 13, 14, 15, 16, 17, 18, 19, 20, 21, 22] (by decide +kernel) (by decide +kernel)
set_option maxRecDepth 20000 in
theorem gX1_standing_X1_stands : GoodIn wsX1_standing (wsV RX1 64 RX1 yX1_stands wsX1_stands) := goodIn_app (goodIn_of _ (by decide +kernel)) ggX1_standing_X1_stands
set_option maxRecDepth 20000 in
theorem ggX1_sumOfStones_X1_stands : GoodIn wsX1_sumOfStones wsX1_stands := goodIn_r _ [6, 7, 8, 9, 10, 5, 11, 12, 13, 14, 15, 16, 17, 18, 19, 20, 21, 22, 23] (by decide +kernel) (by decide +kernel)
set_option maxRecDepth 20000 in
theorem gX1_sumOfStones_X1_stands : GoodIn wsX1_sumOfStones (wsV RX1 64 RX1 yX1_stands wsX1_stands) := goodIn_app (goodIn_of _ (by decide +kernel)) ggX1_sumOfStones_X1_stands
set_option maxRecDepth 20000 in
theorem ggX2_roll_X2_pressAt : GoodIn wsX2_roll wsX2_pressAt := goodIn_r _ [7, 8, 9, 10, 11, 12, 13, 14, 15, 16, 17, 18, 19, 20, 21, 22, 23, 24, 25, 26, 27, 28, 29, 30, 31, 32, 33, 34, 35, 36, 37, 38, 39, 40, 41, 42, 43, 44, 45, 46, 47, 48, 49, 50, 51, 52, 53, 54, 55, 56, 57, 58, 59, 6, 60, 61, 62, 63, 64, 65, 66, 67, 68, 69, 70, 71, 72, 73, 74, 75, 76, 77, 78, 79, 80, 81, 82, 83, 84, 85, 86, 87, 88, 89, 90, 91] (by decide +kernel) (by decide +kernel)
set_option maxRecDepth 20000 in
theorem gX2_roll_X2_pressAt : GoodIn wsX2_roll (wsV RX2 28 RX2 yX2_pressAt wsX2_pressAt) := goodIn_app (goodIn_of _ (by decide +kernel)) ggX2_roll_X2_pressAt
set_option maxRecDepth 20000 in
theorem ggX2_pressAt_X1_jointAt : GoodIn wsX2_pressAt wsX1_jointAt := goodIn_r _ [4, 5, 6, 7, 8, 2, 9, 10, 11, 12, 13, 14, 15, 16, 17, 18, 75, 76, 77, 78, 79, 80, 81, 82] (by decide +kernel) (by decide +kernel)
set_option maxRecDepth 20000 in
theorem gX2_pressAt_X1_jointAt_n32 : GoodIn wsX2_pressAt (wsX1_jointAt) := ggX2_pressAt_X1_jointAt
set_option maxRecDepth 20000 in
theorem ggX2_pressAt_X1_bears : GoodIn wsX2_pressAt wsX1_bears := goodIn_r _ [21, 22, 23, 6, 7, 8, 2, 9, 10, 11, 12, 13, 14, 15, 16, 17, 18, 24, 25, 26, 27, 28, 29, 30, 31, 32, 33, 34, 35, 36, 37, 38, 39, 40, 41, 42, 43, 44, 45, 46, 47, 48, 49, 75, 76, 77, 78, 79, 80, 81, 82] (by decide +kernel) (by decide +kernel)
set_option maxRecDepth 20000 in
theorem gX2_pressAt_X1_bears_n39 : GoodIn wsX2_pressAt (wsX1_bears) := ggX2_pressAt_X1_bears
set_option maxRecDepth 20000 in
theorem ggX2_pressAt_X2_settle : GoodIn wsX2_pressAt wsX2_settle := goodIn_r _ [54, 55, 34, 31, 35, 56, 57, 30, 32, 12, 2, 13, 14, 15, 16, 17, 18, 58, 59, 60, 61, 62, 5, 63, 64, 65, 66, 23, 67, 68, 69, 70, 71, 72, 73, 74, 33, 29, 22, 75, 76, 77, 78, 79, 80, 81, 82, 83, 84, 85] (by decide +kernel) (by decide +kernel)
set_option maxRecDepth 20000 in
theorem gX2_pressAt_X2_settle : GoodIn wsX2_pressAt (wsV RX2 42 RX2 yX2_settle wsX2_settle) := goodIn_app (goodIn_of _ (by decide +kernel)) ggX2_pressAt_X2_settle
set_option maxRecDepth 20000 in
theorem ggX2_settle_X1_has : GoodIn wsX2_settle wsX1_has := goodIn_r _ [12, 13, 14, 15, 16, 39, 40, 41, 42, 43, 44, 45, 46] (by decide +kernel) (by decide +kernel)
set_option maxRecDepth 20000 in
theorem gX2_settle_X1_has_n46 : GoodIn wsX2_settle (wsX1_has) := ggX2_settle_X1_has
set_option maxRecDepth 20000 in
theorem ggX2_settle_X4_cutShare : GoodIn wsX2_settle wsX4_cutShare := goodIn_r _ [18] (by decide +kernel) (by decide +kernel)
set_option maxRecDepth 20000 in
theorem gX2_settle_X4_cutShare_n49 : GoodIn wsX2_settle (wsX4_cutShare) := ggX2_settle_X4_cutShare
set_option maxRecDepth 20000 in
theorem ggX2_settle_X1_isOf : GoodIn wsX2_settle wsX1_isOf := goodIn_r _ [21, 22, 39, 40, 41, 42, 43, 44, 45, 46] (by decide +kernel) (by decide +kernel)
set_option maxRecDepth 20000 in
theorem gX2_settle_X1_isOf_n64 : GoodIn wsX2_settle (wsX1_isOf) := ggX2_settle_X1_isOf
set_option maxRecDepth 20000 in
theorem ggX2_settle_X1_sink : GoodIn wsX2_settle wsX1_sink := goodIn_r _ [25, 26, 27, 28, 29, 30, 10, 31, 32, 33, 34, 35, 13, 36, 2, 3, 4, 37, 7, 8, 38, 39, 40, 41, 42, 43, 44, 45, 46] (by decide +kernel) (by decide +kernel)
set_option maxRecDepth 20000 in
theorem gX2_settle_X1_sink_n68 : GoodIn wsX2_settle (wsX1_sink) := ggX2_settle_X1_sink
set_option maxRecDepth 20000 in
theorem ggX3_add_X3_isWorse : GoodIn wsX3_add wsX3_isWorse := goodIn_r _ [11, 3, 2, 12, 13, 14, 15, 16, 17] (by decide +kernel) (by decide +kernel)
set_option maxRecDepth 20000 in
theorem gX3_add_X3_isWorse : GoodIn wsX3_add (wsV RX3 31 RX3 yX3_isWorse wsX3_isWorse) := goodIn_app (goodIn_of _ (by decide +kernel)) ggX3_add_X3_isWorse
set_option maxRecDepth 20000 in
theorem ggX3_bestSet_J6_bitCount_0f7a4 : GoodIn wsX3_bestSet wsJ6_bitCount_0f7a4 := goodIn_r _ [9, 10, 11, 12] (by decide +kernel) (by decide +kernel)
set_option maxRecDepth 20000 in
theorem gX3_bestSet_J6_bitCount_0f7a4 : GoodIn wsX3_bestSet (va_wsS RX3 35 yJ6_bitCount_0f7a4 wsJ6_bitCount_0f7a4) := goodIn_app (goodIn_of _ (by decide +kernel)) ggX3_bestSet_J6_bitCount_0f7a4
set_option maxRecDepth 20000 in
theorem ggX4_init_X1_init : GoodIn wsX4_init wsX1_init := goodIn_r _ [26, 27, 2, 3, 20, 28, 29, 30, 31, 32, 33, 34, 35, 36, 37, 38, 6, 39, 40, 63, 64, 65, 66, 67, 68, 69, 70] (by decide +kernel) (by decide +kernel)
set_option maxRecDepth 20000 in
theorem gX4_init_X1_init_n9 : GoodIn wsX4_init (wsX1_init) := ggX4_init_X1_init
set_option maxRecDepth 20000 in
theorem ggX4_init_X2_init : GoodIn wsX4_init wsX2_init := goodIn_r _ [42, 43, 2, 3, 20, 44, 45, 46, 47, 79, 80, 81] (by decide +kernel) (by decide +kernel)
set_option maxRecDepth 20000 in
theorem gX4_init_X2_init_n18 : GoodIn wsX4_init (wsX2_init) := ggX4_init_X2_init
set_option maxRecDepth 20000 in
theorem ggX4_init_X0_init : GoodIn wsX4_init wsX0_init := goodIn_r _ [49, 50, 2, 3, 51, 20, 52, 33, 53, 82, 83] (by decide +kernel) (by decide +kernel)
set_option maxRecDepth 20000 in
theorem gX4_init_X0_init_n25 : GoodIn wsX4_init (wsX0_init) := ggX4_init_X0_init
set_option maxRecDepth 20000 in
theorem ggX4_init_X3_init : GoodIn wsX4_init wsX3_init := goodIn_r _ [55, 56, 2, 3, 20, 57, 58, 59, 60, 61, 62, 84, 85, 86, 87, 88, 89] (by decide +kernel) (by decide +kernel)
set_option maxRecDepth 20000 in
theorem gX4_init_X3_init_n32 : GoodIn wsX4_init (wsX3_init) := ggX4_init_X3_init
set_option maxRecDepth 20000 in
theorem ggX4_line_X4_within : GoodIn wsX4_line wsX4_within := goodIn_r _ [5] (by decide +kernel) (by decide +kernel)
set_option maxRecDepth 20000 in
theorem gX4_line_X4_within : GoodIn wsX4_line (va_wsS RX4 52 yX4_within wsX4_within) := goodIn_app (goodIn_of _ (by decide +kernel)) ggX4_line_X4_within
set_option maxRecDepth 20000 in
theorem ggX4_line_X1_renew : GoodIn wsX4_line wsX1_renew := goodIn_r _ [9, 10, 11, 12, 13, 14, 15, 16, 17, 26, 27, 28, 29, 30, 31, 32, 33] (by decide +kernel) (by decide +kernel)
set_option maxRecDepth 20000 in
theorem gX4_line_X1_renew_n56 : GoodIn wsX4_line (wsX1_renew) := ggX4_line_X1_renew
set_option maxRecDepth 20000 in
theorem ggX4_sleeper_X1_has : GoodIn wsX4_sleeper wsX1_has := goodIn_r _ [5, 6, 7, 8, 9, 35, 36, 37, 38, 39, 40, 41, 42] (by decide +kernel) (by decide +kernel)
set_option maxRecDepth 20000 in
theorem gX4_sleeper_X1_has_n60 : GoodIn wsX4_sleeper (wsX1_has) := ggX4_sleeper_X1_has
set_option maxRecDepth 20000 in
theorem ggX4_sleeper_X4_within : GoodIn wsX4_sleeper wsX4_within := goodIn_r _ [9] (by decide +kernel) (by decide +kernel)
set_option maxRecDepth 20000 in
theorem gX4_sleeper_X4_within : GoodIn wsX4_sleeper (va_wsS RX4 52 yX4_within wsX4_within) := goodIn_app (goodIn_of _ (by decide +kernel)) ggX4_sleeper_X4_within
set_option maxRecDepth 20000 in
theorem ggX4_sleeper_X1_setLost : GoodIn wsX4_sleeper wsX1_setLost := goodIn_r _ [13, 14, 15, 16, 17, 3, 18, 6, 19, 20, 21, 22, 23, 24, 25, 26, 35, 36, 37, 38, 39, 40, 41, 42] (by decide +kernel) (by decide +kernel)
set_option maxRecDepth 20000 in
theorem gX4_sleeper_X1_setLost_n67 : GoodIn wsX4_sleeper (wsX1_setLost) := ggX4_sleeper_X1_setLost
set_option maxRecDepth 20000 in
theorem ggX4_lose_X1_has : GoodIn wsX4_lose wsX1_has := goodIn_r _ [5, 6, 7, 8, 9, 34, 35, 36, 37, 38, 39, 40, 41] (by decide +kernel) (by decide +kernel)
set_option maxRecDepth 20000 in
theorem gX4_lose_X1_has_n60 : GoodIn wsX4_lose (wsX1_has) := ggX4_lose_X1_has
set_option maxRecDepth 20000 in
theorem ggX4_lose_X1_setLost : GoodIn wsX4_lose wsX1_setLost := goodIn_r _ [12, 13, 14, 15, 16, 3, 17, 6, 18, 19, 20, 21, 22, 23, 24, 25, 34, 35, 36, 37, 38, 39, 40, 41] (by decide +kernel) (by decide +kernel)
set_option maxRecDepth 20000 in
theorem gX4_lose_X1_setLost_n67 : GoodIn wsX4_lose (wsX1_setLost) := ggX4_lose_X1_setLost
set_option maxRecDepth 20000 in
theorem ggX4_bed_X1_has : GoodIn wsX4_bed wsX1_has := goodIn_r _ [5, 6, 7, 8, 9, 46, 47, 48, 49, 50, 51, 52, 53] (by decide +kernel) (by decide +kernel)
set_option maxRecDepth 20000 in
theorem gX4_bed_X1_has_n60 : GoodIn wsX4_bed (wsX1_has) := ggX4_bed_X1_has
set_option maxRecDepth 20000 in
theorem ggX4_bed_X4_within : GoodIn wsX4_bed wsX4_within := goodIn_r _ [9] (by decide +kernel) (by decide +kernel)
set_option maxRecDepth 20000 in
theorem gX4_bed_X4_within : GoodIn wsX4_bed (va_wsS RX4 52 yX4_within wsX4_within) := goodIn_app (goodIn_of _ (by decide +kernel)) ggX4_bed_X4_within
set_option maxRecDepth 20000 in
theorem ggX4_bed_X4_found : GoodIn wsX4_bed wsX4_found := goodIn_r _ [14, 15, 16, 38, 39, 40, 41, 42, 43, 44, 45] (by decide +kernel) (by decide +kernel)
set_option maxRecDepth 20000 in
theorem gX4_bed_X4_found : GoodIn wsX4_bed (wsV RX4 75 RX4 yX4_found wsX4_found) := goodIn_app (goodIn_of _ (by decide +kernel)) ggX4_bed_X4_found
set_option maxRecDepth 20000 in
theorem ggX4_bed_X1_setBed : GoodIn wsX4_bed wsX1_setBed := goodIn_r _ [19, 20, 21, 22, 23, 3, 24, 6, 25, 26, 27, 28, 29, 30, 31, 32, 46, 47, 48, 49, 50, 51, 52, 53] (by decide +kernel) (by decide +kernel)
set_option maxRecDepth 20000 in
theorem gX4_bed_X1_setBed_n82 : GoodIn wsX4_bed (wsX1_setBed) := ggX4_bed_X1_setBed
set_option maxRecDepth 20000 in
theorem ggX4_bed_X4_tell : GoodIn wsX4_bed wsX4_tell := goodIn_r _ [36, 37, 38, 39, 40, 41, 42, 43, 44, 45] (by decide +kernel) (by decide +kernel)
set_option maxRecDepth 20000 in
theorem gX4_bed_X4_tell : GoodIn wsX4_bed (wsV RX4 86 RX4 yX4_tell wsX4_tell) := goodIn_app (goodIn_of _ (by decide +kernel)) ggX4_bed_X4_tell
set_option maxRecDepth 20000 in
theorem ggX4_stones_X1_has : GoodIn wsX4_stones wsX1_has := goodIn_r _ [5, 6, 7, 8, 9, 25, 26, 27, 28, 29, 30, 31, 32] (by decide +kernel) (by decide +kernel)
set_option maxRecDepth 20000 in
theorem gX4_stones_X1_has_n60 : GoodIn wsX4_stones (wsX1_has) := ggX4_stones_X1_has
set_option maxRecDepth 20000 in
theorem ggX4_stones_X4_within : GoodIn wsX4_stones wsX4_within := goodIn_r _ [9] (by decide +kernel) (by decide +kernel)
set_option maxRecDepth 20000 in
theorem gX4_stones_X4_within : GoodIn wsX4_stones (va_wsS RX4 52 yX4_within wsX4_within) := goodIn_app (goodIn_of _ (by decide +kernel)) ggX4_stones_X4_within
set_option maxRecDepth 20000 in
theorem ggX4_stones_X4_found : GoodIn wsX4_stones wsX4_found := goodIn_r _ [14, 15, 16, 17, 18, 19, 20, 21, 22, 23, 24] (by decide +kernel) (by decide +kernel)
set_option maxRecDepth 20000 in
theorem gX4_stones_X4_found : GoodIn wsX4_stones (wsV RX4 75 RX4 yX4_found wsX4_found) := goodIn_app (goodIn_of _ (by decide +kernel)) ggX4_stones_X4_found
set_option maxRecDepth 20000 in
theorem ggX4_told_X1_has : GoodIn wsX4_told wsX1_has := goodIn_r _ [5, 6, 7, 8, 9, 18, 19, 20, 21, 22, 23, 24, 25] (by decide +kernel) (by decide +kernel)
set_option maxRecDepth 20000 in
theorem gX4_told_X1_has_n60 : GoodIn wsX4_told (wsX1_has) := ggX4_told_X1_has
set_option maxRecDepth 20000 in
theorem ggX4_mark_X1_has : GoodIn wsX4_mark wsX1_has := goodIn_r _ [5, 6, 7, 8, 9, 29, 30, 31, 32, 33, 34, 35, 36] (by decide +kernel) (by decide +kernel)
set_option maxRecDepth 20000 in
theorem gX4_mark_X1_has_n60 : GoodIn wsX4_mark (wsX1_has) := ggX4_mark_X1_has
set_option maxRecDepth 20000 in
theorem ggX4_mark_X4_within : GoodIn wsX4_mark wsX4_within := goodIn_r _ [9] (by decide +kernel) (by decide +kernel)
set_option maxRecDepth 20000 in
theorem gX4_mark_X4_within : GoodIn wsX4_mark (va_wsS RX4 52 yX4_within wsX4_within) := goodIn_app (goodIn_of _ (by decide +kernel)) ggX4_mark_X4_within
set_option maxRecDepth 20000 in
theorem ggX4_mark_X4_found : GoodIn wsX4_mark wsX4_found := goodIn_r _ [14, 15, 16, 21, 22, 23, 24, 25, 26, 27, 28] (by decide +kernel) (by decide +kernel)
set_option maxRecDepth 20000 in
theorem gX4_mark_X4_found : GoodIn wsX4_mark (wsV RX4 75 RX4 yX4_found wsX4_found) := goodIn_app (goodIn_of _ (by decide +kernel)) ggX4_mark_X4_found
set_option maxRecDepth 20000 in
theorem ggX4_mark_X1_isOf : GoodIn wsX4_mark wsX1_isOf := goodIn_r _ [19, 20, 29, 30, 31, 32, 33, 34, 35, 36] (by decide +kernel) (by decide +kernel)
set_option maxRecDepth 20000 in
theorem gX4_mark_X1_isOf_n96 : GoodIn wsX4_mark (wsX1_isOf) := ggX4_mark_X1_isOf
set_option maxRecDepth 20000 in
theorem ggX4_rail_X1_has : GoodIn wsX4_rail wsX1_has := goodIn_r _ [5, 6, 7, 8, 9, 55, 56, 57, 58, 59, 60, 61, 62] (by decide +kernel) (by decide +kernel)
set_option maxRecDepth 20000 in
theorem gX4_rail_X1_has_n60 : GoodIn wsX4_rail (wsX1_has) := ggX4_rail_X1_has
set_option maxRecDepth 20000 in
theorem ggX4_rail_X1_height : GoodIn wsX4_rail wsX1_height := goodIn_r _ [12, 13, 14, 15, 16, 17, 18, 6, 19, 20, 21, 22, 23, 24, 25, 3, 26, 27, 2, 4, 5, 7, 8, 9, 28, 29, 30, 31, 32, 33, 34, 35, 36, 37, 38, 39, 40, 41, 55, 56, 57, 58, 59, 60, 61, 62] (by decide +kernel) (by decide +kernel)
set_option maxRecDepth 20000 in
theorem gX4_rail_X1_height_n103 : GoodIn wsX4_rail (wsX1_height) := ggX4_rail_X1_height
set_option maxRecDepth 20000 in
theorem ggX4_rail_X4_tell : GoodIn wsX4_rail wsX4_tell := goodIn_r _ [45, 46, 47, 48, 49, 50, 51, 52, 53, 54] (by decide +kernel) (by decide +kernel)
set_option maxRecDepth 20000 in
theorem gX4_rail_X4_tell : GoodIn wsX4_rail (wsV RX4 86 RX4 yX4_tell wsX4_tell) := goodIn_app (goodIn_of _ (by decide +kernel)) ggX4_rail_X4_tell
end
section
set_option maxRecDepth 20000 in
theorem ggX4_gap_X1_has : GoodIn wsX4_gap wsX1_has := goodIn_r _ [5, 6, 7, 8, 9, 56, 57, 58, 59, 60, 61, 62, 63] (by decide +kernel) (by decide +kernel)
set_option maxRecDepth 20000 in
theorem gX4_gap_X1_has_n60 : GoodIn wsX4_gap (wsX1_has) := ggX4_gap_X1_has
set_option maxRecDepth 20000 in
theorem ggX4_gap_X4_found : GoodIn wsX4_gap wsX4_found := goodIn_r _ [13, 14, 15, 48, 49, 50, 51, 52, 53, 54, 55] (by decide +kernel) (by decide +kernel)
set_option maxRecDepth 20000 in
theorem gX4_gap_X4_found : GoodIn wsX4_gap (wsV RX4 75 RX4 yX4_found wsX4_found) := goodIn_app (goodIn_of _ (by decide +kernel)) ggX4_gap_X4_found
set_option maxRecDepth 20000 in
theorem ggX4_gap_X1_height : GoodIn wsX4_gap wsX1_height := goodIn_r _ [18, 19, 20, 21, 22, 23, 24, 6, 25, 26, 27, 28, 29, 30, 31, 3, 32, 33, 2, 4, 5, 7, 8, 9, 34, 35, 36, 37, 38, 39, 40, 41, 42, 43, 44, 45, 46, 47, 56, 57, 58, 59, 60, 61, 62, 63] (by decide +kernel) (by decide +kernel)
set_option maxRecDepth 20000 in
theorem gX4_gap_X1_height_n103 : GoodIn wsX4_gap (wsX1_height) := ggX4_gap_X1_height
set_option maxRecDepth 20000 in
theorem ggX4_axle_X4_within : GoodIn wsX4_axle wsX4_within := goodIn_r _ [5] (by decide +kernel) (by decide +kernel)
set_option maxRecDepth 20000 in
theorem gX4_axle_X4_within : GoodIn wsX4_axle (va_wsS RX4 52 yX4_within wsX4_within) := goodIn_app (goodIn_of _ (by decide +kernel)) ggX4_axle_X4_within
set_option maxRecDepth 20000 in
theorem ggX4_table_X4_within : GoodIn wsX4_table wsX4_within := goodIn_r _ [5] (by decide +kernel) (by decide +kernel)
set_option maxRecDepth 20000 in
theorem gX4_table_X4_within : GoodIn wsX4_table (va_wsS RX4 52 yX4_within wsX4_within) := goodIn_app (goodIn_of _ (by decide +kernel)) ggX4_table_X4_within
set_option maxRecDepth 20000 in
theorem ggX4_pass_X4_within : GoodIn wsX4_pass wsX4_within := goodIn_r _ [6] (by decide +kernel) (by decide +kernel)
set_option maxRecDepth 20000 in
theorem gX4_pass_X4_within : GoodIn wsX4_pass (va_wsS RX4 52 yX4_within wsX4_within) := goodIn_app (goodIn_of _ (by decide +kernel)) ggX4_pass_X4_within
set_option maxRecDepth 20000 in
theorem ggX4_pass_X2_roll : GoodIn wsX4_pass wsX2_roll := goodIn_r _ [10, 11, 12, 13, 14, 15, 8, 16, 17, 18, 19, 20, 21, 22, 23, 24, 25, 26, 27, 28, 29, 30, 31, 4, 5, 6, 32, 33, 34, 35, 36, 37, 38, 39, 40, 41, 42, 43, 44, 45, 46, 47, 48, 49, 50, 51, 52, 53, 54, 55, 56, 57, 58, 59, 60, 61, 62, 63, 64, 65, 66, 67, 68, 69, 70, 71, 72, 73, 74, 75, 76, 77, 78, 79, 80, 81, 82, 83, 84, 85, 86, 98, 99, 100, 101, 102, 103, 104, 105, 95, 96, 97] (by decide +kernel) (by decide +kernel)
set_option maxRecDepth 20000 in
theorem gX4_pass_X2_roll_n116 : GoodIn wsX4_pass (wsX2_roll) := ggX4_pass_X2_roll
set_option maxRecDepth 20000 in
theorem ggX4_mean_X1_standing : GoodIn wsX4_mean wsX1_standing := goodIn_r _ [5, 6, 7, 8, 3, 9, 10, 11, 12, 13, 14, 15, 16, 17, 18, 49, 50, 51, 52, 53, 54, 55, 56] (by decide +kernel) (by decide +kernel)
set_option maxRecDepth 20000 in
theorem gX4_mean_X1_standing_n123 : GoodIn wsX4_mean (wsX1_standing) := ggX4_mean_X1_standing
set_option maxRecDepth 20000 in
theorem ggX4_mean_X4_found : GoodIn wsX4_mean wsX4_found := goodIn_r _ [22, 23, 24, 41, 42, 43, 44, 45, 46, 47, 48] (by decide +kernel) (by decide +kernel)
set_option maxRecDepth 20000 in
theorem gX4_mean_X4_found : GoodIn wsX4_mean (wsV RX4 75 RX4 yX4_found wsX4_found) := goodIn_app (goodIn_of _ (by decide +kernel)) ggX4_mean_X4_found
set_option maxRecDepth 20000 in
theorem ggX4_mean_X1_sumOfBeds : GoodIn wsX4_mean wsX1_sumOfBeds := goodIn_r _ [27, 15, 10, 28, 49, 50, 51, 52, 53, 54, 55, 56] (by decide +kernel) (by decide +kernel)
set_option maxRecDepth 20000 in
theorem gX4_mean_X1_sumOfBeds_n127 : GoodIn wsX4_mean (wsX1_sumOfBeds) := ggX4_mean_X1_sumOfBeds
set_option maxRecDepth 20000 in
theorem ggX4_mean_X4_floorShare : GoodIn wsX4_mean wsX4_floorShare := goodIn_r _ [31, 32, 33, 34, 35] (by decide +kernel) (by decide +kernel)
set_option maxRecDepth 20000 in
theorem gX4_mean_X4_floorShare : GoodIn wsX4_mean (va_wsS RX4 131 yX4_floorShare wsX4_floorShare) := goodIn_app (goodIn_of _ (by decide +kernel)) ggX4_mean_X4_floorShare
set_option maxRecDepth 20000 in
theorem ggX4_mean_X4_tell : GoodIn wsX4_mean wsX4_tell := goodIn_r _ [39, 40, 41, 42, 43, 44, 45, 46, 47, 48] (by decide +kernel) (by decide +kernel)
set_option maxRecDepth 20000 in
theorem gX4_mean_X4_tell : GoodIn wsX4_mean (wsV RX4 86 RX4 yX4_tell wsX4_tell) := goodIn_app (goodIn_of _ (by decide +kernel)) ggX4_mean_X4_tell
set_option maxRecDepth 20000 in
theorem ggX4_lift_X1_has : GoodIn wsX4_lift wsX1_has := goodIn_r _ [5, 6, 7, 8, 9, 47, 48, 49, 50, 51, 52, 53, 54] (by decide +kernel) (by decide +kernel)
set_option maxRecDepth 20000 in
theorem gX4_lift_X1_has_n60 : GoodIn wsX4_lift (wsX1_has) := ggX4_lift_X1_has
set_option maxRecDepth 20000 in
theorem ggX4_lift_X4_within : GoodIn wsX4_lift wsX4_within := goodIn_r _ [9] (by decide +kernel) (by decide +kernel)
set_option maxRecDepth 20000 in
theorem gX4_lift_X4_within : GoodIn wsX4_lift (va_wsS RX4 52 yX4_within wsX4_within) := goodIn_app (goodIn_of _ (by decide +kernel)) ggX4_lift_X4_within
set_option maxRecDepth 20000 in
theorem ggX4_lift_X1_raise : GoodIn wsX4_lift wsX1_raise := goodIn_r _ [13, 14, 15, 16, 17, 18, 19, 20, 21, 22, 23, 3, 24, 25, 26, 2, 4, 5, 6, 7, 8, 9, 27, 28, 29, 30, 31, 32, 33, 34, 35, 36, 37, 38, 47, 48, 49, 50, 51, 52, 53, 54] (by decide +kernel) (by decide +kernel)
set_option maxRecDepth 20000 in
theorem gX4_lift_X1_raise_n134 : GoodIn wsX4_lift (wsX1_raise) := ggX4_lift_X1_raise
set_option maxRecDepth 20000 in
theorem ggX4_measure_X4_isRun : GoodIn wsX4_measure wsX4_isRun := goodIn_r _ [6, 7, 8, 5, 9] (by decide +kernel) (by decide +kernel)
set_option maxRecDepth 20000 in
theorem gX4_measure_X4_isRun : GoodIn wsX4_measure (va_wsS RX4 137 yX4_isRun wsX4_isRun) := goodIn_app (goodIn_of _ (by decide +kernel)) ggX4_measure_X4_isRun
set_option maxRecDepth 20000 in
theorem ggX4_measure_X4_within : GoodIn wsX4_measure wsX4_within := goodIn_r _ [9] (by decide +kernel) (by decide +kernel)
set_option maxRecDepth 20000 in
theorem gX4_measure_X4_within : GoodIn wsX4_measure (va_wsS RX4 52 yX4_within wsX4_within) := goodIn_app (goodIn_of _ (by decide +kernel)) ggX4_measure_X4_within
set_option maxRecDepth 20000 in
theorem ggX4_measure_X0_open : GoodIn wsX4_measure wsX0_open := goodIn_r _ [13, 14, 64, 65] (by decide +kernel) (by decide +kernel)
set_option maxRecDepth 20000 in
theorem gX4_measure_X0_open_n140 : GoodIn wsX4_measure (wsX0_open) := ggX4_measure_X0_open
set_option maxRecDepth 20000 in
theorem ggX4_measure_X1_chord : GoodIn wsX4_measure wsX1_chord := goodIn_r _ [18, 19, 20, 21, 16, 22, 23, 8, 5, 9, 24, 25, 26, 27, 28, 29, 30, 31, 32, 33, 34, 35, 36, 37, 38, 39, 40, 41, 42, 43, 44, 45, 46, 47, 48, 49, 50, 51, 52, 53, 54, 55, 66, 67, 68, 69, 70, 71, 72, 73] (by decide +kernel) (by decide +kernel)
set_option maxRecDepth 20000 in
theorem gX4_measure_X1_chord_n147 : GoodIn wsX4_measure (wsX1_chord) := ggX4_measure_X1_chord
set_option maxRecDepth 20000 in
theorem ggX4_level_X4_isRun : GoodIn wsX4_level wsX4_isRun := goodIn_r _ [6, 7, 8, 5, 9] (by decide +kernel) (by decide +kernel)
set_option maxRecDepth 20000 in
theorem gX4_level_X4_isRun : GoodIn wsX4_level (va_wsS RX4 137 yX4_isRun wsX4_isRun) := goodIn_app (goodIn_of _ (by decide +kernel)) ggX4_level_X4_isRun
set_option maxRecDepth 20000 in
theorem ggX4_level_X0_open : GoodIn wsX4_level wsX0_open := goodIn_r _ [13, 14, 60, 61] (by decide +kernel) (by decide +kernel)
set_option maxRecDepth 20000 in
theorem gX4_level_X0_open_n140 : GoodIn wsX4_level (wsX0_open) := ggX4_level_X0_open
set_option maxRecDepth 20000 in
theorem ggX4_level_X1_has : GoodIn wsX4_level wsX1_has := goodIn_r _ [18, 19, 8, 5, 9, 62, 63, 64, 65, 66, 67, 68, 69] (by decide +kernel) (by decide +kernel)
set_option maxRecDepth 20000 in
theorem gX4_level_X1_has_n60 : GoodIn wsX4_level (wsX1_has) := ggX4_level_X1_has
set_option maxRecDepth 20000 in
theorem ggX4_level_X1_height : GoodIn wsX4_level wsX1_height := goodIn_r _ [22, 23, 24, 25, 26, 27, 28, 19, 29, 30, 31, 32, 33, 34, 35, 16, 36, 37, 15, 17, 18, 8, 5, 9, 38, 39, 40, 41, 42, 43, 44, 45, 46, 47, 48, 49, 50, 51, 62, 63, 64, 65, 66, 67, 68, 69] (by decide +kernel) (by decide +kernel)
set_option maxRecDepth 20000 in
theorem gX4_level_X1_height_n103 : GoodIn wsX4_level (wsX1_height) := ggX4_level_X1_height
set_option maxRecDepth 20000 in
theorem ggX4_lay_X4_isRun : GoodIn wsX4_lay wsX4_isRun := goodIn_r _ [7, 8, 9, 6, 10] (by decide +kernel) (by decide +kernel)
set_option maxRecDepth 20000 in
theorem gX4_lay_X4_isRun : GoodIn wsX4_lay (va_wsS RX4 137 yX4_isRun wsX4_isRun) := goodIn_app (goodIn_of _ (by decide +kernel)) ggX4_lay_X4_isRun
set_option maxRecDepth 20000 in
theorem ggX4_lay_X4_within : GoodIn wsX4_lay wsX4_within := goodIn_r _ [10] (by decide +kernel) (by decide +kernel)
set_option maxRecDepth 20000 in
theorem gX4_lay_X4_within : GoodIn wsX4_lay (va_wsS RX4 52 yX4_within wsX4_within) := goodIn_app (goodIn_of _ (by decide +kernel)) ggX4_lay_X4_within
set_option maxRecDepth 20000 in
theorem ggX4_lay_X4_found : GoodIn wsX4_lay wsX4_found := goodIn_r _ [14, 15, 16, 22, 23, 24, 25, 26, 27, 28, 29] (by decide +kernel) (by decide +kernel)
set_option maxRecDepth 20000 in
theorem gX4_lay_X4_found : GoodIn wsX4_lay (wsV RX4 75 RX4 yX4_found wsX4_found) := goodIn_app (goodIn_of _ (by decide +kernel)) ggX4_lay_X4_found
set_option maxRecDepth 20000 in
theorem ggX4_lay_X4_tell : GoodIn wsX4_lay wsX4_tell := goodIn_r _ [20, 21, 22, 23, 24, 25, 26, 27, 28, 29] (by decide +kernel) (by decide +kernel)
set_option maxRecDepth 20000 in
theorem gX4_lay_X4_tell : GoodIn wsX4_lay (wsV RX4 86 RX4 yX4_tell wsX4_tell) := goodIn_app (goodIn_of _ (by decide +kernel)) ggX4_lay_X4_tell
set_option maxRecDepth 20000 in
theorem ggX4_at_X4_isRun : GoodIn wsX4_at wsX4_isRun := goodIn_r _ [5, 6, 7, 4, 8] (by decide +kernel) (by decide +kernel)
set_option maxRecDepth 20000 in
theorem gX4_at_X4_isRun : GoodIn wsX4_at (va_wsS RX4 137 yX4_isRun wsX4_isRun) := goodIn_app (goodIn_of _ (by decide +kernel)) ggX4_at_X4_isRun
set_option maxRecDepth 20000 in
theorem ggX4_at_X4_found : GoodIn wsX4_at wsX4_found := goodIn_r _ [12, 13, 14, 20, 21, 22, 23, 24, 25, 26, 27] (by decide +kernel) (by decide +kernel)
set_option maxRecDepth 20000 in
theorem gX4_at_X4_found : GoodIn wsX4_at (wsV RX4 75 RX4 yX4_found wsX4_found) := goodIn_app (goodIn_of _ (by decide +kernel)) ggX4_at_X4_found
set_option maxRecDepth 20000 in
theorem ggX4_at_X4_within : GoodIn wsX4_at wsX4_within := goodIn_r _ [8] (by decide +kernel) (by decide +kernel)
set_option maxRecDepth 20000 in
theorem gX4_at_X4_within : GoodIn wsX4_at (va_wsS RX4 52 yX4_within wsX4_within) := goodIn_app (goodIn_of _ (by decide +kernel)) ggX4_at_X4_within
set_option maxRecDepth 20000 in
theorem ggX4_at_X4_tell : GoodIn wsX4_at wsX4_tell := goodIn_r _ [18, 19, 20, 21, 22, 23, 24, 25, 26, 27] (by decide +kernel) (by decide +kernel)
set_option maxRecDepth 20000 in
theorem gX4_at_X4_tell : GoodIn wsX4_at (wsV RX4 86 RX4 yX4_tell wsX4_tell) := goodIn_app (goodIn_of _ (by decide +kernel)) ggX4_at_X4_tell
set_option maxRecDepth 20000 in
theorem ggX4_shape_X4_isRun : GoodIn wsX4_shape wsX4_isRun := goodIn_r _ [6, 7, 8, 5, 9] (by decide +kernel) (by decide +kernel)
set_option maxRecDepth 20000 in
theorem gX4_shape_X4_isRun : GoodIn wsX4_shape (va_wsS RX4 137 yX4_isRun wsX4_isRun) := goodIn_app (goodIn_of _ (by decide +kernel)) ggX4_shape_X4_isRun
set_option maxRecDepth 20000 in
theorem ggX4_shape_X4_within : GoodIn wsX4_shape wsX4_within := goodIn_r _ [9] (by decide +kernel) (by decide +kernel)
set_option maxRecDepth 20000 in
theorem gX4_shape_X4_within : GoodIn wsX4_shape (va_wsS RX4 52 yX4_within wsX4_within) := goodIn_app (goodIn_of _ (by decide +kernel)) ggX4_shape_X4_within
set_option maxRecDepth 20000 in
theorem ggX4_shape_X4_found : GoodIn wsX4_shape wsX4_found := goodIn_r _ [13, 14, 15, 21, 22, 23, 24, 25, 26, 27, 28] (by decide +kernel) (by decide +kernel)
set_option maxRecDepth 20000 in
theorem gX4_shape_X4_found : GoodIn wsX4_shape (wsV RX4 75 RX4 yX4_found wsX4_found) := goodIn_app (goodIn_of _ (by decide +kernel)) ggX4_shape_X4_found
set_option maxRecDepth 20000 in
theorem ggX4_shape_X0_unbend : GoodIn wsX4_shape wsX0_unbend := goodIn_r _ [19, 20, 29, 30] (by decide +kernel) (by decide +kernel)
set_option maxRecDepth 20000 in
theorem gX4_shape_X0_unbend_n155 : GoodIn wsX4_shape (wsX0_unbend) := ggX4_shape_X0_unbend
set_option maxRecDepth 20000 in
theorem ggX4_tear_X4_isRun : GoodIn wsX4_tear wsX4_isRun := goodIn_r _ [5, 6, 7, 4, 8] (by decide +kernel) (by decide +kernel)
set_option maxRecDepth 20000 in
theorem gX4_tear_X4_isRun : GoodIn wsX4_tear (va_wsS RX4 137 yX4_isRun wsX4_isRun) := goodIn_app (goodIn_of _ (by decide +kernel)) ggX4_tear_X4_isRun
set_option maxRecDepth 20000 in
theorem ggX4_tear_X4_found : GoodIn wsX4_tear wsX4_found := goodIn_r _ [12, 13, 14, 15, 16, 17, 18, 19, 20, 21, 22] (by decide +kernel) (by decide +kernel)
set_option maxRecDepth 20000 in
theorem gX4_tear_X4_found : GoodIn wsX4_tear (wsV RX4 75 RX4 yX4_found wsX4_found) := goodIn_app (goodIn_of _ (by decide +kernel)) ggX4_tear_X4_found
set_option maxRecDepth 20000 in
theorem ggX4_copy_X4_isRun : GoodIn wsX4_copy wsX4_isRun := goodIn_r _ [9, 10, 11, 8, 12] (by decide +kernel) (by decide +kernel)
set_option maxRecDepth 20000 in
theorem gX4_copy_X4_isRun : GoodIn wsX4_copy (va_wsS RX4 137 yX4_isRun wsX4_isRun) := goodIn_app (goodIn_of _ (by decide +kernel)) ggX4_copy_X4_isRun
set_option maxRecDepth 20000 in
theorem ggX4_copy_X4_found : GoodIn wsX4_copy wsX4_found := goodIn_r _ [16, 17, 18, 22, 23, 24, 25, 26, 27, 28, 29] (by decide +kernel) (by decide +kernel)
set_option maxRecDepth 20000 in
theorem gX4_copy_X4_found : GoodIn wsX4_copy (wsV RX4 75 RX4 yX4_found wsX4_found) := goodIn_app (goodIn_of _ (by decide +kernel)) ggX4_copy_X4_found
set_option maxRecDepth 20000 in
theorem ggX4_copy_X4_holdsPlaces : GoodIn wsX4_copy wsX4_holdsPlaces := goodIn_r _ [21, 10, 11, 8, 12] (by decide +kernel) (by decide +kernel)
set_option maxRecDepth 20000 in
theorem gX4_copy_X4_holdsPlaces : GoodIn wsX4_copy (va_wsS RX4 159 yX4_holdsPlaces wsX4_holdsPlaces) := goodIn_app (goodIn_of _ (by decide +kernel)) ggX4_copy_X4_holdsPlaces
set_option maxRecDepth 20000 in
theorem ggX4_fit_X4_isRun : GoodIn wsX4_fit wsX4_isRun := goodIn_r _ [6, 7, 8, 5, 9] (by decide +kernel) (by decide +kernel)
set_option maxRecDepth 20000 in
theorem gX4_fit_X4_isRun : GoodIn wsX4_fit (va_wsS RX4 137 yX4_isRun wsX4_isRun) := goodIn_app (goodIn_of _ (by decide +kernel)) ggX4_fit_X4_isRun
set_option maxRecDepth 20000 in
theorem ggX4_fit_X4_found : GoodIn wsX4_fit wsX4_found := goodIn_r _ [13, 14, 15, 30, 31, 32, 33, 34, 35, 36, 37] (by decide +kernel) (by decide +kernel)
set_option maxRecDepth 20000 in
theorem gX4_fit_X4_found : GoodIn wsX4_fit (wsV RX4 75 RX4 yX4_found wsX4_found) := goodIn_app (goodIn_of _ (by decide +kernel)) ggX4_fit_X4_found
set_option maxRecDepth 20000 in
theorem ggX4_fit_X0_bestShift : GoodIn wsX4_fit wsX0_bestShift := goodIn_r _ [19, 20, 21, 22, 17, 23, 24, 46, 47] (by decide +kernel) (by decide +kernel)
set_option maxRecDepth 20000 in
theorem gX4_fit_X0_bestShift_n168 : GoodIn wsX4_fit (wsX0_bestShift) := ggX4_fit_X0_bestShift
set_option maxRecDepth 20000 in
theorem ggX4_fit_X0_squaresApart : GoodIn wsX4_fit wsX0_squaresApart := goodIn_r _ [23, 24, 46, 47] (by decide +kernel) (by decide +kernel)
set_option maxRecDepth 20000 in
theorem gX4_fit_X0_squaresApart_n172 : GoodIn wsX4_fit (wsX0_squaresApart) := ggX4_fit_X0_squaresApart
set_option maxRecDepth 20000 in
theorem ggX4_fit_X4_tell : GoodIn wsX4_fit wsX4_tell := goodIn_r _ [28, 29, 30, 31, 32, 33, 34, 35, 36, 37] (by decide +kernel) (by decide +kernel)
set_option maxRecDepth 20000 in
theorem gX4_fit_X4_tell : GoodIn wsX4_fit (wsV RX4 86 RX4 yX4_tell wsX4_tell) := goodIn_app (goodIn_of _ (by decide +kernel)) ggX4_fit_X4_tell
set_option maxRecDepth 20000 in
theorem ggX4_worst_X4_isRun : GoodIn wsX4_worst wsX4_isRun := goodIn_r _ [6, 7, 8, 5, 9] (by decide +kernel) (by decide +kernel)
set_option maxRecDepth 20000 in
theorem gX4_worst_X4_isRun : GoodIn wsX4_worst (va_wsS RX4 137 yX4_isRun wsX4_isRun) := goodIn_app (goodIn_of _ (by decide +kernel)) ggX4_worst_X4_isRun
set_option maxRecDepth 20000 in
theorem ggX4_worst_X4_found : GoodIn wsX4_worst wsX4_found := goodIn_r _ [13, 14, 15, 34, 35, 36, 37, 38, 39, 40, 41] (by decide +kernel) (by decide +kernel)
set_option maxRecDepth 20000 in
theorem gX4_worst_X4_found : GoodIn wsX4_worst (wsV RX4 75 RX4 yX4_found wsX4_found) := goodIn_app (goodIn_of _ (by decide +kernel)) ggX4_worst_X4_found
set_option maxRecDepth 20000 in
theorem ggX4_worst_X0_steepest : GoodIn wsX4_worst wsX0_steepest := goodIn_r _ [19, 20, 21, 22, 17, 23, 24, 25, 26, 27, 28, 42, 43] (by decide +kernel) (by decide +kernel)
set_option maxRecDepth 20000 in
theorem gX4_worst_X0_steepest_n176 : GoodIn wsX4_worst (wsX0_steepest) := ggX4_worst_X0_steepest
set_option maxRecDepth 20000 in
theorem ggX4_worst_X0_stepAfter : GoodIn wsX4_worst wsX0_stepAfter := goodIn_r _ [23, 24, 25, 26, 27, 28, 42, 43] (by decide +kernel) (by decide +kernel)
set_option maxRecDepth 20000 in
theorem gX4_worst_X0_stepAfter_n179 : GoodIn wsX4_worst (wsX0_stepAfter) := ggX4_worst_X0_stepAfter
set_option maxRecDepth 20000 in
theorem ggX4_worst_X4_tell : GoodIn wsX4_worst wsX4_tell := goodIn_r _ [32, 33, 34, 35, 36, 37, 38, 39, 40, 41] (by decide +kernel) (by decide +kernel)
set_option maxRecDepth 20000 in
theorem gX4_worst_X4_tell : GoodIn wsX4_worst (wsV RX4 86 RX4 yX4_tell wsX4_tell) := goodIn_app (goodIn_of _ (by decide +kernel)) ggX4_worst_X4_tell
set_option maxRecDepth 20000 in
theorem ggX4_pull_X4_isStretch : GoodIn wsX4_pull wsX4_isStretch := goodIn_r _ [5, 6, 7, 4, 8] (by decide +kernel) (by decide +kernel)
set_option maxRecDepth 20000 in
theorem gX4_pull_X4_isStretch : GoodIn wsX4_pull (va_wsS RX4 183 yX4_isStretch wsX4_isStretch) := goodIn_app (goodIn_of _ (by decide +kernel)) ggX4_pull_X4_isStretch
set_option maxRecDepth 20000 in
theorem ggX4_pull_X4_within : GoodIn wsX4_pull wsX4_within := goodIn_r _ [8] (by decide +kernel) (by decide +kernel)
set_option maxRecDepth 20000 in
theorem gX4_pull_X4_within : GoodIn wsX4_pull (va_wsS RX4 52 yX4_within wsX4_within) := goodIn_app (goodIn_of _ (by decide +kernel)) ggX4_pull_X4_within
set_option maxRecDepth 20000 in
theorem ggX4_cut_X4_isStretch : GoodIn wsX4_cut wsX4_isStretch := goodIn_r _ [5, 6, 7, 4, 8] (by decide +kernel) (by decide +kernel)
set_option maxRecDepth 20000 in
theorem gX4_cut_X4_isStretch : GoodIn wsX4_cut (va_wsS RX4 183 yX4_isStretch wsX4_isStretch) := goodIn_app (goodIn_of _ (by decide +kernel)) ggX4_cut_X4_isStretch
set_option maxRecDepth 20000 in
theorem ggX4_cut_X4_isTemperature : GoodIn wsX4_cut wsX4_isTemperature := goodIn_r _ [11, 6, 7, 4, 8] (by decide +kernel) (by decide +kernel)
set_option maxRecDepth 20000 in
theorem gX4_cut_X4_isTemperature : GoodIn wsX4_cut (va_wsS RX4 186 yX4_isTemperature wsX4_isTemperature) := goodIn_app (goodIn_of _ (by decide +kernel)) ggX4_cut_X4_isTemperature
set_option maxRecDepth 20000 in
theorem ggX4_cut_X4_tell : GoodIn wsX4_cut wsX4_tell := goodIn_r _ [15, 16, 17, 18, 19, 20, 21, 22, 23, 24] (by decide +kernel) (by decide +kernel)
set_option maxRecDepth 20000 in
theorem gX4_cut_X4_tell : GoodIn wsX4_cut (wsV RX4 86 RX4 yX4_tell wsX4_tell) := goodIn_app (goodIn_of _ (by decide +kernel)) ggX4_cut_X4_tell
set_option maxRecDepth 20000 in
theorem ggX4_press_X4_isStretch : GoodIn wsX4_press wsX4_isStretch := goodIn_r _ [4, 5, 6, 3, 7] (by decide +kernel) (by decide +kernel)
set_option maxRecDepth 20000 in
theorem gX4_press_X4_isStretch : GoodIn wsX4_press (va_wsS RX4 183 yX4_isStretch wsX4_isStretch) := goodIn_app (goodIn_of _ (by decide +kernel)) ggX4_press_X4_isStretch
set_option maxRecDepth 20000 in
theorem ggX4_press_X4_isTemperature : GoodIn wsX4_press wsX4_isTemperature := goodIn_r _ [10, 5, 6, 3, 7] (by decide +kernel) (by decide +kernel)
set_option maxRecDepth 20000 in
theorem gX4_press_X4_isTemperature : GoodIn wsX4_press (va_wsS RX4 186 yX4_isTemperature wsX4_isTemperature) := goodIn_app (goodIn_of _ (by decide +kernel)) ggX4_press_X4_isTemperature
set_option maxRecDepth 20000 in
theorem ggX4_press_X4_pressOf : GoodIn wsX4_press wsX4_pressOf := goodIn_r _ [14, 15, 21, 22, 23, 24, 25, 26, 27, 28] (by decide +kernel) (by decide +kernel)
set_option maxRecDepth 20000 in
theorem gX4_press_X4_pressOf : GoodIn wsX4_press (wsV RX4 189 RX4 yX4_pressOf wsX4_pressOf) := goodIn_app (goodIn_of _ (by decide +kernel)) ggX4_press_X4_pressOf
set_option maxRecDepth 20000 in
theorem ggX4_press_X4_tell : GoodIn wsX4_press wsX4_tell := goodIn_r _ [19, 20, 21, 22, 23, 24, 25, 26, 27, 28] (by decide +kernel) (by decide +kernel)
set_option maxRecDepth 20000 in
theorem gX4_press_X4_tell : GoodIn wsX4_press (wsV RX4 86 RX4 yX4_tell wsX4_tell) := goodIn_app (goodIn_of _ (by decide +kernel)) ggX4_press_X4_tell
set_option maxRecDepth 20000 in
theorem ggX4_margin_X4_isStretch : GoodIn wsX4_margin wsX4_isStretch := goodIn_r _ [8, 9, 10, 7, 11] (by decide +kernel) (by decide +kernel)
set_option maxRecDepth 20000 in
theorem gX4_margin_X4_isStretch : GoodIn wsX4_margin (va_wsS RX4 183 yX4_isStretch wsX4_isStretch) := goodIn_app (goodIn_of _ (by decide +kernel)) ggX4_margin_X4_isStretch
end
section
set_option maxRecDepth 20000 in
theorem ggX4_margin_X4_isTemperature : GoodIn wsX4_margin wsX4_isTemperature := goodIn_r _ [14, 9, 10, 7, 11] (by decide +kernel) (by decide +kernel)
set_option maxRecDepth 20000 in
theorem gX4_margin_X4_isTemperature : GoodIn wsX4_margin (va_wsS RX4 186 yX4_isTemperature wsX4_isTemperature) := goodIn_app (goodIn_of _ (by decide +kernel)) ggX4_margin_X4_isTemperature
set_option maxRecDepth 20000 in
theorem ggX4_margin_X1_standing : GoodIn wsX4_margin wsX1_standing := goodIn_r _ [18, 19, 20, 21, 16, 22, 23, 24, 25, 26, 27, 28, 10, 7, 11, 97, 98, 99, 100, 101, 102, 103, 104] (by decide +kernel) (by decide +kernel)
set_option maxRecDepth 20000 in
theorem gX4_margin_X1_standing_n123 : GoodIn wsX4_margin (wsX1_standing) := ggX4_margin_X1_standing
set_option maxRecDepth 20000 in
theorem ggX4_margin_X4_found : GoodIn wsX4_margin wsX4_found := goodIn_r _ [32, 33, 34, 89, 90, 91, 92, 93, 94, 95, 96] (by decide +kernel) (by decide +kernel)
set_option maxRecDepth 20000 in
theorem gX4_margin_X4_found : GoodIn wsX4_margin (wsV RX4 75 RX4 yX4_found wsX4_found) := goodIn_app (goodIn_of _ (by decide +kernel)) ggX4_margin_X4_found
set_option maxRecDepth 20000 in
theorem ggX4_margin_X1_sumOfStones : GoodIn wsX4_margin wsX1_sumOfStones := goodIn_r _ [37, 38, 19, 20, 21, 16, 22, 23, 24, 25, 26, 27, 28, 10, 7, 11, 97, 98, 99, 100, 101, 102, 103, 104] (by decide +kernel) (by decide +kernel)
set_option maxRecDepth 20000 in
theorem gX4_margin_X1_sumOfStones_n192 : GoodIn wsX4_margin (wsX1_sumOfStones) := ggX4_margin_X1_sumOfStones
set_option maxRecDepth 20000 in
theorem ggX4_margin_X4_cutShare : GoodIn wsX4_margin wsX4_cutShare := goodIn_r _ [41] (by decide +kernel) (by decide +kernel)
set_option maxRecDepth 20000 in
theorem gX4_margin_X4_cutShare : GoodIn wsX4_margin (va_wsS RX4 195 yX4_cutShare wsX4_cutShare) := goodIn_app (goodIn_of _ (by decide +kernel)) ggX4_margin_X4_cutShare
set_option maxRecDepth 20000 in
theorem ggX4_margin_X1_greatestChord : GoodIn wsX4_margin wsX1_greatestChord := goodIn_r _ [44, 45, 46, 47, 48, 49, 50, 51, 52, 53, 54, 16, 55, 24, 25, 26, 27, 28, 10, 7, 11, 56, 57, 58, 59, 60, 61, 62, 63, 64, 23, 19, 20, 21, 22, 65, 66, 67, 68, 69, 70, 71, 72, 73, 74, 75, 76, 77, 78, 97, 98, 99, 100, 101, 102, 103, 104] (by decide +kernel) (by decide +kernel)
set_option maxRecDepth 20000 in
theorem gX4_margin_X1_greatestChord_n204 : GoodIn wsX4_margin (wsX1_greatestChord) := ggX4_margin_X1_greatestChord
set_option maxRecDepth 20000 in
theorem ggX4_margin_X4_pressOf : GoodIn wsX4_margin wsX4_pressOf := goodIn_r _ [82, 83, 89, 90, 91, 92, 93, 94, 95, 96] (by decide +kernel) (by decide +kernel)
set_option maxRecDepth 20000 in
theorem gX4_margin_X4_pressOf : GoodIn wsX4_margin (wsV RX4 189 RX4 yX4_pressOf wsX4_pressOf) := goodIn_app (goodIn_of _ (by decide +kernel)) ggX4_margin_X4_pressOf
set_option maxRecDepth 20000 in
theorem ggX4_margin_X4_tell : GoodIn wsX4_margin wsX4_tell := goodIn_r _ [87, 88, 89, 90, 91, 92, 93, 94, 95, 96] (by decide +kernel) (by decide +kernel)
set_option maxRecDepth 20000 in
theorem gX4_margin_X4_tell : GoodIn wsX4_margin (wsV RX4 86 RX4 yX4_tell wsX4_tell) := goodIn_app (goodIn_of _ (by decide +kernel)) ggX4_margin_X4_tell
set_option maxRecDepth 20000 in
theorem ggX4_work_X4_within : GoodIn wsX4_work wsX4_within := goodIn_r _ [5] (by decide +kernel) (by decide +kernel)
set_option maxRecDepth 20000 in
theorem gX4_work_X4_within : GoodIn wsX4_work (va_wsS RX4 52 yX4_within wsX4_within) := goodIn_app (goodIn_of _ (by decide +kernel)) ggX4_work_X4_within
set_option maxRecDepth 20000 in
theorem ggX4_work_X3_add : GoodIn wsX4_work wsX3_add := goodIn_r _ [9, 10, 11, 12, 13, 14, 15, 16, 17, 18, 7, 19, 28, 29, 30, 31, 32, 33] (by decide +kernel) (by decide +kernel)
set_option maxRecDepth 20000 in
theorem gX4_work_X3_add_n208 : GoodIn wsX4_work (wsX3_add) := ggX4_work_X3_add
set_option maxRecDepth 20000 in
theorem ggX4_best_X4_within : GoodIn wsX4_best wsX4_within := goodIn_r _ [5] (by decide +kernel) (by decide +kernel)
set_option maxRecDepth 20000 in
theorem gX4_best_X4_within : GoodIn wsX4_best (va_wsS RX4 52 yX4_within wsX4_within) := goodIn_app (goodIn_of _ (by decide +kernel)) ggX4_best_X4_within
set_option maxRecDepth 20000 in
theorem ggX4_best_X3_bestSet : GoodIn wsX4_best wsX3_bestSet := goodIn_r _ [9, 10, 11, 12, 13, 14, 15, 16, 17, 18, 19, 20, 21, 38, 39, 40, 41, 42, 43] (by decide +kernel) (by decide +kernel)
set_option maxRecDepth 20000 in
theorem gX4_best_X3_bestSet_n211 : GoodIn wsX4_best (wsX3_bestSet) := ggX4_best_X3_bestSet
set_option maxRecDepth 20000 in
theorem ggX4_best_X4_tell : GoodIn wsX4_best wsX4_tell := goodIn_r _ [25, 26, 30, 31, 32, 33, 34, 35, 36, 37] (by decide +kernel) (by decide +kernel)
set_option maxRecDepth 20000 in
theorem gX4_best_X4_tell : GoodIn wsX4_best (wsV RX4 86 RX4 yX4_tell wsX4_tell) := goodIn_app (goodIn_of _ (by decide +kernel)) ggX4_best_X4_tell
set_option maxRecDepth 20000 in
theorem ggX4_best_X3_gainOf : GoodIn wsX4_best wsX3_gainOf := goodIn_r _ [29, 10, 13, 38, 39, 40, 41, 42, 43] (by decide +kernel) (by decide +kernel)
set_option maxRecDepth 20000 in
theorem gX4_best_X3_gainOf_n214 : GoodIn wsX4_best (wsX3_gainOf) := ggX4_best_X3_gainOf
set_option maxRecDepth 20000 in
theorem ggX4_first_X4_within : GoodIn wsX4_first wsX4_within := goodIn_r _ [5] (by decide +kernel) (by decide +kernel)
set_option maxRecDepth 20000 in
theorem gX4_first_X4_within : GoodIn wsX4_first (va_wsS RX4 52 yX4_within wsX4_within) := goodIn_app (goodIn_of _ (by decide +kernel)) ggX4_first_X4_within
set_option maxRecDepth 20000 in
theorem ggX4_first_X3_worstFirst : GoodIn wsX4_first wsX3_worstFirst := goodIn_r _ [9, 10, 11, 12, 30, 31, 32, 33, 34, 35] (by decide +kernel) (by decide +kernel)
set_option maxRecDepth 20000 in
theorem gX4_first_X3_worstFirst_n217 : GoodIn wsX4_first (wsX3_worstFirst) := ggX4_first_X3_worstFirst
set_option maxRecDepth 20000 in
theorem ggX4_first_X4_tell : GoodIn wsX4_first wsX4_tell := goodIn_r _ [16, 17, 22, 23, 24, 25, 26, 27, 28, 29] (by decide +kernel) (by decide +kernel)
set_option maxRecDepth 20000 in
theorem gX4_first_X4_tell : GoodIn wsX4_first (wsV RX4 86 RX4 yX4_tell wsX4_tell) := goodIn_app (goodIn_of _ (by decide +kernel)) ggX4_first_X4_tell
set_option maxRecDepth 20000 in
theorem ggX4_first_X3_gainOf : GoodIn wsX4_first wsX3_gainOf := goodIn_r _ [20, 10, 21, 30, 31, 32, 33, 34, 35] (by decide +kernel) (by decide +kernel)
set_option maxRecDepth 20000 in
theorem gX4_first_X3_gainOf_n214 : GoodIn wsX4_first (wsX3_gainOf) := ggX4_first_X3_gainOf
set_option maxRecDepth 20000 in
theorem ggX4_count_X1_standing : GoodIn wsX4_count wsX1_standing := goodIn_r _ [8, 9, 10, 11, 6, 12, 13, 14, 15, 16, 17, 18, 19, 20, 21, 35, 36, 37, 38, 39, 40, 41, 42] (by decide +kernel) (by decide +kernel)
set_option maxRecDepth 20000 in
theorem gX4_count_X1_standing_n123 : GoodIn wsX4_count (wsX1_standing) := ggX4_count_X1_standing
set_option maxRecDepth 20000 in
theorem ggX4_count_X0_howMany : GoodIn wsX4_count wsX0_howMany := goodIn_r _ [25, 26, 52, 53] (by decide +kernel) (by decide +kernel)
set_option maxRecDepth 20000 in
theorem gX4_count_X0_howMany_n220 : GoodIn wsX4_count (wsX0_howMany) := ggX4_count_X0_howMany
set_option maxRecDepth 20000 in
theorem ggX4_findings_X4_within : GoodIn wsX4_findings wsX4_within := goodIn_r _ [5] (by decide +kernel) (by decide +kernel)
set_option maxRecDepth 20000 in
theorem gX4_findings_X4_within : GoodIn wsX4_findings (va_wsS RX4 52 yX4_within wsX4_within) := goodIn_app (goodIn_of _ (by decide +kernel)) ggX4_findings_X4_within
set_option maxRecDepth 20000 in
theorem ggX4_digest_X4_count : GoodIn wsX4_digest wsX4_count := goodIn_r _ [10, 3, 11, 5, 12, 13, 14, 15, 16, 17, 18, 19, 20, 21, 22, 23, 24, 25, 26, 27, 9, 28, 29, 30, 31, 32, 33, 43, 44, 45, 46, 47, 48, 49, 50, 51, 52, 53, 54, 55, 56, 57, 58, 59, 60, 61, 62, 63, 64, 65, 66, 67, 68, 69] (by decide +kernel) (by decide +kernel)
set_option maxRecDepth 20000 in
theorem gX4_digest_X4_count : GoodIn wsX4_digest (wsV RX4 227 RX4 yX4_count wsX4_count) := goodIn_app (goodIn_of _ (by decide +kernel)) ggX4_digest_X4_count
set_option maxRecDepth 20000 in
theorem ggX4_digest_X4_told : GoodIn wsX4_digest wsX4_told := goodIn_r _ [37, 3, 23, 14, 24, 25, 26, 27, 9, 28, 43, 44, 45, 46, 47, 48, 49, 50, 51, 52, 53, 54, 55, 56, 57, 58] (by decide +kernel) (by decide +kernel)
set_option maxRecDepth 20000 in
theorem gX4_digest_X4_told : GoodIn wsX4_digest (wsV RX4 230 RX4 yX4_told wsX4_told) := goodIn_app (goodIn_of _ (by decide +kernel)) ggX4_digest_X4_told
set_option maxRecDepth 20000 in
theorem ggX4_digest_X0_digestOn : GoodIn wsX4_digest wsX0_digestOn := goodIn_r _ [40, 33, 41, 42, 68, 69] (by decide +kernel) (by decide +kernel)
set_option maxRecDepth 20000 in
theorem gX4_digest_X0_digestOn_n233 : GoodIn wsX4_digest (wsX0_digestOn) := ggX4_digest_X0_digestOn
set_option maxRecDepth 20000 in
theorem ggX4_isRun_X4_within : GoodIn wsX4_isRun wsX4_within := goodIn_r _ [4] (by decide +kernel) (by decide +kernel)
set_option maxRecDepth 20000 in
theorem gX4_isRun_X4_within : GoodIn wsX4_isRun (va_wsS RX4 52 yX4_within wsX4_within) := goodIn_app (goodIn_of _ (by decide +kernel)) ggX4_isRun_X4_within
set_option maxRecDepth 20000 in
theorem ggX4_isStretch_X4_within : GoodIn wsX4_isStretch wsX4_within := goodIn_r _ [4] (by decide +kernel) (by decide +kernel)
set_option maxRecDepth 20000 in
theorem gX4_isStretch_X4_within : GoodIn wsX4_isStretch (va_wsS RX4 52 yX4_within wsX4_within) := goodIn_app (goodIn_of _ (by decide +kernel)) ggX4_isStretch_X4_within
set_option maxRecDepth 20000 in
theorem ggX4_isTemperature_X4_within : GoodIn wsX4_isTemperature wsX4_within := goodIn_r _ [4] (by decide +kernel) (by decide +kernel)
set_option maxRecDepth 20000 in
theorem gX4_isTemperature_X4_within : GoodIn wsX4_isTemperature (va_wsS RX4 52 yX4_within wsX4_within) := goodIn_app (goodIn_of _ (by decide +kernel)) ggX4_isTemperature_X4_within
set_option maxRecDepth 20000 in
theorem ggX4_holdsPlaces_X4_within : GoodIn wsX4_holdsPlaces wsX4_within := goodIn_r _ [4] (by decide +kernel) (by decide +kernel)
set_option maxRecDepth 20000 in
theorem gX4_holdsPlaces_X4_within : GoodIn wsX4_holdsPlaces (va_wsS RX4 52 yX4_within wsX4_within) := goodIn_app (goodIn_of _ (by decide +kernel)) ggX4_holdsPlaces_X4_within
set_option maxRecDepth 20000 in
theorem ggX4_floorShare_J9_floorDiv_7cf53 : GoodIn wsX4_floorShare wsJ9_floorDiv_7cf53 := goodIn_r _ [4] (by decide +kernel) (by decide +kernel)
set_option maxRecDepth 20000 in
theorem gX4_floorShare_J9_floorDiv_7cf53 : GoodIn wsX4_floorShare (va_wsS RX4 237 yJ9_floorDiv_7cf53 wsJ9_floorDiv_7cf53) := goodIn_app (goodIn_of _ (by decide +kernel)) ggX4_floorShare_J9_floorDiv_7cf53
set_option maxRecDepth 20000 in
theorem ggX5_init_X5_line : GoodIn wsX5_init wsX5_line := goodIn_r _ [25, 26, 6, 7, 8, 9, 10, 12, 27, 28, 24, 29, 30, 31, 32, 33, 34, 35, 36, 37, 38, 39, 40, 41, 42, 43, 44, 45, 46, 47, 48, 49] (by decide +kernel) (by decide +kernel)
set_option maxRecDepth 20000 in
theorem gX5_init_X5_line : GoodIn wsX5_init (wsV RX5 56 RX5 yX5_line wsX5_line) := goodIn_app (goodIn_of _ (by decide +kernel)) ggX5_init_X5_line
set_option maxRecDepth 20000 in
theorem ggX5_line_X5_in : GoodIn wsX5_line wsX5_in := goodIn_r _ [11] (by decide +kernel) (by decide +kernel)
set_option maxRecDepth 20000 in
theorem gX5_line_X5_in : GoodIn wsX5_line (va_wsS RX5 68 yX5_in wsX5_in) := goodIn_app (goodIn_of _ (by decide +kernel)) ggX5_line_X5_in
set_option maxRecDepth 20000 in
theorem ggX5_isSleeper_X5_in : GoodIn wsX5_isSleeper wsX5_in := goodIn_r _ [5] (by decide +kernel) (by decide +kernel)
set_option maxRecDepth 20000 in
theorem gX5_isSleeper_X5_in : GoodIn wsX5_isSleeper (va_wsS RX5 68 yX5_in wsX5_in) := goodIn_app (goodIn_of _ (by decide +kernel)) ggX5_isSleeper_X5_in
set_option maxRecDepth 20000 in
theorem ggX5_looked_X5_isSleeper : GoodIn wsX5_looked wsX5_isSleeper := goodIn_r _ [6, 7, 8, 9, 5, 10, 17, 18, 19, 20, 21, 22, 23, 24, 25, 26, 27, 28, 29, 30, 31, 32, 33, 34, 35, 36] (by decide +kernel) (by decide +kernel)
set_option maxRecDepth 20000 in
theorem gX5_looked_X5_isSleeper : GoodIn wsX5_looked (wsV RX5 75 RX5 yX5_isSleeper wsX5_isSleeper) := goodIn_app (goodIn_of _ (by decide +kernel)) ggX5_looked_X5_isSleeper
set_option maxRecDepth 20000 in
theorem ggX5_looked_X5_meets : GoodIn wsX5_looked wsX5_meets := goodIn_r _ [14, 15, 16, 17, 18, 19, 20, 21, 22, 23, 24, 25, 26, 27, 28, 29, 30, 31, 32, 33, 34, 35, 36] (by decide +kernel) (by decide +kernel)
set_option maxRecDepth 20000 in
theorem gX5_looked_X5_meets : GoodIn wsX5_looked (wsV RX5 79 RX5 yX5_meets wsX5_meets) := goodIn_app (goodIn_of _ (by decide +kernel)) ggX5_looked_X5_meets
set_option maxRecDepth 20000 in
theorem ggX5_sleeper_X5_isSleeper : GoodIn wsX5_sleeper wsX5_isSleeper := goodIn_r _ [7, 8, 9, 10, 6, 11, 12, 13, 14, 15, 16, 17, 18, 19, 20, 21, 22, 23, 24, 25, 26, 27, 28, 29, 30, 31] (by decide +kernel) (by decide +kernel)
set_option maxRecDepth 20000 in
theorem gX5_sleeper_X5_isSleeper : GoodIn wsX5_sleeper (wsV RX5 75 RX5 yX5_isSleeper wsX5_isSleeper) := goodIn_app (goodIn_of _ (by decide +kernel)) ggX5_sleeper_X5_isSleeper
set_option maxRecDepth 20000 in
theorem ggX5_sleeper_X5_in : GoodIn wsX5_sleeper wsX5_in := goodIn_r _ [11] (by decide +kernel) (by decide +kernel)
set_option maxRecDepth 20000 in
theorem gX5_sleeper_X5_in : GoodIn wsX5_sleeper (va_wsS RX5 68 yX5_in wsX5_in) := goodIn_app (goodIn_of _ (by decide +kernel)) ggX5_sleeper_X5_in
set_option maxRecDepth 20000 in
theorem ggX5_lose_X5_isSleeper : GoodIn wsX5_lose wsX5_isSleeper := goodIn_r _ [6, 7, 8, 9, 5, 10, 11, 12, 13, 14, 15, 16, 17, 18, 19, 20, 21, 22, 23, 24, 25, 26, 27, 28, 29, 30] (by decide +kernel) (by decide +kernel)
set_option maxRecDepth 20000 in
theorem gX5_lose_X5_isSleeper : GoodIn wsX5_lose (wsV RX5 75 RX5 yX5_isSleeper wsX5_isSleeper) := goodIn_app (goodIn_of _ (by decide +kernel)) ggX5_lose_X5_isSleeper
set_option maxRecDepth 20000 in
theorem ggX5_bed_X5_in : GoodIn wsX5_bed wsX5_in := goodIn_r _ [6] (by decide +kernel) (by decide +kernel)
set_option maxRecDepth 20000 in
theorem gX5_bed_X5_in : GoodIn wsX5_bed (va_wsS RX5 68 yX5_in wsX5_in) := goodIn_app (goodIn_of _ (by decide +kernel)) ggX5_bed_X5_in
set_option maxRecDepth 20000 in
theorem ggX5_bed_X5_looked : GoodIn wsX5_bed wsX5_looked := goodIn_r _ [10, 11, 12, 13, 14, 5, 15, 16, 3, 4, 6, 17, 18, 19, 20, 21, 22, 23, 24, 25, 26, 27, 28, 29, 30, 31, 32, 33, 34, 35, 36, 37, 38, 39, 40, 41, 42] (by decide +kernel) (by decide +kernel)
set_option maxRecDepth 20000 in
theorem gX5_bed_X5_looked : GoodIn wsX5_bed (wsV RX5 82 RX5 yX5_looked wsX5_looked) := goodIn_app (goodIn_of _ (by decide +kernel)) ggX5_bed_X5_looked
set_option maxRecDepth 20000 in
theorem ggX5_stones_X5_in : GoodIn wsX5_stones wsX5_in := goodIn_r _ [5] (by decide +kernel) (by decide +kernel)
set_option maxRecDepth 20000 in
theorem gX5_stones_X5_in : GoodIn wsX5_stones (va_wsS RX5 68 yX5_in wsX5_in) := goodIn_app (goodIn_of _ (by decide +kernel)) ggX5_stones_X5_in
set_option maxRecDepth 20000 in
theorem ggX5_stones_X5_looked : GoodIn wsX5_stones wsX5_looked := goodIn_r _ [9, 10, 11, 12, 13, 4, 14, 15, 2, 3, 5, 16, 17, 18, 19, 20, 21, 22, 23, 24, 25, 26, 27, 28, 29, 30, 31, 32, 33, 34, 35, 36, 37, 38, 39, 40, 41] (by decide +kernel) (by decide +kernel)
set_option maxRecDepth 20000 in
theorem gX5_stones_X5_looked : GoodIn wsX5_stones (wsV RX5 82 RX5 yX5_looked wsX5_looked) := goodIn_app (goodIn_of _ (by decide +kernel)) ggX5_stones_X5_looked
set_option maxRecDepth 20000 in
theorem ggX5_told_X5_isSleeper : GoodIn wsX5_told wsX5_isSleeper := goodIn_r _ [5, 6, 7, 8, 4, 9, 18, 19, 20, 21, 22, 23, 24, 25, 26, 27, 28, 29, 30, 31, 32, 33, 34, 35, 36, 37] (by decide +kernel) (by decide +kernel)
set_option maxRecDepth 20000 in
theorem gX5_told_X5_isSleeper : GoodIn wsX5_told (wsV RX5 75 RX5 yX5_isSleeper wsX5_isSleeper) := goodIn_app (goodIn_of _ (by decide +kernel)) ggX5_told_X5_isSleeper
set_option maxRecDepth 20000 in
theorem ggX5_told_X5_in : GoodIn wsX5_told wsX5_in := goodIn_r _ [9] (by decide +kernel) (by decide +kernel)
set_option maxRecDepth 20000 in
theorem gX5_told_X5_in : GoodIn wsX5_told (va_wsS RX5 68 yX5_in wsX5_in) := goodIn_app (goodIn_of _ (by decide +kernel)) ggX5_told_X5_in
set_option maxRecDepth 20000 in
theorem ggX5_told_X5_tells : GoodIn wsX5_told wsX5_tells := goodIn_r _ [13, 14, 15, 16, 17, 18, 19, 20, 21, 22, 23, 24, 25, 26, 27, 28, 29, 30, 31, 32, 33, 34, 35, 36, 37] (by decide +kernel) (by decide +kernel)
set_option maxRecDepth 20000 in
theorem gX5_told_X5_tells : GoodIn wsX5_told (wsV RX5 85 RX5 yX5_tells wsX5_tells) := goodIn_app (goodIn_of _ (by decide +kernel)) ggX5_told_X5_tells
set_option maxRecDepth 20000 in
theorem ggX5_mark_X5_in : GoodIn wsX5_mark wsX5_in := goodIn_r _ [8] (by decide +kernel) (by decide +kernel)
set_option maxRecDepth 20000 in
theorem gX5_mark_X5_in : GoodIn wsX5_mark (va_wsS RX5 68 yX5_in wsX5_in) := goodIn_app (goodIn_of _ (by decide +kernel)) ggX5_mark_X5_in
set_option maxRecDepth 20000 in
theorem ggX5_mark_X5_looked : GoodIn wsX5_mark wsX5_looked := goodIn_r _ [12, 13, 14, 15, 16, 7, 17, 18, 5, 6, 8, 19, 20, 21, 22, 23, 24, 25, 26, 27, 28, 29, 30, 31, 32, 33, 34, 35, 36, 37, 38, 39, 40, 41, 42, 43, 44] (by decide +kernel) (by decide +kernel)
set_option maxRecDepth 20000 in
theorem gX5_mark_X5_looked : GoodIn wsX5_mark (wsV RX5 82 RX5 yX5_looked wsX5_looked) := goodIn_app (goodIn_of _ (by decide +kernel)) ggX5_mark_X5_looked
set_option maxRecDepth 20000 in
theorem ggX5_mark_X5_meets : GoodIn wsX5_mark wsX5_meets := goodIn_r _ [22, 23, 24, 25, 26, 27, 28, 29, 30, 31, 32, 33, 34, 35, 36, 37, 38, 39, 40, 41, 42, 43, 44] (by decide +kernel) (by decide +kernel)
set_option maxRecDepth 20000 in
theorem gX5_mark_X5_meets : GoodIn wsX5_mark (wsV RX5 79 RX5 yX5_meets wsX5_meets) := goodIn_app (goodIn_of _ (by decide +kernel)) ggX5_mark_X5_meets
set_option maxRecDepth 20000 in
theorem ggX5_railAt_X5_floor : GoodIn wsX5_railAt wsX5_floor := goodIn_r _ [7] (by decide +kernel) (by decide +kernel)
set_option maxRecDepth 20000 in
theorem gX5_railAt_X5_floor : GoodIn wsX5_railAt (va_wsS RX5 89 yX5_floor wsX5_floor) := goodIn_app (goodIn_of _ (by decide +kernel)) ggX5_railAt_X5_floor
set_option maxRecDepth 20000 in
theorem ggX5_railAt_X5_isSleeper : GoodIn wsX5_railAt wsX5_isSleeper := goodIn_r _ [11, 1, 12, 13, 6, 14, 15, 16, 17, 18, 19, 20, 21, 22, 23, 24, 25, 26, 27, 28, 29, 30, 31, 32, 33, 34] (by decide +kernel) (by decide +kernel)
set_option maxRecDepth 20000 in
theorem gX5_railAt_X5_isSleeper : GoodIn wsX5_railAt (wsV RX5 75 RX5 yX5_isSleeper wsX5_isSleeper) := goodIn_app (goodIn_of _ (by decide +kernel)) ggX5_railAt_X5_isSleeper
set_option maxRecDepth 20000 in
theorem ggX5_rail_X5_isSleeper : GoodIn wsX5_rail wsX5_isSleeper := goodIn_r _ [5, 6, 7, 8, 4, 9, 24, 25, 26, 27, 28, 29, 30, 31, 32, 33, 34, 35, 36, 37, 38, 39, 40, 41, 42, 43] (by decide +kernel) (by decide +kernel)
set_option maxRecDepth 20000 in
theorem gX5_rail_X5_isSleeper : GoodIn wsX5_rail (wsV RX5 75 RX5 yX5_isSleeper wsX5_isSleeper) := goodIn_app (goodIn_of _ (by decide +kernel)) ggX5_rail_X5_isSleeper
set_option maxRecDepth 20000 in
theorem ggX5_rail_X5_railAt : GoodIn wsX5_rail wsX5_railAt := goodIn_r _ [13, 6, 14, 15, 16, 17, 4, 18, 1, 2, 3, 5, 7, 8, 9, 24, 25, 26, 27, 28, 29, 30, 31, 32, 33, 34, 35, 36, 37, 38, 39, 40, 41, 42, 43] (by decide +kernel) (by decide +kernel)
set_option maxRecDepth 20000 in
theorem gX5_rail_X5_railAt : GoodIn wsX5_rail (wsV RX5 93 RX5 yX5_railAt wsX5_railAt) := goodIn_app (goodIn_of _ (by decide +kernel)) ggX5_rail_X5_railAt
set_option maxRecDepth 20000 in
theorem ggX5_rail_X5_tell : GoodIn wsX5_rail wsX5_tell := goodIn_r _ [22, 23, 24, 25, 26, 27, 28, 29, 30, 31, 32, 33, 34, 35, 36, 37, 38, 39, 40, 41, 42, 43] (by decide +kernel) (by decide +kernel)
set_option maxRecDepth 20000 in
theorem gX5_rail_X5_tell : GoodIn wsX5_rail (wsV RX5 96 RX5 yX5_tell wsX5_tell) := goodIn_app (goodIn_of _ (by decide +kernel)) ggX5_rail_X5_tell
set_option maxRecDepth 20000 in
theorem ggX5_gap_X5_looked : GoodIn wsX5_gap wsX5_looked := goodIn_r _ [6, 7, 8, 9, 10, 5, 11, 12, 13, 14, 15, 16, 17, 18, 19, 20, 21, 29, 30, 31, 32, 33, 34, 35, 36, 37, 38, 39, 40, 41, 42, 43, 44, 45, 46, 47, 48] (by decide +kernel) (by decide +kernel)
set_option maxRecDepth 20000 in
theorem gX5_gap_X5_looked : GoodIn wsX5_gap (wsV RX5 82 RX5 yX5_looked wsX5_looked) := goodIn_app (goodIn_of _ (by decide +kernel)) ggX5_gap_X5_looked
set_option maxRecDepth 20000 in
theorem ggX5_gap_X5_railAt : GoodIn wsX5_gap wsX5_railAt := goodIn_r _ [25, 12, 7, 1, 26, 27, 5, 28, 8, 9, 10, 11, 13, 14, 15, 29, 30, 31, 32, 33, 34, 35, 36, 37, 38, 39, 40, 41, 42, 43, 44, 45, 46, 47, 48] (by decide +kernel) (by decide +kernel)
set_option maxRecDepth 20000 in
theorem gX5_gap_X5_railAt : GoodIn wsX5_gap (wsV RX5 93 RX5 yX5_railAt wsX5_railAt) := goodIn_app (goodIn_of _ (by decide +kernel)) ggX5_gap_X5_railAt
set_option maxRecDepth 20000 in
theorem ggX5_axle_X5_in : GoodIn wsX5_axle wsX5_in := goodIn_r _ [6] (by decide +kernel) (by decide +kernel)
set_option maxRecDepth 20000 in
theorem gX5_axle_X5_in : GoodIn wsX5_axle (va_wsS RX5 68 yX5_in wsX5_in) := goodIn_app (goodIn_of _ (by decide +kernel)) ggX5_axle_X5_in
set_option maxRecDepth 20000 in
theorem ggX5_table_X5_in : GoodIn wsX5_table wsX5_in := goodIn_r _ [5] (by decide +kernel) (by decide +kernel)
set_option maxRecDepth 20000 in
theorem gX5_table_X5_in : GoodIn wsX5_table (va_wsS RX5 68 yX5_in wsX5_in) := goodIn_app (goodIn_of _ (by decide +kernel)) ggX5_table_X5_in
set_option maxRecDepth 20000 in
theorem ggX5_bears_X5_isSleeper : GoodIn wsX5_bears wsX5_isSleeper := goodIn_r _ [7, 8, 9, 10, 6, 11, 19, 20, 21, 22, 23, 24, 25, 26, 27, 28, 29, 30, 31, 32, 33, 34, 35, 36, 37, 38] (by decide +kernel) (by decide +kernel)
set_option maxRecDepth 20000 in
theorem gX5_bears_X5_isSleeper : GoodIn wsX5_bears (wsV RX5 75 RX5 yX5_isSleeper wsX5_isSleeper) := goodIn_app (goodIn_of _ (by decide +kernel)) ggX5_bears_X5_isSleeper
set_option maxRecDepth 20000 in
theorem ggX5_bears_X5_railAt : GoodIn wsX5_bears wsX5_railAt := goodIn_r _ [15, 8, 1, 2, 16, 17, 6, 18, 3, 4, 5, 7, 9, 10, 11, 19, 20, 21, 22, 23, 24, 25, 26, 27, 28, 29, 30, 31, 32, 33, 34, 35, 36, 37, 38] (by decide +kernel) (by decide +kernel)
set_option maxRecDepth 20000 in
theorem gX5_bears_X5_railAt : GoodIn wsX5_bears (wsV RX5 93 RX5 yX5_railAt wsX5_railAt) := goodIn_app (goodIn_of _ (by decide +kernel)) ggX5_bears_X5_railAt
set_option maxRecDepth 20000 in
theorem ggX5_rolls_X5_bears : GoodIn wsX5_rolls wsX5_bears := goodIn_r _ [8, 2, 9, 10, 11, 12, 7, 13, 14, 15, 16, 17, 18, 19, 20, 21, 22, 23, 24, 32, 33, 34, 35, 36, 37, 38, 39, 40, 41, 42, 43, 44, 45, 46, 47, 48, 49, 50, 51] (by decide +kernel) (by decide +kernel)
set_option maxRecDepth 20000 in
theorem gX5_rolls_X5_bears : GoodIn wsX5_rolls (wsV RX5 102 RX5 yX5_bears wsX5_bears) := goodIn_app (goodIn_of _ (by decide +kernel)) ggX5_rolls_X5_bears
set_option maxRecDepth 20000 in
theorem ggX5_rolls_X5_sink : GoodIn wsX5_rolls wsX5_sink := goodIn_r _ [28, 29, 30, 1, 31, 9, 32, 33, 34, 35, 36, 37, 38, 39, 40, 41, 42, 43, 44, 45, 46, 47, 48, 49, 50, 51] (by decide +kernel) (by decide +kernel)
set_option maxRecDepth 20000 in
theorem gX5_rolls_X5_sink : GoodIn wsX5_rolls (wsV RX5 105 RX5 yX5_sink wsX5_sink) := goodIn_app (goodIn_of _ (by decide +kernel)) ggX5_rolls_X5_sink
end
section
set_option maxRecDepth 20000 in
theorem ggX5_pass_X5_in : GoodIn wsX5_pass wsX5_in := goodIn_r _ [7] (by decide +kernel) (by decide +kernel)
set_option maxRecDepth 20000 in
theorem gX5_pass_X5_in : GoodIn wsX5_pass (va_wsS RX5 68 yX5_in wsX5_in) := goodIn_app (goodIn_of _ (by decide +kernel)) ggX5_pass_X5_in
set_option maxRecDepth 20000 in
theorem ggX5_pass_X5_rolls : GoodIn wsX5_pass wsX5_rolls := goodIn_r _ [11, 12, 13, 14, 15, 16, 17, 6, 18, 19, 20, 21, 22, 23, 2, 4, 5, 7, 24, 25, 26, 27, 28, 29, 30, 31, 32, 33, 34, 35, 36, 37, 38, 39, 40, 41, 42, 43, 44, 45, 46, 47, 48, 49, 50, 51, 52, 53, 54, 55, 56, 57] (by decide +kernel) (by decide +kernel)
set_option maxRecDepth 20000 in
theorem gX5_pass_X5_rolls : GoodIn wsX5_pass (wsV RX5 108 RX5 yX5_rolls wsX5_rolls) := goodIn_app (goodIn_of _ (by decide +kernel)) ggX5_pass_X5_rolls
set_option maxRecDepth 20000 in
theorem ggX5_mean_X5_meets : GoodIn wsX5_mean wsX5_meets := goodIn_r _ [8, 9, 10, 19, 20, 21, 22, 23, 24, 25, 26, 27, 28, 29, 30, 31, 32, 33, 34, 35, 36, 37, 38] (by decide +kernel) (by decide +kernel)
set_option maxRecDepth 20000 in
theorem gX5_mean_X5_meets : GoodIn wsX5_mean (wsV RX5 79 RX5 yX5_meets wsX5_meets) := goodIn_app (goodIn_of _ (by decide +kernel)) ggX5_mean_X5_meets
set_option maxRecDepth 20000 in
theorem ggX5_mean_X5_floor : GoodIn wsX5_mean wsX5_floor := goodIn_r _ [13] (by decide +kernel) (by decide +kernel)
set_option maxRecDepth 20000 in
theorem gX5_mean_X5_floor : GoodIn wsX5_mean (va_wsS RX5 89 yX5_floor wsX5_floor) := goodIn_app (goodIn_of _ (by decide +kernel)) ggX5_mean_X5_floor
set_option maxRecDepth 20000 in
theorem ggX5_mean_X5_tell : GoodIn wsX5_mean wsX5_tell := goodIn_r _ [17, 18, 19, 20, 21, 22, 23, 24, 25, 26, 27, 28, 29, 30, 31, 32, 33, 34, 35, 36, 37, 38] (by decide +kernel) (by decide +kernel)
set_option maxRecDepth 20000 in
theorem gX5_mean_X5_tell : GoodIn wsX5_mean (wsV RX5 96 RX5 yX5_tell wsX5_tell) := goodIn_app (goodIn_of _ (by decide +kernel)) ggX5_mean_X5_tell
set_option maxRecDepth 20000 in
theorem ggX5_lift_X5_isSleeper : GoodIn wsX5_lift wsX5_isSleeper := goodIn_r _ [9, 10, 11, 12, 8, 13, 14, 15, 16, 17, 18, 19, 20, 21, 22, 23, 24, 25, 26, 27, 28, 29, 30, 31, 32, 33] (by decide +kernel) (by decide +kernel)
set_option maxRecDepth 20000 in
theorem gX5_lift_X5_isSleeper : GoodIn wsX5_lift (wsV RX5 75 RX5 yX5_isSleeper wsX5_isSleeper) := goodIn_app (goodIn_of _ (by decide +kernel)) ggX5_lift_X5_isSleeper
set_option maxRecDepth 20000 in
theorem ggX5_lift_X5_in : GoodIn wsX5_lift wsX5_in := goodIn_r _ [13] (by decide +kernel) (by decide +kernel)
set_option maxRecDepth 20000 in
theorem gX5_lift_X5_in : GoodIn wsX5_lift (va_wsS RX5 68 yX5_in wsX5_in) := goodIn_app (goodIn_of _ (by decide +kernel)) ggX5_lift_X5_in
set_option maxRecDepth 20000 in
theorem ggX5_isNumber_X5_in : GoodIn wsX5_isNumber wsX5_in := goodIn_r _ [4] (by decide +kernel) (by decide +kernel)
set_option maxRecDepth 20000 in
theorem gX5_isNumber_X5_in : GoodIn wsX5_isNumber (va_wsS RX5 68 yX5_in wsX5_in) := goodIn_app (goodIn_of _ (by decide +kernel)) ggX5_isNumber_X5_in
set_option maxRecDepth 20000 in
theorem ggX5_chordAt_X5_isSleeper : GoodIn wsX5_chordAt wsX5_isSleeper := goodIn_r _ [5, 6, 7, 8, 4, 9, 19, 20, 21, 22, 23, 24, 25, 26, 27, 28, 29, 30, 31, 32, 33, 34, 35, 36, 37, 38] (by decide +kernel) (by decide +kernel)
set_option maxRecDepth 20000 in
theorem gX5_chordAt_X5_isSleeper : GoodIn wsX5_chordAt (wsV RX5 75 RX5 yX5_isSleeper wsX5_isSleeper) := goodIn_app (goodIn_of _ (by decide +kernel)) ggX5_chordAt_X5_isSleeper
set_option maxRecDepth 20000 in
theorem ggX5_chordAt_X5_railAt : GoodIn wsX5_chordAt wsX5_railAt := goodIn_r _ [13, 6, 14, 15, 16, 17, 4, 18, 1, 2, 3, 5, 7, 8, 9, 19, 20, 21, 22, 23, 24, 25, 26, 27, 28, 29, 30, 31, 32, 33, 34, 35, 36, 37, 38] (by decide +kernel) (by decide +kernel)
set_option maxRecDepth 20000 in
theorem gX5_chordAt_X5_railAt : GoodIn wsX5_chordAt (wsV RX5 93 RX5 yX5_railAt wsX5_railAt) := goodIn_app (goodIn_of _ (by decide +kernel)) ggX5_chordAt_X5_railAt
set_option maxRecDepth 20000 in
theorem ggX5_measure_X5_isNumber : GoodIn wsX5_measure wsX5_isNumber := goodIn_r _ [7, 8, 9, 6, 10] (by decide +kernel) (by decide +kernel)
set_option maxRecDepth 20000 in
theorem gX5_measure_X5_isNumber : GoodIn wsX5_measure (va_wsS RX5 111 yX5_isNumber wsX5_isNumber) := goodIn_app (goodIn_of _ (by decide +kernel)) ggX5_measure_X5_isNumber
set_option maxRecDepth 20000 in
theorem ggX5_measure_X5_in : GoodIn wsX5_measure wsX5_in := goodIn_r _ [10] (by decide +kernel) (by decide +kernel)
set_option maxRecDepth 20000 in
theorem gX5_measure_X5_in : GoodIn wsX5_measure (va_wsS RX5 68 yX5_in wsX5_in) := goodIn_app (goodIn_of _ (by decide +kernel)) ggX5_measure_X5_in
set_option maxRecDepth 20000 in
theorem ggX5_measure_X5_chordAt : GoodIn wsX5_measure wsX5_chordAt := goodIn_r _ [14, 15, 16, 17, 6, 18, 3, 8, 9, 10, 19, 20, 21, 22, 23, 24, 25, 26, 27, 28, 29, 30, 31, 32, 33, 34, 35, 36, 37, 38, 39, 40, 41, 42, 43, 44, 45, 46, 47] (by decide +kernel) (by decide +kernel)
set_option maxRecDepth 20000 in
theorem gX5_measure_X5_chordAt : GoodIn wsX5_measure (wsV RX5 114 RX5 yX5_chordAt wsX5_chordAt) := goodIn_app (goodIn_of _ (by decide +kernel)) ggX5_measure_X5_chordAt
set_option maxRecDepth 20000 in
theorem ggX5_level_X5_isNumber : GoodIn wsX5_level wsX5_isNumber := goodIn_r _ [7, 8, 9, 6, 10] (by decide +kernel) (by decide +kernel)
set_option maxRecDepth 20000 in
theorem gX5_level_X5_isNumber : GoodIn wsX5_level (va_wsS RX5 111 yX5_isNumber wsX5_isNumber) := goodIn_app (goodIn_of _ (by decide +kernel)) ggX5_level_X5_isNumber
set_option maxRecDepth 20000 in
theorem ggX5_level_X5_railAt : GoodIn wsX5_level wsX5_railAt := goodIn_r _ [14, 3, 15, 16, 17, 18, 6, 19, 20, 21, 22, 23, 8, 9, 10, 24, 25, 26, 27, 28, 29, 30, 31, 32, 33, 34, 35, 36, 37, 38, 39, 40, 41, 42, 43] (by decide +kernel) (by decide +kernel)
set_option maxRecDepth 20000 in
theorem gX5_level_X5_railAt : GoodIn wsX5_level (wsV RX5 93 RX5 yX5_railAt wsX5_railAt) := goodIn_app (goodIn_of _ (by decide +kernel)) ggX5_level_X5_railAt
set_option maxRecDepth 20000 in
theorem ggX5_askedFor_X5_isNumber : GoodIn wsX5_askedFor wsX5_isNumber := goodIn_r _ [5, 6, 7, 4, 8] (by decide +kernel) (by decide +kernel)
set_option maxRecDepth 20000 in
theorem gX5_askedFor_X5_isNumber : GoodIn wsX5_askedFor (va_wsS RX5 111 yX5_isNumber wsX5_isNumber) := goodIn_app (goodIn_of _ (by decide +kernel)) ggX5_askedFor_X5_isNumber
set_option maxRecDepth 20000 in
theorem ggX5_askedFor_X5_meets : GoodIn wsX5_askedFor wsX5_meets := goodIn_r _ [12, 13, 14, 15, 16, 17, 18, 19, 20, 21, 22, 23, 24, 25, 26, 27, 28, 29, 30, 31, 32, 33, 34] (by decide +kernel) (by decide +kernel)
set_option maxRecDepth 20000 in
theorem gX5_askedFor_X5_meets : GoodIn wsX5_askedFor (wsV RX5 79 RX5 yX5_meets wsX5_meets) := goodIn_app (goodIn_of _ (by decide +kernel)) ggX5_askedFor_X5_meets
set_option maxRecDepth 20000 in
theorem ggX5_lay_X5_in : GoodIn wsX5_lay wsX5_in := goodIn_r _ [8] (by decide +kernel) (by decide +kernel)
set_option maxRecDepth 20000 in
theorem gX5_lay_X5_in : GoodIn wsX5_lay (va_wsS RX5 68 yX5_in wsX5_in) := goodIn_app (goodIn_of _ (by decide +kernel)) ggX5_lay_X5_in
set_option maxRecDepth 20000 in
theorem ggX5_lay_X5_askedFor : GoodIn wsX5_lay wsX5_askedFor := goodIn_r _ [12, 13, 14, 15, 7, 16, 5, 6, 8, 17, 18, 19, 20, 21, 22, 23, 24, 25, 26, 27, 28, 29, 30, 31, 32, 33, 34, 35, 36, 37, 38, 39, 40, 41, 42] (by decide +kernel) (by decide +kernel)
set_option maxRecDepth 20000 in
theorem gX5_lay_X5_askedFor : GoodIn wsX5_lay (wsV RX5 119 RX5 yX5_askedFor wsX5_askedFor) := goodIn_app (goodIn_of _ (by decide +kernel)) ggX5_lay_X5_askedFor
set_option maxRecDepth 20000 in
theorem ggX5_lay_X5_meets : GoodIn wsX5_lay wsX5_meets := goodIn_r _ [20, 21, 22, 23, 24, 25, 26, 27, 28, 29, 30, 31, 32, 33, 34, 35, 36, 37, 38, 39, 40, 41, 42] (by decide +kernel) (by decide +kernel)
set_option maxRecDepth 20000 in
theorem gX5_lay_X5_meets : GoodIn wsX5_lay (wsV RX5 79 RX5 yX5_meets wsX5_meets) := goodIn_app (goodIn_of _ (by decide +kernel)) ggX5_lay_X5_meets
set_option maxRecDepth 20000 in
theorem ggX5_at_X5_askedFor : GoodIn wsX5_at wsX5_askedFor := goodIn_r _ [6, 7, 8, 9, 5, 10, 11, 12, 13, 14, 15, 16, 17, 18, 19, 25, 26, 27, 28, 29, 30, 31, 32, 33, 34, 35, 36, 37, 38, 39, 40, 41, 42, 43, 44] (by decide +kernel) (by decide +kernel)
set_option maxRecDepth 20000 in
theorem gX5_at_X5_askedFor : GoodIn wsX5_at (wsV RX5 119 RX5 yX5_askedFor wsX5_askedFor) := goodIn_app (goodIn_of _ (by decide +kernel)) ggX5_at_X5_askedFor
set_option maxRecDepth 20000 in
theorem ggX5_at_X5_in : GoodIn wsX5_at wsX5_in := goodIn_r _ [13] (by decide +kernel) (by decide +kernel)
set_option maxRecDepth 20000 in
theorem gX5_at_X5_in : GoodIn wsX5_at (va_wsS RX5 68 yX5_in wsX5_in) := goodIn_app (goodIn_of _ (by decide +kernel)) ggX5_at_X5_in
set_option maxRecDepth 20000 in
theorem ggX5_at_X5_tell : GoodIn wsX5_at wsX5_tell := goodIn_r _ [23, 24, 25, 26, 27, 28, 29, 30, 31, 32, 33, 34, 35, 36, 37, 38, 39, 40, 41, 42, 43, 44] (by decide +kernel) (by decide +kernel)
set_option maxRecDepth 20000 in
theorem gX5_at_X5_tell : GoodIn wsX5_at (wsV RX5 96 RX5 yX5_tell wsX5_tell) := goodIn_app (goodIn_of _ (by decide +kernel)) ggX5_at_X5_tell
set_option maxRecDepth 20000 in
theorem ggX5_at_X5_meets : GoodIn wsX5_at wsX5_meets := goodIn_r _ [17, 18, 19, 25, 26, 27, 28, 29, 30, 31, 32, 33, 34, 35, 36, 37, 38, 39, 40, 41, 42, 43, 44] (by decide +kernel) (by decide +kernel)
set_option maxRecDepth 20000 in
theorem gX5_at_X5_meets : GoodIn wsX5_at (wsV RX5 79 RX5 yX5_meets wsX5_meets) := goodIn_app (goodIn_of _ (by decide +kernel)) ggX5_at_X5_meets
set_option maxRecDepth 20000 in
theorem ggX5_shape_X5_in : GoodIn wsX5_shape wsX5_in := goodIn_r _ [7] (by decide +kernel) (by decide +kernel)
set_option maxRecDepth 20000 in
theorem gX5_shape_X5_in : GoodIn wsX5_shape (va_wsS RX5 68 yX5_in wsX5_in) := goodIn_app (goodIn_of _ (by decide +kernel)) ggX5_shape_X5_in
set_option maxRecDepth 20000 in
theorem ggX5_shape_X5_askedFor : GoodIn wsX5_shape wsX5_askedFor := goodIn_r _ [11, 12, 13, 14, 6, 15, 4, 5, 7, 16, 17, 18, 19, 20, 21, 22, 23, 24, 25, 26, 27, 28, 29, 30, 31, 32, 33, 34, 35, 36, 37, 38, 39, 40, 41] (by decide +kernel) (by decide +kernel)
set_option maxRecDepth 20000 in
theorem gX5_shape_X5_askedFor : GoodIn wsX5_shape (wsV RX5 119 RX5 yX5_askedFor wsX5_askedFor) := goodIn_app (goodIn_of _ (by decide +kernel)) ggX5_shape_X5_askedFor
set_option maxRecDepth 20000 in
theorem ggX5_tear_X5_askedFor : GoodIn wsX5_tear wsX5_askedFor := goodIn_r _ [6, 1, 7, 8, 5, 9, 10, 11, 12, 13, 14, 15, 16, 17, 18, 19, 20, 21, 22, 23, 24, 25, 26, 27, 28, 29, 30, 31, 32, 33, 34, 35, 36, 37, 38] (by decide +kernel) (by decide +kernel)
set_option maxRecDepth 20000 in
theorem gX5_tear_X5_askedFor : GoodIn wsX5_tear (wsV RX5 119 RX5 yX5_askedFor wsX5_askedFor) := goodIn_app (goodIn_of _ (by decide +kernel)) ggX5_tear_X5_askedFor
set_option maxRecDepth 20000 in
theorem ggX5_copy_X5_isNumber : GoodIn wsX5_copy wsX5_isNumber := goodIn_r _ [8, 9, 10, 7, 11] (by decide +kernel) (by decide +kernel)
set_option maxRecDepth 20000 in
theorem gX5_copy_X5_isNumber : GoodIn wsX5_copy (va_wsS RX5 111 yX5_isNumber wsX5_isNumber) := goodIn_app (goodIn_of _ (by decide +kernel)) ggX5_copy_X5_isNumber
set_option maxRecDepth 20000 in
theorem ggX5_copy_X5_meets : GoodIn wsX5_copy wsX5_meets := goodIn_r _ [15, 16, 17, 18, 19, 20, 21, 22, 23, 24, 25, 26, 27, 28, 29, 30, 31, 32, 33, 34, 35, 36, 37] (by decide +kernel) (by decide +kernel)
set_option maxRecDepth 20000 in
theorem gX5_copy_X5_meets : GoodIn wsX5_copy (wsV RX5 79 RX5 yX5_meets wsX5_meets) := goodIn_app (goodIn_of _ (by decide +kernel)) ggX5_copy_X5_meets
set_option maxRecDepth 20000 in
theorem ggX5_fit_X5_isNumber : GoodIn wsX5_fit wsX5_isNumber := goodIn_r _ [6, 7, 8, 5, 9] (by decide +kernel) (by decide +kernel)
set_option maxRecDepth 20000 in
theorem gX5_fit_X5_isNumber : GoodIn wsX5_fit (va_wsS RX5 111 yX5_isNumber wsX5_isNumber) := goodIn_app (goodIn_of _ (by decide +kernel)) ggX5_fit_X5_isNumber
set_option maxRecDepth 20000 in
theorem ggX5_fit_X5_meets : GoodIn wsX5_fit wsX5_meets := goodIn_r _ [13, 14, 15, 26, 27, 28, 29, 30, 31, 32, 33, 34, 35, 36, 37, 38, 39, 40, 41, 42, 43, 44, 45] (by decide +kernel) (by decide +kernel)
set_option maxRecDepth 20000 in
theorem gX5_fit_X5_meets : GoodIn wsX5_fit (wsV RX5 79 RX5 yX5_meets wsX5_meets) := goodIn_app (goodIn_of _ (by decide +kernel)) ggX5_fit_X5_meets
set_option maxRecDepth 20000 in
theorem ggX5_fit_X5_apart : GoodIn wsX5_fit wsX5_apart := goodIn_r _ [19, 1, 20, 26, 27, 28, 29, 30, 31, 32, 33, 34, 35, 36, 37, 38, 39, 40, 41, 42, 43, 44, 45] (by decide +kernel) (by decide +kernel)
set_option maxRecDepth 20000 in
theorem gX5_fit_X5_apart : GoodIn wsX5_fit (wsV RX5 124 RX5 yX5_apart wsX5_apart) := goodIn_app (goodIn_of _ (by decide +kernel)) ggX5_fit_X5_apart
set_option maxRecDepth 20000 in
theorem ggX5_fit_X5_tell : GoodIn wsX5_fit wsX5_tell := goodIn_r _ [24, 25, 26, 27, 28, 29, 30, 31, 32, 33, 34, 35, 36, 37, 38, 39, 40, 41, 42, 43, 44, 45] (by decide +kernel) (by decide +kernel)
set_option maxRecDepth 20000 in
theorem gX5_fit_X5_tell : GoodIn wsX5_fit (wsV RX5 96 RX5 yX5_tell wsX5_tell) := goodIn_app (goodIn_of _ (by decide +kernel)) ggX5_fit_X5_tell
set_option maxRecDepth 20000 in
theorem ggX5_worst_X5_askedFor : GoodIn wsX5_worst wsX5_askedFor := goodIn_r _ [8, 9, 10, 11, 7, 12, 13, 14, 15, 16, 17, 18, 19, 20, 21, 27, 28, 29, 30, 31, 32, 33, 34, 35, 36, 37, 38, 39, 40, 41, 42, 43, 44, 45, 46] (by decide +kernel) (by decide +kernel)
set_option maxRecDepth 20000 in
theorem gX5_worst_X5_askedFor : GoodIn wsX5_worst (wsV RX5 119 RX5 yX5_askedFor wsX5_askedFor) := goodIn_app (goodIn_of _ (by decide +kernel)) ggX5_worst_X5_askedFor
set_option maxRecDepth 20000 in
theorem ggX5_worst_X5_tell : GoodIn wsX5_worst wsX5_tell := goodIn_r _ [25, 26, 27, 28, 29, 30, 31, 32, 33, 34, 35, 36, 37, 38, 39, 40, 41, 42, 43, 44, 45, 46] (by decide +kernel) (by decide +kernel)
set_option maxRecDepth 20000 in
theorem gX5_worst_X5_tell : GoodIn wsX5_worst (wsV RX5 96 RX5 yX5_tell wsX5_tell) := goodIn_app (goodIn_of _ (by decide +kernel)) ggX5_worst_X5_tell
set_option maxRecDepth 20000 in
theorem ggX5_isStretch_X5_in : GoodIn wsX5_isStretch wsX5_in := goodIn_r _ [4] (by decide +kernel) (by decide +kernel)
set_option maxRecDepth 20000 in
theorem gX5_isStretch_X5_in : GoodIn wsX5_isStretch (va_wsS RX5 68 yX5_in wsX5_in) := goodIn_app (goodIn_of _ (by decide +kernel)) ggX5_isStretch_X5_in
set_option maxRecDepth 20000 in
theorem ggX5_isWarmth_X5_in : GoodIn wsX5_isWarmth wsX5_in := goodIn_r _ [4] (by decide +kernel) (by decide +kernel)
set_option maxRecDepth 20000 in
theorem gX5_isWarmth_X5_in : GoodIn wsX5_isWarmth (va_wsS RX5 68 yX5_in wsX5_in) := goodIn_app (goodIn_of _ (by decide +kernel)) ggX5_isWarmth_X5_in
set_option maxRecDepth 20000 in
theorem ggX5_pull_X5_isStretch : GoodIn wsX5_pull wsX5_isStretch := goodIn_r _ [5, 6, 7, 4, 8] (by decide +kernel) (by decide +kernel)
set_option maxRecDepth 20000 in
theorem gX5_pull_X5_isStretch : GoodIn wsX5_pull (va_wsS RX5 130 yX5_isStretch wsX5_isStretch) := goodIn_app (goodIn_of _ (by decide +kernel)) ggX5_pull_X5_isStretch
set_option maxRecDepth 20000 in
theorem ggX5_pull_X5_in : GoodIn wsX5_pull wsX5_in := goodIn_r _ [8] (by decide +kernel) (by decide +kernel)
set_option maxRecDepth 20000 in
theorem gX5_pull_X5_in : GoodIn wsX5_pull (va_wsS RX5 68 yX5_in wsX5_in) := goodIn_app (goodIn_of _ (by decide +kernel)) ggX5_pull_X5_in
set_option maxRecDepth 20000 in
theorem ggX5_cut_X5_isStretch : GoodIn wsX5_cut wsX5_isStretch := goodIn_r _ [6, 7, 8, 5, 9] (by decide +kernel) (by decide +kernel)
set_option maxRecDepth 20000 in
theorem gX5_cut_X5_isStretch : GoodIn wsX5_cut (va_wsS RX5 130 yX5_isStretch wsX5_isStretch) := goodIn_app (goodIn_of _ (by decide +kernel)) ggX5_cut_X5_isStretch
set_option maxRecDepth 20000 in
theorem ggX5_cut_X5_isWarmth : GoodIn wsX5_cut wsX5_isWarmth := goodIn_r _ [12, 7, 8, 5, 9] (by decide +kernel) (by decide +kernel)
set_option maxRecDepth 20000 in
theorem gX5_cut_X5_isWarmth : GoodIn wsX5_cut (va_wsS RX5 133 yX5_isWarmth wsX5_isWarmth) := goodIn_app (goodIn_of _ (by decide +kernel)) ggX5_cut_X5_isWarmth
set_option maxRecDepth 20000 in
theorem ggX5_press_X5_isStretch : GoodIn wsX5_press wsX5_isStretch := goodIn_r _ [4, 5, 6, 3, 7] (by decide +kernel) (by decide +kernel)
set_option maxRecDepth 20000 in
theorem gX5_press_X5_isStretch : GoodIn wsX5_press (va_wsS RX5 130 yX5_isStretch wsX5_isStretch) := goodIn_app (goodIn_of _ (by decide +kernel)) ggX5_press_X5_isStretch
set_option maxRecDepth 20000 in
theorem ggX5_press_X5_isWarmth : GoodIn wsX5_press wsX5_isWarmth := goodIn_r _ [10, 5, 6, 3, 7] (by decide +kernel) (by decide +kernel)
set_option maxRecDepth 20000 in
theorem gX5_press_X5_isWarmth : GoodIn wsX5_press (va_wsS RX5 133 yX5_isWarmth wsX5_isWarmth) := goodIn_app (goodIn_of _ (by decide +kernel)) ggX5_press_X5_isWarmth
set_option maxRecDepth 20000 in
theorem ggX5_press_X5_pressOf : GoodIn wsX5_press wsX5_pressOf := goodIn_r _ [14, 15, 16, 22, 23, 24, 25, 26, 27, 28, 29, 30, 31, 32, 33, 34, 35, 36, 37, 38, 39, 40, 41] (by decide +kernel) (by decide +kernel)
set_option maxRecDepth 20000 in
theorem gX5_press_X5_pressOf : GoodIn wsX5_press (wsV RX5 138 RX5 yX5_pressOf wsX5_pressOf) := goodIn_app (goodIn_of _ (by decide +kernel)) ggX5_press_X5_pressOf
set_option maxRecDepth 20000 in
theorem ggX5_press_X5_tell : GoodIn wsX5_press wsX5_tell := goodIn_r _ [20, 21, 22, 23, 24, 25, 26, 27, 28, 29, 30, 31, 32, 33, 34, 35, 36, 37, 38, 39, 40, 41] (by decide +kernel) (by decide +kernel)
set_option maxRecDepth 20000 in
theorem gX5_press_X5_tell : GoodIn wsX5_press (wsV RX5 96 RX5 yX5_tell wsX5_tell) := goodIn_app (goodIn_of _ (by decide +kernel)) ggX5_press_X5_tell
set_option maxRecDepth 20000 in
theorem ggX5_margin_X5_isStretch : GoodIn wsX5_margin wsX5_isStretch := goodIn_r _ [10, 11, 12, 9, 13] (by decide +kernel) (by decide +kernel)
set_option maxRecDepth 20000 in
theorem gX5_margin_X5_isStretch : GoodIn wsX5_margin (va_wsS RX5 130 yX5_isStretch wsX5_isStretch) := goodIn_app (goodIn_of _ (by decide +kernel)) ggX5_margin_X5_isStretch
set_option maxRecDepth 20000 in
theorem ggX5_margin_X5_isWarmth : GoodIn wsX5_margin wsX5_isWarmth := goodIn_r _ [16, 11, 12, 9, 13] (by decide +kernel) (by decide +kernel)
set_option maxRecDepth 20000 in
theorem gX5_margin_X5_isWarmth : GoodIn wsX5_margin (va_wsS RX5 133 yX5_isWarmth wsX5_isWarmth) := goodIn_app (goodIn_of _ (by decide +kernel)) ggX5_margin_X5_isWarmth
set_option maxRecDepth 20000 in
theorem ggX5_margin_X5_chordAt : GoodIn wsX5_margin wsX5_chordAt := goodIn_r _ [20, 21, 22, 23, 9, 24, 1, 11, 12, 13, 25, 26, 27, 28, 2, 29, 30, 31, 32, 50, 51, 52, 53, 54, 55, 56, 57, 58, 59, 60, 61, 62, 63, 64, 65, 66, 67, 68, 69] (by decide +kernel) (by decide +kernel)
set_option maxRecDepth 20000 in
theorem gX5_margin_X5_chordAt : GoodIn wsX5_margin (wsV RX5 114 RX5 yX5_chordAt wsX5_chordAt) := goodIn_app (goodIn_of _ (by decide +kernel)) ggX5_margin_X5_chordAt
set_option maxRecDepth 20000 in
theorem ggX5_margin_X5_meets : GoodIn wsX5_margin wsX5_meets := goodIn_r _ [36, 37, 38, 50, 51, 52, 53, 54, 55, 56, 57, 58, 59, 60, 61, 62, 63, 64, 65, 66, 67, 68, 69] (by decide +kernel) (by decide +kernel)
set_option maxRecDepth 20000 in
theorem gX5_margin_X5_meets : GoodIn wsX5_margin (wsV RX5 79 RX5 yX5_meets wsX5_meets) := goodIn_app (goodIn_of _ (by decide +kernel)) ggX5_margin_X5_meets
set_option maxRecDepth 20000 in
theorem ggX5_margin_X5_pressOf : GoodIn wsX5_margin wsX5_pressOf := goodIn_r _ [42, 43, 44, 50, 51, 52, 53, 54, 55, 56, 57, 58, 59, 60, 61, 62, 63, 64, 65, 66, 67, 68, 69] (by decide +kernel) (by decide +kernel)
set_option maxRecDepth 20000 in
theorem gX5_margin_X5_pressOf : GoodIn wsX5_margin (wsV RX5 138 RX5 yX5_pressOf wsX5_pressOf) := goodIn_app (goodIn_of _ (by decide +kernel)) ggX5_margin_X5_pressOf
set_option maxRecDepth 20000 in
theorem ggX5_margin_X5_tell : GoodIn wsX5_margin wsX5_tell := goodIn_r _ [48, 49, 50, 51, 52, 53, 54, 55, 56, 57, 58, 59, 60, 61, 62, 63, 64, 65, 66, 67, 68, 69] (by decide +kernel) (by decide +kernel)
set_option maxRecDepth 20000 in
theorem gX5_margin_X5_tell : GoodIn wsX5_margin (wsV RX5 96 RX5 yX5_tell wsX5_tell) := goodIn_app (goodIn_of _ (by decide +kernel)) ggX5_margin_X5_tell
set_option maxRecDepth 20000 in
theorem ggX5_work_X5_in : GoodIn wsX5_work wsX5_in := goodIn_r _ [7] (by decide +kernel) (by decide +kernel)
set_option maxRecDepth 20000 in
theorem gX5_work_X5_in : GoodIn wsX5_work (va_wsS RX5 68 yX5_in wsX5_in) := goodIn_app (goodIn_of _ (by decide +kernel)) ggX5_work_X5_in
set_option maxRecDepth 20000 in
theorem ggX5_best_X5_in : GoodIn wsX5_best wsX5_in := goodIn_r _ [5] (by decide +kernel) (by decide +kernel)
set_option maxRecDepth 20000 in
theorem gX5_best_X5_in : GoodIn wsX5_best (va_wsS RX5 68 yX5_in wsX5_in) := goodIn_app (goodIn_of _ (by decide +kernel)) ggX5_best_X5_in
set_option maxRecDepth 20000 in
theorem ggX5_best_X5_sumOf : GoodIn wsX5_best wsX5_sumOf := goodIn_r _ [9, 1, 10, 11, 17, 18, 19, 20, 21, 22, 23, 24, 25, 26, 27, 28, 29, 30, 31, 32, 33, 34, 35, 36] (by decide +kernel) (by decide +kernel)
set_option maxRecDepth 20000 in
theorem gX5_best_X5_sumOf : GoodIn wsX5_best (wsV RX5 151 RX5 yX5_sumOf wsX5_sumOf) := goodIn_app (goodIn_of _ (by decide +kernel)) ggX5_best_X5_sumOf
set_option maxRecDepth 20000 in
theorem ggX5_best_X5_tell : GoodIn wsX5_best wsX5_tell := goodIn_r _ [15, 16, 17, 18, 19, 20, 21, 22, 23, 24, 25, 26, 27, 28, 29, 30, 31, 32, 33, 34, 35, 36] (by decide +kernel) (by decide +kernel)
set_option maxRecDepth 20000 in
theorem gX5_best_X5_tell : GoodIn wsX5_best (wsV RX5 96 RX5 yX5_tell wsX5_tell) := goodIn_app (goodIn_of _ (by decide +kernel)) ggX5_best_X5_tell
set_option maxRecDepth 20000 in
theorem ggX5_first_X5_in : GoodIn wsX5_first wsX5_in := goodIn_r _ [7] (by decide +kernel) (by decide +kernel)
set_option maxRecDepth 20000 in
theorem gX5_first_X5_in : GoodIn wsX5_first (va_wsS RX5 68 yX5_in wsX5_in) := goodIn_app (goodIn_of _ (by decide +kernel)) ggX5_first_X5_in
set_option maxRecDepth 20000 in
theorem ggX5_first_X5_sumOf : GoodIn wsX5_first wsX5_sumOf := goodIn_r _ [11, 1, 3, 2, 17, 18, 19, 20, 21, 22, 23, 24, 25, 26, 27, 28, 29, 30, 31, 32, 33, 34, 35, 36] (by decide +kernel) (by decide +kernel)
set_option maxRecDepth 20000 in
theorem gX5_first_X5_sumOf : GoodIn wsX5_first (wsV RX5 151 RX5 yX5_sumOf wsX5_sumOf) := goodIn_app (goodIn_of _ (by decide +kernel)) ggX5_first_X5_sumOf
set_option maxRecDepth 20000 in
theorem ggX5_first_X5_tell : GoodIn wsX5_first wsX5_tell := goodIn_r _ [15, 16, 17, 18, 19, 20, 21, 22, 23, 24, 25, 26, 27, 28, 29, 30, 31, 32, 33, 34, 35, 36] (by decide +kernel) (by decide +kernel)
set_option maxRecDepth 20000 in
theorem gX5_first_X5_tell : GoodIn wsX5_first (wsV RX5 96 RX5 yX5_tell wsX5_tell) := goodIn_app (goodIn_of _ (by decide +kernel)) ggX5_first_X5_tell
set_option maxRecDepth 20000 in
theorem ggX5_count_X5_in : GoodIn wsX5_count wsX5_in := goodIn_r _ [4] (by decide +kernel) (by decide +kernel)
set_option maxRecDepth 20000 in
theorem gX5_count_X5_in : GoodIn wsX5_count (va_wsS RX5 68 yX5_in wsX5_in) := goodIn_app (goodIn_of _ (by decide +kernel)) ggX5_count_X5_in
set_option maxRecDepth 20000 in
theorem ggX5_count_X5_tellsCount : GoodIn wsX5_count wsX5_tellsCount := goodIn_r _ [8, 9, 10, 11, 12, 13, 14, 15, 16, 17, 18, 19, 20, 21, 22, 23, 24, 25, 26, 27, 28, 29, 30, 31, 32, 33] (by decide +kernel) (by decide +kernel)
set_option maxRecDepth 20000 in
theorem gX5_count_X5_tellsCount : GoodIn wsX5_count (wsV RX5 155 RX5 yX5_tellsCount wsX5_tellsCount) := goodIn_app (goodIn_of _ (by decide +kernel)) ggX5_count_X5_tellsCount
end
section
set_option maxRecDepth 20000 in
theorem ggX5_findings_X5_in : GoodIn wsX5_findings wsX5_in := goodIn_r _ [5] (by decide +kernel) (by decide +kernel)
set_option maxRecDepth 20000 in
theorem gX5_findings_X5_in : GoodIn wsX5_findings (va_wsS RX5 68 yX5_in wsX5_in) := goodIn_app (goodIn_of _ (by decide +kernel)) ggX5_findings_X5_in
set_option maxRecDepth 20000 in
theorem ggX5_digest_X5_tellsCount : GoodIn wsX5_digest wsX5_tellsCount := goodIn_r _ [12, 3, 13, 6, 14, 15, 23, 24, 25, 26, 27, 28, 29, 30, 31, 32, 33, 34, 35, 36, 37, 38, 39, 40, 41, 42] (by decide +kernel) (by decide +kernel)
set_option maxRecDepth 20000 in
theorem gX5_digest_X5_tellsCount : GoodIn wsX5_digest (wsV RX5 155 RX5 yX5_tellsCount wsX5_tellsCount) := goodIn_app (goodIn_of _ (by decide +kernel)) ggX5_digest_X5_tellsCount
set_option maxRecDepth 20000 in
theorem ggX5_digest_X5_tells : GoodIn wsX5_digest wsX5_tells := goodIn_r _ [19, 20, 21, 22, 13, 23, 24, 25, 26, 27, 28, 29, 30, 31, 32, 33, 34, 35, 36, 37, 38, 39, 40, 41, 42] (by decide +kernel) (by decide +kernel)
set_option maxRecDepth 20000 in
theorem gX5_digest_X5_tells : GoodIn wsX5_digest (wsV RX5 85 RX5 yX5_tells wsX5_tells) := goodIn_app (goodIn_of _ (by decide +kernel)) ggX5_digest_X5_tells
end
section
theorem dX0_init_0 : decode cX0_init 0 = .ok (.aload_n 0, 1) := by decide +kernel
theorem dX0_init_1 : decode cX0_init 1 = .ok (.invokespecial 3, 3) := by decide +kernel
theorem dX0_init_4 : decode cX0_init 4 = .ok (.aload_n 0, 1) := by decide +kernel
theorem dX0_init_5 : decode cX0_init 5 = .ok (.bipush 6, 2) := by decide +kernel
theorem dX0_init_7 : decode cX0_init 7 = .ok (.bipush 40, 2) := by decide +kernel
theorem dX0_init_9 : decode cX0_init 9 = .ok (.multianewarray 9 2, 4) := by decide +kernel
theorem dX0_init_13 : decode cX0_init 13 = .ok (.putfield 11, 3) := by decide +kernel
theorem dX0_init_16 : decode cX0_init 16 = .ok (.aload_n 0, 1) := by decide +kernel
theorem dX0_init_17 : decode cX0_init 17 = .ok (.bipush 6, 2) := by decide +kernel
theorem dX0_init_19 : decode cX0_init 19 = .ok (.newarray .boolean, 2) := by decide +kernel
theorem dX0_init_21 : decode cX0_init 21 = .ok (.putfield 16, 3) := by decide +kernel
theorem dX0_init_24 : decode cX0_init 24 = .ok (.return_, 1) := by decide +kernel
theorem dX0_open_0 : decode cX0_open 0 = .ok (.aload_n 0, 1) := by decide +kernel
theorem dX0_open_1 : decode cX0_open 1 = .ok (.getfield 16, 3) := by decide +kernel
theorem dX0_open_4 : decode cX0_open 4 = .ok (.iload_n 1, 1) := by decide +kernel
theorem dX0_open_5 : decode cX0_open 5 = .ok (.baload, 1) := by decide +kernel
theorem dX0_open_6 : decode cX0_open 6 = .ok (.ifCond .eq 7, 3) := by decide +kernel
theorem dX0_open_9 : decode cX0_open 9 = .ok (.iconst 1, 1) := by decide +kernel
theorem dX0_open_10 : decode cX0_open 10 = .ok (.goto 4, 3) := by decide +kernel
theorem dX0_open_13 : decode cX0_open 13 = .ok (.iconst 0, 1) := by decide +kernel
theorem dX0_open_14 : decode cX0_open 14 = .ok (.istore_n 2, 1) := by decide +kernel
theorem dX0_open_15 : decode cX0_open 15 = .ok (.aload_n 0, 1) := by decide +kernel
theorem dX0_open_16 : decode cX0_open 16 = .ok (.getfield 16, 3) := by decide +kernel
theorem dX0_open_19 : decode cX0_open 19 = .ok (.iload_n 1, 1) := by decide +kernel
theorem dX0_open_20 : decode cX0_open 20 = .ok (.iconst 1, 1) := by decide +kernel
theorem dX0_open_21 : decode cX0_open 21 = .ok (.bastore, 1) := by decide +kernel
theorem dX0_open_22 : decode cX0_open 22 = .ok (.iload_n 2, 1) := by decide +kernel
theorem dX0_open_23 : decode cX0_open 23 = .ok (.ireturn, 1) := by decide +kernel
theorem dX0_howMany_0 : decode cX0_howMany 0 = .ok (.iconst 0, 1) := by decide +kernel
theorem dX0_howMany_1 : decode cX0_howMany 1 = .ok (.istore_n 1, 1) := by decide +kernel
theorem dX0_howMany_2 : decode cX0_howMany 2 = .ok (.iconst 0, 1) := by decide +kernel
theorem dX0_howMany_3 : decode cX0_howMany 3 = .ok (.istore_n 2, 1) := by decide +kernel
theorem dX0_howMany_4 : decode cX0_howMany 4 = .ok (.iload_n 2, 1) := by decide +kernel
theorem dX0_howMany_5 : decode cX0_howMany 5 = .ok (.bipush 6, 2) := by decide +kernel
theorem dX0_howMany_7 : decode cX0_howMany 7 = .ok (.if_icmp .ge 21, 3) := by decide +kernel
theorem dX0_howMany_10 : decode cX0_howMany 10 = .ok (.aload_n 0, 1) := by decide +kernel
theorem dX0_howMany_11 : decode cX0_howMany 11 = .ok (.getfield 16, 3) := by decide +kernel
theorem dX0_howMany_14 : decode cX0_howMany 14 = .ok (.iload_n 2, 1) := by decide +kernel
theorem dX0_howMany_15 : decode cX0_howMany 15 = .ok (.baload, 1) := by decide +kernel
theorem dX0_howMany_16 : decode cX0_howMany 16 = .ok (.ifCond .eq 6, 3) := by decide +kernel
theorem dX0_howMany_19 : decode cX0_howMany 19 = .ok (.iinc 1 1, 3) := by decide +kernel
theorem dX0_howMany_22 : decode cX0_howMany 22 = .ok (.iinc 2 1, 3) := by decide +kernel
theorem dX0_howMany_25 : decode cX0_howMany 25 = .ok (.goto (-21), 3) := by decide +kernel
theorem dX0_howMany_28 : decode cX0_howMany 28 = .ok (.iload_n 1, 1) := by decide +kernel
theorem dX0_howMany_29 : decode cX0_howMany 29 = .ok (.ireturn, 1) := by decide +kernel
theorem dX0_unbend_0 : decode cX0_unbend 0 = .ok (.aload_n 0, 1) := by decide +kernel
theorem dX0_unbend_1 : decode cX0_unbend 1 = .ok (.getfield 11, 3) := by decide +kernel
theorem dX0_unbend_4 : decode cX0_unbend 4 = .ok (.iload_n 1, 1) := by decide +kernel
theorem dX0_unbend_5 : decode cX0_unbend 5 = .ok (.aaload, 1) := by decide +kernel
theorem dX0_unbend_6 : decode cX0_unbend 6 = .ok (.astore 5, 2) := by decide +kernel
theorem dX0_unbend_8 : decode cX0_unbend 8 = .ok (.aload 5, 2) := by decide +kernel
theorem dX0_unbend_10 : decode cX0_unbend 10 = .ok (.iconst 1, 1) := by decide +kernel
theorem dX0_unbend_11 : decode cX0_unbend 11 = .ok (.iaload, 1) := by decide +kernel
theorem dX0_unbend_12 : decode cX0_unbend 12 = .ok (.istore 6, 2) := by decide +kernel
theorem dX0_unbend_14 : decode cX0_unbend 14 = .ok (.aload 5, 2) := by decide +kernel
theorem dX0_unbend_16 : decode cX0_unbend 16 = .ok (.iconst 0, 1) := by decide +kernel
theorem dX0_unbend_17 : decode cX0_unbend 17 = .ok (.iload_n 2, 1) := by decide +kernel
theorem dX0_unbend_18 : decode cX0_unbend 18 = .ok (.iastore, 1) := by decide +kernel
theorem dX0_unbend_19 : decode cX0_unbend 19 = .ok (.aload 5, 2) := by decide +kernel
theorem dX0_unbend_21 : decode cX0_unbend 21 = .ok (.iconst 1, 1) := by decide +kernel
theorem dX0_unbend_22 : decode cX0_unbend 22 = .ok (.iload_n 3, 1) := by decide +kernel
theorem dX0_unbend_23 : decode cX0_unbend 23 = .ok (.iastore, 1) := by decide +kernel
theorem dX0_unbend_24 : decode cX0_unbend 24 = .ok (.iconst 1, 1) := by decide +kernel
theorem dX0_unbend_25 : decode cX0_unbend 25 = .ok (.istore 7, 2) := by decide +kernel
theorem dX0_unbend_27 : decode cX0_unbend 27 = .ok (.iload 7, 2) := by decide +kernel
theorem dX0_unbend_29 : decode cX0_unbend 29 = .ok (.iload 4, 2) := by decide +kernel
theorem dX0_unbend_31 : decode cX0_unbend 31 = .ok (.iconst 2, 1) := by decide +kernel
theorem dX0_unbend_32 : decode cX0_unbend 32 = .ok (.isub, 1) := by decide +kernel
theorem dX0_unbend_33 : decode cX0_unbend 33 = .ok (.if_icmp .gt 47, 3) := by decide +kernel
theorem dX0_unbend_36 : decode cX0_unbend 36 = .ok (.aload 5, 2) := by decide +kernel
theorem dX0_unbend_38 : decode cX0_unbend 38 = .ok (.iload 7, 2) := by decide +kernel
theorem dX0_unbend_40 : decode cX0_unbend 40 = .ok (.iconst 1, 1) := by decide +kernel
theorem dX0_unbend_41 : decode cX0_unbend 41 = .ok (.iadd, 1) := by decide +kernel
theorem dX0_unbend_42 : decode cX0_unbend 42 = .ok (.iaload, 1) := by decide +kernel
theorem dX0_unbend_43 : decode cX0_unbend 43 = .ok (.istore 8, 2) := by decide +kernel
theorem dX0_unbend_45 : decode cX0_unbend 45 = .ok (.aload 5, 2) := by decide +kernel
theorem dX0_unbend_47 : decode cX0_unbend 47 = .ok (.iload 7, 2) := by decide +kernel
theorem dX0_unbend_49 : decode cX0_unbend 49 = .ok (.iconst 1, 1) := by decide +kernel
theorem dX0_unbend_50 : decode cX0_unbend 50 = .ok (.iadd, 1) := by decide +kernel
theorem dX0_unbend_51 : decode cX0_unbend 51 = .ok (.iconst 2, 1) := by decide +kernel
theorem dX0_unbend_52 : decode cX0_unbend 52 = .ok (.aload 5, 2) := by decide +kernel
theorem dX0_unbend_54 : decode cX0_unbend 54 = .ok (.iload 7, 2) := by decide +kernel
theorem dX0_unbend_56 : decode cX0_unbend 56 = .ok (.iaload, 1) := by decide +kernel
theorem dX0_unbend_57 : decode cX0_unbend 57 = .ok (.imul, 1) := by decide +kernel
theorem dX0_unbend_58 : decode cX0_unbend 58 = .ok (.aload 5, 2) := by decide +kernel
theorem dX0_unbend_60 : decode cX0_unbend 60 = .ok (.iload 7, 2) := by decide +kernel
theorem dX0_unbend_62 : decode cX0_unbend 62 = .ok (.iconst 1, 1) := by decide +kernel
theorem dX0_unbend_63 : decode cX0_unbend 63 = .ok (.isub, 1) := by decide +kernel
theorem dX0_unbend_64 : decode cX0_unbend 64 = .ok (.iaload, 1) := by decide +kernel
theorem dX0_unbend_65 : decode cX0_unbend 65 = .ok (.isub, 1) := by decide +kernel
theorem dX0_unbend_66 : decode cX0_unbend 66 = .ok (.iload 6, 2) := by decide +kernel
theorem dX0_unbend_68 : decode cX0_unbend 68 = .ok (.isub, 1) := by decide +kernel
theorem dX0_unbend_69 : decode cX0_unbend 69 = .ok (.iastore, 1) := by decide +kernel
theorem dX0_unbend_70 : decode cX0_unbend 70 = .ok (.iload 8, 2) := by decide +kernel
theorem dX0_unbend_72 : decode cX0_unbend 72 = .ok (.istore 6, 2) := by decide +kernel
theorem dX0_unbend_74 : decode cX0_unbend 74 = .ok (.iinc 7 1, 3) := by decide +kernel
theorem dX0_unbend_77 : decode cX0_unbend 77 = .ok (.goto (-50), 3) := by decide +kernel
theorem dX0_unbend_80 : decode cX0_unbend 80 = .ok (.iload 4, 2) := by decide +kernel
theorem dX0_unbend_82 : decode cX0_unbend 82 = .ok (.istore 7, 2) := by decide +kernel
theorem dX0_unbend_84 : decode cX0_unbend 84 = .ok (.iload 7, 2) := by decide +kernel
theorem dX0_unbend_86 : decode cX0_unbend 86 = .ok (.bipush 40, 2) := by decide +kernel
theorem dX0_unbend_88 : decode cX0_unbend 88 = .ok (.if_icmp .ge 15, 3) := by decide +kernel
theorem dX0_unbend_91 : decode cX0_unbend 91 = .ok (.aload 5, 2) := by decide +kernel
theorem dX0_unbend_93 : decode cX0_unbend 93 = .ok (.iload 7, 2) := by decide +kernel
theorem dX0_unbend_95 : decode cX0_unbend 95 = .ok (.iconst 0, 1) := by decide +kernel
theorem dX0_unbend_96 : decode cX0_unbend 96 = .ok (.iastore, 1) := by decide +kernel
theorem dX0_unbend_97 : decode cX0_unbend 97 = .ok (.iinc 7 1, 3) := by decide +kernel
theorem dX0_unbend_100 : decode cX0_unbend 100 = .ok (.goto (-16), 3) := by decide +kernel
theorem dX0_unbend_103 : decode cX0_unbend 103 = .ok (.return_, 1) := by decide +kernel
theorem dX0_bestShift_0 : decode cX0_bestShift 0 = .ok (.iconst 0, 1) := by decide +kernel
theorem dX0_bestShift_1 : decode cX0_bestShift 1 = .ok (.istore 4, 2) := by decide +kernel
theorem dX0_bestShift_3 : decode cX0_bestShift 3 = .ok (.aload_n 0, 1) := by decide +kernel
theorem dX0_bestShift_4 : decode cX0_bestShift 4 = .ok (.iload_n 1, 1) := by decide +kernel
theorem dX0_bestShift_5 : decode cX0_bestShift 5 = .ok (.iload_n 2, 1) := by decide +kernel
theorem dX0_bestShift_6 : decode cX0_bestShift 6 = .ok (.iconst 0, 1) := by decide +kernel
theorem dX0_bestShift_7 : decode cX0_bestShift 7 = .ok (.iload_n 3, 1) := by decide +kernel
theorem dX0_bestShift_8 : decode cX0_bestShift 8 = .ok (.invokevirtual 20, 3) := by decide +kernel
theorem dX0_bestShift_11 : decode cX0_bestShift 11 = .ok (.lstore 5, 2) := by decide +kernel
theorem dX0_bestShift_13 : decode cX0_bestShift 13 = .ok (.iconst 1, 1) := by decide +kernel
theorem dX0_bestShift_14 : decode cX0_bestShift 14 = .ok (.istore 7, 2) := by decide +kernel
theorem dX0_bestShift_16 : decode cX0_bestShift 16 = .ok (.iload 7, 2) := by decide +kernel
theorem dX0_bestShift_18 : decode cX0_bestShift 18 = .ok (.iconst 5, 1) := by decide +kernel
theorem dX0_bestShift_19 : decode cX0_bestShift 19 = .ok (.if_icmp .gt 60, 3) := by decide +kernel
theorem dX0_bestShift_22 : decode cX0_bestShift 22 = .ok (.iload 7, 2) := by decide +kernel
theorem dX0_bestShift_24 : decode cX0_bestShift 24 = .ok (.ineg, 1) := by decide +kernel
theorem dX0_bestShift_25 : decode cX0_bestShift 25 = .ok (.istore 8, 2) := by decide +kernel
theorem dX0_bestShift_27 : decode cX0_bestShift 27 = .ok (.iload 8, 2) := by decide +kernel
theorem dX0_bestShift_29 : decode cX0_bestShift 29 = .ok (.iload 7, 2) := by decide +kernel
theorem dX0_bestShift_31 : decode cX0_bestShift 31 = .ok (.if_icmp .gt 42, 3) := by decide +kernel
theorem dX0_bestShift_34 : decode cX0_bestShift 34 = .ok (.aload_n 0, 1) := by decide +kernel
theorem dX0_bestShift_35 : decode cX0_bestShift 35 = .ok (.iload_n 1, 1) := by decide +kernel
theorem dX0_bestShift_36 : decode cX0_bestShift 36 = .ok (.iload_n 2, 1) := by decide +kernel
theorem dX0_bestShift_37 : decode cX0_bestShift 37 = .ok (.iload 8, 2) := by decide +kernel
theorem dX0_bestShift_39 : decode cX0_bestShift 39 = .ok (.iload_n 3, 1) := by decide +kernel
theorem dX0_bestShift_40 : decode cX0_bestShift 40 = .ok (.invokevirtual 20, 3) := by decide +kernel
theorem dX0_bestShift_43 : decode cX0_bestShift 43 = .ok (.lstore 9, 2) := by decide +kernel
theorem dX0_bestShift_45 : decode cX0_bestShift 45 = .ok (.lload 9, 2) := by decide +kernel
theorem dX0_bestShift_47 : decode cX0_bestShift 47 = .ok (.lload 5, 2) := by decide +kernel
theorem dX0_bestShift_49 : decode cX0_bestShift 49 = .ok (.lcmp, 1) := by decide +kernel
theorem dX0_bestShift_50 : decode cX0_bestShift 50 = .ok (.ifCond .ge 11, 3) := by decide +kernel
theorem dX0_bestShift_53 : decode cX0_bestShift 53 = .ok (.iload 8, 2) := by decide +kernel
theorem dX0_bestShift_55 : decode cX0_bestShift 55 = .ok (.istore 4, 2) := by decide +kernel
theorem dX0_bestShift_57 : decode cX0_bestShift 57 = .ok (.lload 9, 2) := by decide +kernel
theorem dX0_bestShift_59 : decode cX0_bestShift 59 = .ok (.lstore 5, 2) := by decide +kernel
theorem dX0_bestShift_61 : decode cX0_bestShift 61 = .ok (.iload 8, 2) := by decide +kernel
theorem dX0_bestShift_63 : decode cX0_bestShift 63 = .ok (.iconst 2, 1) := by decide +kernel
theorem dX0_bestShift_64 : decode cX0_bestShift 64 = .ok (.iload 7, 2) := by decide +kernel
theorem dX0_bestShift_66 : decode cX0_bestShift 66 = .ok (.imul, 1) := by decide +kernel
theorem dX0_bestShift_67 : decode cX0_bestShift 67 = .ok (.iadd, 1) := by decide +kernel
theorem dX0_bestShift_68 : decode cX0_bestShift 68 = .ok (.istore 8, 2) := by decide +kernel
theorem dX0_bestShift_70 : decode cX0_bestShift 70 = .ok (.goto (-43), 3) := by decide +kernel
theorem dX0_bestShift_73 : decode cX0_bestShift 73 = .ok (.iinc 7 1, 3) := by decide +kernel
theorem dX0_bestShift_76 : decode cX0_bestShift 76 = .ok (.goto (-60), 3) := by decide +kernel
theorem dX0_bestShift_79 : decode cX0_bestShift 79 = .ok (.iload 4, 2) := by decide +kernel
theorem dX0_bestShift_81 : decode cX0_bestShift 81 = .ok (.ireturn, 1) := by decide +kernel
theorem dX0_squaresApart_0 : decode cX0_squaresApart 0 = .ok (.lconst 0, 1) := by decide +kernel
theorem dX0_squaresApart_1 : decode cX0_squaresApart 1 = .ok (.lstore 5, 2) := by decide +kernel
theorem dX0_squaresApart_3 : decode cX0_squaresApart 3 = .ok (.iconst 5, 1) := by decide +kernel
theorem dX0_squaresApart_4 : decode cX0_squaresApart 4 = .ok (.istore 7, 2) := by decide +kernel
theorem dX0_squaresApart_6 : decode cX0_squaresApart 6 = .ok (.iload 7, 2) := by decide +kernel
theorem dX0_squaresApart_8 : decode cX0_squaresApart 8 = .ok (.iload 4, 2) := by decide +kernel
theorem dX0_squaresApart_10 : decode cX0_squaresApart 10 = .ok (.iconst 5, 1) := by decide +kernel
theorem dX0_squaresApart_11 : decode cX0_squaresApart 11 = .ok (.isub, 1) := by decide +kernel
theorem dX0_squaresApart_12 : decode cX0_squaresApart 12 = .ok (.if_icmp .ge 44, 3) := by decide +kernel
theorem dX0_squaresApart_15 : decode cX0_squaresApart 15 = .ok (.aload_n 0, 1) := by decide +kernel
theorem dX0_squaresApart_16 : decode cX0_squaresApart 16 = .ok (.getfield 11, 3) := by decide +kernel
theorem dX0_squaresApart_19 : decode cX0_squaresApart 19 = .ok (.iload_n 1, 1) := by decide +kernel
theorem dX0_squaresApart_20 : decode cX0_squaresApart 20 = .ok (.aaload, 1) := by decide +kernel
theorem dX0_squaresApart_21 : decode cX0_squaresApart 21 = .ok (.iload 7, 2) := by decide +kernel
theorem dX0_squaresApart_23 : decode cX0_squaresApart 23 = .ok (.iaload, 1) := by decide +kernel
theorem dX0_squaresApart_24 : decode cX0_squaresApart 24 = .ok (.i2l, 1) := by decide +kernel
theorem dX0_squaresApart_25 : decode cX0_squaresApart 25 = .ok (.aload_n 0, 1) := by decide +kernel
theorem dX0_squaresApart_26 : decode cX0_squaresApart 26 = .ok (.getfield 11, 3) := by decide +kernel
theorem dX0_squaresApart_29 : decode cX0_squaresApart 29 = .ok (.iload_n 2, 1) := by decide +kernel
theorem dX0_squaresApart_30 : decode cX0_squaresApart 30 = .ok (.aaload, 1) := by decide +kernel
theorem dX0_squaresApart_31 : decode cX0_squaresApart 31 = .ok (.iload 7, 2) := by decide +kernel
theorem dX0_squaresApart_33 : decode cX0_squaresApart 33 = .ok (.iload_n 3, 1) := by decide +kernel
theorem dX0_squaresApart_34 : decode cX0_squaresApart 34 = .ok (.iadd, 1) := by decide +kernel
theorem dX0_squaresApart_35 : decode cX0_squaresApart 35 = .ok (.iaload, 1) := by decide +kernel
theorem dX0_squaresApart_36 : decode cX0_squaresApart 36 = .ok (.i2l, 1) := by decide +kernel
theorem dX0_squaresApart_37 : decode cX0_squaresApart 37 = .ok (.lsub, 1) := by decide +kernel
theorem dX0_squaresApart_38 : decode cX0_squaresApart 38 = .ok (.lstore 8, 2) := by decide +kernel
theorem dX0_squaresApart_40 : decode cX0_squaresApart 40 = .ok (.lload 5, 2) := by decide +kernel
theorem dX0_squaresApart_42 : decode cX0_squaresApart 42 = .ok (.lload 8, 2) := by decide +kernel
theorem dX0_squaresApart_44 : decode cX0_squaresApart 44 = .ok (.lload 8, 2) := by decide +kernel
theorem dX0_squaresApart_46 : decode cX0_squaresApart 46 = .ok (.lmul, 1) := by decide +kernel
theorem dX0_squaresApart_47 : decode cX0_squaresApart 47 = .ok (.ladd, 1) := by decide +kernel
theorem dX0_squaresApart_48 : decode cX0_squaresApart 48 = .ok (.lstore 5, 2) := by decide +kernel
theorem dX0_squaresApart_50 : decode cX0_squaresApart 50 = .ok (.iinc 7 1, 3) := by decide +kernel
theorem dX0_squaresApart_53 : decode cX0_squaresApart 53 = .ok (.goto (-47), 3) := by decide +kernel
theorem dX0_squaresApart_56 : decode cX0_squaresApart 56 = .ok (.lload 5, 2) := by decide +kernel
theorem dX0_squaresApart_58 : decode cX0_squaresApart 58 = .ok (.lreturn, 1) := by decide +kernel
theorem dX0_steepest_0 : decode cX0_steepest 0 = .ok (.iconst 0, 1) := by decide +kernel
theorem dX0_steepest_1 : decode cX0_steepest 1 = .ok (.istore_n 3, 1) := by decide +kernel
theorem dX0_steepest_2 : decode cX0_steepest 2 = .ok (.iconst 1, 1) := by decide +kernel
theorem dX0_steepest_3 : decode cX0_steepest 3 = .ok (.istore 4, 2) := by decide +kernel
theorem dX0_steepest_5 : decode cX0_steepest 5 = .ok (.iload 4, 2) := by decide +kernel
theorem dX0_steepest_7 : decode cX0_steepest 7 = .ok (.iload_n 2, 1) := by decide +kernel
theorem dX0_steepest_8 : decode cX0_steepest 8 = .ok (.iconst 1, 1) := by decide +kernel
theorem dX0_steepest_9 : decode cX0_steepest 9 = .ok (.isub, 1) := by decide +kernel
theorem dX0_steepest_10 : decode cX0_steepest 10 = .ok (.if_icmp .ge 29, 3) := by decide +kernel
theorem dX0_steepest_13 : decode cX0_steepest 13 = .ok (.aload_n 0, 1) := by decide +kernel
theorem dX0_steepest_14 : decode cX0_steepest 14 = .ok (.iload_n 1, 1) := by decide +kernel
theorem dX0_steepest_15 : decode cX0_steepest 15 = .ok (.iload 4, 2) := by decide +kernel
theorem dX0_steepest_17 : decode cX0_steepest 17 = .ok (.invokevirtual 24, 3) := by decide +kernel
theorem dX0_steepest_20 : decode cX0_steepest 20 = .ok (.aload_n 0, 1) := by decide +kernel
theorem dX0_steepest_21 : decode cX0_steepest 21 = .ok (.iload_n 1, 1) := by decide +kernel
theorem dX0_steepest_22 : decode cX0_steepest 22 = .ok (.iload_n 3, 1) := by decide +kernel
theorem dX0_steepest_23 : decode cX0_steepest 23 = .ok (.invokevirtual 24, 3) := by decide +kernel
theorem dX0_steepest_26 : decode cX0_steepest 26 = .ok (.lcmp, 1) := by decide +kernel
theorem dX0_steepest_27 : decode cX0_steepest 27 = .ok (.ifCond .le 6, 3) := by decide +kernel
theorem dX0_steepest_30 : decode cX0_steepest 30 = .ok (.iload 4, 2) := by decide +kernel
theorem dX0_steepest_32 : decode cX0_steepest 32 = .ok (.istore_n 3, 1) := by decide +kernel
theorem dX0_steepest_33 : decode cX0_steepest 33 = .ok (.iinc 4 1, 3) := by decide +kernel
theorem dX0_steepest_36 : decode cX0_steepest 36 = .ok (.goto (-31), 3) := by decide +kernel
theorem dX0_steepest_39 : decode cX0_steepest 39 = .ok (.iload_n 3, 1) := by decide +kernel
theorem dX0_steepest_40 : decode cX0_steepest 40 = .ok (.ireturn, 1) := by decide +kernel
theorem dX0_stepAfter_0 : decode cX0_stepAfter 0 = .ok (.aload_n 0, 1) := by decide +kernel
theorem dX0_stepAfter_1 : decode cX0_stepAfter 1 = .ok (.getfield 11, 3) := by decide +kernel
theorem dX0_stepAfter_4 : decode cX0_stepAfter 4 = .ok (.iload_n 1, 1) := by decide +kernel
theorem dX0_stepAfter_5 : decode cX0_stepAfter 5 = .ok (.aaload, 1) := by decide +kernel
theorem dX0_stepAfter_6 : decode cX0_stepAfter 6 = .ok (.iload_n 2, 1) := by decide +kernel
theorem dX0_stepAfter_7 : decode cX0_stepAfter 7 = .ok (.iaload, 1) := by decide +kernel
theorem dX0_stepAfter_8 : decode cX0_stepAfter 8 = .ok (.i2l, 1) := by decide +kernel
theorem dX0_stepAfter_9 : decode cX0_stepAfter 9 = .ok (.aload_n 0, 1) := by decide +kernel
theorem dX0_stepAfter_10 : decode cX0_stepAfter 10 = .ok (.getfield 11, 3) := by decide +kernel
theorem dX0_stepAfter_13 : decode cX0_stepAfter 13 = .ok (.iload_n 1, 1) := by decide +kernel
theorem dX0_stepAfter_14 : decode cX0_stepAfter 14 = .ok (.aaload, 1) := by decide +kernel
theorem dX0_stepAfter_15 : decode cX0_stepAfter 15 = .ok (.iload_n 2, 1) := by decide +kernel
theorem dX0_stepAfter_16 : decode cX0_stepAfter 16 = .ok (.iconst 1, 1) := by decide +kernel
theorem dX0_stepAfter_17 : decode cX0_stepAfter 17 = .ok (.iadd, 1) := by decide +kernel
theorem dX0_stepAfter_18 : decode cX0_stepAfter 18 = .ok (.iaload, 1) := by decide +kernel
theorem dX0_stepAfter_19 : decode cX0_stepAfter 19 = .ok (.i2l, 1) := by decide +kernel
theorem dX0_stepAfter_20 : decode cX0_stepAfter 20 = .ok (.lsub, 1) := by decide +kernel
theorem dX0_stepAfter_21 : decode cX0_stepAfter 21 = .ok (.invokestatic 28, 3) := by decide +kernel
theorem dX0_stepAfter_24 : decode cX0_stepAfter 24 = .ok (.lreturn, 1) := by decide +kernel
theorem dX0_digestOn_0 : decode cX0_digestOn 0 = .ok (.aload_n 0, 1) := by decide +kernel
theorem dX0_digestOn_1 : decode cX0_digestOn 1 = .ok (.getfield 16, 3) := by decide +kernel
theorem dX0_digestOn_4 : decode cX0_digestOn 4 = .ok (.iload_n 3, 1) := by decide +kernel
theorem dX0_digestOn_5 : decode cX0_digestOn 5 = .ok (.baload, 1) := by decide +kernel
theorem dX0_digestOn_6 : decode cX0_digestOn 6 = .ok (.ifCond .ne 11, 3) := by decide +kernel
theorem dX0_digestOn_9 : decode cX0_digestOn 9 = .ok (.ldc2_w 34, 3) := by decide +kernel
theorem dX0_digestOn_12 : decode cX0_digestOn 12 = .ok (.lload_n 1, 1) := by decide +kernel
theorem dX0_digestOn_13 : decode cX0_digestOn 13 = .ok (.lmul, 1) := by decide +kernel
theorem dX0_digestOn_14 : decode cX0_digestOn 14 = .ok (.lconst 1, 1) := by decide +kernel
theorem dX0_digestOn_15 : decode cX0_digestOn 15 = .ok (.lsub, 1) := by decide +kernel
theorem dX0_digestOn_16 : decode cX0_digestOn 16 = .ok (.lreturn, 1) := by decide +kernel
theorem dX0_digestOn_17 : decode cX0_digestOn 17 = .ok (.lload_n 1, 1) := by decide +kernel
theorem dX0_digestOn_18 : decode cX0_digestOn 18 = .ok (.lstore 4, 2) := by decide +kernel
theorem dX0_digestOn_20 : decode cX0_digestOn 20 = .ok (.iconst 0, 1) := by decide +kernel
theorem dX0_digestOn_21 : decode cX0_digestOn 21 = .ok (.istore 6, 2) := by decide +kernel
theorem dX0_digestOn_23 : decode cX0_digestOn 23 = .ok (.iload 6, 2) := by decide +kernel
theorem dX0_digestOn_25 : decode cX0_digestOn 25 = .ok (.bipush 40, 2) := by decide +kernel
theorem dX0_digestOn_27 : decode cX0_digestOn 27 = .ok (.if_icmp .ge 28, 3) := by decide +kernel
theorem dX0_digestOn_30 : decode cX0_digestOn 30 = .ok (.ldc2_w 34, 3) := by decide +kernel
theorem dX0_digestOn_33 : decode cX0_digestOn 33 = .ok (.lload 4, 2) := by decide +kernel
theorem dX0_digestOn_35 : decode cX0_digestOn 35 = .ok (.lmul, 1) := by decide +kernel
theorem dX0_digestOn_36 : decode cX0_digestOn 36 = .ok (.aload_n 0, 1) := by decide +kernel
theorem dX0_digestOn_37 : decode cX0_digestOn 37 = .ok (.getfield 11, 3) := by decide +kernel
theorem dX0_digestOn_40 : decode cX0_digestOn 40 = .ok (.iload_n 3, 1) := by decide +kernel
theorem dX0_digestOn_41 : decode cX0_digestOn 41 = .ok (.aaload, 1) := by decide +kernel
theorem dX0_digestOn_42 : decode cX0_digestOn 42 = .ok (.iload 6, 2) := by decide +kernel
theorem dX0_digestOn_44 : decode cX0_digestOn 44 = .ok (.iaload, 1) := by decide +kernel
theorem dX0_digestOn_45 : decode cX0_digestOn 45 = .ok (.i2l, 1) := by decide +kernel
theorem dX0_digestOn_46 : decode cX0_digestOn 46 = .ok (.ladd, 1) := by decide +kernel
theorem dX0_digestOn_47 : decode cX0_digestOn 47 = .ok (.lstore 4, 2) := by decide +kernel
theorem dX0_digestOn_49 : decode cX0_digestOn 49 = .ok (.iinc 6 1, 3) := by decide +kernel
theorem dX0_digestOn_52 : decode cX0_digestOn 52 = .ok (.goto (-29), 3) := by decide +kernel
theorem dX0_digestOn_55 : decode cX0_digestOn 55 = .ok (.lload 4, 2) := by decide +kernel
theorem dX0_digestOn_57 : decode cX0_digestOn 57 = .ok (.lreturn, 1) := by decide +kernel
theorem dX1_init_0 : decode cX1_init 0 = .ok (.aload_n 0, 1) := by decide +kernel
theorem dX1_init_1 : decode cX1_init 1 = .ok (.invokespecial 5, 3) := by decide +kernel
theorem dX1_init_4 : decode cX1_init 4 = .ok (.aload_n 0, 1) := by decide +kernel
theorem dX1_init_5 : decode cX1_init 5 = .ok (.bipush 40, 2) := by decide +kernel
theorem dX1_init_7 : decode cX1_init 7 = .ok (.newarray .int, 2) := by decide +kernel
theorem dX1_init_9 : decode cX1_init 9 = .ok (.putfield 11, 3) := by decide +kernel
theorem dX1_init_12 : decode cX1_init 12 = .ok (.aload_n 0, 1) := by decide +kernel
theorem dX1_init_13 : decode cX1_init 13 = .ok (.bipush 40, 2) := by decide +kernel
theorem dX1_init_15 : decode cX1_init 15 = .ok (.newarray .int, 2) := by decide +kernel
theorem dX1_init_17 : decode cX1_init 17 = .ok (.putfield 17, 3) := by decide +kernel
theorem dX1_init_20 : decode cX1_init 20 = .ok (.aload_n 0, 1) := by decide +kernel
theorem dX1_init_21 : decode cX1_init 21 = .ok (.bipush 40, 2) := by decide +kernel
theorem dX1_init_23 : decode cX1_init 23 = .ok (.newarray .int, 2) := by decide +kernel
theorem dX1_init_25 : decode cX1_init 25 = .ok (.putfield 20, 3) := by decide +kernel
theorem dX1_init_28 : decode cX1_init 28 = .ok (.aload_n 0, 1) := by decide +kernel
theorem dX1_init_29 : decode cX1_init 29 = .ok (.bipush 40, 2) := by decide +kernel
theorem dX1_init_31 : decode cX1_init 31 = .ok (.newarray .int, 2) := by decide +kernel
theorem dX1_init_33 : decode cX1_init 33 = .ok (.putfield 23, 3) := by decide +kernel
theorem dX1_init_36 : decode cX1_init 36 = .ok (.aload_n 0, 1) := by decide +kernel
theorem dX1_init_37 : decode cX1_init 37 = .ok (.bipush 40, 2) := by decide +kernel
theorem dX1_init_39 : decode cX1_init 39 = .ok (.newarray .int, 2) := by decide +kernel
theorem dX1_init_41 : decode cX1_init 41 = .ok (.putfield 26, 3) := by decide +kernel
theorem dX1_init_44 : decode cX1_init 44 = .ok (.aload_n 0, 1) := by decide +kernel
theorem dX1_init_45 : decode cX1_init 45 = .ok (.bipush 40, 2) := by decide +kernel
theorem dX1_init_47 : decode cX1_init 47 = .ok (.newarray .boolean, 2) := by decide +kernel
theorem dX1_init_49 : decode cX1_init 49 = .ok (.putfield 29, 3) := by decide +kernel
theorem dX1_init_52 : decode cX1_init 52 = .ok (.aload_n 0, 1) := by decide +kernel
theorem dX1_init_53 : decode cX1_init 53 = .ok (.bipush 40, 2) := by decide +kernel
theorem dX1_init_55 : decode cX1_init 55 = .ok (.newarray .int, 2) := by decide +kernel
theorem dX1_init_57 : decode cX1_init 57 = .ok (.putfield 33, 3) := by decide +kernel
theorem dX1_init_60 : decode cX1_init 60 = .ok (.aload_n 0, 1) := by decide +kernel
theorem dX1_init_61 : decode cX1_init 61 = .ok (.bipush 10, 2) := by decide +kernel
theorem dX1_init_63 : decode cX1_init 63 = .ok (.invokevirtual 36, 3) := by decide +kernel
theorem dX1_init_66 : decode cX1_init 66 = .ok (.return_, 1) := by decide +kernel
theorem dX1_renew_0 : decode cX1_renew 0 = .ok (.aload_n 0, 1) := by decide +kernel
theorem dX1_renew_1 : decode cX1_renew 1 = .ok (.iload_n 1, 1) := by decide +kernel
theorem dX1_renew_2 : decode cX1_renew 2 = .ok (.putfield 40, 3) := by decide +kernel
theorem dX1_renew_5 : decode cX1_renew 5 = .ok (.iconst 0, 1) := by decide +kernel
theorem dX1_renew_6 : decode cX1_renew 6 = .ok (.istore_n 2, 1) := by decide +kernel
theorem dX1_renew_7 : decode cX1_renew 7 = .ok (.iload_n 2, 1) := by decide +kernel
theorem dX1_renew_8 : decode cX1_renew 8 = .ok (.bipush 40, 2) := by decide +kernel
theorem dX1_renew_10 : decode cX1_renew 10 = .ok (.if_icmp .ge 58, 3) := by decide +kernel
theorem dX1_renew_13 : decode cX1_renew 13 = .ok (.aload_n 0, 1) := by decide +kernel
theorem dX1_renew_14 : decode cX1_renew 14 = .ok (.getfield 11, 3) := by decide +kernel
theorem dX1_renew_17 : decode cX1_renew 17 = .ok (.iload_n 2, 1) := by decide +kernel
theorem dX1_renew_18 : decode cX1_renew 18 = .ok (.iconst 0, 1) := by decide +kernel
theorem dX1_renew_19 : decode cX1_renew 19 = .ok (.iastore, 1) := by decide +kernel
theorem dX1_renew_20 : decode cX1_renew 20 = .ok (.aload_n 0, 1) := by decide +kernel
theorem dX1_renew_21 : decode cX1_renew 21 = .ok (.getfield 17, 3) := by decide +kernel
theorem dX1_renew_24 : decode cX1_renew 24 = .ok (.iload_n 2, 1) := by decide +kernel
theorem dX1_renew_25 : decode cX1_renew 25 = .ok (.iconst 0, 1) := by decide +kernel
theorem dX1_renew_26 : decode cX1_renew 26 = .ok (.iastore, 1) := by decide +kernel
theorem dX1_renew_27 : decode cX1_renew 27 = .ok (.aload_n 0, 1) := by decide +kernel
theorem dX1_renew_28 : decode cX1_renew 28 = .ok (.getfield 20, 3) := by decide +kernel
theorem dX1_renew_31 : decode cX1_renew 31 = .ok (.iload_n 2, 1) := by decide +kernel
theorem dX1_renew_32 : decode cX1_renew 32 = .ok (.iconst 5, 1) := by decide +kernel
theorem dX1_renew_33 : decode cX1_renew 33 = .ok (.iastore, 1) := by decide +kernel
theorem dX1_renew_34 : decode cX1_renew 34 = .ok (.aload_n 0, 1) := by decide +kernel
theorem dX1_renew_35 : decode cX1_renew 35 = .ok (.getfield 23, 3) := by decide +kernel
theorem dX1_renew_38 : decode cX1_renew 38 = .ok (.iload_n 2, 1) := by decide +kernel
theorem dX1_renew_39 : decode cX1_renew 39 = .ok (.iconst 0, 1) := by decide +kernel
theorem dX1_renew_40 : decode cX1_renew 40 = .ok (.iastore, 1) := by decide +kernel
theorem dX1_renew_41 : decode cX1_renew 41 = .ok (.aload_n 0, 1) := by decide +kernel
theorem dX1_renew_42 : decode cX1_renew 42 = .ok (.getfield 26, 3) := by decide +kernel
theorem dX1_renew_45 : decode cX1_renew 45 = .ok (.iload_n 2, 1) := by decide +kernel
theorem dX1_renew_46 : decode cX1_renew 46 = .ok (.iconst 0, 1) := by decide +kernel
theorem dX1_renew_47 : decode cX1_renew 47 = .ok (.iastore, 1) := by decide +kernel
theorem dX1_renew_48 : decode cX1_renew 48 = .ok (.aload_n 0, 1) := by decide +kernel
theorem dX1_renew_49 : decode cX1_renew 49 = .ok (.getfield 29, 3) := by decide +kernel
theorem dX1_renew_52 : decode cX1_renew 52 = .ok (.iload_n 2, 1) := by decide +kernel
theorem dX1_renew_53 : decode cX1_renew 53 = .ok (.iconst 0, 1) := by decide +kernel
theorem dX1_renew_54 : decode cX1_renew 54 = .ok (.bastore, 1) := by decide +kernel
theorem dX1_renew_55 : decode cX1_renew 55 = .ok (.aload_n 0, 1) := by decide +kernel
theorem dX1_renew_56 : decode cX1_renew 56 = .ok (.getfield 33, 3) := by decide +kernel
theorem dX1_renew_59 : decode cX1_renew 59 = .ok (.iload_n 2, 1) := by decide +kernel
theorem dX1_renew_60 : decode cX1_renew 60 = .ok (.iconst 0, 1) := by decide +kernel
theorem dX1_renew_61 : decode cX1_renew 61 = .ok (.iastore, 1) := by decide +kernel
theorem dX1_renew_62 : decode cX1_renew 62 = .ok (.iinc 2 1, 3) := by decide +kernel
theorem dX1_renew_65 : decode cX1_renew 65 = .ok (.goto (-58), 3) := by decide +kernel
theorem dX1_renew_68 : decode cX1_renew 68 = .ok (.return_, 1) := by decide +kernel
theorem dX1_has_0 : decode cX1_has 0 = .ok (.iload_n 1, 1) := by decide +kernel
theorem dX1_has_1 : decode cX1_has 1 = .ok (.iconst 0, 1) := by decide +kernel
theorem dX1_has_2 : decode cX1_has 2 = .ok (.aload_n 0, 1) := by decide +kernel
theorem dX1_has_3 : decode cX1_has 3 = .ok (.getfield 40, 3) := by decide +kernel
theorem dX1_has_6 : decode cX1_has 6 = .ok (.iconst 1, 1) := by decide +kernel
theorem dX1_has_7 : decode cX1_has 7 = .ok (.isub, 1) := by decide +kernel
theorem dX1_has_8 : decode cX1_has 8 = .ok (.invokestatic 44, 3) := by decide +kernel
theorem dX1_has_11 : decode cX1_has 11 = .ok (.ireturn, 1) := by decide +kernel
theorem dX1_stands_0 : decode cX1_stands 0 = .ok (.aload_n 0, 1) := by decide +kernel
theorem dX1_stands_1 : decode cX1_stands 1 = .ok (.iload_n 1, 1) := by decide +kernel
theorem dX1_stands_2 : decode cX1_stands 2 = .ok (.invokevirtual 48, 3) := by decide +kernel
theorem dX1_stands_5 : decode cX1_stands 5 = .ok (.ifCond .eq 16, 3) := by decide +kernel
theorem dX1_stands_8 : decode cX1_stands 8 = .ok (.aload_n 0, 1) := by decide +kernel
theorem dX1_stands_9 : decode cX1_stands 9 = .ok (.getfield 29, 3) := by decide +kernel
theorem dX1_stands_12 : decode cX1_stands 12 = .ok (.iload_n 1, 1) := by decide +kernel
theorem dX1_stands_13 : decode cX1_stands 13 = .ok (.baload, 1) := by decide +kernel
theorem dX1_stands_14 : decode cX1_stands 14 = .ok (.ifCond .ne 7, 3) := by decide +kernel
theorem dX1_stands_17 : decode cX1_stands 17 = .ok (.iconst 1, 1) := by decide +kernel
theorem dX1_stands_18 : decode cX1_stands 18 = .ok (.goto 4, 3) := by decide +kernel
theorem dX1_stands_21 : decode cX1_stands 21 = .ok (.iconst 0, 1) := by decide +kernel
theorem dX1_stands_22 : decode cX1_stands 22 = .ok (.ireturn, 1) := by decide +kernel
theorem dX1_isOf_0 : decode cX1_isOf 0 = .ok (.aload_n 0, 1) := by decide +kernel
theorem dX1_isOf_1 : decode cX1_isOf 1 = .ok (.getfield 11, 3) := by decide +kernel
theorem dX1_isOf_4 : decode cX1_isOf 4 = .ok (.iload_n 1, 1) := by decide +kernel
theorem dX1_isOf_5 : decode cX1_isOf 5 = .ok (.iaload, 1) := by decide +kernel
theorem dX1_isOf_6 : decode cX1_isOf 6 = .ok (.iload_n 2, 1) := by decide +kernel
theorem dX1_isOf_7 : decode cX1_isOf 7 = .ok (.if_icmp .eq 18, 3) := by decide +kernel
theorem dX1_isOf_10 : decode cX1_isOf 10 = .ok (.iload_n 2, 1) := by decide +kernel
theorem dX1_isOf_11 : decode cX1_isOf 11 = .ok (.iconst 1, 1) := by decide +kernel
theorem dX1_isOf_12 : decode cX1_isOf 12 = .ok (.if_icmp .ne 17, 3) := by decide +kernel
theorem dX1_isOf_15 : decode cX1_isOf 15 = .ok (.aload_n 0, 1) := by decide +kernel
theorem dX1_isOf_16 : decode cX1_isOf 16 = .ok (.getfield 11, 3) := by decide +kernel
theorem dX1_isOf_19 : decode cX1_isOf 19 = .ok (.iload_n 1, 1) := by decide +kernel
theorem dX1_isOf_20 : decode cX1_isOf 20 = .ok (.iaload, 1) := by decide +kernel
theorem dX1_isOf_21 : decode cX1_isOf 21 = .ok (.iconst 3, 1) := by decide +kernel
theorem dX1_isOf_22 : decode cX1_isOf 22 = .ok (.if_icmp .ne 7, 3) := by decide +kernel
theorem dX1_isOf_25 : decode cX1_isOf 25 = .ok (.iconst 1, 1) := by decide +kernel
theorem dX1_isOf_26 : decode cX1_isOf 26 = .ok (.goto 4, 3) := by decide +kernel
theorem dX1_isOf_29 : decode cX1_isOf 29 = .ok (.iconst 0, 1) := by decide +kernel
theorem dX1_isOf_30 : decode cX1_isOf 30 = .ok (.ireturn, 1) := by decide +kernel
theorem dX1_setLost_0 : decode cX1_setLost 0 = .ok (.aload_n 0, 1) := by decide +kernel
theorem dX1_setLost_1 : decode cX1_setLost 1 = .ok (.getfield 29, 3) := by decide +kernel
theorem dX1_setLost_4 : decode cX1_setLost 4 = .ok (.iload_n 1, 1) := by decide +kernel
theorem dX1_setLost_5 : decode cX1_setLost 5 = .ok (.iload_n 2, 1) := by decide +kernel
theorem dX1_setLost_6 : decode cX1_setLost 6 = .ok (.bastore, 1) := by decide +kernel
theorem dX1_setLost_7 : decode cX1_setLost 7 = .ok (.aload_n 0, 1) := by decide +kernel
theorem dX1_setLost_8 : decode cX1_setLost 8 = .ok (.iload_n 1, 1) := by decide +kernel
theorem dX1_setLost_9 : decode cX1_setLost 9 = .ok (.invokevirtual 52, 3) := by decide +kernel
theorem dX1_setLost_12 : decode cX1_setLost 12 = .ok (.return_, 1) := by decide +kernel
theorem dX1_setBed_0 : decode cX1_setBed 0 = .ok (.aload_n 0, 1) := by decide +kernel
theorem dX1_setBed_1 : decode cX1_setBed 1 = .ok (.getfield 17, 3) := by decide +kernel
theorem dX1_setBed_4 : decode cX1_setBed 4 = .ok (.iload_n 1, 1) := by decide +kernel
theorem dX1_setBed_5 : decode cX1_setBed 5 = .ok (.iload_n 2, 1) := by decide +kernel
theorem dX1_setBed_6 : decode cX1_setBed 6 = .ok (.iastore, 1) := by decide +kernel
theorem dX1_setBed_7 : decode cX1_setBed 7 = .ok (.aload_n 0, 1) := by decide +kernel
theorem dX1_setBed_8 : decode cX1_setBed 8 = .ok (.iload_n 1, 1) := by decide +kernel
theorem dX1_setBed_9 : decode cX1_setBed 9 = .ok (.invokevirtual 52, 3) := by decide +kernel
theorem dX1_setBed_12 : decode cX1_setBed 12 = .ok (.return_, 1) := by decide +kernel
theorem dX1_forgetHanging_0 : decode cX1_forgetHanging 0 = .ok (.aload_n 0, 1) := by decide +kernel
theorem dX1_forgetHanging_1 : decode cX1_forgetHanging 1 = .ok (.getfield 40, 3) := by decide +kernel
theorem dX1_forgetHanging_4 : decode cX1_forgetHanging 4 = .ok (.iconst 1, 1) := by decide +kernel
theorem dX1_forgetHanging_5 : decode cX1_forgetHanging 5 = .ok (.isub, 1) := by decide +kernel
theorem dX1_forgetHanging_6 : decode cX1_forgetHanging 6 = .ok (.iload_n 1, 1) := by decide +kernel
theorem dX1_forgetHanging_7 : decode cX1_forgetHanging 7 = .ok (.iconst 4, 1) := by decide +kernel
theorem dX1_forgetHanging_8 : decode cX1_forgetHanging 8 = .ok (.iadd, 1) := by decide +kernel
theorem dX1_forgetHanging_9 : decode cX1_forgetHanging 9 = .ok (.iconst 1, 1) := by decide +kernel
theorem dX1_forgetHanging_10 : decode cX1_forgetHanging 10 = .ok (.isub, 1) := by decide +kernel
theorem dX1_forgetHanging_11 : decode cX1_forgetHanging 11 = .ok (.invokestatic 55, 3) := by decide +kernel
theorem dX1_forgetHanging_14 : decode cX1_forgetHanging 14 = .ok (.istore_n 2, 1) := by decide +kernel
theorem dX1_forgetHanging_15 : decode cX1_forgetHanging 15 = .ok (.iconst 0, 1) := by decide +kernel
theorem dX1_forgetHanging_16 : decode cX1_forgetHanging 16 = .ok (.iload_n 1, 1) := by decide +kernel
theorem dX1_forgetHanging_17 : decode cX1_forgetHanging 17 = .ok (.iconst 4, 1) := by decide +kernel
theorem dX1_forgetHanging_18 : decode cX1_forgetHanging 18 = .ok (.isub, 1) := by decide +kernel
theorem dX1_forgetHanging_19 : decode cX1_forgetHanging 19 = .ok (.iconst 1, 1) := by decide +kernel
theorem dX1_forgetHanging_20 : decode cX1_forgetHanging 20 = .ok (.iadd, 1) := by decide +kernel
theorem dX1_forgetHanging_21 : decode cX1_forgetHanging 21 = .ok (.invokestatic 61, 3) := by decide +kernel
theorem dX1_forgetHanging_24 : decode cX1_forgetHanging 24 = .ok (.istore_n 3, 1) := by decide +kernel
theorem dX1_forgetHanging_25 : decode cX1_forgetHanging 25 = .ok (.iload_n 3, 1) := by decide +kernel
theorem dX1_forgetHanging_26 : decode cX1_forgetHanging 26 = .ok (.iload_n 2, 1) := by decide +kernel
theorem dX1_forgetHanging_27 : decode cX1_forgetHanging 27 = .ok (.if_icmp .gt 16, 3) := by decide +kernel
theorem dX1_forgetHanging_30 : decode cX1_forgetHanging 30 = .ok (.aload_n 0, 1) := by decide +kernel
theorem dX1_forgetHanging_31 : decode cX1_forgetHanging 31 = .ok (.getfield 33, 3) := by decide +kernel
theorem dX1_forgetHanging_34 : decode cX1_forgetHanging 34 = .ok (.iload_n 3, 1) := by decide +kernel
theorem dX1_forgetHanging_35 : decode cX1_forgetHanging 35 = .ok (.iconst 0, 1) := by decide +kernel
theorem dX1_forgetHanging_36 : decode cX1_forgetHanging 36 = .ok (.iastore, 1) := by decide +kernel
theorem dX1_forgetHanging_37 : decode cX1_forgetHanging 37 = .ok (.iinc 3 1, 3) := by decide +kernel
theorem dX1_forgetHanging_40 : decode cX1_forgetHanging 40 = .ok (.goto (-15), 3) := by decide +kernel
theorem dX1_forgetHanging_43 : decode cX1_forgetHanging 43 = .ok (.return_, 1) := by decide +kernel
theorem dX1_height_0 : decode cX1_height 0 = .ok (.aload_n 0, 1) := by decide +kernel
theorem dX1_height_1 : decode cX1_height 1 = .ok (.iload_n 1, 1) := by decide +kernel
theorem dX1_height_2 : decode cX1_height 2 = .ok (.invokevirtual 64, 3) := by decide +kernel
theorem dX1_height_5 : decode cX1_height 5 = .ok (.ifCond .eq 12, 3) := by decide +kernel
theorem dX1_height_8 : decode cX1_height 8 = .ok (.aload_n 0, 1) := by decide +kernel
theorem dX1_height_9 : decode cX1_height 9 = .ok (.getfield 17, 3) := by decide +kernel
theorem dX1_height_12 : decode cX1_height 12 = .ok (.iload_n 1, 1) := by decide +kernel
theorem dX1_height_13 : decode cX1_height 13 = .ok (.iaload, 1) := by decide +kernel
theorem dX1_height_14 : decode cX1_height 14 = .ok (.goto 5, 3) := by decide +kernel
theorem dX1_height_17 : decode cX1_height 17 = .ok (.ldc 67, 2) := by decide +kernel
theorem dX1_height_19 : decode cX1_height 19 = .ok (.istore_n 2, 1) := by decide +kernel
theorem dX1_height_20 : decode cX1_height 20 = .ok (.iconst 0, 1) := by decide +kernel
theorem dX1_height_21 : decode cX1_height 21 = .ok (.iload_n 1, 1) := by decide +kernel
theorem dX1_height_22 : decode cX1_height 22 = .ok (.iconst 4, 1) := by decide +kernel
theorem dX1_height_23 : decode cX1_height 23 = .ok (.isub, 1) := by decide +kernel
theorem dX1_height_24 : decode cX1_height 24 = .ok (.iconst 1, 1) := by decide +kernel
theorem dX1_height_25 : decode cX1_height 25 = .ok (.iadd, 1) := by decide +kernel
theorem dX1_height_26 : decode cX1_height 26 = .ok (.invokestatic 61, 3) := by decide +kernel
theorem dX1_height_29 : decode cX1_height 29 = .ok (.istore_n 3, 1) := by decide +kernel
theorem dX1_height_30 : decode cX1_height 30 = .ok (.iload_n 3, 1) := by decide +kernel
theorem dX1_height_31 : decode cX1_height 31 = .ok (.iload_n 1, 1) := by decide +kernel
theorem dX1_height_32 : decode cX1_height 32 = .ok (.if_icmp .ge 73, 3) := by decide +kernel
theorem dX1_height_35 : decode cX1_height 35 = .ok (.aload_n 0, 1) := by decide +kernel
theorem dX1_height_36 : decode cX1_height 36 = .ok (.getfield 40, 3) := by decide +kernel
theorem dX1_height_39 : decode cX1_height 39 = .ok (.iconst 1, 1) := by decide +kernel
theorem dX1_height_40 : decode cX1_height 40 = .ok (.isub, 1) := by decide +kernel
theorem dX1_height_41 : decode cX1_height 41 = .ok (.iload_n 3, 1) := by decide +kernel
theorem dX1_height_42 : decode cX1_height 42 = .ok (.iconst 4, 1) := by decide +kernel
theorem dX1_height_43 : decode cX1_height 43 = .ok (.iadd, 1) := by decide +kernel
theorem dX1_height_44 : decode cX1_height 44 = .ok (.invokestatic 55, 3) := by decide +kernel
theorem dX1_height_47 : decode cX1_height 47 = .ok (.istore 4, 2) := by decide +kernel
theorem dX1_height_49 : decode cX1_height 49 = .ok (.iload_n 1, 1) := by decide +kernel
theorem dX1_height_50 : decode cX1_height 50 = .ok (.iconst 1, 1) := by decide +kernel
theorem dX1_height_51 : decode cX1_height 51 = .ok (.iadd, 1) := by decide +kernel
theorem dX1_height_52 : decode cX1_height 52 = .ok (.istore 5, 2) := by decide +kernel
theorem dX1_height_54 : decode cX1_height 54 = .ok (.iload 5, 2) := by decide +kernel
theorem dX1_height_56 : decode cX1_height 56 = .ok (.iload 4, 2) := by decide +kernel
theorem dX1_height_58 : decode cX1_height 58 = .ok (.if_icmp .gt 41, 3) := by decide +kernel
theorem dX1_height_61 : decode cX1_height 61 = .ok (.aload_n 0, 1) := by decide +kernel
theorem dX1_height_62 : decode cX1_height 62 = .ok (.getfield 29, 3) := by decide +kernel
theorem dX1_height_65 : decode cX1_height 65 = .ok (.iload_n 3, 1) := by decide +kernel
theorem dX1_height_66 : decode cX1_height 66 = .ok (.baload, 1) := by decide +kernel
theorem dX1_height_67 : decode cX1_height 67 = .ok (.ifCond .ne 32, 3) := by decide +kernel
theorem dX1_height_70 : decode cX1_height 70 = .ok (.aload_n 0, 1) := by decide +kernel
theorem dX1_height_71 : decode cX1_height 71 = .ok (.getfield 29, 3) := by decide +kernel
theorem dX1_height_74 : decode cX1_height 74 = .ok (.iload 5, 2) := by decide +kernel
theorem dX1_height_76 : decode cX1_height 76 = .ok (.baload, 1) := by decide +kernel
theorem dX1_height_77 : decode cX1_height 77 = .ok (.ifCond .ne 16, 3) := by decide +kernel
theorem dX1_height_80 : decode cX1_height 80 = .ok (.iload_n 2, 1) := by decide +kernel
theorem dX1_height_81 : decode cX1_height 81 = .ok (.aload_n 0, 1) := by decide +kernel
theorem dX1_height_82 : decode cX1_height 82 = .ok (.iload_n 3, 1) := by decide +kernel
theorem dX1_height_83 : decode cX1_height 83 = .ok (.iload 5, 2) := by decide +kernel
theorem dX1_height_85 : decode cX1_height 85 = .ok (.iload_n 1, 1) := by decide +kernel
theorem dX1_height_86 : decode cX1_height 86 = .ok (.invokevirtual 68, 3) := by decide +kernel
theorem dX1_height_89 : decode cX1_height 89 = .ok (.invokestatic 61, 3) := by decide +kernel
theorem dX1_height_92 : decode cX1_height 92 = .ok (.istore_n 2, 1) := by decide +kernel
theorem dX1_height_93 : decode cX1_height 93 = .ok (.iinc 5 1, 3) := by decide +kernel
theorem dX1_height_96 : decode cX1_height 96 = .ok (.goto (-42), 3) := by decide +kernel
theorem dX1_height_99 : decode cX1_height 99 = .ok (.iinc 3 1, 3) := by decide +kernel
theorem dX1_height_102 : decode cX1_height 102 = .ok (.goto (-72), 3) := by decide +kernel
theorem dX1_height_105 : decode cX1_height 105 = .ok (.iload_n 2, 1) := by decide +kernel
theorem dX1_height_106 : decode cX1_height 106 = .ok (.ldc 67, 2) := by decide +kernel
theorem dX1_height_108 : decode cX1_height 108 = .ok (.if_icmp .ne 11, 3) := by decide +kernel
theorem dX1_height_111 : decode cX1_height 111 = .ok (.aload_n 0, 1) := by decide +kernel
theorem dX1_height_112 : decode cX1_height 112 = .ok (.iload_n 1, 1) := by decide +kernel
theorem dX1_height_113 : decode cX1_height 113 = .ok (.invokevirtual 72, 3) := by decide +kernel
theorem dX1_height_116 : decode cX1_height 116 = .ok (.goto 4, 3) := by decide +kernel
theorem dX1_height_119 : decode cX1_height 119 = .ok (.iload_n 2, 1) := by decide +kernel
theorem dX1_height_120 : decode cX1_height 120 = .ok (.ireturn, 1) := by decide +kernel
theorem dX1_lineAt_0 : decode cX1_lineAt 0 = .ok (.aload_n 0, 1) := by decide +kernel
theorem dX1_lineAt_1 : decode cX1_lineAt 1 = .ok (.getfield 17, 3) := by decide +kernel
theorem dX1_lineAt_4 : decode cX1_lineAt 4 = .ok (.iload_n 1, 1) := by decide +kernel
theorem dX1_lineAt_5 : decode cX1_lineAt 5 = .ok (.iaload, 1) := by decide +kernel
theorem dX1_lineAt_6 : decode cX1_lineAt 6 = .ok (.iload_n 2, 1) := by decide +kernel
theorem dX1_lineAt_7 : decode cX1_lineAt 7 = .ok (.iload_n 3, 1) := by decide +kernel
theorem dX1_lineAt_8 : decode cX1_lineAt 8 = .ok (.isub, 1) := by decide +kernel
theorem dX1_lineAt_9 : decode cX1_lineAt 9 = .ok (.imul, 1) := by decide +kernel
theorem dX1_lineAt_10 : decode cX1_lineAt 10 = .ok (.aload_n 0, 1) := by decide +kernel
theorem dX1_lineAt_11 : decode cX1_lineAt 11 = .ok (.getfield 17, 3) := by decide +kernel
theorem dX1_lineAt_14 : decode cX1_lineAt 14 = .ok (.iload_n 2, 1) := by decide +kernel
theorem dX1_lineAt_15 : decode cX1_lineAt 15 = .ok (.iaload, 1) := by decide +kernel
theorem dX1_lineAt_16 : decode cX1_lineAt 16 = .ok (.iload_n 3, 1) := by decide +kernel
theorem dX1_lineAt_17 : decode cX1_lineAt 17 = .ok (.iload_n 1, 1) := by decide +kernel
theorem dX1_lineAt_18 : decode cX1_lineAt 18 = .ok (.isub, 1) := by decide +kernel
theorem dX1_lineAt_19 : decode cX1_lineAt 19 = .ok (.imul, 1) := by decide +kernel
theorem dX1_lineAt_20 : decode cX1_lineAt 20 = .ok (.iadd, 1) := by decide +kernel
theorem dX1_lineAt_21 : decode cX1_lineAt 21 = .ok (.iload_n 2, 1) := by decide +kernel
theorem dX1_lineAt_22 : decode cX1_lineAt 22 = .ok (.iload_n 1, 1) := by decide +kernel
theorem dX1_lineAt_23 : decode cX1_lineAt 23 = .ok (.isub, 1) := by decide +kernel
theorem dX1_lineAt_24 : decode cX1_lineAt 24 = .ok (.invokestatic 76, 3) := by decide +kernel
theorem dX1_lineAt_27 : decode cX1_lineAt 27 = .ok (.ireturn, 1) := by decide +kernel
theorem dX1_nearestBed_0 : decode cX1_nearestBed 0 = .ok (.iconst 0, 1) := by decide +kernel
theorem dX1_nearestBed_1 : decode cX1_nearestBed 1 = .ok (.istore_n 2, 1) := by decide +kernel
theorem dX1_nearestBed_2 : decode cX1_nearestBed 2 = .ok (.iload_n 2, 1) := by decide +kernel
theorem dX1_nearestBed_3 : decode cX1_nearestBed 3 = .ok (.aload_n 0, 1) := by decide +kernel
theorem dX1_nearestBed_4 : decode cX1_nearestBed 4 = .ok (.getfield 40, 3) := by decide +kernel
theorem dX1_nearestBed_7 : decode cX1_nearestBed 7 = .ok (.if_icmp .ge 47, 3) := by decide +kernel
theorem dX1_nearestBed_10 : decode cX1_nearestBed 10 = .ok (.aload_n 0, 1) := by decide +kernel
theorem dX1_nearestBed_11 : decode cX1_nearestBed 11 = .ok (.iload_n 1, 1) := by decide +kernel
theorem dX1_nearestBed_12 : decode cX1_nearestBed 12 = .ok (.iload_n 2, 1) := by decide +kernel
theorem dX1_nearestBed_13 : decode cX1_nearestBed 13 = .ok (.isub, 1) := by decide +kernel
theorem dX1_nearestBed_14 : decode cX1_nearestBed 14 = .ok (.invokevirtual 64, 3) := by decide +kernel
theorem dX1_nearestBed_17 : decode cX1_nearestBed 17 = .ok (.ifCond .eq 12, 3) := by decide +kernel
theorem dX1_nearestBed_20 : decode cX1_nearestBed 20 = .ok (.aload_n 0, 1) := by decide +kernel
theorem dX1_nearestBed_21 : decode cX1_nearestBed 21 = .ok (.getfield 17, 3) := by decide +kernel
theorem dX1_nearestBed_24 : decode cX1_nearestBed 24 = .ok (.iload_n 1, 1) := by decide +kernel
theorem dX1_nearestBed_25 : decode cX1_nearestBed 25 = .ok (.iload_n 2, 1) := by decide +kernel
theorem dX1_nearestBed_26 : decode cX1_nearestBed 26 = .ok (.isub, 1) := by decide +kernel
theorem dX1_nearestBed_27 : decode cX1_nearestBed 27 = .ok (.iaload, 1) := by decide +kernel
theorem dX1_nearestBed_28 : decode cX1_nearestBed 28 = .ok (.ireturn, 1) := by decide +kernel
theorem dX1_nearestBed_29 : decode cX1_nearestBed 29 = .ok (.aload_n 0, 1) := by decide +kernel
theorem dX1_nearestBed_30 : decode cX1_nearestBed 30 = .ok (.iload_n 1, 1) := by decide +kernel
theorem dX1_nearestBed_31 : decode cX1_nearestBed 31 = .ok (.iload_n 2, 1) := by decide +kernel
theorem dX1_nearestBed_32 : decode cX1_nearestBed 32 = .ok (.iadd, 1) := by decide +kernel
theorem dX1_nearestBed_33 : decode cX1_nearestBed 33 = .ok (.invokevirtual 64, 3) := by decide +kernel
theorem dX1_nearestBed_36 : decode cX1_nearestBed 36 = .ok (.ifCond .eq 12, 3) := by decide +kernel
theorem dX1_nearestBed_39 : decode cX1_nearestBed 39 = .ok (.aload_n 0, 1) := by decide +kernel
theorem dX1_nearestBed_40 : decode cX1_nearestBed 40 = .ok (.getfield 17, 3) := by decide +kernel
theorem dX1_nearestBed_43 : decode cX1_nearestBed 43 = .ok (.iload_n 1, 1) := by decide +kernel
theorem dX1_nearestBed_44 : decode cX1_nearestBed 44 = .ok (.iload_n 2, 1) := by decide +kernel
theorem dX1_nearestBed_45 : decode cX1_nearestBed 45 = .ok (.iadd, 1) := by decide +kernel
theorem dX1_nearestBed_46 : decode cX1_nearestBed 46 = .ok (.iaload, 1) := by decide +kernel
theorem dX1_nearestBed_47 : decode cX1_nearestBed 47 = .ok (.ireturn, 1) := by decide +kernel
theorem dX1_nearestBed_48 : decode cX1_nearestBed 48 = .ok (.iinc 2 1, 3) := by decide +kernel
theorem dX1_nearestBed_51 : decode cX1_nearestBed 51 = .ok (.goto (-49), 3) := by decide +kernel
theorem dX1_nearestBed_54 : decode cX1_nearestBed 54 = .ok (.iconst 0, 1) := by decide +kernel
theorem dX1_nearestBed_55 : decode cX1_nearestBed 55 = .ok (.ireturn, 1) := by decide +kernel
theorem dX1_bears_0 : decode cX1_bears 0 = .ok (.aload_n 0, 1) := by decide +kernel
theorem dX1_bears_1 : decode cX1_bears 1 = .ok (.iload_n 1, 1) := by decide +kernel
theorem dX1_bears_2 : decode cX1_bears 2 = .ok (.invokevirtual 64, 3) := by decide +kernel
theorem dX1_bears_5 : decode cX1_bears 5 = .ok (.ifCond .ne 5, 3) := by decide +kernel
theorem dX1_bears_8 : decode cX1_bears 8 = .ok (.iconst 0, 1) := by decide +kernel
theorem dX1_bears_9 : decode cX1_bears 9 = .ok (.ireturn, 1) := by decide +kernel
theorem dX1_bears_10 : decode cX1_bears 10 = .ok (.aload_n 0, 1) := by decide +kernel
theorem dX1_bears_11 : decode cX1_bears 11 = .ok (.getfield 33, 3) := by decide +kernel
theorem dX1_bears_14 : decode cX1_bears 14 = .ok (.iload_n 1, 1) := by decide +kernel
theorem dX1_bears_15 : decode cX1_bears 15 = .ok (.iaload, 1) := by decide +kernel
theorem dX1_bears_16 : decode cX1_bears 16 = .ok (.ifCond .ne 28, 3) := by decide +kernel
theorem dX1_bears_19 : decode cX1_bears 19 = .ok (.aload_n 0, 1) := by decide +kernel
theorem dX1_bears_20 : decode cX1_bears 20 = .ok (.getfield 33, 3) := by decide +kernel
theorem dX1_bears_23 : decode cX1_bears 23 = .ok (.iload_n 1, 1) := by decide +kernel
theorem dX1_bears_24 : decode cX1_bears 24 = .ok (.aload_n 0, 1) := by decide +kernel
theorem dX1_bears_25 : decode cX1_bears 25 = .ok (.iload_n 1, 1) := by decide +kernel
theorem dX1_bears_26 : decode cX1_bears 26 = .ok (.invokevirtual 79, 3) := by decide +kernel
theorem dX1_bears_29 : decode cX1_bears 29 = .ok (.aload_n 0, 1) := by decide +kernel
theorem dX1_bears_30 : decode cX1_bears 30 = .ok (.getfield 17, 3) := by decide +kernel
theorem dX1_bears_33 : decode cX1_bears 33 = .ok (.iload_n 1, 1) := by decide +kernel
theorem dX1_bears_34 : decode cX1_bears 34 = .ok (.iaload, 1) := by decide +kernel
theorem dX1_bears_35 : decode cX1_bears 35 = .ok (.if_icmp .le 7, 3) := by decide +kernel
theorem dX1_bears_38 : decode cX1_bears 38 = .ok (.iconst 2, 1) := by decide +kernel
theorem dX1_bears_39 : decode cX1_bears 39 = .ok (.goto 4, 3) := by decide +kernel
theorem dX1_bears_42 : decode cX1_bears 42 = .ok (.iconst 1, 1) := by decide +kernel
theorem dX1_bears_43 : decode cX1_bears 43 = .ok (.iastore, 1) := by decide +kernel
theorem dX1_bears_44 : decode cX1_bears 44 = .ok (.aload_n 0, 1) := by decide +kernel
theorem dX1_bears_45 : decode cX1_bears 45 = .ok (.getfield 33, 3) := by decide +kernel
theorem dX1_bears_48 : decode cX1_bears 48 = .ok (.iload_n 1, 1) := by decide +kernel
theorem dX1_bears_49 : decode cX1_bears 49 = .ok (.iaload, 1) := by decide +kernel
theorem dX1_bears_50 : decode cX1_bears 50 = .ok (.iconst 1, 1) := by decide +kernel
theorem dX1_bears_51 : decode cX1_bears 51 = .ok (.if_icmp .ne 7, 3) := by decide +kernel
theorem dX1_bears_54 : decode cX1_bears 54 = .ok (.iconst 1, 1) := by decide +kernel
theorem dX1_bears_55 : decode cX1_bears 55 = .ok (.goto 4, 3) := by decide +kernel
theorem dX1_bears_58 : decode cX1_bears 58 = .ok (.iconst 0, 1) := by decide +kernel
theorem dX1_bears_59 : decode cX1_bears 59 = .ok (.ireturn, 1) := by decide +kernel
theorem dX1_jointAt_0 : decode cX1_jointAt 0 = .ok (.aload_n 0, 1) := by decide +kernel
theorem dX1_jointAt_1 : decode cX1_jointAt 1 = .ok (.iload_n 1, 1) := by decide +kernel
theorem dX1_jointAt_2 : decode cX1_jointAt 2 = .ok (.invokevirtual 64, 3) := by decide +kernel
theorem dX1_jointAt_5 : decode cX1_jointAt 5 = .ok (.ifCond .eq 17, 3) := by decide +kernel
theorem dX1_jointAt_8 : decode cX1_jointAt 8 = .ok (.aload_n 0, 1) := by decide +kernel
theorem dX1_jointAt_9 : decode cX1_jointAt 9 = .ok (.getfield 11, 3) := by decide +kernel
theorem dX1_jointAt_12 : decode cX1_jointAt 12 = .ok (.iload_n 1, 1) := by decide +kernel
theorem dX1_jointAt_13 : decode cX1_jointAt 13 = .ok (.iaload, 1) := by decide +kernel
theorem dX1_jointAt_14 : decode cX1_jointAt 14 = .ok (.iconst 3, 1) := by decide +kernel
theorem dX1_jointAt_15 : decode cX1_jointAt 15 = .ok (.if_icmp .ne 7, 3) := by decide +kernel
theorem dX1_jointAt_18 : decode cX1_jointAt 18 = .ok (.iconst 1, 1) := by decide +kernel
theorem dX1_jointAt_19 : decode cX1_jointAt 19 = .ok (.goto 4, 3) := by decide +kernel
theorem dX1_jointAt_22 : decode cX1_jointAt 22 = .ok (.iconst 0, 1) := by decide +kernel
theorem dX1_jointAt_23 : decode cX1_jointAt 23 = .ok (.ireturn, 1) := by decide +kernel
theorem dX1_sink_0 : decode cX1_sink 0 = .ok (.aload_n 0, 1) := by decide +kernel
theorem dX1_sink_1 : decode cX1_sink 1 = .ok (.getfield 23, 3) := by decide +kernel
theorem dX1_sink_4 : decode cX1_sink 4 = .ok (.iload_n 1, 1) := by decide +kernel
theorem dX1_sink_5 : decode cX1_sink 5 = .ok (.iaload, 1) := by decide +kernel
theorem dX1_sink_6 : decode cX1_sink 6 = .ok (.iload_n 2, 1) := by decide +kernel
theorem dX1_sink_7 : decode cX1_sink 7 = .ok (.iadd, 1) := by decide +kernel
theorem dX1_sink_8 : decode cX1_sink 8 = .ok (.istore_n 3, 1) := by decide +kernel
theorem dX1_sink_9 : decode cX1_sink 9 = .ok (.iload_n 3, 1) := by decide +kernel
theorem dX1_sink_10 : decode cX1_sink 10 = .ok (.bipush 100, 2) := by decide +kernel
theorem dX1_sink_12 : decode cX1_sink 12 = .ok (.idiv, 1) := by decide +kernel
theorem dX1_sink_13 : decode cX1_sink 13 = .ok (.istore 4, 2) := by decide +kernel
theorem dX1_sink_15 : decode cX1_sink 15 = .ok (.aload_n 0, 1) := by decide +kernel
theorem dX1_sink_16 : decode cX1_sink 16 = .ok (.getfield 23, 3) := by decide +kernel
theorem dX1_sink_19 : decode cX1_sink 19 = .ok (.iload_n 1, 1) := by decide +kernel
theorem dX1_sink_20 : decode cX1_sink 20 = .ok (.iload_n 3, 1) := by decide +kernel
theorem dX1_sink_21 : decode cX1_sink 21 = .ok (.bipush 100, 2) := by decide +kernel
theorem dX1_sink_23 : decode cX1_sink 23 = .ok (.irem, 1) := by decide +kernel
theorem dX1_sink_24 : decode cX1_sink 24 = .ok (.iastore, 1) := by decide +kernel
theorem dX1_sink_25 : decode cX1_sink 25 = .ok (.iload 4, 2) := by decide +kernel
theorem dX1_sink_27 : decode cX1_sink 27 = .ok (.ifCond .le 17, 3) := by decide +kernel
theorem dX1_sink_30 : decode cX1_sink 30 = .ok (.aload_n 0, 1) := by decide +kernel
theorem dX1_sink_31 : decode cX1_sink 31 = .ok (.iload_n 1, 1) := by decide +kernel
theorem dX1_sink_32 : decode cX1_sink 32 = .ok (.aload_n 0, 1) := by decide +kernel
theorem dX1_sink_33 : decode cX1_sink 33 = .ok (.getfield 17, 3) := by decide +kernel
theorem dX1_sink_36 : decode cX1_sink 36 = .ok (.iload_n 1, 1) := by decide +kernel
theorem dX1_sink_37 : decode cX1_sink 37 = .ok (.iaload, 1) := by decide +kernel
theorem dX1_sink_38 : decode cX1_sink 38 = .ok (.iload 4, 2) := by decide +kernel
theorem dX1_sink_40 : decode cX1_sink 40 = .ok (.isub, 1) := by decide +kernel
theorem dX1_sink_41 : decode cX1_sink 41 = .ok (.invokevirtual 82, 3) := by decide +kernel
theorem dX1_sink_44 : decode cX1_sink 44 = .ok (.iload 4, 2) := by decide +kernel
theorem dX1_sink_46 : decode cX1_sink 46 = .ok (.ireturn, 1) := by decide +kernel
theorem dX1_raise_0 : decode cX1_raise 0 = .ok (.aload_n 0, 1) := by decide +kernel
theorem dX1_raise_1 : decode cX1_raise 1 = .ok (.iload_n 1, 1) := by decide +kernel
theorem dX1_raise_2 : decode cX1_raise 2 = .ok (.invokevirtual 64, 3) := by decide +kernel
theorem dX1_raise_5 : decode cX1_raise 5 = .ok (.ifCond .eq 13, 3) := by decide +kernel
theorem dX1_raise_8 : decode cX1_raise 8 = .ok (.aload_n 0, 1) := by decide +kernel
theorem dX1_raise_9 : decode cX1_raise 9 = .ok (.getfield 17, 3) := by decide +kernel
theorem dX1_raise_12 : decode cX1_raise 12 = .ok (.iload_n 1, 1) := by decide +kernel
theorem dX1_raise_13 : decode cX1_raise 13 = .ok (.iaload, 1) := by decide +kernel
theorem dX1_raise_14 : decode cX1_raise 14 = .ok (.iload_n 2, 1) := by decide +kernel
theorem dX1_raise_15 : decode cX1_raise 15 = .ok (.if_icmp .lt 5, 3) := by decide +kernel
theorem dX1_raise_18 : decode cX1_raise 18 = .ok (.iconst 0, 1) := by decide +kernel
theorem dX1_raise_19 : decode cX1_raise 19 = .ok (.ireturn, 1) := by decide +kernel
theorem dX1_raise_20 : decode cX1_raise 20 = .ok (.aload_n 0, 1) := by decide +kernel
theorem dX1_raise_21 : decode cX1_raise 21 = .ok (.iload_n 1, 1) := by decide +kernel
theorem dX1_raise_22 : decode cX1_raise 22 = .ok (.iload_n 2, 1) := by decide +kernel
theorem dX1_raise_23 : decode cX1_raise 23 = .ok (.invokevirtual 82, 3) := by decide +kernel
theorem dX1_raise_26 : decode cX1_raise 26 = .ok (.aload_n 0, 1) := by decide +kernel
theorem dX1_raise_27 : decode cX1_raise 27 = .ok (.getfield 23, 3) := by decide +kernel
theorem dX1_raise_30 : decode cX1_raise 30 = .ok (.iload_n 1, 1) := by decide +kernel
theorem dX1_raise_31 : decode cX1_raise 31 = .ok (.iconst 0, 1) := by decide +kernel
theorem dX1_raise_32 : decode cX1_raise 32 = .ok (.iastore, 1) := by decide +kernel
theorem dX1_raise_33 : decode cX1_raise 33 = .ok (.aload_n 0, 1) := by decide +kernel
theorem dX1_raise_34 : decode cX1_raise 34 = .ok (.getfield 20, 3) := by decide +kernel
theorem dX1_raise_37 : decode cX1_raise 37 = .ok (.iload_n 1, 1) := by decide +kernel
theorem dX1_raise_38 : decode cX1_raise 38 = .ok (.iconst 1, 1) := by decide +kernel
theorem dX1_raise_39 : decode cX1_raise 39 = .ok (.aload_n 0, 1) := by decide +kernel
theorem dX1_raise_40 : decode cX1_raise 40 = .ok (.getfield 20, 3) := by decide +kernel
theorem dX1_raise_43 : decode cX1_raise 43 = .ok (.iload_n 1, 1) := by decide +kernel
theorem dX1_raise_44 : decode cX1_raise 44 = .ok (.iaload, 1) := by decide +kernel
theorem dX1_raise_45 : decode cX1_raise 45 = .ok (.iconst 1, 1) := by decide +kernel
theorem dX1_raise_46 : decode cX1_raise 46 = .ok (.isub, 1) := by decide +kernel
theorem dX1_raise_47 : decode cX1_raise 47 = .ok (.invokestatic 61, 3) := by decide +kernel
theorem dX1_raise_50 : decode cX1_raise 50 = .ok (.iastore, 1) := by decide +kernel
theorem dX1_raise_51 : decode cX1_raise 51 = .ok (.iconst 1, 1) := by decide +kernel
theorem dX1_raise_52 : decode cX1_raise 52 = .ok (.ireturn, 1) := by decide +kernel
theorem dX1_chord_0 : decode cX1_chord 0 = .ok (.aload_n 0, 1) := by decide +kernel
theorem dX1_chord_1 : decode cX1_chord 1 = .ok (.iload_n 1, 1) := by decide +kernel
theorem dX1_chord_2 : decode cX1_chord 2 = .ok (.iload_n 2, 1) := by decide +kernel
theorem dX1_chord_3 : decode cX1_chord 3 = .ok (.isub, 1) := by decide +kernel
theorem dX1_chord_4 : decode cX1_chord 4 = .ok (.invokevirtual 48, 3) := by decide +kernel
theorem dX1_chord_7 : decode cX1_chord 7 = .ok (.ifCond .eq 13, 3) := by decide +kernel
theorem dX1_chord_10 : decode cX1_chord 10 = .ok (.aload_n 0, 1) := by decide +kernel
theorem dX1_chord_11 : decode cX1_chord 11 = .ok (.iload_n 1, 1) := by decide +kernel
theorem dX1_chord_12 : decode cX1_chord 12 = .ok (.iload_n 2, 1) := by decide +kernel
theorem dX1_chord_13 : decode cX1_chord 13 = .ok (.iadd, 1) := by decide +kernel
theorem dX1_chord_14 : decode cX1_chord 14 = .ok (.invokevirtual 48, 3) := by decide +kernel
theorem dX1_chord_17 : decode cX1_chord 17 = .ok (.ifCond .ne 5, 3) := by decide +kernel
theorem dX1_chord_20 : decode cX1_chord 20 = .ok (.iconst 0, 1) := by decide +kernel
theorem dX1_chord_21 : decode cX1_chord 21 = .ok (.ireturn, 1) := by decide +kernel
theorem dX1_chord_22 : decode cX1_chord 22 = .ok (.iconst 2, 1) := by decide +kernel
theorem dX1_chord_23 : decode cX1_chord 23 = .ok (.aload_n 0, 1) := by decide +kernel
theorem dX1_chord_24 : decode cX1_chord 24 = .ok (.iload_n 1, 1) := by decide +kernel
theorem dX1_chord_25 : decode cX1_chord 25 = .ok (.invokevirtual 79, 3) := by decide +kernel
theorem dX1_chord_28 : decode cX1_chord 28 = .ok (.imul, 1) := by decide +kernel
end
section
theorem dX1_chord_29 : decode cX1_chord 29 = .ok (.aload_n 0, 1) := by decide +kernel
theorem dX1_chord_30 : decode cX1_chord 30 = .ok (.iload_n 1, 1) := by decide +kernel
theorem dX1_chord_31 : decode cX1_chord 31 = .ok (.iload_n 2, 1) := by decide +kernel
theorem dX1_chord_32 : decode cX1_chord 32 = .ok (.isub, 1) := by decide +kernel
theorem dX1_chord_33 : decode cX1_chord 33 = .ok (.invokevirtual 79, 3) := by decide +kernel
theorem dX1_chord_36 : decode cX1_chord 36 = .ok (.isub, 1) := by decide +kernel
theorem dX1_chord_37 : decode cX1_chord 37 = .ok (.aload_n 0, 1) := by decide +kernel
theorem dX1_chord_38 : decode cX1_chord 38 = .ok (.iload_n 1, 1) := by decide +kernel
theorem dX1_chord_39 : decode cX1_chord 39 = .ok (.iload_n 2, 1) := by decide +kernel
theorem dX1_chord_40 : decode cX1_chord 40 = .ok (.iadd, 1) := by decide +kernel
theorem dX1_chord_41 : decode cX1_chord 41 = .ok (.invokevirtual 79, 3) := by decide +kernel
theorem dX1_chord_44 : decode cX1_chord 44 = .ok (.isub, 1) := by decide +kernel
theorem dX1_chord_45 : decode cX1_chord 45 = .ok (.ireturn, 1) := by decide +kernel
theorem dX1_greatestChord_0 : decode cX1_greatestChord 0 = .ok (.iconst 0, 1) := by decide +kernel
theorem dX1_greatestChord_1 : decode cX1_greatestChord 1 = .ok (.istore_n 3, 1) := by decide +kernel
theorem dX1_greatestChord_2 : decode cX1_greatestChord 2 = .ok (.iload_n 1, 1) := by decide +kernel
theorem dX1_greatestChord_3 : decode cX1_greatestChord 3 = .ok (.istore 4, 2) := by decide +kernel
theorem dX1_greatestChord_5 : decode cX1_greatestChord 5 = .ok (.iload 4, 2) := by decide +kernel
theorem dX1_greatestChord_7 : decode cX1_greatestChord 7 = .ok (.iload_n 2, 1) := by decide +kernel
theorem dX1_greatestChord_8 : decode cX1_greatestChord 8 = .ok (.if_icmp .gt 24, 3) := by decide +kernel
theorem dX1_greatestChord_11 : decode cX1_greatestChord 11 = .ok (.iload_n 3, 1) := by decide +kernel
theorem dX1_greatestChord_12 : decode cX1_greatestChord 12 = .ok (.aload_n 0, 1) := by decide +kernel
theorem dX1_greatestChord_13 : decode cX1_greatestChord 13 = .ok (.iload 4, 2) := by decide +kernel
theorem dX1_greatestChord_15 : decode cX1_greatestChord 15 = .ok (.iconst 1, 1) := by decide +kernel
theorem dX1_greatestChord_16 : decode cX1_greatestChord 16 = .ok (.invokevirtual 86, 3) := by decide +kernel
theorem dX1_greatestChord_19 : decode cX1_greatestChord 19 = .ok (.invokestatic 89, 3) := by decide +kernel
theorem dX1_greatestChord_22 : decode cX1_greatestChord 22 = .ok (.invokestatic 61, 3) := by decide +kernel
theorem dX1_greatestChord_25 : decode cX1_greatestChord 25 = .ok (.istore_n 3, 1) := by decide +kernel
theorem dX1_greatestChord_26 : decode cX1_greatestChord 26 = .ok (.iinc 4 1, 3) := by decide +kernel
theorem dX1_greatestChord_29 : decode cX1_greatestChord 29 = .ok (.goto (-24), 3) := by decide +kernel
theorem dX1_greatestChord_32 : decode cX1_greatestChord 32 = .ok (.iload_n 3, 1) := by decide +kernel
theorem dX1_greatestChord_33 : decode cX1_greatestChord 33 = .ok (.ireturn, 1) := by decide +kernel
theorem dX1_standing_0 : decode cX1_standing 0 = .ok (.iconst 0, 1) := by decide +kernel
theorem dX1_standing_1 : decode cX1_standing 1 = .ok (.istore_n 3, 1) := by decide +kernel
theorem dX1_standing_2 : decode cX1_standing 2 = .ok (.iload_n 1, 1) := by decide +kernel
theorem dX1_standing_3 : decode cX1_standing 3 = .ok (.istore 4, 2) := by decide +kernel
theorem dX1_standing_5 : decode cX1_standing 5 = .ok (.iload 4, 2) := by decide +kernel
theorem dX1_standing_7 : decode cX1_standing 7 = .ok (.iload_n 2, 1) := by decide +kernel
theorem dX1_standing_8 : decode cX1_standing 8 = .ok (.if_icmp .gt 21, 3) := by decide +kernel
theorem dX1_standing_11 : decode cX1_standing 11 = .ok (.aload_n 0, 1) := by decide +kernel
theorem dX1_standing_12 : decode cX1_standing 12 = .ok (.iload 4, 2) := by decide +kernel
theorem dX1_standing_14 : decode cX1_standing 14 = .ok (.invokevirtual 64, 3) := by decide +kernel
theorem dX1_standing_17 : decode cX1_standing 17 = .ok (.ifCond .eq 6, 3) := by decide +kernel
theorem dX1_standing_20 : decode cX1_standing 20 = .ok (.iinc 3 1, 3) := by decide +kernel
theorem dX1_standing_23 : decode cX1_standing 23 = .ok (.iinc 4 1, 3) := by decide +kernel
theorem dX1_standing_26 : decode cX1_standing 26 = .ok (.goto (-21), 3) := by decide +kernel
theorem dX1_standing_29 : decode cX1_standing 29 = .ok (.iload_n 3, 1) := by decide +kernel
theorem dX1_standing_30 : decode cX1_standing 30 = .ok (.ireturn, 1) := by decide +kernel
theorem dX1_sumOfStones_0 : decode cX1_sumOfStones 0 = .ok (.iconst 0, 1) := by decide +kernel
theorem dX1_sumOfStones_1 : decode cX1_sumOfStones 1 = .ok (.istore_n 3, 1) := by decide +kernel
theorem dX1_sumOfStones_2 : decode cX1_sumOfStones 2 = .ok (.iload_n 1, 1) := by decide +kernel
theorem dX1_sumOfStones_3 : decode cX1_sumOfStones 3 = .ok (.istore 4, 2) := by decide +kernel
theorem dX1_sumOfStones_5 : decode cX1_sumOfStones 5 = .ok (.iload 4, 2) := by decide +kernel
theorem dX1_sumOfStones_7 : decode cX1_sumOfStones 7 = .ok (.iload_n 2, 1) := by decide +kernel
theorem dX1_sumOfStones_8 : decode cX1_sumOfStones 8 = .ok (.if_icmp .gt 28, 3) := by decide +kernel
theorem dX1_sumOfStones_11 : decode cX1_sumOfStones 11 = .ok (.aload_n 0, 1) := by decide +kernel
theorem dX1_sumOfStones_12 : decode cX1_sumOfStones 12 = .ok (.iload 4, 2) := by decide +kernel
theorem dX1_sumOfStones_14 : decode cX1_sumOfStones 14 = .ok (.invokevirtual 64, 3) := by decide +kernel
theorem dX1_sumOfStones_17 : decode cX1_sumOfStones 17 = .ok (.ifCond .eq 13, 3) := by decide +kernel
theorem dX1_sumOfStones_20 : decode cX1_sumOfStones 20 = .ok (.iload_n 3, 1) := by decide +kernel
theorem dX1_sumOfStones_21 : decode cX1_sumOfStones 21 = .ok (.aload_n 0, 1) := by decide +kernel
theorem dX1_sumOfStones_22 : decode cX1_sumOfStones 22 = .ok (.getfield 20, 3) := by decide +kernel
theorem dX1_sumOfStones_25 : decode cX1_sumOfStones 25 = .ok (.iload 4, 2) := by decide +kernel
theorem dX1_sumOfStones_27 : decode cX1_sumOfStones 27 = .ok (.iaload, 1) := by decide +kernel
theorem dX1_sumOfStones_28 : decode cX1_sumOfStones 28 = .ok (.iadd, 1) := by decide +kernel
theorem dX1_sumOfStones_29 : decode cX1_sumOfStones 29 = .ok (.istore_n 3, 1) := by decide +kernel
theorem dX1_sumOfStones_30 : decode cX1_sumOfStones 30 = .ok (.iinc 4 1, 3) := by decide +kernel
theorem dX1_sumOfStones_33 : decode cX1_sumOfStones 33 = .ok (.goto (-28), 3) := by decide +kernel
theorem dX1_sumOfStones_36 : decode cX1_sumOfStones 36 = .ok (.iload_n 3, 1) := by decide +kernel
theorem dX1_sumOfStones_37 : decode cX1_sumOfStones 37 = .ok (.ireturn, 1) := by decide +kernel
theorem dX1_sumOfBeds_0 : decode cX1_sumOfBeds 0 = .ok (.iconst 0, 1) := by decide +kernel
theorem dX1_sumOfBeds_1 : decode cX1_sumOfBeds 1 = .ok (.istore_n 1, 1) := by decide +kernel
theorem dX1_sumOfBeds_2 : decode cX1_sumOfBeds 2 = .ok (.iconst 0, 1) := by decide +kernel
theorem dX1_sumOfBeds_3 : decode cX1_sumOfBeds 3 = .ok (.istore_n 2, 1) := by decide +kernel
theorem dX1_sumOfBeds_4 : decode cX1_sumOfBeds 4 = .ok (.iload_n 2, 1) := by decide +kernel
theorem dX1_sumOfBeds_5 : decode cX1_sumOfBeds 5 = .ok (.aload_n 0, 1) := by decide +kernel
theorem dX1_sumOfBeds_6 : decode cX1_sumOfBeds 6 = .ok (.getfield 40, 3) := by decide +kernel
theorem dX1_sumOfBeds_9 : decode cX1_sumOfBeds 9 = .ok (.if_icmp .ge 27, 3) := by decide +kernel
theorem dX1_sumOfBeds_12 : decode cX1_sumOfBeds 12 = .ok (.aload_n 0, 1) := by decide +kernel
theorem dX1_sumOfBeds_13 : decode cX1_sumOfBeds 13 = .ok (.getfield 29, 3) := by decide +kernel
theorem dX1_sumOfBeds_16 : decode cX1_sumOfBeds 16 = .ok (.iload_n 2, 1) := by decide +kernel
theorem dX1_sumOfBeds_17 : decode cX1_sumOfBeds 17 = .ok (.baload, 1) := by decide +kernel
theorem dX1_sumOfBeds_18 : decode cX1_sumOfBeds 18 = .ok (.ifCond .ne 12, 3) := by decide +kernel
theorem dX1_sumOfBeds_21 : decode cX1_sumOfBeds 21 = .ok (.iload_n 1, 1) := by decide +kernel
theorem dX1_sumOfBeds_22 : decode cX1_sumOfBeds 22 = .ok (.aload_n 0, 1) := by decide +kernel
theorem dX1_sumOfBeds_23 : decode cX1_sumOfBeds 23 = .ok (.getfield 17, 3) := by decide +kernel
theorem dX1_sumOfBeds_26 : decode cX1_sumOfBeds 26 = .ok (.iload_n 2, 1) := by decide +kernel
theorem dX1_sumOfBeds_27 : decode cX1_sumOfBeds 27 = .ok (.iaload, 1) := by decide +kernel
theorem dX1_sumOfBeds_28 : decode cX1_sumOfBeds 28 = .ok (.iadd, 1) := by decide +kernel
theorem dX1_sumOfBeds_29 : decode cX1_sumOfBeds 29 = .ok (.istore_n 1, 1) := by decide +kernel
theorem dX1_sumOfBeds_30 : decode cX1_sumOfBeds 30 = .ok (.iinc 2 1, 3) := by decide +kernel
theorem dX1_sumOfBeds_33 : decode cX1_sumOfBeds 33 = .ok (.goto (-29), 3) := by decide +kernel
theorem dX1_sumOfBeds_36 : decode cX1_sumOfBeds 36 = .ok (.iload_n 1, 1) := by decide +kernel
theorem dX1_sumOfBeds_37 : decode cX1_sumOfBeds 37 = .ok (.ireturn, 1) := by decide +kernel
theorem dX2_init_0 : decode cX2_init 0 = .ok (.aload_n 0, 1) := by decide +kernel
theorem dX2_init_1 : decode cX2_init 1 = .ok (.invokespecial 3, 3) := by decide +kernel
theorem dX2_init_4 : decode cX2_init 4 = .ok (.aload_n 0, 1) := by decide +kernel
theorem dX2_init_5 : decode cX2_init 5 = .ok (.bipush 20, 2) := by decide +kernel
theorem dX2_init_7 : decode cX2_init 7 = .ok (.newarray .int, 2) := by decide +kernel
theorem dX2_init_9 : decode cX2_init 9 = .ok (.putfield 9, 3) := by decide +kernel
theorem dX2_init_12 : decode cX2_init 12 = .ok (.aload_n 0, 1) := by decide +kernel
theorem dX2_init_13 : decode cX2_init 13 = .ok (.bipush 16, 2) := by decide +kernel
theorem dX2_init_15 : decode cX2_init 15 = .ok (.newarray .byte, 2) := by decide +kernel
theorem dX2_init_17 : decode cX2_init 17 = .ok (.putfield 15, 3) := by decide +kernel
theorem dX2_init_20 : decode cX2_init 20 = .ok (.aload_n 0, 1) := by decide +kernel
theorem dX2_init_21 : decode cX2_init 21 = .ok (.iconst 0, 1) := by decide +kernel
theorem dX2_init_22 : decode cX2_init 22 = .ok (.putfield 19, 3) := by decide +kernel
theorem dX2_init_25 : decode cX2_init 25 = .ok (.return_, 1) := by decide +kernel
theorem dX2_roll_0 : decode cX2_roll 0 = .ok (.iconst 0, 1) := by decide +kernel
theorem dX2_roll_1 : decode cX2_roll 1 = .ok (.istore_n 3, 1) := by decide +kernel
theorem dX2_roll_2 : decode cX2_roll 2 = .ok (.iconst 0, 1) := by decide +kernel
theorem dX2_roll_3 : decode cX2_roll 3 = .ok (.istore 4, 2) := by decide +kernel
theorem dX2_roll_5 : decode cX2_roll 5 = .ok (.iload 4, 2) := by decide +kernel
theorem dX2_roll_7 : decode cX2_roll 7 = .ok (.iload_n 2, 1) := by decide +kernel
theorem dX2_roll_8 : decode cX2_roll 8 = .ok (.if_icmp .ge 62, 3) := by decide +kernel
theorem dX2_roll_11 : decode cX2_roll 11 = .ok (.iconst 0, 1) := by decide +kernel
theorem dX2_roll_12 : decode cX2_roll 12 = .ok (.istore 5, 2) := by decide +kernel
theorem dX2_roll_14 : decode cX2_roll 14 = .ok (.iload 5, 2) := by decide +kernel
theorem dX2_roll_16 : decode cX2_roll 16 = .ok (.aload_n 1, 1) := by decide +kernel
theorem dX2_roll_17 : decode cX2_roll 17 = .ok (.getfield 23, 3) := by decide +kernel
theorem dX2_roll_20 : decode cX2_roll 20 = .ok (.if_icmp .ge 44, 3) := by decide +kernel
theorem dX2_roll_23 : decode cX2_roll 23 = .ok (.iconst 0, 1) := by decide +kernel
theorem dX2_roll_24 : decode cX2_roll 24 = .ok (.istore 6, 2) := by decide +kernel
theorem dX2_roll_26 : decode cX2_roll 26 = .ok (.iload 6, 2) := by decide +kernel
theorem dX2_roll_28 : decode cX2_roll 28 = .ok (.aload_n 0, 1) := by decide +kernel
theorem dX2_roll_29 : decode cX2_roll 29 = .ok (.getfield 19, 3) := by decide +kernel
theorem dX2_roll_32 : decode cX2_roll 32 = .ok (.if_icmp .ge 26, 3) := by decide +kernel
theorem dX2_roll_35 : decode cX2_roll 35 = .ok (.iload_n 3, 1) := by decide +kernel
theorem dX2_roll_36 : decode cX2_roll 36 = .ok (.aload_n 0, 1) := by decide +kernel
theorem dX2_roll_37 : decode cX2_roll 37 = .ok (.aload_n 1, 1) := by decide +kernel
theorem dX2_roll_38 : decode cX2_roll 38 = .ok (.iload 5, 2) := by decide +kernel
theorem dX2_roll_40 : decode cX2_roll 40 = .ok (.aload_n 0, 1) := by decide +kernel
theorem dX2_roll_41 : decode cX2_roll 41 = .ok (.getfield 9, 3) := by decide +kernel
theorem dX2_roll_44 : decode cX2_roll 44 = .ok (.iload 6, 2) := by decide +kernel
theorem dX2_roll_46 : decode cX2_roll 46 = .ok (.iaload, 1) := by decide +kernel
theorem dX2_roll_47 : decode cX2_roll 47 = .ok (.invokevirtual 28, 3) := by decide +kernel
theorem dX2_roll_50 : decode cX2_roll 50 = .ok (.iadd, 1) := by decide +kernel
theorem dX2_roll_51 : decode cX2_roll 51 = .ok (.istore_n 3, 1) := by decide +kernel
theorem dX2_roll_52 : decode cX2_roll 52 = .ok (.iinc 6 1, 3) := by decide +kernel
theorem dX2_roll_55 : decode cX2_roll 55 = .ok (.goto (-29), 3) := by decide +kernel
theorem dX2_roll_58 : decode cX2_roll 58 = .ok (.iinc 5 1, 3) := by decide +kernel
theorem dX2_roll_61 : decode cX2_roll 61 = .ok (.goto (-47), 3) := by decide +kernel
theorem dX2_roll_64 : decode cX2_roll 64 = .ok (.iinc 4 1, 3) := by decide +kernel
theorem dX2_roll_67 : decode cX2_roll 67 = .ok (.goto (-62), 3) := by decide +kernel
theorem dX2_roll_70 : decode cX2_roll 70 = .ok (.iload_n 3, 1) := by decide +kernel
theorem dX2_roll_71 : decode cX2_roll 71 = .ok (.ireturn, 1) := by decide +kernel
theorem dX2_pressAt_0 : decode cX2_pressAt 0 = .ok (.iload_n 3, 1) := by decide +kernel
theorem dX2_pressAt_1 : decode cX2_pressAt 1 = .ok (.istore 4, 2) := by decide +kernel
theorem dX2_pressAt_3 : decode cX2_pressAt 3 = .ok (.aload_n 1, 1) := by decide +kernel
theorem dX2_pressAt_4 : decode cX2_pressAt 4 = .ok (.iload_n 2, 1) := by decide +kernel
theorem dX2_pressAt_5 : decode cX2_pressAt 5 = .ok (.invokevirtual 32, 3) := by decide +kernel
theorem dX2_pressAt_8 : decode cX2_pressAt 8 = .ok (.ifCond .eq 20, 3) := by decide +kernel
theorem dX2_pressAt_11 : decode cX2_pressAt 11 = .ok (.aload_n 1, 1) := by decide +kernel
theorem dX2_pressAt_12 : decode cX2_pressAt 12 = .ok (.getfield 36, 3) := by decide +kernel
theorem dX2_pressAt_15 : decode cX2_pressAt 15 = .ok (.iload_n 2, 1) := by decide +kernel
theorem dX2_pressAt_16 : decode cX2_pressAt 16 = .ok (.dup2, 1) := by decide +kernel
theorem dX2_pressAt_17 : decode cX2_pressAt 17 = .ok (.iaload, 1) := by decide +kernel
theorem dX2_pressAt_18 : decode cX2_pressAt 18 = .ok (.iconst 1, 1) := by decide +kernel
theorem dX2_pressAt_19 : decode cX2_pressAt 19 = .ok (.iadd, 1) := by decide +kernel
theorem dX2_pressAt_20 : decode cX2_pressAt 20 = .ok (.iastore, 1) := by decide +kernel
theorem dX2_pressAt_21 : decode cX2_pressAt 21 = .ok (.iload_n 3, 1) := by decide +kernel
theorem dX2_pressAt_22 : decode cX2_pressAt 22 = .ok (.iload_n 3, 1) := by decide +kernel
theorem dX2_pressAt_23 : decode cX2_pressAt 23 = .ok (.iconst 2, 1) := by decide +kernel
theorem dX2_pressAt_24 : decode cX2_pressAt 24 = .ok (.idiv, 1) := by decide +kernel
theorem dX2_pressAt_25 : decode cX2_pressAt 25 = .ok (.iadd, 1) := by decide +kernel
theorem dX2_pressAt_26 : decode cX2_pressAt 26 = .ok (.istore 4, 2) := by decide +kernel
theorem dX2_pressAt_28 : decode cX2_pressAt 28 = .ok (.aload_n 1, 1) := by decide +kernel
theorem dX2_pressAt_29 : decode cX2_pressAt 29 = .ok (.iload_n 2, 1) := by decide +kernel
theorem dX2_pressAt_30 : decode cX2_pressAt 30 = .ok (.iconst 1, 1) := by decide +kernel
theorem dX2_pressAt_31 : decode cX2_pressAt 31 = .ok (.isub, 1) := by decide +kernel
theorem dX2_pressAt_32 : decode cX2_pressAt 32 = .ok (.invokevirtual 39, 3) := by decide +kernel
theorem dX2_pressAt_35 : decode cX2_pressAt 35 = .ok (.ifCond .eq 7, 3) := by decide +kernel
theorem dX2_pressAt_38 : decode cX2_pressAt 38 = .ok (.iconst 1, 1) := by decide +kernel
theorem dX2_pressAt_39 : decode cX2_pressAt 39 = .ok (.goto 4, 3) := by decide +kernel
theorem dX2_pressAt_42 : decode cX2_pressAt 42 = .ok (.iconst 0, 1) := by decide +kernel
theorem dX2_pressAt_43 : decode cX2_pressAt 43 = .ok (.istore 5, 2) := by decide +kernel
theorem dX2_pressAt_45 : decode cX2_pressAt 45 = .ok (.aload_n 1, 1) := by decide +kernel
theorem dX2_pressAt_46 : decode cX2_pressAt 46 = .ok (.iload_n 2, 1) := by decide +kernel
theorem dX2_pressAt_47 : decode cX2_pressAt 47 = .ok (.invokevirtual 39, 3) := by decide +kernel
theorem dX2_pressAt_50 : decode cX2_pressAt 50 = .ok (.ifCond .eq 7, 3) := by decide +kernel
theorem dX2_pressAt_53 : decode cX2_pressAt 53 = .ok (.iconst 2, 1) := by decide +kernel
theorem dX2_pressAt_54 : decode cX2_pressAt 54 = .ok (.goto 4, 3) := by decide +kernel
theorem dX2_pressAt_57 : decode cX2_pressAt 57 = .ok (.iconst 0, 1) := by decide +kernel
theorem dX2_pressAt_58 : decode cX2_pressAt 58 = .ok (.istore 6, 2) := by decide +kernel
theorem dX2_pressAt_60 : decode cX2_pressAt 60 = .ok (.aload_n 1, 1) := by decide +kernel
theorem dX2_pressAt_61 : decode cX2_pressAt 61 = .ok (.iload_n 2, 1) := by decide +kernel
theorem dX2_pressAt_62 : decode cX2_pressAt 62 = .ok (.iconst 1, 1) := by decide +kernel
theorem dX2_pressAt_63 : decode cX2_pressAt 63 = .ok (.iadd, 1) := by decide +kernel
theorem dX2_pressAt_64 : decode cX2_pressAt 64 = .ok (.invokevirtual 39, 3) := by decide +kernel
theorem dX2_pressAt_67 : decode cX2_pressAt 67 = .ok (.ifCond .eq 7, 3) := by decide +kernel
theorem dX2_pressAt_70 : decode cX2_pressAt 70 = .ok (.iconst 1, 1) := by decide +kernel
theorem dX2_pressAt_71 : decode cX2_pressAt 71 = .ok (.goto 4, 3) := by decide +kernel
theorem dX2_pressAt_74 : decode cX2_pressAt 74 = .ok (.iconst 0, 1) := by decide +kernel
theorem dX2_pressAt_75 : decode cX2_pressAt 75 = .ok (.istore 7, 2) := by decide +kernel
theorem dX2_pressAt_77 : decode cX2_pressAt 77 = .ok (.iload 5, 2) := by decide +kernel
theorem dX2_pressAt_79 : decode cX2_pressAt 79 = .ok (.iload 6, 2) := by decide +kernel
theorem dX2_pressAt_81 : decode cX2_pressAt 81 = .ok (.iadd, 1) := by decide +kernel
theorem dX2_pressAt_82 : decode cX2_pressAt 82 = .ok (.iload 7, 2) := by decide +kernel
theorem dX2_pressAt_84 : decode cX2_pressAt 84 = .ok (.iadd, 1) := by decide +kernel
theorem dX2_pressAt_85 : decode cX2_pressAt 85 = .ok (.istore 8, 2) := by decide +kernel
theorem dX2_pressAt_87 : decode cX2_pressAt 87 = .ok (.aload_n 0, 1) := by decide +kernel
theorem dX2_pressAt_88 : decode cX2_pressAt 88 = .ok (.aload_n 1, 1) := by decide +kernel
theorem dX2_pressAt_89 : decode cX2_pressAt 89 = .ok (.iload_n 2, 1) := by decide +kernel
theorem dX2_pressAt_90 : decode cX2_pressAt 90 = .ok (.iconst 1, 1) := by decide +kernel
theorem dX2_pressAt_91 : decode cX2_pressAt 91 = .ok (.isub, 1) := by decide +kernel
theorem dX2_pressAt_92 : decode cX2_pressAt 92 = .ok (.iload 4, 2) := by decide +kernel
theorem dX2_pressAt_94 : decode cX2_pressAt 94 = .ok (.iload 5, 2) := by decide +kernel
theorem dX2_pressAt_96 : decode cX2_pressAt 96 = .ok (.iload 8, 2) := by decide +kernel
theorem dX2_pressAt_98 : decode cX2_pressAt 98 = .ok (.invokevirtual 42, 3) := by decide +kernel
theorem dX2_pressAt_101 : decode cX2_pressAt 101 = .ok (.aload_n 0, 1) := by decide +kernel
theorem dX2_pressAt_102 : decode cX2_pressAt 102 = .ok (.aload_n 1, 1) := by decide +kernel
theorem dX2_pressAt_103 : decode cX2_pressAt 103 = .ok (.iload_n 2, 1) := by decide +kernel
theorem dX2_pressAt_104 : decode cX2_pressAt 104 = .ok (.iload 4, 2) := by decide +kernel
theorem dX2_pressAt_106 : decode cX2_pressAt 106 = .ok (.iload 6, 2) := by decide +kernel
theorem dX2_pressAt_108 : decode cX2_pressAt 108 = .ok (.iload 8, 2) := by decide +kernel
theorem dX2_pressAt_110 : decode cX2_pressAt 110 = .ok (.invokevirtual 42, 3) := by decide +kernel
theorem dX2_pressAt_113 : decode cX2_pressAt 113 = .ok (.iadd, 1) := by decide +kernel
theorem dX2_pressAt_114 : decode cX2_pressAt 114 = .ok (.aload_n 0, 1) := by decide +kernel
theorem dX2_pressAt_115 : decode cX2_pressAt 115 = .ok (.aload_n 1, 1) := by decide +kernel
theorem dX2_pressAt_116 : decode cX2_pressAt 116 = .ok (.iload_n 2, 1) := by decide +kernel
theorem dX2_pressAt_117 : decode cX2_pressAt 117 = .ok (.iconst 1, 1) := by decide +kernel
theorem dX2_pressAt_118 : decode cX2_pressAt 118 = .ok (.iadd, 1) := by decide +kernel
theorem dX2_pressAt_119 : decode cX2_pressAt 119 = .ok (.iload 4, 2) := by decide +kernel
theorem dX2_pressAt_121 : decode cX2_pressAt 121 = .ok (.iload 7, 2) := by decide +kernel
theorem dX2_pressAt_123 : decode cX2_pressAt 123 = .ok (.iload 8, 2) := by decide +kernel
theorem dX2_pressAt_125 : decode cX2_pressAt 125 = .ok (.invokevirtual 42, 3) := by decide +kernel
theorem dX2_pressAt_128 : decode cX2_pressAt 128 = .ok (.iadd, 1) := by decide +kernel
theorem dX2_pressAt_129 : decode cX2_pressAt 129 = .ok (.ireturn, 1) := by decide +kernel
theorem dX2_settle_0 : decode cX2_settle 0 = .ok (.iload 4, 2) := by decide +kernel
theorem dX2_settle_2 : decode cX2_settle 2 = .ok (.ifCond .eq 11, 3) := by decide +kernel
theorem dX2_settle_5 : decode cX2_settle 5 = .ok (.aload_n 1, 1) := by decide +kernel
theorem dX2_settle_6 : decode cX2_settle 6 = .ok (.iload_n 2, 1) := by decide +kernel
theorem dX2_settle_7 : decode cX2_settle 7 = .ok (.invokevirtual 46, 3) := by decide +kernel
theorem dX2_settle_10 : decode cX2_settle 10 = .ok (.ifCond .ne 5, 3) := by decide +kernel
theorem dX2_settle_13 : decode cX2_settle 13 = .ok (.iconst 0, 1) := by decide +kernel
theorem dX2_settle_14 : decode cX2_settle 14 = .ok (.ireturn, 1) := by decide +kernel
theorem dX2_settle_15 : decode cX2_settle 15 = .ok (.iload_n 3, 1) := by decide +kernel
theorem dX2_settle_16 : decode cX2_settle 16 = .ok (.iload 4, 2) := by decide +kernel
theorem dX2_settle_18 : decode cX2_settle 18 = .ok (.imul, 1) := by decide +kernel
theorem dX2_settle_19 : decode cX2_settle 19 = .ok (.iload 5, 2) := by decide +kernel
theorem dX2_settle_21 : decode cX2_settle 21 = .ok (.invokestatic 49, 3) := by decide +kernel
theorem dX2_settle_24 : decode cX2_settle 24 = .ok (.istore 6, 2) := by decide +kernel
theorem dX2_settle_26 : decode cX2_settle 26 = .ok (.iload 6, 2) := by decide +kernel
theorem dX2_settle_28 : decode cX2_settle 28 = .ok (.aload_n 1, 1) := by decide +kernel
theorem dX2_settle_29 : decode cX2_settle 29 = .ok (.getfield 53, 3) := by decide +kernel
theorem dX2_settle_32 : decode cX2_settle 32 = .ok (.iload_n 2, 1) := by decide +kernel
theorem dX2_settle_33 : decode cX2_settle 33 = .ok (.iaload, 1) := by decide +kernel
theorem dX2_settle_34 : decode cX2_settle 34 = .ok (.invokestatic 49, 3) := by decide +kernel
theorem dX2_settle_37 : decode cX2_settle 37 = .ok (.bipush 15, 2) := by decide +kernel
theorem dX2_settle_39 : decode cX2_settle 39 = .ok (.invokestatic 56, 3) := by decide +kernel
theorem dX2_settle_42 : decode cX2_settle 42 = .ok (.istore 7, 2) := by decide +kernel
theorem dX2_settle_44 : decode cX2_settle 44 = .ok (.iconst 0, 1) := by decide +kernel
theorem dX2_settle_45 : decode cX2_settle 45 = .ok (.aload_n 0, 1) := by decide +kernel
theorem dX2_settle_46 : decode cX2_settle 46 = .ok (.getfield 15, 3) := by decide +kernel
theorem dX2_settle_49 : decode cX2_settle 49 = .ok (.iload 7, 2) := by decide +kernel
theorem dX2_settle_51 : decode cX2_settle 51 = .ok (.baload, 1) := by decide +kernel
theorem dX2_settle_52 : decode cX2_settle 52 = .ok (.invokestatic 61, 3) := by decide +kernel
theorem dX2_settle_55 : decode cX2_settle 55 = .ok (.istore 8, 2) := by decide +kernel
theorem dX2_settle_57 : decode cX2_settle 57 = .ok (.aload_n 1, 1) := by decide +kernel
theorem dX2_settle_58 : decode cX2_settle 58 = .ok (.iload_n 2, 1) := by decide +kernel
theorem dX2_settle_59 : decode cX2_settle 59 = .ok (.iconst 1, 1) := by decide +kernel
theorem dX2_settle_60 : decode cX2_settle 60 = .ok (.invokevirtual 64, 3) := by decide +kernel
theorem dX2_settle_63 : decode cX2_settle 63 = .ok (.ifCond .eq 15, 3) := by decide +kernel
theorem dX2_settle_66 : decode cX2_settle 66 = .ok (.iload 8, 2) := by decide +kernel
theorem dX2_settle_68 : decode cX2_settle 68 = .ok (.iload 8, 2) := by decide +kernel
theorem dX2_settle_70 : decode cX2_settle 70 = .ok (.iconst 4, 1) := by decide +kernel
theorem dX2_settle_71 : decode cX2_settle 71 = .ok (.idiv, 1) := by decide +kernel
theorem dX2_settle_72 : decode cX2_settle 72 = .ok (.isub, 1) := by decide +kernel
theorem dX2_settle_73 : decode cX2_settle 73 = .ok (.istore 8, 2) := by decide +kernel
theorem dX2_settle_75 : decode cX2_settle 75 = .ok (.goto 21, 3) := by decide +kernel
theorem dX2_settle_78 : decode cX2_settle 78 = .ok (.aload_n 1, 1) := by decide +kernel
theorem dX2_settle_79 : decode cX2_settle 79 = .ok (.iload_n 2, 1) := by decide +kernel
theorem dX2_settle_80 : decode cX2_settle 80 = .ok (.iconst 2, 1) := by decide +kernel
theorem dX2_settle_81 : decode cX2_settle 81 = .ok (.invokevirtual 64, 3) := by decide +kernel
theorem dX2_settle_84 : decode cX2_settle 84 = .ok (.ifCond .eq 12, 3) := by decide +kernel
theorem dX2_settle_87 : decode cX2_settle 87 = .ok (.iload 8, 2) := by decide +kernel
theorem dX2_settle_89 : decode cX2_settle 89 = .ok (.iload 8, 2) := by decide +kernel
theorem dX2_settle_91 : decode cX2_settle 91 = .ok (.iconst 4, 1) := by decide +kernel
theorem dX2_settle_92 : decode cX2_settle 92 = .ok (.idiv, 1) := by decide +kernel
theorem dX2_settle_93 : decode cX2_settle 93 = .ok (.iadd, 1) := by decide +kernel
theorem dX2_settle_94 : decode cX2_settle 94 = .ok (.istore 8, 2) := by decide +kernel
theorem dX2_settle_96 : decode cX2_settle 96 = .ok (.aload_n 1, 1) := by decide +kernel
theorem dX2_settle_97 : decode cX2_settle 97 = .ok (.iload_n 2, 1) := by decide +kernel
theorem dX2_settle_98 : decode cX2_settle 98 = .ok (.iload 8, 2) := by decide +kernel
theorem dX2_settle_100 : decode cX2_settle 100 = .ok (.invokevirtual 68, 3) := by decide +kernel
theorem dX2_settle_103 : decode cX2_settle 103 = .ok (.ireturn, 1) := by decide +kernel
theorem dX3_init_0 : decode cX3_init 0 = .ok (.aload_n 0, 1) := by decide +kernel
theorem dX3_init_1 : decode cX3_init 1 = .ok (.invokespecial 3, 3) := by decide +kernel
theorem dX3_init_4 : decode cX3_init 4 = .ok (.aload_n 0, 1) := by decide +kernel
theorem dX3_init_5 : decode cX3_init 5 = .ok (.bipush 14, 2) := by decide +kernel
theorem dX3_init_7 : decode cX3_init 7 = .ok (.newarray .int, 2) := by decide +kernel
theorem dX3_init_9 : decode cX3_init 9 = .ok (.putfield 9, 3) := by decide +kernel
theorem dX3_init_12 : decode cX3_init 12 = .ok (.aload_n 0, 1) := by decide +kernel
theorem dX3_init_13 : decode cX3_init 13 = .ok (.bipush 14, 2) := by decide +kernel
theorem dX3_init_15 : decode cX3_init 15 = .ok (.newarray .int, 2) := by decide +kernel
theorem dX3_init_17 : decode cX3_init 17 = .ok (.putfield 15, 3) := by decide +kernel
theorem dX3_init_20 : decode cX3_init 20 = .ok (.aload_n 0, 1) := by decide +kernel
theorem dX3_init_21 : decode cX3_init 21 = .ok (.bipush 14, 2) := by decide +kernel
theorem dX3_init_23 : decode cX3_init 23 = .ok (.newarray .int, 2) := by decide +kernel
theorem dX3_init_25 : decode cX3_init 25 = .ok (.putfield 18, 3) := by decide +kernel
theorem dX3_init_28 : decode cX3_init 28 = .ok (.aload_n 0, 1) := by decide +kernel
theorem dX3_init_29 : decode cX3_init 29 = .ok (.bipush 14, 2) := by decide +kernel
theorem dX3_init_31 : decode cX3_init 31 = .ok (.newarray .int, 2) := by decide +kernel
theorem dX3_init_33 : decode cX3_init 33 = .ok (.putfield 21, 3) := by decide +kernel
theorem dX3_init_36 : decode cX3_init 36 = .ok (.aload_n 0, 1) := by decide +kernel
theorem dX3_init_37 : decode cX3_init 37 = .ok (.bipush 14, 2) := by decide +kernel
theorem dX3_init_39 : decode cX3_init 39 = .ok (.newarray .int, 2) := by decide +kernel
theorem dX3_init_41 : decode cX3_init 41 = .ok (.putfield 24, 3) := by decide +kernel
theorem dX3_init_44 : decode cX3_init 44 = .ok (.aload_n 0, 1) := by decide +kernel
theorem dX3_init_45 : decode cX3_init 45 = .ok (.iconst 0, 1) := by decide +kernel
theorem dX3_init_46 : decode cX3_init 46 = .ok (.putfield 27, 3) := by decide +kernel
theorem dX3_init_49 : decode cX3_init 49 = .ok (.return_, 1) := by decide +kernel
theorem dX3_add_0 : decode cX3_add 0 = .ok (.aload_n 0, 1) := by decide +kernel
theorem dX3_add_1 : decode cX3_add 1 = .ok (.getfield 27, 3) := by decide +kernel
theorem dX3_add_4 : decode cX3_add 4 = .ok (.istore_n 3, 1) := by decide +kernel
theorem dX3_add_5 : decode cX3_add 5 = .ok (.aload_n 0, 1) := by decide +kernel
theorem dX3_add_6 : decode cX3_add 6 = .ok (.getfield 9, 3) := by decide +kernel
theorem dX3_add_9 : decode cX3_add 9 = .ok (.iload_n 3, 1) := by decide +kernel
theorem dX3_add_10 : decode cX3_add 10 = .ok (.iload_n 1, 1) := by decide +kernel
theorem dX3_add_11 : decode cX3_add 11 = .ok (.iastore, 1) := by decide +kernel
theorem dX3_add_12 : decode cX3_add 12 = .ok (.aload_n 0, 1) := by decide +kernel
theorem dX3_add_13 : decode cX3_add 13 = .ok (.getfield 15, 3) := by decide +kernel
theorem dX3_add_16 : decode cX3_add 16 = .ok (.iload_n 3, 1) := by decide +kernel
theorem dX3_add_17 : decode cX3_add 17 = .ok (.iload_n 2, 1) := by decide +kernel
theorem dX3_add_18 : decode cX3_add 18 = .ok (.iastore, 1) := by decide +kernel
theorem dX3_add_19 : decode cX3_add 19 = .ok (.iload_n 3, 1) := by decide +kernel
theorem dX3_add_20 : decode cX3_add 20 = .ok (.ifCond .le 49, 3) := by decide +kernel
theorem dX3_add_23 : decode cX3_add 23 = .ok (.aload_n 0, 1) := by decide +kernel
theorem dX3_add_24 : decode cX3_add 24 = .ok (.getfield 18, 3) := by decide +kernel
theorem dX3_add_27 : decode cX3_add 27 = .ok (.iload_n 3, 1) := by decide +kernel
theorem dX3_add_28 : decode cX3_add 28 = .ok (.aload_n 0, 1) := by decide +kernel
theorem dX3_add_29 : decode cX3_add 29 = .ok (.getfield 18, 3) := by decide +kernel
theorem dX3_add_32 : decode cX3_add 32 = .ok (.iload_n 3, 1) := by decide +kernel
theorem dX3_add_33 : decode cX3_add 33 = .ok (.iconst 1, 1) := by decide +kernel
theorem dX3_add_34 : decode cX3_add 34 = .ok (.isub, 1) := by decide +kernel
theorem dX3_add_35 : decode cX3_add 35 = .ok (.iaload, 1) := by decide +kernel
theorem dX3_add_36 : decode cX3_add 36 = .ok (.aload_n 0, 1) := by decide +kernel
theorem dX3_add_37 : decode cX3_add 37 = .ok (.getfield 9, 3) := by decide +kernel
theorem dX3_add_40 : decode cX3_add 40 = .ok (.iload_n 3, 1) := by decide +kernel
theorem dX3_add_41 : decode cX3_add 41 = .ok (.iconst 1, 1) := by decide +kernel
theorem dX3_add_42 : decode cX3_add 42 = .ok (.isub, 1) := by decide +kernel
theorem dX3_add_43 : decode cX3_add 43 = .ok (.iaload, 1) := by decide +kernel
theorem dX3_add_44 : decode cX3_add 44 = .ok (.iadd, 1) := by decide +kernel
theorem dX3_add_45 : decode cX3_add 45 = .ok (.iastore, 1) := by decide +kernel
theorem dX3_add_46 : decode cX3_add 46 = .ok (.aload_n 0, 1) := by decide +kernel
theorem dX3_add_47 : decode cX3_add 47 = .ok (.getfield 21, 3) := by decide +kernel
theorem dX3_add_50 : decode cX3_add 50 = .ok (.iload_n 3, 1) := by decide +kernel
theorem dX3_add_51 : decode cX3_add 51 = .ok (.aload_n 0, 1) := by decide +kernel
theorem dX3_add_52 : decode cX3_add 52 = .ok (.getfield 21, 3) := by decide +kernel
theorem dX3_add_55 : decode cX3_add 55 = .ok (.iload_n 3, 1) := by decide +kernel
theorem dX3_add_56 : decode cX3_add 56 = .ok (.iconst 1, 1) := by decide +kernel
theorem dX3_add_57 : decode cX3_add 57 = .ok (.isub, 1) := by decide +kernel
theorem dX3_add_58 : decode cX3_add 58 = .ok (.iaload, 1) := by decide +kernel
theorem dX3_add_59 : decode cX3_add 59 = .ok (.aload_n 0, 1) := by decide +kernel
theorem dX3_add_60 : decode cX3_add 60 = .ok (.getfield 15, 3) := by decide +kernel
theorem dX3_add_63 : decode cX3_add 63 = .ok (.iload_n 3, 1) := by decide +kernel
theorem dX3_add_64 : decode cX3_add 64 = .ok (.iconst 1, 1) := by decide +kernel
theorem dX3_add_65 : decode cX3_add 65 = .ok (.isub, 1) := by decide +kernel
theorem dX3_add_66 : decode cX3_add 66 = .ok (.iaload, 1) := by decide +kernel
theorem dX3_add_67 : decode cX3_add 67 = .ok (.iadd, 1) := by decide +kernel
theorem dX3_add_68 : decode cX3_add 68 = .ok (.iastore, 1) := by decide +kernel
theorem dX3_add_69 : decode cX3_add 69 = .ok (.iload_n 3, 1) := by decide +kernel
theorem dX3_add_70 : decode cX3_add 70 = .ok (.istore 4, 2) := by decide +kernel
theorem dX3_add_72 : decode cX3_add 72 = .ok (.iload 4, 2) := by decide +kernel
theorem dX3_add_74 : decode cX3_add 74 = .ok (.ifCond .le 42, 3) := by decide +kernel
theorem dX3_add_77 : decode cX3_add 77 = .ok (.aload_n 0, 1) := by decide +kernel
theorem dX3_add_78 : decode cX3_add 78 = .ok (.iload_n 3, 1) := by decide +kernel
theorem dX3_add_79 : decode cX3_add 79 = .ok (.aload_n 0, 1) := by decide +kernel
theorem dX3_add_80 : decode cX3_add 80 = .ok (.getfield 24, 3) := by decide +kernel
theorem dX3_add_83 : decode cX3_add 83 = .ok (.iload 4, 2) := by decide +kernel
theorem dX3_add_85 : decode cX3_add 85 = .ok (.iconst 1, 1) := by decide +kernel
theorem dX3_add_86 : decode cX3_add 86 = .ok (.isub, 1) := by decide +kernel
theorem dX3_add_87 : decode cX3_add 87 = .ok (.iaload, 1) := by decide +kernel
theorem dX3_add_88 : decode cX3_add 88 = .ok (.invokevirtual 31, 3) := by decide +kernel
theorem dX3_add_91 : decode cX3_add 91 = .ok (.ifCond .eq 25, 3) := by decide +kernel
theorem dX3_add_94 : decode cX3_add 94 = .ok (.aload_n 0, 1) := by decide +kernel
theorem dX3_add_95 : decode cX3_add 95 = .ok (.getfield 24, 3) := by decide +kernel
theorem dX3_add_98 : decode cX3_add 98 = .ok (.iload 4, 2) := by decide +kernel
theorem dX3_add_100 : decode cX3_add 100 = .ok (.aload_n 0, 1) := by decide +kernel
theorem dX3_add_101 : decode cX3_add 101 = .ok (.getfield 24, 3) := by decide +kernel
theorem dX3_add_104 : decode cX3_add 104 = .ok (.iload 4, 2) := by decide +kernel
theorem dX3_add_106 : decode cX3_add 106 = .ok (.iconst 1, 1) := by decide +kernel
theorem dX3_add_107 : decode cX3_add 107 = .ok (.isub, 1) := by decide +kernel
theorem dX3_add_108 : decode cX3_add 108 = .ok (.iaload, 1) := by decide +kernel
theorem dX3_add_109 : decode cX3_add 109 = .ok (.iastore, 1) := by decide +kernel
theorem dX3_add_110 : decode cX3_add 110 = .ok (.iinc 4 (-1), 3) := by decide +kernel
theorem dX3_add_113 : decode cX3_add 113 = .ok (.goto (-41), 3) := by decide +kernel
theorem dX3_add_116 : decode cX3_add 116 = .ok (.aload_n 0, 1) := by decide +kernel
theorem dX3_add_117 : decode cX3_add 117 = .ok (.getfield 24, 3) := by decide +kernel
theorem dX3_add_120 : decode cX3_add 120 = .ok (.iload 4, 2) := by decide +kernel
theorem dX3_add_122 : decode cX3_add 122 = .ok (.iload_n 3, 1) := by decide +kernel
theorem dX3_add_123 : decode cX3_add 123 = .ok (.iastore, 1) := by decide +kernel
theorem dX3_add_124 : decode cX3_add 124 = .ok (.aload_n 0, 1) := by decide +kernel
theorem dX3_add_125 : decode cX3_add 125 = .ok (.dup, 1) := by decide +kernel
theorem dX3_add_126 : decode cX3_add 126 = .ok (.getfield 27, 3) := by decide +kernel
theorem dX3_add_129 : decode cX3_add 129 = .ok (.iconst 1, 1) := by decide +kernel
theorem dX3_add_130 : decode cX3_add 130 = .ok (.iadd, 1) := by decide +kernel
theorem dX3_add_131 : decode cX3_add 131 = .ok (.putfield 27, 3) := by decide +kernel
theorem dX3_add_134 : decode cX3_add 134 = .ok (.iload_n 3, 1) := by decide +kernel
theorem dX3_add_135 : decode cX3_add 135 = .ok (.ireturn, 1) := by decide +kernel
theorem dX3_isWorse_0 : decode cX3_isWorse 0 = .ok (.aload_n 0, 1) := by decide +kernel
theorem dX3_isWorse_1 : decode cX3_isWorse 1 = .ok (.getfield 15, 3) := by decide +kernel
theorem dX3_isWorse_4 : decode cX3_isWorse 4 = .ok (.iload_n 1, 1) := by decide +kernel
theorem dX3_isWorse_5 : decode cX3_isWorse 5 = .ok (.iaload, 1) := by decide +kernel
theorem dX3_isWorse_6 : decode cX3_isWorse 6 = .ok (.aload_n 0, 1) := by decide +kernel
theorem dX3_isWorse_7 : decode cX3_isWorse 7 = .ok (.getfield 9, 3) := by decide +kernel
theorem dX3_isWorse_10 : decode cX3_isWorse 10 = .ok (.iload_n 2, 1) := by decide +kernel
theorem dX3_isWorse_11 : decode cX3_isWorse 11 = .ok (.iaload, 1) := by decide +kernel
theorem dX3_isWorse_12 : decode cX3_isWorse 12 = .ok (.imul, 1) := by decide +kernel
theorem dX3_isWorse_13 : decode cX3_isWorse 13 = .ok (.aload_n 0, 1) := by decide +kernel
theorem dX3_isWorse_14 : decode cX3_isWorse 14 = .ok (.getfield 15, 3) := by decide +kernel
theorem dX3_isWorse_17 : decode cX3_isWorse 17 = .ok (.iload_n 2, 1) := by decide +kernel
theorem dX3_isWorse_18 : decode cX3_isWorse 18 = .ok (.iaload, 1) := by decide +kernel
theorem dX3_isWorse_19 : decode cX3_isWorse 19 = .ok (.aload_n 0, 1) := by decide +kernel
theorem dX3_isWorse_20 : decode cX3_isWorse 20 = .ok (.getfield 9, 3) := by decide +kernel
theorem dX3_isWorse_23 : decode cX3_isWorse 23 = .ok (.iload_n 1, 1) := by decide +kernel
theorem dX3_isWorse_24 : decode cX3_isWorse 24 = .ok (.iaload, 1) := by decide +kernel
theorem dX3_isWorse_25 : decode cX3_isWorse 25 = .ok (.imul, 1) := by decide +kernel
theorem dX3_isWorse_26 : decode cX3_isWorse 26 = .ok (.if_icmp .le 7, 3) := by decide +kernel
theorem dX3_isWorse_29 : decode cX3_isWorse 29 = .ok (.iconst 1, 1) := by decide +kernel
theorem dX3_isWorse_30 : decode cX3_isWorse 30 = .ok (.goto 4, 3) := by decide +kernel
theorem dX3_isWorse_33 : decode cX3_isWorse 33 = .ok (.iconst 0, 1) := by decide +kernel
theorem dX3_isWorse_34 : decode cX3_isWorse 34 = .ok (.ireturn, 1) := by decide +kernel
theorem dX3_bestSet_0 : decode cX3_bestSet 0 = .ok (.iconst 0, 1) := by decide +kernel
theorem dX3_bestSet_1 : decode cX3_bestSet 1 = .ok (.istore_n 2, 1) := by decide +kernel
theorem dX3_bestSet_2 : decode cX3_bestSet 2 = .ok (.iconst 0, 1) := by decide +kernel
theorem dX3_bestSet_3 : decode cX3_bestSet 3 = .ok (.istore_n 3, 1) := by decide +kernel
theorem dX3_bestSet_4 : decode cX3_bestSet 4 = .ok (.iconst 0, 1) := by decide +kernel
theorem dX3_bestSet_5 : decode cX3_bestSet 5 = .ok (.istore 4, 2) := by decide +kernel
theorem dX3_bestSet_7 : decode cX3_bestSet 7 = .ok (.iconst 0, 1) := by decide +kernel
theorem dX3_bestSet_8 : decode cX3_bestSet 8 = .ok (.istore 5, 2) := by decide +kernel
theorem dX3_bestSet_10 : decode cX3_bestSet 10 = .ok (.iconst 0, 1) := by decide +kernel
theorem dX3_bestSet_11 : decode cX3_bestSet 11 = .ok (.istore 6, 2) := by decide +kernel
theorem dX3_bestSet_13 : decode cX3_bestSet 13 = .ok (.iconst 1, 1) := by decide +kernel
theorem dX3_bestSet_14 : decode cX3_bestSet 14 = .ok (.istore 7, 2) := by decide +kernel
theorem dX3_bestSet_16 : decode cX3_bestSet 16 = .ok (.iload 7, 2) := by decide +kernel
theorem dX3_bestSet_18 : decode cX3_bestSet 18 = .ok (.iconst 1, 1) := by decide +kernel
theorem dX3_bestSet_19 : decode cX3_bestSet 19 = .ok (.aload_n 0, 1) := by decide +kernel
theorem dX3_bestSet_20 : decode cX3_bestSet 20 = .ok (.getfield 27, 3) := by decide +kernel
theorem dX3_bestSet_23 : decode cX3_bestSet 23 = .ok (.ishl, 1) := by decide +kernel
theorem dX3_bestSet_24 : decode cX3_bestSet 24 = .ok (.if_icmp .ge 98, 3) := by decide +kernel
theorem dX3_bestSet_27 : decode cX3_bestSet 27 = .ok (.iload 7, 2) := by decide +kernel
theorem dX3_bestSet_29 : decode cX3_bestSet 29 = .ok (.iload 7, 2) := by decide +kernel
theorem dX3_bestSet_31 : decode cX3_bestSet 31 = .ok (.ineg, 1) := by decide +kernel
theorem dX3_bestSet_32 : decode cX3_bestSet 32 = .ok (.iand, 1) := by decide +kernel
theorem dX3_bestSet_33 : decode cX3_bestSet 33 = .ok (.iconst 1, 1) := by decide +kernel
theorem dX3_bestSet_34 : decode cX3_bestSet 34 = .ok (.isub, 1) := by decide +kernel
theorem dX3_bestSet_35 : decode cX3_bestSet 35 = .ok (.invokestatic 35, 3) := by decide +kernel
theorem dX3_bestSet_38 : decode cX3_bestSet 38 = .ok (.istore 8, 2) := by decide +kernel
theorem dX3_bestSet_40 : decode cX3_bestSet 40 = .ok (.iload 5, 2) := by decide +kernel
theorem dX3_bestSet_42 : decode cX3_bestSet 42 = .ok (.aload_n 0, 1) := by decide +kernel
theorem dX3_bestSet_43 : decode cX3_bestSet 43 = .ok (.getfield 9, 3) := by decide +kernel
theorem dX3_bestSet_46 : decode cX3_bestSet 46 = .ok (.iload 8, 2) := by decide +kernel
theorem dX3_bestSet_48 : decode cX3_bestSet 48 = .ok (.iaload, 1) := by decide +kernel
theorem dX3_bestSet_49 : decode cX3_bestSet 49 = .ok (.aload_n 0, 1) := by decide +kernel
theorem dX3_bestSet_50 : decode cX3_bestSet 50 = .ok (.getfield 18, 3) := by decide +kernel
theorem dX3_bestSet_53 : decode cX3_bestSet 53 = .ok (.iload 8, 2) := by decide +kernel
theorem dX3_bestSet_55 : decode cX3_bestSet 55 = .ok (.iaload, 1) := by decide +kernel
theorem dX3_bestSet_56 : decode cX3_bestSet 56 = .ok (.isub, 1) := by decide +kernel
theorem dX3_bestSet_57 : decode cX3_bestSet 57 = .ok (.iadd, 1) := by decide +kernel
theorem dX3_bestSet_58 : decode cX3_bestSet 58 = .ok (.istore 5, 2) := by decide +kernel
theorem dX3_bestSet_60 : decode cX3_bestSet 60 = .ok (.iload 6, 2) := by decide +kernel
theorem dX3_bestSet_62 : decode cX3_bestSet 62 = .ok (.aload_n 0, 1) := by decide +kernel
theorem dX3_bestSet_63 : decode cX3_bestSet 63 = .ok (.getfield 15, 3) := by decide +kernel
theorem dX3_bestSet_66 : decode cX3_bestSet 66 = .ok (.iload 8, 2) := by decide +kernel
theorem dX3_bestSet_68 : decode cX3_bestSet 68 = .ok (.iaload, 1) := by decide +kernel
theorem dX3_bestSet_69 : decode cX3_bestSet 69 = .ok (.aload_n 0, 1) := by decide +kernel
theorem dX3_bestSet_70 : decode cX3_bestSet 70 = .ok (.getfield 21, 3) := by decide +kernel
theorem dX3_bestSet_73 : decode cX3_bestSet 73 = .ok (.iload 8, 2) := by decide +kernel
theorem dX3_bestSet_75 : decode cX3_bestSet 75 = .ok (.iaload, 1) := by decide +kernel
theorem dX3_bestSet_76 : decode cX3_bestSet 76 = .ok (.isub, 1) := by decide +kernel
theorem dX3_bestSet_77 : decode cX3_bestSet 77 = .ok (.iadd, 1) := by decide +kernel
theorem dX3_bestSet_78 : decode cX3_bestSet 78 = .ok (.istore 6, 2) := by decide +kernel
theorem dX3_bestSet_80 : decode cX3_bestSet 80 = .ok (.iload 5, 2) := by decide +kernel
theorem dX3_bestSet_82 : decode cX3_bestSet 82 = .ok (.iload_n 1, 1) := by decide +kernel
theorem dX3_bestSet_83 : decode cX3_bestSet 83 = .ok (.if_icmp .gt 33, 3) := by decide +kernel
theorem dX3_bestSet_86 : decode cX3_bestSet 86 = .ok (.iload 6, 2) := by decide +kernel
theorem dX3_bestSet_88 : decode cX3_bestSet 88 = .ok (.iload 4, 2) := by decide +kernel
theorem dX3_bestSet_90 : decode cX3_bestSet 90 = .ok (.if_icmp .gt 16, 3) := by decide +kernel
theorem dX3_bestSet_93 : decode cX3_bestSet 93 = .ok (.iload 6, 2) := by decide +kernel
theorem dX3_bestSet_95 : decode cX3_bestSet 95 = .ok (.iload 4, 2) := by decide +kernel
theorem dX3_bestSet_97 : decode cX3_bestSet 97 = .ok (.if_icmp .ne 19, 3) := by decide +kernel
theorem dX3_bestSet_100 : decode cX3_bestSet 100 = .ok (.iload 5, 2) := by decide +kernel
theorem dX3_bestSet_102 : decode cX3_bestSet 102 = .ok (.iload_n 3, 1) := by decide +kernel
theorem dX3_bestSet_103 : decode cX3_bestSet 103 = .ok (.if_icmp .ge 13, 3) := by decide +kernel
theorem dX3_bestSet_106 : decode cX3_bestSet 106 = .ok (.iload 7, 2) := by decide +kernel
theorem dX3_bestSet_108 : decode cX3_bestSet 108 = .ok (.istore_n 2, 1) := by decide +kernel
theorem dX3_bestSet_109 : decode cX3_bestSet 109 = .ok (.iload 5, 2) := by decide +kernel
theorem dX3_bestSet_111 : decode cX3_bestSet 111 = .ok (.istore_n 3, 1) := by decide +kernel
theorem dX3_bestSet_112 : decode cX3_bestSet 112 = .ok (.iload 6, 2) := by decide +kernel
theorem dX3_bestSet_114 : decode cX3_bestSet 114 = .ok (.istore 4, 2) := by decide +kernel
theorem dX3_bestSet_116 : decode cX3_bestSet 116 = .ok (.iinc 7 1, 3) := by decide +kernel
theorem dX3_bestSet_119 : decode cX3_bestSet 119 = .ok (.goto (-103), 3) := by decide +kernel
theorem dX3_bestSet_122 : decode cX3_bestSet 122 = .ok (.iload_n 2, 1) := by decide +kernel
theorem dX3_bestSet_123 : decode cX3_bestSet 123 = .ok (.ireturn, 1) := by decide +kernel
theorem dX3_worstFirst_0 : decode cX3_worstFirst 0 = .ok (.iconst 0, 1) := by decide +kernel
theorem dX3_worstFirst_1 : decode cX3_worstFirst 1 = .ok (.istore_n 2, 1) := by decide +kernel
theorem dX3_worstFirst_2 : decode cX3_worstFirst 2 = .ok (.iload_n 1, 1) := by decide +kernel
theorem dX3_worstFirst_3 : decode cX3_worstFirst 3 = .ok (.istore_n 3, 1) := by decide +kernel
theorem dX3_worstFirst_4 : decode cX3_worstFirst 4 = .ok (.iconst 0, 1) := by decide +kernel
theorem dX3_worstFirst_5 : decode cX3_worstFirst 5 = .ok (.istore 4, 2) := by decide +kernel
theorem dX3_worstFirst_7 : decode cX3_worstFirst 7 = .ok (.iload 4, 2) := by decide +kernel
theorem dX3_worstFirst_9 : decode cX3_worstFirst 9 = .ok (.aload_n 0, 1) := by decide +kernel
theorem dX3_worstFirst_10 : decode cX3_worstFirst 10 = .ok (.getfield 27, 3) := by decide +kernel
theorem dX3_worstFirst_13 : decode cX3_worstFirst 13 = .ok (.if_icmp .ge 46, 3) := by decide +kernel
theorem dX3_worstFirst_16 : decode cX3_worstFirst 16 = .ok (.aload_n 0, 1) := by decide +kernel
theorem dX3_worstFirst_17 : decode cX3_worstFirst 17 = .ok (.getfield 24, 3) := by decide +kernel
theorem dX3_worstFirst_20 : decode cX3_worstFirst 20 = .ok (.iload 4, 2) := by decide +kernel
theorem dX3_worstFirst_22 : decode cX3_worstFirst 22 = .ok (.iaload, 1) := by decide +kernel
theorem dX3_worstFirst_23 : decode cX3_worstFirst 23 = .ok (.istore 5, 2) := by decide +kernel
theorem dX3_worstFirst_25 : decode cX3_worstFirst 25 = .ok (.aload_n 0, 1) := by decide +kernel
theorem dX3_worstFirst_26 : decode cX3_worstFirst 26 = .ok (.getfield 9, 3) := by decide +kernel
theorem dX3_worstFirst_29 : decode cX3_worstFirst 29 = .ok (.iload 5, 2) := by decide +kernel
theorem dX3_worstFirst_31 : decode cX3_worstFirst 31 = .ok (.iaload, 1) := by decide +kernel
theorem dX3_worstFirst_32 : decode cX3_worstFirst 32 = .ok (.iload_n 3, 1) := by decide +kernel
theorem dX3_worstFirst_33 : decode cX3_worstFirst 33 = .ok (.if_icmp .gt 20, 3) := by decide +kernel
theorem dX3_worstFirst_36 : decode cX3_worstFirst 36 = .ok (.iload_n 3, 1) := by decide +kernel
theorem dX3_worstFirst_37 : decode cX3_worstFirst 37 = .ok (.aload_n 0, 1) := by decide +kernel
theorem dX3_worstFirst_38 : decode cX3_worstFirst 38 = .ok (.getfield 9, 3) := by decide +kernel
theorem dX3_worstFirst_41 : decode cX3_worstFirst 41 = .ok (.iload 5, 2) := by decide +kernel
theorem dX3_worstFirst_43 : decode cX3_worstFirst 43 = .ok (.iaload, 1) := by decide +kernel
theorem dX3_worstFirst_44 : decode cX3_worstFirst 44 = .ok (.isub, 1) := by decide +kernel
theorem dX3_worstFirst_45 : decode cX3_worstFirst 45 = .ok (.istore_n 3, 1) := by decide +kernel
theorem dX3_worstFirst_46 : decode cX3_worstFirst 46 = .ok (.iload_n 2, 1) := by decide +kernel
theorem dX3_worstFirst_47 : decode cX3_worstFirst 47 = .ok (.iconst 1, 1) := by decide +kernel
theorem dX3_worstFirst_48 : decode cX3_worstFirst 48 = .ok (.iload 5, 2) := by decide +kernel
theorem dX3_worstFirst_50 : decode cX3_worstFirst 50 = .ok (.ishl, 1) := by decide +kernel
theorem dX3_worstFirst_51 : decode cX3_worstFirst 51 = .ok (.ior, 1) := by decide +kernel
theorem dX3_worstFirst_52 : decode cX3_worstFirst 52 = .ok (.istore_n 2, 1) := by decide +kernel
theorem dX3_worstFirst_53 : decode cX3_worstFirst 53 = .ok (.iinc 4 1, 3) := by decide +kernel
theorem dX3_worstFirst_56 : decode cX3_worstFirst 56 = .ok (.goto (-49), 3) := by decide +kernel
theorem dX3_worstFirst_59 : decode cX3_worstFirst 59 = .ok (.iload_n 2, 1) := by decide +kernel
theorem dX3_worstFirst_60 : decode cX3_worstFirst 60 = .ok (.ireturn, 1) := by decide +kernel
theorem dX3_gainOf_0 : decode cX3_gainOf 0 = .ok (.iconst 0, 1) := by decide +kernel
theorem dX3_gainOf_1 : decode cX3_gainOf 1 = .ok (.istore_n 2, 1) := by decide +kernel
theorem dX3_gainOf_2 : decode cX3_gainOf 2 = .ok (.iconst 0, 1) := by decide +kernel
theorem dX3_gainOf_3 : decode cX3_gainOf 3 = .ok (.istore_n 3, 1) := by decide +kernel
theorem dX3_gainOf_4 : decode cX3_gainOf 4 = .ok (.iload_n 3, 1) := by decide +kernel
theorem dX3_gainOf_5 : decode cX3_gainOf 5 = .ok (.aload_n 0, 1) := by decide +kernel
theorem dX3_gainOf_6 : decode cX3_gainOf 6 = .ok (.getfield 27, 3) := by decide +kernel
theorem dX3_gainOf_9 : decode cX3_gainOf 9 = .ok (.if_icmp .ge 27, 3) := by decide +kernel
theorem dX3_gainOf_12 : decode cX3_gainOf 12 = .ok (.iload_n 1, 1) := by decide +kernel
theorem dX3_gainOf_13 : decode cX3_gainOf 13 = .ok (.iload_n 3, 1) := by decide +kernel
theorem dX3_gainOf_14 : decode cX3_gainOf 14 = .ok (.ishr, 1) := by decide +kernel
theorem dX3_gainOf_15 : decode cX3_gainOf 15 = .ok (.iconst 1, 1) := by decide +kernel
theorem dX3_gainOf_16 : decode cX3_gainOf 16 = .ok (.iand, 1) := by decide +kernel
theorem dX3_gainOf_17 : decode cX3_gainOf 17 = .ok (.iconst 1, 1) := by decide +kernel
theorem dX3_gainOf_18 : decode cX3_gainOf 18 = .ok (.if_icmp .ne 12, 3) := by decide +kernel
theorem dX3_gainOf_21 : decode cX3_gainOf 21 = .ok (.iload_n 2, 1) := by decide +kernel
theorem dX3_gainOf_22 : decode cX3_gainOf 22 = .ok (.aload_n 0, 1) := by decide +kernel
theorem dX3_gainOf_23 : decode cX3_gainOf 23 = .ok (.getfield 15, 3) := by decide +kernel
theorem dX3_gainOf_26 : decode cX3_gainOf 26 = .ok (.iload_n 3, 1) := by decide +kernel
theorem dX3_gainOf_27 : decode cX3_gainOf 27 = .ok (.iaload, 1) := by decide +kernel
theorem dX3_gainOf_28 : decode cX3_gainOf 28 = .ok (.iadd, 1) := by decide +kernel
theorem dX3_gainOf_29 : decode cX3_gainOf 29 = .ok (.istore_n 2, 1) := by decide +kernel
theorem dX3_gainOf_30 : decode cX3_gainOf 30 = .ok (.iinc 3 1, 3) := by decide +kernel
theorem dX3_gainOf_33 : decode cX3_gainOf 33 = .ok (.goto (-29), 3) := by decide +kernel
theorem dX3_gainOf_36 : decode cX3_gainOf 36 = .ok (.iload_n 2, 1) := by decide +kernel
theorem dX3_gainOf_37 : decode cX3_gainOf 37 = .ok (.ireturn, 1) := by decide +kernel
theorem dX4_init_0 : decode cX4_init 0 = .ok (.aload_n 0, 1) := by decide +kernel
theorem dX4_init_1 : decode cX4_init 1 = .ok (.invokespecial 1, 3) := by decide +kernel
theorem dX4_init_4 : decode cX4_init 4 = .ok (.aload_n 0, 1) := by decide +kernel
theorem dX4_init_5 : decode cX4_init 5 = .ok (.new 7, 3) := by decide +kernel
theorem dX4_init_8 : decode cX4_init 8 = .ok (.dup, 1) := by decide +kernel
theorem dX4_init_9 : decode cX4_init 9 = .ok (.invokespecial 9, 3) := by decide +kernel
theorem dX4_init_12 : decode cX4_init 12 = .ok (.putfield 10, 3) := by decide +kernel
theorem dX4_init_15 : decode cX4_init 15 = .ok (.aload_n 0, 1) := by decide +kernel
theorem dX4_init_16 : decode cX4_init 16 = .ok (.new 16, 3) := by decide +kernel
theorem dX4_init_19 : decode cX4_init 19 = .ok (.dup, 1) := by decide +kernel
theorem dX4_init_20 : decode cX4_init 20 = .ok (.invokespecial 18, 3) := by decide +kernel
theorem dX4_init_23 : decode cX4_init 23 = .ok (.putfield 19, 3) := by decide +kernel
theorem dX4_init_26 : decode cX4_init 26 = .ok (.aload_n 0, 1) := by decide +kernel
theorem dX4_init_27 : decode cX4_init 27 = .ok (.new 23, 3) := by decide +kernel
theorem dX4_init_30 : decode cX4_init 30 = .ok (.dup, 1) := by decide +kernel
theorem dX4_init_31 : decode cX4_init 31 = .ok (.invokespecial 25, 3) := by decide +kernel
theorem dX4_init_34 : decode cX4_init 34 = .ok (.putfield 26, 3) := by decide +kernel
theorem dX4_init_37 : decode cX4_init 37 = .ok (.aload_n 0, 1) := by decide +kernel
theorem dX4_init_38 : decode cX4_init 38 = .ok (.new 30, 3) := by decide +kernel
theorem dX4_init_41 : decode cX4_init 41 = .ok (.dup, 1) := by decide +kernel
theorem dX4_init_42 : decode cX4_init 42 = .ok (.invokespecial 32, 3) := by decide +kernel
theorem dX4_init_45 : decode cX4_init 45 = .ok (.putfield 33, 3) := by decide +kernel
theorem dX4_init_48 : decode cX4_init 48 = .ok (.aload_n 0, 1) := by decide +kernel
theorem dX4_init_49 : decode cX4_init 49 = .ok (.iconst 4, 1) := by decide +kernel
theorem dX4_init_50 : decode cX4_init 50 = .ok (.newarray .int, 2) := by decide +kernel
theorem dX4_init_52 : decode cX4_init 52 = .ok (.putfield 37, 3) := by decide +kernel
theorem dX4_init_55 : decode cX4_init 55 = .ok (.iconst 0, 1) := by decide +kernel
theorem dX4_init_56 : decode cX4_init 56 = .ok (.istore_n 1, 1) := by decide +kernel
theorem dX4_init_57 : decode cX4_init 57 = .ok (.iload_n 1, 1) := by decide +kernel
theorem dX4_init_58 : decode cX4_init 58 = .ok (.iconst 4, 1) := by decide +kernel
theorem dX4_init_59 : decode cX4_init 59 = .ok (.if_icmp .ge 18, 3) := by decide +kernel
theorem dX4_init_62 : decode cX4_init 62 = .ok (.aload_n 0, 1) := by decide +kernel
theorem dX4_init_63 : decode cX4_init 63 = .ok (.getfield 37, 3) := by decide +kernel
theorem dX4_init_66 : decode cX4_init 66 = .ok (.iload_n 1, 1) := by decide +kernel
theorem dX4_init_67 : decode cX4_init 67 = .ok (.sipush 250, 3) := by decide +kernel
theorem dX4_init_70 : decode cX4_init 70 = .ok (.iastore, 1) := by decide +kernel
theorem dX4_init_71 : decode cX4_init 71 = .ok (.iinc 1 1, 3) := by decide +kernel
theorem dX4_init_74 : decode cX4_init 74 = .ok (.goto (-17), 3) := by decide +kernel
theorem dX4_init_77 : decode cX4_init 77 = .ok (.aload_n 0, 1) := by decide +kernel
theorem dX4_init_78 : decode cX4_init 78 = .ok (.bipush 6, 2) := by decide +kernel
theorem dX4_init_80 : decode cX4_init 80 = .ok (.newarray .int, 2) := by decide +kernel
theorem dX4_init_82 : decode cX4_init 82 = .ok (.putfield 41, 3) := by decide +kernel
theorem dX4_init_85 : decode cX4_init 85 = .ok (.aload_n 0, 1) := by decide +kernel
theorem dX4_init_86 : decode cX4_init 86 = .ok (.iconst 0, 1) := by decide +kernel
theorem dX4_init_87 : decode cX4_init 87 = .ok (.putfield 44, 3) := by decide +kernel
theorem dX4_init_90 : decode cX4_init 90 = .ok (.aload_n 0, 1) := by decide +kernel
theorem dX4_init_91 : decode cX4_init 91 = .ok (.lconst 0, 1) := by decide +kernel
theorem dX4_init_92 : decode cX4_init 92 = .ok (.putfield 48, 3) := by decide +kernel
theorem dX4_init_95 : decode cX4_init 95 = .ok (.return_, 1) := by decide +kernel
theorem dX4_line_0 : decode cX4_line 0 = .ok (.iload_n 1, 1) := by decide +kernel
theorem dX4_line_1 : decode cX4_line 1 = .ok (.iconst 3, 1) := by decide +kernel
theorem dX4_line_2 : decode cX4_line 2 = .ok (.bipush 40, 2) := by decide +kernel
theorem dX4_line_4 : decode cX4_line 4 = .ok (.invokestatic 52, 3) := by decide +kernel
theorem dX4_line_7 : decode cX4_line 7 = .ok (.ifCond .ne 5, 3) := by decide +kernel
theorem dX4_line_10 : decode cX4_line 10 = .ok (.iconst (-1), 1) := by decide +kernel
theorem dX4_line_11 : decode cX4_line 11 = .ok (.ireturn, 1) := by decide +kernel
theorem dX4_line_12 : decode cX4_line 12 = .ok (.aload_n 0, 1) := by decide +kernel
theorem dX4_line_13 : decode cX4_line 13 = .ok (.getfield 10, 3) := by decide +kernel
theorem dX4_line_16 : decode cX4_line 16 = .ok (.iload_n 1, 1) := by decide +kernel
theorem dX4_line_17 : decode cX4_line 17 = .ok (.invokevirtual 56, 3) := by decide +kernel
theorem dX4_line_20 : decode cX4_line 20 = .ok (.iload_n 1, 1) := by decide +kernel
theorem dX4_line_21 : decode cX4_line 21 = .ok (.ireturn, 1) := by decide +kernel
theorem dX4_sleeper_0 : decode cX4_sleeper 0 = .ok (.aload_n 0, 1) := by decide +kernel
theorem dX4_sleeper_1 : decode cX4_sleeper 1 = .ok (.getfield 10, 3) := by decide +kernel
theorem dX4_sleeper_4 : decode cX4_sleeper 4 = .ok (.iload_n 1, 1) := by decide +kernel
theorem dX4_sleeper_5 : decode cX4_sleeper 5 = .ok (.invokevirtual 60, 3) := by decide +kernel
theorem dX4_sleeper_8 : decode cX4_sleeper 8 = .ok (.ifCond .eq 12, 3) := by decide +kernel
theorem dX4_sleeper_11 : decode cX4_sleeper 11 = .ok (.iload_n 2, 1) := by decide +kernel
theorem dX4_sleeper_12 : decode cX4_sleeper 12 = .ok (.iconst 0, 1) := by decide +kernel
theorem dX4_sleeper_13 : decode cX4_sleeper 13 = .ok (.iconst 3, 1) := by decide +kernel
theorem dX4_sleeper_14 : decode cX4_sleeper 14 = .ok (.invokestatic 52, 3) := by decide +kernel
theorem dX4_sleeper_17 : decode cX4_sleeper 17 = .ok (.ifCond .ne 5, 3) := by decide +kernel
theorem dX4_sleeper_20 : decode cX4_sleeper 20 = .ok (.iconst (-1), 1) := by decide +kernel
theorem dX4_sleeper_21 : decode cX4_sleeper 21 = .ok (.ireturn, 1) := by decide +kernel
theorem dX4_sleeper_22 : decode cX4_sleeper 22 = .ok (.aload_n 0, 1) := by decide +kernel
theorem dX4_sleeper_23 : decode cX4_sleeper 23 = .ok (.getfield 10, 3) := by decide +kernel
theorem dX4_sleeper_26 : decode cX4_sleeper 26 = .ok (.getfield 64, 3) := by decide +kernel
theorem dX4_sleeper_29 : decode cX4_sleeper 29 = .ok (.iload_n 1, 1) := by decide +kernel
theorem dX4_sleeper_30 : decode cX4_sleeper 30 = .ok (.iaload, 1) := by decide +kernel
theorem dX4_sleeper_31 : decode cX4_sleeper 31 = .ok (.istore_n 3, 1) := by decide +kernel
theorem dX4_sleeper_32 : decode cX4_sleeper 32 = .ok (.aload_n 0, 1) := by decide +kernel
theorem dX4_sleeper_33 : decode cX4_sleeper 33 = .ok (.getfield 10, 3) := by decide +kernel
theorem dX4_sleeper_36 : decode cX4_sleeper 36 = .ok (.getfield 64, 3) := by decide +kernel
theorem dX4_sleeper_39 : decode cX4_sleeper 39 = .ok (.iload_n 1, 1) := by decide +kernel
theorem dX4_sleeper_40 : decode cX4_sleeper 40 = .ok (.iload_n 2, 1) := by decide +kernel
theorem dX4_sleeper_41 : decode cX4_sleeper 41 = .ok (.iastore, 1) := by decide +kernel
theorem dX4_sleeper_42 : decode cX4_sleeper 42 = .ok (.aload_n 0, 1) := by decide +kernel
theorem dX4_sleeper_43 : decode cX4_sleeper 43 = .ok (.getfield 10, 3) := by decide +kernel
theorem dX4_sleeper_46 : decode cX4_sleeper 46 = .ok (.iload_n 1, 1) := by decide +kernel
theorem dX4_sleeper_47 : decode cX4_sleeper 47 = .ok (.iconst 0, 1) := by decide +kernel
theorem dX4_sleeper_48 : decode cX4_sleeper 48 = .ok (.invokevirtual 67, 3) := by decide +kernel
theorem dX4_sleeper_51 : decode cX4_sleeper 51 = .ok (.iload_n 3, 1) := by decide +kernel
theorem dX4_sleeper_52 : decode cX4_sleeper 52 = .ok (.ireturn, 1) := by decide +kernel
theorem dX4_lose_0 : decode cX4_lose 0 = .ok (.aload_n 0, 1) := by decide +kernel
theorem dX4_lose_1 : decode cX4_lose 1 = .ok (.getfield 10, 3) := by decide +kernel
theorem dX4_lose_4 : decode cX4_lose 4 = .ok (.iload_n 1, 1) := by decide +kernel
theorem dX4_lose_5 : decode cX4_lose 5 = .ok (.invokevirtual 60, 3) := by decide +kernel
theorem dX4_lose_8 : decode cX4_lose 8 = .ok (.ifCond .ne 5, 3) := by decide +kernel
theorem dX4_lose_11 : decode cX4_lose 11 = .ok (.iconst (-1), 1) := by decide +kernel
theorem dX4_lose_12 : decode cX4_lose 12 = .ok (.ireturn, 1) := by decide +kernel
theorem dX4_lose_13 : decode cX4_lose 13 = .ok (.aload_n 0, 1) := by decide +kernel
theorem dX4_lose_14 : decode cX4_lose 14 = .ok (.getfield 10, 3) := by decide +kernel
theorem dX4_lose_17 : decode cX4_lose 17 = .ok (.getfield 71, 3) := by decide +kernel
theorem dX4_lose_20 : decode cX4_lose 20 = .ok (.iload_n 1, 1) := by decide +kernel
theorem dX4_lose_21 : decode cX4_lose 21 = .ok (.baload, 1) := by decide +kernel
theorem dX4_lose_22 : decode cX4_lose 22 = .ok (.ifCond .eq 7, 3) := by decide +kernel
theorem dX4_lose_25 : decode cX4_lose 25 = .ok (.iconst 1, 1) := by decide +kernel
theorem dX4_lose_26 : decode cX4_lose 26 = .ok (.goto 4, 3) := by decide +kernel
theorem dX4_lose_29 : decode cX4_lose 29 = .ok (.iconst 0, 1) := by decide +kernel
theorem dX4_lose_30 : decode cX4_lose 30 = .ok (.istore_n 3, 1) := by decide +kernel
theorem dX4_lose_31 : decode cX4_lose 31 = .ok (.aload_n 0, 1) := by decide +kernel
theorem dX4_lose_32 : decode cX4_lose 32 = .ok (.getfield 10, 3) := by decide +kernel
theorem dX4_lose_35 : decode cX4_lose 35 = .ok (.iload_n 1, 1) := by decide +kernel
theorem dX4_lose_36 : decode cX4_lose 36 = .ok (.iload_n 2, 1) := by decide +kernel
theorem dX4_lose_37 : decode cX4_lose 37 = .ok (.invokevirtual 67, 3) := by decide +kernel
theorem dX4_lose_40 : decode cX4_lose 40 = .ok (.iload_n 3, 1) := by decide +kernel
theorem dX4_lose_41 : decode cX4_lose 41 = .ok (.ireturn, 1) := by decide +kernel
theorem dX4_bed_0 : decode cX4_bed 0 = .ok (.aload_n 0, 1) := by decide +kernel
theorem dX4_bed_1 : decode cX4_bed 1 = .ok (.getfield 10, 3) := by decide +kernel
theorem dX4_bed_4 : decode cX4_bed 4 = .ok (.iload_n 1, 1) := by decide +kernel
theorem dX4_bed_5 : decode cX4_bed 5 = .ok (.invokevirtual 60, 3) := by decide +kernel
theorem dX4_bed_8 : decode cX4_bed 8 = .ok (.ifCond .eq 16, 3) := by decide +kernel
theorem dX4_bed_11 : decode cX4_bed 11 = .ok (.iload_n 2, 1) := by decide +kernel
theorem dX4_bed_12 : decode cX4_bed 12 = .ok (.sipush (-10000), 3) := by decide +kernel
theorem dX4_bed_15 : decode cX4_bed 15 = .ok (.sipush 10000, 3) := by decide +kernel
theorem dX4_bed_18 : decode cX4_bed 18 = .ok (.invokestatic 52, 3) := by decide +kernel
theorem dX4_bed_21 : decode cX4_bed 21 = .ok (.ifCond .ne 5, 3) := by decide +kernel
theorem dX4_bed_24 : decode cX4_bed 24 = .ok (.iconst (-1), 1) := by decide +kernel
theorem dX4_bed_25 : decode cX4_bed 25 = .ok (.ireturn, 1) := by decide +kernel
theorem dX4_bed_26 : decode cX4_bed 26 = .ok (.aload_n 0, 1) := by decide +kernel
theorem dX4_bed_27 : decode cX4_bed 27 = .ok (.getfield 10, 3) := by decide +kernel
theorem dX4_bed_30 : decode cX4_bed 30 = .ok (.getfield 71, 3) := by decide +kernel
theorem dX4_bed_33 : decode cX4_bed 33 = .ok (.iload_n 1, 1) := by decide +kernel
theorem dX4_bed_34 : decode cX4_bed 34 = .ok (.baload, 1) := by decide +kernel
theorem dX4_bed_35 : decode cX4_bed 35 = .ok (.ifCond .eq 9, 3) := by decide +kernel
theorem dX4_bed_38 : decode cX4_bed 38 = .ok (.aload_n 0, 1) := by decide +kernel
theorem dX4_bed_39 : decode cX4_bed 39 = .ok (.iconst 1, 1) := by decide +kernel
theorem dX4_bed_40 : decode cX4_bed 40 = .ok (.invokevirtual 75, 3) := by decide +kernel
theorem dX4_bed_43 : decode cX4_bed 43 = .ok (.ireturn, 1) := by decide +kernel
theorem dX4_bed_44 : decode cX4_bed 44 = .ok (.aload_n 0, 1) := by decide +kernel
theorem dX4_bed_45 : decode cX4_bed 45 = .ok (.getfield 10, 3) := by decide +kernel
end
section
theorem dX4_bed_48 : decode cX4_bed 48 = .ok (.getfield 79, 3) := by decide +kernel
theorem dX4_bed_51 : decode cX4_bed 51 = .ok (.iload_n 1, 1) := by decide +kernel
theorem dX4_bed_52 : decode cX4_bed 52 = .ok (.iaload, 1) := by decide +kernel
theorem dX4_bed_53 : decode cX4_bed 53 = .ok (.istore_n 3, 1) := by decide +kernel
theorem dX4_bed_54 : decode cX4_bed 54 = .ok (.aload_n 0, 1) := by decide +kernel
theorem dX4_bed_55 : decode cX4_bed 55 = .ok (.getfield 10, 3) := by decide +kernel
theorem dX4_bed_58 : decode cX4_bed 58 = .ok (.iload_n 1, 1) := by decide +kernel
theorem dX4_bed_59 : decode cX4_bed 59 = .ok (.iload_n 2, 1) := by decide +kernel
theorem dX4_bed_60 : decode cX4_bed 60 = .ok (.invokevirtual 82, 3) := by decide +kernel
theorem dX4_bed_63 : decode cX4_bed 63 = .ok (.aload_n 0, 1) := by decide +kernel
theorem dX4_bed_64 : decode cX4_bed 64 = .ok (.iload_n 3, 1) := by decide +kernel
theorem dX4_bed_65 : decode cX4_bed 65 = .ok (.i2l, 1) := by decide +kernel
theorem dX4_bed_66 : decode cX4_bed 66 = .ok (.invokevirtual 86, 3) := by decide +kernel
theorem dX4_bed_69 : decode cX4_bed 69 = .ok (.ireturn, 1) := by decide +kernel
theorem dX4_stones_0 : decode cX4_stones 0 = .ok (.aload_n 0, 1) := by decide +kernel
theorem dX4_stones_1 : decode cX4_stones 1 = .ok (.getfield 10, 3) := by decide +kernel
theorem dX4_stones_4 : decode cX4_stones 4 = .ok (.iload_n 1, 1) := by decide +kernel
theorem dX4_stones_5 : decode cX4_stones 5 = .ok (.invokevirtual 60, 3) := by decide +kernel
theorem dX4_stones_8 : decode cX4_stones 8 = .ok (.ifCond .eq 13, 3) := by decide +kernel
theorem dX4_stones_11 : decode cX4_stones 11 = .ok (.iload_n 2, 1) := by decide +kernel
theorem dX4_stones_12 : decode cX4_stones 12 = .ok (.iconst 1, 1) := by decide +kernel
theorem dX4_stones_13 : decode cX4_stones 13 = .ok (.bipush 9, 2) := by decide +kernel
theorem dX4_stones_15 : decode cX4_stones 15 = .ok (.invokestatic 52, 3) := by decide +kernel
theorem dX4_stones_18 : decode cX4_stones 18 = .ok (.ifCond .ne 5, 3) := by decide +kernel
theorem dX4_stones_21 : decode cX4_stones 21 = .ok (.iconst (-1), 1) := by decide +kernel
theorem dX4_stones_22 : decode cX4_stones 22 = .ok (.ireturn, 1) := by decide +kernel
theorem dX4_stones_23 : decode cX4_stones 23 = .ok (.aload_n 0, 1) := by decide +kernel
theorem dX4_stones_24 : decode cX4_stones 24 = .ok (.getfield 10, 3) := by decide +kernel
theorem dX4_stones_27 : decode cX4_stones 27 = .ok (.getfield 71, 3) := by decide +kernel
theorem dX4_stones_30 : decode cX4_stones 30 = .ok (.iload_n 1, 1) := by decide +kernel
theorem dX4_stones_31 : decode cX4_stones 31 = .ok (.baload, 1) := by decide +kernel
theorem dX4_stones_32 : decode cX4_stones 32 = .ok (.ifCond .eq 9, 3) := by decide +kernel
theorem dX4_stones_35 : decode cX4_stones 35 = .ok (.aload_n 0, 1) := by decide +kernel
theorem dX4_stones_36 : decode cX4_stones 36 = .ok (.iconst 1, 1) := by decide +kernel
theorem dX4_stones_37 : decode cX4_stones 37 = .ok (.invokevirtual 75, 3) := by decide +kernel
theorem dX4_stones_40 : decode cX4_stones 40 = .ok (.ireturn, 1) := by decide +kernel
theorem dX4_stones_41 : decode cX4_stones 41 = .ok (.aload_n 0, 1) := by decide +kernel
theorem dX4_stones_42 : decode cX4_stones 42 = .ok (.getfield 10, 3) := by decide +kernel
theorem dX4_stones_45 : decode cX4_stones 45 = .ok (.getfield 90, 3) := by decide +kernel
theorem dX4_stones_48 : decode cX4_stones 48 = .ok (.iload_n 1, 1) := by decide +kernel
theorem dX4_stones_49 : decode cX4_stones 49 = .ok (.iaload, 1) := by decide +kernel
theorem dX4_stones_50 : decode cX4_stones 50 = .ok (.istore_n 3, 1) := by decide +kernel
theorem dX4_stones_51 : decode cX4_stones 51 = .ok (.aload_n 0, 1) := by decide +kernel
theorem dX4_stones_52 : decode cX4_stones 52 = .ok (.getfield 10, 3) := by decide +kernel
theorem dX4_stones_55 : decode cX4_stones 55 = .ok (.getfield 90, 3) := by decide +kernel
theorem dX4_stones_58 : decode cX4_stones 58 = .ok (.iload_n 1, 1) := by decide +kernel
theorem dX4_stones_59 : decode cX4_stones 59 = .ok (.iload_n 2, 1) := by decide +kernel
theorem dX4_stones_60 : decode cX4_stones 60 = .ok (.iastore, 1) := by decide +kernel
theorem dX4_stones_61 : decode cX4_stones 61 = .ok (.iload_n 3, 1) := by decide +kernel
theorem dX4_stones_62 : decode cX4_stones 62 = .ok (.ireturn, 1) := by decide +kernel
theorem dX4_told_0 : decode cX4_told 0 = .ok (.aload_n 0, 1) := by decide +kernel
theorem dX4_told_1 : decode cX4_told 1 = .ok (.getfield 10, 3) := by decide +kernel
theorem dX4_told_4 : decode cX4_told 4 = .ok (.iload_n 1, 1) := by decide +kernel
theorem dX4_told_5 : decode cX4_told 5 = .ok (.invokevirtual 60, 3) := by decide +kernel
theorem dX4_told_8 : decode cX4_told 8 = .ok (.ifCond .ne 5, 3) := by decide +kernel
theorem dX4_told_11 : decode cX4_told 11 = .ok (.iconst (-1), 1) := by decide +kernel
theorem dX4_told_12 : decode cX4_told 12 = .ok (.ireturn, 1) := by decide +kernel
theorem dX4_told_13 : decode cX4_told 13 = .ok (.iload_n 2, 1) := by decide +kernel
theorem dX4_told_14 : decode cX4_told 14 = .ok (.tableswitch 78 0 3 #[30, 40, 50, 60], 30) := by decide +kernel
theorem dX4_told_44 : decode cX4_told 44 = .ok (.aload_n 0, 1) := by decide +kernel
theorem dX4_told_45 : decode cX4_told 45 = .ok (.getfield 10, 3) := by decide +kernel
theorem dX4_told_48 : decode cX4_told 48 = .ok (.getfield 64, 3) := by decide +kernel
theorem dX4_told_51 : decode cX4_told 51 = .ok (.iload_n 1, 1) := by decide +kernel
theorem dX4_told_52 : decode cX4_told 52 = .ok (.iaload, 1) := by decide +kernel
theorem dX4_told_53 : decode cX4_told 53 = .ok (.ireturn, 1) := by decide +kernel
theorem dX4_told_54 : decode cX4_told 54 = .ok (.aload_n 0, 1) := by decide +kernel
theorem dX4_told_55 : decode cX4_told 55 = .ok (.getfield 10, 3) := by decide +kernel
theorem dX4_told_58 : decode cX4_told 58 = .ok (.getfield 90, 3) := by decide +kernel
theorem dX4_told_61 : decode cX4_told 61 = .ok (.iload_n 1, 1) := by decide +kernel
theorem dX4_told_62 : decode cX4_told 62 = .ok (.iaload, 1) := by decide +kernel
theorem dX4_told_63 : decode cX4_told 63 = .ok (.ireturn, 1) := by decide +kernel
theorem dX4_told_64 : decode cX4_told 64 = .ok (.aload_n 0, 1) := by decide +kernel
theorem dX4_told_65 : decode cX4_told 65 = .ok (.getfield 10, 3) := by decide +kernel
theorem dX4_told_68 : decode cX4_told 68 = .ok (.getfield 93, 3) := by decide +kernel
theorem dX4_told_71 : decode cX4_told 71 = .ok (.iload_n 1, 1) := by decide +kernel
theorem dX4_told_72 : decode cX4_told 72 = .ok (.iaload, 1) := by decide +kernel
theorem dX4_told_73 : decode cX4_told 73 = .ok (.ireturn, 1) := by decide +kernel
theorem dX4_told_74 : decode cX4_told 74 = .ok (.aload_n 0, 1) := by decide +kernel
theorem dX4_told_75 : decode cX4_told 75 = .ok (.getfield 10, 3) := by decide +kernel
theorem dX4_told_78 : decode cX4_told 78 = .ok (.getfield 71, 3) := by decide +kernel
theorem dX4_told_81 : decode cX4_told 81 = .ok (.iload_n 1, 1) := by decide +kernel
theorem dX4_told_82 : decode cX4_told 82 = .ok (.baload, 1) := by decide +kernel
theorem dX4_told_83 : decode cX4_told 83 = .ok (.ifCond .eq 7, 3) := by decide +kernel
theorem dX4_told_86 : decode cX4_told 86 = .ok (.iconst 1, 1) := by decide +kernel
theorem dX4_told_87 : decode cX4_told 87 = .ok (.goto 4, 3) := by decide +kernel
theorem dX4_told_90 : decode cX4_told 90 = .ok (.iconst 0, 1) := by decide +kernel
theorem dX4_told_91 : decode cX4_told 91 = .ok (.ireturn, 1) := by decide +kernel
theorem dX4_told_92 : decode cX4_told 92 = .ok (.iconst (-1), 1) := by decide +kernel
theorem dX4_told_93 : decode cX4_told 93 = .ok (.ireturn, 1) := by decide +kernel
theorem dX4_mark_0 : decode cX4_mark 0 = .ok (.aload_n 0, 1) := by decide +kernel
theorem dX4_mark_1 : decode cX4_mark 1 = .ok (.getfield 10, 3) := by decide +kernel
theorem dX4_mark_4 : decode cX4_mark 4 = .ok (.iload_n 1, 1) := by decide +kernel
theorem dX4_mark_5 : decode cX4_mark 5 = .ok (.invokevirtual 60, 3) := by decide +kernel
theorem dX4_mark_8 : decode cX4_mark 8 = .ok (.ifCond .eq 12, 3) := by decide +kernel
theorem dX4_mark_11 : decode cX4_mark 11 = .ok (.iload_n 2, 1) := by decide +kernel
theorem dX4_mark_12 : decode cX4_mark 12 = .ok (.iconst 1, 1) := by decide +kernel
theorem dX4_mark_13 : decode cX4_mark 13 = .ok (.iconst 3, 1) := by decide +kernel
theorem dX4_mark_14 : decode cX4_mark 14 = .ok (.invokestatic 52, 3) := by decide +kernel
theorem dX4_mark_17 : decode cX4_mark 17 = .ok (.ifCond .ne 5, 3) := by decide +kernel
theorem dX4_mark_20 : decode cX4_mark 20 = .ok (.iconst (-1), 1) := by decide +kernel
theorem dX4_mark_21 : decode cX4_mark 21 = .ok (.ireturn, 1) := by decide +kernel
theorem dX4_mark_22 : decode cX4_mark 22 = .ok (.aload_n 0, 1) := by decide +kernel
theorem dX4_mark_23 : decode cX4_mark 23 = .ok (.getfield 10, 3) := by decide +kernel
theorem dX4_mark_26 : decode cX4_mark 26 = .ok (.getfield 71, 3) := by decide +kernel
theorem dX4_mark_29 : decode cX4_mark 29 = .ok (.iload_n 1, 1) := by decide +kernel
theorem dX4_mark_30 : decode cX4_mark 30 = .ok (.baload, 1) := by decide +kernel
theorem dX4_mark_31 : decode cX4_mark 31 = .ok (.ifCond .eq 9, 3) := by decide +kernel
theorem dX4_mark_34 : decode cX4_mark 34 = .ok (.aload_n 0, 1) := by decide +kernel
theorem dX4_mark_35 : decode cX4_mark 35 = .ok (.iconst 1, 1) := by decide +kernel
theorem dX4_mark_36 : decode cX4_mark 36 = .ok (.invokevirtual 75, 3) := by decide +kernel
theorem dX4_mark_39 : decode cX4_mark 39 = .ok (.ireturn, 1) := by decide +kernel
theorem dX4_mark_40 : decode cX4_mark 40 = .ok (.aload_n 0, 1) := by decide +kernel
theorem dX4_mark_41 : decode cX4_mark 41 = .ok (.getfield 10, 3) := by decide +kernel
theorem dX4_mark_44 : decode cX4_mark 44 = .ok (.iload_n 1, 1) := by decide +kernel
theorem dX4_mark_45 : decode cX4_mark 45 = .ok (.iload_n 2, 1) := by decide +kernel
theorem dX4_mark_46 : decode cX4_mark 46 = .ok (.invokevirtual 96, 3) := by decide +kernel
theorem dX4_mark_49 : decode cX4_mark 49 = .ok (.ifCond .ne 9, 3) := by decide +kernel
theorem dX4_mark_52 : decode cX4_mark 52 = .ok (.aload_n 0, 1) := by decide +kernel
theorem dX4_mark_53 : decode cX4_mark 53 = .ok (.iconst 3, 1) := by decide +kernel
theorem dX4_mark_54 : decode cX4_mark 54 = .ok (.invokevirtual 75, 3) := by decide +kernel
theorem dX4_mark_57 : decode cX4_mark 57 = .ok (.ireturn, 1) := by decide +kernel
theorem dX4_mark_58 : decode cX4_mark 58 = .ok (.iload_n 2, 1) := by decide +kernel
theorem dX4_mark_59 : decode cX4_mark 59 = .ok (.lookupswitch 45 #[(1, 25), (2, 35)], 25) := by decide +kernel
theorem dX4_mark_84 : decode cX4_mark 84 = .ok (.aload_n 0, 1) := by decide +kernel
theorem dX4_mark_85 : decode cX4_mark 85 = .ok (.getfield 10, 3) := by decide +kernel
theorem dX4_mark_88 : decode cX4_mark 88 = .ok (.getfield 93, 3) := by decide +kernel
theorem dX4_mark_91 : decode cX4_mark 91 = .ok (.iload_n 1, 1) := by decide +kernel
theorem dX4_mark_92 : decode cX4_mark 92 = .ok (.iaload, 1) := by decide +kernel
theorem dX4_mark_93 : decode cX4_mark 93 = .ok (.ireturn, 1) := by decide +kernel
theorem dX4_mark_94 : decode cX4_mark 94 = .ok (.aload_n 0, 1) := by decide +kernel
theorem dX4_mark_95 : decode cX4_mark 95 = .ok (.getfield 10, 3) := by decide +kernel
theorem dX4_mark_98 : decode cX4_mark 98 = .ok (.getfield 90, 3) := by decide +kernel
theorem dX4_mark_101 : decode cX4_mark 101 = .ok (.iload_n 1, 1) := by decide +kernel
theorem dX4_mark_102 : decode cX4_mark 102 = .ok (.iaload, 1) := by decide +kernel
theorem dX4_mark_103 : decode cX4_mark 103 = .ok (.ireturn, 1) := by decide +kernel
theorem dX4_mark_104 : decode cX4_mark 104 = .ok (.aload_n 0, 1) := by decide +kernel
theorem dX4_mark_105 : decode cX4_mark 105 = .ok (.getfield 10, 3) := by decide +kernel
theorem dX4_mark_108 : decode cX4_mark 108 = .ok (.getfield 100, 3) := by decide +kernel
theorem dX4_mark_111 : decode cX4_mark 111 = .ok (.iload_n 1, 1) := by decide +kernel
theorem dX4_mark_112 : decode cX4_mark 112 = .ok (.iaload, 1) := by decide +kernel
theorem dX4_mark_113 : decode cX4_mark 113 = .ok (.ireturn, 1) := by decide +kernel
theorem dX4_rail_0 : decode cX4_rail 0 = .ok (.aload_n 0, 1) := by decide +kernel
theorem dX4_rail_1 : decode cX4_rail 1 = .ok (.getfield 10, 3) := by decide +kernel
theorem dX4_rail_4 : decode cX4_rail 4 = .ok (.iload_n 1, 1) := by decide +kernel
theorem dX4_rail_5 : decode cX4_rail 5 = .ok (.invokevirtual 60, 3) := by decide +kernel
theorem dX4_rail_8 : decode cX4_rail 8 = .ok (.ifCond .ne 5, 3) := by decide +kernel
theorem dX4_rail_11 : decode cX4_rail 11 = .ok (.iconst (-1), 1) := by decide +kernel
theorem dX4_rail_12 : decode cX4_rail 12 = .ok (.ireturn, 1) := by decide +kernel
theorem dX4_rail_13 : decode cX4_rail 13 = .ok (.aload_n 0, 1) := by decide +kernel
theorem dX4_rail_14 : decode cX4_rail 14 = .ok (.aload_n 0, 1) := by decide +kernel
theorem dX4_rail_15 : decode cX4_rail 15 = .ok (.getfield 10, 3) := by decide +kernel
theorem dX4_rail_18 : decode cX4_rail 18 = .ok (.iload_n 1, 1) := by decide +kernel
theorem dX4_rail_19 : decode cX4_rail 19 = .ok (.invokevirtual 103, 3) := by decide +kernel
theorem dX4_rail_22 : decode cX4_rail 22 = .ok (.i2l, 1) := by decide +kernel
theorem dX4_rail_23 : decode cX4_rail 23 = .ok (.invokevirtual 86, 3) := by decide +kernel
theorem dX4_rail_26 : decode cX4_rail 26 = .ok (.ireturn, 1) := by decide +kernel
theorem dX4_gap_0 : decode cX4_gap 0 = .ok (.aload_n 0, 1) := by decide +kernel
theorem dX4_gap_1 : decode cX4_gap 1 = .ok (.getfield 10, 3) := by decide +kernel
theorem dX4_gap_4 : decode cX4_gap 4 = .ok (.iload_n 1, 1) := by decide +kernel
theorem dX4_gap_5 : decode cX4_gap 5 = .ok (.invokevirtual 60, 3) := by decide +kernel
theorem dX4_gap_8 : decode cX4_gap 8 = .ok (.ifCond .ne 5, 3) := by decide +kernel
theorem dX4_gap_11 : decode cX4_gap 11 = .ok (.iconst (-1), 1) := by decide +kernel
theorem dX4_gap_12 : decode cX4_gap 12 = .ok (.ireturn, 1) := by decide +kernel
theorem dX4_gap_13 : decode cX4_gap 13 = .ok (.aload_n 0, 1) := by decide +kernel
theorem dX4_gap_14 : decode cX4_gap 14 = .ok (.getfield 10, 3) := by decide +kernel
theorem dX4_gap_17 : decode cX4_gap 17 = .ok (.getfield 71, 3) := by decide +kernel
theorem dX4_gap_20 : decode cX4_gap 20 = .ok (.iload_n 1, 1) := by decide +kernel
theorem dX4_gap_21 : decode cX4_gap 21 = .ok (.baload, 1) := by decide +kernel
theorem dX4_gap_22 : decode cX4_gap 22 = .ok (.ifCond .eq 9, 3) := by decide +kernel
theorem dX4_gap_25 : decode cX4_gap 25 = .ok (.aload_n 0, 1) := by decide +kernel
theorem dX4_gap_26 : decode cX4_gap 26 = .ok (.iconst 1, 1) := by decide +kernel
theorem dX4_gap_27 : decode cX4_gap 27 = .ok (.invokevirtual 75, 3) := by decide +kernel
theorem dX4_gap_30 : decode cX4_gap 30 = .ok (.ireturn, 1) := by decide +kernel
theorem dX4_gap_31 : decode cX4_gap 31 = .ok (.aload_n 0, 1) := by decide +kernel
theorem dX4_gap_32 : decode cX4_gap 32 = .ok (.getfield 10, 3) := by decide +kernel
theorem dX4_gap_35 : decode cX4_gap 35 = .ok (.iload_n 1, 1) := by decide +kernel
theorem dX4_gap_36 : decode cX4_gap 36 = .ok (.invokevirtual 103, 3) := by decide +kernel
theorem dX4_gap_39 : decode cX4_gap 39 = .ok (.aload_n 0, 1) := by decide +kernel
theorem dX4_gap_40 : decode cX4_gap 40 = .ok (.getfield 10, 3) := by decide +kernel
theorem dX4_gap_43 : decode cX4_gap 43 = .ok (.getfield 79, 3) := by decide +kernel
theorem dX4_gap_46 : decode cX4_gap 46 = .ok (.iload_n 1, 1) := by decide +kernel
theorem dX4_gap_47 : decode cX4_gap 47 = .ok (.iaload, 1) := by decide +kernel
theorem dX4_gap_48 : decode cX4_gap 48 = .ok (.isub, 1) := by decide +kernel
theorem dX4_gap_49 : decode cX4_gap 49 = .ok (.ireturn, 1) := by decide +kernel
theorem dX4_axle_0 : decode cX4_axle 0 = .ok (.iload_n 1, 1) := by decide +kernel
theorem dX4_axle_1 : decode cX4_axle 1 = .ok (.iconst 1, 1) := by decide +kernel
theorem dX4_axle_2 : decode cX4_axle 2 = .ok (.sipush 250, 3) := by decide +kernel
theorem dX4_axle_5 : decode cX4_axle 5 = .ok (.invokestatic 52, 3) := by decide +kernel
theorem dX4_axle_8 : decode cX4_axle 8 = .ok (.ifCond .ne 5, 3) := by decide +kernel
theorem dX4_axle_11 : decode cX4_axle 11 = .ok (.iconst (-1), 1) := by decide +kernel
theorem dX4_axle_12 : decode cX4_axle 12 = .ok (.ireturn, 1) := by decide +kernel
theorem dX4_axle_13 : decode cX4_axle 13 = .ok (.aload_n 0, 1) := by decide +kernel
theorem dX4_axle_14 : decode cX4_axle 14 = .ok (.getfield 19, 3) := by decide +kernel
theorem dX4_axle_17 : decode cX4_axle 17 = .ok (.getfield 106, 3) := by decide +kernel
theorem dX4_axle_20 : decode cX4_axle 20 = .ok (.bipush 20, 2) := by decide +kernel
theorem dX4_axle_22 : decode cX4_axle 22 = .ok (.if_icmp .lt 6, 3) := by decide +kernel
theorem dX4_axle_25 : decode cX4_axle 25 = .ok (.bipush (-2), 2) := by decide +kernel
theorem dX4_axle_27 : decode cX4_axle 27 = .ok (.ireturn, 1) := by decide +kernel
theorem dX4_axle_28 : decode cX4_axle 28 = .ok (.aload_n 0, 1) := by decide +kernel
theorem dX4_axle_29 : decode cX4_axle 29 = .ok (.getfield 19, 3) := by decide +kernel
theorem dX4_axle_32 : decode cX4_axle 32 = .ok (.getfield 109, 3) := by decide +kernel
theorem dX4_axle_35 : decode cX4_axle 35 = .ok (.aload_n 0, 1) := by decide +kernel
theorem dX4_axle_36 : decode cX4_axle 36 = .ok (.getfield 19, 3) := by decide +kernel
theorem dX4_axle_39 : decode cX4_axle 39 = .ok (.getfield 106, 3) := by decide +kernel
theorem dX4_axle_42 : decode cX4_axle 42 = .ok (.iload_n 1, 1) := by decide +kernel
theorem dX4_axle_43 : decode cX4_axle 43 = .ok (.iastore, 1) := by decide +kernel
theorem dX4_axle_44 : decode cX4_axle 44 = .ok (.aload_n 0, 1) := by decide +kernel
theorem dX4_axle_45 : decode cX4_axle 45 = .ok (.getfield 19, 3) := by decide +kernel
theorem dX4_axle_48 : decode cX4_axle 48 = .ok (.dup, 1) := by decide +kernel
theorem dX4_axle_49 : decode cX4_axle 49 = .ok (.getfield 106, 3) := by decide +kernel
theorem dX4_axle_52 : decode cX4_axle 52 = .ok (.iconst 1, 1) := by decide +kernel
theorem dX4_axle_53 : decode cX4_axle 53 = .ok (.iadd, 1) := by decide +kernel
theorem dX4_axle_54 : decode cX4_axle 54 = .ok (.putfield 106, 3) := by decide +kernel
theorem dX4_axle_57 : decode cX4_axle 57 = .ok (.aload_n 0, 1) := by decide +kernel
theorem dX4_axle_58 : decode cX4_axle 58 = .ok (.getfield 19, 3) := by decide +kernel
theorem dX4_axle_61 : decode cX4_axle 61 = .ok (.getfield 106, 3) := by decide +kernel
theorem dX4_axle_64 : decode cX4_axle 64 = .ok (.ireturn, 1) := by decide +kernel
theorem dX4_uncouple_0 : decode cX4_uncouple 0 = .ok (.aload_n 0, 1) := by decide +kernel
theorem dX4_uncouple_1 : decode cX4_uncouple 1 = .ok (.getfield 19, 3) := by decide +kernel
theorem dX4_uncouple_4 : decode cX4_uncouple 4 = .ok (.getfield 106, 3) := by decide +kernel
theorem dX4_uncouple_7 : decode cX4_uncouple 7 = .ok (.istore_n 1, 1) := by decide +kernel
theorem dX4_uncouple_8 : decode cX4_uncouple 8 = .ok (.aload_n 0, 1) := by decide +kernel
theorem dX4_uncouple_9 : decode cX4_uncouple 9 = .ok (.getfield 19, 3) := by decide +kernel
theorem dX4_uncouple_12 : decode cX4_uncouple 12 = .ok (.iconst 0, 1) := by decide +kernel
theorem dX4_uncouple_13 : decode cX4_uncouple 13 = .ok (.putfield 106, 3) := by decide +kernel
theorem dX4_uncouple_16 : decode cX4_uncouple 16 = .ok (.iload_n 1, 1) := by decide +kernel
theorem dX4_uncouple_17 : decode cX4_uncouple 17 = .ok (.ireturn, 1) := by decide +kernel
theorem dX4_table_0 : decode cX4_table 0 = .ok (.iload_n 1, 1) := by decide +kernel
theorem dX4_table_1 : decode cX4_table 1 = .ok (.iconst 0, 1) := by decide +kernel
theorem dX4_table_2 : decode cX4_table 2 = .ok (.bipush 15, 2) := by decide +kernel
theorem dX4_table_4 : decode cX4_table 4 = .ok (.invokestatic 52, 3) := by decide +kernel
theorem dX4_table_7 : decode cX4_table 7 = .ok (.ifCond .ne 5, 3) := by decide +kernel
theorem dX4_table_10 : decode cX4_table 10 = .ok (.iconst (-1), 1) := by decide +kernel
theorem dX4_table_11 : decode cX4_table 11 = .ok (.ireturn, 1) := by decide +kernel
theorem dX4_table_12 : decode cX4_table 12 = .ok (.aload_n 0, 1) := by decide +kernel
theorem dX4_table_13 : decode cX4_table 13 = .ok (.getfield 19, 3) := by decide +kernel
theorem dX4_table_16 : decode cX4_table 16 = .ok (.getfield 112, 3) := by decide +kernel
theorem dX4_table_19 : decode cX4_table 19 = .ok (.iload_n 1, 1) := by decide +kernel
theorem dX4_table_20 : decode cX4_table 20 = .ok (.baload, 1) := by decide +kernel
theorem dX4_table_21 : decode cX4_table 21 = .ok (.istore_n 3, 1) := by decide +kernel
theorem dX4_table_22 : decode cX4_table 22 = .ok (.aload_n 0, 1) := by decide +kernel
theorem dX4_table_23 : decode cX4_table 23 = .ok (.getfield 19, 3) := by decide +kernel
theorem dX4_table_26 : decode cX4_table 26 = .ok (.getfield 112, 3) := by decide +kernel
theorem dX4_table_29 : decode cX4_table 29 = .ok (.iload_n 1, 1) := by decide +kernel
theorem dX4_table_30 : decode cX4_table 30 = .ok (.iload_n 2, 1) := by decide +kernel
theorem dX4_table_31 : decode cX4_table 31 = .ok (.i2b, 1) := by decide +kernel
theorem dX4_table_32 : decode cX4_table 32 = .ok (.bastore, 1) := by decide +kernel
theorem dX4_table_33 : decode cX4_table 33 = .ok (.iload_n 3, 1) := by decide +kernel
theorem dX4_table_34 : decode cX4_table 34 = .ok (.sipush 1000, 3) := by decide +kernel
theorem dX4_table_37 : decode cX4_table 37 = .ok (.iadd, 1) := by decide +kernel
theorem dX4_table_38 : decode cX4_table 38 = .ok (.ireturn, 1) := by decide +kernel
theorem dX4_pass_0 : decode cX4_pass 0 = .ok (.iload_n 1, 1) := by decide +kernel
theorem dX4_pass_1 : decode cX4_pass 1 = .ok (.iconst 0, 1) := by decide +kernel
theorem dX4_pass_2 : decode cX4_pass 2 = .ok (.bipush 50, 2) := by decide +kernel
theorem dX4_pass_4 : decode cX4_pass 4 = .ok (.invokestatic 52, 3) := by decide +kernel
theorem dX4_pass_7 : decode cX4_pass 7 = .ok (.ifCond .ne 5, 3) := by decide +kernel
theorem dX4_pass_10 : decode cX4_pass 10 = .ok (.iconst (-1), 1) := by decide +kernel
theorem dX4_pass_11 : decode cX4_pass 11 = .ok (.ireturn, 1) := by decide +kernel
theorem dX4_pass_12 : decode cX4_pass 12 = .ok (.aload_n 0, 1) := by decide +kernel
theorem dX4_pass_13 : decode cX4_pass 13 = .ok (.getfield 19, 3) := by decide +kernel
theorem dX4_pass_16 : decode cX4_pass 16 = .ok (.getfield 106, 3) := by decide +kernel
theorem dX4_pass_19 : decode cX4_pass 19 = .ok (.ifCond .ne 6, 3) := by decide +kernel
theorem dX4_pass_22 : decode cX4_pass 22 = .ok (.bipush (-4), 2) := by decide +kernel
theorem dX4_pass_24 : decode cX4_pass 24 = .ok (.ireturn, 1) := by decide +kernel
theorem dX4_pass_25 : decode cX4_pass 25 = .ok (.aload_n 0, 1) := by decide +kernel
theorem dX4_pass_26 : decode cX4_pass 26 = .ok (.getfield 19, 3) := by decide +kernel
theorem dX4_pass_29 : decode cX4_pass 29 = .ok (.aload_n 0, 1) := by decide +kernel
theorem dX4_pass_30 : decode cX4_pass 30 = .ok (.getfield 10, 3) := by decide +kernel
theorem dX4_pass_33 : decode cX4_pass 33 = .ok (.iload_n 1, 1) := by decide +kernel
theorem dX4_pass_34 : decode cX4_pass 34 = .ok (.invokevirtual 116, 3) := by decide +kernel
theorem dX4_pass_37 : decode cX4_pass 37 = .ok (.ireturn, 1) := by decide +kernel
theorem dX4_mean_0 : decode cX4_mean 0 = .ok (.aload_n 0, 1) := by decide +kernel
theorem dX4_mean_1 : decode cX4_mean 1 = .ok (.getfield 10, 3) := by decide +kernel
theorem dX4_mean_4 : decode cX4_mean 4 = .ok (.iconst 0, 1) := by decide +kernel
theorem dX4_mean_5 : decode cX4_mean 5 = .ok (.aload_n 0, 1) := by decide +kernel
theorem dX4_mean_6 : decode cX4_mean 6 = .ok (.getfield 10, 3) := by decide +kernel
theorem dX4_mean_9 : decode cX4_mean 9 = .ok (.getfield 120, 3) := by decide +kernel
theorem dX4_mean_12 : decode cX4_mean 12 = .ok (.iconst 1, 1) := by decide +kernel
theorem dX4_mean_13 : decode cX4_mean 13 = .ok (.isub, 1) := by decide +kernel
theorem dX4_mean_14 : decode cX4_mean 14 = .ok (.invokevirtual 123, 3) := by decide +kernel
theorem dX4_mean_17 : decode cX4_mean 17 = .ok (.istore_n 1, 1) := by decide +kernel
theorem dX4_mean_18 : decode cX4_mean 18 = .ok (.iload_n 1, 1) := by decide +kernel
theorem dX4_mean_19 : decode cX4_mean 19 = .ok (.ifCond .ne 9, 3) := by decide +kernel
theorem dX4_mean_22 : decode cX4_mean 22 = .ok (.aload_n 0, 1) := by decide +kernel
theorem dX4_mean_23 : decode cX4_mean 23 = .ok (.iconst 4, 1) := by decide +kernel
theorem dX4_mean_24 : decode cX4_mean 24 = .ok (.invokevirtual 75, 3) := by decide +kernel
theorem dX4_mean_27 : decode cX4_mean 27 = .ok (.ireturn, 1) := by decide +kernel
theorem dX4_mean_28 : decode cX4_mean 28 = .ok (.aload_n 0, 1) := by decide +kernel
theorem dX4_mean_29 : decode cX4_mean 29 = .ok (.aload_n 0, 1) := by decide +kernel
theorem dX4_mean_30 : decode cX4_mean 30 = .ok (.getfield 10, 3) := by decide +kernel
theorem dX4_mean_33 : decode cX4_mean 33 = .ok (.invokevirtual 127, 3) := by decide +kernel
theorem dX4_mean_36 : decode cX4_mean 36 = .ok (.iload_n 1, 1) := by decide +kernel
theorem dX4_mean_37 : decode cX4_mean 37 = .ok (.invokestatic 131, 3) := by decide +kernel
theorem dX4_mean_40 : decode cX4_mean 40 = .ok (.i2l, 1) := by decide +kernel
theorem dX4_mean_41 : decode cX4_mean 41 = .ok (.invokevirtual 86, 3) := by decide +kernel
theorem dX4_mean_44 : decode cX4_mean 44 = .ok (.ireturn, 1) := by decide +kernel
theorem dX4_lift_0 : decode cX4_lift 0 = .ok (.aload_n 0, 1) := by decide +kernel
theorem dX4_lift_1 : decode cX4_lift 1 = .ok (.getfield 10, 3) := by decide +kernel
theorem dX4_lift_4 : decode cX4_lift 4 = .ok (.iload_n 1, 1) := by decide +kernel
theorem dX4_lift_5 : decode cX4_lift 5 = .ok (.invokevirtual 60, 3) := by decide +kernel
theorem dX4_lift_8 : decode cX4_lift 8 = .ok (.ifCond .eq 32, 3) := by decide +kernel
theorem dX4_lift_11 : decode cX4_lift 11 = .ok (.aload_n 0, 1) := by decide +kernel
theorem dX4_lift_12 : decode cX4_lift 12 = .ok (.getfield 10, 3) := by decide +kernel
theorem dX4_lift_15 : decode cX4_lift 15 = .ok (.iload_n 2, 1) := by decide +kernel
theorem dX4_lift_16 : decode cX4_lift 16 = .ok (.invokevirtual 60, 3) := by decide +kernel
theorem dX4_lift_19 : decode cX4_lift 19 = .ok (.ifCond .eq 21, 3) := by decide +kernel
theorem dX4_lift_22 : decode cX4_lift 22 = .ok (.iload_n 1, 1) := by decide +kernel
theorem dX4_lift_23 : decode cX4_lift 23 = .ok (.iload_n 2, 1) := by decide +kernel
theorem dX4_lift_24 : decode cX4_lift 24 = .ok (.if_icmp .gt 16, 3) := by decide +kernel
theorem dX4_lift_27 : decode cX4_lift 27 = .ok (.iload_n 3, 1) := by decide +kernel
theorem dX4_lift_28 : decode cX4_lift 28 = .ok (.sipush (-10000), 3) := by decide +kernel
theorem dX4_lift_31 : decode cX4_lift 31 = .ok (.sipush 10000, 3) := by decide +kernel
theorem dX4_lift_34 : decode cX4_lift 34 = .ok (.invokestatic 52, 3) := by decide +kernel
theorem dX4_lift_37 : decode cX4_lift 37 = .ok (.ifCond .ne 5, 3) := by decide +kernel
theorem dX4_lift_40 : decode cX4_lift 40 = .ok (.iconst (-1), 1) := by decide +kernel
theorem dX4_lift_41 : decode cX4_lift 41 = .ok (.ireturn, 1) := by decide +kernel
theorem dX4_lift_42 : decode cX4_lift 42 = .ok (.iconst 0, 1) := by decide +kernel
theorem dX4_lift_43 : decode cX4_lift 43 = .ok (.istore 4, 2) := by decide +kernel
theorem dX4_lift_45 : decode cX4_lift 45 = .ok (.iload_n 1, 1) := by decide +kernel
theorem dX4_lift_46 : decode cX4_lift 46 = .ok (.istore 5, 2) := by decide +kernel
theorem dX4_lift_48 : decode cX4_lift 48 = .ok (.iload 5, 2) := by decide +kernel
theorem dX4_lift_50 : decode cX4_lift 50 = .ok (.iload_n 2, 1) := by decide +kernel
theorem dX4_lift_51 : decode cX4_lift 51 = .ok (.if_icmp .gt 25, 3) := by decide +kernel
theorem dX4_lift_54 : decode cX4_lift 54 = .ok (.aload_n 0, 1) := by decide +kernel
theorem dX4_lift_55 : decode cX4_lift 55 = .ok (.getfield 10, 3) := by decide +kernel
theorem dX4_lift_58 : decode cX4_lift 58 = .ok (.iload 5, 2) := by decide +kernel
theorem dX4_lift_60 : decode cX4_lift 60 = .ok (.iload_n 3, 1) := by decide +kernel
theorem dX4_lift_61 : decode cX4_lift 61 = .ok (.invokevirtual 134, 3) := by decide +kernel
theorem dX4_lift_64 : decode cX4_lift 64 = .ok (.ifCond .eq 6, 3) := by decide +kernel
theorem dX4_lift_67 : decode cX4_lift 67 = .ok (.iinc 4 1, 3) := by decide +kernel
theorem dX4_lift_70 : decode cX4_lift 70 = .ok (.iinc 5 1, 3) := by decide +kernel
theorem dX4_lift_73 : decode cX4_lift 73 = .ok (.goto (-25), 3) := by decide +kernel
theorem dX4_lift_76 : decode cX4_lift 76 = .ok (.iload 4, 2) := by decide +kernel
theorem dX4_lift_78 : decode cX4_lift 78 = .ok (.ireturn, 1) := by decide +kernel
theorem dX4_measure_0 : decode cX4_measure 0 = .ok (.iload_n 1, 1) := by decide +kernel
theorem dX4_measure_1 : decode cX4_measure 1 = .ok (.invokestatic 137, 3) := by decide +kernel
theorem dX4_measure_4 : decode cX4_measure 4 = .ok (.ifCond .eq 12, 3) := by decide +kernel
theorem dX4_measure_7 : decode cX4_measure 7 = .ok (.iload_n 2, 1) := by decide +kernel
theorem dX4_measure_8 : decode cX4_measure 8 = .ok (.iconst 1, 1) := by decide +kernel
theorem dX4_measure_9 : decode cX4_measure 9 = .ok (.iconst 4, 1) := by decide +kernel
theorem dX4_measure_10 : decode cX4_measure 10 = .ok (.invokestatic 52, 3) := by decide +kernel
theorem dX4_measure_13 : decode cX4_measure 13 = .ok (.ifCond .ne 5, 3) := by decide +kernel
theorem dX4_measure_16 : decode cX4_measure 16 = .ok (.iconst (-1), 1) := by decide +kernel
theorem dX4_measure_17 : decode cX4_measure 17 = .ok (.ireturn, 1) := by decide +kernel
theorem dX4_measure_18 : decode cX4_measure 18 = .ok (.aload_n 0, 1) := by decide +kernel
theorem dX4_measure_19 : decode cX4_measure 19 = .ok (.getfield 26, 3) := by decide +kernel
theorem dX4_measure_22 : decode cX4_measure 22 = .ok (.iload_n 1, 1) := by decide +kernel
theorem dX4_measure_23 : decode cX4_measure 23 = .ok (.invokevirtual 140, 3) := by decide +kernel
theorem dX4_measure_26 : decode cX4_measure 26 = .ok (.istore_n 3, 1) := by decide +kernel
theorem dX4_measure_27 : decode cX4_measure 27 = .ok (.iconst 0, 1) := by decide +kernel
theorem dX4_measure_28 : decode cX4_measure 28 = .ok (.istore 4, 2) := by decide +kernel
theorem dX4_measure_30 : decode cX4_measure 30 = .ok (.iload 4, 2) := by decide +kernel
theorem dX4_measure_32 : decode cX4_measure 32 = .ok (.bipush 40, 2) := by decide +kernel
theorem dX4_measure_34 : decode cX4_measure 34 = .ok (.if_icmp .ge 31, 3) := by decide +kernel
theorem dX4_measure_37 : decode cX4_measure 37 = .ok (.aload_n 0, 1) := by decide +kernel
theorem dX4_measure_38 : decode cX4_measure 38 = .ok (.getfield 26, 3) := by decide +kernel
theorem dX4_measure_41 : decode cX4_measure 41 = .ok (.getfield 143, 3) := by decide +kernel
theorem dX4_measure_44 : decode cX4_measure 44 = .ok (.iload_n 1, 1) := by decide +kernel
theorem dX4_measure_45 : decode cX4_measure 45 = .ok (.aaload, 1) := by decide +kernel
theorem dX4_measure_46 : decode cX4_measure 46 = .ok (.iload 4, 2) := by decide +kernel
theorem dX4_measure_48 : decode cX4_measure 48 = .ok (.aload_n 0, 1) := by decide +kernel
theorem dX4_measure_49 : decode cX4_measure 49 = .ok (.getfield 10, 3) := by decide +kernel
theorem dX4_measure_52 : decode cX4_measure 52 = .ok (.iload 4, 2) := by decide +kernel
theorem dX4_measure_54 : decode cX4_measure 54 = .ok (.iload_n 2, 1) := by decide +kernel
theorem dX4_measure_55 : decode cX4_measure 55 = .ok (.invokevirtual 147, 3) := by decide +kernel
theorem dX4_measure_58 : decode cX4_measure 58 = .ok (.iastore, 1) := by decide +kernel
theorem dX4_measure_59 : decode cX4_measure 59 = .ok (.iinc 4 1, 3) := by decide +kernel
theorem dX4_measure_62 : decode cX4_measure 62 = .ok (.goto (-32), 3) := by decide +kernel
theorem dX4_measure_65 : decode cX4_measure 65 = .ok (.iload_n 3, 1) := by decide +kernel
theorem dX4_measure_66 : decode cX4_measure 66 = .ok (.ireturn, 1) := by decide +kernel
theorem dX4_level_0 : decode cX4_level 0 = .ok (.iload_n 1, 1) := by decide +kernel
theorem dX4_level_1 : decode cX4_level 1 = .ok (.invokestatic 137, 3) := by decide +kernel
theorem dX4_level_4 : decode cX4_level 4 = .ok (.ifCond .ne 5, 3) := by decide +kernel
theorem dX4_level_7 : decode cX4_level 7 = .ok (.iconst (-1), 1) := by decide +kernel
theorem dX4_level_8 : decode cX4_level 8 = .ok (.ireturn, 1) := by decide +kernel
theorem dX4_level_9 : decode cX4_level 9 = .ok (.aload_n 0, 1) := by decide +kernel
theorem dX4_level_10 : decode cX4_level 10 = .ok (.getfield 26, 3) := by decide +kernel
theorem dX4_level_13 : decode cX4_level 13 = .ok (.iload_n 1, 1) := by decide +kernel
theorem dX4_level_14 : decode cX4_level 14 = .ok (.invokevirtual 140, 3) := by decide +kernel
theorem dX4_level_17 : decode cX4_level 17 = .ok (.istore_n 2, 1) := by decide +kernel
theorem dX4_level_18 : decode cX4_level 18 = .ok (.iconst 0, 1) := by decide +kernel
theorem dX4_level_19 : decode cX4_level 19 = .ok (.istore_n 3, 1) := by decide +kernel
theorem dX4_level_20 : decode cX4_level 20 = .ok (.iload_n 3, 1) := by decide +kernel
theorem dX4_level_21 : decode cX4_level 21 = .ok (.bipush 40, 2) := by decide +kernel
theorem dX4_level_23 : decode cX4_level 23 = .ok (.if_icmp .ge 43, 3) := by decide +kernel
theorem dX4_level_26 : decode cX4_level 26 = .ok (.aload_n 0, 1) := by decide +kernel
theorem dX4_level_27 : decode cX4_level 27 = .ok (.getfield 26, 3) := by decide +kernel
theorem dX4_level_30 : decode cX4_level 30 = .ok (.getfield 143, 3) := by decide +kernel
theorem dX4_level_33 : decode cX4_level 33 = .ok (.iload_n 1, 1) := by decide +kernel
theorem dX4_level_34 : decode cX4_level 34 = .ok (.aaload, 1) := by decide +kernel
theorem dX4_level_35 : decode cX4_level 35 = .ok (.iload_n 3, 1) := by decide +kernel
theorem dX4_level_36 : decode cX4_level 36 = .ok (.aload_n 0, 1) := by decide +kernel
theorem dX4_level_37 : decode cX4_level 37 = .ok (.getfield 10, 3) := by decide +kernel
theorem dX4_level_40 : decode cX4_level 40 = .ok (.iload_n 3, 1) := by decide +kernel
theorem dX4_level_41 : decode cX4_level 41 = .ok (.invokevirtual 60, 3) := by decide +kernel
theorem dX4_level_44 : decode cX4_level 44 = .ok (.ifCond .eq 14, 3) := by decide +kernel
theorem dX4_level_47 : decode cX4_level 47 = .ok (.aload_n 0, 1) := by decide +kernel
theorem dX4_level_48 : decode cX4_level 48 = .ok (.getfield 10, 3) := by decide +kernel
theorem dX4_level_51 : decode cX4_level 51 = .ok (.iload_n 3, 1) := by decide +kernel
theorem dX4_level_52 : decode cX4_level 52 = .ok (.invokevirtual 103, 3) := by decide +kernel
theorem dX4_level_55 : decode cX4_level 55 = .ok (.goto 4, 3) := by decide +kernel
theorem dX4_level_58 : decode cX4_level 58 = .ok (.iconst 0, 1) := by decide +kernel
theorem dX4_level_59 : decode cX4_level 59 = .ok (.iastore, 1) := by decide +kernel
theorem dX4_level_60 : decode cX4_level 60 = .ok (.iinc 3 1, 3) := by decide +kernel
theorem dX4_level_63 : decode cX4_level 63 = .ok (.goto (-43), 3) := by decide +kernel
theorem dX4_level_66 : decode cX4_level 66 = .ok (.iload_n 2, 1) := by decide +kernel
theorem dX4_level_67 : decode cX4_level 67 = .ok (.ireturn, 1) := by decide +kernel
theorem dX4_lay_0 : decode cX4_lay 0 = .ok (.iload_n 1, 1) := by decide +kernel
theorem dX4_lay_1 : decode cX4_lay 1 = .ok (.invokestatic 137, 3) := by decide +kernel
theorem dX4_lay_4 : decode cX4_lay 4 = .ok (.ifCond .eq 14, 3) := by decide +kernel
theorem dX4_lay_7 : decode cX4_lay 7 = .ok (.iload_n 3, 1) := by decide +kernel
theorem dX4_lay_8 : decode cX4_lay 8 = .ok (.ldc 150, 2) := by decide +kernel
theorem dX4_lay_10 : decode cX4_lay 10 = .ok (.ldc 151, 2) := by decide +kernel
theorem dX4_lay_12 : decode cX4_lay 12 = .ok (.invokestatic 52, 3) := by decide +kernel
theorem dX4_lay_15 : decode cX4_lay 15 = .ok (.ifCond .ne 5, 3) := by decide +kernel
theorem dX4_lay_18 : decode cX4_lay 18 = .ok (.iconst (-1), 1) := by decide +kernel
theorem dX4_lay_19 : decode cX4_lay 19 = .ok (.ireturn, 1) := by decide +kernel
theorem dX4_lay_20 : decode cX4_lay 20 = .ok (.aload_n 0, 1) := by decide +kernel
theorem dX4_lay_21 : decode cX4_lay 21 = .ok (.getfield 26, 3) := by decide +kernel
theorem dX4_lay_24 : decode cX4_lay 24 = .ok (.getfield 152, 3) := by decide +kernel
theorem dX4_lay_27 : decode cX4_lay 27 = .ok (.iload_n 1, 1) := by decide +kernel
theorem dX4_lay_28 : decode cX4_lay 28 = .ok (.baload, 1) := by decide +kernel
theorem dX4_lay_29 : decode cX4_lay 29 = .ok (.ifCond .ne 9, 3) := by decide +kernel
theorem dX4_lay_32 : decode cX4_lay 32 = .ok (.aload_n 0, 1) := by decide +kernel
theorem dX4_lay_33 : decode cX4_lay 33 = .ok (.iconst 1, 1) := by decide +kernel
theorem dX4_lay_34 : decode cX4_lay 34 = .ok (.invokevirtual 75, 3) := by decide +kernel
theorem dX4_lay_37 : decode cX4_lay 37 = .ok (.ireturn, 1) := by decide +kernel
theorem dX4_lay_38 : decode cX4_lay 38 = .ok (.iload_n 2, 1) := by decide +kernel
theorem dX4_lay_39 : decode cX4_lay 39 = .ok (.iconst 0, 1) := by decide +kernel
theorem dX4_lay_40 : decode cX4_lay 40 = .ok (.bipush 39, 2) := by decide +kernel
theorem dX4_lay_42 : decode cX4_lay 42 = .ok (.invokestatic 52, 3) := by decide +kernel
theorem dX4_lay_45 : decode cX4_lay 45 = .ok (.ifCond .ne 9, 3) := by decide +kernel
theorem dX4_lay_48 : decode cX4_lay 48 = .ok (.aload_n 0, 1) := by decide +kernel
theorem dX4_lay_49 : decode cX4_lay 49 = .ok (.iconst 2, 1) := by decide +kernel
theorem dX4_lay_50 : decode cX4_lay 50 = .ok (.invokevirtual 75, 3) := by decide +kernel
theorem dX4_lay_53 : decode cX4_lay 53 = .ok (.ireturn, 1) := by decide +kernel
theorem dX4_lay_54 : decode cX4_lay 54 = .ok (.aload_n 0, 1) := by decide +kernel
theorem dX4_lay_55 : decode cX4_lay 55 = .ok (.getfield 26, 3) := by decide +kernel
theorem dX4_lay_58 : decode cX4_lay 58 = .ok (.getfield 143, 3) := by decide +kernel
theorem dX4_lay_61 : decode cX4_lay 61 = .ok (.iload_n 1, 1) := by decide +kernel
theorem dX4_lay_62 : decode cX4_lay 62 = .ok (.aaload, 1) := by decide +kernel
theorem dX4_lay_63 : decode cX4_lay 63 = .ok (.iload_n 2, 1) := by decide +kernel
theorem dX4_lay_64 : decode cX4_lay 64 = .ok (.iaload, 1) := by decide +kernel
theorem dX4_lay_65 : decode cX4_lay 65 = .ok (.istore 4, 2) := by decide +kernel
theorem dX4_lay_67 : decode cX4_lay 67 = .ok (.aload_n 0, 1) := by decide +kernel
theorem dX4_lay_68 : decode cX4_lay 68 = .ok (.getfield 26, 3) := by decide +kernel
theorem dX4_lay_71 : decode cX4_lay 71 = .ok (.getfield 143, 3) := by decide +kernel
theorem dX4_lay_74 : decode cX4_lay 74 = .ok (.iload_n 1, 1) := by decide +kernel
theorem dX4_lay_75 : decode cX4_lay 75 = .ok (.aaload, 1) := by decide +kernel
theorem dX4_lay_76 : decode cX4_lay 76 = .ok (.iload_n 2, 1) := by decide +kernel
theorem dX4_lay_77 : decode cX4_lay 77 = .ok (.iload_n 3, 1) := by decide +kernel
theorem dX4_lay_78 : decode cX4_lay 78 = .ok (.iastore, 1) := by decide +kernel
theorem dX4_lay_79 : decode cX4_lay 79 = .ok (.aload_n 0, 1) := by decide +kernel
theorem dX4_lay_80 : decode cX4_lay 80 = .ok (.iload 4, 2) := by decide +kernel
theorem dX4_lay_82 : decode cX4_lay 82 = .ok (.i2l, 1) := by decide +kernel
theorem dX4_lay_83 : decode cX4_lay 83 = .ok (.invokevirtual 86, 3) := by decide +kernel
theorem dX4_lay_86 : decode cX4_lay 86 = .ok (.ireturn, 1) := by decide +kernel
theorem dX4_at_0 : decode cX4_at 0 = .ok (.iload_n 1, 1) := by decide +kernel
theorem dX4_at_1 : decode cX4_at 1 = .ok (.invokestatic 137, 3) := by decide +kernel
theorem dX4_at_4 : decode cX4_at 4 = .ok (.ifCond .ne 5, 3) := by decide +kernel
theorem dX4_at_7 : decode cX4_at 7 = .ok (.iconst (-1), 1) := by decide +kernel
theorem dX4_at_8 : decode cX4_at 8 = .ok (.ireturn, 1) := by decide +kernel
theorem dX4_at_9 : decode cX4_at 9 = .ok (.aload_n 0, 1) := by decide +kernel
theorem dX4_at_10 : decode cX4_at 10 = .ok (.getfield 26, 3) := by decide +kernel
theorem dX4_at_13 : decode cX4_at 13 = .ok (.getfield 152, 3) := by decide +kernel
theorem dX4_at_16 : decode cX4_at 16 = .ok (.iload_n 1, 1) := by decide +kernel
theorem dX4_at_17 : decode cX4_at 17 = .ok (.baload, 1) := by decide +kernel
theorem dX4_at_18 : decode cX4_at 18 = .ok (.ifCond .ne 9, 3) := by decide +kernel
theorem dX4_at_21 : decode cX4_at 21 = .ok (.aload_n 0, 1) := by decide +kernel
theorem dX4_at_22 : decode cX4_at 22 = .ok (.iconst 1, 1) := by decide +kernel
theorem dX4_at_23 : decode cX4_at 23 = .ok (.invokevirtual 75, 3) := by decide +kernel
theorem dX4_at_26 : decode cX4_at 26 = .ok (.ireturn, 1) := by decide +kernel
theorem dX4_at_27 : decode cX4_at 27 = .ok (.iload_n 2, 1) := by decide +kernel
theorem dX4_at_28 : decode cX4_at 28 = .ok (.iconst 0, 1) := by decide +kernel
theorem dX4_at_29 : decode cX4_at 29 = .ok (.bipush 39, 2) := by decide +kernel
theorem dX4_at_31 : decode cX4_at 31 = .ok (.invokestatic 52, 3) := by decide +kernel
theorem dX4_at_34 : decode cX4_at 34 = .ok (.ifCond .ne 9, 3) := by decide +kernel
theorem dX4_at_37 : decode cX4_at 37 = .ok (.aload_n 0, 1) := by decide +kernel
theorem dX4_at_38 : decode cX4_at 38 = .ok (.iconst 2, 1) := by decide +kernel
theorem dX4_at_39 : decode cX4_at 39 = .ok (.invokevirtual 75, 3) := by decide +kernel
theorem dX4_at_42 : decode cX4_at 42 = .ok (.ireturn, 1) := by decide +kernel
theorem dX4_at_43 : decode cX4_at 43 = .ok (.aload_n 0, 1) := by decide +kernel
theorem dX4_at_44 : decode cX4_at 44 = .ok (.aload_n 0, 1) := by decide +kernel
theorem dX4_at_45 : decode cX4_at 45 = .ok (.getfield 26, 3) := by decide +kernel
theorem dX4_at_48 : decode cX4_at 48 = .ok (.getfield 143, 3) := by decide +kernel
theorem dX4_at_51 : decode cX4_at 51 = .ok (.iload_n 1, 1) := by decide +kernel
theorem dX4_at_52 : decode cX4_at 52 = .ok (.aaload, 1) := by decide +kernel
theorem dX4_at_53 : decode cX4_at 53 = .ok (.iload_n 2, 1) := by decide +kernel
theorem dX4_at_54 : decode cX4_at 54 = .ok (.iaload, 1) := by decide +kernel
theorem dX4_at_55 : decode cX4_at 55 = .ok (.i2l, 1) := by decide +kernel
theorem dX4_at_56 : decode cX4_at 56 = .ok (.invokevirtual 86, 3) := by decide +kernel
theorem dX4_at_59 : decode cX4_at 59 = .ok (.ireturn, 1) := by decide +kernel
theorem dX4_shape_0 : decode cX4_shape 0 = .ok (.iload_n 1, 1) := by decide +kernel
theorem dX4_shape_1 : decode cX4_shape 1 = .ok (.invokestatic 137, 3) := by decide +kernel
theorem dX4_shape_4 : decode cX4_shape 4 = .ok (.ifCond .eq 29, 3) := by decide +kernel
theorem dX4_shape_7 : decode cX4_shape 7 = .ok (.iload_n 2, 1) := by decide +kernel
theorem dX4_shape_8 : decode cX4_shape 8 = .ok (.sipush (-10000), 3) := by decide +kernel
theorem dX4_shape_11 : decode cX4_shape 11 = .ok (.sipush 10000, 3) := by decide +kernel
theorem dX4_shape_14 : decode cX4_shape 14 = .ok (.invokestatic 52, 3) := by decide +kernel
theorem dX4_shape_17 : decode cX4_shape 17 = .ok (.ifCond .eq 16, 3) := by decide +kernel
theorem dX4_shape_20 : decode cX4_shape 20 = .ok (.iload_n 3, 1) := by decide +kernel
theorem dX4_shape_21 : decode cX4_shape 21 = .ok (.sipush (-10000), 3) := by decide +kernel
theorem dX4_shape_24 : decode cX4_shape 24 = .ok (.sipush 10000, 3) := by decide +kernel
theorem dX4_shape_27 : decode cX4_shape 27 = .ok (.invokestatic 52, 3) := by decide +kernel
theorem dX4_shape_30 : decode cX4_shape 30 = .ok (.ifCond .ne 5, 3) := by decide +kernel
theorem dX4_shape_33 : decode cX4_shape 33 = .ok (.iconst (-1), 1) := by decide +kernel
theorem dX4_shape_34 : decode cX4_shape 34 = .ok (.ireturn, 1) := by decide +kernel
theorem dX4_shape_35 : decode cX4_shape 35 = .ok (.aload_n 0, 1) := by decide +kernel
theorem dX4_shape_36 : decode cX4_shape 36 = .ok (.getfield 26, 3) := by decide +kernel
theorem dX4_shape_39 : decode cX4_shape 39 = .ok (.getfield 152, 3) := by decide +kernel
theorem dX4_shape_42 : decode cX4_shape 42 = .ok (.iload_n 1, 1) := by decide +kernel
theorem dX4_shape_43 : decode cX4_shape 43 = .ok (.baload, 1) := by decide +kernel
theorem dX4_shape_44 : decode cX4_shape 44 = .ok (.ifCond .ne 9, 3) := by decide +kernel
theorem dX4_shape_47 : decode cX4_shape 47 = .ok (.aload_n 0, 1) := by decide +kernel
theorem dX4_shape_48 : decode cX4_shape 48 = .ok (.iconst 1, 1) := by decide +kernel
theorem dX4_shape_49 : decode cX4_shape 49 = .ok (.invokevirtual 75, 3) := by decide +kernel
theorem dX4_shape_52 : decode cX4_shape 52 = .ok (.ireturn, 1) := by decide +kernel
theorem dX4_shape_53 : decode cX4_shape 53 = .ok (.aload_n 0, 1) := by decide +kernel
theorem dX4_shape_54 : decode cX4_shape 54 = .ok (.getfield 26, 3) := by decide +kernel
theorem dX4_shape_57 : decode cX4_shape 57 = .ok (.iload_n 1, 1) := by decide +kernel
theorem dX4_shape_58 : decode cX4_shape 58 = .ok (.iload_n 2, 1) := by decide +kernel
theorem dX4_shape_59 : decode cX4_shape 59 = .ok (.iload_n 3, 1) := by decide +kernel
theorem dX4_shape_60 : decode cX4_shape 60 = .ok (.aload_n 0, 1) := by decide +kernel
theorem dX4_shape_61 : decode cX4_shape 61 = .ok (.getfield 10, 3) := by decide +kernel
theorem dX4_shape_64 : decode cX4_shape 64 = .ok (.getfield 120, 3) := by decide +kernel
theorem dX4_shape_67 : decode cX4_shape 67 = .ok (.invokevirtual 155, 3) := by decide +kernel
theorem dX4_shape_70 : decode cX4_shape 70 = .ok (.iconst 1, 1) := by decide +kernel
theorem dX4_shape_71 : decode cX4_shape 71 = .ok (.ireturn, 1) := by decide +kernel
theorem dX4_tear_0 : decode cX4_tear 0 = .ok (.iload_n 1, 1) := by decide +kernel
theorem dX4_tear_1 : decode cX4_tear 1 = .ok (.invokestatic 137, 3) := by decide +kernel
theorem dX4_tear_4 : decode cX4_tear 4 = .ok (.ifCond .ne 5, 3) := by decide +kernel
theorem dX4_tear_7 : decode cX4_tear 7 = .ok (.iconst (-1), 1) := by decide +kernel
theorem dX4_tear_8 : decode cX4_tear 8 = .ok (.ireturn, 1) := by decide +kernel
theorem dX4_tear_9 : decode cX4_tear 9 = .ok (.aload_n 0, 1) := by decide +kernel
theorem dX4_tear_10 : decode cX4_tear 10 = .ok (.getfield 26, 3) := by decide +kernel
theorem dX4_tear_13 : decode cX4_tear 13 = .ok (.getfield 152, 3) := by decide +kernel
theorem dX4_tear_16 : decode cX4_tear 16 = .ok (.iload_n 1, 1) := by decide +kernel
theorem dX4_tear_17 : decode cX4_tear 17 = .ok (.baload, 1) := by decide +kernel
theorem dX4_tear_18 : decode cX4_tear 18 = .ok (.ifCond .ne 9, 3) := by decide +kernel
theorem dX4_tear_21 : decode cX4_tear 21 = .ok (.aload_n 0, 1) := by decide +kernel
theorem dX4_tear_22 : decode cX4_tear 22 = .ok (.iconst 1, 1) := by decide +kernel
theorem dX4_tear_23 : decode cX4_tear 23 = .ok (.invokevirtual 75, 3) := by decide +kernel
theorem dX4_tear_26 : decode cX4_tear 26 = .ok (.ireturn, 1) := by decide +kernel
theorem dX4_tear_27 : decode cX4_tear 27 = .ok (.aload_n 0, 1) := by decide +kernel
theorem dX4_tear_28 : decode cX4_tear 28 = .ok (.getfield 26, 3) := by decide +kernel
theorem dX4_tear_31 : decode cX4_tear 31 = .ok (.getfield 152, 3) := by decide +kernel
theorem dX4_tear_34 : decode cX4_tear 34 = .ok (.iload_n 1, 1) := by decide +kernel
theorem dX4_tear_35 : decode cX4_tear 35 = .ok (.iconst 0, 1) := by decide +kernel
theorem dX4_tear_36 : decode cX4_tear 36 = .ok (.bastore, 1) := by decide +kernel
theorem dX4_tear_37 : decode cX4_tear 37 = .ok (.iconst 1, 1) := by decide +kernel
theorem dX4_tear_38 : decode cX4_tear 38 = .ok (.ireturn, 1) := by decide +kernel
theorem dX4_copy_0 : decode cX4_copy 0 = .ok (.iload_n 1, 1) := by decide +kernel
theorem dX4_copy_1 : decode cX4_copy 1 = .ok (.invokestatic 137, 3) := by decide +kernel
theorem dX4_copy_4 : decode cX4_copy 4 = .ok (.ifCond .eq 10, 3) := by decide +kernel
theorem dX4_copy_7 : decode cX4_copy 7 = .ok (.iload_n 3, 1) := by decide +kernel
theorem dX4_copy_8 : decode cX4_copy 8 = .ok (.invokestatic 137, 3) := by decide +kernel
theorem dX4_copy_11 : decode cX4_copy 11 = .ok (.ifCond .ne 5, 3) := by decide +kernel
theorem dX4_copy_14 : decode cX4_copy 14 = .ok (.iconst (-1), 1) := by decide +kernel
theorem dX4_copy_15 : decode cX4_copy 15 = .ok (.ireturn, 1) := by decide +kernel
theorem dX4_copy_16 : decode cX4_copy 16 = .ok (.iload 5, 2) := by decide +kernel
theorem dX4_copy_18 : decode cX4_copy 18 = .ok (.ifCond .ge 9, 3) := by decide +kernel
theorem dX4_copy_21 : decode cX4_copy 21 = .ok (.aload_n 0, 1) := by decide +kernel
theorem dX4_copy_22 : decode cX4_copy 22 = .ok (.iconst 5, 1) := by decide +kernel
theorem dX4_copy_23 : decode cX4_copy 23 = .ok (.invokevirtual 75, 3) := by decide +kernel
theorem dX4_copy_26 : decode cX4_copy 26 = .ok (.ireturn, 1) := by decide +kernel
theorem dX4_copy_27 : decode cX4_copy 27 = .ok (.aload_n 0, 1) := by decide +kernel
theorem dX4_copy_28 : decode cX4_copy 28 = .ok (.getfield 26, 3) := by decide +kernel
theorem dX4_copy_31 : decode cX4_copy 31 = .ok (.getfield 152, 3) := by decide +kernel
theorem dX4_copy_34 : decode cX4_copy 34 = .ok (.iload_n 1, 1) := by decide +kernel
theorem dX4_copy_35 : decode cX4_copy 35 = .ok (.baload, 1) := by decide +kernel
theorem dX4_copy_36 : decode cX4_copy 36 = .ok (.ifCond .eq 15, 3) := by decide +kernel
theorem dX4_copy_39 : decode cX4_copy 39 = .ok (.aload_n 0, 1) := by decide +kernel
theorem dX4_copy_40 : decode cX4_copy 40 = .ok (.getfield 26, 3) := by decide +kernel
theorem dX4_copy_43 : decode cX4_copy 43 = .ok (.getfield 152, 3) := by decide +kernel
theorem dX4_copy_46 : decode cX4_copy 46 = .ok (.iload_n 3, 1) := by decide +kernel
theorem dX4_copy_47 : decode cX4_copy 47 = .ok (.baload, 1) := by decide +kernel
theorem dX4_copy_48 : decode cX4_copy 48 = .ok (.ifCond .ne 9, 3) := by decide +kernel
theorem dX4_copy_51 : decode cX4_copy 51 = .ok (.aload_n 0, 1) := by decide +kernel
theorem dX4_copy_52 : decode cX4_copy 52 = .ok (.iconst 1, 1) := by decide +kernel
theorem dX4_copy_53 : decode cX4_copy 53 = .ok (.invokevirtual 75, 3) := by decide +kernel
theorem dX4_copy_56 : decode cX4_copy 56 = .ok (.ireturn, 1) := by decide +kernel
theorem dX4_copy_57 : decode cX4_copy 57 = .ok (.iload_n 2, 1) := by decide +kernel
theorem dX4_copy_58 : decode cX4_copy 58 = .ok (.iload 5, 2) := by decide +kernel
theorem dX4_copy_60 : decode cX4_copy 60 = .ok (.invokestatic 159, 3) := by decide +kernel
theorem dX4_copy_63 : decode cX4_copy 63 = .ok (.ifCond .eq 13, 3) := by decide +kernel
theorem dX4_copy_66 : decode cX4_copy 66 = .ok (.iload 4, 2) := by decide +kernel
theorem dX4_copy_68 : decode cX4_copy 68 = .ok (.iload 5, 2) := by decide +kernel
theorem dX4_copy_70 : decode cX4_copy 70 = .ok (.invokestatic 159, 3) := by decide +kernel
theorem dX4_copy_73 : decode cX4_copy 73 = .ok (.ifCond .ne 9, 3) := by decide +kernel
theorem dX4_copy_76 : decode cX4_copy 76 = .ok (.aload_n 0, 1) := by decide +kernel
theorem dX4_copy_77 : decode cX4_copy 77 = .ok (.iconst 2, 1) := by decide +kernel
theorem dX4_copy_78 : decode cX4_copy 78 = .ok (.invokevirtual 75, 3) := by decide +kernel
theorem dX4_copy_81 : decode cX4_copy 81 = .ok (.ireturn, 1) := by decide +kernel
theorem dX4_copy_82 : decode cX4_copy 82 = .ok (.aload_n 0, 1) := by decide +kernel
theorem dX4_copy_83 : decode cX4_copy 83 = .ok (.getfield 26, 3) := by decide +kernel
theorem dX4_copy_86 : decode cX4_copy 86 = .ok (.getfield 143, 3) := by decide +kernel
theorem dX4_copy_89 : decode cX4_copy 89 = .ok (.iload_n 1, 1) := by decide +kernel
theorem dX4_copy_90 : decode cX4_copy 90 = .ok (.aaload, 1) := by decide +kernel
theorem dX4_copy_91 : decode cX4_copy 91 = .ok (.iload_n 2, 1) := by decide +kernel
theorem dX4_copy_92 : decode cX4_copy 92 = .ok (.aload_n 0, 1) := by decide +kernel
theorem dX4_copy_93 : decode cX4_copy 93 = .ok (.getfield 26, 3) := by decide +kernel
theorem dX4_copy_96 : decode cX4_copy 96 = .ok (.getfield 143, 3) := by decide +kernel
theorem dX4_copy_99 : decode cX4_copy 99 = .ok (.iload_n 3, 1) := by decide +kernel
theorem dX4_copy_100 : decode cX4_copy 100 = .ok (.aaload, 1) := by decide +kernel
theorem dX4_copy_101 : decode cX4_copy 101 = .ok (.iload 4, 2) := by decide +kernel
theorem dX4_copy_103 : decode cX4_copy 103 = .ok (.iload 5, 2) := by decide +kernel
theorem dX4_copy_105 : decode cX4_copy 105 = .ok (.invokestatic 162, 3) := by decide +kernel
theorem dX4_copy_108 : decode cX4_copy 108 = .ok (.iconst 1, 1) := by decide +kernel
theorem dX4_copy_109 : decode cX4_copy 109 = .ok (.ireturn, 1) := by decide +kernel
theorem dX4_fit_0 : decode cX4_fit 0 = .ok (.iload_n 1, 1) := by decide +kernel
theorem dX4_fit_1 : decode cX4_fit 1 = .ok (.invokestatic 137, 3) := by decide +kernel
theorem dX4_fit_4 : decode cX4_fit 4 = .ok (.ifCond .eq 10, 3) := by decide +kernel
theorem dX4_fit_7 : decode cX4_fit 7 = .ok (.iload_n 2, 1) := by decide +kernel
theorem dX4_fit_8 : decode cX4_fit 8 = .ok (.invokestatic 137, 3) := by decide +kernel
theorem dX4_fit_11 : decode cX4_fit 11 = .ok (.ifCond .ne 5, 3) := by decide +kernel
theorem dX4_fit_14 : decode cX4_fit 14 = .ok (.iconst (-1), 1) := by decide +kernel
theorem dX4_fit_15 : decode cX4_fit 15 = .ok (.ireturn, 1) := by decide +kernel
theorem dX4_fit_16 : decode cX4_fit 16 = .ok (.aload_n 0, 1) := by decide +kernel
theorem dX4_fit_17 : decode cX4_fit 17 = .ok (.getfield 10, 3) := by decide +kernel
theorem dX4_fit_20 : decode cX4_fit 20 = .ok (.getfield 120, 3) := by decide +kernel
theorem dX4_fit_23 : decode cX4_fit 23 = .ok (.bipush 11, 2) := by decide +kernel
theorem dX4_fit_25 : decode cX4_fit 25 = .ok (.if_icmp .ge 6, 3) := by decide +kernel
theorem dX4_fit_28 : decode cX4_fit 28 = .ok (.bipush (-4), 2) := by decide +kernel
theorem dX4_fit_30 : decode cX4_fit 30 = .ok (.ireturn, 1) := by decide +kernel
theorem dX4_fit_31 : decode cX4_fit 31 = .ok (.aload_n 0, 1) := by decide +kernel
theorem dX4_fit_32 : decode cX4_fit 32 = .ok (.getfield 26, 3) := by decide +kernel
theorem dX4_fit_35 : decode cX4_fit 35 = .ok (.getfield 152, 3) := by decide +kernel
theorem dX4_fit_38 : decode cX4_fit 38 = .ok (.iload_n 1, 1) := by decide +kernel
theorem dX4_fit_39 : decode cX4_fit 39 = .ok (.baload, 1) := by decide +kernel
theorem dX4_fit_40 : decode cX4_fit 40 = .ok (.ifCond .eq 15, 3) := by decide +kernel
theorem dX4_fit_43 : decode cX4_fit 43 = .ok (.aload_n 0, 1) := by decide +kernel
theorem dX4_fit_44 : decode cX4_fit 44 = .ok (.getfield 26, 3) := by decide +kernel
theorem dX4_fit_47 : decode cX4_fit 47 = .ok (.getfield 152, 3) := by decide +kernel
theorem dX4_fit_50 : decode cX4_fit 50 = .ok (.iload_n 2, 1) := by decide +kernel
theorem dX4_fit_51 : decode cX4_fit 51 = .ok (.baload, 1) := by decide +kernel
theorem dX4_fit_52 : decode cX4_fit 52 = .ok (.ifCond .ne 9, 3) := by decide +kernel
theorem dX4_fit_55 : decode cX4_fit 55 = .ok (.aload_n 0, 1) := by decide +kernel
theorem dX4_fit_56 : decode cX4_fit 56 = .ok (.iconst 1, 1) := by decide +kernel
theorem dX4_fit_57 : decode cX4_fit 57 = .ok (.invokevirtual 75, 3) := by decide +kernel
theorem dX4_fit_60 : decode cX4_fit 60 = .ok (.ireturn, 1) := by decide +kernel
theorem dX4_fit_61 : decode cX4_fit 61 = .ok (.aload_n 0, 1) := by decide +kernel
theorem dX4_fit_62 : decode cX4_fit 62 = .ok (.getfield 26, 3) := by decide +kernel
theorem dX4_fit_65 : decode cX4_fit 65 = .ok (.iload_n 1, 1) := by decide +kernel
theorem dX4_fit_66 : decode cX4_fit 66 = .ok (.iload_n 2, 1) := by decide +kernel
theorem dX4_fit_67 : decode cX4_fit 67 = .ok (.aload_n 0, 1) := by decide +kernel
theorem dX4_fit_68 : decode cX4_fit 68 = .ok (.getfield 10, 3) := by decide +kernel
theorem dX4_fit_71 : decode cX4_fit 71 = .ok (.getfield 120, 3) := by decide +kernel
theorem dX4_fit_74 : decode cX4_fit 74 = .ok (.invokevirtual 168, 3) := by decide +kernel
theorem dX4_fit_77 : decode cX4_fit 77 = .ok (.istore_n 3, 1) := by decide +kernel
theorem dX4_fit_78 : decode cX4_fit 78 = .ok (.aload_n 0, 1) := by decide +kernel
theorem dX4_fit_79 : decode cX4_fit 79 = .ok (.aload_n 0, 1) := by decide +kernel
theorem dX4_fit_80 : decode cX4_fit 80 = .ok (.getfield 26, 3) := by decide +kernel
theorem dX4_fit_83 : decode cX4_fit 83 = .ok (.iload_n 1, 1) := by decide +kernel
theorem dX4_fit_84 : decode cX4_fit 84 = .ok (.iload_n 2, 1) := by decide +kernel
theorem dX4_fit_85 : decode cX4_fit 85 = .ok (.iload_n 3, 1) := by decide +kernel
theorem dX4_fit_86 : decode cX4_fit 86 = .ok (.aload_n 0, 1) := by decide +kernel
theorem dX4_fit_87 : decode cX4_fit 87 = .ok (.getfield 10, 3) := by decide +kernel
theorem dX4_fit_90 : decode cX4_fit 90 = .ok (.getfield 120, 3) := by decide +kernel
theorem dX4_fit_93 : decode cX4_fit 93 = .ok (.invokevirtual 172, 3) := by decide +kernel
theorem dX4_fit_96 : decode cX4_fit 96 = .ok (.invokevirtual 86, 3) := by decide +kernel
theorem dX4_fit_99 : decode cX4_fit 99 = .ok (.pop, 1) := by decide +kernel
theorem dX4_fit_100 : decode cX4_fit 100 = .ok (.bipush 100, 2) := by decide +kernel
theorem dX4_fit_102 : decode cX4_fit 102 = .ok (.iload_n 3, 1) := by decide +kernel
theorem dX4_fit_103 : decode cX4_fit 103 = .ok (.iadd, 1) := by decide +kernel
theorem dX4_fit_104 : decode cX4_fit 104 = .ok (.ireturn, 1) := by decide +kernel
theorem dX4_worst_0 : decode cX4_worst 0 = .ok (.iload_n 1, 1) := by decide +kernel
theorem dX4_worst_1 : decode cX4_worst 1 = .ok (.invokestatic 137, 3) := by decide +kernel
theorem dX4_worst_4 : decode cX4_worst 4 = .ok (.ifCond .ne 5, 3) := by decide +kernel
theorem dX4_worst_7 : decode cX4_worst 7 = .ok (.iconst (-1), 1) := by decide +kernel
theorem dX4_worst_8 : decode cX4_worst 8 = .ok (.ireturn, 1) := by decide +kernel
theorem dX4_worst_9 : decode cX4_worst 9 = .ok (.aload_n 0, 1) := by decide +kernel
theorem dX4_worst_10 : decode cX4_worst 10 = .ok (.getfield 26, 3) := by decide +kernel
theorem dX4_worst_13 : decode cX4_worst 13 = .ok (.getfield 152, 3) := by decide +kernel
theorem dX4_worst_16 : decode cX4_worst 16 = .ok (.iload_n 1, 1) := by decide +kernel
theorem dX4_worst_17 : decode cX4_worst 17 = .ok (.baload, 1) := by decide +kernel
theorem dX4_worst_18 : decode cX4_worst 18 = .ok (.ifCond .ne 9, 3) := by decide +kernel
theorem dX4_worst_21 : decode cX4_worst 21 = .ok (.aload_n 0, 1) := by decide +kernel
theorem dX4_worst_22 : decode cX4_worst 22 = .ok (.iconst 1, 1) := by decide +kernel
theorem dX4_worst_23 : decode cX4_worst 23 = .ok (.invokevirtual 75, 3) := by decide +kernel
theorem dX4_worst_26 : decode cX4_worst 26 = .ok (.ireturn, 1) := by decide +kernel
theorem dX4_worst_27 : decode cX4_worst 27 = .ok (.aload_n 0, 1) := by decide +kernel
theorem dX4_worst_28 : decode cX4_worst 28 = .ok (.getfield 26, 3) := by decide +kernel
theorem dX4_worst_31 : decode cX4_worst 31 = .ok (.iload_n 1, 1) := by decide +kernel
theorem dX4_worst_32 : decode cX4_worst 32 = .ok (.aload_n 0, 1) := by decide +kernel
theorem dX4_worst_33 : decode cX4_worst 33 = .ok (.getfield 10, 3) := by decide +kernel
theorem dX4_worst_36 : decode cX4_worst 36 = .ok (.getfield 120, 3) := by decide +kernel
theorem dX4_worst_39 : decode cX4_worst 39 = .ok (.invokevirtual 176, 3) := by decide +kernel
theorem dX4_worst_42 : decode cX4_worst 42 = .ok (.istore_n 2, 1) := by decide +kernel
theorem dX4_worst_43 : decode cX4_worst 43 = .ok (.aload_n 0, 1) := by decide +kernel
theorem dX4_worst_44 : decode cX4_worst 44 = .ok (.aload_n 0, 1) := by decide +kernel
theorem dX4_worst_45 : decode cX4_worst 45 = .ok (.getfield 26, 3) := by decide +kernel
theorem dX4_worst_48 : decode cX4_worst 48 = .ok (.iload_n 1, 1) := by decide +kernel
theorem dX4_worst_49 : decode cX4_worst 49 = .ok (.iload_n 2, 1) := by decide +kernel
theorem dX4_worst_50 : decode cX4_worst 50 = .ok (.invokevirtual 179, 3) := by decide +kernel
theorem dX4_worst_53 : decode cX4_worst 53 = .ok (.invokevirtual 86, 3) := by decide +kernel
theorem dX4_worst_56 : decode cX4_worst 56 = .ok (.pop, 1) := by decide +kernel
theorem dX4_worst_57 : decode cX4_worst 57 = .ok (.iload_n 2, 1) := by decide +kernel
theorem dX4_worst_58 : decode cX4_worst 58 = .ok (.ireturn, 1) := by decide +kernel
theorem dX4_pull_0 : decode cX4_pull 0 = .ok (.iload_n 1, 1) := by decide +kernel
theorem dX4_pull_1 : decode cX4_pull 1 = .ok (.invokestatic 183, 3) := by decide +kernel
end
section
theorem dX4_pull_4 : decode cX4_pull 4 = .ok (.ifCond .eq 16, 3) := by decide +kernel
theorem dX4_pull_7 : decode cX4_pull 7 = .ok (.iload_n 2, 1) := by decide +kernel
theorem dX4_pull_8 : decode cX4_pull 8 = .ok (.sipush (-500), 3) := by decide +kernel
theorem dX4_pull_11 : decode cX4_pull 11 = .ok (.sipush 500, 3) := by decide +kernel
theorem dX4_pull_14 : decode cX4_pull 14 = .ok (.invokestatic 52, 3) := by decide +kernel
theorem dX4_pull_17 : decode cX4_pull 17 = .ok (.ifCond .ne 5, 3) := by decide +kernel
theorem dX4_pull_20 : decode cX4_pull 20 = .ok (.iconst (-1), 1) := by decide +kernel
theorem dX4_pull_21 : decode cX4_pull 21 = .ok (.ireturn, 1) := by decide +kernel
theorem dX4_pull_22 : decode cX4_pull 22 = .ok (.aload_n 0, 1) := by decide +kernel
theorem dX4_pull_23 : decode cX4_pull 23 = .ok (.getfield 37, 3) := by decide +kernel
theorem dX4_pull_26 : decode cX4_pull 26 = .ok (.iload_n 1, 1) := by decide +kernel
theorem dX4_pull_27 : decode cX4_pull 27 = .ok (.dup2, 1) := by decide +kernel
theorem dX4_pull_28 : decode cX4_pull 28 = .ok (.iaload, 1) := by decide +kernel
theorem dX4_pull_29 : decode cX4_pull 29 = .ok (.iload_n 2, 1) := by decide +kernel
theorem dX4_pull_30 : decode cX4_pull 30 = .ok (.iadd, 1) := by decide +kernel
theorem dX4_pull_31 : decode cX4_pull 31 = .ok (.iastore, 1) := by decide +kernel
theorem dX4_pull_32 : decode cX4_pull 32 = .ok (.iconst 1, 1) := by decide +kernel
theorem dX4_pull_33 : decode cX4_pull 33 = .ok (.ireturn, 1) := by decide +kernel
theorem dX4_cut_0 : decode cX4_cut 0 = .ok (.iload_n 1, 1) := by decide +kernel
theorem dX4_cut_1 : decode cX4_cut 1 = .ok (.invokestatic 183, 3) := by decide +kernel
theorem dX4_cut_4 : decode cX4_cut 4 = .ok (.ifCond .eq 10, 3) := by decide +kernel
theorem dX4_cut_7 : decode cX4_cut 7 = .ok (.iload_n 2, 1) := by decide +kernel
theorem dX4_cut_8 : decode cX4_cut 8 = .ok (.invokestatic 186, 3) := by decide +kernel
theorem dX4_cut_11 : decode cX4_cut 11 = .ok (.ifCond .ne 5, 3) := by decide +kernel
theorem dX4_cut_14 : decode cX4_cut 14 = .ok (.iconst (-1), 1) := by decide +kernel
theorem dX4_cut_15 : decode cX4_cut 15 = .ok (.ireturn, 1) := by decide +kernel
theorem dX4_cut_16 : decode cX4_cut 16 = .ok (.aload_n 0, 1) := by decide +kernel
theorem dX4_cut_17 : decode cX4_cut 17 = .ok (.getfield 37, 3) := by decide +kernel
theorem dX4_cut_20 : decode cX4_cut 20 = .ok (.iload_n 1, 1) := by decide +kernel
theorem dX4_cut_21 : decode cX4_cut 21 = .ok (.iaload, 1) := by decide +kernel
theorem dX4_cut_22 : decode cX4_cut 22 = .ok (.istore_n 3, 1) := by decide +kernel
theorem dX4_cut_23 : decode cX4_cut 23 = .ok (.aload_n 0, 1) := by decide +kernel
theorem dX4_cut_24 : decode cX4_cut 24 = .ok (.getfield 37, 3) := by decide +kernel
theorem dX4_cut_27 : decode cX4_cut 27 = .ok (.iload_n 1, 1) := by decide +kernel
theorem dX4_cut_28 : decode cX4_cut 28 = .ok (.iload_n 2, 1) := by decide +kernel
theorem dX4_cut_29 : decode cX4_cut 29 = .ok (.iastore, 1) := by decide +kernel
theorem dX4_cut_30 : decode cX4_cut 30 = .ok (.aload_n 0, 1) := by decide +kernel
theorem dX4_cut_31 : decode cX4_cut 31 = .ok (.iload_n 3, 1) := by decide +kernel
theorem dX4_cut_32 : decode cX4_cut 32 = .ok (.i2l, 1) := by decide +kernel
theorem dX4_cut_33 : decode cX4_cut 33 = .ok (.invokevirtual 86, 3) := by decide +kernel
theorem dX4_cut_36 : decode cX4_cut 36 = .ok (.ireturn, 1) := by decide +kernel
theorem dX4_press_0 : decode cX4_press 0 = .ok (.iload_n 1, 1) := by decide +kernel
theorem dX4_press_1 : decode cX4_press 1 = .ok (.invokestatic 183, 3) := by decide +kernel
theorem dX4_press_4 : decode cX4_press 4 = .ok (.ifCond .eq 10, 3) := by decide +kernel
theorem dX4_press_7 : decode cX4_press 7 = .ok (.iload_n 2, 1) := by decide +kernel
theorem dX4_press_8 : decode cX4_press 8 = .ok (.invokestatic 186, 3) := by decide +kernel
theorem dX4_press_11 : decode cX4_press 11 = .ok (.ifCond .ne 5, 3) := by decide +kernel
theorem dX4_press_14 : decode cX4_press 14 = .ok (.iconst (-1), 1) := by decide +kernel
theorem dX4_press_15 : decode cX4_press 15 = .ok (.ireturn, 1) := by decide +kernel
theorem dX4_press_16 : decode cX4_press 16 = .ok (.aload_n 0, 1) := by decide +kernel
theorem dX4_press_17 : decode cX4_press 17 = .ok (.aload_n 0, 1) := by decide +kernel
theorem dX4_press_18 : decode cX4_press 18 = .ok (.iload_n 1, 1) := by decide +kernel
theorem dX4_press_19 : decode cX4_press 19 = .ok (.iload_n 2, 1) := by decide +kernel
theorem dX4_press_20 : decode cX4_press 20 = .ok (.invokevirtual 189, 3) := by decide +kernel
theorem dX4_press_23 : decode cX4_press 23 = .ok (.i2l, 1) := by decide +kernel
theorem dX4_press_24 : decode cX4_press 24 = .ok (.invokevirtual 86, 3) := by decide +kernel
theorem dX4_press_27 : decode cX4_press 27 = .ok (.ireturn, 1) := by decide +kernel
theorem dX4_margin_0 : decode cX4_margin 0 = .ok (.iload_n 1, 1) := by decide +kernel
theorem dX4_margin_1 : decode cX4_margin 1 = .ok (.invokestatic 183, 3) := by decide +kernel
theorem dX4_margin_4 : decode cX4_margin 4 = .ok (.ifCond .eq 10, 3) := by decide +kernel
theorem dX4_margin_7 : decode cX4_margin 7 = .ok (.iload_n 2, 1) := by decide +kernel
theorem dX4_margin_8 : decode cX4_margin 8 = .ok (.invokestatic 186, 3) := by decide +kernel
theorem dX4_margin_11 : decode cX4_margin 11 = .ok (.ifCond .ne 5, 3) := by decide +kernel
theorem dX4_margin_14 : decode cX4_margin 14 = .ok (.iconst (-1), 1) := by decide +kernel
theorem dX4_margin_15 : decode cX4_margin 15 = .ok (.ireturn, 1) := by decide +kernel
theorem dX4_margin_16 : decode cX4_margin 16 = .ok (.aload_n 0, 1) := by decide +kernel
theorem dX4_margin_17 : decode cX4_margin 17 = .ok (.getfield 10, 3) := by decide +kernel
theorem dX4_margin_20 : decode cX4_margin 20 = .ok (.getfield 120, 3) := by decide +kernel
theorem dX4_margin_23 : decode cX4_margin 23 = .ok (.iconst 4, 1) := by decide +kernel
theorem dX4_margin_24 : decode cX4_margin 24 = .ok (.idiv, 1) := by decide +kernel
theorem dX4_margin_25 : decode cX4_margin 25 = .ok (.istore_n 3, 1) := by decide +kernel
theorem dX4_margin_26 : decode cX4_margin 26 = .ok (.iload_n 1, 1) := by decide +kernel
theorem dX4_margin_27 : decode cX4_margin 27 = .ok (.iload_n 3, 1) := by decide +kernel
theorem dX4_margin_28 : decode cX4_margin 28 = .ok (.imul, 1) := by decide +kernel
theorem dX4_margin_29 : decode cX4_margin 29 = .ok (.istore 4, 2) := by decide +kernel
theorem dX4_margin_31 : decode cX4_margin 31 = .ok (.iload_n 1, 1) := by decide +kernel
theorem dX4_margin_32 : decode cX4_margin 32 = .ok (.iconst 3, 1) := by decide +kernel
theorem dX4_margin_33 : decode cX4_margin 33 = .ok (.if_icmp .ne 15, 3) := by decide +kernel
theorem dX4_margin_36 : decode cX4_margin 36 = .ok (.aload_n 0, 1) := by decide +kernel
theorem dX4_margin_37 : decode cX4_margin 37 = .ok (.getfield 10, 3) := by decide +kernel
theorem dX4_margin_40 : decode cX4_margin 40 = .ok (.getfield 120, 3) := by decide +kernel
theorem dX4_margin_43 : decode cX4_margin 43 = .ok (.iconst 1, 1) := by decide +kernel
theorem dX4_margin_44 : decode cX4_margin 44 = .ok (.isub, 1) := by decide +kernel
theorem dX4_margin_45 : decode cX4_margin 45 = .ok (.goto 9, 3) := by decide +kernel
theorem dX4_margin_48 : decode cX4_margin 48 = .ok (.iload 4, 2) := by decide +kernel
theorem dX4_margin_50 : decode cX4_margin 50 = .ok (.iload_n 3, 1) := by decide +kernel
theorem dX4_margin_51 : decode cX4_margin 51 = .ok (.iadd, 1) := by decide +kernel
theorem dX4_margin_52 : decode cX4_margin 52 = .ok (.iconst 1, 1) := by decide +kernel
theorem dX4_margin_53 : decode cX4_margin 53 = .ok (.isub, 1) := by decide +kernel
theorem dX4_margin_54 : decode cX4_margin 54 = .ok (.istore 5, 2) := by decide +kernel
theorem dX4_margin_56 : decode cX4_margin 56 = .ok (.aload_n 0, 1) := by decide +kernel
theorem dX4_margin_57 : decode cX4_margin 57 = .ok (.getfield 10, 3) := by decide +kernel
theorem dX4_margin_60 : decode cX4_margin 60 = .ok (.iload 4, 2) := by decide +kernel
theorem dX4_margin_62 : decode cX4_margin 62 = .ok (.iload 5, 2) := by decide +kernel
theorem dX4_margin_64 : decode cX4_margin 64 = .ok (.invokevirtual 123, 3) := by decide +kernel
theorem dX4_margin_67 : decode cX4_margin 67 = .ok (.istore 6, 2) := by decide +kernel
theorem dX4_margin_69 : decode cX4_margin 69 = .ok (.iload 6, 2) := by decide +kernel
theorem dX4_margin_71 : decode cX4_margin 71 = .ok (.ifCond .ne 9, 3) := by decide +kernel
theorem dX4_margin_74 : decode cX4_margin 74 = .ok (.aload_n 0, 1) := by decide +kernel
theorem dX4_margin_75 : decode cX4_margin 75 = .ok (.iconst 4, 1) := by decide +kernel
theorem dX4_margin_76 : decode cX4_margin 76 = .ok (.invokevirtual 75, 3) := by decide +kernel
theorem dX4_margin_79 : decode cX4_margin 79 = .ok (.ireturn, 1) := by decide +kernel
theorem dX4_margin_80 : decode cX4_margin 80 = .ok (.aload_n 0, 1) := by decide +kernel
theorem dX4_margin_81 : decode cX4_margin 81 = .ok (.getfield 10, 3) := by decide +kernel
theorem dX4_margin_84 : decode cX4_margin 84 = .ok (.iload 4, 2) := by decide +kernel
theorem dX4_margin_86 : decode cX4_margin 86 = .ok (.iload 5, 2) := by decide +kernel
theorem dX4_margin_88 : decode cX4_margin 88 = .ok (.invokevirtual 192, 3) := by decide +kernel
theorem dX4_margin_91 : decode cX4_margin 91 = .ok (.iload 6, 2) := by decide +kernel
theorem dX4_margin_93 : decode cX4_margin 93 = .ok (.invokestatic 195, 3) := by decide +kernel
theorem dX4_margin_96 : decode cX4_margin 96 = .ok (.istore 7, 2) := by decide +kernel
theorem dX4_margin_98 : decode cX4_margin 98 = .ok (.ldc2_w 198, 3) := by decide +kernel
theorem dX4_margin_101 : decode cX4_margin 101 = .ok (.ldc2_w 200, 3) := by decide +kernel
theorem dX4_margin_104 : decode cX4_margin 104 = .ok (.iload 7, 2) := by decide +kernel
theorem dX4_margin_106 : decode cX4_margin 106 = .ok (.i2l, 1) := by decide +kernel
theorem dX4_margin_107 : decode cX4_margin 107 = .ok (.lmul, 1) := by decide +kernel
theorem dX4_margin_108 : decode cX4_margin 108 = .ok (.ladd, 1) := by decide +kernel
theorem dX4_margin_109 : decode cX4_margin 109 = .ok (.ldc2_w 202, 3) := by decide +kernel
theorem dX4_margin_112 : decode cX4_margin 112 = .ok (.aload_n 0, 1) := by decide +kernel
theorem dX4_margin_113 : decode cX4_margin 113 = .ok (.getfield 10, 3) := by decide +kernel
theorem dX4_margin_116 : decode cX4_margin 116 = .ok (.iload 4, 2) := by decide +kernel
theorem dX4_margin_118 : decode cX4_margin 118 = .ok (.iload 5, 2) := by decide +kernel
theorem dX4_margin_120 : decode cX4_margin 120 = .ok (.invokevirtual 204, 3) := by decide +kernel
theorem dX4_margin_123 : decode cX4_margin 123 = .ok (.i2l, 1) := by decide +kernel
theorem dX4_margin_124 : decode cX4_margin 124 = .ok (.lmul, 1) := by decide +kernel
theorem dX4_margin_125 : decode cX4_margin 125 = .ok (.lsub, 1) := by decide +kernel
theorem dX4_margin_126 : decode cX4_margin 126 = .ok (.aload_n 0, 1) := by decide +kernel
theorem dX4_margin_127 : decode cX4_margin 127 = .ok (.iload_n 1, 1) := by decide +kernel
theorem dX4_margin_128 : decode cX4_margin 128 = .ok (.iload_n 2, 1) := by decide +kernel
theorem dX4_margin_129 : decode cX4_margin 129 = .ok (.invokevirtual 189, 3) := by decide +kernel
theorem dX4_margin_132 : decode cX4_margin 132 = .ok (.i2l, 1) := by decide +kernel
theorem dX4_margin_133 : decode cX4_margin 133 = .ok (.lsub, 1) := by decide +kernel
theorem dX4_margin_134 : decode cX4_margin 134 = .ok (.lstore 8, 2) := by decide +kernel
theorem dX4_margin_136 : decode cX4_margin 136 = .ok (.aload_n 0, 1) := by decide +kernel
theorem dX4_margin_137 : decode cX4_margin 137 = .ok (.lload 8, 2) := by decide +kernel
theorem dX4_margin_139 : decode cX4_margin 139 = .ok (.invokevirtual 86, 3) := by decide +kernel
theorem dX4_margin_142 : decode cX4_margin 142 = .ok (.pop, 1) := by decide +kernel
theorem dX4_margin_143 : decode cX4_margin 143 = .ok (.lload 8, 2) := by decide +kernel
theorem dX4_margin_145 : decode cX4_margin 145 = .ok (.lconst 0, 1) := by decide +kernel
theorem dX4_margin_146 : decode cX4_margin 146 = .ok (.lcmp, 1) := by decide +kernel
theorem dX4_margin_147 : decode cX4_margin 147 = .ok (.ifCond .gt 7, 3) := by decide +kernel
theorem dX4_margin_150 : decode cX4_margin 150 = .ok (.iconst 1, 1) := by decide +kernel
theorem dX4_margin_151 : decode cX4_margin 151 = .ok (.goto 4, 3) := by decide +kernel
theorem dX4_margin_154 : decode cX4_margin 154 = .ok (.iconst 0, 1) := by decide +kernel
theorem dX4_margin_155 : decode cX4_margin 155 = .ok (.ireturn, 1) := by decide +kernel
theorem dX4_work_0 : decode cX4_work 0 = .ok (.iload_n 1, 1) := by decide +kernel
theorem dX4_work_1 : decode cX4_work 1 = .ok (.iconst 1, 1) := by decide +kernel
theorem dX4_work_2 : decode cX4_work 2 = .ok (.sipush 1000, 3) := by decide +kernel
theorem dX4_work_5 : decode cX4_work 5 = .ok (.invokestatic 52, 3) := by decide +kernel
theorem dX4_work_8 : decode cX4_work 8 = .ok (.ifCond .eq 14, 3) := by decide +kernel
theorem dX4_work_11 : decode cX4_work 11 = .ok (.iload_n 2, 1) := by decide +kernel
theorem dX4_work_12 : decode cX4_work 12 = .ok (.iconst 0, 1) := by decide +kernel
theorem dX4_work_13 : decode cX4_work 13 = .ok (.sipush 1000, 3) := by decide +kernel
theorem dX4_work_16 : decode cX4_work 16 = .ok (.invokestatic 52, 3) := by decide +kernel
theorem dX4_work_19 : decode cX4_work 19 = .ok (.ifCond .ne 5, 3) := by decide +kernel
theorem dX4_work_22 : decode cX4_work 22 = .ok (.iconst (-1), 1) := by decide +kernel
theorem dX4_work_23 : decode cX4_work 23 = .ok (.ireturn, 1) := by decide +kernel
theorem dX4_work_24 : decode cX4_work 24 = .ok (.aload_n 0, 1) := by decide +kernel
theorem dX4_work_25 : decode cX4_work 25 = .ok (.getfield 33, 3) := by decide +kernel
theorem dX4_work_28 : decode cX4_work 28 = .ok (.getfield 207, 3) := by decide +kernel
theorem dX4_work_31 : decode cX4_work 31 = .ok (.bipush 14, 2) := by decide +kernel
theorem dX4_work_33 : decode cX4_work 33 = .ok (.if_icmp .lt 6, 3) := by decide +kernel
theorem dX4_work_36 : decode cX4_work 36 = .ok (.bipush (-2), 2) := by decide +kernel
theorem dX4_work_38 : decode cX4_work 38 = .ok (.ireturn, 1) := by decide +kernel
theorem dX4_work_39 : decode cX4_work 39 = .ok (.aload_n 0, 1) := by decide +kernel
theorem dX4_work_40 : decode cX4_work 40 = .ok (.getfield 33, 3) := by decide +kernel
theorem dX4_work_43 : decode cX4_work 43 = .ok (.iload_n 1, 1) := by decide +kernel
theorem dX4_work_44 : decode cX4_work 44 = .ok (.iload_n 2, 1) := by decide +kernel
theorem dX4_work_45 : decode cX4_work 45 = .ok (.invokevirtual 208, 3) := by decide +kernel
theorem dX4_work_48 : decode cX4_work 48 = .ok (.ireturn, 1) := by decide +kernel
theorem dX4_best_0 : decode cX4_best 0 = .ok (.iload_n 1, 1) := by decide +kernel
theorem dX4_best_1 : decode cX4_best 1 = .ok (.iconst 0, 1) := by decide +kernel
theorem dX4_best_2 : decode cX4_best 2 = .ok (.sipush 14000, 3) := by decide +kernel
theorem dX4_best_5 : decode cX4_best 5 = .ok (.invokestatic 52, 3) := by decide +kernel
theorem dX4_best_8 : decode cX4_best 8 = .ok (.ifCond .ne 5, 3) := by decide +kernel
theorem dX4_best_11 : decode cX4_best 11 = .ok (.iconst (-1), 1) := by decide +kernel
theorem dX4_best_12 : decode cX4_best 12 = .ok (.ireturn, 1) := by decide +kernel
theorem dX4_best_13 : decode cX4_best 13 = .ok (.aload_n 0, 1) := by decide +kernel
theorem dX4_best_14 : decode cX4_best 14 = .ok (.getfield 33, 3) := by decide +kernel
theorem dX4_best_17 : decode cX4_best 17 = .ok (.iload_n 1, 1) := by decide +kernel
theorem dX4_best_18 : decode cX4_best 18 = .ok (.invokevirtual 211, 3) := by decide +kernel
theorem dX4_best_21 : decode cX4_best 21 = .ok (.istore_n 2, 1) := by decide +kernel
theorem dX4_best_22 : decode cX4_best 22 = .ok (.aload_n 0, 1) := by decide +kernel
theorem dX4_best_23 : decode cX4_best 23 = .ok (.iload_n 2, 1) := by decide +kernel
theorem dX4_best_24 : decode cX4_best 24 = .ok (.i2l, 1) := by decide +kernel
theorem dX4_best_25 : decode cX4_best 25 = .ok (.invokevirtual 86, 3) := by decide +kernel
theorem dX4_best_28 : decode cX4_best 28 = .ok (.pop, 1) := by decide +kernel
theorem dX4_best_29 : decode cX4_best 29 = .ok (.aload_n 0, 1) := by decide +kernel
theorem dX4_best_30 : decode cX4_best 30 = .ok (.getfield 33, 3) := by decide +kernel
theorem dX4_best_33 : decode cX4_best 33 = .ok (.iload_n 2, 1) := by decide +kernel
theorem dX4_best_34 : decode cX4_best 34 = .ok (.invokevirtual 214, 3) := by decide +kernel
theorem dX4_best_37 : decode cX4_best 37 = .ok (.ireturn, 1) := by decide +kernel
theorem dX4_first_0 : decode cX4_first 0 = .ok (.iload_n 1, 1) := by decide +kernel
theorem dX4_first_1 : decode cX4_first 1 = .ok (.iconst 0, 1) := by decide +kernel
theorem dX4_first_2 : decode cX4_first 2 = .ok (.sipush 14000, 3) := by decide +kernel
theorem dX4_first_5 : decode cX4_first 5 = .ok (.invokestatic 52, 3) := by decide +kernel
theorem dX4_first_8 : decode cX4_first 8 = .ok (.ifCond .ne 5, 3) := by decide +kernel
theorem dX4_first_11 : decode cX4_first 11 = .ok (.iconst (-1), 1) := by decide +kernel
theorem dX4_first_12 : decode cX4_first 12 = .ok (.ireturn, 1) := by decide +kernel
theorem dX4_first_13 : decode cX4_first 13 = .ok (.aload_n 0, 1) := by decide +kernel
theorem dX4_first_14 : decode cX4_first 14 = .ok (.getfield 33, 3) := by decide +kernel
theorem dX4_first_17 : decode cX4_first 17 = .ok (.iload_n 1, 1) := by decide +kernel
theorem dX4_first_18 : decode cX4_first 18 = .ok (.invokevirtual 217, 3) := by decide +kernel
theorem dX4_first_21 : decode cX4_first 21 = .ok (.istore_n 2, 1) := by decide +kernel
theorem dX4_first_22 : decode cX4_first 22 = .ok (.aload_n 0, 1) := by decide +kernel
theorem dX4_first_23 : decode cX4_first 23 = .ok (.iload_n 2, 1) := by decide +kernel
theorem dX4_first_24 : decode cX4_first 24 = .ok (.i2l, 1) := by decide +kernel
theorem dX4_first_25 : decode cX4_first 25 = .ok (.invokevirtual 86, 3) := by decide +kernel
theorem dX4_first_28 : decode cX4_first 28 = .ok (.pop, 1) := by decide +kernel
theorem dX4_first_29 : decode cX4_first 29 = .ok (.aload_n 0, 1) := by decide +kernel
theorem dX4_first_30 : decode cX4_first 30 = .ok (.getfield 33, 3) := by decide +kernel
theorem dX4_first_33 : decode cX4_first 33 = .ok (.iload_n 2, 1) := by decide +kernel
theorem dX4_first_34 : decode cX4_first 34 = .ok (.invokevirtual 214, 3) := by decide +kernel
theorem dX4_first_37 : decode cX4_first 37 = .ok (.ireturn, 1) := by decide +kernel
theorem dX4_asked_0 : decode cX4_asked 0 = .ok (.aload_n 0, 1) := by decide +kernel
theorem dX4_asked_1 : decode cX4_asked 1 = .ok (.getfield 48, 3) := by decide +kernel
theorem dX4_asked_4 : decode cX4_asked 4 = .ok (.lreturn, 1) := by decide +kernel
theorem dX4_count_0 : decode cX4_count 0 = .ok (.iload_n 1, 1) := by decide +kernel
theorem dX4_count_1 : decode cX4_count 1 = .ok (.tableswitch 93 0 4 #[35, 43, 69, 77, 85], 35) := by decide +kernel
theorem dX4_count_36 : decode cX4_count 36 = .ok (.aload_n 0, 1) := by decide +kernel
theorem dX4_count_37 : decode cX4_count 37 = .ok (.getfield 10, 3) := by decide +kernel
theorem dX4_count_40 : decode cX4_count 40 = .ok (.getfield 120, 3) := by decide +kernel
theorem dX4_count_43 : decode cX4_count 43 = .ok (.ireturn, 1) := by decide +kernel
theorem dX4_count_44 : decode cX4_count 44 = .ok (.aload_n 0, 1) := by decide +kernel
theorem dX4_count_45 : decode cX4_count 45 = .ok (.getfield 10, 3) := by decide +kernel
theorem dX4_count_48 : decode cX4_count 48 = .ok (.getfield 120, 3) := by decide +kernel
theorem dX4_count_51 : decode cX4_count 51 = .ok (.aload_n 0, 1) := by decide +kernel
theorem dX4_count_52 : decode cX4_count 52 = .ok (.getfield 10, 3) := by decide +kernel
theorem dX4_count_55 : decode cX4_count 55 = .ok (.iconst 0, 1) := by decide +kernel
theorem dX4_count_56 : decode cX4_count 56 = .ok (.aload_n 0, 1) := by decide +kernel
theorem dX4_count_57 : decode cX4_count 57 = .ok (.getfield 10, 3) := by decide +kernel
theorem dX4_count_60 : decode cX4_count 60 = .ok (.getfield 120, 3) := by decide +kernel
theorem dX4_count_63 : decode cX4_count 63 = .ok (.iconst 1, 1) := by decide +kernel
theorem dX4_count_64 : decode cX4_count 64 = .ok (.isub, 1) := by decide +kernel
theorem dX4_count_65 : decode cX4_count 65 = .ok (.invokevirtual 123, 3) := by decide +kernel
theorem dX4_count_68 : decode cX4_count 68 = .ok (.isub, 1) := by decide +kernel
theorem dX4_count_69 : decode cX4_count 69 = .ok (.ireturn, 1) := by decide +kernel
theorem dX4_count_70 : decode cX4_count 70 = .ok (.aload_n 0, 1) := by decide +kernel
theorem dX4_count_71 : decode cX4_count 71 = .ok (.getfield 19, 3) := by decide +kernel
theorem dX4_count_74 : decode cX4_count 74 = .ok (.getfield 106, 3) := by decide +kernel
theorem dX4_count_77 : decode cX4_count 77 = .ok (.ireturn, 1) := by decide +kernel
theorem dX4_count_78 : decode cX4_count 78 = .ok (.aload_n 0, 1) := by decide +kernel
theorem dX4_count_79 : decode cX4_count 79 = .ok (.getfield 26, 3) := by decide +kernel
theorem dX4_count_82 : decode cX4_count 82 = .ok (.invokevirtual 220, 3) := by decide +kernel
theorem dX4_count_85 : decode cX4_count 85 = .ok (.ireturn, 1) := by decide +kernel
theorem dX4_count_86 : decode cX4_count 86 = .ok (.aload_n 0, 1) := by decide +kernel
theorem dX4_count_87 : decode cX4_count 87 = .ok (.getfield 33, 3) := by decide +kernel
theorem dX4_count_90 : decode cX4_count 90 = .ok (.getfield 207, 3) := by decide +kernel
theorem dX4_count_93 : decode cX4_count 93 = .ok (.ireturn, 1) := by decide +kernel
theorem dX4_count_94 : decode cX4_count 94 = .ok (.iconst (-1), 1) := by decide +kernel
theorem dX4_count_95 : decode cX4_count 95 = .ok (.ireturn, 1) := by decide +kernel
theorem dX4_finding_0 : decode cX4_finding 0 = .ok (.aload_n 0, 1) := by decide +kernel
theorem dX4_finding_1 : decode cX4_finding 1 = .ok (.getfield 44, 3) := by decide +kernel
theorem dX4_finding_4 : decode cX4_finding 4 = .ok (.ireturn, 1) := by decide +kernel
theorem dX4_findings_0 : decode cX4_findings 0 = .ok (.iload_n 1, 1) := by decide +kernel
theorem dX4_findings_1 : decode cX4_findings 1 = .ok (.iconst 1, 1) := by decide +kernel
theorem dX4_findings_2 : decode cX4_findings 2 = .ok (.iconst 5, 1) := by decide +kernel
theorem dX4_findings_3 : decode cX4_findings 3 = .ok (.invokestatic 52, 3) := by decide +kernel
theorem dX4_findings_6 : decode cX4_findings 6 = .ok (.ifCond .ne 5, 3) := by decide +kernel
theorem dX4_findings_9 : decode cX4_findings 9 = .ok (.iconst (-1), 1) := by decide +kernel
theorem dX4_findings_10 : decode cX4_findings 10 = .ok (.ireturn, 1) := by decide +kernel
theorem dX4_findings_11 : decode cX4_findings 11 = .ok (.aload_n 0, 1) := by decide +kernel
theorem dX4_findings_12 : decode cX4_findings 12 = .ok (.getfield 41, 3) := by decide +kernel
theorem dX4_findings_15 : decode cX4_findings 15 = .ok (.iload_n 1, 1) := by decide +kernel
theorem dX4_findings_16 : decode cX4_findings 16 = .ok (.iaload, 1) := by decide +kernel
theorem dX4_findings_17 : decode cX4_findings 17 = .ok (.ireturn, 1) := by decide +kernel
theorem dX4_digest_0 : decode cX4_digest 0 = .ok (.ldc2_w 223, 3) := by decide +kernel
theorem dX4_digest_3 : decode cX4_digest 3 = .ok (.lstore_n 1, 1) := by decide +kernel
theorem dX4_digest_4 : decode cX4_digest 4 = .ok (.iconst 0, 1) := by decide +kernel
theorem dX4_digest_5 : decode cX4_digest 5 = .ok (.istore_n 3, 1) := by decide +kernel
theorem dX4_digest_6 : decode cX4_digest 6 = .ok (.iload_n 3, 1) := by decide +kernel
theorem dX4_digest_7 : decode cX4_digest 7 = .ok (.iconst 5, 1) := by decide +kernel
theorem dX4_digest_8 : decode cX4_digest 8 = .ok (.if_icmp .ge 22, 3) := by decide +kernel
theorem dX4_digest_11 : decode cX4_digest 11 = .ok (.ldc2_w 225, 3) := by decide +kernel
theorem dX4_digest_14 : decode cX4_digest 14 = .ok (.lload_n 1, 1) := by decide +kernel
theorem dX4_digest_15 : decode cX4_digest 15 = .ok (.lmul, 1) := by decide +kernel
theorem dX4_digest_16 : decode cX4_digest 16 = .ok (.aload_n 0, 1) := by decide +kernel
theorem dX4_digest_17 : decode cX4_digest 17 = .ok (.iload_n 3, 1) := by decide +kernel
theorem dX4_digest_18 : decode cX4_digest 18 = .ok (.invokevirtual 227, 3) := by decide +kernel
theorem dX4_digest_21 : decode cX4_digest 21 = .ok (.i2l, 1) := by decide +kernel
theorem dX4_digest_22 : decode cX4_digest 22 = .ok (.ladd, 1) := by decide +kernel
theorem dX4_digest_23 : decode cX4_digest 23 = .ok (.lstore_n 1, 1) := by decide +kernel
theorem dX4_digest_24 : decode cX4_digest 24 = .ok (.iinc 3 1, 3) := by decide +kernel
theorem dX4_digest_27 : decode cX4_digest 27 = .ok (.goto (-21), 3) := by decide +kernel
theorem dX4_digest_30 : decode cX4_digest 30 = .ok (.iconst 0, 1) := by decide +kernel
theorem dX4_digest_31 : decode cX4_digest 31 = .ok (.istore_n 3, 1) := by decide +kernel
theorem dX4_digest_32 : decode cX4_digest 32 = .ok (.iload_n 3, 1) := by decide +kernel
theorem dX4_digest_33 : decode cX4_digest 33 = .ok (.aload_n 0, 1) := by decide +kernel
theorem dX4_digest_34 : decode cX4_digest 34 = .ok (.getfield 10, 3) := by decide +kernel
theorem dX4_digest_37 : decode cX4_digest 37 = .ok (.getfield 120, 3) := by decide +kernel
theorem dX4_digest_40 : decode cX4_digest 40 = .ok (.if_icmp .ge 56, 3) := by decide +kernel
theorem dX4_digest_43 : decode cX4_digest 43 = .ok (.iconst 0, 1) := by decide +kernel
theorem dX4_digest_44 : decode cX4_digest 44 = .ok (.istore 4, 2) := by decide +kernel
theorem dX4_digest_46 : decode cX4_digest 46 = .ok (.iload 4, 2) := by decide +kernel
theorem dX4_digest_48 : decode cX4_digest 48 = .ok (.iconst 4, 1) := by decide +kernel
theorem dX4_digest_49 : decode cX4_digest 49 = .ok (.if_icmp .ge 24, 3) := by decide +kernel
theorem dX4_digest_52 : decode cX4_digest 52 = .ok (.ldc2_w 225, 3) := by decide +kernel
theorem dX4_digest_55 : decode cX4_digest 55 = .ok (.lload_n 1, 1) := by decide +kernel
theorem dX4_digest_56 : decode cX4_digest 56 = .ok (.lmul, 1) := by decide +kernel
theorem dX4_digest_57 : decode cX4_digest 57 = .ok (.aload_n 0, 1) := by decide +kernel
theorem dX4_digest_58 : decode cX4_digest 58 = .ok (.iload_n 3, 1) := by decide +kernel
theorem dX4_digest_59 : decode cX4_digest 59 = .ok (.iload 4, 2) := by decide +kernel
theorem dX4_digest_61 : decode cX4_digest 61 = .ok (.invokevirtual 230, 3) := by decide +kernel
theorem dX4_digest_64 : decode cX4_digest 64 = .ok (.i2l, 1) := by decide +kernel
theorem dX4_digest_65 : decode cX4_digest 65 = .ok (.ladd, 1) := by decide +kernel
theorem dX4_digest_66 : decode cX4_digest 66 = .ok (.lstore_n 1, 1) := by decide +kernel
theorem dX4_digest_67 : decode cX4_digest 67 = .ok (.iinc 4 1, 3) := by decide +kernel
theorem dX4_digest_70 : decode cX4_digest 70 = .ok (.goto (-24), 3) := by decide +kernel
theorem dX4_digest_73 : decode cX4_digest 73 = .ok (.ldc2_w 225, 3) := by decide +kernel
theorem dX4_digest_76 : decode cX4_digest 76 = .ok (.lload_n 1, 1) := by decide +kernel
theorem dX4_digest_77 : decode cX4_digest 77 = .ok (.lmul, 1) := by decide +kernel
theorem dX4_digest_78 : decode cX4_digest 78 = .ok (.aload_n 0, 1) := by decide +kernel
theorem dX4_digest_79 : decode cX4_digest 79 = .ok (.getfield 10, 3) := by decide +kernel
theorem dX4_digest_82 : decode cX4_digest 82 = .ok (.getfield 79, 3) := by decide +kernel
theorem dX4_digest_85 : decode cX4_digest 85 = .ok (.iload_n 3, 1) := by decide +kernel
theorem dX4_digest_86 : decode cX4_digest 86 = .ok (.iaload, 1) := by decide +kernel
theorem dX4_digest_87 : decode cX4_digest 87 = .ok (.i2l, 1) := by decide +kernel
theorem dX4_digest_88 : decode cX4_digest 88 = .ok (.ladd, 1) := by decide +kernel
theorem dX4_digest_89 : decode cX4_digest 89 = .ok (.lstore_n 1, 1) := by decide +kernel
theorem dX4_digest_90 : decode cX4_digest 90 = .ok (.iinc 3 1, 3) := by decide +kernel
theorem dX4_digest_93 : decode cX4_digest 93 = .ok (.goto (-61), 3) := by decide +kernel
theorem dX4_digest_96 : decode cX4_digest 96 = .ok (.iconst 0, 1) := by decide +kernel
theorem dX4_digest_97 : decode cX4_digest 97 = .ok (.istore_n 3, 1) := by decide +kernel
theorem dX4_digest_98 : decode cX4_digest 98 = .ok (.iload_n 3, 1) := by decide +kernel
theorem dX4_digest_99 : decode cX4_digest 99 = .ok (.iconst 4, 1) := by decide +kernel
theorem dX4_digest_100 : decode cX4_digest 100 = .ok (.if_icmp .ge 23, 3) := by decide +kernel
theorem dX4_digest_103 : decode cX4_digest 103 = .ok (.ldc2_w 225, 3) := by decide +kernel
theorem dX4_digest_106 : decode cX4_digest 106 = .ok (.lload_n 1, 1) := by decide +kernel
theorem dX4_digest_107 : decode cX4_digest 107 = .ok (.lmul, 1) := by decide +kernel
theorem dX4_digest_108 : decode cX4_digest 108 = .ok (.aload_n 0, 1) := by decide +kernel
theorem dX4_digest_109 : decode cX4_digest 109 = .ok (.getfield 37, 3) := by decide +kernel
theorem dX4_digest_112 : decode cX4_digest 112 = .ok (.iload_n 3, 1) := by decide +kernel
theorem dX4_digest_113 : decode cX4_digest 113 = .ok (.iaload, 1) := by decide +kernel
theorem dX4_digest_114 : decode cX4_digest 114 = .ok (.i2l, 1) := by decide +kernel
theorem dX4_digest_115 : decode cX4_digest 115 = .ok (.ladd, 1) := by decide +kernel
theorem dX4_digest_116 : decode cX4_digest 116 = .ok (.lstore_n 1, 1) := by decide +kernel
theorem dX4_digest_117 : decode cX4_digest 117 = .ok (.iinc 3 1, 3) := by decide +kernel
theorem dX4_digest_120 : decode cX4_digest 120 = .ok (.goto (-22), 3) := by decide +kernel
theorem dX4_digest_123 : decode cX4_digest 123 = .ok (.iconst 0, 1) := by decide +kernel
theorem dX4_digest_124 : decode cX4_digest 124 = .ok (.istore_n 3, 1) := by decide +kernel
theorem dX4_digest_125 : decode cX4_digest 125 = .ok (.iload_n 3, 1) := by decide +kernel
theorem dX4_digest_126 : decode cX4_digest 126 = .ok (.bipush 6, 2) := by decide +kernel
theorem dX4_digest_128 : decode cX4_digest 128 = .ok (.if_icmp .ge 19, 3) := by decide +kernel
theorem dX4_digest_131 : decode cX4_digest 131 = .ok (.aload_n 0, 1) := by decide +kernel
theorem dX4_digest_132 : decode cX4_digest 132 = .ok (.getfield 26, 3) := by decide +kernel
theorem dX4_digest_135 : decode cX4_digest 135 = .ok (.lload_n 1, 1) := by decide +kernel
theorem dX4_digest_136 : decode cX4_digest 136 = .ok (.iload_n 3, 1) := by decide +kernel
theorem dX4_digest_137 : decode cX4_digest 137 = .ok (.invokevirtual 233, 3) := by decide +kernel
theorem dX4_digest_140 : decode cX4_digest 140 = .ok (.lstore_n 1, 1) := by decide +kernel
theorem dX4_digest_141 : decode cX4_digest 141 = .ok (.iinc 3 1, 3) := by decide +kernel
theorem dX4_digest_144 : decode cX4_digest 144 = .ok (.goto (-19), 3) := by decide +kernel
theorem dX4_digest_147 : decode cX4_digest 147 = .ok (.lload_n 1, 1) := by decide +kernel
theorem dX4_digest_148 : decode cX4_digest 148 = .ok (.lreturn, 1) := by decide +kernel
theorem dX4_found_0 : decode cX4_found 0 = .ok (.aload_n 0, 1) := by decide +kernel
theorem dX4_found_1 : decode cX4_found 1 = .ok (.iload_n 1, 1) := by decide +kernel
theorem dX4_found_2 : decode cX4_found 2 = .ok (.putfield 44, 3) := by decide +kernel
theorem dX4_found_5 : decode cX4_found 5 = .ok (.aload_n 0, 1) := by decide +kernel
theorem dX4_found_6 : decode cX4_found 6 = .ok (.getfield 41, 3) := by decide +kernel
theorem dX4_found_9 : decode cX4_found 9 = .ok (.iload_n 1, 1) := by decide +kernel
theorem dX4_found_10 : decode cX4_found 10 = .ok (.dup2, 1) := by decide +kernel
theorem dX4_found_11 : decode cX4_found 11 = .ok (.iaload, 1) := by decide +kernel
theorem dX4_found_12 : decode cX4_found 12 = .ok (.iconst 1, 1) := by decide +kernel
theorem dX4_found_13 : decode cX4_found 13 = .ok (.iadd, 1) := by decide +kernel
theorem dX4_found_14 : decode cX4_found 14 = .ok (.iastore, 1) := by decide +kernel
theorem dX4_found_15 : decode cX4_found 15 = .ok (.bipush (-3), 2) := by decide +kernel
theorem dX4_found_17 : decode cX4_found 17 = .ok (.ireturn, 1) := by decide +kernel
theorem dX4_tell_0 : decode cX4_tell 0 = .ok (.aload_n 0, 1) := by decide +kernel
theorem dX4_tell_1 : decode cX4_tell 1 = .ok (.lload_n 1, 1) := by decide +kernel
theorem dX4_tell_2 : decode cX4_tell 2 = .ok (.putfield 48, 3) := by decide +kernel
theorem dX4_tell_5 : decode cX4_tell 5 = .ok (.iconst 1, 1) := by decide +kernel
theorem dX4_tell_6 : decode cX4_tell 6 = .ok (.ireturn, 1) := by decide +kernel
theorem dX4_pressOf_0 : decode cX4_pressOf 0 = .ok (.iload_n 2, 1) := by decide +kernel
theorem dX4_pressOf_1 : decode cX4_pressOf 1 = .ok (.aload_n 0, 1) := by decide +kernel
theorem dX4_pressOf_2 : decode cX4_pressOf 2 = .ok (.getfield 37, 3) := by decide +kernel
theorem dX4_pressOf_5 : decode cX4_pressOf 5 = .ok (.iload_n 1, 1) := by decide +kernel
theorem dX4_pressOf_6 : decode cX4_pressOf 6 = .ok (.iaload, 1) := by decide +kernel
theorem dX4_pressOf_7 : decode cX4_pressOf 7 = .ok (.isub, 1) := by decide +kernel
theorem dX4_pressOf_8 : decode cX4_pressOf 8 = .ok (.bipush 24, 2) := by decide +kernel
theorem dX4_pressOf_10 : decode cX4_pressOf 10 = .ok (.imul, 1) := by decide +kernel
theorem dX4_pressOf_11 : decode cX4_pressOf 11 = .ok (.ireturn, 1) := by decide +kernel
theorem dX4_within_0 : decode cX4_within 0 = .ok (.iload_n 0, 1) := by decide +kernel
theorem dX4_within_1 : decode cX4_within 1 = .ok (.iload_n 1, 1) := by decide +kernel
theorem dX4_within_2 : decode cX4_within 2 = .ok (.if_icmp .lt 12, 3) := by decide +kernel
theorem dX4_within_5 : decode cX4_within 5 = .ok (.iload_n 0, 1) := by decide +kernel
theorem dX4_within_6 : decode cX4_within 6 = .ok (.iload_n 2, 1) := by decide +kernel
theorem dX4_within_7 : decode cX4_within 7 = .ok (.if_icmp .gt 7, 3) := by decide +kernel
theorem dX4_within_10 : decode cX4_within 10 = .ok (.iconst 1, 1) := by decide +kernel
theorem dX4_within_11 : decode cX4_within 11 = .ok (.goto 4, 3) := by decide +kernel
theorem dX4_within_14 : decode cX4_within 14 = .ok (.iconst 0, 1) := by decide +kernel
theorem dX4_within_15 : decode cX4_within 15 = .ok (.ireturn, 1) := by decide +kernel
theorem dX4_isRun_0 : decode cX4_isRun 0 = .ok (.iload_n 0, 1) := by decide +kernel
theorem dX4_isRun_1 : decode cX4_isRun 1 = .ok (.iconst 0, 1) := by decide +kernel
theorem dX4_isRun_2 : decode cX4_isRun 2 = .ok (.iconst 5, 1) := by decide +kernel
theorem dX4_isRun_3 : decode cX4_isRun 3 = .ok (.invokestatic 52, 3) := by decide +kernel
theorem dX4_isRun_6 : decode cX4_isRun 6 = .ok (.ireturn, 1) := by decide +kernel
theorem dX4_isStretch_0 : decode cX4_isStretch 0 = .ok (.iload_n 0, 1) := by decide +kernel
theorem dX4_isStretch_1 : decode cX4_isStretch 1 = .ok (.iconst 0, 1) := by decide +kernel
theorem dX4_isStretch_2 : decode cX4_isStretch 2 = .ok (.iconst 3, 1) := by decide +kernel
theorem dX4_isStretch_3 : decode cX4_isStretch 3 = .ok (.invokestatic 52, 3) := by decide +kernel
theorem dX4_isStretch_6 : decode cX4_isStretch 6 = .ok (.ireturn, 1) := by decide +kernel
theorem dX4_isTemperature_0 : decode cX4_isTemperature 0 = .ok (.iload_n 0, 1) := by decide +kernel
theorem dX4_isTemperature_1 : decode cX4_isTemperature 1 = .ok (.sipush (-400), 3) := by decide +kernel
theorem dX4_isTemperature_4 : decode cX4_isTemperature 4 = .ok (.sipush 600, 3) := by decide +kernel
theorem dX4_isTemperature_7 : decode cX4_isTemperature 7 = .ok (.invokestatic 52, 3) := by decide +kernel
theorem dX4_isTemperature_10 : decode cX4_isTemperature 10 = .ok (.ireturn, 1) := by decide +kernel
theorem dX4_holdsPlaces_0 : decode cX4_holdsPlaces 0 = .ok (.iload_n 1, 1) := by decide +kernel
theorem dX4_holdsPlaces_1 : decode cX4_holdsPlaces 1 = .ok (.bipush 40, 2) := by decide +kernel
theorem dX4_holdsPlaces_3 : decode cX4_holdsPlaces 3 = .ok (.if_icmp .gt 19, 3) := by decide +kernel
theorem dX4_holdsPlaces_6 : decode cX4_holdsPlaces 6 = .ok (.iload_n 0, 1) := by decide +kernel
theorem dX4_holdsPlaces_7 : decode cX4_holdsPlaces 7 = .ok (.iconst 0, 1) := by decide +kernel
theorem dX4_holdsPlaces_8 : decode cX4_holdsPlaces 8 = .ok (.bipush 40, 2) := by decide +kernel
theorem dX4_holdsPlaces_10 : decode cX4_holdsPlaces 10 = .ok (.iload_n 1, 1) := by decide +kernel
theorem dX4_holdsPlaces_11 : decode cX4_holdsPlaces 11 = .ok (.isub, 1) := by decide +kernel
theorem dX4_holdsPlaces_12 : decode cX4_holdsPlaces 12 = .ok (.invokestatic 52, 3) := by decide +kernel
theorem dX4_holdsPlaces_15 : decode cX4_holdsPlaces 15 = .ok (.ifCond .eq 7, 3) := by decide +kernel
theorem dX4_holdsPlaces_18 : decode cX4_holdsPlaces 18 = .ok (.iconst 1, 1) := by decide +kernel
theorem dX4_holdsPlaces_19 : decode cX4_holdsPlaces 19 = .ok (.goto 4, 3) := by decide +kernel
theorem dX4_holdsPlaces_22 : decode cX4_holdsPlaces 22 = .ok (.iconst 0, 1) := by decide +kernel
theorem dX4_holdsPlaces_23 : decode cX4_holdsPlaces 23 = .ok (.ireturn, 1) := by decide +kernel
theorem dX4_cutShare_0 : decode cX4_cutShare 0 = .ok (.iload_n 1, 1) := by decide +kernel
theorem dX4_cutShare_1 : decode cX4_cutShare 1 = .ok (.iconst 1, 1) := by decide +kernel
theorem dX4_cutShare_2 : decode cX4_cutShare 2 = .ok (.if_icmp .ge 7, 3) := by decide +kernel
theorem dX4_cutShare_5 : decode cX4_cutShare 5 = .ok (.iconst 0, 1) := by decide +kernel
theorem dX4_cutShare_6 : decode cX4_cutShare 6 = .ok (.goto 6, 3) := by decide +kernel
theorem dX4_cutShare_9 : decode cX4_cutShare 9 = .ok (.iload_n 0, 1) := by decide +kernel
theorem dX4_cutShare_10 : decode cX4_cutShare 10 = .ok (.iload_n 1, 1) := by decide +kernel
theorem dX4_cutShare_11 : decode cX4_cutShare 11 = .ok (.idiv, 1) := by decide +kernel
theorem dX4_cutShare_12 : decode cX4_cutShare 12 = .ok (.ireturn, 1) := by decide +kernel
theorem dX4_floorShare_0 : decode cX4_floorShare 0 = .ok (.iload_n 1, 1) := by decide +kernel
theorem dX4_floorShare_1 : decode cX4_floorShare 1 = .ok (.iconst 1, 1) := by decide +kernel
theorem dX4_floorShare_2 : decode cX4_floorShare 2 = .ok (.if_icmp .ge 7, 3) := by decide +kernel
theorem dX4_floorShare_5 : decode cX4_floorShare 5 = .ok (.iconst 0, 1) := by decide +kernel
theorem dX4_floorShare_6 : decode cX4_floorShare 6 = .ok (.goto 8, 3) := by decide +kernel
theorem dX4_floorShare_9 : decode cX4_floorShare 9 = .ok (.iload_n 0, 1) := by decide +kernel
theorem dX4_floorShare_10 : decode cX4_floorShare 10 = .ok (.iload_n 1, 1) := by decide +kernel
theorem dX4_floorShare_11 : decode cX4_floorShare 11 = .ok (.invokestatic 237, 3) := by decide +kernel
theorem dX4_floorShare_14 : decode cX4_floorShare 14 = .ok (.ireturn, 1) := by decide +kernel
theorem dX5_init_0 : decode cX5_init 0 = .ok (.aload_n 0, 1) := by decide +kernel
theorem dX5_init_1 : decode cX5_init 1 = .ok (.invokespecial 1, 3) := by decide +kernel
theorem dX5_init_4 : decode cX5_init 4 = .ok (.aload_n 0, 1) := by decide +kernel
theorem dX5_init_5 : decode cX5_init 5 = .ok (.bipush 6, 2) := by decide +kernel
theorem dX5_init_7 : decode cX5_init 7 = .ok (.newarray .int, 2) := by decide +kernel
theorem dX5_init_9 : decode cX5_init 9 = .ok (.putfield 7, 3) := by decide +kernel
theorem dX5_init_12 : decode cX5_init 12 = .ok (.aload_n 0, 1) := by decide +kernel
theorem dX5_init_13 : decode cX5_init 13 = .ok (.bipush 40, 2) := by decide +kernel
theorem dX5_init_15 : decode cX5_init 15 = .ok (.newarray .int, 2) := by decide +kernel
theorem dX5_init_17 : decode cX5_init 17 = .ok (.putfield 13, 3) := by decide +kernel
theorem dX5_init_20 : decode cX5_init 20 = .ok (.aload_n 0, 1) := by decide +kernel
theorem dX5_init_21 : decode cX5_init 21 = .ok (.bipush 40, 2) := by decide +kernel
theorem dX5_init_23 : decode cX5_init 23 = .ok (.newarray .int, 2) := by decide +kernel
theorem dX5_init_25 : decode cX5_init 25 = .ok (.putfield 16, 3) := by decide +kernel
theorem dX5_init_28 : decode cX5_init 28 = .ok (.aload_n 0, 1) := by decide +kernel
theorem dX5_init_29 : decode cX5_init 29 = .ok (.bipush 40, 2) := by decide +kernel
theorem dX5_init_31 : decode cX5_init 31 = .ok (.newarray .int, 2) := by decide +kernel
theorem dX5_init_33 : decode cX5_init 33 = .ok (.putfield 19, 3) := by decide +kernel
theorem dX5_init_36 : decode cX5_init 36 = .ok (.aload_n 0, 1) := by decide +kernel
theorem dX5_init_37 : decode cX5_init 37 = .ok (.bipush 40, 2) := by decide +kernel
theorem dX5_init_39 : decode cX5_init 39 = .ok (.newarray .int, 2) := by decide +kernel
theorem dX5_init_41 : decode cX5_init 41 = .ok (.putfield 22, 3) := by decide +kernel
theorem dX5_init_44 : decode cX5_init 44 = .ok (.aload_n 0, 1) := by decide +kernel
theorem dX5_init_45 : decode cX5_init 45 = .ok (.bipush 40, 2) := by decide +kernel
theorem dX5_init_47 : decode cX5_init 47 = .ok (.newarray .int, 2) := by decide +kernel
theorem dX5_init_49 : decode cX5_init 49 = .ok (.putfield 25, 3) := by decide +kernel
theorem dX5_init_52 : decode cX5_init 52 = .ok (.aload_n 0, 1) := by decide +kernel
theorem dX5_init_53 : decode cX5_init 53 = .ok (.bipush 40, 2) := by decide +kernel
theorem dX5_init_55 : decode cX5_init 55 = .ok (.newarray .boolean, 2) := by decide +kernel
theorem dX5_init_57 : decode cX5_init 57 = .ok (.putfield 28, 3) := by decide +kernel
theorem dX5_init_60 : decode cX5_init 60 = .ok (.aload_n 0, 1) := by decide +kernel
theorem dX5_init_61 : decode cX5_init 61 = .ok (.iconst 4, 1) := by decide +kernel
theorem dX5_init_62 : decode cX5_init 62 = .ok (.newarray .int, 2) := by decide +kernel
theorem dX5_init_64 : decode cX5_init 64 = .ok (.putfield 32, 3) := by decide +kernel
theorem dX5_init_67 : decode cX5_init 67 = .ok (.aload_n 0, 1) := by decide +kernel
theorem dX5_init_68 : decode cX5_init 68 = .ok (.bipush 20, 2) := by decide +kernel
theorem dX5_init_70 : decode cX5_init 70 = .ok (.newarray .int, 2) := by decide +kernel
theorem dX5_init_72 : decode cX5_init 72 = .ok (.putfield 35, 3) := by decide +kernel
theorem dX5_init_75 : decode cX5_init 75 = .ok (.aload_n 0, 1) := by decide +kernel
theorem dX5_init_76 : decode cX5_init 76 = .ok (.bipush 16, 2) := by decide +kernel
theorem dX5_init_78 : decode cX5_init 78 = .ok (.newarray .int, 2) := by decide +kernel
theorem dX5_init_80 : decode cX5_init 80 = .ok (.putfield 38, 3) := by decide +kernel
theorem dX5_init_83 : decode cX5_init 83 = .ok (.aload_n 0, 1) := by decide +kernel
theorem dX5_init_84 : decode cX5_init 84 = .ok (.bipush 6, 2) := by decide +kernel
theorem dX5_init_86 : decode cX5_init 86 = .ok (.newarray .boolean, 2) := by decide +kernel
theorem dX5_init_88 : decode cX5_init 88 = .ok (.putfield 41, 3) := by decide +kernel
theorem dX5_init_91 : decode cX5_init 91 = .ok (.aload_n 0, 1) := by decide +kernel
theorem dX5_init_92 : decode cX5_init 92 = .ok (.sipush 240, 3) := by decide +kernel
theorem dX5_init_95 : decode cX5_init 95 = .ok (.newarray .int, 2) := by decide +kernel
theorem dX5_init_97 : decode cX5_init 97 = .ok (.putfield 44, 3) := by decide +kernel
theorem dX5_init_100 : decode cX5_init 100 = .ok (.aload_n 0, 1) := by decide +kernel
theorem dX5_init_101 : decode cX5_init 101 = .ok (.bipush 40, 2) := by decide +kernel
theorem dX5_init_103 : decode cX5_init 103 = .ok (.newarray .int, 2) := by decide +kernel
theorem dX5_init_105 : decode cX5_init 105 = .ok (.putfield 47, 3) := by decide +kernel
theorem dX5_init_108 : decode cX5_init 108 = .ok (.aload_n 0, 1) := by decide +kernel
theorem dX5_init_109 : decode cX5_init 109 = .ok (.bipush 14, 2) := by decide +kernel
theorem dX5_init_111 : decode cX5_init 111 = .ok (.newarray .int, 2) := by decide +kernel
theorem dX5_init_113 : decode cX5_init 113 = .ok (.putfield 50, 3) := by decide +kernel
theorem dX5_init_116 : decode cX5_init 116 = .ok (.aload_n 0, 1) := by decide +kernel
theorem dX5_init_117 : decode cX5_init 117 = .ok (.bipush 14, 2) := by decide +kernel
theorem dX5_init_119 : decode cX5_init 119 = .ok (.newarray .int, 2) := by decide +kernel
theorem dX5_init_121 : decode cX5_init 121 = .ok (.putfield 53, 3) := by decide +kernel
theorem dX5_init_124 : decode cX5_init 124 = .ok (.iconst 0, 1) := by decide +kernel
theorem dX5_init_125 : decode cX5_init 125 = .ok (.istore_n 1, 1) := by decide +kernel
theorem dX5_init_126 : decode cX5_init 126 = .ok (.iload_n 1, 1) := by decide +kernel
theorem dX5_init_127 : decode cX5_init 127 = .ok (.iconst 4, 1) := by decide +kernel
theorem dX5_init_128 : decode cX5_init 128 = .ok (.if_icmp .ge 18, 3) := by decide +kernel
theorem dX5_init_131 : decode cX5_init 131 = .ok (.aload_n 0, 1) := by decide +kernel
theorem dX5_init_132 : decode cX5_init 132 = .ok (.getfield 32, 3) := by decide +kernel
theorem dX5_init_135 : decode cX5_init 135 = .ok (.iload_n 1, 1) := by decide +kernel
theorem dX5_init_136 : decode cX5_init 136 = .ok (.sipush 250, 3) := by decide +kernel
theorem dX5_init_139 : decode cX5_init 139 = .ok (.iastore, 1) := by decide +kernel
theorem dX5_init_140 : decode cX5_init 140 = .ok (.iinc 1 1, 3) := by decide +kernel
theorem dX5_init_143 : decode cX5_init 143 = .ok (.goto (-17), 3) := by decide +kernel
theorem dX5_init_146 : decode cX5_init 146 = .ok (.aload_n 0, 1) := by decide +kernel
theorem dX5_init_147 : decode cX5_init 147 = .ok (.bipush 10, 2) := by decide +kernel
theorem dX5_init_149 : decode cX5_init 149 = .ok (.invokevirtual 56, 3) := by decide +kernel
theorem dX5_init_152 : decode cX5_init 152 = .ok (.istore_n 1, 1) := by decide +kernel
theorem dX5_init_153 : decode cX5_init 153 = .ok (.return_, 1) := by decide +kernel
theorem dX5_in_0 : decode cX5_in 0 = .ok (.iload_n 0, 1) := by decide +kernel
theorem dX5_in_1 : decode cX5_in 1 = .ok (.iload_n 1, 1) := by decide +kernel
theorem dX5_in_2 : decode cX5_in 2 = .ok (.if_icmp .lt 12, 3) := by decide +kernel
theorem dX5_in_5 : decode cX5_in 5 = .ok (.iload_n 0, 1) := by decide +kernel
theorem dX5_in_6 : decode cX5_in 6 = .ok (.iload_n 2, 1) := by decide +kernel
theorem dX5_in_7 : decode cX5_in 7 = .ok (.if_icmp .gt 7, 3) := by decide +kernel
theorem dX5_in_10 : decode cX5_in 10 = .ok (.iconst 1, 1) := by decide +kernel
theorem dX5_in_11 : decode cX5_in 11 = .ok (.goto 4, 3) := by decide +kernel
theorem dX5_in_14 : decode cX5_in 14 = .ok (.iconst 0, 1) := by decide +kernel
theorem dX5_in_15 : decode cX5_in 15 = .ok (.ireturn, 1) := by decide +kernel
theorem dX5_meets_0 : decode cX5_meets 0 = .ok (.aload_n 0, 1) := by decide +kernel
theorem dX5_meets_1 : decode cX5_meets 1 = .ok (.iload_n 1, 1) := by decide +kernel
theorem dX5_meets_2 : decode cX5_meets 2 = .ok (.putfield 60, 3) := by decide +kernel
theorem dX5_meets_5 : decode cX5_meets 5 = .ok (.aload_n 0, 1) := by decide +kernel
theorem dX5_meets_6 : decode cX5_meets 6 = .ok (.getfield 7, 3) := by decide +kernel
theorem dX5_meets_9 : decode cX5_meets 9 = .ok (.iload_n 1, 1) := by decide +kernel
theorem dX5_meets_10 : decode cX5_meets 10 = .ok (.dup2, 1) := by decide +kernel
theorem dX5_meets_11 : decode cX5_meets 11 = .ok (.iaload, 1) := by decide +kernel
theorem dX5_meets_12 : decode cX5_meets 12 = .ok (.iconst 1, 1) := by decide +kernel
theorem dX5_meets_13 : decode cX5_meets 13 = .ok (.iadd, 1) := by decide +kernel
theorem dX5_meets_14 : decode cX5_meets 14 = .ok (.iastore, 1) := by decide +kernel
theorem dX5_meets_15 : decode cX5_meets 15 = .ok (.bipush (-3), 2) := by decide +kernel
theorem dX5_meets_17 : decode cX5_meets 17 = .ok (.ireturn, 1) := by decide +kernel
theorem dX5_tell_0 : decode cX5_tell 0 = .ok (.aload_n 0, 1) := by decide +kernel
theorem dX5_tell_1 : decode cX5_tell 1 = .ok (.lload_n 1, 1) := by decide +kernel
theorem dX5_tell_2 : decode cX5_tell 2 = .ok (.putfield 64, 3) := by decide +kernel
theorem dX5_tell_5 : decode cX5_tell 5 = .ok (.iload_n 3, 1) := by decide +kernel
theorem dX5_tell_6 : decode cX5_tell 6 = .ok (.ireturn, 1) := by decide +kernel
theorem dX5_line_0 : decode cX5_line 0 = .ok (.iload_n 1, 1) := by decide +kernel
theorem dX5_line_1 : decode cX5_line 1 = .ok (.iconst 3, 1) := by decide +kernel
theorem dX5_line_2 : decode cX5_line 2 = .ok (.bipush 40, 2) := by decide +kernel
theorem dX5_line_4 : decode cX5_line 4 = .ok (.invokestatic 68, 3) := by decide +kernel
theorem dX5_line_7 : decode cX5_line 7 = .ok (.ifCond .ne 5, 3) := by decide +kernel
theorem dX5_line_10 : decode cX5_line 10 = .ok (.iconst (-1), 1) := by decide +kernel
theorem dX5_line_11 : decode cX5_line 11 = .ok (.ireturn, 1) := by decide +kernel
theorem dX5_line_12 : decode cX5_line 12 = .ok (.aload_n 0, 1) := by decide +kernel
theorem dX5_line_13 : decode cX5_line 13 = .ok (.iload_n 1, 1) := by decide +kernel
theorem dX5_line_14 : decode cX5_line 14 = .ok (.putfield 72, 3) := by decide +kernel
theorem dX5_line_17 : decode cX5_line 17 = .ok (.iconst 0, 1) := by decide +kernel
theorem dX5_line_18 : decode cX5_line 18 = .ok (.istore_n 2, 1) := by decide +kernel
theorem dX5_line_19 : decode cX5_line 19 = .ok (.iload_n 2, 1) := by decide +kernel
theorem dX5_line_20 : decode cX5_line 20 = .ok (.bipush 40, 2) := by decide +kernel
theorem dX5_line_22 : decode cX5_line 22 = .ok (.if_icmp .ge 51, 3) := by decide +kernel
theorem dX5_line_25 : decode cX5_line 25 = .ok (.aload_n 0, 1) := by decide +kernel
theorem dX5_line_26 : decode cX5_line 26 = .ok (.getfield 13, 3) := by decide +kernel
theorem dX5_line_29 : decode cX5_line 29 = .ok (.iload_n 2, 1) := by decide +kernel
theorem dX5_line_30 : decode cX5_line 30 = .ok (.iconst 0, 1) := by decide +kernel
theorem dX5_line_31 : decode cX5_line 31 = .ok (.iastore, 1) := by decide +kernel
theorem dX5_line_32 : decode cX5_line 32 = .ok (.aload_n 0, 1) := by decide +kernel
theorem dX5_line_33 : decode cX5_line 33 = .ok (.getfield 16, 3) := by decide +kernel
theorem dX5_line_36 : decode cX5_line 36 = .ok (.iload_n 2, 1) := by decide +kernel
theorem dX5_line_37 : decode cX5_line 37 = .ok (.iconst 0, 1) := by decide +kernel
theorem dX5_line_38 : decode cX5_line 38 = .ok (.iastore, 1) := by decide +kernel
theorem dX5_line_39 : decode cX5_line 39 = .ok (.aload_n 0, 1) := by decide +kernel
theorem dX5_line_40 : decode cX5_line 40 = .ok (.getfield 19, 3) := by decide +kernel
theorem dX5_line_43 : decode cX5_line 43 = .ok (.iload_n 2, 1) := by decide +kernel
theorem dX5_line_44 : decode cX5_line 44 = .ok (.iconst 5, 1) := by decide +kernel
theorem dX5_line_45 : decode cX5_line 45 = .ok (.iastore, 1) := by decide +kernel
theorem dX5_line_46 : decode cX5_line 46 = .ok (.aload_n 0, 1) := by decide +kernel
theorem dX5_line_47 : decode cX5_line 47 = .ok (.getfield 22, 3) := by decide +kernel
theorem dX5_line_50 : decode cX5_line 50 = .ok (.iload_n 2, 1) := by decide +kernel
theorem dX5_line_51 : decode cX5_line 51 = .ok (.iconst 0, 1) := by decide +kernel
theorem dX5_line_52 : decode cX5_line 52 = .ok (.iastore, 1) := by decide +kernel
theorem dX5_line_53 : decode cX5_line 53 = .ok (.aload_n 0, 1) := by decide +kernel
theorem dX5_line_54 : decode cX5_line 54 = .ok (.getfield 25, 3) := by decide +kernel
theorem dX5_line_57 : decode cX5_line 57 = .ok (.iload_n 2, 1) := by decide +kernel
theorem dX5_line_58 : decode cX5_line 58 = .ok (.iconst 0, 1) := by decide +kernel
theorem dX5_line_59 : decode cX5_line 59 = .ok (.iastore, 1) := by decide +kernel
theorem dX5_line_60 : decode cX5_line 60 = .ok (.aload_n 0, 1) := by decide +kernel
theorem dX5_line_61 : decode cX5_line 61 = .ok (.getfield 28, 3) := by decide +kernel
theorem dX5_line_64 : decode cX5_line 64 = .ok (.iload_n 2, 1) := by decide +kernel
theorem dX5_line_65 : decode cX5_line 65 = .ok (.iconst 0, 1) := by decide +kernel
theorem dX5_line_66 : decode cX5_line 66 = .ok (.bastore, 1) := by decide +kernel
theorem dX5_line_67 : decode cX5_line 67 = .ok (.iinc 2 1, 3) := by decide +kernel
theorem dX5_line_70 : decode cX5_line 70 = .ok (.goto (-51), 3) := by decide +kernel
theorem dX5_line_73 : decode cX5_line 73 = .ok (.iload_n 1, 1) := by decide +kernel
theorem dX5_line_74 : decode cX5_line 74 = .ok (.ireturn, 1) := by decide +kernel
theorem dX5_isSleeper_0 : decode cX5_isSleeper 0 = .ok (.iload_n 1, 1) := by decide +kernel
theorem dX5_isSleeper_1 : decode cX5_isSleeper 1 = .ok (.iconst 0, 1) := by decide +kernel
theorem dX5_isSleeper_2 : decode cX5_isSleeper 2 = .ok (.aload_n 0, 1) := by decide +kernel
theorem dX5_isSleeper_3 : decode cX5_isSleeper 3 = .ok (.getfield 72, 3) := by decide +kernel
theorem dX5_isSleeper_6 : decode cX5_isSleeper 6 = .ok (.iconst 1, 1) := by decide +kernel
theorem dX5_isSleeper_7 : decode cX5_isSleeper 7 = .ok (.isub, 1) := by decide +kernel
theorem dX5_isSleeper_8 : decode cX5_isSleeper 8 = .ok (.invokestatic 68, 3) := by decide +kernel
theorem dX5_isSleeper_11 : decode cX5_isSleeper 11 = .ok (.ireturn, 1) := by decide +kernel
theorem dX5_looked_0 : decode cX5_looked 0 = .ok (.aload_n 0, 1) := by decide +kernel
theorem dX5_looked_1 : decode cX5_looked 1 = .ok (.iload_n 1, 1) := by decide +kernel
theorem dX5_looked_2 : decode cX5_looked 2 = .ok (.invokevirtual 75, 3) := by decide +kernel
theorem dX5_looked_5 : decode cX5_looked 5 = .ok (.ifCond .ne 7, 3) := by decide +kernel
theorem dX5_looked_8 : decode cX5_looked 8 = .ok (.iconst (-1), 1) := by decide +kernel
theorem dX5_looked_9 : decode cX5_looked 9 = .ok (.goto 21, 3) := by decide +kernel
theorem dX5_looked_12 : decode cX5_looked 12 = .ok (.aload_n 0, 1) := by decide +kernel
theorem dX5_looked_13 : decode cX5_looked 13 = .ok (.getfield 28, 3) := by decide +kernel
theorem dX5_looked_16 : decode cX5_looked 16 = .ok (.iload_n 1, 1) := by decide +kernel
theorem dX5_looked_17 : decode cX5_looked 17 = .ok (.baload, 1) := by decide +kernel
theorem dX5_looked_18 : decode cX5_looked 18 = .ok (.ifCond .eq 11, 3) := by decide +kernel
theorem dX5_looked_21 : decode cX5_looked 21 = .ok (.aload_n 0, 1) := by decide +kernel
theorem dX5_looked_22 : decode cX5_looked 22 = .ok (.iconst 1, 1) := by decide +kernel
theorem dX5_looked_23 : decode cX5_looked 23 = .ok (.invokevirtual 79, 3) := by decide +kernel
theorem dX5_looked_26 : decode cX5_looked 26 = .ok (.goto 4, 3) := by decide +kernel
theorem dX5_looked_29 : decode cX5_looked 29 = .ok (.iconst 0, 1) := by decide +kernel
theorem dX5_looked_30 : decode cX5_looked 30 = .ok (.ireturn, 1) := by decide +kernel
theorem dX5_sleeper_0 : decode cX5_sleeper 0 = .ok (.aload_n 0, 1) := by decide +kernel
theorem dX5_sleeper_1 : decode cX5_sleeper 1 = .ok (.iload_n 1, 1) := by decide +kernel
theorem dX5_sleeper_2 : decode cX5_sleeper 2 = .ok (.invokevirtual 75, 3) := by decide +kernel
theorem dX5_sleeper_5 : decode cX5_sleeper 5 = .ok (.ifCond .eq 12, 3) := by decide +kernel
theorem dX5_sleeper_8 : decode cX5_sleeper 8 = .ok (.iload_n 2, 1) := by decide +kernel
theorem dX5_sleeper_9 : decode cX5_sleeper 9 = .ok (.iconst 0, 1) := by decide +kernel
theorem dX5_sleeper_10 : decode cX5_sleeper 10 = .ok (.iconst 3, 1) := by decide +kernel
theorem dX5_sleeper_11 : decode cX5_sleeper 11 = .ok (.invokestatic 68, 3) := by decide +kernel
theorem dX5_sleeper_14 : decode cX5_sleeper 14 = .ok (.ifCond .ne 5, 3) := by decide +kernel
theorem dX5_sleeper_17 : decode cX5_sleeper 17 = .ok (.iconst (-1), 1) := by decide +kernel
theorem dX5_sleeper_18 : decode cX5_sleeper 18 = .ok (.ireturn, 1) := by decide +kernel
theorem dX5_sleeper_19 : decode cX5_sleeper 19 = .ok (.aload_n 0, 1) := by decide +kernel
theorem dX5_sleeper_20 : decode cX5_sleeper 20 = .ok (.getfield 13, 3) := by decide +kernel
theorem dX5_sleeper_23 : decode cX5_sleeper 23 = .ok (.iload_n 1, 1) := by decide +kernel
theorem dX5_sleeper_24 : decode cX5_sleeper 24 = .ok (.iaload, 1) := by decide +kernel
theorem dX5_sleeper_25 : decode cX5_sleeper 25 = .ok (.istore_n 3, 1) := by decide +kernel
theorem dX5_sleeper_26 : decode cX5_sleeper 26 = .ok (.aload_n 0, 1) := by decide +kernel
theorem dX5_sleeper_27 : decode cX5_sleeper 27 = .ok (.getfield 13, 3) := by decide +kernel
theorem dX5_sleeper_30 : decode cX5_sleeper 30 = .ok (.iload_n 1, 1) := by decide +kernel
theorem dX5_sleeper_31 : decode cX5_sleeper 31 = .ok (.iload_n 2, 1) := by decide +kernel
theorem dX5_sleeper_32 : decode cX5_sleeper 32 = .ok (.iastore, 1) := by decide +kernel
theorem dX5_sleeper_33 : decode cX5_sleeper 33 = .ok (.aload_n 0, 1) := by decide +kernel
theorem dX5_sleeper_34 : decode cX5_sleeper 34 = .ok (.getfield 28, 3) := by decide +kernel
theorem dX5_sleeper_37 : decode cX5_sleeper 37 = .ok (.iload_n 1, 1) := by decide +kernel
theorem dX5_sleeper_38 : decode cX5_sleeper 38 = .ok (.iconst 0, 1) := by decide +kernel
theorem dX5_sleeper_39 : decode cX5_sleeper 39 = .ok (.bastore, 1) := by decide +kernel
theorem dX5_sleeper_40 : decode cX5_sleeper 40 = .ok (.iload_n 3, 1) := by decide +kernel
theorem dX5_sleeper_41 : decode cX5_sleeper 41 = .ok (.ireturn, 1) := by decide +kernel
theorem dX5_lose_0 : decode cX5_lose 0 = .ok (.aload_n 0, 1) := by decide +kernel
theorem dX5_lose_1 : decode cX5_lose 1 = .ok (.iload_n 1, 1) := by decide +kernel
theorem dX5_lose_2 : decode cX5_lose 2 = .ok (.invokevirtual 75, 3) := by decide +kernel
theorem dX5_lose_5 : decode cX5_lose 5 = .ok (.ifCond .ne 5, 3) := by decide +kernel
theorem dX5_lose_8 : decode cX5_lose 8 = .ok (.iconst (-1), 1) := by decide +kernel
theorem dX5_lose_9 : decode cX5_lose 9 = .ok (.ireturn, 1) := by decide +kernel
theorem dX5_lose_10 : decode cX5_lose 10 = .ok (.aload_n 0, 1) := by decide +kernel
theorem dX5_lose_11 : decode cX5_lose 11 = .ok (.getfield 28, 3) := by decide +kernel
theorem dX5_lose_14 : decode cX5_lose 14 = .ok (.iload_n 1, 1) := by decide +kernel
theorem dX5_lose_15 : decode cX5_lose 15 = .ok (.baload, 1) := by decide +kernel
theorem dX5_lose_16 : decode cX5_lose 16 = .ok (.ifCond .eq 7, 3) := by decide +kernel
theorem dX5_lose_19 : decode cX5_lose 19 = .ok (.iconst 1, 1) := by decide +kernel
theorem dX5_lose_20 : decode cX5_lose 20 = .ok (.goto 4, 3) := by decide +kernel
theorem dX5_lose_23 : decode cX5_lose 23 = .ok (.iconst 0, 1) := by decide +kernel
theorem dX5_lose_24 : decode cX5_lose 24 = .ok (.istore_n 3, 1) := by decide +kernel
theorem dX5_lose_25 : decode cX5_lose 25 = .ok (.aload_n 0, 1) := by decide +kernel
theorem dX5_lose_26 : decode cX5_lose 26 = .ok (.getfield 28, 3) := by decide +kernel
theorem dX5_lose_29 : decode cX5_lose 29 = .ok (.iload_n 1, 1) := by decide +kernel
theorem dX5_lose_30 : decode cX5_lose 30 = .ok (.iload_n 2, 1) := by decide +kernel
theorem dX5_lose_31 : decode cX5_lose 31 = .ok (.bastore, 1) := by decide +kernel
theorem dX5_lose_32 : decode cX5_lose 32 = .ok (.iload_n 3, 1) := by decide +kernel
theorem dX5_lose_33 : decode cX5_lose 33 = .ok (.ireturn, 1) := by decide +kernel
theorem dX5_bed_0 : decode cX5_bed 0 = .ok (.iload_n 2, 1) := by decide +kernel
theorem dX5_bed_1 : decode cX5_bed 1 = .ok (.sipush (-10000), 3) := by decide +kernel
theorem dX5_bed_4 : decode cX5_bed 4 = .ok (.sipush 10000, 3) := by decide +kernel
theorem dX5_bed_7 : decode cX5_bed 7 = .ok (.invokestatic 68, 3) := by decide +kernel
theorem dX5_bed_10 : decode cX5_bed 10 = .ok (.ifCond .ne 5, 3) := by decide +kernel
theorem dX5_bed_13 : decode cX5_bed 13 = .ok (.iconst (-1), 1) := by decide +kernel
theorem dX5_bed_14 : decode cX5_bed 14 = .ok (.ireturn, 1) := by decide +kernel
theorem dX5_bed_15 : decode cX5_bed 15 = .ok (.aload_n 0, 1) := by decide +kernel
theorem dX5_bed_16 : decode cX5_bed 16 = .ok (.iload_n 1, 1) := by decide +kernel
theorem dX5_bed_17 : decode cX5_bed 17 = .ok (.invokevirtual 82, 3) := by decide +kernel
theorem dX5_bed_20 : decode cX5_bed 20 = .ok (.istore_n 3, 1) := by decide +kernel
theorem dX5_bed_21 : decode cX5_bed 21 = .ok (.iload_n 3, 1) := by decide +kernel
theorem dX5_bed_22 : decode cX5_bed 22 = .ok (.ifCond .ge 5, 3) := by decide +kernel
theorem dX5_bed_25 : decode cX5_bed 25 = .ok (.iload_n 3, 1) := by decide +kernel
theorem dX5_bed_26 : decode cX5_bed 26 = .ok (.ireturn, 1) := by decide +kernel
theorem dX5_bed_27 : decode cX5_bed 27 = .ok (.aload_n 0, 1) := by decide +kernel
theorem dX5_bed_28 : decode cX5_bed 28 = .ok (.aload_n 0, 1) := by decide +kernel
theorem dX5_bed_29 : decode cX5_bed 29 = .ok (.getfield 16, 3) := by decide +kernel
theorem dX5_bed_32 : decode cX5_bed 32 = .ok (.iload_n 1, 1) := by decide +kernel
theorem dX5_bed_33 : decode cX5_bed 33 = .ok (.iaload, 1) := by decide +kernel
theorem dX5_bed_34 : decode cX5_bed 34 = .ok (.i2l, 1) := by decide +kernel
theorem dX5_bed_35 : decode cX5_bed 35 = .ok (.putfield 64, 3) := by decide +kernel
theorem dX5_bed_38 : decode cX5_bed 38 = .ok (.aload_n 0, 1) := by decide +kernel
theorem dX5_bed_39 : decode cX5_bed 39 = .ok (.getfield 16, 3) := by decide +kernel
theorem dX5_bed_42 : decode cX5_bed 42 = .ok (.iload_n 1, 1) := by decide +kernel
theorem dX5_bed_43 : decode cX5_bed 43 = .ok (.iload_n 2, 1) := by decide +kernel
theorem dX5_bed_44 : decode cX5_bed 44 = .ok (.iastore, 1) := by decide +kernel
theorem dX5_bed_45 : decode cX5_bed 45 = .ok (.iconst 1, 1) := by decide +kernel
theorem dX5_bed_46 : decode cX5_bed 46 = .ok (.ireturn, 1) := by decide +kernel
theorem dX5_stones_0 : decode cX5_stones 0 = .ok (.iload_n 2, 1) := by decide +kernel
theorem dX5_stones_1 : decode cX5_stones 1 = .ok (.iconst 1, 1) := by decide +kernel
theorem dX5_stones_2 : decode cX5_stones 2 = .ok (.bipush 9, 2) := by decide +kernel
theorem dX5_stones_4 : decode cX5_stones 4 = .ok (.invokestatic 68, 3) := by decide +kernel
end
section
theorem dX5_stones_7 : decode cX5_stones 7 = .ok (.ifCond .ne 5, 3) := by decide +kernel
theorem dX5_stones_10 : decode cX5_stones 10 = .ok (.iconst (-1), 1) := by decide +kernel
theorem dX5_stones_11 : decode cX5_stones 11 = .ok (.ireturn, 1) := by decide +kernel
theorem dX5_stones_12 : decode cX5_stones 12 = .ok (.aload_n 0, 1) := by decide +kernel
theorem dX5_stones_13 : decode cX5_stones 13 = .ok (.iload_n 1, 1) := by decide +kernel
theorem dX5_stones_14 : decode cX5_stones 14 = .ok (.invokevirtual 82, 3) := by decide +kernel
theorem dX5_stones_17 : decode cX5_stones 17 = .ok (.istore_n 3, 1) := by decide +kernel
theorem dX5_stones_18 : decode cX5_stones 18 = .ok (.iload_n 3, 1) := by decide +kernel
theorem dX5_stones_19 : decode cX5_stones 19 = .ok (.ifCond .ge 5, 3) := by decide +kernel
theorem dX5_stones_22 : decode cX5_stones 22 = .ok (.iload_n 3, 1) := by decide +kernel
theorem dX5_stones_23 : decode cX5_stones 23 = .ok (.ireturn, 1) := by decide +kernel
theorem dX5_stones_24 : decode cX5_stones 24 = .ok (.aload_n 0, 1) := by decide +kernel
theorem dX5_stones_25 : decode cX5_stones 25 = .ok (.getfield 19, 3) := by decide +kernel
theorem dX5_stones_28 : decode cX5_stones 28 = .ok (.iload_n 1, 1) := by decide +kernel
theorem dX5_stones_29 : decode cX5_stones 29 = .ok (.iaload, 1) := by decide +kernel
theorem dX5_stones_30 : decode cX5_stones 30 = .ok (.istore 4, 2) := by decide +kernel
theorem dX5_stones_32 : decode cX5_stones 32 = .ok (.aload_n 0, 1) := by decide +kernel
theorem dX5_stones_33 : decode cX5_stones 33 = .ok (.getfield 19, 3) := by decide +kernel
theorem dX5_stones_36 : decode cX5_stones 36 = .ok (.iload_n 1, 1) := by decide +kernel
theorem dX5_stones_37 : decode cX5_stones 37 = .ok (.iload_n 2, 1) := by decide +kernel
theorem dX5_stones_38 : decode cX5_stones 38 = .ok (.iastore, 1) := by decide +kernel
theorem dX5_stones_39 : decode cX5_stones 39 = .ok (.iload 4, 2) := by decide +kernel
theorem dX5_stones_41 : decode cX5_stones 41 = .ok (.ireturn, 1) := by decide +kernel
theorem dX5_tells_0 : decode cX5_tells 0 = .ok (.iload_n 2, 1) := by decide +kernel
theorem dX5_tells_1 : decode cX5_tells 1 = .ok (.ifCond .ne 12, 3) := by decide +kernel
theorem dX5_tells_4 : decode cX5_tells 4 = .ok (.aload_n 0, 1) := by decide +kernel
theorem dX5_tells_5 : decode cX5_tells 5 = .ok (.getfield 13, 3) := by decide +kernel
theorem dX5_tells_8 : decode cX5_tells 8 = .ok (.iload_n 1, 1) := by decide +kernel
theorem dX5_tells_9 : decode cX5_tells 9 = .ok (.iaload, 1) := by decide +kernel
theorem dX5_tells_10 : decode cX5_tells 10 = .ok (.goto 45, 3) := by decide +kernel
theorem dX5_tells_13 : decode cX5_tells 13 = .ok (.iload_n 2, 1) := by decide +kernel
theorem dX5_tells_14 : decode cX5_tells 14 = .ok (.iconst 1, 1) := by decide +kernel
theorem dX5_tells_15 : decode cX5_tells 15 = .ok (.if_icmp .ne 12, 3) := by decide +kernel
theorem dX5_tells_18 : decode cX5_tells 18 = .ok (.aload_n 0, 1) := by decide +kernel
theorem dX5_tells_19 : decode cX5_tells 19 = .ok (.getfield 19, 3) := by decide +kernel
theorem dX5_tells_22 : decode cX5_tells 22 = .ok (.iload_n 1, 1) := by decide +kernel
theorem dX5_tells_23 : decode cX5_tells 23 = .ok (.iaload, 1) := by decide +kernel
theorem dX5_tells_24 : decode cX5_tells 24 = .ok (.goto 31, 3) := by decide +kernel
theorem dX5_tells_27 : decode cX5_tells 27 = .ok (.iload_n 2, 1) := by decide +kernel
theorem dX5_tells_28 : decode cX5_tells 28 = .ok (.iconst 2, 1) := by decide +kernel
theorem dX5_tells_29 : decode cX5_tells 29 = .ok (.if_icmp .ne 12, 3) := by decide +kernel
theorem dX5_tells_32 : decode cX5_tells 32 = .ok (.aload_n 0, 1) := by decide +kernel
theorem dX5_tells_33 : decode cX5_tells 33 = .ok (.getfield 22, 3) := by decide +kernel
theorem dX5_tells_36 : decode cX5_tells 36 = .ok (.iload_n 1, 1) := by decide +kernel
theorem dX5_tells_37 : decode cX5_tells 37 = .ok (.iaload, 1) := by decide +kernel
theorem dX5_tells_38 : decode cX5_tells 38 = .ok (.goto 17, 3) := by decide +kernel
theorem dX5_tells_41 : decode cX5_tells 41 = .ok (.aload_n 0, 1) := by decide +kernel
theorem dX5_tells_42 : decode cX5_tells 42 = .ok (.getfield 28, 3) := by decide +kernel
theorem dX5_tells_45 : decode cX5_tells 45 = .ok (.iload_n 1, 1) := by decide +kernel
theorem dX5_tells_46 : decode cX5_tells 46 = .ok (.baload, 1) := by decide +kernel
theorem dX5_tells_47 : decode cX5_tells 47 = .ok (.ifCond .eq 7, 3) := by decide +kernel
theorem dX5_tells_50 : decode cX5_tells 50 = .ok (.iconst 1, 1) := by decide +kernel
theorem dX5_tells_51 : decode cX5_tells 51 = .ok (.goto 4, 3) := by decide +kernel
theorem dX5_tells_54 : decode cX5_tells 54 = .ok (.iconst 0, 1) := by decide +kernel
theorem dX5_tells_55 : decode cX5_tells 55 = .ok (.ireturn, 1) := by decide +kernel
theorem dX5_told_0 : decode cX5_told 0 = .ok (.aload_n 0, 1) := by decide +kernel
theorem dX5_told_1 : decode cX5_told 1 = .ok (.iload_n 1, 1) := by decide +kernel
theorem dX5_told_2 : decode cX5_told 2 = .ok (.invokevirtual 75, 3) := by decide +kernel
theorem dX5_told_5 : decode cX5_told 5 = .ok (.ifCond .eq 21, 3) := by decide +kernel
theorem dX5_told_8 : decode cX5_told 8 = .ok (.iload_n 2, 1) := by decide +kernel
theorem dX5_told_9 : decode cX5_told 9 = .ok (.iconst 0, 1) := by decide +kernel
theorem dX5_told_10 : decode cX5_told 10 = .ok (.iconst 3, 1) := by decide +kernel
theorem dX5_told_11 : decode cX5_told 11 = .ok (.invokestatic 68, 3) := by decide +kernel
theorem dX5_told_14 : decode cX5_told 14 = .ok (.ifCond .eq 12, 3) := by decide +kernel
theorem dX5_told_17 : decode cX5_told 17 = .ok (.aload_n 0, 1) := by decide +kernel
theorem dX5_told_18 : decode cX5_told 18 = .ok (.iload_n 1, 1) := by decide +kernel
theorem dX5_told_19 : decode cX5_told 19 = .ok (.iload_n 2, 1) := by decide +kernel
theorem dX5_told_20 : decode cX5_told 20 = .ok (.invokevirtual 85, 3) := by decide +kernel
theorem dX5_told_23 : decode cX5_told 23 = .ok (.goto 4, 3) := by decide +kernel
theorem dX5_told_26 : decode cX5_told 26 = .ok (.iconst (-1), 1) := by decide +kernel
theorem dX5_told_27 : decode cX5_told 27 = .ok (.ireturn, 1) := by decide +kernel
theorem dX5_mark_0 : decode cX5_mark 0 = .ok (.iload_n 2, 1) := by decide +kernel
theorem dX5_mark_1 : decode cX5_mark 1 = .ok (.iconst 1, 1) := by decide +kernel
theorem dX5_mark_2 : decode cX5_mark 2 = .ok (.iconst 3, 1) := by decide +kernel
theorem dX5_mark_3 : decode cX5_mark 3 = .ok (.invokestatic 68, 3) := by decide +kernel
theorem dX5_mark_6 : decode cX5_mark 6 = .ok (.ifCond .ne 5, 3) := by decide +kernel
theorem dX5_mark_9 : decode cX5_mark 9 = .ok (.iconst (-1), 1) := by decide +kernel
theorem dX5_mark_10 : decode cX5_mark 10 = .ok (.ireturn, 1) := by decide +kernel
theorem dX5_mark_11 : decode cX5_mark 11 = .ok (.aload_n 0, 1) := by decide +kernel
theorem dX5_mark_12 : decode cX5_mark 12 = .ok (.iload_n 1, 1) := by decide +kernel
theorem dX5_mark_13 : decode cX5_mark 13 = .ok (.invokevirtual 82, 3) := by decide +kernel
theorem dX5_mark_16 : decode cX5_mark 16 = .ok (.istore_n 3, 1) := by decide +kernel
theorem dX5_mark_17 : decode cX5_mark 17 = .ok (.iload_n 3, 1) := by decide +kernel
theorem dX5_mark_18 : decode cX5_mark 18 = .ok (.ifCond .ge 5, 3) := by decide +kernel
theorem dX5_mark_21 : decode cX5_mark 21 = .ok (.iload_n 3, 1) := by decide +kernel
theorem dX5_mark_22 : decode cX5_mark 22 = .ok (.ireturn, 1) := by decide +kernel
theorem dX5_mark_23 : decode cX5_mark 23 = .ok (.iload_n 2, 1) := by decide +kernel
theorem dX5_mark_24 : decode cX5_mark 24 = .ok (.aload_n 0, 1) := by decide +kernel
theorem dX5_mark_25 : decode cX5_mark 25 = .ok (.getfield 13, 3) := by decide +kernel
theorem dX5_mark_28 : decode cX5_mark 28 = .ok (.iload_n 1, 1) := by decide +kernel
theorem dX5_mark_29 : decode cX5_mark 29 = .ok (.iaload, 1) := by decide +kernel
theorem dX5_mark_30 : decode cX5_mark 30 = .ok (.if_icmp .eq 24, 3) := by decide +kernel
theorem dX5_mark_33 : decode cX5_mark 33 = .ok (.iload_n 2, 1) := by decide +kernel
theorem dX5_mark_34 : decode cX5_mark 34 = .ok (.iconst 1, 1) := by decide +kernel
theorem dX5_mark_35 : decode cX5_mark 35 = .ok (.if_icmp .ne 13, 3) := by decide +kernel
theorem dX5_mark_38 : decode cX5_mark 38 = .ok (.aload_n 0, 1) := by decide +kernel
theorem dX5_mark_39 : decode cX5_mark 39 = .ok (.getfield 13, 3) := by decide +kernel
theorem dX5_mark_42 : decode cX5_mark 42 = .ok (.iload_n 1, 1) := by decide +kernel
theorem dX5_mark_43 : decode cX5_mark 43 = .ok (.iaload, 1) := by decide +kernel
theorem dX5_mark_44 : decode cX5_mark 44 = .ok (.iconst 3, 1) := by decide +kernel
theorem dX5_mark_45 : decode cX5_mark 45 = .ok (.if_icmp .eq 9, 3) := by decide +kernel
theorem dX5_mark_48 : decode cX5_mark 48 = .ok (.aload_n 0, 1) := by decide +kernel
theorem dX5_mark_49 : decode cX5_mark 49 = .ok (.iconst 3, 1) := by decide +kernel
theorem dX5_mark_50 : decode cX5_mark 50 = .ok (.invokevirtual 79, 3) := by decide +kernel
theorem dX5_mark_53 : decode cX5_mark 53 = .ok (.ireturn, 1) := by decide +kernel
theorem dX5_mark_54 : decode cX5_mark 54 = .ok (.iload_n 2, 1) := by decide +kernel
theorem dX5_mark_55 : decode cX5_mark 55 = .ok (.iconst 1, 1) := by decide +kernel
theorem dX5_mark_56 : decode cX5_mark 56 = .ok (.if_icmp .ne 12, 3) := by decide +kernel
theorem dX5_mark_59 : decode cX5_mark 59 = .ok (.aload_n 0, 1) := by decide +kernel
theorem dX5_mark_60 : decode cX5_mark 60 = .ok (.getfield 22, 3) := by decide +kernel
theorem dX5_mark_63 : decode cX5_mark 63 = .ok (.iload_n 1, 1) := by decide +kernel
theorem dX5_mark_64 : decode cX5_mark 64 = .ok (.iaload, 1) := by decide +kernel
theorem dX5_mark_65 : decode cX5_mark 65 = .ok (.goto 23, 3) := by decide +kernel
theorem dX5_mark_68 : decode cX5_mark 68 = .ok (.iload_n 2, 1) := by decide +kernel
theorem dX5_mark_69 : decode cX5_mark 69 = .ok (.iconst 2, 1) := by decide +kernel
theorem dX5_mark_70 : decode cX5_mark 70 = .ok (.if_icmp .ne 12, 3) := by decide +kernel
theorem dX5_mark_73 : decode cX5_mark 73 = .ok (.aload_n 0, 1) := by decide +kernel
theorem dX5_mark_74 : decode cX5_mark 74 = .ok (.getfield 19, 3) := by decide +kernel
theorem dX5_mark_77 : decode cX5_mark 77 = .ok (.iload_n 1, 1) := by decide +kernel
theorem dX5_mark_78 : decode cX5_mark 78 = .ok (.iaload, 1) := by decide +kernel
theorem dX5_mark_79 : decode cX5_mark 79 = .ok (.goto 9, 3) := by decide +kernel
theorem dX5_mark_82 : decode cX5_mark 82 = .ok (.aload_n 0, 1) := by decide +kernel
theorem dX5_mark_83 : decode cX5_mark 83 = .ok (.getfield 25, 3) := by decide +kernel
theorem dX5_mark_86 : decode cX5_mark 86 = .ok (.iload_n 1, 1) := by decide +kernel
theorem dX5_mark_87 : decode cX5_mark 87 = .ok (.iaload, 1) := by decide +kernel
theorem dX5_mark_88 : decode cX5_mark 88 = .ok (.ireturn, 1) := by decide +kernel
theorem dX5_floor_0 : decode cX5_floor 0 = .ok (.lload_n 0, 1) := by decide +kernel
theorem dX5_floor_1 : decode cX5_floor 1 = .ok (.iload_n 2, 1) := by decide +kernel
theorem dX5_floor_2 : decode cX5_floor 2 = .ok (.i2l, 1) := by decide +kernel
theorem dX5_floor_3 : decode cX5_floor 3 = .ok (.ldiv, 1) := by decide +kernel
theorem dX5_floor_4 : decode cX5_floor 4 = .ok (.lstore_n 3, 1) := by decide +kernel
theorem dX5_floor_5 : decode cX5_floor 5 = .ok (.lload_n 0, 1) := by decide +kernel
theorem dX5_floor_6 : decode cX5_floor 6 = .ok (.iload_n 2, 1) := by decide +kernel
theorem dX5_floor_7 : decode cX5_floor 7 = .ok (.i2l, 1) := by decide +kernel
theorem dX5_floor_8 : decode cX5_floor 8 = .ok (.lrem, 1) := by decide +kernel
theorem dX5_floor_9 : decode cX5_floor 9 = .ok (.lconst 0, 1) := by decide +kernel
theorem dX5_floor_10 : decode cX5_floor 10 = .ok (.lcmp, 1) := by decide +kernel
theorem dX5_floor_11 : decode cX5_floor 11 = .ok (.ifCond .ge 9, 3) := by decide +kernel
theorem dX5_floor_14 : decode cX5_floor 14 = .ok (.lload_n 3, 1) := by decide +kernel
theorem dX5_floor_15 : decode cX5_floor 15 = .ok (.lconst 1, 1) := by decide +kernel
theorem dX5_floor_16 : decode cX5_floor 16 = .ok (.lsub, 1) := by decide +kernel
theorem dX5_floor_17 : decode cX5_floor 17 = .ok (.goto 4, 3) := by decide +kernel
theorem dX5_floor_20 : decode cX5_floor 20 = .ok (.lload_n 3, 1) := by decide +kernel
theorem dX5_floor_21 : decode cX5_floor 21 = .ok (.l2i, 1) := by decide +kernel
theorem dX5_floor_22 : decode cX5_floor 22 = .ok (.ireturn, 1) := by decide +kernel
theorem dX5_railAt_0 : decode cX5_railAt 0 = .ok (.iconst 0, 1) := by decide +kernel
theorem dX5_railAt_1 : decode cX5_railAt 1 = .ok (.istore_n 2, 1) := by decide +kernel
theorem dX5_railAt_2 : decode cX5_railAt 2 = .ok (.iconst 0, 1) := by decide +kernel
theorem dX5_railAt_3 : decode cX5_railAt 3 = .ok (.istore_n 3, 1) := by decide +kernel
theorem dX5_railAt_4 : decode cX5_railAt 4 = .ok (.iload_n 1, 1) := by decide +kernel
theorem dX5_railAt_5 : decode cX5_railAt 5 = .ok (.istore 4, 2) := by decide +kernel
theorem dX5_railAt_7 : decode cX5_railAt 7 = .ok (.iload 4, 2) := by decide +kernel
theorem dX5_railAt_9 : decode cX5_railAt 9 = .ok (.ifCond .lt 139, 3) := by decide +kernel
theorem dX5_railAt_12 : decode cX5_railAt 12 = .ok (.iload 4, 2) := by decide +kernel
theorem dX5_railAt_14 : decode cX5_railAt 14 = .ok (.iload_n 1, 1) := by decide +kernel
theorem dX5_railAt_15 : decode cX5_railAt 15 = .ok (.iconst 4, 1) := by decide +kernel
theorem dX5_railAt_16 : decode cX5_railAt 16 = .ok (.isub, 1) := by decide +kernel
theorem dX5_railAt_17 : decode cX5_railAt 17 = .ok (.if_icmp .lt 131, 3) := by decide +kernel
theorem dX5_railAt_20 : decode cX5_railAt 20 = .ok (.iload_n 1, 1) := by decide +kernel
theorem dX5_railAt_21 : decode cX5_railAt 21 = .ok (.istore 5, 2) := by decide +kernel
theorem dX5_railAt_23 : decode cX5_railAt 23 = .ok (.iload 5, 2) := by decide +kernel
theorem dX5_railAt_25 : decode cX5_railAt 25 = .ok (.aload_n 0, 1) := by decide +kernel
theorem dX5_railAt_26 : decode cX5_railAt 26 = .ok (.getfield 72, 3) := by decide +kernel
theorem dX5_railAt_29 : decode cX5_railAt 29 = .ok (.if_icmp .ge 113, 3) := by decide +kernel
theorem dX5_railAt_32 : decode cX5_railAt 32 = .ok (.iload 5, 2) := by decide +kernel
theorem dX5_railAt_34 : decode cX5_railAt 34 = .ok (.iload 4, 2) := by decide +kernel
theorem dX5_railAt_36 : decode cX5_railAt 36 = .ok (.iconst 4, 1) := by decide +kernel
theorem dX5_railAt_37 : decode cX5_railAt 37 = .ok (.iadd, 1) := by decide +kernel
theorem dX5_railAt_38 : decode cX5_railAt 38 = .ok (.if_icmp .gt 104, 3) := by decide +kernel
theorem dX5_railAt_41 : decode cX5_railAt 41 = .ok (.aload_n 0, 1) := by decide +kernel
theorem dX5_railAt_42 : decode cX5_railAt 42 = .ok (.getfield 28, 3) := by decide +kernel
theorem dX5_railAt_45 : decode cX5_railAt 45 = .ok (.iload 4, 2) := by decide +kernel
theorem dX5_railAt_47 : decode cX5_railAt 47 = .ok (.baload, 1) := by decide +kernel
theorem dX5_railAt_48 : decode cX5_railAt 48 = .ok (.ifCond .ne 88, 3) := by decide +kernel
theorem dX5_railAt_51 : decode cX5_railAt 51 = .ok (.aload_n 0, 1) := by decide +kernel
theorem dX5_railAt_52 : decode cX5_railAt 52 = .ok (.getfield 28, 3) := by decide +kernel
theorem dX5_railAt_55 : decode cX5_railAt 55 = .ok (.iload 5, 2) := by decide +kernel
theorem dX5_railAt_57 : decode cX5_railAt 57 = .ok (.baload, 1) := by decide +kernel
theorem dX5_railAt_58 : decode cX5_railAt 58 = .ok (.ifCond .ne 78, 3) := by decide +kernel
theorem dX5_railAt_61 : decode cX5_railAt 61 = .ok (.iload 4, 2) := by decide +kernel
theorem dX5_railAt_63 : decode cX5_railAt 63 = .ok (.iload 5, 2) := by decide +kernel
theorem dX5_railAt_65 : decode cX5_railAt 65 = .ok (.if_icmp .ne 13, 3) := by decide +kernel
theorem dX5_railAt_68 : decode cX5_railAt 68 = .ok (.aload_n 0, 1) := by decide +kernel
theorem dX5_railAt_69 : decode cX5_railAt 69 = .ok (.getfield 16, 3) := by decide +kernel
theorem dX5_railAt_72 : decode cX5_railAt 72 = .ok (.iload 4, 2) := by decide +kernel
theorem dX5_railAt_74 : decode cX5_railAt 74 = .ok (.iaload, 1) := by decide +kernel
theorem dX5_railAt_75 : decode cX5_railAt 75 = .ok (.goto 40, 3) := by decide +kernel
theorem dX5_railAt_78 : decode cX5_railAt 78 = .ok (.aload_n 0, 1) := by decide +kernel
theorem dX5_railAt_79 : decode cX5_railAt 79 = .ok (.getfield 16, 3) := by decide +kernel
theorem dX5_railAt_82 : decode cX5_railAt 82 = .ok (.iload 4, 2) := by decide +kernel
theorem dX5_railAt_84 : decode cX5_railAt 84 = .ok (.iaload, 1) := by decide +kernel
theorem dX5_railAt_85 : decode cX5_railAt 85 = .ok (.i2l, 1) := by decide +kernel
theorem dX5_railAt_86 : decode cX5_railAt 86 = .ok (.iload 5, 2) := by decide +kernel
theorem dX5_railAt_88 : decode cX5_railAt 88 = .ok (.iload_n 1, 1) := by decide +kernel
theorem dX5_railAt_89 : decode cX5_railAt 89 = .ok (.isub, 1) := by decide +kernel
theorem dX5_railAt_90 : decode cX5_railAt 90 = .ok (.i2l, 1) := by decide +kernel
theorem dX5_railAt_91 : decode cX5_railAt 91 = .ok (.lmul, 1) := by decide +kernel
theorem dX5_railAt_92 : decode cX5_railAt 92 = .ok (.aload_n 0, 1) := by decide +kernel
theorem dX5_railAt_93 : decode cX5_railAt 93 = .ok (.getfield 16, 3) := by decide +kernel
theorem dX5_railAt_96 : decode cX5_railAt 96 = .ok (.iload 5, 2) := by decide +kernel
theorem dX5_railAt_98 : decode cX5_railAt 98 = .ok (.iaload, 1) := by decide +kernel
theorem dX5_railAt_99 : decode cX5_railAt 99 = .ok (.i2l, 1) := by decide +kernel
theorem dX5_railAt_100 : decode cX5_railAt 100 = .ok (.iload_n 1, 1) := by decide +kernel
theorem dX5_railAt_101 : decode cX5_railAt 101 = .ok (.iload 4, 2) := by decide +kernel
theorem dX5_railAt_103 : decode cX5_railAt 103 = .ok (.isub, 1) := by decide +kernel
theorem dX5_railAt_104 : decode cX5_railAt 104 = .ok (.i2l, 1) := by decide +kernel
theorem dX5_railAt_105 : decode cX5_railAt 105 = .ok (.lmul, 1) := by decide +kernel
theorem dX5_railAt_106 : decode cX5_railAt 106 = .ok (.ladd, 1) := by decide +kernel
theorem dX5_railAt_107 : decode cX5_railAt 107 = .ok (.iload 5, 2) := by decide +kernel
theorem dX5_railAt_109 : decode cX5_railAt 109 = .ok (.iload 4, 2) := by decide +kernel
theorem dX5_railAt_111 : decode cX5_railAt 111 = .ok (.isub, 1) := by decide +kernel
theorem dX5_railAt_112 : decode cX5_railAt 112 = .ok (.invokestatic 89, 3) := by decide +kernel
theorem dX5_railAt_115 : decode cX5_railAt 115 = .ok (.istore 6, 2) := by decide +kernel
theorem dX5_railAt_117 : decode cX5_railAt 117 = .ok (.iload_n 2, 1) := by decide +kernel
theorem dX5_railAt_118 : decode cX5_railAt 118 = .ok (.ifCond .eq 9, 3) := by decide +kernel
theorem dX5_railAt_121 : decode cX5_railAt 121 = .ok (.iload 6, 2) := by decide +kernel
theorem dX5_railAt_123 : decode cX5_railAt 123 = .ok (.iload_n 3, 1) := by decide +kernel
theorem dX5_railAt_124 : decode cX5_railAt 124 = .ok (.if_icmp .le 8, 3) := by decide +kernel
theorem dX5_railAt_127 : decode cX5_railAt 127 = .ok (.iload 6, 2) := by decide +kernel
theorem dX5_railAt_129 : decode cX5_railAt 129 = .ok (.goto 4, 3) := by decide +kernel
theorem dX5_railAt_132 : decode cX5_railAt 132 = .ok (.iload_n 3, 1) := by decide +kernel
theorem dX5_railAt_133 : decode cX5_railAt 133 = .ok (.istore_n 3, 1) := by decide +kernel
theorem dX5_railAt_134 : decode cX5_railAt 134 = .ok (.iconst 1, 1) := by decide +kernel
theorem dX5_railAt_135 : decode cX5_railAt 135 = .ok (.istore_n 2, 1) := by decide +kernel
theorem dX5_railAt_136 : decode cX5_railAt 136 = .ok (.iinc 5 1, 3) := by decide +kernel
theorem dX5_railAt_139 : decode cX5_railAt 139 = .ok (.goto (-116), 3) := by decide +kernel
theorem dX5_railAt_142 : decode cX5_railAt 142 = .ok (.iinc 4 (-1), 3) := by decide +kernel
theorem dX5_railAt_145 : decode cX5_railAt 145 = .ok (.goto (-138), 3) := by decide +kernel
theorem dX5_railAt_148 : decode cX5_railAt 148 = .ok (.iconst 1, 1) := by decide +kernel
theorem dX5_railAt_149 : decode cX5_railAt 149 = .ok (.istore 4, 2) := by decide +kernel
theorem dX5_railAt_151 : decode cX5_railAt 151 = .ok (.iload 4, 2) := by decide +kernel
theorem dX5_railAt_153 : decode cX5_railAt 153 = .ok (.aload_n 0, 1) := by decide +kernel
theorem dX5_railAt_154 : decode cX5_railAt 154 = .ok (.getfield 72, 3) := by decide +kernel
theorem dX5_railAt_157 : decode cX5_railAt 157 = .ok (.if_icmp .ge 70, 3) := by decide +kernel
theorem dX5_railAt_160 : decode cX5_railAt 160 = .ok (.iload_n 2, 1) := by decide +kernel
theorem dX5_railAt_161 : decode cX5_railAt 161 = .ok (.ifCond .ne 66, 3) := by decide +kernel
theorem dX5_railAt_164 : decode cX5_railAt 164 = .ok (.iconst (-1), 1) := by decide +kernel
theorem dX5_railAt_165 : decode cX5_railAt 165 = .ok (.istore 5, 2) := by decide +kernel
theorem dX5_railAt_167 : decode cX5_railAt 167 = .ok (.iload 5, 2) := by decide +kernel
theorem dX5_railAt_169 : decode cX5_railAt 169 = .ok (.iconst 2, 1) := by decide +kernel
theorem dX5_railAt_170 : decode cX5_railAt 170 = .ok (.if_icmp .ge 51, 3) := by decide +kernel
theorem dX5_railAt_173 : decode cX5_railAt 173 = .ok (.iload_n 2, 1) := by decide +kernel
theorem dX5_railAt_174 : decode cX5_railAt 174 = .ok (.ifCond .ne 47, 3) := by decide +kernel
theorem dX5_railAt_177 : decode cX5_railAt 177 = .ok (.iload_n 1, 1) := by decide +kernel
theorem dX5_railAt_178 : decode cX5_railAt 178 = .ok (.iload 5, 2) := by decide +kernel
theorem dX5_railAt_180 : decode cX5_railAt 180 = .ok (.iload 4, 2) := by decide +kernel
theorem dX5_railAt_182 : decode cX5_railAt 182 = .ok (.imul, 1) := by decide +kernel
theorem dX5_railAt_183 : decode cX5_railAt 183 = .ok (.iadd, 1) := by decide +kernel
theorem dX5_railAt_184 : decode cX5_railAt 184 = .ok (.istore 6, 2) := by decide +kernel
theorem dX5_railAt_186 : decode cX5_railAt 186 = .ok (.aload_n 0, 1) := by decide +kernel
theorem dX5_railAt_187 : decode cX5_railAt 187 = .ok (.iload 6, 2) := by decide +kernel
theorem dX5_railAt_189 : decode cX5_railAt 189 = .ok (.invokevirtual 75, 3) := by decide +kernel
theorem dX5_railAt_192 : decode cX5_railAt 192 = .ok (.ifCond .eq 23, 3) := by decide +kernel
theorem dX5_railAt_195 : decode cX5_railAt 195 = .ok (.aload_n 0, 1) := by decide +kernel
theorem dX5_railAt_196 : decode cX5_railAt 196 = .ok (.getfield 28, 3) := by decide +kernel
theorem dX5_railAt_199 : decode cX5_railAt 199 = .ok (.iload 6, 2) := by decide +kernel
theorem dX5_railAt_201 : decode cX5_railAt 201 = .ok (.baload, 1) := by decide +kernel
theorem dX5_railAt_202 : decode cX5_railAt 202 = .ok (.ifCond .ne 13, 3) := by decide +kernel
theorem dX5_railAt_205 : decode cX5_railAt 205 = .ok (.aload_n 0, 1) := by decide +kernel
theorem dX5_railAt_206 : decode cX5_railAt 206 = .ok (.getfield 16, 3) := by decide +kernel
theorem dX5_railAt_209 : decode cX5_railAt 209 = .ok (.iload 6, 2) := by decide +kernel
theorem dX5_railAt_211 : decode cX5_railAt 211 = .ok (.iaload, 1) := by decide +kernel
theorem dX5_railAt_212 : decode cX5_railAt 212 = .ok (.istore_n 3, 1) := by decide +kernel
theorem dX5_railAt_213 : decode cX5_railAt 213 = .ok (.iconst 1, 1) := by decide +kernel
theorem dX5_railAt_214 : decode cX5_railAt 214 = .ok (.istore_n 2, 1) := by decide +kernel
theorem dX5_railAt_215 : decode cX5_railAt 215 = .ok (.iinc 5 2, 3) := by decide +kernel
theorem dX5_railAt_218 : decode cX5_railAt 218 = .ok (.goto (-51), 3) := by decide +kernel
theorem dX5_railAt_221 : decode cX5_railAt 221 = .ok (.iinc 4 1, 3) := by decide +kernel
theorem dX5_railAt_224 : decode cX5_railAt 224 = .ok (.goto (-73), 3) := by decide +kernel
theorem dX5_railAt_227 : decode cX5_railAt 227 = .ok (.iload_n 3, 1) := by decide +kernel
theorem dX5_railAt_228 : decode cX5_railAt 228 = .ok (.ireturn, 1) := by decide +kernel
theorem dX5_rail_0 : decode cX5_rail 0 = .ok (.aload_n 0, 1) := by decide +kernel
theorem dX5_rail_1 : decode cX5_rail 1 = .ok (.iload_n 1, 1) := by decide +kernel
theorem dX5_rail_2 : decode cX5_rail 2 = .ok (.invokevirtual 75, 3) := by decide +kernel
theorem dX5_rail_5 : decode cX5_rail 5 = .ok (.ifCond .eq 17, 3) := by decide +kernel
theorem dX5_rail_8 : decode cX5_rail 8 = .ok (.aload_n 0, 1) := by decide +kernel
theorem dX5_rail_9 : decode cX5_rail 9 = .ok (.aload_n 0, 1) := by decide +kernel
theorem dX5_rail_10 : decode cX5_rail 10 = .ok (.iload_n 1, 1) := by decide +kernel
theorem dX5_rail_11 : decode cX5_rail 11 = .ok (.invokevirtual 93, 3) := by decide +kernel
theorem dX5_rail_14 : decode cX5_rail 14 = .ok (.i2l, 1) := by decide +kernel
theorem dX5_rail_15 : decode cX5_rail 15 = .ok (.iconst 1, 1) := by decide +kernel
theorem dX5_rail_16 : decode cX5_rail 16 = .ok (.invokevirtual 96, 3) := by decide +kernel
theorem dX5_rail_19 : decode cX5_rail 19 = .ok (.goto 4, 3) := by decide +kernel
theorem dX5_rail_22 : decode cX5_rail 22 = .ok (.iconst (-1), 1) := by decide +kernel
theorem dX5_rail_23 : decode cX5_rail 23 = .ok (.ireturn, 1) := by decide +kernel
theorem dX5_gap_0 : decode cX5_gap 0 = .ok (.aload_n 0, 1) := by decide +kernel
theorem dX5_gap_1 : decode cX5_gap 1 = .ok (.iload_n 1, 1) := by decide +kernel
theorem dX5_gap_2 : decode cX5_gap 2 = .ok (.invokevirtual 82, 3) := by decide +kernel
theorem dX5_gap_5 : decode cX5_gap 5 = .ok (.istore_n 2, 1) := by decide +kernel
theorem dX5_gap_6 : decode cX5_gap 6 = .ok (.iload_n 2, 1) := by decide +kernel
theorem dX5_gap_7 : decode cX5_gap 7 = .ok (.ifCond .ge 7, 3) := by decide +kernel
theorem dX5_gap_10 : decode cX5_gap 10 = .ok (.iload_n 2, 1) := by decide +kernel
theorem dX5_gap_11 : decode cX5_gap 11 = .ok (.goto 15, 3) := by decide +kernel
theorem dX5_gap_14 : decode cX5_gap 14 = .ok (.aload_n 0, 1) := by decide +kernel
theorem dX5_gap_15 : decode cX5_gap 15 = .ok (.iload_n 1, 1) := by decide +kernel
theorem dX5_gap_16 : decode cX5_gap 16 = .ok (.invokevirtual 93, 3) := by decide +kernel
theorem dX5_gap_19 : decode cX5_gap 19 = .ok (.aload_n 0, 1) := by decide +kernel
theorem dX5_gap_20 : decode cX5_gap 20 = .ok (.getfield 16, 3) := by decide +kernel
theorem dX5_gap_23 : decode cX5_gap 23 = .ok (.iload_n 1, 1) := by decide +kernel
theorem dX5_gap_24 : decode cX5_gap 24 = .ok (.iaload, 1) := by decide +kernel
theorem dX5_gap_25 : decode cX5_gap 25 = .ok (.isub, 1) := by decide +kernel
theorem dX5_gap_26 : decode cX5_gap 26 = .ok (.ireturn, 1) := by decide +kernel
theorem dX5_axle_0 : decode cX5_axle 0 = .ok (.iload_n 1, 1) := by decide +kernel
theorem dX5_axle_1 : decode cX5_axle 1 = .ok (.iconst 1, 1) := by decide +kernel
theorem dX5_axle_2 : decode cX5_axle 2 = .ok (.sipush 250, 3) := by decide +kernel
theorem dX5_axle_5 : decode cX5_axle 5 = .ok (.invokestatic 68, 3) := by decide +kernel
theorem dX5_axle_8 : decode cX5_axle 8 = .ok (.ifCond .ne 5, 3) := by decide +kernel
theorem dX5_axle_11 : decode cX5_axle 11 = .ok (.iconst (-1), 1) := by decide +kernel
theorem dX5_axle_12 : decode cX5_axle 12 = .ok (.ireturn, 1) := by decide +kernel
theorem dX5_axle_13 : decode cX5_axle 13 = .ok (.aload_n 0, 1) := by decide +kernel
theorem dX5_axle_14 : decode cX5_axle 14 = .ok (.getfield 99, 3) := by decide +kernel
theorem dX5_axle_17 : decode cX5_axle 17 = .ok (.bipush 20, 2) := by decide +kernel
theorem dX5_axle_19 : decode cX5_axle 19 = .ok (.if_icmp .ne 6, 3) := by decide +kernel
theorem dX5_axle_22 : decode cX5_axle 22 = .ok (.bipush (-2), 2) := by decide +kernel
theorem dX5_axle_24 : decode cX5_axle 24 = .ok (.ireturn, 1) := by decide +kernel
theorem dX5_axle_25 : decode cX5_axle 25 = .ok (.aload_n 0, 1) := by decide +kernel
theorem dX5_axle_26 : decode cX5_axle 26 = .ok (.getfield 35, 3) := by decide +kernel
theorem dX5_axle_29 : decode cX5_axle 29 = .ok (.aload_n 0, 1) := by decide +kernel
theorem dX5_axle_30 : decode cX5_axle 30 = .ok (.getfield 99, 3) := by decide +kernel
theorem dX5_axle_33 : decode cX5_axle 33 = .ok (.iload_n 1, 1) := by decide +kernel
theorem dX5_axle_34 : decode cX5_axle 34 = .ok (.iastore, 1) := by decide +kernel
theorem dX5_axle_35 : decode cX5_axle 35 = .ok (.aload_n 0, 1) := by decide +kernel
theorem dX5_axle_36 : decode cX5_axle 36 = .ok (.dup, 1) := by decide +kernel
theorem dX5_axle_37 : decode cX5_axle 37 = .ok (.getfield 99, 3) := by decide +kernel
theorem dX5_axle_40 : decode cX5_axle 40 = .ok (.iconst 1, 1) := by decide +kernel
theorem dX5_axle_41 : decode cX5_axle 41 = .ok (.iadd, 1) := by decide +kernel
theorem dX5_axle_42 : decode cX5_axle 42 = .ok (.putfield 99, 3) := by decide +kernel
theorem dX5_axle_45 : decode cX5_axle 45 = .ok (.aload_n 0, 1) := by decide +kernel
theorem dX5_axle_46 : decode cX5_axle 46 = .ok (.getfield 99, 3) := by decide +kernel
theorem dX5_axle_49 : decode cX5_axle 49 = .ok (.ireturn, 1) := by decide +kernel
theorem dX5_uncouple_0 : decode cX5_uncouple 0 = .ok (.aload_n 0, 1) := by decide +kernel
theorem dX5_uncouple_1 : decode cX5_uncouple 1 = .ok (.getfield 99, 3) := by decide +kernel
theorem dX5_uncouple_4 : decode cX5_uncouple 4 = .ok (.istore_n 1, 1) := by decide +kernel
theorem dX5_uncouple_5 : decode cX5_uncouple 5 = .ok (.aload_n 0, 1) := by decide +kernel
theorem dX5_uncouple_6 : decode cX5_uncouple 6 = .ok (.iconst 0, 1) := by decide +kernel
theorem dX5_uncouple_7 : decode cX5_uncouple 7 = .ok (.putfield 99, 3) := by decide +kernel
theorem dX5_uncouple_10 : decode cX5_uncouple 10 = .ok (.iload_n 1, 1) := by decide +kernel
theorem dX5_uncouple_11 : decode cX5_uncouple 11 = .ok (.ireturn, 1) := by decide +kernel
theorem dX5_table_0 : decode cX5_table 0 = .ok (.iload_n 1, 1) := by decide +kernel
theorem dX5_table_1 : decode cX5_table 1 = .ok (.iconst 0, 1) := by decide +kernel
theorem dX5_table_2 : decode cX5_table 2 = .ok (.bipush 15, 2) := by decide +kernel
theorem dX5_table_4 : decode cX5_table 4 = .ok (.invokestatic 68, 3) := by decide +kernel
theorem dX5_table_7 : decode cX5_table 7 = .ok (.ifCond .ne 5, 3) := by decide +kernel
theorem dX5_table_10 : decode cX5_table 10 = .ok (.iconst (-1), 1) := by decide +kernel
theorem dX5_table_11 : decode cX5_table 11 = .ok (.ireturn, 1) := by decide +kernel
theorem dX5_table_12 : decode cX5_table 12 = .ok (.aload_n 0, 1) := by decide +kernel
theorem dX5_table_13 : decode cX5_table 13 = .ok (.getfield 38, 3) := by decide +kernel
theorem dX5_table_16 : decode cX5_table 16 = .ok (.iload_n 1, 1) := by decide +kernel
theorem dX5_table_17 : decode cX5_table 17 = .ok (.iaload, 1) := by decide +kernel
theorem dX5_table_18 : decode cX5_table 18 = .ok (.istore_n 3, 1) := by decide +kernel
theorem dX5_table_19 : decode cX5_table 19 = .ok (.aload_n 0, 1) := by decide +kernel
theorem dX5_table_20 : decode cX5_table 20 = .ok (.getfield 38, 3) := by decide +kernel
theorem dX5_table_23 : decode cX5_table 23 = .ok (.iload_n 1, 1) := by decide +kernel
theorem dX5_table_24 : decode cX5_table 24 = .ok (.iload_n 2, 1) := by decide +kernel
theorem dX5_table_25 : decode cX5_table 25 = .ok (.i2b, 1) := by decide +kernel
theorem dX5_table_26 : decode cX5_table 26 = .ok (.iastore, 1) := by decide +kernel
theorem dX5_table_27 : decode cX5_table 27 = .ok (.iload_n 3, 1) := by decide +kernel
theorem dX5_table_28 : decode cX5_table 28 = .ok (.sipush 1000, 3) := by decide +kernel
theorem dX5_table_31 : decode cX5_table 31 = .ok (.iadd, 1) := by decide +kernel
theorem dX5_table_32 : decode cX5_table 32 = .ok (.ireturn, 1) := by decide +kernel
theorem dX5_bears_0 : decode cX5_bears 0 = .ok (.aload_n 0, 1) := by decide +kernel
theorem dX5_bears_1 : decode cX5_bears 1 = .ok (.iload_n 1, 1) := by decide +kernel
theorem dX5_bears_2 : decode cX5_bears 2 = .ok (.invokevirtual 75, 3) := by decide +kernel
theorem dX5_bears_5 : decode cX5_bears 5 = .ok (.ifCond .eq 30, 3) := by decide +kernel
theorem dX5_bears_8 : decode cX5_bears 8 = .ok (.aload_n 0, 1) := by decide +kernel
theorem dX5_bears_9 : decode cX5_bears 9 = .ok (.getfield 28, 3) := by decide +kernel
theorem dX5_bears_12 : decode cX5_bears 12 = .ok (.iload_n 1, 1) := by decide +kernel
theorem dX5_bears_13 : decode cX5_bears 13 = .ok (.baload, 1) := by decide +kernel
theorem dX5_bears_14 : decode cX5_bears 14 = .ok (.ifCond .ne 21, 3) := by decide +kernel
theorem dX5_bears_17 : decode cX5_bears 17 = .ok (.aload_n 0, 1) := by decide +kernel
theorem dX5_bears_18 : decode cX5_bears 18 = .ok (.iload_n 1, 1) := by decide +kernel
theorem dX5_bears_19 : decode cX5_bears 19 = .ok (.invokevirtual 93, 3) := by decide +kernel
theorem dX5_bears_22 : decode cX5_bears 22 = .ok (.aload_n 0, 1) := by decide +kernel
theorem dX5_bears_23 : decode cX5_bears 23 = .ok (.getfield 16, 3) := by decide +kernel
theorem dX5_bears_26 : decode cX5_bears 26 = .ok (.iload_n 1, 1) := by decide +kernel
theorem dX5_bears_27 : decode cX5_bears 27 = .ok (.iaload, 1) := by decide +kernel
theorem dX5_bears_28 : decode cX5_bears 28 = .ok (.if_icmp .ne 7, 3) := by decide +kernel
theorem dX5_bears_31 : decode cX5_bears 31 = .ok (.iconst 1, 1) := by decide +kernel
theorem dX5_bears_32 : decode cX5_bears 32 = .ok (.goto 4, 3) := by decide +kernel
theorem dX5_bears_35 : decode cX5_bears 35 = .ok (.iconst 0, 1) := by decide +kernel
theorem dX5_bears_36 : decode cX5_bears 36 = .ok (.ireturn, 1) := by decide +kernel
theorem dX5_sink_0 : decode cX5_sink 0 = .ok (.iload_n 2, 1) := by decide +kernel
theorem dX5_sink_1 : decode cX5_sink 1 = .ok (.aload_n 0, 1) := by decide +kernel
theorem dX5_sink_2 : decode cX5_sink 2 = .ok (.getfield 19, 3) := by decide +kernel
theorem dX5_sink_5 : decode cX5_sink 5 = .ok (.iload_n 1, 1) := by decide +kernel
theorem dX5_sink_6 : decode cX5_sink 6 = .ok (.iaload, 1) := by decide +kernel
theorem dX5_sink_7 : decode cX5_sink 7 = .ok (.idiv, 1) := by decide +kernel
theorem dX5_sink_8 : decode cX5_sink 8 = .ok (.bipush 15, 2) := by decide +kernel
theorem dX5_sink_10 : decode cX5_sink 10 = .ok (.if_icmp .le 8, 3) := by decide +kernel
theorem dX5_sink_13 : decode cX5_sink 13 = .ok (.bipush 15, 2) := by decide +kernel
theorem dX5_sink_15 : decode cX5_sink 15 = .ok (.goto 11, 3) := by decide +kernel
theorem dX5_sink_18 : decode cX5_sink 18 = .ok (.iload_n 2, 1) := by decide +kernel
theorem dX5_sink_19 : decode cX5_sink 19 = .ok (.aload_n 0, 1) := by decide +kernel
theorem dX5_sink_20 : decode cX5_sink 20 = .ok (.getfield 19, 3) := by decide +kernel
theorem dX5_sink_23 : decode cX5_sink 23 = .ok (.iload_n 1, 1) := by decide +kernel
theorem dX5_sink_24 : decode cX5_sink 24 = .ok (.iaload, 1) := by decide +kernel
theorem dX5_sink_25 : decode cX5_sink 25 = .ok (.idiv, 1) := by decide +kernel
theorem dX5_sink_26 : decode cX5_sink 26 = .ok (.istore_n 3, 1) := by decide +kernel
theorem dX5_sink_27 : decode cX5_sink 27 = .ok (.aload_n 0, 1) := by decide +kernel
theorem dX5_sink_28 : decode cX5_sink 28 = .ok (.getfield 38, 3) := by decide +kernel
theorem dX5_sink_31 : decode cX5_sink 31 = .ok (.iload_n 3, 1) := by decide +kernel
theorem dX5_sink_32 : decode cX5_sink 32 = .ok (.iaload, 1) := by decide +kernel
theorem dX5_sink_33 : decode cX5_sink 33 = .ok (.ifCond .ge 7, 3) := by decide +kernel
theorem dX5_sink_36 : decode cX5_sink 36 = .ok (.iconst 0, 1) := by decide +kernel
theorem dX5_sink_37 : decode cX5_sink 37 = .ok (.goto 9, 3) := by decide +kernel
theorem dX5_sink_40 : decode cX5_sink 40 = .ok (.aload_n 0, 1) := by decide +kernel
theorem dX5_sink_41 : decode cX5_sink 41 = .ok (.getfield 38, 3) := by decide +kernel
theorem dX5_sink_44 : decode cX5_sink 44 = .ok (.iload_n 3, 1) := by decide +kernel
theorem dX5_sink_45 : decode cX5_sink 45 = .ok (.iaload, 1) := by decide +kernel
theorem dX5_sink_46 : decode cX5_sink 46 = .ok (.istore 4, 2) := by decide +kernel
theorem dX5_sink_48 : decode cX5_sink 48 = .ok (.iload 4, 2) := by decide +kernel
theorem dX5_sink_50 : decode cX5_sink 50 = .ok (.aload_n 0, 1) := by decide +kernel
theorem dX5_sink_51 : decode cX5_sink 51 = .ok (.getfield 13, 3) := by decide +kernel
theorem dX5_sink_54 : decode cX5_sink 54 = .ok (.iload_n 1, 1) := by decide +kernel
theorem dX5_sink_55 : decode cX5_sink 55 = .ok (.iaload, 1) := by decide +kernel
theorem dX5_sink_56 : decode cX5_sink 56 = .ok (.iconst 2, 1) := by decide +kernel
theorem dX5_sink_57 : decode cX5_sink 57 = .ok (.if_icmp .ne 10, 3) := by decide +kernel
theorem dX5_sink_60 : decode cX5_sink 60 = .ok (.iload 4, 2) := by decide +kernel
theorem dX5_sink_62 : decode cX5_sink 62 = .ok (.iconst 4, 1) := by decide +kernel
theorem dX5_sink_63 : decode cX5_sink 63 = .ok (.idiv, 1) := by decide +kernel
theorem dX5_sink_64 : decode cX5_sink 64 = .ok (.goto 21, 3) := by decide +kernel
theorem dX5_sink_67 : decode cX5_sink 67 = .ok (.aload_n 0, 1) := by decide +kernel
theorem dX5_sink_68 : decode cX5_sink 68 = .ok (.getfield 13, 3) := by decide +kernel
theorem dX5_sink_71 : decode cX5_sink 71 = .ok (.iload_n 1, 1) := by decide +kernel
theorem dX5_sink_72 : decode cX5_sink 72 = .ok (.iaload, 1) := by decide +kernel
theorem dX5_sink_73 : decode cX5_sink 73 = .ok (.ifCond .ne 7, 3) := by decide +kernel
theorem dX5_sink_76 : decode cX5_sink 76 = .ok (.iconst 0, 1) := by decide +kernel
theorem dX5_sink_77 : decode cX5_sink 77 = .ok (.goto 8, 3) := by decide +kernel
theorem dX5_sink_80 : decode cX5_sink 80 = .ok (.iload 4, 2) := by decide +kernel
theorem dX5_sink_82 : decode cX5_sink 82 = .ok (.iconst 4, 1) := by decide +kernel
theorem dX5_sink_83 : decode cX5_sink 83 = .ok (.idiv, 1) := by decide +kernel
theorem dX5_sink_84 : decode cX5_sink 84 = .ok (.ineg, 1) := by decide +kernel
theorem dX5_sink_85 : decode cX5_sink 85 = .ok (.iadd, 1) := by decide +kernel
theorem dX5_sink_86 : decode cX5_sink 86 = .ok (.istore 4, 2) := by decide +kernel
theorem dX5_sink_88 : decode cX5_sink 88 = .ok (.aload_n 0, 1) := by decide +kernel
theorem dX5_sink_89 : decode cX5_sink 89 = .ok (.getfield 22, 3) := by decide +kernel
theorem dX5_sink_92 : decode cX5_sink 92 = .ok (.iload_n 1, 1) := by decide +kernel
theorem dX5_sink_93 : decode cX5_sink 93 = .ok (.dup2, 1) := by decide +kernel
theorem dX5_sink_94 : decode cX5_sink 94 = .ok (.iaload, 1) := by decide +kernel
theorem dX5_sink_95 : decode cX5_sink 95 = .ok (.iload 4, 2) := by decide +kernel
theorem dX5_sink_97 : decode cX5_sink 97 = .ok (.iadd, 1) := by decide +kernel
theorem dX5_sink_98 : decode cX5_sink 98 = .ok (.iastore, 1) := by decide +kernel
theorem dX5_sink_99 : decode cX5_sink 99 = .ok (.aload_n 0, 1) := by decide +kernel
theorem dX5_sink_100 : decode cX5_sink 100 = .ok (.getfield 22, 3) := by decide +kernel
theorem dX5_sink_103 : decode cX5_sink 103 = .ok (.iload_n 1, 1) := by decide +kernel
theorem dX5_sink_104 : decode cX5_sink 104 = .ok (.iaload, 1) := by decide +kernel
theorem dX5_sink_105 : decode cX5_sink 105 = .ok (.bipush 100, 2) := by decide +kernel
theorem dX5_sink_107 : decode cX5_sink 107 = .ok (.idiv, 1) := by decide +kernel
theorem dX5_sink_108 : decode cX5_sink 108 = .ok (.istore 5, 2) := by decide +kernel
theorem dX5_sink_110 : decode cX5_sink 110 = .ok (.aload_n 0, 1) := by decide +kernel
theorem dX5_sink_111 : decode cX5_sink 111 = .ok (.getfield 22, 3) := by decide +kernel
theorem dX5_sink_114 : decode cX5_sink 114 = .ok (.iload_n 1, 1) := by decide +kernel
theorem dX5_sink_115 : decode cX5_sink 115 = .ok (.dup2, 1) := by decide +kernel
theorem dX5_sink_116 : decode cX5_sink 116 = .ok (.iaload, 1) := by decide +kernel
theorem dX5_sink_117 : decode cX5_sink 117 = .ok (.bipush 100, 2) := by decide +kernel
theorem dX5_sink_119 : decode cX5_sink 119 = .ok (.iload 5, 2) := by decide +kernel
theorem dX5_sink_121 : decode cX5_sink 121 = .ok (.imul, 1) := by decide +kernel
theorem dX5_sink_122 : decode cX5_sink 122 = .ok (.isub, 1) := by decide +kernel
theorem dX5_sink_123 : decode cX5_sink 123 = .ok (.iastore, 1) := by decide +kernel
theorem dX5_sink_124 : decode cX5_sink 124 = .ok (.aload_n 0, 1) := by decide +kernel
theorem dX5_sink_125 : decode cX5_sink 125 = .ok (.getfield 16, 3) := by decide +kernel
theorem dX5_sink_128 : decode cX5_sink 128 = .ok (.iload_n 1, 1) := by decide +kernel
theorem dX5_sink_129 : decode cX5_sink 129 = .ok (.dup2, 1) := by decide +kernel
theorem dX5_sink_130 : decode cX5_sink 130 = .ok (.iaload, 1) := by decide +kernel
theorem dX5_sink_131 : decode cX5_sink 131 = .ok (.iload 5, 2) := by decide +kernel
theorem dX5_sink_133 : decode cX5_sink 133 = .ok (.isub, 1) := by decide +kernel
theorem dX5_sink_134 : decode cX5_sink 134 = .ok (.iastore, 1) := by decide +kernel
theorem dX5_sink_135 : decode cX5_sink 135 = .ok (.iload 5, 2) := by decide +kernel
theorem dX5_sink_137 : decode cX5_sink 137 = .ok (.ireturn, 1) := by decide +kernel
theorem dX5_rolls_0 : decode cX5_rolls 0 = .ok (.aload_n 0, 1) := by decide +kernel
theorem dX5_rolls_1 : decode cX5_rolls 1 = .ok (.getfield 13, 3) := by decide +kernel
theorem dX5_rolls_4 : decode cX5_rolls 4 = .ok (.iload_n 1, 1) := by decide +kernel
theorem dX5_rolls_5 : decode cX5_rolls 5 = .ok (.iaload, 1) := by decide +kernel
theorem dX5_rolls_6 : decode cX5_rolls 6 = .ok (.iconst 3, 1) := by decide +kernel
theorem dX5_rolls_7 : decode cX5_rolls 7 = .ok (.if_icmp .ne 16, 3) := by decide +kernel
theorem dX5_rolls_10 : decode cX5_rolls 10 = .ok (.aload_n 0, 1) := by decide +kernel
theorem dX5_rolls_11 : decode cX5_rolls 11 = .ok (.getfield 28, 3) := by decide +kernel
theorem dX5_rolls_14 : decode cX5_rolls 14 = .ok (.iload_n 1, 1) := by decide +kernel
theorem dX5_rolls_15 : decode cX5_rolls 15 = .ok (.baload, 1) := by decide +kernel
theorem dX5_rolls_16 : decode cX5_rolls 16 = .ok (.ifCond .ne 7, 3) := by decide +kernel
theorem dX5_rolls_19 : decode cX5_rolls 19 = .ok (.iconst 1, 1) := by decide +kernel
theorem dX5_rolls_20 : decode cX5_rolls 20 = .ok (.goto 4, 3) := by decide +kernel
theorem dX5_rolls_23 : decode cX5_rolls 23 = .ok (.iconst 0, 1) := by decide +kernel
theorem dX5_rolls_24 : decode cX5_rolls 24 = .ok (.istore_n 3, 1) := by decide +kernel
theorem dX5_rolls_25 : decode cX5_rolls 25 = .ok (.iload_n 2, 1) := by decide +kernel
theorem dX5_rolls_26 : decode cX5_rolls 26 = .ok (.iload_n 3, 1) := by decide +kernel
theorem dX5_rolls_27 : decode cX5_rolls 27 = .ok (.ifCond .eq 9, 3) := by decide +kernel
theorem dX5_rolls_30 : decode cX5_rolls 30 = .ok (.iload_n 2, 1) := by decide +kernel
theorem dX5_rolls_31 : decode cX5_rolls 31 = .ok (.iconst 2, 1) := by decide +kernel
theorem dX5_rolls_32 : decode cX5_rolls 32 = .ok (.idiv, 1) := by decide +kernel
theorem dX5_rolls_33 : decode cX5_rolls 33 = .ok (.goto 4, 3) := by decide +kernel
theorem dX5_rolls_36 : decode cX5_rolls 36 = .ok (.iconst 0, 1) := by decide +kernel
theorem dX5_rolls_37 : decode cX5_rolls 37 = .ok (.iadd, 1) := by decide +kernel
theorem dX5_rolls_38 : decode cX5_rolls 38 = .ok (.istore 4, 2) := by decide +kernel
theorem dX5_rolls_40 : decode cX5_rolls 40 = .ok (.aload_n 0, 1) := by decide +kernel
theorem dX5_rolls_41 : decode cX5_rolls 41 = .ok (.getfield 25, 3) := by decide +kernel
theorem dX5_rolls_44 : decode cX5_rolls 44 = .ok (.iload_n 1, 1) := by decide +kernel
theorem dX5_rolls_45 : decode cX5_rolls 45 = .ok (.dup2, 1) := by decide +kernel
theorem dX5_rolls_46 : decode cX5_rolls 46 = .ok (.iaload, 1) := by decide +kernel
theorem dX5_rolls_47 : decode cX5_rolls 47 = .ok (.iload_n 3, 1) := by decide +kernel
theorem dX5_rolls_48 : decode cX5_rolls 48 = .ok (.ifCond .eq 7, 3) := by decide +kernel
theorem dX5_rolls_51 : decode cX5_rolls 51 = .ok (.iconst 1, 1) := by decide +kernel
theorem dX5_rolls_52 : decode cX5_rolls 52 = .ok (.goto 4, 3) := by decide +kernel
theorem dX5_rolls_55 : decode cX5_rolls 55 = .ok (.iconst 0, 1) := by decide +kernel
theorem dX5_rolls_56 : decode cX5_rolls 56 = .ok (.iadd, 1) := by decide +kernel
theorem dX5_rolls_57 : decode cX5_rolls 57 = .ok (.iastore, 1) := by decide +kernel
theorem dX5_rolls_58 : decode cX5_rolls 58 = .ok (.aload_n 0, 1) := by decide +kernel
theorem dX5_rolls_59 : decode cX5_rolls 59 = .ok (.iload_n 1, 1) := by decide +kernel
theorem dX5_rolls_60 : decode cX5_rolls 60 = .ok (.iconst 1, 1) := by decide +kernel
theorem dX5_rolls_61 : decode cX5_rolls 61 = .ok (.isub, 1) := by decide +kernel
theorem dX5_rolls_62 : decode cX5_rolls 62 = .ok (.invokevirtual 102, 3) := by decide +kernel
theorem dX5_rolls_65 : decode cX5_rolls 65 = .ok (.istore 5, 2) := by decide +kernel
theorem dX5_rolls_67 : decode cX5_rolls 67 = .ok (.aload_n 0, 1) := by decide +kernel
theorem dX5_rolls_68 : decode cX5_rolls 68 = .ok (.iload_n 1, 1) := by decide +kernel
theorem dX5_rolls_69 : decode cX5_rolls 69 = .ok (.invokevirtual 102, 3) := by decide +kernel
theorem dX5_rolls_72 : decode cX5_rolls 72 = .ok (.istore 6, 2) := by decide +kernel
theorem dX5_rolls_74 : decode cX5_rolls 74 = .ok (.aload_n 0, 1) := by decide +kernel
theorem dX5_rolls_75 : decode cX5_rolls 75 = .ok (.iload_n 1, 1) := by decide +kernel
theorem dX5_rolls_76 : decode cX5_rolls 76 = .ok (.iconst 1, 1) := by decide +kernel
theorem dX5_rolls_77 : decode cX5_rolls 77 = .ok (.iadd, 1) := by decide +kernel
theorem dX5_rolls_78 : decode cX5_rolls 78 = .ok (.invokevirtual 102, 3) := by decide +kernel
theorem dX5_rolls_81 : decode cX5_rolls 81 = .ok (.istore 7, 2) := by decide +kernel
theorem dX5_rolls_83 : decode cX5_rolls 83 = .ok (.iload 5, 2) := by decide +kernel
theorem dX5_rolls_85 : decode cX5_rolls 85 = .ok (.ifCond .eq 7, 3) := by decide +kernel
theorem dX5_rolls_88 : decode cX5_rolls 88 = .ok (.iconst 1, 1) := by decide +kernel
theorem dX5_rolls_89 : decode cX5_rolls 89 = .ok (.goto 4, 3) := by decide +kernel
theorem dX5_rolls_92 : decode cX5_rolls 92 = .ok (.iconst 0, 1) := by decide +kernel
theorem dX5_rolls_93 : decode cX5_rolls 93 = .ok (.iload 6, 2) := by decide +kernel
theorem dX5_rolls_95 : decode cX5_rolls 95 = .ok (.ifCond .eq 7, 3) := by decide +kernel
theorem dX5_rolls_98 : decode cX5_rolls 98 = .ok (.iconst 2, 1) := by decide +kernel
theorem dX5_rolls_99 : decode cX5_rolls 99 = .ok (.goto 4, 3) := by decide +kernel
theorem dX5_rolls_102 : decode cX5_rolls 102 = .ok (.iconst 0, 1) := by decide +kernel
theorem dX5_rolls_103 : decode cX5_rolls 103 = .ok (.iadd, 1) := by decide +kernel
theorem dX5_rolls_104 : decode cX5_rolls 104 = .ok (.iload 7, 2) := by decide +kernel
theorem dX5_rolls_106 : decode cX5_rolls 106 = .ok (.ifCond .eq 7, 3) := by decide +kernel
theorem dX5_rolls_109 : decode cX5_rolls 109 = .ok (.iconst 1, 1) := by decide +kernel
theorem dX5_rolls_110 : decode cX5_rolls 110 = .ok (.goto 4, 3) := by decide +kernel
theorem dX5_rolls_113 : decode cX5_rolls 113 = .ok (.iconst 0, 1) := by decide +kernel
theorem dX5_rolls_114 : decode cX5_rolls 114 = .ok (.iadd, 1) := by decide +kernel
theorem dX5_rolls_115 : decode cX5_rolls 115 = .ok (.istore 8, 2) := by decide +kernel
theorem dX5_rolls_117 : decode cX5_rolls 117 = .ok (.iconst 0, 1) := by decide +kernel
theorem dX5_rolls_118 : decode cX5_rolls 118 = .ok (.istore 9, 2) := by decide +kernel
theorem dX5_rolls_120 : decode cX5_rolls 120 = .ok (.iload 5, 2) := by decide +kernel
theorem dX5_rolls_122 : decode cX5_rolls 122 = .ok (.ifCond .eq 20, 3) := by decide +kernel
theorem dX5_rolls_125 : decode cX5_rolls 125 = .ok (.iload 9, 2) := by decide +kernel
theorem dX5_rolls_127 : decode cX5_rolls 127 = .ok (.aload_n 0, 1) := by decide +kernel
theorem dX5_rolls_128 : decode cX5_rolls 128 = .ok (.iload_n 1, 1) := by decide +kernel
theorem dX5_rolls_129 : decode cX5_rolls 129 = .ok (.iconst 1, 1) := by decide +kernel
theorem dX5_rolls_130 : decode cX5_rolls 130 = .ok (.isub, 1) := by decide +kernel
theorem dX5_rolls_131 : decode cX5_rolls 131 = .ok (.iload 4, 2) := by decide +kernel
theorem dX5_rolls_133 : decode cX5_rolls 133 = .ok (.iload 8, 2) := by decide +kernel
theorem dX5_rolls_135 : decode cX5_rolls 135 = .ok (.idiv, 1) := by decide +kernel
theorem dX5_rolls_136 : decode cX5_rolls 136 = .ok (.invokevirtual 105, 3) := by decide +kernel
theorem dX5_rolls_139 : decode cX5_rolls 139 = .ok (.iadd, 1) := by decide +kernel
theorem dX5_rolls_140 : decode cX5_rolls 140 = .ok (.istore 9, 2) := by decide +kernel
theorem dX5_rolls_142 : decode cX5_rolls 142 = .ok (.iload 6, 2) := by decide +kernel
theorem dX5_rolls_144 : decode cX5_rolls 144 = .ok (.ifCond .eq 20, 3) := by decide +kernel
theorem dX5_rolls_147 : decode cX5_rolls 147 = .ok (.iload 9, 2) := by decide +kernel
theorem dX5_rolls_149 : decode cX5_rolls 149 = .ok (.aload_n 0, 1) := by decide +kernel
theorem dX5_rolls_150 : decode cX5_rolls 150 = .ok (.iload_n 1, 1) := by decide +kernel
theorem dX5_rolls_151 : decode cX5_rolls 151 = .ok (.iconst 2, 1) := by decide +kernel
theorem dX5_rolls_152 : decode cX5_rolls 152 = .ok (.iload 4, 2) := by decide +kernel
theorem dX5_rolls_154 : decode cX5_rolls 154 = .ok (.imul, 1) := by decide +kernel
theorem dX5_rolls_155 : decode cX5_rolls 155 = .ok (.iload 8, 2) := by decide +kernel
theorem dX5_rolls_157 : decode cX5_rolls 157 = .ok (.idiv, 1) := by decide +kernel
theorem dX5_rolls_158 : decode cX5_rolls 158 = .ok (.invokevirtual 105, 3) := by decide +kernel
theorem dX5_rolls_161 : decode cX5_rolls 161 = .ok (.iadd, 1) := by decide +kernel
theorem dX5_rolls_162 : decode cX5_rolls 162 = .ok (.istore 9, 2) := by decide +kernel
theorem dX5_rolls_164 : decode cX5_rolls 164 = .ok (.iload 7, 2) := by decide +kernel
theorem dX5_rolls_166 : decode cX5_rolls 166 = .ok (.ifCond .eq 20, 3) := by decide +kernel
theorem dX5_rolls_169 : decode cX5_rolls 169 = .ok (.iload 9, 2) := by decide +kernel
theorem dX5_rolls_171 : decode cX5_rolls 171 = .ok (.aload_n 0, 1) := by decide +kernel
theorem dX5_rolls_172 : decode cX5_rolls 172 = .ok (.iload_n 1, 1) := by decide +kernel
theorem dX5_rolls_173 : decode cX5_rolls 173 = .ok (.iconst 1, 1) := by decide +kernel
theorem dX5_rolls_174 : decode cX5_rolls 174 = .ok (.iadd, 1) := by decide +kernel
theorem dX5_rolls_175 : decode cX5_rolls 175 = .ok (.iload 4, 2) := by decide +kernel
theorem dX5_rolls_177 : decode cX5_rolls 177 = .ok (.iload 8, 2) := by decide +kernel
theorem dX5_rolls_179 : decode cX5_rolls 179 = .ok (.idiv, 1) := by decide +kernel
theorem dX5_rolls_180 : decode cX5_rolls 180 = .ok (.invokevirtual 105, 3) := by decide +kernel
theorem dX5_rolls_183 : decode cX5_rolls 183 = .ok (.iadd, 1) := by decide +kernel
theorem dX5_rolls_184 : decode cX5_rolls 184 = .ok (.istore 9, 2) := by decide +kernel
theorem dX5_rolls_186 : decode cX5_rolls 186 = .ok (.iload 9, 2) := by decide +kernel
theorem dX5_rolls_188 : decode cX5_rolls 188 = .ok (.ireturn, 1) := by decide +kernel
theorem dX5_pass_0 : decode cX5_pass 0 = .ok (.iload_n 1, 1) := by decide +kernel
theorem dX5_pass_1 : decode cX5_pass 1 = .ok (.iconst 0, 1) := by decide +kernel
theorem dX5_pass_2 : decode cX5_pass 2 = .ok (.bipush 50, 2) := by decide +kernel
theorem dX5_pass_4 : decode cX5_pass 4 = .ok (.invokestatic 68, 3) := by decide +kernel
theorem dX5_pass_7 : decode cX5_pass 7 = .ok (.ifCond .ne 5, 3) := by decide +kernel
theorem dX5_pass_10 : decode cX5_pass 10 = .ok (.iconst (-1), 1) := by decide +kernel
theorem dX5_pass_11 : decode cX5_pass 11 = .ok (.ireturn, 1) := by decide +kernel
theorem dX5_pass_12 : decode cX5_pass 12 = .ok (.aload_n 0, 1) := by decide +kernel
theorem dX5_pass_13 : decode cX5_pass 13 = .ok (.getfield 99, 3) := by decide +kernel
theorem dX5_pass_16 : decode cX5_pass 16 = .ok (.ifCond .ne 6, 3) := by decide +kernel
theorem dX5_pass_19 : decode cX5_pass 19 = .ok (.bipush (-4), 2) := by decide +kernel
theorem dX5_pass_21 : decode cX5_pass 21 = .ok (.ireturn, 1) := by decide +kernel
theorem dX5_pass_22 : decode cX5_pass 22 = .ok (.iconst 0, 1) := by decide +kernel
theorem dX5_pass_23 : decode cX5_pass 23 = .ok (.istore_n 2, 1) := by decide +kernel
theorem dX5_pass_24 : decode cX5_pass 24 = .ok (.iconst 0, 1) := by decide +kernel
theorem dX5_pass_25 : decode cX5_pass 25 = .ok (.istore_n 3, 1) := by decide +kernel
theorem dX5_pass_26 : decode cX5_pass 26 = .ok (.iload_n 3, 1) := by decide +kernel
theorem dX5_pass_27 : decode cX5_pass 27 = .ok (.iload_n 1, 1) := by decide +kernel
theorem dX5_pass_28 : decode cX5_pass 28 = .ok (.if_icmp .ge 61, 3) := by decide +kernel
theorem dX5_pass_31 : decode cX5_pass 31 = .ok (.iconst 0, 1) := by decide +kernel
theorem dX5_pass_32 : decode cX5_pass 32 = .ok (.istore 4, 2) := by decide +kernel
theorem dX5_pass_34 : decode cX5_pass 34 = .ok (.iload 4, 2) := by decide +kernel
theorem dX5_pass_36 : decode cX5_pass 36 = .ok (.aload_n 0, 1) := by decide +kernel
theorem dX5_pass_37 : decode cX5_pass 37 = .ok (.getfield 72, 3) := by decide +kernel
theorem dX5_pass_40 : decode cX5_pass 40 = .ok (.if_icmp .ge 43, 3) := by decide +kernel
theorem dX5_pass_43 : decode cX5_pass 43 = .ok (.iconst 0, 1) := by decide +kernel
theorem dX5_pass_44 : decode cX5_pass 44 = .ok (.istore 5, 2) := by decide +kernel
theorem dX5_pass_46 : decode cX5_pass 46 = .ok (.iload 5, 2) := by decide +kernel
theorem dX5_pass_48 : decode cX5_pass 48 = .ok (.aload_n 0, 1) := by decide +kernel
theorem dX5_pass_49 : decode cX5_pass 49 = .ok (.getfield 99, 3) := by decide +kernel
theorem dX5_pass_52 : decode cX5_pass 52 = .ok (.if_icmp .ge 25, 3) := by decide +kernel
theorem dX5_pass_55 : decode cX5_pass 55 = .ok (.iload_n 2, 1) := by decide +kernel
theorem dX5_pass_56 : decode cX5_pass 56 = .ok (.aload_n 0, 1) := by decide +kernel
theorem dX5_pass_57 : decode cX5_pass 57 = .ok (.iload 4, 2) := by decide +kernel
theorem dX5_pass_59 : decode cX5_pass 59 = .ok (.aload_n 0, 1) := by decide +kernel
theorem dX5_pass_60 : decode cX5_pass 60 = .ok (.getfield 35, 3) := by decide +kernel
theorem dX5_pass_63 : decode cX5_pass 63 = .ok (.iload 5, 2) := by decide +kernel
theorem dX5_pass_65 : decode cX5_pass 65 = .ok (.iaload, 1) := by decide +kernel
theorem dX5_pass_66 : decode cX5_pass 66 = .ok (.invokevirtual 108, 3) := by decide +kernel
theorem dX5_pass_69 : decode cX5_pass 69 = .ok (.iadd, 1) := by decide +kernel
theorem dX5_pass_70 : decode cX5_pass 70 = .ok (.istore_n 2, 1) := by decide +kernel
theorem dX5_pass_71 : decode cX5_pass 71 = .ok (.iinc 5 1, 3) := by decide +kernel
theorem dX5_pass_74 : decode cX5_pass 74 = .ok (.goto (-28), 3) := by decide +kernel
theorem dX5_pass_77 : decode cX5_pass 77 = .ok (.iinc 4 1, 3) := by decide +kernel
theorem dX5_pass_80 : decode cX5_pass 80 = .ok (.goto (-46), 3) := by decide +kernel
theorem dX5_pass_83 : decode cX5_pass 83 = .ok (.iinc 3 1, 3) := by decide +kernel
theorem dX5_pass_86 : decode cX5_pass 86 = .ok (.goto (-60), 3) := by decide +kernel
theorem dX5_pass_89 : decode cX5_pass 89 = .ok (.iload_n 2, 1) := by decide +kernel
theorem dX5_pass_90 : decode cX5_pass 90 = .ok (.ireturn, 1) := by decide +kernel
theorem dX5_mean_0 : decode cX5_mean 0 = .ok (.lconst 0, 1) := by decide +kernel
theorem dX5_mean_1 : decode cX5_mean 1 = .ok (.lstore_n 1, 1) := by decide +kernel
theorem dX5_mean_2 : decode cX5_mean 2 = .ok (.iconst 0, 1) := by decide +kernel
theorem dX5_mean_3 : decode cX5_mean 3 = .ok (.istore_n 3, 1) := by decide +kernel
theorem dX5_mean_4 : decode cX5_mean 4 = .ok (.iconst 0, 1) := by decide +kernel
theorem dX5_mean_5 : decode cX5_mean 5 = .ok (.istore 4, 2) := by decide +kernel
theorem dX5_mean_7 : decode cX5_mean 7 = .ok (.iload 4, 2) := by decide +kernel
theorem dX5_mean_9 : decode cX5_mean 9 = .ok (.aload_n 0, 1) := by decide +kernel
theorem dX5_mean_10 : decode cX5_mean 10 = .ok (.getfield 72, 3) := by decide +kernel
theorem dX5_mean_13 : decode cX5_mean 13 = .ok (.if_icmp .ge 52, 3) := by decide +kernel
theorem dX5_mean_16 : decode cX5_mean 16 = .ok (.lload_n 1, 1) := by decide +kernel
theorem dX5_mean_17 : decode cX5_mean 17 = .ok (.aload_n 0, 1) := by decide +kernel
theorem dX5_mean_18 : decode cX5_mean 18 = .ok (.getfield 28, 3) := by decide +kernel
theorem dX5_mean_21 : decode cX5_mean 21 = .ok (.iload 4, 2) := by decide +kernel
theorem dX5_mean_23 : decode cX5_mean 23 = .ok (.baload, 1) := by decide +kernel
theorem dX5_mean_24 : decode cX5_mean 24 = .ok (.ifCond .eq 7, 3) := by decide +kernel
theorem dX5_mean_27 : decode cX5_mean 27 = .ok (.lconst 0, 1) := by decide +kernel
theorem dX5_mean_28 : decode cX5_mean 28 = .ok (.goto 11, 3) := by decide +kernel
theorem dX5_mean_31 : decode cX5_mean 31 = .ok (.aload_n 0, 1) := by decide +kernel
theorem dX5_mean_32 : decode cX5_mean 32 = .ok (.getfield 16, 3) := by decide +kernel
theorem dX5_mean_35 : decode cX5_mean 35 = .ok (.iload 4, 2) := by decide +kernel
theorem dX5_mean_37 : decode cX5_mean 37 = .ok (.iaload, 1) := by decide +kernel
theorem dX5_mean_38 : decode cX5_mean 38 = .ok (.i2l, 1) := by decide +kernel
theorem dX5_mean_39 : decode cX5_mean 39 = .ok (.ladd, 1) := by decide +kernel
theorem dX5_mean_40 : decode cX5_mean 40 = .ok (.lstore_n 1, 1) := by decide +kernel
theorem dX5_mean_41 : decode cX5_mean 41 = .ok (.iload_n 3, 1) := by decide +kernel
theorem dX5_mean_42 : decode cX5_mean 42 = .ok (.aload_n 0, 1) := by decide +kernel
theorem dX5_mean_43 : decode cX5_mean 43 = .ok (.getfield 28, 3) := by decide +kernel
theorem dX5_mean_46 : decode cX5_mean 46 = .ok (.iload 4, 2) := by decide +kernel
theorem dX5_mean_48 : decode cX5_mean 48 = .ok (.baload, 1) := by decide +kernel
theorem dX5_mean_49 : decode cX5_mean 49 = .ok (.ifCond .eq 7, 3) := by decide +kernel
theorem dX5_mean_52 : decode cX5_mean 52 = .ok (.iconst 0, 1) := by decide +kernel
theorem dX5_mean_53 : decode cX5_mean 53 = .ok (.goto 4, 3) := by decide +kernel
theorem dX5_mean_56 : decode cX5_mean 56 = .ok (.iconst 1, 1) := by decide +kernel
theorem dX5_mean_57 : decode cX5_mean 57 = .ok (.iadd, 1) := by decide +kernel
theorem dX5_mean_58 : decode cX5_mean 58 = .ok (.istore_n 3, 1) := by decide +kernel
theorem dX5_mean_59 : decode cX5_mean 59 = .ok (.iinc 4 1, 3) := by decide +kernel
theorem dX5_mean_62 : decode cX5_mean 62 = .ok (.goto (-55), 3) := by decide +kernel
theorem dX5_mean_65 : decode cX5_mean 65 = .ok (.iload_n 3, 1) := by decide +kernel
theorem dX5_mean_66 : decode cX5_mean 66 = .ok (.ifCond .ne 11, 3) := by decide +kernel
theorem dX5_mean_69 : decode cX5_mean 69 = .ok (.aload_n 0, 1) := by decide +kernel
theorem dX5_mean_70 : decode cX5_mean 70 = .ok (.iconst 4, 1) := by decide +kernel
theorem dX5_mean_71 : decode cX5_mean 71 = .ok (.invokevirtual 79, 3) := by decide +kernel
theorem dX5_mean_74 : decode cX5_mean 74 = .ok (.goto 14, 3) := by decide +kernel
theorem dX5_mean_77 : decode cX5_mean 77 = .ok (.aload_n 0, 1) := by decide +kernel
theorem dX5_mean_78 : decode cX5_mean 78 = .ok (.lload_n 1, 1) := by decide +kernel
theorem dX5_mean_79 : decode cX5_mean 79 = .ok (.iload_n 3, 1) := by decide +kernel
theorem dX5_mean_80 : decode cX5_mean 80 = .ok (.invokestatic 89, 3) := by decide +kernel
theorem dX5_mean_83 : decode cX5_mean 83 = .ok (.i2l, 1) := by decide +kernel
theorem dX5_mean_84 : decode cX5_mean 84 = .ok (.iconst 1, 1) := by decide +kernel
theorem dX5_mean_85 : decode cX5_mean 85 = .ok (.invokevirtual 96, 3) := by decide +kernel
theorem dX5_mean_88 : decode cX5_mean 88 = .ok (.ireturn, 1) := by decide +kernel
theorem dX5_lift_0 : decode cX5_lift 0 = .ok (.aload_n 0, 1) := by decide +kernel
theorem dX5_lift_1 : decode cX5_lift 1 = .ok (.iload_n 1, 1) := by decide +kernel
theorem dX5_lift_2 : decode cX5_lift 2 = .ok (.invokevirtual 75, 3) := by decide +kernel
theorem dX5_lift_5 : decode cX5_lift 5 = .ok (.ifCond .eq 29, 3) := by decide +kernel
theorem dX5_lift_8 : decode cX5_lift 8 = .ok (.aload_n 0, 1) := by decide +kernel
theorem dX5_lift_9 : decode cX5_lift 9 = .ok (.iload_n 2, 1) := by decide +kernel
theorem dX5_lift_10 : decode cX5_lift 10 = .ok (.invokevirtual 75, 3) := by decide +kernel
theorem dX5_lift_13 : decode cX5_lift 13 = .ok (.ifCond .eq 21, 3) := by decide +kernel
theorem dX5_lift_16 : decode cX5_lift 16 = .ok (.iload_n 1, 1) := by decide +kernel
theorem dX5_lift_17 : decode cX5_lift 17 = .ok (.iload_n 2, 1) := by decide +kernel
theorem dX5_lift_18 : decode cX5_lift 18 = .ok (.if_icmp .gt 16, 3) := by decide +kernel
theorem dX5_lift_21 : decode cX5_lift 21 = .ok (.iload_n 3, 1) := by decide +kernel
theorem dX5_lift_22 : decode cX5_lift 22 = .ok (.sipush (-10000), 3) := by decide +kernel
theorem dX5_lift_25 : decode cX5_lift 25 = .ok (.sipush 10000, 3) := by decide +kernel
theorem dX5_lift_28 : decode cX5_lift 28 = .ok (.invokestatic 68, 3) := by decide +kernel
theorem dX5_lift_31 : decode cX5_lift 31 = .ok (.ifCond .ne 5, 3) := by decide +kernel
end
section
theorem dX5_lift_34 : decode cX5_lift 34 = .ok (.iconst (-1), 1) := by decide +kernel
theorem dX5_lift_35 : decode cX5_lift 35 = .ok (.ireturn, 1) := by decide +kernel
theorem dX5_lift_36 : decode cX5_lift 36 = .ok (.iconst 0, 1) := by decide +kernel
theorem dX5_lift_37 : decode cX5_lift 37 = .ok (.istore 4, 2) := by decide +kernel
theorem dX5_lift_39 : decode cX5_lift 39 = .ok (.iload_n 1, 1) := by decide +kernel
theorem dX5_lift_40 : decode cX5_lift 40 = .ok (.istore 5, 2) := by decide +kernel
theorem dX5_lift_42 : decode cX5_lift 42 = .ok (.iload 5, 2) := by decide +kernel
theorem dX5_lift_44 : decode cX5_lift 44 = .ok (.iload_n 2, 1) := by decide +kernel
theorem dX5_lift_45 : decode cX5_lift 45 = .ok (.if_icmp .gt 80, 3) := by decide +kernel
theorem dX5_lift_48 : decode cX5_lift 48 = .ok (.aload_n 0, 1) := by decide +kernel
theorem dX5_lift_49 : decode cX5_lift 49 = .ok (.getfield 28, 3) := by decide +kernel
theorem dX5_lift_52 : decode cX5_lift 52 = .ok (.iload 5, 2) := by decide +kernel
theorem dX5_lift_54 : decode cX5_lift 54 = .ok (.baload, 1) := by decide +kernel
theorem dX5_lift_55 : decode cX5_lift 55 = .ok (.ifCond .ne 64, 3) := by decide +kernel
theorem dX5_lift_58 : decode cX5_lift 58 = .ok (.aload_n 0, 1) := by decide +kernel
theorem dX5_lift_59 : decode cX5_lift 59 = .ok (.getfield 16, 3) := by decide +kernel
theorem dX5_lift_62 : decode cX5_lift 62 = .ok (.iload 5, 2) := by decide +kernel
theorem dX5_lift_64 : decode cX5_lift 64 = .ok (.iaload, 1) := by decide +kernel
theorem dX5_lift_65 : decode cX5_lift 65 = .ok (.iload_n 3, 1) := by decide +kernel
theorem dX5_lift_66 : decode cX5_lift 66 = .ok (.if_icmp .ge 53, 3) := by decide +kernel
theorem dX5_lift_69 : decode cX5_lift 69 = .ok (.aload_n 0, 1) := by decide +kernel
theorem dX5_lift_70 : decode cX5_lift 70 = .ok (.getfield 16, 3) := by decide +kernel
theorem dX5_lift_73 : decode cX5_lift 73 = .ok (.iload 5, 2) := by decide +kernel
theorem dX5_lift_75 : decode cX5_lift 75 = .ok (.iload_n 3, 1) := by decide +kernel
theorem dX5_lift_76 : decode cX5_lift 76 = .ok (.iastore, 1) := by decide +kernel
theorem dX5_lift_77 : decode cX5_lift 77 = .ok (.aload_n 0, 1) := by decide +kernel
theorem dX5_lift_78 : decode cX5_lift 78 = .ok (.getfield 22, 3) := by decide +kernel
theorem dX5_lift_81 : decode cX5_lift 81 = .ok (.iload 5, 2) := by decide +kernel
theorem dX5_lift_83 : decode cX5_lift 83 = .ok (.iconst 0, 1) := by decide +kernel
theorem dX5_lift_84 : decode cX5_lift 84 = .ok (.iastore, 1) := by decide +kernel
theorem dX5_lift_85 : decode cX5_lift 85 = .ok (.aload_n 0, 1) := by decide +kernel
theorem dX5_lift_86 : decode cX5_lift 86 = .ok (.getfield 19, 3) := by decide +kernel
theorem dX5_lift_89 : decode cX5_lift 89 = .ok (.iload 5, 2) := by decide +kernel
theorem dX5_lift_91 : decode cX5_lift 91 = .ok (.aload_n 0, 1) := by decide +kernel
theorem dX5_lift_92 : decode cX5_lift 92 = .ok (.getfield 19, 3) := by decide +kernel
theorem dX5_lift_95 : decode cX5_lift 95 = .ok (.iload 5, 2) := by decide +kernel
theorem dX5_lift_97 : decode cX5_lift 97 = .ok (.iaload, 1) := by decide +kernel
theorem dX5_lift_98 : decode cX5_lift 98 = .ok (.iconst 1, 1) := by decide +kernel
theorem dX5_lift_99 : decode cX5_lift 99 = .ok (.if_icmp .le 15, 3) := by decide +kernel
theorem dX5_lift_102 : decode cX5_lift 102 = .ok (.aload_n 0, 1) := by decide +kernel
theorem dX5_lift_103 : decode cX5_lift 103 = .ok (.getfield 19, 3) := by decide +kernel
theorem dX5_lift_106 : decode cX5_lift 106 = .ok (.iload 5, 2) := by decide +kernel
theorem dX5_lift_108 : decode cX5_lift 108 = .ok (.iaload, 1) := by decide +kernel
theorem dX5_lift_109 : decode cX5_lift 109 = .ok (.iconst 1, 1) := by decide +kernel
theorem dX5_lift_110 : decode cX5_lift 110 = .ok (.isub, 1) := by decide +kernel
theorem dX5_lift_111 : decode cX5_lift 111 = .ok (.goto 4, 3) := by decide +kernel
theorem dX5_lift_114 : decode cX5_lift 114 = .ok (.iconst 1, 1) := by decide +kernel
theorem dX5_lift_115 : decode cX5_lift 115 = .ok (.iastore, 1) := by decide +kernel
theorem dX5_lift_116 : decode cX5_lift 116 = .ok (.iinc 4 1, 3) := by decide +kernel
theorem dX5_lift_119 : decode cX5_lift 119 = .ok (.iinc 5 1, 3) := by decide +kernel
theorem dX5_lift_122 : decode cX5_lift 122 = .ok (.goto (-80), 3) := by decide +kernel
theorem dX5_lift_125 : decode cX5_lift 125 = .ok (.iload 4, 2) := by decide +kernel
theorem dX5_lift_127 : decode cX5_lift 127 = .ok (.ireturn, 1) := by decide +kernel
theorem dX5_isNumber_0 : decode cX5_isNumber 0 = .ok (.iload_n 0, 1) := by decide +kernel
theorem dX5_isNumber_1 : decode cX5_isNumber 1 = .ok (.iconst 0, 1) := by decide +kernel
theorem dX5_isNumber_2 : decode cX5_isNumber 2 = .ok (.iconst 5, 1) := by decide +kernel
theorem dX5_isNumber_3 : decode cX5_isNumber 3 = .ok (.invokestatic 68, 3) := by decide +kernel
theorem dX5_isNumber_6 : decode cX5_isNumber 6 = .ok (.ireturn, 1) := by decide +kernel
theorem dX5_chordAt_0 : decode cX5_chordAt 0 = .ok (.aload_n 0, 1) := by decide +kernel
theorem dX5_chordAt_1 : decode cX5_chordAt 1 = .ok (.iload_n 1, 1) := by decide +kernel
theorem dX5_chordAt_2 : decode cX5_chordAt 2 = .ok (.iload_n 2, 1) := by decide +kernel
theorem dX5_chordAt_3 : decode cX5_chordAt 3 = .ok (.isub, 1) := by decide +kernel
theorem dX5_chordAt_4 : decode cX5_chordAt 4 = .ok (.invokevirtual 75, 3) := by decide +kernel
theorem dX5_chordAt_7 : decode cX5_chordAt 7 = .ok (.ifCond .eq 39, 3) := by decide +kernel
theorem dX5_chordAt_10 : decode cX5_chordAt 10 = .ok (.aload_n 0, 1) := by decide +kernel
theorem dX5_chordAt_11 : decode cX5_chordAt 11 = .ok (.iload_n 1, 1) := by decide +kernel
theorem dX5_chordAt_12 : decode cX5_chordAt 12 = .ok (.iload_n 2, 1) := by decide +kernel
theorem dX5_chordAt_13 : decode cX5_chordAt 13 = .ok (.iadd, 1) := by decide +kernel
theorem dX5_chordAt_14 : decode cX5_chordAt 14 = .ok (.invokevirtual 75, 3) := by decide +kernel
theorem dX5_chordAt_17 : decode cX5_chordAt 17 = .ok (.ifCond .eq 29, 3) := by decide +kernel
theorem dX5_chordAt_20 : decode cX5_chordAt 20 = .ok (.iconst 2, 1) := by decide +kernel
theorem dX5_chordAt_21 : decode cX5_chordAt 21 = .ok (.aload_n 0, 1) := by decide +kernel
theorem dX5_chordAt_22 : decode cX5_chordAt 22 = .ok (.iload_n 1, 1) := by decide +kernel
theorem dX5_chordAt_23 : decode cX5_chordAt 23 = .ok (.invokevirtual 93, 3) := by decide +kernel
theorem dX5_chordAt_26 : decode cX5_chordAt 26 = .ok (.imul, 1) := by decide +kernel
theorem dX5_chordAt_27 : decode cX5_chordAt 27 = .ok (.aload_n 0, 1) := by decide +kernel
theorem dX5_chordAt_28 : decode cX5_chordAt 28 = .ok (.iload_n 1, 1) := by decide +kernel
theorem dX5_chordAt_29 : decode cX5_chordAt 29 = .ok (.iload_n 2, 1) := by decide +kernel
theorem dX5_chordAt_30 : decode cX5_chordAt 30 = .ok (.isub, 1) := by decide +kernel
theorem dX5_chordAt_31 : decode cX5_chordAt 31 = .ok (.invokevirtual 93, 3) := by decide +kernel
theorem dX5_chordAt_34 : decode cX5_chordAt 34 = .ok (.isub, 1) := by decide +kernel
theorem dX5_chordAt_35 : decode cX5_chordAt 35 = .ok (.aload_n 0, 1) := by decide +kernel
theorem dX5_chordAt_36 : decode cX5_chordAt 36 = .ok (.iload_n 1, 1) := by decide +kernel
theorem dX5_chordAt_37 : decode cX5_chordAt 37 = .ok (.iload_n 2, 1) := by decide +kernel
theorem dX5_chordAt_38 : decode cX5_chordAt 38 = .ok (.iadd, 1) := by decide +kernel
theorem dX5_chordAt_39 : decode cX5_chordAt 39 = .ok (.invokevirtual 93, 3) := by decide +kernel
theorem dX5_chordAt_42 : decode cX5_chordAt 42 = .ok (.isub, 1) := by decide +kernel
theorem dX5_chordAt_43 : decode cX5_chordAt 43 = .ok (.goto 4, 3) := by decide +kernel
theorem dX5_chordAt_46 : decode cX5_chordAt 46 = .ok (.iconst 0, 1) := by decide +kernel
theorem dX5_chordAt_47 : decode cX5_chordAt 47 = .ok (.ireturn, 1) := by decide +kernel
theorem dX5_measure_0 : decode cX5_measure 0 = .ok (.iload_n 1, 1) := by decide +kernel
theorem dX5_measure_1 : decode cX5_measure 1 = .ok (.invokestatic 111, 3) := by decide +kernel
theorem dX5_measure_4 : decode cX5_measure 4 = .ok (.ifCond .eq 12, 3) := by decide +kernel
theorem dX5_measure_7 : decode cX5_measure 7 = .ok (.iload_n 2, 1) := by decide +kernel
theorem dX5_measure_8 : decode cX5_measure 8 = .ok (.iconst 1, 1) := by decide +kernel
theorem dX5_measure_9 : decode cX5_measure 9 = .ok (.iconst 4, 1) := by decide +kernel
theorem dX5_measure_10 : decode cX5_measure 10 = .ok (.invokestatic 68, 3) := by decide +kernel
theorem dX5_measure_13 : decode cX5_measure 13 = .ok (.ifCond .ne 5, 3) := by decide +kernel
theorem dX5_measure_16 : decode cX5_measure 16 = .ok (.iconst (-1), 1) := by decide +kernel
theorem dX5_measure_17 : decode cX5_measure 17 = .ok (.ireturn, 1) := by decide +kernel
theorem dX5_measure_18 : decode cX5_measure 18 = .ok (.aload_n 0, 1) := by decide +kernel
theorem dX5_measure_19 : decode cX5_measure 19 = .ok (.getfield 41, 3) := by decide +kernel
theorem dX5_measure_22 : decode cX5_measure 22 = .ok (.iload_n 1, 1) := by decide +kernel
theorem dX5_measure_23 : decode cX5_measure 23 = .ok (.baload, 1) := by decide +kernel
theorem dX5_measure_24 : decode cX5_measure 24 = .ok (.ifCond .eq 7, 3) := by decide +kernel
theorem dX5_measure_27 : decode cX5_measure 27 = .ok (.iconst 1, 1) := by decide +kernel
theorem dX5_measure_28 : decode cX5_measure 28 = .ok (.goto 4, 3) := by decide +kernel
theorem dX5_measure_31 : decode cX5_measure 31 = .ok (.iconst 0, 1) := by decide +kernel
theorem dX5_measure_32 : decode cX5_measure 32 = .ok (.istore_n 3, 1) := by decide +kernel
theorem dX5_measure_33 : decode cX5_measure 33 = .ok (.aload_n 0, 1) := by decide +kernel
theorem dX5_measure_34 : decode cX5_measure 34 = .ok (.getfield 41, 3) := by decide +kernel
theorem dX5_measure_37 : decode cX5_measure 37 = .ok (.iload_n 1, 1) := by decide +kernel
theorem dX5_measure_38 : decode cX5_measure 38 = .ok (.iconst 1, 1) := by decide +kernel
theorem dX5_measure_39 : decode cX5_measure 39 = .ok (.bastore, 1) := by decide +kernel
theorem dX5_measure_40 : decode cX5_measure 40 = .ok (.iconst 0, 1) := by decide +kernel
theorem dX5_measure_41 : decode cX5_measure 41 = .ok (.istore 4, 2) := by decide +kernel
theorem dX5_measure_43 : decode cX5_measure 43 = .ok (.iload 4, 2) := by decide +kernel
theorem dX5_measure_45 : decode cX5_measure 45 = .ok (.bipush 40, 2) := by decide +kernel
theorem dX5_measure_47 : decode cX5_measure 47 = .ok (.if_icmp .ge 41, 3) := by decide +kernel
theorem dX5_measure_50 : decode cX5_measure 50 = .ok (.aload_n 0, 1) := by decide +kernel
theorem dX5_measure_51 : decode cX5_measure 51 = .ok (.getfield 44, 3) := by decide +kernel
theorem dX5_measure_54 : decode cX5_measure 54 = .ok (.bipush 40, 2) := by decide +kernel
theorem dX5_measure_56 : decode cX5_measure 56 = .ok (.iload_n 1, 1) := by decide +kernel
theorem dX5_measure_57 : decode cX5_measure 57 = .ok (.imul, 1) := by decide +kernel
theorem dX5_measure_58 : decode cX5_measure 58 = .ok (.iload 4, 2) := by decide +kernel
theorem dX5_measure_60 : decode cX5_measure 60 = .ok (.iadd, 1) := by decide +kernel
theorem dX5_measure_61 : decode cX5_measure 61 = .ok (.iload 4, 2) := by decide +kernel
theorem dX5_measure_63 : decode cX5_measure 63 = .ok (.aload_n 0, 1) := by decide +kernel
theorem dX5_measure_64 : decode cX5_measure 64 = .ok (.getfield 72, 3) := by decide +kernel
theorem dX5_measure_67 : decode cX5_measure 67 = .ok (.if_icmp .ge 13, 3) := by decide +kernel
theorem dX5_measure_70 : decode cX5_measure 70 = .ok (.aload_n 0, 1) := by decide +kernel
theorem dX5_measure_71 : decode cX5_measure 71 = .ok (.iload 4, 2) := by decide +kernel
theorem dX5_measure_73 : decode cX5_measure 73 = .ok (.iload_n 2, 1) := by decide +kernel
theorem dX5_measure_74 : decode cX5_measure 74 = .ok (.invokevirtual 114, 3) := by decide +kernel
theorem dX5_measure_77 : decode cX5_measure 77 = .ok (.goto 4, 3) := by decide +kernel
theorem dX5_measure_80 : decode cX5_measure 80 = .ok (.iconst 0, 1) := by decide +kernel
theorem dX5_measure_81 : decode cX5_measure 81 = .ok (.iastore, 1) := by decide +kernel
theorem dX5_measure_82 : decode cX5_measure 82 = .ok (.iinc 4 1, 3) := by decide +kernel
theorem dX5_measure_85 : decode cX5_measure 85 = .ok (.goto (-42), 3) := by decide +kernel
theorem dX5_measure_88 : decode cX5_measure 88 = .ok (.iload_n 3, 1) := by decide +kernel
theorem dX5_measure_89 : decode cX5_measure 89 = .ok (.ireturn, 1) := by decide +kernel
theorem dX5_level_0 : decode cX5_level 0 = .ok (.iload_n 1, 1) := by decide +kernel
theorem dX5_level_1 : decode cX5_level 1 = .ok (.invokestatic 111, 3) := by decide +kernel
theorem dX5_level_4 : decode cX5_level 4 = .ok (.ifCond .ne 5, 3) := by decide +kernel
theorem dX5_level_7 : decode cX5_level 7 = .ok (.iconst (-1), 1) := by decide +kernel
theorem dX5_level_8 : decode cX5_level 8 = .ok (.ireturn, 1) := by decide +kernel
theorem dX5_level_9 : decode cX5_level 9 = .ok (.aload_n 0, 1) := by decide +kernel
theorem dX5_level_10 : decode cX5_level 10 = .ok (.getfield 41, 3) := by decide +kernel
theorem dX5_level_13 : decode cX5_level 13 = .ok (.iload_n 1, 1) := by decide +kernel
theorem dX5_level_14 : decode cX5_level 14 = .ok (.baload, 1) := by decide +kernel
theorem dX5_level_15 : decode cX5_level 15 = .ok (.ifCond .eq 7, 3) := by decide +kernel
theorem dX5_level_18 : decode cX5_level 18 = .ok (.iconst 1, 1) := by decide +kernel
theorem dX5_level_19 : decode cX5_level 19 = .ok (.goto 4, 3) := by decide +kernel
theorem dX5_level_22 : decode cX5_level 22 = .ok (.iconst 0, 1) := by decide +kernel
theorem dX5_level_23 : decode cX5_level 23 = .ok (.istore_n 2, 1) := by decide +kernel
theorem dX5_level_24 : decode cX5_level 24 = .ok (.aload_n 0, 1) := by decide +kernel
theorem dX5_level_25 : decode cX5_level 25 = .ok (.getfield 41, 3) := by decide +kernel
theorem dX5_level_28 : decode cX5_level 28 = .ok (.iload_n 1, 1) := by decide +kernel
theorem dX5_level_29 : decode cX5_level 29 = .ok (.iconst 1, 1) := by decide +kernel
theorem dX5_level_30 : decode cX5_level 30 = .ok (.bastore, 1) := by decide +kernel
theorem dX5_level_31 : decode cX5_level 31 = .ok (.iconst 0, 1) := by decide +kernel
theorem dX5_level_32 : decode cX5_level 32 = .ok (.istore_n 3, 1) := by decide +kernel
theorem dX5_level_33 : decode cX5_level 33 = .ok (.iload_n 3, 1) := by decide +kernel
theorem dX5_level_34 : decode cX5_level 34 = .ok (.bipush 40, 2) := by decide +kernel
theorem dX5_level_36 : decode cX5_level 36 = .ok (.if_icmp .ge 37, 3) := by decide +kernel
theorem dX5_level_39 : decode cX5_level 39 = .ok (.aload_n 0, 1) := by decide +kernel
theorem dX5_level_40 : decode cX5_level 40 = .ok (.getfield 44, 3) := by decide +kernel
theorem dX5_level_43 : decode cX5_level 43 = .ok (.bipush 40, 2) := by decide +kernel
theorem dX5_level_45 : decode cX5_level 45 = .ok (.iload_n 1, 1) := by decide +kernel
theorem dX5_level_46 : decode cX5_level 46 = .ok (.imul, 1) := by decide +kernel
theorem dX5_level_47 : decode cX5_level 47 = .ok (.iload_n 3, 1) := by decide +kernel
theorem dX5_level_48 : decode cX5_level 48 = .ok (.iadd, 1) := by decide +kernel
theorem dX5_level_49 : decode cX5_level 49 = .ok (.iload_n 3, 1) := by decide +kernel
theorem dX5_level_50 : decode cX5_level 50 = .ok (.aload_n 0, 1) := by decide +kernel
theorem dX5_level_51 : decode cX5_level 51 = .ok (.getfield 72, 3) := by decide +kernel
theorem dX5_level_54 : decode cX5_level 54 = .ok (.if_icmp .ge 11, 3) := by decide +kernel
theorem dX5_level_57 : decode cX5_level 57 = .ok (.aload_n 0, 1) := by decide +kernel
theorem dX5_level_58 : decode cX5_level 58 = .ok (.iload_n 3, 1) := by decide +kernel
theorem dX5_level_59 : decode cX5_level 59 = .ok (.invokevirtual 93, 3) := by decide +kernel
theorem dX5_level_62 : decode cX5_level 62 = .ok (.goto 4, 3) := by decide +kernel
theorem dX5_level_65 : decode cX5_level 65 = .ok (.iconst 0, 1) := by decide +kernel
theorem dX5_level_66 : decode cX5_level 66 = .ok (.iastore, 1) := by decide +kernel
theorem dX5_level_67 : decode cX5_level 67 = .ok (.iinc 3 1, 3) := by decide +kernel
theorem dX5_level_70 : decode cX5_level 70 = .ok (.goto (-37), 3) := by decide +kernel
theorem dX5_level_73 : decode cX5_level 73 = .ok (.iload_n 2, 1) := by decide +kernel
theorem dX5_level_74 : decode cX5_level 74 = .ok (.ireturn, 1) := by decide +kernel
theorem dX5_askedFor_0 : decode cX5_askedFor 0 = .ok (.iload_n 1, 1) := by decide +kernel
theorem dX5_askedFor_1 : decode cX5_askedFor 1 = .ok (.invokestatic 111, 3) := by decide +kernel
theorem dX5_askedFor_4 : decode cX5_askedFor 4 = .ok (.ifCond .ne 7, 3) := by decide +kernel
theorem dX5_askedFor_7 : decode cX5_askedFor 7 = .ok (.iconst (-1), 1) := by decide +kernel
theorem dX5_askedFor_8 : decode cX5_askedFor 8 = .ok (.goto 21, 3) := by decide +kernel
theorem dX5_askedFor_11 : decode cX5_askedFor 11 = .ok (.aload_n 0, 1) := by decide +kernel
theorem dX5_askedFor_12 : decode cX5_askedFor 12 = .ok (.getfield 41, 3) := by decide +kernel
theorem dX5_askedFor_15 : decode cX5_askedFor 15 = .ok (.iload_n 1, 1) := by decide +kernel
theorem dX5_askedFor_16 : decode cX5_askedFor 16 = .ok (.baload, 1) := by decide +kernel
theorem dX5_askedFor_17 : decode cX5_askedFor 17 = .ok (.ifCond .eq 7, 3) := by decide +kernel
theorem dX5_askedFor_20 : decode cX5_askedFor 20 = .ok (.iconst 0, 1) := by decide +kernel
theorem dX5_askedFor_21 : decode cX5_askedFor 21 = .ok (.goto 8, 3) := by decide +kernel
theorem dX5_askedFor_24 : decode cX5_askedFor 24 = .ok (.aload_n 0, 1) := by decide +kernel
theorem dX5_askedFor_25 : decode cX5_askedFor 25 = .ok (.iconst 1, 1) := by decide +kernel
theorem dX5_askedFor_26 : decode cX5_askedFor 26 = .ok (.invokevirtual 79, 3) := by decide +kernel
theorem dX5_askedFor_29 : decode cX5_askedFor 29 = .ok (.ireturn, 1) := by decide +kernel
theorem dX5_lay_0 : decode cX5_lay 0 = .ok (.iload_n 3, 1) := by decide +kernel
theorem dX5_lay_1 : decode cX5_lay 1 = .ok (.ldc 117, 2) := by decide +kernel
theorem dX5_lay_3 : decode cX5_lay 3 = .ok (.ldc 118, 2) := by decide +kernel
theorem dX5_lay_5 : decode cX5_lay 5 = .ok (.invokestatic 68, 3) := by decide +kernel
theorem dX5_lay_8 : decode cX5_lay 8 = .ok (.ifCond .ne 5, 3) := by decide +kernel
theorem dX5_lay_11 : decode cX5_lay 11 = .ok (.iconst (-1), 1) := by decide +kernel
theorem dX5_lay_12 : decode cX5_lay 12 = .ok (.ireturn, 1) := by decide +kernel
theorem dX5_lay_13 : decode cX5_lay 13 = .ok (.aload_n 0, 1) := by decide +kernel
theorem dX5_lay_14 : decode cX5_lay 14 = .ok (.iload_n 1, 1) := by decide +kernel
theorem dX5_lay_15 : decode cX5_lay 15 = .ok (.invokevirtual 119, 3) := by decide +kernel
theorem dX5_lay_18 : decode cX5_lay 18 = .ok (.istore 4, 2) := by decide +kernel
theorem dX5_lay_20 : decode cX5_lay 20 = .ok (.iload 4, 2) := by decide +kernel
theorem dX5_lay_22 : decode cX5_lay 22 = .ok (.ifCond .ge 6, 3) := by decide +kernel
theorem dX5_lay_25 : decode cX5_lay 25 = .ok (.iload 4, 2) := by decide +kernel
theorem dX5_lay_27 : decode cX5_lay 27 = .ok (.ireturn, 1) := by decide +kernel
theorem dX5_lay_28 : decode cX5_lay 28 = .ok (.iload_n 2, 1) := by decide +kernel
theorem dX5_lay_29 : decode cX5_lay 29 = .ok (.iconst 0, 1) := by decide +kernel
theorem dX5_lay_30 : decode cX5_lay 30 = .ok (.bipush 39, 2) := by decide +kernel
theorem dX5_lay_32 : decode cX5_lay 32 = .ok (.invokestatic 68, 3) := by decide +kernel
theorem dX5_lay_35 : decode cX5_lay 35 = .ok (.ifCond .ne 9, 3) := by decide +kernel
theorem dX5_lay_38 : decode cX5_lay 38 = .ok (.aload_n 0, 1) := by decide +kernel
theorem dX5_lay_39 : decode cX5_lay 39 = .ok (.iconst 2, 1) := by decide +kernel
theorem dX5_lay_40 : decode cX5_lay 40 = .ok (.invokevirtual 79, 3) := by decide +kernel
theorem dX5_lay_43 : decode cX5_lay 43 = .ok (.ireturn, 1) := by decide +kernel
theorem dX5_lay_44 : decode cX5_lay 44 = .ok (.aload_n 0, 1) := by decide +kernel
theorem dX5_lay_45 : decode cX5_lay 45 = .ok (.aload_n 0, 1) := by decide +kernel
theorem dX5_lay_46 : decode cX5_lay 46 = .ok (.getfield 44, 3) := by decide +kernel
theorem dX5_lay_49 : decode cX5_lay 49 = .ok (.bipush 40, 2) := by decide +kernel
theorem dX5_lay_51 : decode cX5_lay 51 = .ok (.iload_n 1, 1) := by decide +kernel
theorem dX5_lay_52 : decode cX5_lay 52 = .ok (.imul, 1) := by decide +kernel
theorem dX5_lay_53 : decode cX5_lay 53 = .ok (.iload_n 2, 1) := by decide +kernel
theorem dX5_lay_54 : decode cX5_lay 54 = .ok (.iadd, 1) := by decide +kernel
theorem dX5_lay_55 : decode cX5_lay 55 = .ok (.iaload, 1) := by decide +kernel
theorem dX5_lay_56 : decode cX5_lay 56 = .ok (.i2l, 1) := by decide +kernel
theorem dX5_lay_57 : decode cX5_lay 57 = .ok (.putfield 64, 3) := by decide +kernel
theorem dX5_lay_60 : decode cX5_lay 60 = .ok (.aload_n 0, 1) := by decide +kernel
theorem dX5_lay_61 : decode cX5_lay 61 = .ok (.getfield 44, 3) := by decide +kernel
theorem dX5_lay_64 : decode cX5_lay 64 = .ok (.bipush 40, 2) := by decide +kernel
theorem dX5_lay_66 : decode cX5_lay 66 = .ok (.iload_n 1, 1) := by decide +kernel
theorem dX5_lay_67 : decode cX5_lay 67 = .ok (.imul, 1) := by decide +kernel
theorem dX5_lay_68 : decode cX5_lay 68 = .ok (.iload_n 2, 1) := by decide +kernel
theorem dX5_lay_69 : decode cX5_lay 69 = .ok (.iadd, 1) := by decide +kernel
theorem dX5_lay_70 : decode cX5_lay 70 = .ok (.iload_n 3, 1) := by decide +kernel
theorem dX5_lay_71 : decode cX5_lay 71 = .ok (.iastore, 1) := by decide +kernel
theorem dX5_lay_72 : decode cX5_lay 72 = .ok (.iconst 1, 1) := by decide +kernel
theorem dX5_lay_73 : decode cX5_lay 73 = .ok (.ireturn, 1) := by decide +kernel
theorem dX5_at_0 : decode cX5_at 0 = .ok (.aload_n 0, 1) := by decide +kernel
theorem dX5_at_1 : decode cX5_at 1 = .ok (.iload_n 1, 1) := by decide +kernel
theorem dX5_at_2 : decode cX5_at 2 = .ok (.invokevirtual 119, 3) := by decide +kernel
theorem dX5_at_5 : decode cX5_at 5 = .ok (.istore_n 3, 1) := by decide +kernel
theorem dX5_at_6 : decode cX5_at 6 = .ok (.iload_n 3, 1) := by decide +kernel
theorem dX5_at_7 : decode cX5_at 7 = .ok (.ifCond .ge 7, 3) := by decide +kernel
theorem dX5_at_10 : decode cX5_at 10 = .ok (.iload_n 3, 1) := by decide +kernel
theorem dX5_at_11 : decode cX5_at 11 = .ok (.goto 38, 3) := by decide +kernel
theorem dX5_at_14 : decode cX5_at 14 = .ok (.iload_n 2, 1) := by decide +kernel
theorem dX5_at_15 : decode cX5_at 15 = .ok (.iconst 0, 1) := by decide +kernel
theorem dX5_at_16 : decode cX5_at 16 = .ok (.bipush 39, 2) := by decide +kernel
theorem dX5_at_18 : decode cX5_at 18 = .ok (.invokestatic 68, 3) := by decide +kernel
theorem dX5_at_21 : decode cX5_at 21 = .ok (.ifCond .eq 23, 3) := by decide +kernel
theorem dX5_at_24 : decode cX5_at 24 = .ok (.aload_n 0, 1) := by decide +kernel
theorem dX5_at_25 : decode cX5_at 25 = .ok (.aload_n 0, 1) := by decide +kernel
theorem dX5_at_26 : decode cX5_at 26 = .ok (.getfield 44, 3) := by decide +kernel
theorem dX5_at_29 : decode cX5_at 29 = .ok (.bipush 40, 2) := by decide +kernel
theorem dX5_at_31 : decode cX5_at 31 = .ok (.iload_n 1, 1) := by decide +kernel
theorem dX5_at_32 : decode cX5_at 32 = .ok (.imul, 1) := by decide +kernel
theorem dX5_at_33 : decode cX5_at 33 = .ok (.iload_n 2, 1) := by decide +kernel
theorem dX5_at_34 : decode cX5_at 34 = .ok (.iadd, 1) := by decide +kernel
theorem dX5_at_35 : decode cX5_at 35 = .ok (.iaload, 1) := by decide +kernel
theorem dX5_at_36 : decode cX5_at 36 = .ok (.i2l, 1) := by decide +kernel
theorem dX5_at_37 : decode cX5_at 37 = .ok (.iconst 1, 1) := by decide +kernel
theorem dX5_at_38 : decode cX5_at 38 = .ok (.invokevirtual 96, 3) := by decide +kernel
theorem dX5_at_41 : decode cX5_at 41 = .ok (.goto 8, 3) := by decide +kernel
theorem dX5_at_44 : decode cX5_at 44 = .ok (.aload_n 0, 1) := by decide +kernel
theorem dX5_at_45 : decode cX5_at 45 = .ok (.iconst 2, 1) := by decide +kernel
theorem dX5_at_46 : decode cX5_at 46 = .ok (.invokevirtual 79, 3) := by decide +kernel
theorem dX5_at_49 : decode cX5_at 49 = .ok (.ireturn, 1) := by decide +kernel
theorem dX5_shape_0 : decode cX5_shape 0 = .ok (.iload_n 2, 1) := by decide +kernel
theorem dX5_shape_1 : decode cX5_shape 1 = .ok (.sipush (-10000), 3) := by decide +kernel
theorem dX5_shape_4 : decode cX5_shape 4 = .ok (.sipush 10000, 3) := by decide +kernel
theorem dX5_shape_7 : decode cX5_shape 7 = .ok (.invokestatic 68, 3) := by decide +kernel
theorem dX5_shape_10 : decode cX5_shape 10 = .ok (.ifCond .eq 16, 3) := by decide +kernel
theorem dX5_shape_13 : decode cX5_shape 13 = .ok (.iload_n 3, 1) := by decide +kernel
theorem dX5_shape_14 : decode cX5_shape 14 = .ok (.sipush (-10000), 3) := by decide +kernel
theorem dX5_shape_17 : decode cX5_shape 17 = .ok (.sipush 10000, 3) := by decide +kernel
theorem dX5_shape_20 : decode cX5_shape 20 = .ok (.invokestatic 68, 3) := by decide +kernel
theorem dX5_shape_23 : decode cX5_shape 23 = .ok (.ifCond .ne 5, 3) := by decide +kernel
theorem dX5_shape_26 : decode cX5_shape 26 = .ok (.iconst (-1), 1) := by decide +kernel
theorem dX5_shape_27 : decode cX5_shape 27 = .ok (.ireturn, 1) := by decide +kernel
theorem dX5_shape_28 : decode cX5_shape 28 = .ok (.aload_n 0, 1) := by decide +kernel
theorem dX5_shape_29 : decode cX5_shape 29 = .ok (.iload_n 1, 1) := by decide +kernel
theorem dX5_shape_30 : decode cX5_shape 30 = .ok (.invokevirtual 119, 3) := by decide +kernel
theorem dX5_shape_33 : decode cX5_shape 33 = .ok (.istore 4, 2) := by decide +kernel
theorem dX5_shape_35 : decode cX5_shape 35 = .ok (.iload 4, 2) := by decide +kernel
theorem dX5_shape_37 : decode cX5_shape 37 = .ok (.ifCond .ge 6, 3) := by decide +kernel
theorem dX5_shape_40 : decode cX5_shape 40 = .ok (.iload 4, 2) := by decide +kernel
theorem dX5_shape_42 : decode cX5_shape 42 = .ok (.ireturn, 1) := by decide +kernel
theorem dX5_shape_43 : decode cX5_shape 43 = .ok (.aload_n 0, 1) := by decide +kernel
theorem dX5_shape_44 : decode cX5_shape 44 = .ok (.getfield 47, 3) := by decide +kernel
theorem dX5_shape_47 : decode cX5_shape 47 = .ok (.iconst 0, 1) := by decide +kernel
theorem dX5_shape_48 : decode cX5_shape 48 = .ok (.iload_n 2, 1) := by decide +kernel
theorem dX5_shape_49 : decode cX5_shape 49 = .ok (.iastore, 1) := by decide +kernel
theorem dX5_shape_50 : decode cX5_shape 50 = .ok (.aload_n 0, 1) := by decide +kernel
theorem dX5_shape_51 : decode cX5_shape 51 = .ok (.getfield 47, 3) := by decide +kernel
theorem dX5_shape_54 : decode cX5_shape 54 = .ok (.iconst 1, 1) := by decide +kernel
theorem dX5_shape_55 : decode cX5_shape 55 = .ok (.iload_n 3, 1) := by decide +kernel
theorem dX5_shape_56 : decode cX5_shape 56 = .ok (.iastore, 1) := by decide +kernel
theorem dX5_shape_57 : decode cX5_shape 57 = .ok (.iconst 1, 1) := by decide +kernel
theorem dX5_shape_58 : decode cX5_shape 58 = .ok (.istore 5, 2) := by decide +kernel
theorem dX5_shape_60 : decode cX5_shape 60 = .ok (.iload 5, 2) := by decide +kernel
theorem dX5_shape_62 : decode cX5_shape 62 = .ok (.iconst 1, 1) := by decide +kernel
theorem dX5_shape_63 : decode cX5_shape 63 = .ok (.iadd, 1) := by decide +kernel
theorem dX5_shape_64 : decode cX5_shape 64 = .ok (.aload_n 0, 1) := by decide +kernel
theorem dX5_shape_65 : decode cX5_shape 65 = .ok (.getfield 72, 3) := by decide +kernel
theorem dX5_shape_68 : decode cX5_shape 68 = .ok (.if_icmp .ge 50, 3) := by decide +kernel
theorem dX5_shape_71 : decode cX5_shape 71 = .ok (.aload_n 0, 1) := by decide +kernel
theorem dX5_shape_72 : decode cX5_shape 72 = .ok (.getfield 47, 3) := by decide +kernel
theorem dX5_shape_75 : decode cX5_shape 75 = .ok (.iload 5, 2) := by decide +kernel
theorem dX5_shape_77 : decode cX5_shape 77 = .ok (.iconst 1, 1) := by decide +kernel
theorem dX5_shape_78 : decode cX5_shape 78 = .ok (.iadd, 1) := by decide +kernel
theorem dX5_shape_79 : decode cX5_shape 79 = .ok (.iconst 2, 1) := by decide +kernel
theorem dX5_shape_80 : decode cX5_shape 80 = .ok (.aload_n 0, 1) := by decide +kernel
theorem dX5_shape_81 : decode cX5_shape 81 = .ok (.getfield 47, 3) := by decide +kernel
theorem dX5_shape_84 : decode cX5_shape 84 = .ok (.iload 5, 2) := by decide +kernel
theorem dX5_shape_86 : decode cX5_shape 86 = .ok (.iaload, 1) := by decide +kernel
theorem dX5_shape_87 : decode cX5_shape 87 = .ok (.imul, 1) := by decide +kernel
theorem dX5_shape_88 : decode cX5_shape 88 = .ok (.aload_n 0, 1) := by decide +kernel
theorem dX5_shape_89 : decode cX5_shape 89 = .ok (.getfield 47, 3) := by decide +kernel
theorem dX5_shape_92 : decode cX5_shape 92 = .ok (.iload 5, 2) := by decide +kernel
theorem dX5_shape_94 : decode cX5_shape 94 = .ok (.iconst 1, 1) := by decide +kernel
theorem dX5_shape_95 : decode cX5_shape 95 = .ok (.isub, 1) := by decide +kernel
theorem dX5_shape_96 : decode cX5_shape 96 = .ok (.iaload, 1) := by decide +kernel
theorem dX5_shape_97 : decode cX5_shape 97 = .ok (.isub, 1) := by decide +kernel
theorem dX5_shape_98 : decode cX5_shape 98 = .ok (.aload_n 0, 1) := by decide +kernel
theorem dX5_shape_99 : decode cX5_shape 99 = .ok (.getfield 44, 3) := by decide +kernel
theorem dX5_shape_102 : decode cX5_shape 102 = .ok (.bipush 40, 2) := by decide +kernel
theorem dX5_shape_104 : decode cX5_shape 104 = .ok (.iload_n 1, 1) := by decide +kernel
theorem dX5_shape_105 : decode cX5_shape 105 = .ok (.imul, 1) := by decide +kernel
theorem dX5_shape_106 : decode cX5_shape 106 = .ok (.iload 5, 2) := by decide +kernel
theorem dX5_shape_108 : decode cX5_shape 108 = .ok (.iadd, 1) := by decide +kernel
theorem dX5_shape_109 : decode cX5_shape 109 = .ok (.iaload, 1) := by decide +kernel
theorem dX5_shape_110 : decode cX5_shape 110 = .ok (.isub, 1) := by decide +kernel
theorem dX5_shape_111 : decode cX5_shape 111 = .ok (.iastore, 1) := by decide +kernel
theorem dX5_shape_112 : decode cX5_shape 112 = .ok (.iinc 5 1, 3) := by decide +kernel
theorem dX5_shape_115 : decode cX5_shape 115 = .ok (.goto (-55), 3) := by decide +kernel
theorem dX5_shape_118 : decode cX5_shape 118 = .ok (.iconst 0, 1) := by decide +kernel
theorem dX5_shape_119 : decode cX5_shape 119 = .ok (.istore 5, 2) := by decide +kernel
theorem dX5_shape_121 : decode cX5_shape 121 = .ok (.iload 5, 2) := by decide +kernel
theorem dX5_shape_123 : decode cX5_shape 123 = .ok (.bipush 40, 2) := by decide +kernel
theorem dX5_shape_125 : decode cX5_shape 125 = .ok (.if_icmp .ge 41, 3) := by decide +kernel
theorem dX5_shape_128 : decode cX5_shape 128 = .ok (.aload_n 0, 1) := by decide +kernel
theorem dX5_shape_129 : decode cX5_shape 129 = .ok (.getfield 44, 3) := by decide +kernel
theorem dX5_shape_132 : decode cX5_shape 132 = .ok (.bipush 40, 2) := by decide +kernel
theorem dX5_shape_134 : decode cX5_shape 134 = .ok (.iload_n 1, 1) := by decide +kernel
theorem dX5_shape_135 : decode cX5_shape 135 = .ok (.imul, 1) := by decide +kernel
theorem dX5_shape_136 : decode cX5_shape 136 = .ok (.iload 5, 2) := by decide +kernel
theorem dX5_shape_138 : decode cX5_shape 138 = .ok (.iadd, 1) := by decide +kernel
theorem dX5_shape_139 : decode cX5_shape 139 = .ok (.iload 5, 2) := by decide +kernel
theorem dX5_shape_141 : decode cX5_shape 141 = .ok (.aload_n 0, 1) := by decide +kernel
theorem dX5_shape_142 : decode cX5_shape 142 = .ok (.getfield 72, 3) := by decide +kernel
theorem dX5_shape_145 : decode cX5_shape 145 = .ok (.if_icmp .ge 13, 3) := by decide +kernel
theorem dX5_shape_148 : decode cX5_shape 148 = .ok (.aload_n 0, 1) := by decide +kernel
theorem dX5_shape_149 : decode cX5_shape 149 = .ok (.getfield 47, 3) := by decide +kernel
theorem dX5_shape_152 : decode cX5_shape 152 = .ok (.iload 5, 2) := by decide +kernel
theorem dX5_shape_154 : decode cX5_shape 154 = .ok (.iaload, 1) := by decide +kernel
theorem dX5_shape_155 : decode cX5_shape 155 = .ok (.goto 4, 3) := by decide +kernel
theorem dX5_shape_158 : decode cX5_shape 158 = .ok (.iconst 0, 1) := by decide +kernel
theorem dX5_shape_159 : decode cX5_shape 159 = .ok (.iastore, 1) := by decide +kernel
theorem dX5_shape_160 : decode cX5_shape 160 = .ok (.iinc 5 1, 3) := by decide +kernel
theorem dX5_shape_163 : decode cX5_shape 163 = .ok (.goto (-42), 3) := by decide +kernel
theorem dX5_shape_166 : decode cX5_shape 166 = .ok (.iconst 1, 1) := by decide +kernel
theorem dX5_shape_167 : decode cX5_shape 167 = .ok (.ireturn, 1) := by decide +kernel
theorem dX5_tear_0 : decode cX5_tear 0 = .ok (.aload_n 0, 1) := by decide +kernel
theorem dX5_tear_1 : decode cX5_tear 1 = .ok (.iload_n 1, 1) := by decide +kernel
theorem dX5_tear_2 : decode cX5_tear 2 = .ok (.invokevirtual 119, 3) := by decide +kernel
theorem dX5_tear_5 : decode cX5_tear 5 = .ok (.istore_n 2, 1) := by decide +kernel
theorem dX5_tear_6 : decode cX5_tear 6 = .ok (.iload_n 2, 1) := by decide +kernel
theorem dX5_tear_7 : decode cX5_tear 7 = .ok (.ifCond .ge 5, 3) := by decide +kernel
theorem dX5_tear_10 : decode cX5_tear 10 = .ok (.iload_n 2, 1) := by decide +kernel
theorem dX5_tear_11 : decode cX5_tear 11 = .ok (.ireturn, 1) := by decide +kernel
theorem dX5_tear_12 : decode cX5_tear 12 = .ok (.aload_n 0, 1) := by decide +kernel
theorem dX5_tear_13 : decode cX5_tear 13 = .ok (.getfield 41, 3) := by decide +kernel
theorem dX5_tear_16 : decode cX5_tear 16 = .ok (.iload_n 1, 1) := by decide +kernel
theorem dX5_tear_17 : decode cX5_tear 17 = .ok (.iconst 0, 1) := by decide +kernel
theorem dX5_tear_18 : decode cX5_tear 18 = .ok (.bastore, 1) := by decide +kernel
theorem dX5_tear_19 : decode cX5_tear 19 = .ok (.iconst 1, 1) := by decide +kernel
theorem dX5_tear_20 : decode cX5_tear 20 = .ok (.ireturn, 1) := by decide +kernel
theorem dX5_copy_0 : decode cX5_copy 0 = .ok (.iload_n 1, 1) := by decide +kernel
theorem dX5_copy_1 : decode cX5_copy 1 = .ok (.invokestatic 111, 3) := by decide +kernel
theorem dX5_copy_4 : decode cX5_copy 4 = .ok (.ifCond .eq 10, 3) := by decide +kernel
theorem dX5_copy_7 : decode cX5_copy 7 = .ok (.iload_n 3, 1) := by decide +kernel
theorem dX5_copy_8 : decode cX5_copy 8 = .ok (.invokestatic 111, 3) := by decide +kernel
theorem dX5_copy_11 : decode cX5_copy 11 = .ok (.ifCond .ne 5, 3) := by decide +kernel
theorem dX5_copy_14 : decode cX5_copy 14 = .ok (.iconst (-1), 1) := by decide +kernel
theorem dX5_copy_15 : decode cX5_copy 15 = .ok (.ireturn, 1) := by decide +kernel
theorem dX5_copy_16 : decode cX5_copy 16 = .ok (.iload 5, 2) := by decide +kernel
theorem dX5_copy_18 : decode cX5_copy 18 = .ok (.ifCond .ge 9, 3) := by decide +kernel
theorem dX5_copy_21 : decode cX5_copy 21 = .ok (.aload_n 0, 1) := by decide +kernel
theorem dX5_copy_22 : decode cX5_copy 22 = .ok (.iconst 5, 1) := by decide +kernel
theorem dX5_copy_23 : decode cX5_copy 23 = .ok (.invokevirtual 79, 3) := by decide +kernel
theorem dX5_copy_26 : decode cX5_copy 26 = .ok (.ireturn, 1) := by decide +kernel
theorem dX5_copy_27 : decode cX5_copy 27 = .ok (.aload_n 0, 1) := by decide +kernel
theorem dX5_copy_28 : decode cX5_copy 28 = .ok (.getfield 41, 3) := by decide +kernel
theorem dX5_copy_31 : decode cX5_copy 31 = .ok (.iload_n 1, 1) := by decide +kernel
theorem dX5_copy_32 : decode cX5_copy 32 = .ok (.baload, 1) := by decide +kernel
theorem dX5_copy_33 : decode cX5_copy 33 = .ok (.ifCond .eq 12, 3) := by decide +kernel
theorem dX5_copy_36 : decode cX5_copy 36 = .ok (.aload_n 0, 1) := by decide +kernel
theorem dX5_copy_37 : decode cX5_copy 37 = .ok (.getfield 41, 3) := by decide +kernel
theorem dX5_copy_40 : decode cX5_copy 40 = .ok (.iload_n 3, 1) := by decide +kernel
theorem dX5_copy_41 : decode cX5_copy 41 = .ok (.baload, 1) := by decide +kernel
theorem dX5_copy_42 : decode cX5_copy 42 = .ok (.ifCond .ne 9, 3) := by decide +kernel
theorem dX5_copy_45 : decode cX5_copy 45 = .ok (.aload_n 0, 1) := by decide +kernel
theorem dX5_copy_46 : decode cX5_copy 46 = .ok (.iconst 1, 1) := by decide +kernel
theorem dX5_copy_47 : decode cX5_copy 47 = .ok (.invokevirtual 79, 3) := by decide +kernel
theorem dX5_copy_50 : decode cX5_copy 50 = .ok (.ireturn, 1) := by decide +kernel
theorem dX5_copy_51 : decode cX5_copy 51 = .ok (.iload_n 2, 1) := by decide +kernel
theorem dX5_copy_52 : decode cX5_copy 52 = .ok (.ifCond .lt 35, 3) := by decide +kernel
theorem dX5_copy_55 : decode cX5_copy 55 = .ok (.iload 4, 2) := by decide +kernel
theorem dX5_copy_57 : decode cX5_copy 57 = .ok (.ifCond .lt 30, 3) := by decide +kernel
theorem dX5_copy_60 : decode cX5_copy 60 = .ok (.iload_n 2, 1) := by decide +kernel
theorem dX5_copy_61 : decode cX5_copy 61 = .ok (.i2l, 1) := by decide +kernel
theorem dX5_copy_62 : decode cX5_copy 62 = .ok (.iload 5, 2) := by decide +kernel
theorem dX5_copy_64 : decode cX5_copy 64 = .ok (.i2l, 1) := by decide +kernel
theorem dX5_copy_65 : decode cX5_copy 65 = .ok (.ladd, 1) := by decide +kernel
theorem dX5_copy_66 : decode cX5_copy 66 = .ok (.ldc2_w 122, 3) := by decide +kernel
theorem dX5_copy_69 : decode cX5_copy 69 = .ok (.lcmp, 1) := by decide +kernel
theorem dX5_copy_70 : decode cX5_copy 70 = .ok (.ifCond .gt 17, 3) := by decide +kernel
theorem dX5_copy_73 : decode cX5_copy 73 = .ok (.iload 4, 2) := by decide +kernel
theorem dX5_copy_75 : decode cX5_copy 75 = .ok (.i2l, 1) := by decide +kernel
theorem dX5_copy_76 : decode cX5_copy 76 = .ok (.iload 5, 2) := by decide +kernel
theorem dX5_copy_78 : decode cX5_copy 78 = .ok (.i2l, 1) := by decide +kernel
theorem dX5_copy_79 : decode cX5_copy 79 = .ok (.ladd, 1) := by decide +kernel
theorem dX5_copy_80 : decode cX5_copy 80 = .ok (.ldc2_w 122, 3) := by decide +kernel
theorem dX5_copy_83 : decode cX5_copy 83 = .ok (.lcmp, 1) := by decide +kernel
theorem dX5_copy_84 : decode cX5_copy 84 = .ok (.ifCond .le 9, 3) := by decide +kernel
theorem dX5_copy_87 : decode cX5_copy 87 = .ok (.aload_n 0, 1) := by decide +kernel
theorem dX5_copy_88 : decode cX5_copy 88 = .ok (.iconst 2, 1) := by decide +kernel
theorem dX5_copy_89 : decode cX5_copy 89 = .ok (.invokevirtual 79, 3) := by decide +kernel
theorem dX5_copy_92 : decode cX5_copy 92 = .ok (.ireturn, 1) := by decide +kernel
theorem dX5_copy_93 : decode cX5_copy 93 = .ok (.iconst 0, 1) := by decide +kernel
theorem dX5_copy_94 : decode cX5_copy 94 = .ok (.istore 6, 2) := by decide +kernel
theorem dX5_copy_96 : decode cX5_copy 96 = .ok (.iload 6, 2) := by decide +kernel
theorem dX5_copy_98 : decode cX5_copy 98 = .ok (.iload 5, 2) := by decide +kernel
theorem dX5_copy_100 : decode cX5_copy 100 = .ok (.if_icmp .ge 30, 3) := by decide +kernel
theorem dX5_copy_103 : decode cX5_copy 103 = .ok (.aload_n 0, 1) := by decide +kernel
theorem dX5_copy_104 : decode cX5_copy 104 = .ok (.getfield 47, 3) := by decide +kernel
theorem dX5_copy_107 : decode cX5_copy 107 = .ok (.iload 6, 2) := by decide +kernel
theorem dX5_copy_109 : decode cX5_copy 109 = .ok (.aload_n 0, 1) := by decide +kernel
theorem dX5_copy_110 : decode cX5_copy 110 = .ok (.getfield 44, 3) := by decide +kernel
theorem dX5_copy_113 : decode cX5_copy 113 = .ok (.bipush 40, 2) := by decide +kernel
theorem dX5_copy_115 : decode cX5_copy 115 = .ok (.iload_n 1, 1) := by decide +kernel
theorem dX5_copy_116 : decode cX5_copy 116 = .ok (.imul, 1) := by decide +kernel
theorem dX5_copy_117 : decode cX5_copy 117 = .ok (.iload_n 2, 1) := by decide +kernel
theorem dX5_copy_118 : decode cX5_copy 118 = .ok (.iadd, 1) := by decide +kernel
theorem dX5_copy_119 : decode cX5_copy 119 = .ok (.iload 6, 2) := by decide +kernel
theorem dX5_copy_121 : decode cX5_copy 121 = .ok (.iadd, 1) := by decide +kernel
theorem dX5_copy_122 : decode cX5_copy 122 = .ok (.iaload, 1) := by decide +kernel
theorem dX5_copy_123 : decode cX5_copy 123 = .ok (.iastore, 1) := by decide +kernel
theorem dX5_copy_124 : decode cX5_copy 124 = .ok (.iinc 6 1, 3) := by decide +kernel
theorem dX5_copy_127 : decode cX5_copy 127 = .ok (.goto (-31), 3) := by decide +kernel
theorem dX5_copy_130 : decode cX5_copy 130 = .ok (.iconst 0, 1) := by decide +kernel
theorem dX5_copy_131 : decode cX5_copy 131 = .ok (.istore 6, 2) := by decide +kernel
theorem dX5_copy_133 : decode cX5_copy 133 = .ok (.iload 6, 2) := by decide +kernel
theorem dX5_copy_135 : decode cX5_copy 135 = .ok (.iload 5, 2) := by decide +kernel
theorem dX5_copy_137 : decode cX5_copy 137 = .ok (.if_icmp .ge 31, 3) := by decide +kernel
theorem dX5_copy_140 : decode cX5_copy 140 = .ok (.aload_n 0, 1) := by decide +kernel
theorem dX5_copy_141 : decode cX5_copy 141 = .ok (.getfield 44, 3) := by decide +kernel
theorem dX5_copy_144 : decode cX5_copy 144 = .ok (.bipush 40, 2) := by decide +kernel
theorem dX5_copy_146 : decode cX5_copy 146 = .ok (.iload_n 3, 1) := by decide +kernel
theorem dX5_copy_147 : decode cX5_copy 147 = .ok (.imul, 1) := by decide +kernel
theorem dX5_copy_148 : decode cX5_copy 148 = .ok (.iload 4, 2) := by decide +kernel
theorem dX5_copy_150 : decode cX5_copy 150 = .ok (.iadd, 1) := by decide +kernel
theorem dX5_copy_151 : decode cX5_copy 151 = .ok (.iload 6, 2) := by decide +kernel
theorem dX5_copy_153 : decode cX5_copy 153 = .ok (.iadd, 1) := by decide +kernel
theorem dX5_copy_154 : decode cX5_copy 154 = .ok (.aload_n 0, 1) := by decide +kernel
theorem dX5_copy_155 : decode cX5_copy 155 = .ok (.getfield 47, 3) := by decide +kernel
theorem dX5_copy_158 : decode cX5_copy 158 = .ok (.iload 6, 2) := by decide +kernel
theorem dX5_copy_160 : decode cX5_copy 160 = .ok (.iaload, 1) := by decide +kernel
theorem dX5_copy_161 : decode cX5_copy 161 = .ok (.iastore, 1) := by decide +kernel
theorem dX5_copy_162 : decode cX5_copy 162 = .ok (.iinc 6 1, 3) := by decide +kernel
theorem dX5_copy_165 : decode cX5_copy 165 = .ok (.goto (-32), 3) := by decide +kernel
theorem dX5_copy_168 : decode cX5_copy 168 = .ok (.iconst 1, 1) := by decide +kernel
theorem dX5_copy_169 : decode cX5_copy 169 = .ok (.ireturn, 1) := by decide +kernel
theorem dX5_apart_0 : decode cX5_apart 0 = .ok (.lconst 0, 1) := by decide +kernel
theorem dX5_apart_1 : decode cX5_apart 1 = .ok (.lstore 4, 2) := by decide +kernel
theorem dX5_apart_3 : decode cX5_apart 3 = .ok (.iconst 5, 1) := by decide +kernel
theorem dX5_apart_4 : decode cX5_apart 4 = .ok (.istore 6, 2) := by decide +kernel
theorem dX5_apart_6 : decode cX5_apart 6 = .ok (.iload 6, 2) := by decide +kernel
theorem dX5_apart_8 : decode cX5_apart 8 = .ok (.aload_n 0, 1) := by decide +kernel
theorem dX5_apart_9 : decode cX5_apart 9 = .ok (.getfield 72, 3) := by decide +kernel
theorem dX5_apart_12 : decode cX5_apart 12 = .ok (.bipush 6, 2) := by decide +kernel
theorem dX5_apart_14 : decode cX5_apart 14 = .ok (.isub, 1) := by decide +kernel
theorem dX5_apart_15 : decode cX5_apart 15 = .ok (.if_icmp .gt 50, 3) := by decide +kernel
theorem dX5_apart_18 : decode cX5_apart 18 = .ok (.aload_n 0, 1) := by decide +kernel
theorem dX5_apart_19 : decode cX5_apart 19 = .ok (.getfield 44, 3) := by decide +kernel
theorem dX5_apart_22 : decode cX5_apart 22 = .ok (.bipush 40, 2) := by decide +kernel
theorem dX5_apart_24 : decode cX5_apart 24 = .ok (.iload_n 1, 1) := by decide +kernel
theorem dX5_apart_25 : decode cX5_apart 25 = .ok (.imul, 1) := by decide +kernel
theorem dX5_apart_26 : decode cX5_apart 26 = .ok (.iload 6, 2) := by decide +kernel
theorem dX5_apart_28 : decode cX5_apart 28 = .ok (.iadd, 1) := by decide +kernel
theorem dX5_apart_29 : decode cX5_apart 29 = .ok (.iaload, 1) := by decide +kernel
theorem dX5_apart_30 : decode cX5_apart 30 = .ok (.i2l, 1) := by decide +kernel
theorem dX5_apart_31 : decode cX5_apart 31 = .ok (.aload_n 0, 1) := by decide +kernel
theorem dX5_apart_32 : decode cX5_apart 32 = .ok (.getfield 44, 3) := by decide +kernel
theorem dX5_apart_35 : decode cX5_apart 35 = .ok (.bipush 40, 2) := by decide +kernel
theorem dX5_apart_37 : decode cX5_apart 37 = .ok (.iload_n 2, 1) := by decide +kernel
theorem dX5_apart_38 : decode cX5_apart 38 = .ok (.imul, 1) := by decide +kernel
theorem dX5_apart_39 : decode cX5_apart 39 = .ok (.iload 6, 2) := by decide +kernel
theorem dX5_apart_41 : decode cX5_apart 41 = .ok (.iadd, 1) := by decide +kernel
theorem dX5_apart_42 : decode cX5_apart 42 = .ok (.iload_n 3, 1) := by decide +kernel
theorem dX5_apart_43 : decode cX5_apart 43 = .ok (.iadd, 1) := by decide +kernel
theorem dX5_apart_44 : decode cX5_apart 44 = .ok (.iaload, 1) := by decide +kernel
theorem dX5_apart_45 : decode cX5_apart 45 = .ok (.i2l, 1) := by decide +kernel
theorem dX5_apart_46 : decode cX5_apart 46 = .ok (.lsub, 1) := by decide +kernel
theorem dX5_apart_47 : decode cX5_apart 47 = .ok (.lstore 7, 2) := by decide +kernel
theorem dX5_apart_49 : decode cX5_apart 49 = .ok (.lload 4, 2) := by decide +kernel
theorem dX5_apart_51 : decode cX5_apart 51 = .ok (.lload 7, 2) := by decide +kernel
theorem dX5_apart_53 : decode cX5_apart 53 = .ok (.lload 7, 2) := by decide +kernel
theorem dX5_apart_55 : decode cX5_apart 55 = .ok (.lmul, 1) := by decide +kernel
theorem dX5_apart_56 : decode cX5_apart 56 = .ok (.ladd, 1) := by decide +kernel
theorem dX5_apart_57 : decode cX5_apart 57 = .ok (.lstore 4, 2) := by decide +kernel
theorem dX5_apart_59 : decode cX5_apart 59 = .ok (.iinc 6 1, 3) := by decide +kernel
theorem dX5_apart_62 : decode cX5_apart 62 = .ok (.goto (-56), 3) := by decide +kernel
theorem dX5_apart_65 : decode cX5_apart 65 = .ok (.lload 4, 2) := by decide +kernel
theorem dX5_apart_67 : decode cX5_apart 67 = .ok (.lreturn, 1) := by decide +kernel
theorem dX5_fit_0 : decode cX5_fit 0 = .ok (.iload_n 1, 1) := by decide +kernel
theorem dX5_fit_1 : decode cX5_fit 1 = .ok (.invokestatic 111, 3) := by decide +kernel
theorem dX5_fit_4 : decode cX5_fit 4 = .ok (.ifCond .eq 10, 3) := by decide +kernel
theorem dX5_fit_7 : decode cX5_fit 7 = .ok (.iload_n 2, 1) := by decide +kernel
theorem dX5_fit_8 : decode cX5_fit 8 = .ok (.invokestatic 111, 3) := by decide +kernel
theorem dX5_fit_11 : decode cX5_fit 11 = .ok (.ifCond .ne 5, 3) := by decide +kernel
theorem dX5_fit_14 : decode cX5_fit 14 = .ok (.iconst (-1), 1) := by decide +kernel
theorem dX5_fit_15 : decode cX5_fit 15 = .ok (.ireturn, 1) := by decide +kernel
theorem dX5_fit_16 : decode cX5_fit 16 = .ok (.aload_n 0, 1) := by decide +kernel
theorem dX5_fit_17 : decode cX5_fit 17 = .ok (.getfield 72, 3) := by decide +kernel
theorem dX5_fit_20 : decode cX5_fit 20 = .ok (.bipush 11, 2) := by decide +kernel
theorem dX5_fit_22 : decode cX5_fit 22 = .ok (.if_icmp .ge 6, 3) := by decide +kernel
theorem dX5_fit_25 : decode cX5_fit 25 = .ok (.bipush (-4), 2) := by decide +kernel
theorem dX5_fit_27 : decode cX5_fit 27 = .ok (.ireturn, 1) := by decide +kernel
theorem dX5_fit_28 : decode cX5_fit 28 = .ok (.aload_n 0, 1) := by decide +kernel
theorem dX5_fit_29 : decode cX5_fit 29 = .ok (.getfield 41, 3) := by decide +kernel
theorem dX5_fit_32 : decode cX5_fit 32 = .ok (.iload_n 1, 1) := by decide +kernel
theorem dX5_fit_33 : decode cX5_fit 33 = .ok (.baload, 1) := by decide +kernel
theorem dX5_fit_34 : decode cX5_fit 34 = .ok (.ifCond .eq 12, 3) := by decide +kernel
theorem dX5_fit_37 : decode cX5_fit 37 = .ok (.aload_n 0, 1) := by decide +kernel
theorem dX5_fit_38 : decode cX5_fit 38 = .ok (.getfield 41, 3) := by decide +kernel
theorem dX5_fit_41 : decode cX5_fit 41 = .ok (.iload_n 2, 1) := by decide +kernel
theorem dX5_fit_42 : decode cX5_fit 42 = .ok (.baload, 1) := by decide +kernel
theorem dX5_fit_43 : decode cX5_fit 43 = .ok (.ifCond .ne 9, 3) := by decide +kernel
theorem dX5_fit_46 : decode cX5_fit 46 = .ok (.aload_n 0, 1) := by decide +kernel
theorem dX5_fit_47 : decode cX5_fit 47 = .ok (.iconst 1, 1) := by decide +kernel
theorem dX5_fit_48 : decode cX5_fit 48 = .ok (.invokevirtual 79, 3) := by decide +kernel
theorem dX5_fit_51 : decode cX5_fit 51 = .ok (.ireturn, 1) := by decide +kernel
theorem dX5_fit_52 : decode cX5_fit 52 = .ok (.iconst 0, 1) := by decide +kernel
theorem dX5_fit_53 : decode cX5_fit 53 = .ok (.istore_n 3, 1) := by decide +kernel
theorem dX5_fit_54 : decode cX5_fit 54 = .ok (.iconst 1, 1) := by decide +kernel
theorem dX5_fit_55 : decode cX5_fit 55 = .ok (.istore 4, 2) := by decide +kernel
theorem dX5_fit_57 : decode cX5_fit 57 = .ok (.iload 4, 2) := by decide +kernel
theorem dX5_fit_59 : decode cX5_fit 59 = .ok (.iconst 5, 1) := by decide +kernel
theorem dX5_fit_60 : decode cX5_fit 60 = .ok (.if_icmp .gt 63, 3) := by decide +kernel
theorem dX5_fit_63 : decode cX5_fit 63 = .ok (.aload_n 0, 1) := by decide +kernel
theorem dX5_fit_64 : decode cX5_fit 64 = .ok (.iload_n 1, 1) := by decide +kernel
theorem dX5_fit_65 : decode cX5_fit 65 = .ok (.iload_n 2, 1) := by decide +kernel
theorem dX5_fit_66 : decode cX5_fit 66 = .ok (.iload 4, 2) := by decide +kernel
theorem dX5_fit_68 : decode cX5_fit 68 = .ok (.ineg, 1) := by decide +kernel
theorem dX5_fit_69 : decode cX5_fit 69 = .ok (.invokevirtual 124, 3) := by decide +kernel
theorem dX5_fit_72 : decode cX5_fit 72 = .ok (.aload_n 0, 1) := by decide +kernel
theorem dX5_fit_73 : decode cX5_fit 73 = .ok (.iload_n 1, 1) := by decide +kernel
theorem dX5_fit_74 : decode cX5_fit 74 = .ok (.iload_n 2, 1) := by decide +kernel
theorem dX5_fit_75 : decode cX5_fit 75 = .ok (.iload_n 3, 1) := by decide +kernel
theorem dX5_fit_76 : decode cX5_fit 76 = .ok (.invokevirtual 124, 3) := by decide +kernel
theorem dX5_fit_79 : decode cX5_fit 79 = .ok (.lcmp, 1) := by decide +kernel
theorem dX5_fit_80 : decode cX5_fit 80 = .ok (.ifCond .ge 9, 3) := by decide +kernel
theorem dX5_fit_83 : decode cX5_fit 83 = .ok (.iload 4, 2) := by decide +kernel
theorem dX5_fit_85 : decode cX5_fit 85 = .ok (.ineg, 1) := by decide +kernel
theorem dX5_fit_86 : decode cX5_fit 86 = .ok (.goto 4, 3) := by decide +kernel
theorem dX5_fit_89 : decode cX5_fit 89 = .ok (.iload_n 3, 1) := by decide +kernel
theorem dX5_fit_90 : decode cX5_fit 90 = .ok (.istore_n 3, 1) := by decide +kernel
theorem dX5_fit_91 : decode cX5_fit 91 = .ok (.aload_n 0, 1) := by decide +kernel
theorem dX5_fit_92 : decode cX5_fit 92 = .ok (.iload_n 1, 1) := by decide +kernel
theorem dX5_fit_93 : decode cX5_fit 93 = .ok (.iload_n 2, 1) := by decide +kernel
theorem dX5_fit_94 : decode cX5_fit 94 = .ok (.iload 4, 2) := by decide +kernel
theorem dX5_fit_96 : decode cX5_fit 96 = .ok (.invokevirtual 124, 3) := by decide +kernel
theorem dX5_fit_99 : decode cX5_fit 99 = .ok (.aload_n 0, 1) := by decide +kernel
theorem dX5_fit_100 : decode cX5_fit 100 = .ok (.iload_n 1, 1) := by decide +kernel
theorem dX5_fit_101 : decode cX5_fit 101 = .ok (.iload_n 2, 1) := by decide +kernel
theorem dX5_fit_102 : decode cX5_fit 102 = .ok (.iload_n 3, 1) := by decide +kernel
theorem dX5_fit_103 : decode cX5_fit 103 = .ok (.invokevirtual 124, 3) := by decide +kernel
theorem dX5_fit_106 : decode cX5_fit 106 = .ok (.lcmp, 1) := by decide +kernel
theorem dX5_fit_107 : decode cX5_fit 107 = .ok (.ifCond .ge 8, 3) := by decide +kernel
theorem dX5_fit_110 : decode cX5_fit 110 = .ok (.iload 4, 2) := by decide +kernel
theorem dX5_fit_112 : decode cX5_fit 112 = .ok (.goto 4, 3) := by decide +kernel
theorem dX5_fit_115 : decode cX5_fit 115 = .ok (.iload_n 3, 1) := by decide +kernel
theorem dX5_fit_116 : decode cX5_fit 116 = .ok (.istore_n 3, 1) := by decide +kernel
theorem dX5_fit_117 : decode cX5_fit 117 = .ok (.iinc 4 1, 3) := by decide +kernel
theorem dX5_fit_120 : decode cX5_fit 120 = .ok (.goto (-63), 3) := by decide +kernel
theorem dX5_fit_123 : decode cX5_fit 123 = .ok (.aload_n 0, 1) := by decide +kernel
theorem dX5_fit_124 : decode cX5_fit 124 = .ok (.aload_n 0, 1) := by decide +kernel
theorem dX5_fit_125 : decode cX5_fit 125 = .ok (.iload_n 1, 1) := by decide +kernel
theorem dX5_fit_126 : decode cX5_fit 126 = .ok (.iload_n 2, 1) := by decide +kernel
theorem dX5_fit_127 : decode cX5_fit 127 = .ok (.iload_n 3, 1) := by decide +kernel
theorem dX5_fit_128 : decode cX5_fit 128 = .ok (.invokevirtual 124, 3) := by decide +kernel
theorem dX5_fit_131 : decode cX5_fit 131 = .ok (.bipush 100, 2) := by decide +kernel
theorem dX5_fit_133 : decode cX5_fit 133 = .ok (.iload_n 3, 1) := by decide +kernel
theorem dX5_fit_134 : decode cX5_fit 134 = .ok (.iadd, 1) := by decide +kernel
theorem dX5_fit_135 : decode cX5_fit 135 = .ok (.invokevirtual 96, 3) := by decide +kernel
theorem dX5_fit_138 : decode cX5_fit 138 = .ok (.ireturn, 1) := by decide +kernel
theorem dX5_worst_0 : decode cX5_worst 0 = .ok (.aload_n 0, 1) := by decide +kernel
theorem dX5_worst_1 : decode cX5_worst 1 = .ok (.iload_n 1, 1) := by decide +kernel
theorem dX5_worst_2 : decode cX5_worst 2 = .ok (.invokevirtual 119, 3) := by decide +kernel
theorem dX5_worst_5 : decode cX5_worst 5 = .ok (.istore_n 2, 1) := by decide +kernel
theorem dX5_worst_6 : decode cX5_worst 6 = .ok (.iload_n 2, 1) := by decide +kernel
theorem dX5_worst_7 : decode cX5_worst 7 = .ok (.ifCond .ge 5, 3) := by decide +kernel
theorem dX5_worst_10 : decode cX5_worst 10 = .ok (.iload_n 2, 1) := by decide +kernel
theorem dX5_worst_11 : decode cX5_worst 11 = .ok (.ireturn, 1) := by decide +kernel
theorem dX5_worst_12 : decode cX5_worst 12 = .ok (.iconst 0, 1) := by decide +kernel
theorem dX5_worst_13 : decode cX5_worst 13 = .ok (.istore_n 3, 1) := by decide +kernel
theorem dX5_worst_14 : decode cX5_worst 14 = .ok (.ldc2_w 128, 3) := by decide +kernel
theorem dX5_worst_17 : decode cX5_worst 17 = .ok (.lstore 4, 2) := by decide +kernel
theorem dX5_worst_19 : decode cX5_worst 19 = .ok (.iconst 0, 1) := by decide +kernel
theorem dX5_worst_20 : decode cX5_worst 20 = .ok (.istore 6, 2) := by decide +kernel
theorem dX5_worst_22 : decode cX5_worst 22 = .ok (.iload 6, 2) := by decide +kernel
theorem dX5_worst_24 : decode cX5_worst 24 = .ok (.iconst 1, 1) := by decide +kernel
theorem dX5_worst_25 : decode cX5_worst 25 = .ok (.iadd, 1) := by decide +kernel
theorem dX5_worst_26 : decode cX5_worst 26 = .ok (.aload_n 0, 1) := by decide +kernel
theorem dX5_worst_27 : decode cX5_worst 27 = .ok (.getfield 72, 3) := by decide +kernel
theorem dX5_worst_30 : decode cX5_worst 30 = .ok (.if_icmp .ge 89, 3) := by decide +kernel
theorem dX5_worst_33 : decode cX5_worst 33 = .ok (.aload_n 0, 1) := by decide +kernel
theorem dX5_worst_34 : decode cX5_worst 34 = .ok (.getfield 44, 3) := by decide +kernel
theorem dX5_worst_37 : decode cX5_worst 37 = .ok (.bipush 40, 2) := by decide +kernel
theorem dX5_worst_39 : decode cX5_worst 39 = .ok (.iload_n 1, 1) := by decide +kernel
theorem dX5_worst_40 : decode cX5_worst 40 = .ok (.imul, 1) := by decide +kernel
theorem dX5_worst_41 : decode cX5_worst 41 = .ok (.iload 6, 2) := by decide +kernel
theorem dX5_worst_43 : decode cX5_worst 43 = .ok (.iadd, 1) := by decide +kernel
theorem dX5_worst_44 : decode cX5_worst 44 = .ok (.iaload, 1) := by decide +kernel
theorem dX5_worst_45 : decode cX5_worst 45 = .ok (.i2l, 1) := by decide +kernel
theorem dX5_worst_46 : decode cX5_worst 46 = .ok (.aload_n 0, 1) := by decide +kernel
theorem dX5_worst_47 : decode cX5_worst 47 = .ok (.getfield 44, 3) := by decide +kernel
theorem dX5_worst_50 : decode cX5_worst 50 = .ok (.bipush 40, 2) := by decide +kernel
theorem dX5_worst_52 : decode cX5_worst 52 = .ok (.iload_n 1, 1) := by decide +kernel
theorem dX5_worst_53 : decode cX5_worst 53 = .ok (.imul, 1) := by decide +kernel
theorem dX5_worst_54 : decode cX5_worst 54 = .ok (.iload 6, 2) := by decide +kernel
theorem dX5_worst_56 : decode cX5_worst 56 = .ok (.iadd, 1) := by decide +kernel
theorem dX5_worst_57 : decode cX5_worst 57 = .ok (.iconst 1, 1) := by decide +kernel
theorem dX5_worst_58 : decode cX5_worst 58 = .ok (.iadd, 1) := by decide +kernel
theorem dX5_worst_59 : decode cX5_worst 59 = .ok (.iaload, 1) := by decide +kernel
theorem dX5_worst_60 : decode cX5_worst 60 = .ok (.i2l, 1) := by decide +kernel
theorem dX5_worst_61 : decode cX5_worst 61 = .ok (.lsub, 1) := by decide +kernel
theorem dX5_worst_62 : decode cX5_worst 62 = .ok (.lstore 7, 2) := by decide +kernel
theorem dX5_worst_64 : decode cX5_worst 64 = .ok (.lload 7, 2) := by decide +kernel
theorem dX5_worst_66 : decode cX5_worst 66 = .ok (.lconst 0, 1) := by decide +kernel
theorem dX5_worst_67 : decode cX5_worst 67 = .ok (.lcmp, 1) := by decide +kernel
theorem dX5_worst_68 : decode cX5_worst 68 = .ok (.ifCond .ge 9, 3) := by decide +kernel
theorem dX5_worst_71 : decode cX5_worst 71 = .ok (.lload 7, 2) := by decide +kernel
theorem dX5_worst_73 : decode cX5_worst 73 = .ok (.lneg, 1) := by decide +kernel
theorem dX5_worst_74 : decode cX5_worst 74 = .ok (.goto 5, 3) := by decide +kernel
theorem dX5_worst_77 : decode cX5_worst 77 = .ok (.lload 7, 2) := by decide +kernel
theorem dX5_worst_79 : decode cX5_worst 79 = .ok (.lstore 7, 2) := by decide +kernel
theorem dX5_worst_81 : decode cX5_worst 81 = .ok (.lload 7, 2) := by decide +kernel
theorem dX5_worst_83 : decode cX5_worst 83 = .ok (.lload 4, 2) := by decide +kernel
theorem dX5_worst_85 : decode cX5_worst 85 = .ok (.lcmp, 1) := by decide +kernel
theorem dX5_worst_86 : decode cX5_worst 86 = .ok (.ifCond .le 8, 3) := by decide +kernel
theorem dX5_worst_89 : decode cX5_worst 89 = .ok (.iload 6, 2) := by decide +kernel
theorem dX5_worst_91 : decode cX5_worst 91 = .ok (.goto 4, 3) := by decide +kernel
theorem dX5_worst_94 : decode cX5_worst 94 = .ok (.iload_n 3, 1) := by decide +kernel
theorem dX5_worst_95 : decode cX5_worst 95 = .ok (.istore_n 3, 1) := by decide +kernel
theorem dX5_worst_96 : decode cX5_worst 96 = .ok (.lload 7, 2) := by decide +kernel
theorem dX5_worst_98 : decode cX5_worst 98 = .ok (.lload 4, 2) := by decide +kernel
theorem dX5_worst_100 : decode cX5_worst 100 = .ok (.lcmp, 1) := by decide +kernel
theorem dX5_worst_101 : decode cX5_worst 101 = .ok (.ifCond .le 8, 3) := by decide +kernel
theorem dX5_worst_104 : decode cX5_worst 104 = .ok (.lload 7, 2) := by decide +kernel
theorem dX5_worst_106 : decode cX5_worst 106 = .ok (.goto 5, 3) := by decide +kernel
theorem dX5_worst_109 : decode cX5_worst 109 = .ok (.lload 4, 2) := by decide +kernel
theorem dX5_worst_111 : decode cX5_worst 111 = .ok (.lstore 4, 2) := by decide +kernel
theorem dX5_worst_113 : decode cX5_worst 113 = .ok (.iinc 6 1, 3) := by decide +kernel
theorem dX5_worst_116 : decode cX5_worst 116 = .ok (.goto (-94), 3) := by decide +kernel
theorem dX5_worst_119 : decode cX5_worst 119 = .ok (.aload_n 0, 1) := by decide +kernel
theorem dX5_worst_120 : decode cX5_worst 120 = .ok (.lload 4, 2) := by decide +kernel
theorem dX5_worst_122 : decode cX5_worst 122 = .ok (.iload_n 3, 1) := by decide +kernel
theorem dX5_worst_123 : decode cX5_worst 123 = .ok (.invokevirtual 96, 3) := by decide +kernel
theorem dX5_worst_126 : decode cX5_worst 126 = .ok (.ireturn, 1) := by decide +kernel
theorem dX5_isStretch_0 : decode cX5_isStretch 0 = .ok (.iload_n 0, 1) := by decide +kernel
theorem dX5_isStretch_1 : decode cX5_isStretch 1 = .ok (.iconst 0, 1) := by decide +kernel
theorem dX5_isStretch_2 : decode cX5_isStretch 2 = .ok (.iconst 3, 1) := by decide +kernel
theorem dX5_isStretch_3 : decode cX5_isStretch 3 = .ok (.invokestatic 68, 3) := by decide +kernel
theorem dX5_isStretch_6 : decode cX5_isStretch 6 = .ok (.ireturn, 1) := by decide +kernel
theorem dX5_isWarmth_0 : decode cX5_isWarmth 0 = .ok (.iload_n 0, 1) := by decide +kernel
theorem dX5_isWarmth_1 : decode cX5_isWarmth 1 = .ok (.sipush (-400), 3) := by decide +kernel
theorem dX5_isWarmth_4 : decode cX5_isWarmth 4 = .ok (.sipush 600, 3) := by decide +kernel
theorem dX5_isWarmth_7 : decode cX5_isWarmth 7 = .ok (.invokestatic 68, 3) := by decide +kernel
theorem dX5_isWarmth_10 : decode cX5_isWarmth 10 = .ok (.ireturn, 1) := by decide +kernel
theorem dX5_pull_0 : decode cX5_pull 0 = .ok (.iload_n 1, 1) := by decide +kernel
theorem dX5_pull_1 : decode cX5_pull 1 = .ok (.invokestatic 130, 3) := by decide +kernel
theorem dX5_pull_4 : decode cX5_pull 4 = .ok (.ifCond .eq 16, 3) := by decide +kernel
theorem dX5_pull_7 : decode cX5_pull 7 = .ok (.iload_n 2, 1) := by decide +kernel
theorem dX5_pull_8 : decode cX5_pull 8 = .ok (.sipush (-500), 3) := by decide +kernel
theorem dX5_pull_11 : decode cX5_pull 11 = .ok (.sipush 500, 3) := by decide +kernel
theorem dX5_pull_14 : decode cX5_pull 14 = .ok (.invokestatic 68, 3) := by decide +kernel
theorem dX5_pull_17 : decode cX5_pull 17 = .ok (.ifCond .ne 5, 3) := by decide +kernel
end
section
theorem dX5_pull_20 : decode cX5_pull 20 = .ok (.iconst (-1), 1) := by decide +kernel
theorem dX5_pull_21 : decode cX5_pull 21 = .ok (.ireturn, 1) := by decide +kernel
theorem dX5_pull_22 : decode cX5_pull 22 = .ok (.aload_n 0, 1) := by decide +kernel
theorem dX5_pull_23 : decode cX5_pull 23 = .ok (.getfield 32, 3) := by decide +kernel
theorem dX5_pull_26 : decode cX5_pull 26 = .ok (.iload_n 1, 1) := by decide +kernel
theorem dX5_pull_27 : decode cX5_pull 27 = .ok (.dup2, 1) := by decide +kernel
theorem dX5_pull_28 : decode cX5_pull 28 = .ok (.iaload, 1) := by decide +kernel
theorem dX5_pull_29 : decode cX5_pull 29 = .ok (.iload_n 2, 1) := by decide +kernel
theorem dX5_pull_30 : decode cX5_pull 30 = .ok (.iadd, 1) := by decide +kernel
theorem dX5_pull_31 : decode cX5_pull 31 = .ok (.iastore, 1) := by decide +kernel
theorem dX5_pull_32 : decode cX5_pull 32 = .ok (.iconst 1, 1) := by decide +kernel
theorem dX5_pull_33 : decode cX5_pull 33 = .ok (.ireturn, 1) := by decide +kernel
theorem dX5_cut_0 : decode cX5_cut 0 = .ok (.iload_n 1, 1) := by decide +kernel
theorem dX5_cut_1 : decode cX5_cut 1 = .ok (.invokestatic 130, 3) := by decide +kernel
theorem dX5_cut_4 : decode cX5_cut 4 = .ok (.ifCond .eq 10, 3) := by decide +kernel
theorem dX5_cut_7 : decode cX5_cut 7 = .ok (.iload_n 2, 1) := by decide +kernel
theorem dX5_cut_8 : decode cX5_cut 8 = .ok (.invokestatic 133, 3) := by decide +kernel
theorem dX5_cut_11 : decode cX5_cut 11 = .ok (.ifCond .ne 5, 3) := by decide +kernel
theorem dX5_cut_14 : decode cX5_cut 14 = .ok (.iconst (-1), 1) := by decide +kernel
theorem dX5_cut_15 : decode cX5_cut 15 = .ok (.ireturn, 1) := by decide +kernel
theorem dX5_cut_16 : decode cX5_cut 16 = .ok (.aload_n 0, 1) := by decide +kernel
theorem dX5_cut_17 : decode cX5_cut 17 = .ok (.aload_n 0, 1) := by decide +kernel
theorem dX5_cut_18 : decode cX5_cut 18 = .ok (.getfield 32, 3) := by decide +kernel
theorem dX5_cut_21 : decode cX5_cut 21 = .ok (.iload_n 1, 1) := by decide +kernel
theorem dX5_cut_22 : decode cX5_cut 22 = .ok (.iaload, 1) := by decide +kernel
theorem dX5_cut_23 : decode cX5_cut 23 = .ok (.i2l, 1) := by decide +kernel
theorem dX5_cut_24 : decode cX5_cut 24 = .ok (.putfield 64, 3) := by decide +kernel
theorem dX5_cut_27 : decode cX5_cut 27 = .ok (.aload_n 0, 1) := by decide +kernel
theorem dX5_cut_28 : decode cX5_cut 28 = .ok (.getfield 32, 3) := by decide +kernel
theorem dX5_cut_31 : decode cX5_cut 31 = .ok (.iload_n 1, 1) := by decide +kernel
theorem dX5_cut_32 : decode cX5_cut 32 = .ok (.iload_n 2, 1) := by decide +kernel
theorem dX5_cut_33 : decode cX5_cut 33 = .ok (.iastore, 1) := by decide +kernel
theorem dX5_cut_34 : decode cX5_cut 34 = .ok (.iconst 1, 1) := by decide +kernel
theorem dX5_cut_35 : decode cX5_cut 35 = .ok (.ireturn, 1) := by decide +kernel
theorem dX5_pressOf_0 : decode cX5_pressOf 0 = .ok (.ldc2_w 136, 3) := by decide +kernel
theorem dX5_pressOf_3 : decode cX5_pressOf 3 = .ok (.iload_n 2, 1) := by decide +kernel
theorem dX5_pressOf_4 : decode cX5_pressOf 4 = .ok (.aload_n 0, 1) := by decide +kernel
theorem dX5_pressOf_5 : decode cX5_pressOf 5 = .ok (.getfield 32, 3) := by decide +kernel
theorem dX5_pressOf_8 : decode cX5_pressOf 8 = .ok (.iload_n 1, 1) := by decide +kernel
theorem dX5_pressOf_9 : decode cX5_pressOf 9 = .ok (.iaload, 1) := by decide +kernel
theorem dX5_pressOf_10 : decode cX5_pressOf 10 = .ok (.isub, 1) := by decide +kernel
theorem dX5_pressOf_11 : decode cX5_pressOf 11 = .ok (.i2l, 1) := by decide +kernel
theorem dX5_pressOf_12 : decode cX5_pressOf 12 = .ok (.lmul, 1) := by decide +kernel
theorem dX5_pressOf_13 : decode cX5_pressOf 13 = .ok (.lreturn, 1) := by decide +kernel
theorem dX5_press_0 : decode cX5_press 0 = .ok (.iload_n 1, 1) := by decide +kernel
theorem dX5_press_1 : decode cX5_press 1 = .ok (.invokestatic 130, 3) := by decide +kernel
theorem dX5_press_4 : decode cX5_press 4 = .ok (.ifCond .eq 24, 3) := by decide +kernel
theorem dX5_press_7 : decode cX5_press 7 = .ok (.iload_n 2, 1) := by decide +kernel
theorem dX5_press_8 : decode cX5_press 8 = .ok (.invokestatic 133, 3) := by decide +kernel
theorem dX5_press_11 : decode cX5_press 11 = .ok (.ifCond .eq 17, 3) := by decide +kernel
theorem dX5_press_14 : decode cX5_press 14 = .ok (.aload_n 0, 1) := by decide +kernel
theorem dX5_press_15 : decode cX5_press 15 = .ok (.aload_n 0, 1) := by decide +kernel
theorem dX5_press_16 : decode cX5_press 16 = .ok (.iload_n 1, 1) := by decide +kernel
theorem dX5_press_17 : decode cX5_press 17 = .ok (.iload_n 2, 1) := by decide +kernel
theorem dX5_press_18 : decode cX5_press 18 = .ok (.invokevirtual 138, 3) := by decide +kernel
theorem dX5_press_21 : decode cX5_press 21 = .ok (.iconst 1, 1) := by decide +kernel
theorem dX5_press_22 : decode cX5_press 22 = .ok (.invokevirtual 96, 3) := by decide +kernel
theorem dX5_press_25 : decode cX5_press 25 = .ok (.goto 4, 3) := by decide +kernel
theorem dX5_press_28 : decode cX5_press 28 = .ok (.iconst (-1), 1) := by decide +kernel
theorem dX5_press_29 : decode cX5_press 29 = .ok (.ireturn, 1) := by decide +kernel
theorem dX5_margin_0 : decode cX5_margin 0 = .ok (.iload_n 1, 1) := by decide +kernel
theorem dX5_margin_1 : decode cX5_margin 1 = .ok (.invokestatic 130, 3) := by decide +kernel
theorem dX5_margin_4 : decode cX5_margin 4 = .ok (.ifCond .eq 10, 3) := by decide +kernel
theorem dX5_margin_7 : decode cX5_margin 7 = .ok (.iload_n 2, 1) := by decide +kernel
theorem dX5_margin_8 : decode cX5_margin 8 = .ok (.invokestatic 133, 3) := by decide +kernel
theorem dX5_margin_11 : decode cX5_margin 11 = .ok (.ifCond .ne 5, 3) := by decide +kernel
theorem dX5_margin_14 : decode cX5_margin 14 = .ok (.iconst (-1), 1) := by decide +kernel
theorem dX5_margin_15 : decode cX5_margin 15 = .ok (.ireturn, 1) := by decide +kernel
theorem dX5_margin_16 : decode cX5_margin 16 = .ok (.aload_n 0, 1) := by decide +kernel
theorem dX5_margin_17 : decode cX5_margin 17 = .ok (.getfield 72, 3) := by decide +kernel
theorem dX5_margin_20 : decode cX5_margin 20 = .ok (.iconst 4, 1) := by decide +kernel
theorem dX5_margin_21 : decode cX5_margin 21 = .ok (.idiv, 1) := by decide +kernel
theorem dX5_margin_22 : decode cX5_margin 22 = .ok (.istore_n 3, 1) := by decide +kernel
theorem dX5_margin_23 : decode cX5_margin 23 = .ok (.iload_n 1, 1) := by decide +kernel
theorem dX5_margin_24 : decode cX5_margin 24 = .ok (.iconst 3, 1) := by decide +kernel
theorem dX5_margin_25 : decode cX5_margin 25 = .ok (.if_icmp .ne 10, 3) := by decide +kernel
theorem dX5_margin_28 : decode cX5_margin 28 = .ok (.aload_n 0, 1) := by decide +kernel
theorem dX5_margin_29 : decode cX5_margin 29 = .ok (.getfield 72, 3) := by decide +kernel
theorem dX5_margin_32 : decode cX5_margin 32 = .ok (.goto 8, 3) := by decide +kernel
theorem dX5_margin_35 : decode cX5_margin 35 = .ok (.iload_n 3, 1) := by decide +kernel
theorem dX5_margin_36 : decode cX5_margin 36 = .ok (.iload_n 1, 1) := by decide +kernel
theorem dX5_margin_37 : decode cX5_margin 37 = .ok (.iconst 1, 1) := by decide +kernel
theorem dX5_margin_38 : decode cX5_margin 38 = .ok (.iadd, 1) := by decide +kernel
theorem dX5_margin_39 : decode cX5_margin 39 = .ok (.imul, 1) := by decide +kernel
theorem dX5_margin_40 : decode cX5_margin 40 = .ok (.istore 4, 2) := by decide +kernel
theorem dX5_margin_42 : decode cX5_margin 42 = .ok (.iconst 0, 1) := by decide +kernel
theorem dX5_margin_43 : decode cX5_margin 43 = .ok (.istore 5, 2) := by decide +kernel
theorem dX5_margin_45 : decode cX5_margin 45 = .ok (.iconst 0, 1) := by decide +kernel
theorem dX5_margin_46 : decode cX5_margin 46 = .ok (.istore 6, 2) := by decide +kernel
theorem dX5_margin_48 : decode cX5_margin 48 = .ok (.lconst 0, 1) := by decide +kernel
theorem dX5_margin_49 : decode cX5_margin 49 = .ok (.lstore 7, 2) := by decide +kernel
theorem dX5_margin_51 : decode cX5_margin 51 = .ok (.iload_n 3, 1) := by decide +kernel
theorem dX5_margin_52 : decode cX5_margin 52 = .ok (.iload_n 1, 1) := by decide +kernel
theorem dX5_margin_53 : decode cX5_margin 53 = .ok (.imul, 1) := by decide +kernel
theorem dX5_margin_54 : decode cX5_margin 54 = .ok (.istore 9, 2) := by decide +kernel
theorem dX5_margin_56 : decode cX5_margin 56 = .ok (.iload 9, 2) := by decide +kernel
theorem dX5_margin_58 : decode cX5_margin 58 = .ok (.iload 4, 2) := by decide +kernel
theorem dX5_margin_60 : decode cX5_margin 60 = .ok (.if_icmp .ge 99, 3) := by decide +kernel
theorem dX5_margin_63 : decode cX5_margin 63 = .ok (.iload 5, 2) := by decide +kernel
theorem dX5_margin_65 : decode cX5_margin 65 = .ok (.aload_n 0, 1) := by decide +kernel
theorem dX5_margin_66 : decode cX5_margin 66 = .ok (.getfield 28, 3) := by decide +kernel
theorem dX5_margin_69 : decode cX5_margin 69 = .ok (.iload 9, 2) := by decide +kernel
theorem dX5_margin_71 : decode cX5_margin 71 = .ok (.baload, 1) := by decide +kernel
theorem dX5_margin_72 : decode cX5_margin 72 = .ok (.ifCond .eq 7, 3) := by decide +kernel
theorem dX5_margin_75 : decode cX5_margin 75 = .ok (.iconst 0, 1) := by decide +kernel
theorem dX5_margin_76 : decode cX5_margin 76 = .ok (.goto 4, 3) := by decide +kernel
theorem dX5_margin_79 : decode cX5_margin 79 = .ok (.iconst 1, 1) := by decide +kernel
theorem dX5_margin_80 : decode cX5_margin 80 = .ok (.iadd, 1) := by decide +kernel
theorem dX5_margin_81 : decode cX5_margin 81 = .ok (.istore 5, 2) := by decide +kernel
theorem dX5_margin_83 : decode cX5_margin 83 = .ok (.iload 6, 2) := by decide +kernel
theorem dX5_margin_85 : decode cX5_margin 85 = .ok (.aload_n 0, 1) := by decide +kernel
theorem dX5_margin_86 : decode cX5_margin 86 = .ok (.getfield 28, 3) := by decide +kernel
theorem dX5_margin_89 : decode cX5_margin 89 = .ok (.iload 9, 2) := by decide +kernel
theorem dX5_margin_91 : decode cX5_margin 91 = .ok (.baload, 1) := by decide +kernel
theorem dX5_margin_92 : decode cX5_margin 92 = .ok (.ifCond .eq 7, 3) := by decide +kernel
theorem dX5_margin_95 : decode cX5_margin 95 = .ok (.iconst 0, 1) := by decide +kernel
theorem dX5_margin_96 : decode cX5_margin 96 = .ok (.goto 10, 3) := by decide +kernel
theorem dX5_margin_99 : decode cX5_margin 99 = .ok (.aload_n 0, 1) := by decide +kernel
theorem dX5_margin_100 : decode cX5_margin 100 = .ok (.getfield 19, 3) := by decide +kernel
theorem dX5_margin_103 : decode cX5_margin 103 = .ok (.iload 9, 2) := by decide +kernel
theorem dX5_margin_105 : decode cX5_margin 105 = .ok (.iaload, 1) := by decide +kernel
theorem dX5_margin_106 : decode cX5_margin 106 = .ok (.iadd, 1) := by decide +kernel
theorem dX5_margin_107 : decode cX5_margin 107 = .ok (.istore 6, 2) := by decide +kernel
theorem dX5_margin_109 : decode cX5_margin 109 = .ok (.aload_n 0, 1) := by decide +kernel
theorem dX5_margin_110 : decode cX5_margin 110 = .ok (.iload 9, 2) := by decide +kernel
theorem dX5_margin_112 : decode cX5_margin 112 = .ok (.iconst 1, 1) := by decide +kernel
theorem dX5_margin_113 : decode cX5_margin 113 = .ok (.invokevirtual 114, 3) := by decide +kernel
theorem dX5_margin_116 : decode cX5_margin 116 = .ok (.i2l, 1) := by decide +kernel
theorem dX5_margin_117 : decode cX5_margin 117 = .ok (.lstore 10, 2) := by decide +kernel
theorem dX5_margin_119 : decode cX5_margin 119 = .ok (.lload 10, 2) := by decide +kernel
theorem dX5_margin_121 : decode cX5_margin 121 = .ok (.lconst 0, 1) := by decide +kernel
theorem dX5_margin_122 : decode cX5_margin 122 = .ok (.lcmp, 1) := by decide +kernel
theorem dX5_margin_123 : decode cX5_margin 123 = .ok (.ifCond .ge 9, 3) := by decide +kernel
theorem dX5_margin_126 : decode cX5_margin 126 = .ok (.lload 10, 2) := by decide +kernel
theorem dX5_margin_128 : decode cX5_margin 128 = .ok (.lneg, 1) := by decide +kernel
theorem dX5_margin_129 : decode cX5_margin 129 = .ok (.goto 5, 3) := by decide +kernel
theorem dX5_margin_132 : decode cX5_margin 132 = .ok (.lload 10, 2) := by decide +kernel
theorem dX5_margin_134 : decode cX5_margin 134 = .ok (.lstore 10, 2) := by decide +kernel
theorem dX5_margin_136 : decode cX5_margin 136 = .ok (.lload 10, 2) := by decide +kernel
theorem dX5_margin_138 : decode cX5_margin 138 = .ok (.lload 7, 2) := by decide +kernel
theorem dX5_margin_140 : decode cX5_margin 140 = .ok (.lcmp, 1) := by decide +kernel
theorem dX5_margin_141 : decode cX5_margin 141 = .ok (.ifCond .le 8, 3) := by decide +kernel
theorem dX5_margin_144 : decode cX5_margin 144 = .ok (.lload 10, 2) := by decide +kernel
theorem dX5_margin_146 : decode cX5_margin 146 = .ok (.goto 5, 3) := by decide +kernel
theorem dX5_margin_149 : decode cX5_margin 149 = .ok (.lload 7, 2) := by decide +kernel
theorem dX5_margin_151 : decode cX5_margin 151 = .ok (.lstore 7, 2) := by decide +kernel
theorem dX5_margin_153 : decode cX5_margin 153 = .ok (.iinc 9 1, 3) := by decide +kernel
theorem dX5_margin_156 : decode cX5_margin 156 = .ok (.goto (-100), 3) := by decide +kernel
theorem dX5_margin_159 : decode cX5_margin 159 = .ok (.iload 5, 2) := by decide +kernel
theorem dX5_margin_161 : decode cX5_margin 161 = .ok (.ifCond .ne 9, 3) := by decide +kernel
theorem dX5_margin_164 : decode cX5_margin 164 = .ok (.aload_n 0, 1) := by decide +kernel
theorem dX5_margin_165 : decode cX5_margin 165 = .ok (.iconst 4, 1) := by decide +kernel
theorem dX5_margin_166 : decode cX5_margin 166 = .ok (.invokevirtual 79, 3) := by decide +kernel
theorem dX5_margin_169 : decode cX5_margin 169 = .ok (.ireturn, 1) := by decide +kernel
theorem dX5_margin_170 : decode cX5_margin 170 = .ok (.ldc2_w 142, 3) := by decide +kernel
theorem dX5_margin_173 : decode cX5_margin 173 = .ok (.ldc2_w 144, 3) := by decide +kernel
theorem dX5_margin_176 : decode cX5_margin 176 = .ok (.iload 6, 2) := by decide +kernel
theorem dX5_margin_178 : decode cX5_margin 178 = .ok (.iload 5, 2) := by decide +kernel
theorem dX5_margin_180 : decode cX5_margin 180 = .ok (.idiv, 1) := by decide +kernel
theorem dX5_margin_181 : decode cX5_margin 181 = .ok (.i2l, 1) := by decide +kernel
theorem dX5_margin_182 : decode cX5_margin 182 = .ok (.lmul, 1) := by decide +kernel
theorem dX5_margin_183 : decode cX5_margin 183 = .ok (.ladd, 1) := by decide +kernel
theorem dX5_margin_184 : decode cX5_margin 184 = .ok (.ldc2_w 146, 3) := by decide +kernel
theorem dX5_margin_187 : decode cX5_margin 187 = .ok (.lload 7, 2) := by decide +kernel
theorem dX5_margin_189 : decode cX5_margin 189 = .ok (.lmul, 1) := by decide +kernel
theorem dX5_margin_190 : decode cX5_margin 190 = .ok (.lsub, 1) := by decide +kernel
theorem dX5_margin_191 : decode cX5_margin 191 = .ok (.aload_n 0, 1) := by decide +kernel
theorem dX5_margin_192 : decode cX5_margin 192 = .ok (.iload_n 1, 1) := by decide +kernel
theorem dX5_margin_193 : decode cX5_margin 193 = .ok (.iload_n 2, 1) := by decide +kernel
theorem dX5_margin_194 : decode cX5_margin 194 = .ok (.invokevirtual 138, 3) := by decide +kernel
theorem dX5_margin_197 : decode cX5_margin 197 = .ok (.lsub, 1) := by decide +kernel
theorem dX5_margin_198 : decode cX5_margin 198 = .ok (.lstore 9, 2) := by decide +kernel
theorem dX5_margin_200 : decode cX5_margin 200 = .ok (.aload_n 0, 1) := by decide +kernel
theorem dX5_margin_201 : decode cX5_margin 201 = .ok (.lload 9, 2) := by decide +kernel
theorem dX5_margin_203 : decode cX5_margin 203 = .ok (.lload 9, 2) := by decide +kernel
theorem dX5_margin_205 : decode cX5_margin 205 = .ok (.lconst 0, 1) := by decide +kernel
theorem dX5_margin_206 : decode cX5_margin 206 = .ok (.lcmp, 1) := by decide +kernel
theorem dX5_margin_207 : decode cX5_margin 207 = .ok (.ifCond .gt 7, 3) := by decide +kernel
theorem dX5_margin_210 : decode cX5_margin 210 = .ok (.iconst 1, 1) := by decide +kernel
theorem dX5_margin_211 : decode cX5_margin 211 = .ok (.goto 4, 3) := by decide +kernel
theorem dX5_margin_214 : decode cX5_margin 214 = .ok (.iconst 0, 1) := by decide +kernel
theorem dX5_margin_215 : decode cX5_margin 215 = .ok (.invokevirtual 96, 3) := by decide +kernel
theorem dX5_margin_218 : decode cX5_margin 218 = .ok (.ireturn, 1) := by decide +kernel
theorem dX5_work_0 : decode cX5_work 0 = .ok (.iload_n 1, 1) := by decide +kernel
theorem dX5_work_1 : decode cX5_work 1 = .ok (.iconst 1, 1) := by decide +kernel
theorem dX5_work_2 : decode cX5_work 2 = .ok (.sipush 1000, 3) := by decide +kernel
theorem dX5_work_5 : decode cX5_work 5 = .ok (.invokestatic 68, 3) := by decide +kernel
theorem dX5_work_8 : decode cX5_work 8 = .ok (.ifCond .eq 14, 3) := by decide +kernel
theorem dX5_work_11 : decode cX5_work 11 = .ok (.iload_n 2, 1) := by decide +kernel
theorem dX5_work_12 : decode cX5_work 12 = .ok (.iconst 0, 1) := by decide +kernel
theorem dX5_work_13 : decode cX5_work 13 = .ok (.sipush 1000, 3) := by decide +kernel
theorem dX5_work_16 : decode cX5_work 16 = .ok (.invokestatic 68, 3) := by decide +kernel
theorem dX5_work_19 : decode cX5_work 19 = .ok (.ifCond .ne 5, 3) := by decide +kernel
theorem dX5_work_22 : decode cX5_work 22 = .ok (.iconst (-1), 1) := by decide +kernel
theorem dX5_work_23 : decode cX5_work 23 = .ok (.ireturn, 1) := by decide +kernel
theorem dX5_work_24 : decode cX5_work 24 = .ok (.aload_n 0, 1) := by decide +kernel
theorem dX5_work_25 : decode cX5_work 25 = .ok (.getfield 148, 3) := by decide +kernel
theorem dX5_work_28 : decode cX5_work 28 = .ok (.bipush 14, 2) := by decide +kernel
theorem dX5_work_30 : decode cX5_work 30 = .ok (.if_icmp .ne 6, 3) := by decide +kernel
theorem dX5_work_33 : decode cX5_work 33 = .ok (.bipush (-2), 2) := by decide +kernel
theorem dX5_work_35 : decode cX5_work 35 = .ok (.ireturn, 1) := by decide +kernel
theorem dX5_work_36 : decode cX5_work 36 = .ok (.aload_n 0, 1) := by decide +kernel
theorem dX5_work_37 : decode cX5_work 37 = .ok (.getfield 50, 3) := by decide +kernel
theorem dX5_work_40 : decode cX5_work 40 = .ok (.aload_n 0, 1) := by decide +kernel
theorem dX5_work_41 : decode cX5_work 41 = .ok (.getfield 148, 3) := by decide +kernel
theorem dX5_work_44 : decode cX5_work 44 = .ok (.iload_n 1, 1) := by decide +kernel
theorem dX5_work_45 : decode cX5_work 45 = .ok (.iastore, 1) := by decide +kernel
theorem dX5_work_46 : decode cX5_work 46 = .ok (.aload_n 0, 1) := by decide +kernel
theorem dX5_work_47 : decode cX5_work 47 = .ok (.getfield 53, 3) := by decide +kernel
theorem dX5_work_50 : decode cX5_work 50 = .ok (.aload_n 0, 1) := by decide +kernel
theorem dX5_work_51 : decode cX5_work 51 = .ok (.getfield 148, 3) := by decide +kernel
theorem dX5_work_54 : decode cX5_work 54 = .ok (.iload_n 2, 1) := by decide +kernel
theorem dX5_work_55 : decode cX5_work 55 = .ok (.iastore, 1) := by decide +kernel
theorem dX5_work_56 : decode cX5_work 56 = .ok (.aload_n 0, 1) := by decide +kernel
theorem dX5_work_57 : decode cX5_work 57 = .ok (.dup, 1) := by decide +kernel
theorem dX5_work_58 : decode cX5_work 58 = .ok (.getfield 148, 3) := by decide +kernel
theorem dX5_work_61 : decode cX5_work 61 = .ok (.iconst 1, 1) := by decide +kernel
theorem dX5_work_62 : decode cX5_work 62 = .ok (.iadd, 1) := by decide +kernel
theorem dX5_work_63 : decode cX5_work 63 = .ok (.putfield 148, 3) := by decide +kernel
theorem dX5_work_66 : decode cX5_work 66 = .ok (.aload_n 0, 1) := by decide +kernel
theorem dX5_work_67 : decode cX5_work 67 = .ok (.getfield 148, 3) := by decide +kernel
theorem dX5_work_70 : decode cX5_work 70 = .ok (.iconst 1, 1) := by decide +kernel
theorem dX5_work_71 : decode cX5_work 71 = .ok (.isub, 1) := by decide +kernel
theorem dX5_work_72 : decode cX5_work 72 = .ok (.ireturn, 1) := by decide +kernel
theorem dX5_sumOf_0 : decode cX5_sumOf 0 = .ok (.iconst 0, 1) := by decide +kernel
theorem dX5_sumOf_1 : decode cX5_sumOf 1 = .ok (.istore_n 3, 1) := by decide +kernel
theorem dX5_sumOf_2 : decode cX5_sumOf 2 = .ok (.iconst 0, 1) := by decide +kernel
theorem dX5_sumOf_3 : decode cX5_sumOf 3 = .ok (.istore 4, 2) := by decide +kernel
theorem dX5_sumOf_5 : decode cX5_sumOf 5 = .ok (.iload 4, 2) := by decide +kernel
theorem dX5_sumOf_7 : decode cX5_sumOf 7 = .ok (.aload_n 0, 1) := by decide +kernel
theorem dX5_sumOf_8 : decode cX5_sumOf 8 = .ok (.getfield 148, 3) := by decide +kernel
theorem dX5_sumOf_11 : decode cX5_sumOf 11 = .ok (.if_icmp .ge 46, 3) := by decide +kernel
theorem dX5_sumOf_14 : decode cX5_sumOf 14 = .ok (.iload_n 3, 1) := by decide +kernel
theorem dX5_sumOf_15 : decode cX5_sumOf 15 = .ok (.iload_n 1, 1) := by decide +kernel
theorem dX5_sumOf_16 : decode cX5_sumOf 16 = .ok (.iload 4, 2) := by decide +kernel
theorem dX5_sumOf_18 : decode cX5_sumOf 18 = .ok (.ishr, 1) := by decide +kernel
theorem dX5_sumOf_19 : decode cX5_sumOf 19 = .ok (.iconst 1, 1) := by decide +kernel
theorem dX5_sumOf_20 : decode cX5_sumOf 20 = .ok (.iand, 1) := by decide +kernel
theorem dX5_sumOf_21 : decode cX5_sumOf 21 = .ok (.ifCond .ne 7, 3) := by decide +kernel
theorem dX5_sumOf_24 : decode cX5_sumOf 24 = .ok (.iconst 0, 1) := by decide +kernel
theorem dX5_sumOf_25 : decode cX5_sumOf 25 = .ok (.goto 24, 3) := by decide +kernel
theorem dX5_sumOf_28 : decode cX5_sumOf 28 = .ok (.iload_n 2, 1) := by decide +kernel
theorem dX5_sumOf_29 : decode cX5_sumOf 29 = .ok (.ifCond .eq 13, 3) := by decide +kernel
theorem dX5_sumOf_32 : decode cX5_sumOf 32 = .ok (.aload_n 0, 1) := by decide +kernel
theorem dX5_sumOf_33 : decode cX5_sumOf 33 = .ok (.getfield 50, 3) := by decide +kernel
theorem dX5_sumOf_36 : decode cX5_sumOf 36 = .ok (.iload 4, 2) := by decide +kernel
theorem dX5_sumOf_38 : decode cX5_sumOf 38 = .ok (.iaload, 1) := by decide +kernel
theorem dX5_sumOf_39 : decode cX5_sumOf 39 = .ok (.goto 10, 3) := by decide +kernel
theorem dX5_sumOf_42 : decode cX5_sumOf 42 = .ok (.aload_n 0, 1) := by decide +kernel
theorem dX5_sumOf_43 : decode cX5_sumOf 43 = .ok (.getfield 53, 3) := by decide +kernel
theorem dX5_sumOf_46 : decode cX5_sumOf 46 = .ok (.iload 4, 2) := by decide +kernel
theorem dX5_sumOf_48 : decode cX5_sumOf 48 = .ok (.iaload, 1) := by decide +kernel
theorem dX5_sumOf_49 : decode cX5_sumOf 49 = .ok (.iadd, 1) := by decide +kernel
theorem dX5_sumOf_50 : decode cX5_sumOf 50 = .ok (.istore_n 3, 1) := by decide +kernel
theorem dX5_sumOf_51 : decode cX5_sumOf 51 = .ok (.iinc 4 1, 3) := by decide +kernel
theorem dX5_sumOf_54 : decode cX5_sumOf 54 = .ok (.goto (-49), 3) := by decide +kernel
theorem dX5_sumOf_57 : decode cX5_sumOf 57 = .ok (.iload_n 3, 1) := by decide +kernel
theorem dX5_sumOf_58 : decode cX5_sumOf 58 = .ok (.ireturn, 1) := by decide +kernel
theorem dX5_best_0 : decode cX5_best 0 = .ok (.iload_n 1, 1) := by decide +kernel
theorem dX5_best_1 : decode cX5_best 1 = .ok (.iconst 0, 1) := by decide +kernel
theorem dX5_best_2 : decode cX5_best 2 = .ok (.sipush 14000, 3) := by decide +kernel
theorem dX5_best_5 : decode cX5_best 5 = .ok (.invokestatic 68, 3) := by decide +kernel
theorem dX5_best_8 : decode cX5_best 8 = .ok (.ifCond .ne 5, 3) := by decide +kernel
theorem dX5_best_11 : decode cX5_best 11 = .ok (.iconst (-1), 1) := by decide +kernel
theorem dX5_best_12 : decode cX5_best 12 = .ok (.ireturn, 1) := by decide +kernel
theorem dX5_best_13 : decode cX5_best 13 = .ok (.iconst 0, 1) := by decide +kernel
theorem dX5_best_14 : decode cX5_best 14 = .ok (.istore_n 2, 1) := by decide +kernel
theorem dX5_best_15 : decode cX5_best 15 = .ok (.iconst 1, 1) := by decide +kernel
theorem dX5_best_16 : decode cX5_best 16 = .ok (.istore_n 3, 1) := by decide +kernel
theorem dX5_best_17 : decode cX5_best 17 = .ok (.iload_n 3, 1) := by decide +kernel
theorem dX5_best_18 : decode cX5_best 18 = .ok (.iconst 1, 1) := by decide +kernel
theorem dX5_best_19 : decode cX5_best 19 = .ok (.aload_n 0, 1) := by decide +kernel
theorem dX5_best_20 : decode cX5_best 20 = .ok (.getfield 148, 3) := by decide +kernel
theorem dX5_best_23 : decode cX5_best 23 = .ok (.ishl, 1) := by decide +kernel
theorem dX5_best_24 : decode cX5_best 24 = .ok (.if_icmp .ge 70, 3) := by decide +kernel
theorem dX5_best_27 : decode cX5_best 27 = .ok (.aload_n 0, 1) := by decide +kernel
theorem dX5_best_28 : decode cX5_best 28 = .ok (.iload_n 3, 1) := by decide +kernel
theorem dX5_best_29 : decode cX5_best 29 = .ok (.iconst 0, 1) := by decide +kernel
theorem dX5_best_30 : decode cX5_best 30 = .ok (.invokevirtual 151, 3) := by decide +kernel
theorem dX5_best_33 : decode cX5_best 33 = .ok (.aload_n 0, 1) := by decide +kernel
theorem dX5_best_34 : decode cX5_best 34 = .ok (.iload_n 2, 1) := by decide +kernel
theorem dX5_best_35 : decode cX5_best 35 = .ok (.iconst 0, 1) := by decide +kernel
theorem dX5_best_36 : decode cX5_best 36 = .ok (.invokevirtual 151, 3) := by decide +kernel
theorem dX5_best_39 : decode cX5_best 39 = .ok (.isub, 1) := by decide +kernel
theorem dX5_best_40 : decode cX5_best 40 = .ok (.istore 4, 2) := by decide +kernel
theorem dX5_best_42 : decode cX5_best 42 = .ok (.aload_n 0, 1) := by decide +kernel
theorem dX5_best_43 : decode cX5_best 43 = .ok (.iload_n 3, 1) := by decide +kernel
theorem dX5_best_44 : decode cX5_best 44 = .ok (.iconst 1, 1) := by decide +kernel
theorem dX5_best_45 : decode cX5_best 45 = .ok (.invokevirtual 151, 3) := by decide +kernel
theorem dX5_best_48 : decode cX5_best 48 = .ok (.aload_n 0, 1) := by decide +kernel
theorem dX5_best_49 : decode cX5_best 49 = .ok (.iload_n 2, 1) := by decide +kernel
theorem dX5_best_50 : decode cX5_best 50 = .ok (.iconst 1, 1) := by decide +kernel
theorem dX5_best_51 : decode cX5_best 51 = .ok (.invokevirtual 151, 3) := by decide +kernel
theorem dX5_best_54 : decode cX5_best 54 = .ok (.isub, 1) := by decide +kernel
theorem dX5_best_55 : decode cX5_best 55 = .ok (.istore 5, 2) := by decide +kernel
theorem dX5_best_57 : decode cX5_best 57 = .ok (.aload_n 0, 1) := by decide +kernel
theorem dX5_best_58 : decode cX5_best 58 = .ok (.iload_n 3, 1) := by decide +kernel
theorem dX5_best_59 : decode cX5_best 59 = .ok (.iconst 1, 1) := by decide +kernel
theorem dX5_best_60 : decode cX5_best 60 = .ok (.invokevirtual 151, 3) := by decide +kernel
theorem dX5_best_63 : decode cX5_best 63 = .ok (.iload_n 1, 1) := by decide +kernel
theorem dX5_best_64 : decode cX5_best 64 = .ok (.if_icmp .gt 22, 3) := by decide +kernel
theorem dX5_best_67 : decode cX5_best 67 = .ok (.iload 4, 2) := by decide +kernel
theorem dX5_best_69 : decode cX5_best 69 = .ok (.ifCond .gt 13, 3) := by decide +kernel
theorem dX5_best_72 : decode cX5_best 72 = .ok (.iload 4, 2) := by decide +kernel
theorem dX5_best_74 : decode cX5_best 74 = .ok (.ifCond .ne 12, 3) := by decide +kernel
theorem dX5_best_77 : decode cX5_best 77 = .ok (.iload 5, 2) := by decide +kernel
theorem dX5_best_79 : decode cX5_best 79 = .ok (.ifCond .ge 7, 3) := by decide +kernel
theorem dX5_best_82 : decode cX5_best 82 = .ok (.iload_n 3, 1) := by decide +kernel
theorem dX5_best_83 : decode cX5_best 83 = .ok (.goto 4, 3) := by decide +kernel
theorem dX5_best_86 : decode cX5_best 86 = .ok (.iload_n 2, 1) := by decide +kernel
theorem dX5_best_87 : decode cX5_best 87 = .ok (.istore_n 2, 1) := by decide +kernel
theorem dX5_best_88 : decode cX5_best 88 = .ok (.iinc 3 1, 3) := by decide +kernel
theorem dX5_best_91 : decode cX5_best 91 = .ok (.goto (-74), 3) := by decide +kernel
theorem dX5_best_94 : decode cX5_best 94 = .ok (.aload_n 0, 1) := by decide +kernel
theorem dX5_best_95 : decode cX5_best 95 = .ok (.iload_n 2, 1) := by decide +kernel
theorem dX5_best_96 : decode cX5_best 96 = .ok (.i2l, 1) := by decide +kernel
theorem dX5_best_97 : decode cX5_best 97 = .ok (.aload_n 0, 1) := by decide +kernel
theorem dX5_best_98 : decode cX5_best 98 = .ok (.iload_n 2, 1) := by decide +kernel
theorem dX5_best_99 : decode cX5_best 99 = .ok (.iconst 0, 1) := by decide +kernel
theorem dX5_best_100 : decode cX5_best 100 = .ok (.invokevirtual 151, 3) := by decide +kernel
theorem dX5_best_103 : decode cX5_best 103 = .ok (.invokevirtual 96, 3) := by decide +kernel
theorem dX5_best_106 : decode cX5_best 106 = .ok (.ireturn, 1) := by decide +kernel
theorem dX5_first_0 : decode cX5_first 0 = .ok (.iload_n 1, 1) := by decide +kernel
theorem dX5_first_1 : decode cX5_first 1 = .ok (.iconst 0, 1) := by decide +kernel
theorem dX5_first_2 : decode cX5_first 2 = .ok (.sipush 14000, 3) := by decide +kernel
theorem dX5_first_5 : decode cX5_first 5 = .ok (.invokestatic 68, 3) := by decide +kernel
theorem dX5_first_8 : decode cX5_first 8 = .ok (.ifCond .ne 5, 3) := by decide +kernel
theorem dX5_first_11 : decode cX5_first 11 = .ok (.iconst (-1), 1) := by decide +kernel
theorem dX5_first_12 : decode cX5_first 12 = .ok (.ireturn, 1) := by decide +kernel
theorem dX5_first_13 : decode cX5_first 13 = .ok (.iconst 0, 1) := by decide +kernel
theorem dX5_first_14 : decode cX5_first 14 = .ok (.istore_n 2, 1) := by decide +kernel
theorem dX5_first_15 : decode cX5_first 15 = .ok (.iconst 0, 1) := by decide +kernel
theorem dX5_first_16 : decode cX5_first 16 = .ok (.istore_n 3, 1) := by decide +kernel
theorem dX5_first_17 : decode cX5_first 17 = .ok (.iload_n 1, 1) := by decide +kernel
theorem dX5_first_18 : decode cX5_first 18 = .ok (.istore 4, 2) := by decide +kernel
theorem dX5_first_20 : decode cX5_first 20 = .ok (.iconst 0, 1) := by decide +kernel
theorem dX5_first_21 : decode cX5_first 21 = .ok (.istore 5, 2) := by decide +kernel
theorem dX5_first_23 : decode cX5_first 23 = .ok (.iload 5, 2) := by decide +kernel
theorem dX5_first_25 : decode cX5_first 25 = .ok (.aload_n 0, 1) := by decide +kernel
theorem dX5_first_26 : decode cX5_first 26 = .ok (.getfield 148, 3) := by decide +kernel
theorem dX5_first_29 : decode cX5_first 29 = .ok (.if_icmp .ge 125, 3) := by decide +kernel
theorem dX5_first_32 : decode cX5_first 32 = .ok (.bipush (-9), 2) := by decide +kernel
theorem dX5_first_34 : decode cX5_first 34 = .ok (.istore 6, 2) := by decide +kernel
theorem dX5_first_36 : decode cX5_first 36 = .ok (.iconst 0, 1) := by decide +kernel
theorem dX5_first_37 : decode cX5_first 37 = .ok (.istore 7, 2) := by decide +kernel
theorem dX5_first_39 : decode cX5_first 39 = .ok (.iload 7, 2) := by decide +kernel
theorem dX5_first_41 : decode cX5_first 41 = .ok (.aload_n 0, 1) := by decide +kernel
theorem dX5_first_42 : decode cX5_first 42 = .ok (.getfield 148, 3) := by decide +kernel
theorem dX5_first_45 : decode cX5_first 45 = .ok (.if_icmp .ge 65, 3) := by decide +kernel
theorem dX5_first_48 : decode cX5_first 48 = .ok (.iload_n 2, 1) := by decide +kernel
theorem dX5_first_49 : decode cX5_first 49 = .ok (.iload 7, 2) := by decide +kernel
theorem dX5_first_51 : decode cX5_first 51 = .ok (.ishr, 1) := by decide +kernel
theorem dX5_first_52 : decode cX5_first 52 = .ok (.iconst 1, 1) := by decide +kernel
theorem dX5_first_53 : decode cX5_first 53 = .ok (.iand, 1) := by decide +kernel
theorem dX5_first_54 : decode cX5_first 54 = .ok (.ifCond .ne 46, 3) := by decide +kernel
theorem dX5_first_57 : decode cX5_first 57 = .ok (.iload 6, 2) := by decide +kernel
theorem dX5_first_59 : decode cX5_first 59 = .ok (.ifCond .lt 36, 3) := by decide +kernel
theorem dX5_first_62 : decode cX5_first 62 = .ok (.aload_n 0, 1) := by decide +kernel
theorem dX5_first_63 : decode cX5_first 63 = .ok (.getfield 53, 3) := by decide +kernel
theorem dX5_first_66 : decode cX5_first 66 = .ok (.iload 7, 2) := by decide +kernel
theorem dX5_first_68 : decode cX5_first 68 = .ok (.iaload, 1) := by decide +kernel
theorem dX5_first_69 : decode cX5_first 69 = .ok (.aload_n 0, 1) := by decide +kernel
theorem dX5_first_70 : decode cX5_first 70 = .ok (.getfield 50, 3) := by decide +kernel
theorem dX5_first_73 : decode cX5_first 73 = .ok (.iload 6, 2) := by decide +kernel
theorem dX5_first_75 : decode cX5_first 75 = .ok (.iaload, 1) := by decide +kernel
theorem dX5_first_76 : decode cX5_first 76 = .ok (.imul, 1) := by decide +kernel
theorem dX5_first_77 : decode cX5_first 77 = .ok (.aload_n 0, 1) := by decide +kernel
theorem dX5_first_78 : decode cX5_first 78 = .ok (.getfield 53, 3) := by decide +kernel
theorem dX5_first_81 : decode cX5_first 81 = .ok (.iload 6, 2) := by decide +kernel
theorem dX5_first_83 : decode cX5_first 83 = .ok (.iaload, 1) := by decide +kernel
theorem dX5_first_84 : decode cX5_first 84 = .ok (.aload_n 0, 1) := by decide +kernel
theorem dX5_first_85 : decode cX5_first 85 = .ok (.getfield 50, 3) := by decide +kernel
theorem dX5_first_88 : decode cX5_first 88 = .ok (.iload 7, 2) := by decide +kernel
theorem dX5_first_90 : decode cX5_first 90 = .ok (.iaload, 1) := by decide +kernel
theorem dX5_first_91 : decode cX5_first 91 = .ok (.imul, 1) := by decide +kernel
theorem dX5_first_92 : decode cX5_first 92 = .ok (.if_icmp .le 8, 3) := by decide +kernel
theorem dX5_first_95 : decode cX5_first 95 = .ok (.iload 7, 2) := by decide +kernel
theorem dX5_first_97 : decode cX5_first 97 = .ok (.goto 5, 3) := by decide +kernel
theorem dX5_first_100 : decode cX5_first 100 = .ok (.iload 6, 2) := by decide +kernel
theorem dX5_first_102 : decode cX5_first 102 = .ok (.istore 6, 2) := by decide +kernel
theorem dX5_first_104 : decode cX5_first 104 = .ok (.iinc 7 1, 3) := by decide +kernel
theorem dX5_first_107 : decode cX5_first 107 = .ok (.goto (-68), 3) := by decide +kernel
theorem dX5_first_110 : decode cX5_first 110 = .ok (.iload_n 2, 1) := by decide +kernel
theorem dX5_first_111 : decode cX5_first 111 = .ok (.iconst 1, 1) := by decide +kernel
theorem dX5_first_112 : decode cX5_first 112 = .ok (.iload 6, 2) := by decide +kernel
theorem dX5_first_114 : decode cX5_first 114 = .ok (.ishl, 1) := by decide +kernel
theorem dX5_first_115 : decode cX5_first 115 = .ok (.ior, 1) := by decide +kernel
theorem dX5_first_116 : decode cX5_first 116 = .ok (.istore_n 2, 1) := by decide +kernel
theorem dX5_first_117 : decode cX5_first 117 = .ok (.aload_n 0, 1) := by decide +kernel
theorem dX5_first_118 : decode cX5_first 118 = .ok (.getfield 50, 3) := by decide +kernel
theorem dX5_first_121 : decode cX5_first 121 = .ok (.iload 6, 2) := by decide +kernel
theorem dX5_first_123 : decode cX5_first 123 = .ok (.iaload, 1) := by decide +kernel
theorem dX5_first_124 : decode cX5_first 124 = .ok (.iload 4, 2) := by decide +kernel
theorem dX5_first_126 : decode cX5_first 126 = .ok (.if_icmp .gt 22, 3) := by decide +kernel
theorem dX5_first_129 : decode cX5_first 129 = .ok (.iload 4, 2) := by decide +kernel
theorem dX5_first_131 : decode cX5_first 131 = .ok (.aload_n 0, 1) := by decide +kernel
theorem dX5_first_132 : decode cX5_first 132 = .ok (.getfield 50, 3) := by decide +kernel
theorem dX5_first_135 : decode cX5_first 135 = .ok (.iload 6, 2) := by decide +kernel
theorem dX5_first_137 : decode cX5_first 137 = .ok (.iaload, 1) := by decide +kernel
theorem dX5_first_138 : decode cX5_first 138 = .ok (.isub, 1) := by decide +kernel
theorem dX5_first_139 : decode cX5_first 139 = .ok (.istore 4, 2) := by decide +kernel
theorem dX5_first_141 : decode cX5_first 141 = .ok (.iload_n 3, 1) := by decide +kernel
theorem dX5_first_142 : decode cX5_first 142 = .ok (.iconst 1, 1) := by decide +kernel
theorem dX5_first_143 : decode cX5_first 143 = .ok (.iload 6, 2) := by decide +kernel
theorem dX5_first_145 : decode cX5_first 145 = .ok (.ishl, 1) := by decide +kernel
theorem dX5_first_146 : decode cX5_first 146 = .ok (.ior, 1) := by decide +kernel
theorem dX5_first_147 : decode cX5_first 147 = .ok (.istore_n 3, 1) := by decide +kernel
theorem dX5_first_148 : decode cX5_first 148 = .ok (.iinc 5 1, 3) := by decide +kernel
theorem dX5_first_151 : decode cX5_first 151 = .ok (.goto (-128), 3) := by decide +kernel
theorem dX5_first_154 : decode cX5_first 154 = .ok (.aload_n 0, 1) := by decide +kernel
theorem dX5_first_155 : decode cX5_first 155 = .ok (.iload_n 3, 1) := by decide +kernel
theorem dX5_first_156 : decode cX5_first 156 = .ok (.i2l, 1) := by decide +kernel
theorem dX5_first_157 : decode cX5_first 157 = .ok (.aload_n 0, 1) := by decide +kernel
theorem dX5_first_158 : decode cX5_first 158 = .ok (.iload_n 3, 1) := by decide +kernel
theorem dX5_first_159 : decode cX5_first 159 = .ok (.iconst 0, 1) := by decide +kernel
theorem dX5_first_160 : decode cX5_first 160 = .ok (.invokevirtual 151, 3) := by decide +kernel
theorem dX5_first_163 : decode cX5_first 163 = .ok (.invokevirtual 96, 3) := by decide +kernel
theorem dX5_first_166 : decode cX5_first 166 = .ok (.ireturn, 1) := by decide +kernel
theorem dX5_asked_0 : decode cX5_asked 0 = .ok (.aload_n 0, 1) := by decide +kernel
theorem dX5_asked_1 : decode cX5_asked 1 = .ok (.getfield 64, 3) := by decide +kernel
theorem dX5_asked_4 : decode cX5_asked 4 = .ok (.lreturn, 1) := by decide +kernel
theorem dX5_tellsCount_0 : decode cX5_tellsCount 0 = .ok (.iconst 0, 1) := by decide +kernel
theorem dX5_tellsCount_1 : decode cX5_tellsCount 1 = .ok (.istore_n 2, 1) := by decide +kernel
theorem dX5_tellsCount_2 : decode cX5_tellsCount 2 = .ok (.iconst 0, 1) := by decide +kernel
theorem dX5_tellsCount_3 : decode cX5_tellsCount 3 = .ok (.istore_n 3, 1) := by decide +kernel
theorem dX5_tellsCount_4 : decode cX5_tellsCount 4 = .ok (.iload_n 3, 1) := by decide +kernel
theorem dX5_tellsCount_5 : decode cX5_tellsCount 5 = .ok (.aload_n 0, 1) := by decide +kernel
theorem dX5_tellsCount_6 : decode cX5_tellsCount 6 = .ok (.getfield 72, 3) := by decide +kernel
theorem dX5_tellsCount_9 : decode cX5_tellsCount 9 = .ok (.if_icmp .ge 31, 3) := by decide +kernel
theorem dX5_tellsCount_12 : decode cX5_tellsCount 12 = .ok (.iload_n 1, 1) := by decide +kernel
theorem dX5_tellsCount_13 : decode cX5_tellsCount 13 = .ok (.iconst 1, 1) := by decide +kernel
theorem dX5_tellsCount_14 : decode cX5_tellsCount 14 = .ok (.if_icmp .ne 26, 3) := by decide +kernel
theorem dX5_tellsCount_17 : decode cX5_tellsCount 17 = .ok (.iload_n 2, 1) := by decide +kernel
theorem dX5_tellsCount_18 : decode cX5_tellsCount 18 = .ok (.aload_n 0, 1) := by decide +kernel
theorem dX5_tellsCount_19 : decode cX5_tellsCount 19 = .ok (.getfield 28, 3) := by decide +kernel
theorem dX5_tellsCount_22 : decode cX5_tellsCount 22 = .ok (.iload_n 3, 1) := by decide +kernel
theorem dX5_tellsCount_23 : decode cX5_tellsCount 23 = .ok (.baload, 1) := by decide +kernel
theorem dX5_tellsCount_24 : decode cX5_tellsCount 24 = .ok (.ifCond .eq 7, 3) := by decide +kernel
theorem dX5_tellsCount_27 : decode cX5_tellsCount 27 = .ok (.iconst 1, 1) := by decide +kernel
theorem dX5_tellsCount_28 : decode cX5_tellsCount 28 = .ok (.goto 4, 3) := by decide +kernel
theorem dX5_tellsCount_31 : decode cX5_tellsCount 31 = .ok (.iconst 0, 1) := by decide +kernel
theorem dX5_tellsCount_32 : decode cX5_tellsCount 32 = .ok (.iadd, 1) := by decide +kernel
theorem dX5_tellsCount_33 : decode cX5_tellsCount 33 = .ok (.istore_n 2, 1) := by decide +kernel
theorem dX5_tellsCount_34 : decode cX5_tellsCount 34 = .ok (.iinc 3 1, 3) := by decide +kernel
theorem dX5_tellsCount_37 : decode cX5_tellsCount 37 = .ok (.goto (-33), 3) := by decide +kernel
theorem dX5_tellsCount_40 : decode cX5_tellsCount 40 = .ok (.iconst 0, 1) := by decide +kernel
theorem dX5_tellsCount_41 : decode cX5_tellsCount 41 = .ok (.istore_n 3, 1) := by decide +kernel
theorem dX5_tellsCount_42 : decode cX5_tellsCount 42 = .ok (.iload_n 3, 1) := by decide +kernel
theorem dX5_tellsCount_43 : decode cX5_tellsCount 43 = .ok (.bipush 6, 2) := by decide +kernel
theorem dX5_tellsCount_45 : decode cX5_tellsCount 45 = .ok (.if_icmp .ge 31, 3) := by decide +kernel
theorem dX5_tellsCount_48 : decode cX5_tellsCount 48 = .ok (.iload_n 1, 1) := by decide +kernel
theorem dX5_tellsCount_49 : decode cX5_tellsCount 49 = .ok (.iconst 3, 1) := by decide +kernel
theorem dX5_tellsCount_50 : decode cX5_tellsCount 50 = .ok (.if_icmp .ne 26, 3) := by decide +kernel
theorem dX5_tellsCount_53 : decode cX5_tellsCount 53 = .ok (.iload_n 2, 1) := by decide +kernel
theorem dX5_tellsCount_54 : decode cX5_tellsCount 54 = .ok (.aload_n 0, 1) := by decide +kernel
theorem dX5_tellsCount_55 : decode cX5_tellsCount 55 = .ok (.getfield 41, 3) := by decide +kernel
theorem dX5_tellsCount_58 : decode cX5_tellsCount 58 = .ok (.iload_n 3, 1) := by decide +kernel
theorem dX5_tellsCount_59 : decode cX5_tellsCount 59 = .ok (.baload, 1) := by decide +kernel
theorem dX5_tellsCount_60 : decode cX5_tellsCount 60 = .ok (.ifCond .eq 7, 3) := by decide +kernel
theorem dX5_tellsCount_63 : decode cX5_tellsCount 63 = .ok (.iconst 1, 1) := by decide +kernel
theorem dX5_tellsCount_64 : decode cX5_tellsCount 64 = .ok (.goto 4, 3) := by decide +kernel
theorem dX5_tellsCount_67 : decode cX5_tellsCount 67 = .ok (.iconst 0, 1) := by decide +kernel
theorem dX5_tellsCount_68 : decode cX5_tellsCount 68 = .ok (.iadd, 1) := by decide +kernel
theorem dX5_tellsCount_69 : decode cX5_tellsCount 69 = .ok (.istore_n 2, 1) := by decide +kernel
theorem dX5_tellsCount_70 : decode cX5_tellsCount 70 = .ok (.iinc 3 1, 3) := by decide +kernel
theorem dX5_tellsCount_73 : decode cX5_tellsCount 73 = .ok (.goto (-31), 3) := by decide +kernel
theorem dX5_tellsCount_76 : decode cX5_tellsCount 76 = .ok (.iload_n 1, 1) := by decide +kernel
theorem dX5_tellsCount_77 : decode cX5_tellsCount 77 = .ok (.ifCond .ne 10, 3) := by decide +kernel
theorem dX5_tellsCount_80 : decode cX5_tellsCount 80 = .ok (.aload_n 0, 1) := by decide +kernel
theorem dX5_tellsCount_81 : decode cX5_tellsCount 81 = .ok (.getfield 72, 3) := by decide +kernel
theorem dX5_tellsCount_84 : decode cX5_tellsCount 84 = .ok (.goto 28, 3) := by decide +kernel
theorem dX5_tellsCount_87 : decode cX5_tellsCount 87 = .ok (.iload_n 1, 1) := by decide +kernel
theorem dX5_tellsCount_88 : decode cX5_tellsCount 88 = .ok (.iconst 2, 1) := by decide +kernel
theorem dX5_tellsCount_89 : decode cX5_tellsCount 89 = .ok (.if_icmp .ne 10, 3) := by decide +kernel
theorem dX5_tellsCount_92 : decode cX5_tellsCount 92 = .ok (.aload_n 0, 1) := by decide +kernel
theorem dX5_tellsCount_93 : decode cX5_tellsCount 93 = .ok (.getfield 99, 3) := by decide +kernel
theorem dX5_tellsCount_96 : decode cX5_tellsCount 96 = .ok (.goto 16, 3) := by decide +kernel
theorem dX5_tellsCount_99 : decode cX5_tellsCount 99 = .ok (.iload_n 1, 1) := by decide +kernel
theorem dX5_tellsCount_100 : decode cX5_tellsCount 100 = .ok (.iconst 4, 1) := by decide +kernel
theorem dX5_tellsCount_101 : decode cX5_tellsCount 101 = .ok (.if_icmp .ne 10, 3) := by decide +kernel
theorem dX5_tellsCount_104 : decode cX5_tellsCount 104 = .ok (.aload_n 0, 1) := by decide +kernel
theorem dX5_tellsCount_105 : decode cX5_tellsCount 105 = .ok (.getfield 148, 3) := by decide +kernel
theorem dX5_tellsCount_108 : decode cX5_tellsCount 108 = .ok (.goto 4, 3) := by decide +kernel
theorem dX5_tellsCount_111 : decode cX5_tellsCount 111 = .ok (.iload_n 2, 1) := by decide +kernel
theorem dX5_tellsCount_112 : decode cX5_tellsCount 112 = .ok (.ireturn, 1) := by decide +kernel
theorem dX5_count_0 : decode cX5_count 0 = .ok (.iload_n 1, 1) := by decide +kernel
theorem dX5_count_1 : decode cX5_count 1 = .ok (.iconst 0, 1) := by decide +kernel
theorem dX5_count_2 : decode cX5_count 2 = .ok (.iconst 4, 1) := by decide +kernel
theorem dX5_count_3 : decode cX5_count 3 = .ok (.invokestatic 68, 3) := by decide +kernel
theorem dX5_count_6 : decode cX5_count 6 = .ok (.ifCond .eq 11, 3) := by decide +kernel
theorem dX5_count_9 : decode cX5_count 9 = .ok (.aload_n 0, 1) := by decide +kernel
theorem dX5_count_10 : decode cX5_count 10 = .ok (.iload_n 1, 1) := by decide +kernel
theorem dX5_count_11 : decode cX5_count 11 = .ok (.invokevirtual 155, 3) := by decide +kernel
theorem dX5_count_14 : decode cX5_count 14 = .ok (.goto 4, 3) := by decide +kernel
theorem dX5_count_17 : decode cX5_count 17 = .ok (.iconst (-1), 1) := by decide +kernel
theorem dX5_count_18 : decode cX5_count 18 = .ok (.ireturn, 1) := by decide +kernel
theorem dX5_finding_0 : decode cX5_finding 0 = .ok (.aload_n 0, 1) := by decide +kernel
theorem dX5_finding_1 : decode cX5_finding 1 = .ok (.getfield 60, 3) := by decide +kernel
theorem dX5_finding_4 : decode cX5_finding 4 = .ok (.ireturn, 1) := by decide +kernel
theorem dX5_findings_0 : decode cX5_findings 0 = .ok (.iload_n 1, 1) := by decide +kernel
theorem dX5_findings_1 : decode cX5_findings 1 = .ok (.iconst 1, 1) := by decide +kernel
theorem dX5_findings_2 : decode cX5_findings 2 = .ok (.iconst 5, 1) := by decide +kernel
theorem dX5_findings_3 : decode cX5_findings 3 = .ok (.invokestatic 68, 3) := by decide +kernel
theorem dX5_findings_6 : decode cX5_findings 6 = .ok (.ifCond .eq 12, 3) := by decide +kernel
theorem dX5_findings_9 : decode cX5_findings 9 = .ok (.aload_n 0, 1) := by decide +kernel
theorem dX5_findings_10 : decode cX5_findings 10 = .ok (.getfield 7, 3) := by decide +kernel
theorem dX5_findings_13 : decode cX5_findings 13 = .ok (.iload_n 1, 1) := by decide +kernel
theorem dX5_findings_14 : decode cX5_findings 14 = .ok (.iaload, 1) := by decide +kernel
theorem dX5_findings_15 : decode cX5_findings 15 = .ok (.goto 4, 3) := by decide +kernel
theorem dX5_findings_18 : decode cX5_findings 18 = .ok (.iconst (-1), 1) := by decide +kernel
theorem dX5_findings_19 : decode cX5_findings 19 = .ok (.ireturn, 1) := by decide +kernel
theorem dX5_digest_0 : decode cX5_digest 0 = .ok (.ldc2_w 158, 3) := by decide +kernel
theorem dX5_digest_3 : decode cX5_digest 3 = .ok (.lstore_n 1, 1) := by decide +kernel
theorem dX5_digest_4 : decode cX5_digest 4 = .ok (.iconst 0, 1) := by decide +kernel
theorem dX5_digest_5 : decode cX5_digest 5 = .ok (.istore_n 3, 1) := by decide +kernel
theorem dX5_digest_6 : decode cX5_digest 6 = .ok (.iload_n 3, 1) := by decide +kernel
theorem dX5_digest_7 : decode cX5_digest 7 = .ok (.iconst 4, 1) := by decide +kernel
theorem dX5_digest_8 : decode cX5_digest 8 = .ok (.if_icmp .gt 22, 3) := by decide +kernel
theorem dX5_digest_11 : decode cX5_digest 11 = .ok (.ldc2_w 160, 3) := by decide +kernel
theorem dX5_digest_14 : decode cX5_digest 14 = .ok (.lload_n 1, 1) := by decide +kernel
theorem dX5_digest_15 : decode cX5_digest 15 = .ok (.lmul, 1) := by decide +kernel
theorem dX5_digest_16 : decode cX5_digest 16 = .ok (.aload_n 0, 1) := by decide +kernel
theorem dX5_digest_17 : decode cX5_digest 17 = .ok (.iload_n 3, 1) := by decide +kernel
theorem dX5_digest_18 : decode cX5_digest 18 = .ok (.invokevirtual 155, 3) := by decide +kernel
theorem dX5_digest_21 : decode cX5_digest 21 = .ok (.i2l, 1) := by decide +kernel
theorem dX5_digest_22 : decode cX5_digest 22 = .ok (.ladd, 1) := by decide +kernel
theorem dX5_digest_23 : decode cX5_digest 23 = .ok (.lstore_n 1, 1) := by decide +kernel
theorem dX5_digest_24 : decode cX5_digest 24 = .ok (.iinc 3 1, 3) := by decide +kernel
theorem dX5_digest_27 : decode cX5_digest 27 = .ok (.goto (-21), 3) := by decide +kernel
theorem dX5_digest_30 : decode cX5_digest 30 = .ok (.iconst 0, 1) := by decide +kernel
theorem dX5_digest_31 : decode cX5_digest 31 = .ok (.istore_n 3, 1) := by decide +kernel
theorem dX5_digest_32 : decode cX5_digest 32 = .ok (.iload_n 3, 1) := by decide +kernel
theorem dX5_digest_33 : decode cX5_digest 33 = .ok (.aload_n 0, 1) := by decide +kernel
theorem dX5_digest_34 : decode cX5_digest 34 = .ok (.getfield 72, 3) := by decide +kernel
theorem dX5_digest_37 : decode cX5_digest 37 = .ok (.if_icmp .ge 53, 3) := by decide +kernel
theorem dX5_digest_40 : decode cX5_digest 40 = .ok (.iconst 0, 1) := by decide +kernel
theorem dX5_digest_41 : decode cX5_digest 41 = .ok (.istore 4, 2) := by decide +kernel
theorem dX5_digest_43 : decode cX5_digest 43 = .ok (.iload 4, 2) := by decide +kernel
theorem dX5_digest_45 : decode cX5_digest 45 = .ok (.iconst 3, 1) := by decide +kernel
theorem dX5_digest_46 : decode cX5_digest 46 = .ok (.if_icmp .gt 24, 3) := by decide +kernel
theorem dX5_digest_49 : decode cX5_digest 49 = .ok (.ldc2_w 160, 3) := by decide +kernel
theorem dX5_digest_52 : decode cX5_digest 52 = .ok (.lload_n 1, 1) := by decide +kernel
theorem dX5_digest_53 : decode cX5_digest 53 = .ok (.lmul, 1) := by decide +kernel
theorem dX5_digest_54 : decode cX5_digest 54 = .ok (.aload_n 0, 1) := by decide +kernel
theorem dX5_digest_55 : decode cX5_digest 55 = .ok (.iload_n 3, 1) := by decide +kernel
theorem dX5_digest_56 : decode cX5_digest 56 = .ok (.iload 4, 2) := by decide +kernel
theorem dX5_digest_58 : decode cX5_digest 58 = .ok (.invokevirtual 85, 3) := by decide +kernel
theorem dX5_digest_61 : decode cX5_digest 61 = .ok (.i2l, 1) := by decide +kernel
theorem dX5_digest_62 : decode cX5_digest 62 = .ok (.ladd, 1) := by decide +kernel
theorem dX5_digest_63 : decode cX5_digest 63 = .ok (.lstore_n 1, 1) := by decide +kernel
theorem dX5_digest_64 : decode cX5_digest 64 = .ok (.iinc 4 1, 3) := by decide +kernel
theorem dX5_digest_67 : decode cX5_digest 67 = .ok (.goto (-24), 3) := by decide +kernel
theorem dX5_digest_70 : decode cX5_digest 70 = .ok (.ldc2_w 160, 3) := by decide +kernel
theorem dX5_digest_73 : decode cX5_digest 73 = .ok (.lload_n 1, 1) := by decide +kernel
theorem dX5_digest_74 : decode cX5_digest 74 = .ok (.lmul, 1) := by decide +kernel
theorem dX5_digest_75 : decode cX5_digest 75 = .ok (.aload_n 0, 1) := by decide +kernel
theorem dX5_digest_76 : decode cX5_digest 76 = .ok (.getfield 16, 3) := by decide +kernel
theorem dX5_digest_79 : decode cX5_digest 79 = .ok (.iload_n 3, 1) := by decide +kernel
theorem dX5_digest_80 : decode cX5_digest 80 = .ok (.iaload, 1) := by decide +kernel
theorem dX5_digest_81 : decode cX5_digest 81 = .ok (.i2l, 1) := by decide +kernel
theorem dX5_digest_82 : decode cX5_digest 82 = .ok (.ladd, 1) := by decide +kernel
theorem dX5_digest_83 : decode cX5_digest 83 = .ok (.lstore_n 1, 1) := by decide +kernel
theorem dX5_digest_84 : decode cX5_digest 84 = .ok (.iinc 3 1, 3) := by decide +kernel
theorem dX5_digest_87 : decode cX5_digest 87 = .ok (.goto (-55), 3) := by decide +kernel
theorem dX5_digest_90 : decode cX5_digest 90 = .ok (.iconst 0, 1) := by decide +kernel
theorem dX5_digest_91 : decode cX5_digest 91 = .ok (.istore_n 3, 1) := by decide +kernel
theorem dX5_digest_92 : decode cX5_digest 92 = .ok (.iload_n 3, 1) := by decide +kernel
theorem dX5_digest_93 : decode cX5_digest 93 = .ok (.iconst 4, 1) := by decide +kernel
theorem dX5_digest_94 : decode cX5_digest 94 = .ok (.if_icmp .ge 23, 3) := by decide +kernel
theorem dX5_digest_97 : decode cX5_digest 97 = .ok (.ldc2_w 160, 3) := by decide +kernel
theorem dX5_digest_100 : decode cX5_digest 100 = .ok (.lload_n 1, 1) := by decide +kernel
theorem dX5_digest_101 : decode cX5_digest 101 = .ok (.lmul, 1) := by decide +kernel
theorem dX5_digest_102 : decode cX5_digest 102 = .ok (.aload_n 0, 1) := by decide +kernel
theorem dX5_digest_103 : decode cX5_digest 103 = .ok (.getfield 32, 3) := by decide +kernel
theorem dX5_digest_106 : decode cX5_digest 106 = .ok (.iload_n 3, 1) := by decide +kernel
theorem dX5_digest_107 : decode cX5_digest 107 = .ok (.iaload, 1) := by decide +kernel
theorem dX5_digest_108 : decode cX5_digest 108 = .ok (.i2l, 1) := by decide +kernel
theorem dX5_digest_109 : decode cX5_digest 109 = .ok (.ladd, 1) := by decide +kernel
theorem dX5_digest_110 : decode cX5_digest 110 = .ok (.lstore_n 1, 1) := by decide +kernel
theorem dX5_digest_111 : decode cX5_digest 111 = .ok (.iinc 3 1, 3) := by decide +kernel
theorem dX5_digest_114 : decode cX5_digest 114 = .ok (.goto (-22), 3) := by decide +kernel
theorem dX5_digest_117 : decode cX5_digest 117 = .ok (.iconst 0, 1) := by decide +kernel
theorem dX5_digest_118 : decode cX5_digest 118 = .ok (.istore_n 3, 1) := by decide +kernel
theorem dX5_digest_119 : decode cX5_digest 119 = .ok (.iload_n 3, 1) := by decide +kernel
theorem dX5_digest_120 : decode cX5_digest 120 = .ok (.bipush 6, 2) := by decide +kernel
theorem dX5_digest_122 : decode cX5_digest 122 = .ok (.if_icmp .ge 71, 3) := by decide +kernel
theorem dX5_digest_125 : decode cX5_digest 125 = .ok (.aload_n 0, 1) := by decide +kernel
theorem dX5_digest_126 : decode cX5_digest 126 = .ok (.getfield 41, 3) := by decide +kernel
theorem dX5_digest_129 : decode cX5_digest 129 = .ok (.iload_n 3, 1) := by decide +kernel
theorem dX5_digest_130 : decode cX5_digest 130 = .ok (.baload, 1) := by decide +kernel
theorem dX5_digest_131 : decode cX5_digest 131 = .ok (.ifCond .ne 11, 3) := by decide +kernel
theorem dX5_digest_134 : decode cX5_digest 134 = .ok (.ldc2_w 160, 3) := by decide +kernel
theorem dX5_digest_137 : decode cX5_digest 137 = .ok (.lload_n 1, 1) := by decide +kernel
theorem dX5_digest_138 : decode cX5_digest 138 = .ok (.lmul, 1) := by decide +kernel
theorem dX5_digest_139 : decode cX5_digest 139 = .ok (.lconst 1, 1) := by decide +kernel
theorem dX5_digest_140 : decode cX5_digest 140 = .ok (.lsub, 1) := by decide +kernel
theorem dX5_digest_141 : decode cX5_digest 141 = .ok (.lstore_n 1, 1) := by decide +kernel
theorem dX5_digest_142 : decode cX5_digest 142 = .ok (.iconst 0, 1) := by decide +kernel
theorem dX5_digest_143 : decode cX5_digest 143 = .ok (.istore 4, 2) := by decide +kernel
theorem dX5_digest_145 : decode cX5_digest 145 = .ok (.iload 4, 2) := by decide +kernel
theorem dX5_digest_147 : decode cX5_digest 147 = .ok (.bipush 40, 2) := by decide +kernel
theorem dX5_digest_149 : decode cX5_digest 149 = .ok (.if_icmp .ge 38, 3) := by decide +kernel
theorem dX5_digest_152 : decode cX5_digest 152 = .ok (.aload_n 0, 1) := by decide +kernel
theorem dX5_digest_153 : decode cX5_digest 153 = .ok (.getfield 41, 3) := by decide +kernel
theorem dX5_digest_156 : decode cX5_digest 156 = .ok (.iload_n 3, 1) := by decide +kernel
theorem dX5_digest_157 : decode cX5_digest 157 = .ok (.baload, 1) := by decide +kernel
theorem dX5_digest_158 : decode cX5_digest 158 = .ok (.ifCond .eq 29, 3) := by decide +kernel
theorem dX5_digest_161 : decode cX5_digest 161 = .ok (.ldc2_w 160, 3) := by decide +kernel
theorem dX5_digest_164 : decode cX5_digest 164 = .ok (.lload_n 1, 1) := by decide +kernel
theorem dX5_digest_165 : decode cX5_digest 165 = .ok (.lmul, 1) := by decide +kernel
theorem dX5_digest_166 : decode cX5_digest 166 = .ok (.aload_n 0, 1) := by decide +kernel
theorem dX5_digest_167 : decode cX5_digest 167 = .ok (.getfield 44, 3) := by decide +kernel
theorem dX5_digest_170 : decode cX5_digest 170 = .ok (.bipush 40, 2) := by decide +kernel
theorem dX5_digest_172 : decode cX5_digest 172 = .ok (.iload_n 3, 1) := by decide +kernel
theorem dX5_digest_173 : decode cX5_digest 173 = .ok (.imul, 1) := by decide +kernel
theorem dX5_digest_174 : decode cX5_digest 174 = .ok (.iload 4, 2) := by decide +kernel
theorem dX5_digest_176 : decode cX5_digest 176 = .ok (.iadd, 1) := by decide +kernel
theorem dX5_digest_177 : decode cX5_digest 177 = .ok (.iaload, 1) := by decide +kernel
theorem dX5_digest_178 : decode cX5_digest 178 = .ok (.i2l, 1) := by decide +kernel
theorem dX5_digest_179 : decode cX5_digest 179 = .ok (.ladd, 1) := by decide +kernel
theorem dX5_digest_180 : decode cX5_digest 180 = .ok (.lstore_n 1, 1) := by decide +kernel
theorem dX5_digest_181 : decode cX5_digest 181 = .ok (.iinc 4 1, 3) := by decide +kernel
theorem dX5_digest_184 : decode cX5_digest 184 = .ok (.goto (-39), 3) := by decide +kernel
theorem dX5_digest_187 : decode cX5_digest 187 = .ok (.iinc 3 1, 3) := by decide +kernel
theorem dX5_digest_190 : decode cX5_digest 190 = .ok (.goto (-71), 3) := by decide +kernel
theorem dX5_digest_193 : decode cX5_digest 193 = .ok (.lload_n 1, 1) := by decide +kernel
theorem dX5_digest_194 : decode cX5_digest 194 = .ok (.lreturn, 1) := by decide +kernel
theorem dJ6_bitCount_0f7a4_0 : decode cJ6_bitCount_0f7a4 0 = .ok (.iload_n 0, 1) := by decide +kernel
theorem dJ6_bitCount_0f7a4_1 : decode cJ6_bitCount_0f7a4 1 = .ok (.iload_n 0, 1) := by decide +kernel
theorem dJ6_bitCount_0f7a4_2 : decode cJ6_bitCount_0f7a4 2 = .ok (.iconst 1, 1) := by decide +kernel
theorem dJ6_bitCount_0f7a4_3 : decode cJ6_bitCount_0f7a4 3 = .ok (.iushr, 1) := by decide +kernel
theorem dJ6_bitCount_0f7a4_4 : decode cJ6_bitCount_0f7a4 4 = .ok (.ldc_w 265, 3) := by decide +kernel
theorem dJ6_bitCount_0f7a4_7 : decode cJ6_bitCount_0f7a4 7 = .ok (.iand, 1) := by decide +kernel
theorem dJ6_bitCount_0f7a4_8 : decode cJ6_bitCount_0f7a4 8 = .ok (.isub, 1) := by decide +kernel
theorem dJ6_bitCount_0f7a4_9 : decode cJ6_bitCount_0f7a4 9 = .ok (.istore_n 0, 1) := by decide +kernel
theorem dJ6_bitCount_0f7a4_10 : decode cJ6_bitCount_0f7a4 10 = .ok (.iload_n 0, 1) := by decide +kernel
theorem dJ6_bitCount_0f7a4_11 : decode cJ6_bitCount_0f7a4 11 = .ok (.ldc_w 266, 3) := by decide +kernel
theorem dJ6_bitCount_0f7a4_14 : decode cJ6_bitCount_0f7a4 14 = .ok (.iand, 1) := by decide +kernel
theorem dJ6_bitCount_0f7a4_15 : decode cJ6_bitCount_0f7a4 15 = .ok (.iload_n 0, 1) := by decide +kernel
theorem dJ6_bitCount_0f7a4_16 : decode cJ6_bitCount_0f7a4 16 = .ok (.iconst 2, 1) := by decide +kernel
theorem dJ6_bitCount_0f7a4_17 : decode cJ6_bitCount_0f7a4 17 = .ok (.iushr, 1) := by decide +kernel
theorem dJ6_bitCount_0f7a4_18 : decode cJ6_bitCount_0f7a4 18 = .ok (.ldc_w 266, 3) := by decide +kernel
theorem dJ6_bitCount_0f7a4_21 : decode cJ6_bitCount_0f7a4 21 = .ok (.iand, 1) := by decide +kernel
theorem dJ6_bitCount_0f7a4_22 : decode cJ6_bitCount_0f7a4 22 = .ok (.iadd, 1) := by decide +kernel
theorem dJ6_bitCount_0f7a4_23 : decode cJ6_bitCount_0f7a4 23 = .ok (.istore_n 0, 1) := by decide +kernel
theorem dJ6_bitCount_0f7a4_24 : decode cJ6_bitCount_0f7a4 24 = .ok (.iload_n 0, 1) := by decide +kernel
theorem dJ6_bitCount_0f7a4_25 : decode cJ6_bitCount_0f7a4 25 = .ok (.iload_n 0, 1) := by decide +kernel
theorem dJ6_bitCount_0f7a4_26 : decode cJ6_bitCount_0f7a4 26 = .ok (.iconst 4, 1) := by decide +kernel
theorem dJ6_bitCount_0f7a4_27 : decode cJ6_bitCount_0f7a4 27 = .ok (.iushr, 1) := by decide +kernel
theorem dJ6_bitCount_0f7a4_28 : decode cJ6_bitCount_0f7a4 28 = .ok (.iadd, 1) := by decide +kernel
theorem dJ6_bitCount_0f7a4_29 : decode cJ6_bitCount_0f7a4 29 = .ok (.ldc_w 267, 3) := by decide +kernel
theorem dJ6_bitCount_0f7a4_32 : decode cJ6_bitCount_0f7a4 32 = .ok (.iand, 1) := by decide +kernel
theorem dJ6_bitCount_0f7a4_33 : decode cJ6_bitCount_0f7a4 33 = .ok (.istore_n 0, 1) := by decide +kernel
theorem dJ6_bitCount_0f7a4_34 : decode cJ6_bitCount_0f7a4 34 = .ok (.iload_n 0, 1) := by decide +kernel
theorem dJ6_bitCount_0f7a4_35 : decode cJ6_bitCount_0f7a4 35 = .ok (.iload_n 0, 1) := by decide +kernel
theorem dJ6_bitCount_0f7a4_36 : decode cJ6_bitCount_0f7a4 36 = .ok (.bipush 8, 2) := by decide +kernel
theorem dJ6_bitCount_0f7a4_38 : decode cJ6_bitCount_0f7a4 38 = .ok (.iushr, 1) := by decide +kernel
theorem dJ6_bitCount_0f7a4_39 : decode cJ6_bitCount_0f7a4 39 = .ok (.iadd, 1) := by decide +kernel
theorem dJ6_bitCount_0f7a4_40 : decode cJ6_bitCount_0f7a4 40 = .ok (.istore_n 0, 1) := by decide +kernel
theorem dJ6_bitCount_0f7a4_41 : decode cJ6_bitCount_0f7a4 41 = .ok (.iload_n 0, 1) := by decide +kernel
theorem dJ6_bitCount_0f7a4_42 : decode cJ6_bitCount_0f7a4 42 = .ok (.iload_n 0, 1) := by decide +kernel
theorem dJ6_bitCount_0f7a4_43 : decode cJ6_bitCount_0f7a4 43 = .ok (.bipush 16, 2) := by decide +kernel
theorem dJ6_bitCount_0f7a4_45 : decode cJ6_bitCount_0f7a4 45 = .ok (.iushr, 1) := by decide +kernel
theorem dJ6_bitCount_0f7a4_46 : decode cJ6_bitCount_0f7a4 46 = .ok (.iadd, 1) := by decide +kernel
theorem dJ6_bitCount_0f7a4_47 : decode cJ6_bitCount_0f7a4 47 = .ok (.istore_n 0, 1) := by decide +kernel
theorem dJ6_bitCount_0f7a4_48 : decode cJ6_bitCount_0f7a4 48 = .ok (.iload_n 0, 1) := by decide +kernel
theorem dJ6_bitCount_0f7a4_49 : decode cJ6_bitCount_0f7a4 49 = .ok (.bipush 63, 2) := by decide +kernel
theorem dJ6_bitCount_0f7a4_51 : decode cJ6_bitCount_0f7a4 51 = .ok (.iand, 1) := by decide +kernel
theorem dJ6_bitCount_0f7a4_52 : decode cJ6_bitCount_0f7a4 52 = .ok (.ireturn, 1) := by decide +kernel
theorem dJ9_floorDiv_7cf53_0 : decode cJ9_floorDiv_7cf53 0 = .ok (.iload_n 0, 1) := by decide +kernel
theorem dJ9_floorDiv_7cf53_1 : decode cJ9_floorDiv_7cf53 1 = .ok (.iload_n 1, 1) := by decide +kernel
theorem dJ9_floorDiv_7cf53_2 : decode cJ9_floorDiv_7cf53 2 = .ok (.idiv, 1) := by decide +kernel
theorem dJ9_floorDiv_7cf53_3 : decode cJ9_floorDiv_7cf53 3 = .ok (.istore_n 2, 1) := by decide +kernel
theorem dJ9_floorDiv_7cf53_4 : decode cJ9_floorDiv_7cf53 4 = .ok (.iload_n 0, 1) := by decide +kernel
theorem dJ9_floorDiv_7cf53_5 : decode cJ9_floorDiv_7cf53 5 = .ok (.iload_n 1, 1) := by decide +kernel
theorem dJ9_floorDiv_7cf53_6 : decode cJ9_floorDiv_7cf53 6 = .ok (.ixor, 1) := by decide +kernel
theorem dJ9_floorDiv_7cf53_7 : decode cJ9_floorDiv_7cf53 7 = .ok (.ifCond .ge 14, 3) := by decide +kernel
theorem dJ9_floorDiv_7cf53_10 : decode cJ9_floorDiv_7cf53 10 = .ok (.iload_n 2, 1) := by decide +kernel
theorem dJ9_floorDiv_7cf53_11 : decode cJ9_floorDiv_7cf53 11 = .ok (.iload_n 1, 1) := by decide +kernel
theorem dJ9_floorDiv_7cf53_12 : decode cJ9_floorDiv_7cf53 12 = .ok (.imul, 1) := by decide +kernel
theorem dJ9_floorDiv_7cf53_13 : decode cJ9_floorDiv_7cf53 13 = .ok (.iload_n 0, 1) := by decide +kernel
theorem dJ9_floorDiv_7cf53_14 : decode cJ9_floorDiv_7cf53 14 = .ok (.if_icmp .eq 7, 3) := by decide +kernel
theorem dJ9_floorDiv_7cf53_17 : decode cJ9_floorDiv_7cf53 17 = .ok (.iload_n 2, 1) := by decide +kernel
theorem dJ9_floorDiv_7cf53_18 : decode cJ9_floorDiv_7cf53 18 = .ok (.iconst 1, 1) := by decide +kernel
theorem dJ9_floorDiv_7cf53_19 : decode cJ9_floorDiv_7cf53 19 = .ok (.isub, 1) := by decide +kernel
theorem dJ9_floorDiv_7cf53_20 : decode cJ9_floorDiv_7cf53 20 = .ok (.ireturn, 1) := by decide +kernel
theorem dJ9_floorDiv_7cf53_21 : decode cJ9_floorDiv_7cf53 21 = .ok (.iload_n 2, 1) := by decide +kernel
theorem dJ9_floorDiv_7cf53_22 : decode cJ9_floorDiv_7cf53 22 = .ok (.ireturn, 1) := by decide +kernel
theorem dJ9_abs_0f7a4_0 : decode cJ9_abs_0f7a4 0 = .ok (.iload_n 0, 1) := by decide +kernel
theorem dJ9_abs_0f7a4_1 : decode cJ9_abs_0f7a4 1 = .ok (.ifCond .ge 8, 3) := by decide +kernel
theorem dJ9_abs_0f7a4_4 : decode cJ9_abs_0f7a4 4 = .ok (.iload_n 0, 1) := by decide +kernel
theorem dJ9_abs_0f7a4_5 : decode cJ9_abs_0f7a4 5 = .ok (.ineg, 1) := by decide +kernel
theorem dJ9_abs_0f7a4_6 : decode cJ9_abs_0f7a4 6 = .ok (.goto 4, 3) := by decide +kernel
theorem dJ9_abs_0f7a4_9 : decode cJ9_abs_0f7a4 9 = .ok (.iload_n 0, 1) := by decide +kernel
theorem dJ9_abs_0f7a4_10 : decode cJ9_abs_0f7a4 10 = .ok (.ireturn, 1) := by decide +kernel
theorem dJ9_abs_067f4_0 : decode cJ9_abs_067f4 0 = .ok (.lload_n 0, 1) := by decide +kernel
theorem dJ9_abs_067f4_1 : decode cJ9_abs_067f4 1 = .ok (.lconst 0, 1) := by decide +kernel
theorem dJ9_abs_067f4_2 : decode cJ9_abs_067f4 2 = .ok (.lcmp, 1) := by decide +kernel
theorem dJ9_abs_067f4_3 : decode cJ9_abs_067f4 3 = .ok (.ifCond .ge 8, 3) := by decide +kernel
theorem dJ9_abs_067f4_6 : decode cJ9_abs_067f4 6 = .ok (.lload_n 0, 1) := by decide +kernel
end
section
theorem dJ9_abs_067f4_7 : decode cJ9_abs_067f4 7 = .ok (.lneg, 1) := by decide +kernel
theorem dJ9_abs_067f4_8 : decode cJ9_abs_067f4 8 = .ok (.goto 4, 3) := by decide +kernel
theorem dJ9_abs_067f4_11 : decode cJ9_abs_067f4 11 = .ok (.lload_n 0, 1) := by decide +kernel
theorem dJ9_abs_067f4_12 : decode cJ9_abs_067f4 12 = .ok (.lreturn, 1) := by decide +kernel
theorem dJ9_max_7cf53_0 : decode cJ9_max_7cf53 0 = .ok (.iload_n 0, 1) := by decide +kernel
theorem dJ9_max_7cf53_1 : decode cJ9_max_7cf53 1 = .ok (.iload_n 1, 1) := by decide +kernel
theorem dJ9_max_7cf53_2 : decode cJ9_max_7cf53 2 = .ok (.if_icmp .lt 7, 3) := by decide +kernel
theorem dJ9_max_7cf53_5 : decode cJ9_max_7cf53 5 = .ok (.iload_n 0, 1) := by decide +kernel
theorem dJ9_max_7cf53_6 : decode cJ9_max_7cf53 6 = .ok (.goto 4, 3) := by decide +kernel
theorem dJ9_max_7cf53_9 : decode cJ9_max_7cf53 9 = .ok (.iload_n 1, 1) := by decide +kernel
theorem dJ9_max_7cf53_10 : decode cJ9_max_7cf53 10 = .ok (.ireturn, 1) := by decide +kernel
theorem dJ9_min_7cf53_0 : decode cJ9_min_7cf53 0 = .ok (.iload_n 0, 1) := by decide +kernel
theorem dJ9_min_7cf53_1 : decode cJ9_min_7cf53 1 = .ok (.iload_n 1, 1) := by decide +kernel
theorem dJ9_min_7cf53_2 : decode cJ9_min_7cf53 2 = .ok (.if_icmp .gt 7, 3) := by decide +kernel
theorem dJ9_min_7cf53_5 : decode cJ9_min_7cf53 5 = .ok (.iload_n 0, 1) := by decide +kernel
theorem dJ9_min_7cf53_6 : decode cJ9_min_7cf53 6 = .ok (.goto 4, 3) := by decide +kernel
theorem dJ9_min_7cf53_9 : decode cJ9_min_7cf53 9 = .ok (.iload_n 1, 1) := by decide +kernel
theorem dJ9_min_7cf53_10 : decode cJ9_min_7cf53 10 = .ok (.ireturn, 1) := by decide +kernel
end
section
theorem zz_last : True := trivial
end
