section
-- ===== PART A: goes FIRST, ahead of the names: the tables' words, and 'selects' of the private methods out of them =====
/-- a private method of a class that the tables say can be made, by its rows of tables_1 -/
def lw_okq (q : MethodName × Nat) : Prop := (q.1.cls ≠ "java/lang/invoke/MethodHandle" ∧ q.1.cls ≠ "java/lang/invoke/VarHandle") ∧ Cond.instantiable q.1.cls q.2 ∈ tables_1 ∧ Cond.privateMethod q.1 ∈ tables_1 ∧ Cond.instanceMethod q.1 ∈ tables_1
theorem lw_p0 : lw_okq (⟨"PianoJury", "clearAll", "()V"⟩, 16) := ⟨⟨by decide +kernel, by decide +kernel⟩, List.mem_of_getElem? (i := 7) (by decide +kernel), List.mem_of_getElem? (i := 18) (by decide +kernel), List.mem_of_getElem? (i := 19) (by decide +kernel)⟩
theorem lw_p1 : lw_okq (⟨"PianoJury", "isJuror", "(I)Z"⟩, 16) := ⟨⟨by decide +kernel, by decide +kernel⟩, List.mem_of_getElem? (i := 7) (by decide +kernel), List.mem_of_getElem? (i := 86) (by decide +kernel), List.mem_of_getElem? (i := 87) (by decide +kernel)⟩
theorem lw_p2 : lw_okq (⟨"PianoJury", "isPlayer", "(I)Z"⟩, 16) := ⟨⟨by decide +kernel, by decide +kernel⟩, List.mem_of_getElem? (i := 7) (by decide +kernel), List.mem_of_getElem? (i := 90) (by decide +kernel), List.mem_of_getElem? (i := 91) (by decide +kernel)⟩
theorem lw_p3 : lw_okq (⟨"PianoJury", "scoreOf", "(III)I"⟩, 16) := ⟨⟨by decide +kernel, by decide +kernel⟩, List.mem_of_getElem? (i := 7) (by decide +kernel), List.mem_of_getElem? (i := 122) (by decide +kernel), List.mem_of_getElem? (i := 123) (by decide +kernel)⟩
theorem lw_p4 : lw_okq (⟨"PianoJury", "sortMarks", "(II)I"⟩, 16) := ⟨⟨by decide +kernel, by decide +kernel⟩, List.mem_of_getElem? (i := 7) (by decide +kernel), List.mem_of_getElem? (i := 126) (by decide +kernel), List.mem_of_getElem? (i := 127) (by decide +kernel)⟩
theorem lw_p5 : lw_okq (⟨"PianoJury", "countedMark", "(III)I"⟩, 16) := ⟨⟨by decide +kernel, by decide +kernel⟩, List.mem_of_getElem? (i := 7) (by decide +kernel), List.mem_of_getElem? (i := 130) (by decide +kernel), List.mem_of_getElem? (i := 131) (by decide +kernel)⟩
theorem lw_p6 : lw_okq (⟨"PianoJury", "insertMark", "(II)V"⟩, 16) := ⟨⟨by decide +kernel, by decide +kernel⟩, List.mem_of_getElem? (i := 7) (by decide +kernel), List.mem_of_getElem? (i := 134) (by decide +kernel), List.mem_of_getElem? (i := 135) (by decide +kernel)⟩
theorem lw_p7 : lw_okq (⟨"PianoJury", "cutMean", "(I)I"⟩, 16) := ⟨⟨by decide +kernel, by decide +kernel⟩, List.mem_of_getElem? (i := 7) (by decide +kernel), List.mem_of_getElem? (i := 138) (by decide +kernel), List.mem_of_getElem? (i := 139) (by decide +kernel)⟩
theorem lw_p8 : lw_okq (⟨"PianoJury", "meanBetween", "(II)I"⟩, 16) := ⟨⟨by decide +kernel, by decide +kernel⟩, List.mem_of_getElem? (i := 7) (by decide +kernel), List.mem_of_getElem? (i := 142) (by decide +kernel), List.mem_of_getElem? (i := 143) (by decide +kernel)⟩
theorem lw_p9 : lw_okq (⟨"PianoJury", "sumBetween", "(II)I"⟩, 16) := ⟨⟨by decide +kernel, by decide +kernel⟩, List.mem_of_getElem? (i := 7) (by decide +kernel), List.mem_of_getElem? (i := 147) (by decide +kernel), List.mem_of_getElem? (i := 148) (by decide +kernel)⟩
theorem lw_p10 : lw_okq (⟨"PianoJury", "countYeses", "(II)I"⟩, 16) := ⟨⟨by decide +kernel, by decide +kernel⟩, List.mem_of_getElem? (i := 7) (by decide +kernel), List.mem_of_getElem? (i := 152) (by decide +kernel), List.mem_of_getElem? (i := 153) (by decide +kernel)⟩
theorem lw_p11 : lw_okq (⟨"PianoJury", "pairScore", "(II)I"⟩, 16) := ⟨⟨by decide +kernel, by decide +kernel⟩, List.mem_of_getElem? (i := 7) (by decide +kernel), List.mem_of_getElem? (i := 156) (by decide +kernel), List.mem_of_getElem? (i := 157) (by decide +kernel)⟩
theorem lw_p12 : lw_okq (⟨"PianoJury", "isMarked", "(II)Z"⟩, 16) := ⟨⟨by decide +kernel, by decide +kernel⟩, List.mem_of_getElem? (i := 7) (by decide +kernel), List.mem_of_getElem? (i := 160) (by decide +kernel), List.mem_of_getElem? (i := 161) (by decide +kernel)⟩
theorem lw_p13 : lw_okq (⟨"PianoJury", "duel", "(III)I"⟩, 16) := ⟨⟨by decide +kernel, by decide +kernel⟩, List.mem_of_getElem? (i := 7) (by decide +kernel), List.mem_of_getElem? (i := 164) (by decide +kernel), List.mem_of_getElem? (i := 165) (by decide +kernel)⟩
theorem lw_p14 : lw_okq (⟨"PianoJury", "pulledMean", "(I)I"⟩, 16) := ⟨⟨by decide +kernel, by decide +kernel⟩, List.mem_of_getElem? (i := 7) (by decide +kernel), List.mem_of_getElem? (i := 171) (by decide +kernel), List.mem_of_getElem? (i := 172) (by decide +kernel)⟩
theorem lw_p15 : lw_okq (⟨"PianoJury", "fillScores", "(II)V"⟩, 16) := ⟨⟨by decide +kernel, by decide +kernel⟩, List.mem_of_getElem? (i := 7) (by decide +kernel), List.mem_of_getElem? (i := 189) (by decide +kernel), List.mem_of_getElem? (i := 190) (by decide +kernel)⟩
def lw_privs_1 : List (MethodName × Nat) := [(⟨"PianoJury", "clearAll", "()V"⟩, 16), (⟨"PianoJury", "isJuror", "(I)Z"⟩, 16), (⟨"PianoJury", "isPlayer", "(I)Z"⟩, 16), (⟨"PianoJury", "scoreOf", "(III)I"⟩, 16), (⟨"PianoJury", "sortMarks", "(II)I"⟩, 16), (⟨"PianoJury", "countedMark", "(III)I"⟩, 16), (⟨"PianoJury", "insertMark", "(II)V"⟩, 16), (⟨"PianoJury", "cutMean", "(I)I"⟩, 16), (⟨"PianoJury", "meanBetween", "(II)I"⟩, 16), (⟨"PianoJury", "sumBetween", "(II)I"⟩, 16), (⟨"PianoJury", "countYeses", "(II)I"⟩, 16), (⟨"PianoJury", "pairScore", "(II)I"⟩, 16), (⟨"PianoJury", "isMarked", "(II)Z"⟩, 16), (⟨"PianoJury", "duel", "(III)I"⟩, 16), (⟨"PianoJury", "pulledMean", "(I)I"⟩, 16), (⟨"PianoJury", "fillScores", "(II)V"⟩, 16)]
theorem lw_r1 : ∀ q ∈ lw_privs_1, lw_okq q := List.forall_mem_cons.mpr ⟨lw_p0, List.forall_mem_cons.mpr ⟨lw_p1, List.forall_mem_cons.mpr ⟨lw_p2, List.forall_mem_cons.mpr ⟨lw_p3, List.forall_mem_cons.mpr ⟨lw_p4, List.forall_mem_cons.mpr ⟨lw_p5, List.forall_mem_cons.mpr ⟨lw_p6, List.forall_mem_cons.mpr ⟨lw_p7, List.forall_mem_cons.mpr ⟨lw_p8, List.forall_mem_cons.mpr ⟨lw_p9, List.forall_mem_cons.mpr ⟨lw_p10, List.forall_mem_cons.mpr ⟨lw_p11, List.forall_mem_cons.mpr ⟨lw_p12, List.forall_mem_cons.mpr ⟨lw_p13, List.forall_mem_cons.mpr ⟨lw_p14, List.forall_mem_cons.mpr ⟨lw_p15, fun _ h => absurd h List.not_mem_nil⟩⟩⟩⟩⟩⟩⟩⟩⟩⟩⟩⟩⟩⟩⟩⟩
theorem lw_p16 : lw_okq (⟨"PianoJury", "placeIn", "([II)I"⟩, 16) := ⟨⟨by decide +kernel, by decide +kernel⟩, List.mem_of_getElem? (i := 7) (by decide +kernel), List.mem_of_getElem? (i := 193) (by decide +kernel), List.mem_of_getElem? (i := 194) (by decide +kernel)⟩
theorem lw_p17 : lw_okq (⟨"PianoJury", "passedBits", "(III)I"⟩, 16) := ⟨⟨by decide +kernel, by decide +kernel⟩, List.mem_of_getElem? (i := 7) (by decide +kernel), List.mem_of_getElem? (i := 204) (by decide +kernel), List.mem_of_getElem? (i := 205) (by decide +kernel)⟩
theorem lw_p18 : lw_okq (⟨"PianoJury", "passesIn", "([III)Z"⟩, 16) := ⟨⟨by decide +kernel, by decide +kernel⟩, List.mem_of_getElem? (i := 7) (by decide +kernel), List.mem_of_getElem? (i := 208) (by decide +kernel), List.mem_of_getElem? (i := 209) (by decide +kernel)⟩
theorem lw_p19 : lw_okq (⟨"PianoJury", "isPupil", "(II)Z"⟩, 16) := ⟨⟨by decide +kernel, by decide +kernel⟩, List.mem_of_getElem? (i := 7) (by decide +kernel), List.mem_of_getElem? (i := 226) (by decide +kernel), List.mem_of_getElem? (i := 227) (by decide +kernel)⟩
theorem lw_p20 : lw_okq (⟨"PianoJury", "fillScoresIf", "(IIIIZ)V"⟩, 16) := ⟨⟨by decide +kernel, by decide +kernel⟩, List.mem_of_getElem? (i := 7) (by decide +kernel), List.mem_of_getElem? (i := 230) (by decide +kernel), List.mem_of_getElem? (i := 231) (by decide +kernel)⟩
theorem lw_p21 : lw_okq (⟨"PianoJury", "totalOf", "(I)I"⟩, 16) := ⟨⟨by decide +kernel, by decide +kernel⟩, List.mem_of_getElem? (i := 7) (by decide +kernel), List.mem_of_getElem? (i := 246) (by decide +kernel), List.mem_of_getElem? (i := 247) (by decide +kernel)⟩
theorem lw_p22 : lw_okq (⟨"PianoJury", "fillTotals", "()V"⟩, 16) := ⟨⟨by decide +kernel, by decide +kernel⟩, List.mem_of_getElem? (i := 7) (by decide +kernel), List.mem_of_getElem? (i := 254) (by decide +kernel), List.mem_of_getElem? (i := 255) (by decide +kernel)⟩
theorem lw_p23 : lw_okq (⟨"PianoJury", "shareOf", "(I)I"⟩, 16) := ⟨⟨by decide +kernel, by decide +kernel⟩, List.mem_of_getElem? (i := 7) (by decide +kernel), List.mem_of_getElem? (i := 267) (by decide +kernel), List.mem_of_getElem? (i := 268) (by decide +kernel)⟩
theorem lw_p24 : lw_okq (⟨"PianoJury", "fillFitting", "(II)V"⟩, 16) := ⟨⟨by decide +kernel, by decide +kernel⟩, List.mem_of_getElem? (i := 7) (by decide +kernel), List.mem_of_getElem? (i := 296) (by decide +kernel), List.mem_of_getElem? (i := 297) (by decide +kernel)⟩
theorem lw_p25 : lw_okq (⟨"PianoJury", "minutesOf", "(I)I"⟩, 16) := ⟨⟨by decide +kernel, by decide +kernel⟩, List.mem_of_getElem? (i := 7) (by decide +kernel), List.mem_of_getElem? (i := 300) (by decide +kernel), List.mem_of_getElem? (i := 301) (by decide +kernel)⟩
theorem lw_p26 : lw_okq (⟨"PianoJury", "choosesFrom", "(IIII)Z"⟩, 16) := ⟨⟨by decide +kernel, by decide +kernel⟩, List.mem_of_getElem? (i := 7) (by decide +kernel), List.mem_of_getElem? (i := 304) (by decide +kernel), List.mem_of_getElem? (i := 305) (by decide +kernel)⟩
theorem lw_p27 : lw_okq (⟨"PianoJury", "countMarks", "()I"⟩, 16) := ⟨⟨by decide +kernel, by decide +kernel⟩, List.mem_of_getElem? (i := 7) (by decide +kernel), List.mem_of_getElem? (i := 330) (by decide +kernel), List.mem_of_getElem? (i := 331) (by decide +kernel)⟩
theorem lw_p28 : lw_okq (⟨"PianoJury", "mixedRound", "(JI)J"⟩, 16) := ⟨⟨by decide +kernel, by decide +kernel⟩, List.mem_of_getElem? (i := 7) (by decide +kernel), List.mem_of_getElem? (i := 343) (by decide +kernel), List.mem_of_getElem? (i := 344) (by decide +kernel)⟩
theorem lw_p29 : lw_okq (⟨"PianoJuryModel", "begin", "()V"⟩, 23) := ⟨⟨by decide +kernel, by decide +kernel⟩, List.mem_of_getElem? (i := 350) (by decide +kernel), List.mem_of_getElem? (i := 356) (by decide +kernel), List.mem_of_getElem? (i := 357) (by decide +kernel)⟩
theorem lw_p30 : lw_okq (⟨"PianoJuryModel", "isJuror", "(I)Z"⟩, 23) := ⟨⟨by decide +kernel, by decide +kernel⟩, List.mem_of_getElem? (i := 350) (by decide +kernel), List.mem_of_getElem? (i := 445) (by decide +kernel), List.mem_of_getElem? (i := 446) (by decide +kernel)⟩
theorem lw_p31 : lw_okq (⟨"PianoJuryModel", "isPlayer", "(I)Z"⟩, 23) := ⟨⟨by decide +kernel, by decide +kernel⟩, List.mem_of_getElem? (i := 350) (by decide +kernel), List.mem_of_getElem? (i := 449) (by decide +kernel), List.mem_of_getElem? (i := 450) (by decide +kernel)⟩
def lw_privs_2 : List (MethodName × Nat) := [(⟨"PianoJury", "placeIn", "([II)I"⟩, 16), (⟨"PianoJury", "passedBits", "(III)I"⟩, 16), (⟨"PianoJury", "passesIn", "([III)Z"⟩, 16), (⟨"PianoJury", "isPupil", "(II)Z"⟩, 16), (⟨"PianoJury", "fillScoresIf", "(IIIIZ)V"⟩, 16), (⟨"PianoJury", "totalOf", "(I)I"⟩, 16), (⟨"PianoJury", "fillTotals", "()V"⟩, 16), (⟨"PianoJury", "shareOf", "(I)I"⟩, 16), (⟨"PianoJury", "fillFitting", "(II)V"⟩, 16), (⟨"PianoJury", "minutesOf", "(I)I"⟩, 16), (⟨"PianoJury", "choosesFrom", "(IIII)Z"⟩, 16), (⟨"PianoJury", "countMarks", "()I"⟩, 16), (⟨"PianoJury", "mixedRound", "(JI)J"⟩, 16), (⟨"PianoJuryModel", "begin", "()V"⟩, 23), (⟨"PianoJuryModel", "isJuror", "(I)Z"⟩, 23), (⟨"PianoJuryModel", "isPlayer", "(I)Z"⟩, 23)]
theorem lw_r2 : ∀ q ∈ lw_privs_2, lw_okq q := List.forall_mem_cons.mpr ⟨lw_p16, List.forall_mem_cons.mpr ⟨lw_p17, List.forall_mem_cons.mpr ⟨lw_p18, List.forall_mem_cons.mpr ⟨lw_p19, List.forall_mem_cons.mpr ⟨lw_p20, List.forall_mem_cons.mpr ⟨lw_p21, List.forall_mem_cons.mpr ⟨lw_p22, List.forall_mem_cons.mpr ⟨lw_p23, List.forall_mem_cons.mpr ⟨lw_p24, List.forall_mem_cons.mpr ⟨lw_p25, List.forall_mem_cons.mpr ⟨lw_p26, List.forall_mem_cons.mpr ⟨lw_p27, List.forall_mem_cons.mpr ⟨lw_p28, List.forall_mem_cons.mpr ⟨lw_p29, List.forall_mem_cons.mpr ⟨lw_p30, List.forall_mem_cons.mpr ⟨lw_p31, fun _ h => absurd h List.not_mem_nil⟩⟩⟩⟩⟩⟩⟩⟩⟩⟩⟩⟩⟩⟩⟩⟩
theorem lw_p32 : lw_okq (⟨"PianoJuryModel", "scoreOf", "(III)I"⟩, 23) := ⟨⟨by decide +kernel, by decide +kernel⟩, List.mem_of_getElem? (i := 350) (by decide +kernel), List.mem_of_getElem? (i := 469) (by decide +kernel), List.mem_of_getElem? (i := 470) (by decide +kernel)⟩
theorem lw_p33 : lw_okq (⟨"PianoJuryModel", "gather", "(II)V"⟩, 23) := ⟨⟨by decide +kernel, by decide +kernel⟩, List.mem_of_getElem? (i := 350) (by decide +kernel), List.mem_of_getElem? (i := 473) (by decide +kernel), List.mem_of_getElem? (i := 474) (by decide +kernel)⟩
theorem lw_p34 : lw_okq (⟨"PianoJuryModel", "counts", "(III)Z"⟩, 23) := ⟨⟨by decide +kernel, by decide +kernel⟩, List.mem_of_getElem? (i := 350) (by decide +kernel), List.mem_of_getElem? (i := 477) (by decide +kernel), List.mem_of_getElem? (i := 478) (by decide +kernel)⟩
theorem lw_p35 : lw_okq (⟨"PianoJuryModel", "cutOf", "()I"⟩, 23) := ⟨⟨by decide +kernel, by decide +kernel⟩, List.mem_of_getElem? (i := 350) (by decide +kernel), List.mem_of_getElem? (i := 482) (by decide +kernel), List.mem_of_getElem? (i := 483) (by decide +kernel)⟩
theorem lw_p36 : lw_okq (⟨"PianoJuryModel", "yesOf", "(II)I"⟩, 23) := ⟨⟨by decide +kernel, by decide +kernel⟩, List.mem_of_getElem? (i := 350) (by decide +kernel), List.mem_of_getElem? (i := 487) (by decide +kernel), List.mem_of_getElem? (i := 488) (by decide +kernel)⟩
theorem lw_p37 : lw_okq (⟨"PianoJuryModel", "pairsOf", "(II)I"⟩, 23) := ⟨⟨by decide +kernel, by decide +kernel⟩, List.mem_of_getElem? (i := 350) (by decide +kernel), List.mem_of_getElem? (i := 491) (by decide +kernel), List.mem_of_getElem? (i := 492) (by decide +kernel)⟩
theorem lw_p38 : lw_okq (⟨"PianoJuryModel", "hasMark", "(II)Z"⟩, 23) := ⟨⟨by decide +kernel, by decide +kernel⟩, List.mem_of_getElem? (i := 350) (by decide +kernel), List.mem_of_getElem? (i := 495) (by decide +kernel), List.mem_of_getElem? (i := 496) (by decide +kernel)⟩
theorem lw_p39 : lw_okq (⟨"PianoJuryModel", "beatsOf", "(III)I"⟩, 23) := ⟨⟨by decide +kernel, by decide +kernel⟩, List.mem_of_getElem? (i := 350) (by decide +kernel), List.mem_of_getElem? (i := 499) (by decide +kernel), List.mem_of_getElem? (i := 500) (by decide +kernel)⟩
theorem lw_p40 : lw_okq (⟨"PianoJuryModel", "pulledOf", "()I"⟩, 23) := ⟨⟨by decide +kernel, by decide +kernel⟩, List.mem_of_getElem? (i := 350) (by decide +kernel), List.mem_of_getElem? (i := 503) (by decide +kernel), List.mem_of_getElem? (i := 504) (by decide +kernel)⟩
theorem lw_p41 : lw_okq (⟨"PianoJuryModel", "placeOf", "(III)I"⟩, 23) := ⟨⟨by decide +kernel, by decide +kernel⟩, List.mem_of_getElem? (i := 350) (by decide +kernel), List.mem_of_getElem? (i := 515) (by decide +kernel), List.mem_of_getElem? (i := 516) (by decide +kernel)⟩
theorem lw_p42 : lw_okq (⟨"PianoJuryModel", "passedOf", "(III)I"⟩, 23) := ⟨⟨by decide +kernel, by decide +kernel⟩, List.mem_of_getElem? (i := 350) (by decide +kernel), List.mem_of_getElem? (i := 523) (by decide +kernel), List.mem_of_getElem? (i := 524) (by decide +kernel)⟩
theorem lw_p43 : lw_okq (⟨"PianoJuryModel", "passes", "(IIII)Z"⟩, 23) := ⟨⟨by decide +kernel, by decide +kernel⟩, List.mem_of_getElem? (i := 350) (by decide +kernel), List.mem_of_getElem? (i := 527) (by decide +kernel), List.mem_of_getElem? (i := 528) (by decide +kernel)⟩
theorem lw_p44 : lw_okq (⟨"PianoJuryModel", "seek", "(IIIII)V"⟩, 23) := ⟨⟨by decide +kernel, by decide +kernel⟩, List.mem_of_getElem? (i := 350) (by decide +kernel), List.mem_of_getElem? (i := 539) (by decide +kernel), List.mem_of_getElem? (i := 540) (by decide +kernel)⟩
theorem lw_p45 : lw_okq (⟨"PianoJuryModel", "note", "(IIII)V"⟩, 23) := ⟨⟨by decide +kernel, by decide +kernel⟩, List.mem_of_getElem? (i := 350) (by decide +kernel), List.mem_of_getElem? (i := 543) (by decide +kernel), List.mem_of_getElem? (i := 544) (by decide +kernel)⟩
theorem lw_p46 : lw_okq (⟨"PianoJuryModel", "totalOf", "(I)I"⟩, 23) := ⟨⟨by decide +kernel, by decide +kernel⟩, List.mem_of_getElem? (i := 350) (by decide +kernel), List.mem_of_getElem? (i := 559) (by decide +kernel), List.mem_of_getElem? (i := 560) (by decide +kernel)⟩
theorem lw_p47 : lw_okq (⟨"PianoJuryModel", "lastOf", "(I)I"⟩, 23) := ⟨⟨by decide +kernel, by decide +kernel⟩, List.mem_of_getElem? (i := 350) (by decide +kernel), List.mem_of_getElem? (i := 567) (by decide +kernel), List.mem_of_getElem? (i := 568) (by decide +kernel)⟩
def lw_privs_3 : List (MethodName × Nat) := [(⟨"PianoJuryModel", "scoreOf", "(III)I"⟩, 23), (⟨"PianoJuryModel", "gather", "(II)V"⟩, 23), (⟨"PianoJuryModel", "counts", "(III)Z"⟩, 23), (⟨"PianoJuryModel", "cutOf", "()I"⟩, 23), (⟨"PianoJuryModel", "yesOf", "(II)I"⟩, 23), (⟨"PianoJuryModel", "pairsOf", "(II)I"⟩, 23), (⟨"PianoJuryModel", "hasMark", "(II)Z"⟩, 23), (⟨"PianoJuryModel", "beatsOf", "(III)I"⟩, 23), (⟨"PianoJuryModel", "pulledOf", "()I"⟩, 23), (⟨"PianoJuryModel", "placeOf", "(III)I"⟩, 23), (⟨"PianoJuryModel", "passedOf", "(III)I"⟩, 23), (⟨"PianoJuryModel", "passes", "(IIII)Z"⟩, 23), (⟨"PianoJuryModel", "seek", "(IIIII)V"⟩, 23), (⟨"PianoJuryModel", "note", "(IIII)V"⟩, 23), (⟨"PianoJuryModel", "totalOf", "(I)I"⟩, 23), (⟨"PianoJuryModel", "lastOf", "(I)I"⟩, 23)]
theorem lw_r3 : ∀ q ∈ lw_privs_3, lw_okq q := List.forall_mem_cons.mpr ⟨lw_p32, List.forall_mem_cons.mpr ⟨lw_p33, List.forall_mem_cons.mpr ⟨lw_p34, List.forall_mem_cons.mpr ⟨lw_p35, List.forall_mem_cons.mpr ⟨lw_p36, List.forall_mem_cons.mpr ⟨lw_p37, List.forall_mem_cons.mpr ⟨lw_p38, List.forall_mem_cons.mpr ⟨lw_p39, List.forall_mem_cons.mpr ⟨lw_p40, List.forall_mem_cons.mpr ⟨lw_p41, List.forall_mem_cons.mpr ⟨lw_p42, List.forall_mem_cons.mpr ⟨lw_p43, List.forall_mem_cons.mpr ⟨lw_p44, List.forall_mem_cons.mpr ⟨lw_p45, List.forall_mem_cons.mpr ⟨lw_p46, List.forall_mem_cons.mpr ⟨lw_p47, fun _ h => absurd h List.not_mem_nil⟩⟩⟩⟩⟩⟩⟩⟩⟩⟩⟩⟩⟩⟩⟩⟩
theorem lw_p48 : lw_okq (⟨"PianoJuryModel", "winsOf", "(I)I"⟩, 23) := ⟨⟨by decide +kernel, by decide +kernel⟩, List.mem_of_getElem? (i := 350) (by decide +kernel), List.mem_of_getElem? (i := 580) (by decide +kernel), List.mem_of_getElem? (i := 581) (by decide +kernel)⟩
theorem lw_p49 : lw_okq (⟨"PianoJuryModel", "hear", "(II)V"⟩, 23) := ⟨⟨by decide +kernel, by decide +kernel⟩, List.mem_of_getElem? (i := 350) (by decide +kernel), List.mem_of_getElem? (i := 600) (by decide +kernel), List.mem_of_getElem? (i := 601) (by decide +kernel)⟩
theorem lw_p50 : lw_okq (⟨"PianoJuryModel", "mayBe", "(IIII)Z"⟩, 23) := ⟨⟨by decide +kernel, by decide +kernel⟩, List.mem_of_getElem? (i := 350) (by decide +kernel), List.mem_of_getElem? (i := 604) (by decide +kernel), List.mem_of_getElem? (i := 605) (by decide +kernel)⟩
theorem lw_p51 : lw_okq (⟨"PianoJuryModel", "chosenOf", "(I)I"⟩, 23) := ⟨⟨by decide +kernel, by decide +kernel⟩, List.mem_of_getElem? (i := 350) (by decide +kernel), List.mem_of_getElem? (i := 612) (by decide +kernel), List.mem_of_getElem? (i := 613) (by decide +kernel)⟩
theorem lw_p52 : lw_okq (⟨"PianoJuryModel", "mix", "(J)V"⟩, 23) := ⟨⟨by decide +kernel, by decide +kernel⟩, List.mem_of_getElem? (i := 350) (by decide +kernel), List.mem_of_getElem? (i := 633) (by decide +kernel), List.mem_of_getElem? (i := 634) (by decide +kernel)⟩
def lw_privs_4 : List (MethodName × Nat) := [(⟨"PianoJuryModel", "winsOf", "(I)I"⟩, 23), (⟨"PianoJuryModel", "hear", "(II)V"⟩, 23), (⟨"PianoJuryModel", "mayBe", "(IIII)Z"⟩, 23), (⟨"PianoJuryModel", "chosenOf", "(I)I"⟩, 23), (⟨"PianoJuryModel", "mix", "(J)V"⟩, 23)]
theorem lw_r4 : ∀ q ∈ lw_privs_4, lw_okq q := List.forall_mem_cons.mpr ⟨lw_p48, List.forall_mem_cons.mpr ⟨lw_p49, List.forall_mem_cons.mpr ⟨lw_p50, List.forall_mem_cons.mpr ⟨lw_p51, List.forall_mem_cons.mpr ⟨lw_p52, fun _ h => absurd h List.not_mem_nil⟩⟩⟩⟩⟩
def lw_privs : List (MethodName × Nat) := lw_privs_1 ++ (lw_privs_2 ++ (lw_privs_3 ++ (lw_privs_4)))
def lw_tbl : List Cond := k2_sels lw_privs ++ tables_1
theorem lw_privs_ok : ∀ q ∈ lw_privs, lw_okq q := by
  show ∀ q ∈ lw_privs_1 ++ (lw_privs_2 ++ (lw_privs_3 ++ (lw_privs_4))), lw_okq q
  exact List.forall_mem_append.mpr ⟨lw_r1, List.forall_mem_append.mpr ⟨lw_r2, List.forall_mem_append.mpr ⟨lw_r3, lw_r4⟩⟩⟩
-- ===== end of PART A; then your names; then what follows =====
end
section
/-! ===== BEGIN words of one list among another's, by their places ===== -/
theorem goodIn_r {big : List Cond} (ws : List Cond) (ps : List Nat) (hp : ws = ps.filterMap (fun i => big[i]?)) (h : ws.all goodWord = true) : GoodIn big ws := by
  intro w hw
  have h1 := List.all_eq_true.mp h w hw
  rw [hp] at hw
  obtain ⟨i, -, hi⟩ := List.mem_filterMap.mp hw
  have hm : w ∈ big := by first | exact List.mem_of_getElem? hi | exact List.getElem?_mem hi
  exact ⟨hm, good_of_word h1⟩
theorem goodIn_app {big a b : List Cond} (ha : GoodIn big a) (hb : GoodIn big b) : GoodIn big (a ++ b) := fun w h => (List.mem_append.mp h).elim (ha w) (hb w)
theorem goodIn_ca {big a b : List Cond} {c : Cond} (ha : GoodIn big (c :: a)) (hb : GoodIn big b) : GoodIn big (c :: (a ++ b)) := fun w h => (List.mem_cons.mp h).elim (fun e => ha w (List.mem_cons.mpr (Or.inl e))) (fun h => (List.mem_append.mp h).elim (fun h => ha w (List.mem_cons.mpr (Or.inr h))) (hb w))
theorem goodIn_sub {big ws : List Cond} (hm : ∀ w ∈ ws, w ∈ big) (h : ws.all goodWord = true) : GoodIn big ws := fun w hw => ⟨hm w hw, good_of_word (List.all_eq_true.mp h w hw)⟩
/-! ===== END ===== -/

/-! ===== BEGIN printed: names, fields, word lists, decode rows ===== -/
def RX0 : String := "PianoJury"
def TX0 : u_T := fun k => match k with
  | 0 => ("PianoJury", "players", "I", false)
  | 1 => ("PianoJury", "jurors", "I", false)
  | 2 => ("PianoJury", "marks", "[I", true)
  | 3 => ("PianoJury", "yeses", "[I", true)
  | 4 => ("PianoJury", "pupils", "[I", true)
  | 5 => ("PianoJury", "rules", "[I", true)
  | 6 => ("PianoJury", "weights", "[I", true)
  | 7 => ("PianoJury", "prizes", "[I", true)
  | 8 => ("PianoJury", "minutes", "[I", true)
  | 9 => ("PianoJury", "programmes", "[I", true)
  | 10 => ("PianoJury", "programmeCounts", "[I", true)
  | 11 => ("PianoJury", "choices", "[I", true)
  | 12 => ("PianoJury", "sorted", "[I", true)
  | 13 => ("PianoJury", "scores", "[I", true)
  | 14 => ("PianoJury", "totals", "[I", true)
  | _ => ("PianoJury", "fitting", "[I", true)
def tyX0 : Nat → FieldType := fun k => match k with
  | 0 => .int
  | 1 => .int
  | 2 => .array .int
  | 3 => .array .int
  | 4 => .array .int
  | 5 => .array .int
  | 6 => .array .int
  | 7 => .array .int
  | 8 => .array .int
  | 9 => .array .int
  | 10 => .array .int
  | 11 => .array .int
  | 12 => .array .int
  | 13 => .array .int
  | 14 => .array .int
  | _ => .array .int
abbrev wsX00 : List Cond := u_ws RX0 TX0 16
theorem nmX0 : ∀ a, a < 16 → ∀ b, b < 16 → a ≠ b → (TX0 a).2.1 ≠ (TX0 b).2.1 := by decide +kernel
theorem tyX0_ok : ∀ k, k < 16 → parseFieldDescriptor (TX0 k).2.2.1 = some (tyX0 k) := by decide +kernel
abbrev cX0_init : ByteArray := prog_1_method_1_code
def yX0_init : MethodName := ⟨RX0, "<init>", "()V"⟩
abbrev cX0_contest : ByteArray := prog_1_method_2_code
def yX0_contest : MethodName := ⟨RX0, "contest", "(II)I"⟩
abbrev cX0_mark : ByteArray := prog_1_method_3_code
def yX0_mark : MethodName := ⟨RX0, "mark", "(IIII)I"⟩
abbrev cX0_yes : ByteArray := prog_1_method_4_code
def yX0_yes : MethodName := ⟨RX0, "yes", "(IIIZ)I"⟩
abbrev cX0_pupil : ByteArray := prog_1_method_5_code
def yX0_pupil : MethodName := ⟨RX0, "pupil", "(IIZ)I"⟩
abbrev cX0_rule : ByteArray := prog_1_method_6_code
def yX0_rule : MethodName := ⟨RX0, "rule", "(II)I"⟩
abbrev cX0_score : ByteArray := prog_1_method_7_code
def yX0_score : MethodName := ⟨RX0, "score", "(III)I"⟩
abbrev cX0_beats : ByteArray := prog_1_method_8_code
def yX0_beats : MethodName := ⟨RX0, "beats", "(III)I"⟩
abbrev cX0_place : ByteArray := prog_1_method_9_code
def yX0_place : MethodName := ⟨RX0, "place", "(III)I"⟩
abbrev cX0_passed : ByteArray := prog_1_method_10_code
def yX0_passed : MethodName := ⟨RX0, "passed", "(III)I"⟩
abbrev cX0_differ : ByteArray := prog_1_method_11_code
def yX0_differ : MethodName := ⟨RX0, "differ", "(IIII)I"⟩
abbrev cX0_reach : ByteArray := prog_1_method_12_code
def yX0_reach : MethodName := ⟨RX0, "reach", "(IIIII)I"⟩
abbrev cX0_sway : ByteArray := prog_1_method_13_code
def yX0_sway : MethodName := ⟨RX0, "sway", "(IIII)I"⟩
abbrev cX0_weight : ByteArray := prog_1_method_14_code
def yX0_weight : MethodName := ⟨RX0, "weight", "(II)I"⟩
abbrev cX0_total : ByteArray := prog_1_method_15_code
def yX0_total : MethodName := ⟨RX0, "total", "(I)I"⟩
abbrev cX0_last : ByteArray := prog_1_method_16_code
def yX0_last : MethodName := ⟨RX0, "last", "(I)I"⟩
abbrev cX0_prize : ByteArray := prog_1_method_17_code
def yX0_prize : MethodName := ⟨RX0, "prize", "(II)I"⟩
abbrev cX0_wins : ByteArray := prog_1_method_18_code
def yX0_wins : MethodName := ⟨RX0, "wins", "(I)I"⟩
abbrev cX0_rest : ByteArray := prog_1_method_19_code
def yX0_rest : MethodName := ⟨RX0, "rest", "()I"⟩
abbrev cX0_work : ByteArray := prog_1_method_20_code
def yX0_work : MethodName := ⟨RX0, "work", "(II)I"⟩
abbrev cX0_programme : ByteArray := prog_1_method_21_code
def yX0_programme : MethodName := ⟨RX0, "programme", "(II)I"⟩
abbrev cX0_plan : ByteArray := prog_1_method_22_code
def yX0_plan : MethodName := ⟨RX0, "plan", "(III)I"⟩
abbrev cX0_chosen : ByteArray := prog_1_method_23_code
def yX0_chosen : MethodName := ⟨RX0, "chosen", "(I)I"⟩
abbrev cX0_heard : ByteArray := prog_1_method_24_code
def yX0_heard : MethodName := ⟨RX0, "heard", "(I)I"⟩
abbrev cX0_drawn : ByteArray := prog_1_method_25_code
def yX0_drawn : MethodName := ⟨RX0, "drawn", "(II)I"⟩
abbrev cX0_count : ByteArray := prog_1_method_26_code
def yX0_count : MethodName := ⟨RX0, "count", "(I)I"⟩
abbrev cX0_digest : ByteArray := prog_1_method_27_code
def yX0_digest : MethodName := ⟨RX0, "digest", "()J"⟩
abbrev cX0_isWithin : ByteArray := prog_1_method_28_code
def yX0_isWithin : MethodName := ⟨RX0, "isWithin", "(III)Z"⟩
abbrev cX0_isRound : ByteArray := prog_1_method_29_code
def yX0_isRound : MethodName := ⟨RX0, "isRound", "(I)Z"⟩
abbrev cX0_isJuror : ByteArray := prog_1_method_30_code
def yX0_isJuror : MethodName := ⟨RX0, "isJuror", "(I)Z"⟩
abbrev cX0_isPlayer : ByteArray := prog_1_method_31_code
def yX0_isPlayer : MethodName := ⟨RX0, "isPlayer", "(I)Z"⟩
abbrev cX0_isWay : ByteArray := prog_1_method_32_code
def yX0_isWay : MethodName := ⟨RX0, "isWay", "(I)Z"⟩
abbrev cX0_isLimit : ByteArray := prog_1_method_33_code
def yX0_isLimit : MethodName := ⟨RX0, "isLimit", "(I)Z"⟩
abbrev cX0_isWork : ByteArray := prog_1_method_34_code
def yX0_isWork : MethodName := ⟨RX0, "isWork", "(I)Z"⟩
abbrev cX0_cellOf : ByteArray := prog_1_method_35_code
def yX0_cellOf : MethodName := ⟨RX0, "cellOf", "(III)I"⟩
abbrev cX0_pupilCellOf : ByteArray := prog_1_method_36_code
def yX0_pupilCellOf : MethodName := ⟨RX0, "pupilCellOf", "(II)I"⟩
abbrev cX0_programmeCellOf : ByteArray := prog_1_method_37_code
def yX0_programmeCellOf : MethodName := ⟨RX0, "programmeCellOf", "(II)I"⟩
abbrev cX0_replace : ByteArray := prog_1_method_38_code
def yX0_replace : MethodName := ⟨RX0, "replace", "([III)I"⟩
abbrev cX0_clearAll : ByteArray := prog_1_method_39_code
def yX0_clearAll : MethodName := ⟨RX0, "clearAll", "()V"⟩
abbrev cX0_isPupil : ByteArray := prog_1_method_40_code
def yX0_isPupil : MethodName := ⟨RX0, "isPupil", "(II)Z"⟩
abbrev cX0_countedMark : ByteArray := prog_1_method_41_code
def yX0_countedMark : MethodName := ⟨RX0, "countedMark", "(III)I"⟩
abbrev cX0_isMarked : ByteArray := prog_1_method_42_code
def yX0_isMarked : MethodName := ⟨RX0, "isMarked", "(II)Z"⟩
abbrev cX0_scoreOf : ByteArray := prog_1_method_43_code
def yX0_scoreOf : MethodName := ⟨RX0, "scoreOf", "(III)I"⟩
abbrev cX0_sortMarks : ByteArray := prog_1_method_44_code
def yX0_sortMarks : MethodName := ⟨RX0, "sortMarks", "(II)I"⟩
abbrev cX0_insertMark : ByteArray := prog_1_method_45_code
def yX0_insertMark : MethodName := ⟨RX0, "insertMark", "(II)V"⟩
abbrev cX0_sumBetween : ByteArray := prog_1_method_46_code
def yX0_sumBetween : MethodName := ⟨RX0, "sumBetween", "(II)I"⟩
abbrev cX0_meanBetween : ByteArray := prog_1_method_47_code
def yX0_meanBetween : MethodName := ⟨RX0, "meanBetween", "(II)I"⟩
abbrev cX0_cutMean : ByteArray := prog_1_method_48_code
def yX0_cutMean : MethodName := ⟨RX0, "cutMean", "(I)I"⟩
abbrev cX0_pulledMean : ByteArray := prog_1_method_49_code
def yX0_pulledMean : MethodName := ⟨RX0, "pulledMean", "(I)I"⟩
abbrev cX0_countYeses : ByteArray := prog_1_method_50_code
def yX0_countYeses : MethodName := ⟨RX0, "countYeses", "(II)I"⟩
abbrev cX0_pairScore : ByteArray := prog_1_method_51_code
def yX0_pairScore : MethodName := ⟨RX0, "pairScore", "(II)I"⟩
abbrev cX0_duel : ByteArray := prog_1_method_52_code
def yX0_duel : MethodName := ⟨RX0, "duel", "(III)I"⟩
abbrev cX0_fillScores : ByteArray := prog_1_method_53_code
def yX0_fillScores : MethodName := ⟨RX0, "fillScores", "(II)V"⟩
abbrev cX0_fillScoresIf : ByteArray := prog_1_method_54_code
def yX0_fillScoresIf : MethodName := ⟨RX0, "fillScoresIf", "(IIIIZ)V"⟩
abbrev cX0_placeIn : ByteArray := prog_1_method_55_code
def yX0_placeIn : MethodName := ⟨RX0, "placeIn", "([II)I"⟩
abbrev cX0_passesIn : ByteArray := prog_1_method_56_code
def yX0_passesIn : MethodName := ⟨RX0, "passesIn", "([III)Z"⟩
abbrev cX0_passedBits : ByteArray := prog_1_method_57_code
def yX0_passedBits : MethodName := ⟨RX0, "passedBits", "(III)I"⟩
abbrev cX0_totalOf : ByteArray := prog_1_method_58_code
def yX0_totalOf : MethodName := ⟨RX0, "totalOf", "(I)I"⟩
abbrev cX0_fillTotals : ByteArray := prog_1_method_59_code
def yX0_fillTotals : MethodName := ⟨RX0, "fillTotals", "()V"⟩
abbrev cX0_shareOf : ByteArray := prog_1_method_60_code
def yX0_shareOf : MethodName := ⟨RX0, "shareOf", "(I)I"⟩
abbrev cX0_fillFitting : ByteArray := prog_1_method_61_code
def yX0_fillFitting : MethodName := ⟨RX0, "fillFitting", "(II)V"⟩
abbrev cX0_minutesOf : ByteArray := prog_1_method_62_code
def yX0_minutesOf : MethodName := ⟨RX0, "minutesOf", "(I)I"⟩
abbrev cX0_choosesFrom : ByteArray := prog_1_method_63_code
def yX0_choosesFrom : MethodName := ⟨RX0, "choosesFrom", "(IIII)Z"⟩
abbrev cX0_factorial : ByteArray := prog_1_method_64_code
def yX0_factorial : MethodName := ⟨RX0, "factorial", "(I)I"⟩
abbrev cX0_bitOf : ByteArray := prog_1_method_65_code
def yX0_bitOf : MethodName := ⟨RX0, "bitOf", "(II)I"⟩
abbrev cX0_countMarks : ByteArray := prog_1_method_66_code
def yX0_countMarks : MethodName := ⟨RX0, "countMarks", "()I"⟩
abbrev cX0_sumOf : ByteArray := prog_1_method_67_code
def yX0_sumOf : MethodName := ⟨RX0, "sumOf", "([I)I"⟩
abbrev cX0_mixed : ByteArray := prog_1_method_68_code
def yX0_mixed : MethodName := ⟨RX0, "mixed", "(JJ)J"⟩
abbrev cX0_mixedRow : ByteArray := prog_1_method_69_code
def yX0_mixedRow : MethodName := ⟨RX0, "mixedRow", "(J[I)J"⟩
abbrev cX0_mixedRound : ByteArray := prog_1_method_70_code
def yX0_mixedRound : MethodName := ⟨RX0, "mixedRound", "(JI)J"⟩
def RX1 : String := "PianoJuryModel"
def TX1 : u_T := fun k => match k with
  | 0 => ("PianoJuryModel", "players", "I", false)
  | 1 => ("PianoJuryModel", "jurors", "I", false)
  | 2 => ("PianoJuryModel", "marks", "[I", true)
  | 3 => ("PianoJuryModel", "isYes", "[Z", true)
  | 4 => ("PianoJuryModel", "isPupil", "[Z", true)
  | 5 => ("PianoJuryModel", "cuts", "I", false)
  | 6 => ("PianoJuryModel", "pull", "I", false)
  | 7 => ("PianoJuryModel", "weights", "[I", true)
  | 8 => ("PianoJuryModel", "prizes", "[I", true)
  | 9 => ("PianoJuryModel", "minutes", "[I", true)
  | 10 => ("PianoJuryModel", "programmes", "[I", true)
  | 11 => ("PianoJuryModel", "worksOf", "[I", true)
  | 12 => ("PianoJuryModel", "hasPlan", "Z", false)
  | 13 => ("PianoJuryModel", "planOf", "[I", true)
  | 14 => ("PianoJuryModel", "many", "I", false)
  | 15 => ("PianoJuryModel", "sum", "I", false)
  | 16 => ("PianoJuryModel", "row", "[I", true)
  | 17 => ("PianoJuryModel", "leastPlace", "I", false)
  | 18 => ("PianoJuryModel", "greatestPlace", "I", false)
  | 19 => ("PianoJuryModel", "mayPass", "Z", false)
  | 20 => ("PianoJuryModel", "mayFail", "Z", false)
  | 21 => ("PianoJuryModel", "heardOf", "[I", true)
  | _ => ("PianoJuryModel", "h", "J", false)
def tyX1 : Nat → FieldType := fun k => match k with
  | 0 => .int
  | 1 => .int
  | 2 => .array .int
  | 3 => .array .boolean
  | 4 => .array .boolean
  | 5 => .int
  | 6 => .int
  | 7 => .array .int
  | 8 => .array .int
  | 9 => .array .int
  | 10 => .array .int
  | 11 => .array .int
  | 12 => .boolean
  | 13 => .array .int
  | 14 => .int
  | 15 => .int
  | 16 => .array .int
  | 17 => .int
  | 18 => .int
  | 19 => .boolean
  | 20 => .boolean
  | 21 => .array .int
  | _ => .long
abbrev wsX10 : List Cond := u_ws RX1 TX1 23
theorem nmX1 : ∀ a, a < 23 → ∀ b, b < 23 → a ≠ b → (TX1 a).2.1 ≠ (TX1 b).2.1 := by decide +kernel
theorem tyX1_ok : ∀ k, k < 23 → parseFieldDescriptor (TX1 k).2.2.1 = some (tyX1 k) := by decide +kernel
abbrev cX1_init : ByteArray := prog_3_method_1_code
def yX1_init : MethodName := ⟨RX1, "<init>", "()V"⟩
abbrev cX1_in : ByteArray := prog_3_method_3_code
def yX1_in : MethodName := ⟨RX1, "in", "(III)Z"⟩
abbrev cX1_begin : ByteArray := prog_3_method_4_code
def yX1_begin : MethodName := ⟨RX1, "begin", "()V"⟩
abbrev cX1_isRound : ByteArray := prog_3_method_5_code
def yX1_isRound : MethodName := ⟨RX1, "isRound", "(I)Z"⟩
abbrev cX1_isPlayer : ByteArray := prog_3_method_6_code
def yX1_isPlayer : MethodName := ⟨RX1, "isPlayer", "(I)Z"⟩
abbrev cX1_isJuror : ByteArray := prog_3_method_7_code
def yX1_isJuror : MethodName := ⟨RX1, "isJuror", "(I)Z"⟩
abbrev cX1_contest : ByteArray := prog_3_method_8_code
def yX1_contest : MethodName := ⟨RX1, "contest", "(II)I"⟩
abbrev cX1_mark : ByteArray := prog_3_method_9_code
def yX1_mark : MethodName := ⟨RX1, "mark", "(IIII)I"⟩
abbrev cX1_yes : ByteArray := prog_3_method_10_code
def yX1_yes : MethodName := ⟨RX1, "yes", "(IIIZ)I"⟩
abbrev cX1_pupil : ByteArray := prog_3_method_11_code
def yX1_pupil : MethodName := ⟨RX1, "pupil", "(IIZ)I"⟩
abbrev cX1_rule : ByteArray := prog_3_method_12_code
def yX1_rule : MethodName := ⟨RX1, "rule", "(II)I"⟩
abbrev cX1_counts : ByteArray := prog_3_method_13_code
def yX1_counts : MethodName := ⟨RX1, "counts", "(III)Z"⟩
abbrev cX1_gather : ByteArray := prog_3_method_14_code
def yX1_gather : MethodName := ⟨RX1, "gather", "(II)V"⟩
abbrev cX1_cutOf : ByteArray := prog_3_method_15_code
def yX1_cutOf : MethodName := ⟨RX1, "cutOf", "()I"⟩
abbrev cX1_yesOf : ByteArray := prog_3_method_16_code
def yX1_yesOf : MethodName := ⟨RX1, "yesOf", "(II)I"⟩
abbrev cX1_beatsOf : ByteArray := prog_3_method_17_code
def yX1_beatsOf : MethodName := ⟨RX1, "beatsOf", "(III)I"⟩
abbrev cX1_hasMark : ByteArray := prog_3_method_18_code
def yX1_hasMark : MethodName := ⟨RX1, "hasMark", "(II)Z"⟩
abbrev cX1_pairsOf : ByteArray := prog_3_method_19_code
def yX1_pairsOf : MethodName := ⟨RX1, "pairsOf", "(II)I"⟩
abbrev cX1_pulledOf : ByteArray := prog_3_method_20_code
def yX1_pulledOf : MethodName := ⟨RX1, "pulledOf", "()I"⟩
abbrev cX1_scoreOf : ByteArray := prog_3_method_21_code
def yX1_scoreOf : MethodName := ⟨RX1, "scoreOf", "(III)I"⟩
abbrev cX1_score : ByteArray := prog_3_method_22_code
def yX1_score : MethodName := ⟨RX1, "score", "(III)I"⟩
abbrev cX1_beats : ByteArray := prog_3_method_23_code
def yX1_beats : MethodName := ⟨RX1, "beats", "(III)I"⟩
abbrev cX1_placeOf : ByteArray := prog_3_method_24_code
def yX1_placeOf : MethodName := ⟨RX1, "placeOf", "(III)I"⟩
abbrev cX1_place : ByteArray := prog_3_method_25_code
def yX1_place : MethodName := ⟨RX1, "place", "(III)I"⟩
abbrev cX1_passes : ByteArray := prog_3_method_26_code
def yX1_passes : MethodName := ⟨RX1, "passes", "(IIII)Z"⟩
abbrev cX1_passedOf : ByteArray := prog_3_method_27_code
def yX1_passedOf : MethodName := ⟨RX1, "passedOf", "(III)I"⟩
abbrev cX1_passed : ByteArray := prog_3_method_28_code
def yX1_passed : MethodName := ⟨RX1, "passed", "(III)I"⟩
abbrev cX1_differ : ByteArray := prog_3_method_29_code
def yX1_differ : MethodName := ⟨RX1, "differ", "(IIII)I"⟩
abbrev cX1_note : ByteArray := prog_3_method_30_code
def yX1_note : MethodName := ⟨RX1, "note", "(IIII)V"⟩
abbrev cX1_seek : ByteArray := prog_3_method_31_code
def yX1_seek : MethodName := ⟨RX1, "seek", "(IIIII)V"⟩
abbrev cX1_reach : ByteArray := prog_3_method_32_code
def yX1_reach : MethodName := ⟨RX1, "reach", "(IIIII)I"⟩
abbrev cX1_sway : ByteArray := prog_3_method_33_code
def yX1_sway : MethodName := ⟨RX1, "sway", "(IIII)I"⟩
abbrev cX1_weight : ByteArray := prog_3_method_34_code
def yX1_weight : MethodName := ⟨RX1, "weight", "(II)I"⟩
abbrev cX1_totalOf : ByteArray := prog_3_method_35_code
def yX1_totalOf : MethodName := ⟨RX1, "totalOf", "(I)I"⟩
abbrev cX1_total : ByteArray := prog_3_method_36_code
def yX1_total : MethodName := ⟨RX1, "total", "(I)I"⟩
abbrev cX1_lastOf : ByteArray := prog_3_method_37_code
def yX1_lastOf : MethodName := ⟨RX1, "lastOf", "(I)I"⟩
abbrev cX1_last : ByteArray := prog_3_method_38_code
def yX1_last : MethodName := ⟨RX1, "last", "(I)I"⟩
abbrev cX1_prize : ByteArray := prog_3_method_39_code
def yX1_prize : MethodName := ⟨RX1, "prize", "(II)I"⟩
abbrev cX1_winsOf : ByteArray := prog_3_method_40_code
def yX1_winsOf : MethodName := ⟨RX1, "winsOf", "(I)I"⟩
abbrev cX1_wins : ByteArray := prog_3_method_41_code
def yX1_wins : MethodName := ⟨RX1, "wins", "(I)I"⟩
abbrev cX1_rest : ByteArray := prog_3_method_42_code
def yX1_rest : MethodName := ⟨RX1, "rest", "()I"⟩
abbrev cX1_work : ByteArray := prog_3_method_43_code
def yX1_work : MethodName := ⟨RX1, "work", "(II)I"⟩
abbrev cX1_programme : ByteArray := prog_3_method_44_code
def yX1_programme : MethodName := ⟨RX1, "programme", "(II)I"⟩
abbrev cX1_hear : ByteArray := prog_3_method_45_code
def yX1_hear : MethodName := ⟨RX1, "hear", "(II)V"⟩
abbrev cX1_mayBe : ByteArray := prog_3_method_46_code
def yX1_mayBe : MethodName := ⟨RX1, "mayBe", "(IIII)Z"⟩
abbrev cX1_plan : ByteArray := prog_3_method_47_code
def yX1_plan : MethodName := ⟨RX1, "plan", "(III)I"⟩
abbrev cX1_chosenOf : ByteArray := prog_3_method_48_code
def yX1_chosenOf : MethodName := ⟨RX1, "chosenOf", "(I)I"⟩
abbrev cX1_chosen : ByteArray := prog_3_method_49_code
def yX1_chosen : MethodName := ⟨RX1, "chosen", "(I)I"⟩
abbrev cX1_heard : ByteArray := prog_3_method_50_code
def yX1_heard : MethodName := ⟨RX1, "heard", "(I)I"⟩
abbrev cX1_drawn : ByteArray := prog_3_method_51_code
def yX1_drawn : MethodName := ⟨RX1, "drawn", "(II)I"⟩
abbrev cX1_count : ByteArray := prog_3_method_52_code
def yX1_count : MethodName := ⟨RX1, "count", "(I)I"⟩
abbrev cX1_mix : ByteArray := prog_3_method_53_code
def yX1_mix : MethodName := ⟨RX1, "mix", "(J)V"⟩
abbrev cX1_digest : ByteArray := prog_3_method_54_code
def yX1_digest : MethodName := ⟨RX1, "digest", "()J"⟩
def RJ6 : String := "java/lang/Integer"
def TJ6 : u_T := fun k => match k with
  | _ => ("", "", "", false)
def tyJ6 : Nat → FieldType := fun k => match k with
  | _ => .int
abbrev wsJ60 : List Cond := u_ws RJ6 TJ6 0
theorem nmJ6 : ∀ a, a < 0 → ∀ b, b < 0 → a ≠ b → (TJ6 a).2.1 ≠ (TJ6 b).2.1 := by decide +kernel
theorem tyJ6_ok : ∀ k, k < 0 → parseFieldDescriptor (TJ6 k).2.2.1 = some (tyJ6 k) := by decide +kernel
abbrev cJ6_compare_7cf53 : ByteArray := prog_4_method_40_code
def yJ6_compare_7cf53 : MethodName := ⟨RJ6, "compare", "(II)I"⟩
abbrev cJ6_bitCount_0f7a4 : ByteArray := prog_4_method_49_code
def yJ6_bitCount_0f7a4 : MethodName := ⟨RJ6, "bitCount", "(I)I"⟩
def RJ9 : String := "java/lang/Math"
def TJ9 : u_T := fun k => match k with
  | _ => ("", "", "", false)
def tyJ9 : Nat → FieldType := fun k => match k with
  | _ => .int
abbrev wsJ90 : List Cond := u_ws RJ9 TJ9 0
theorem nmJ9 : ∀ a, a < 0 → ∀ b, b < 0 → a ≠ b → (TJ9 a).2.1 ≠ (TJ9 b).2.1 := by decide +kernel
theorem tyJ9_ok : ∀ k, k < 0 → parseFieldDescriptor (TJ9 k).2.2.1 = some (tyJ9 k) := by decide +kernel
abbrev cJ9_max_7cf53 : ByteArray := prog_5_method_65_code
def yJ9_max_7cf53 : MethodName := ⟨RJ9, "max", "(II)I"⟩
abbrev cJ9_min_7cf53 : ByteArray := prog_5_method_69_code
def yJ9_min_7cf53 : MethodName := ⟨RJ9, "min", "(II)I"⟩
def RJ7 : String := "java/util/Arrays"
def TJ7 : u_T := fun k => match k with
  | _ => ("", "", "", false)
def tyJ7 : Nat → FieldType := fun k => match k with
  | _ => .int
abbrev wsJ70 : List Cond := u_ws RJ7 TJ7 0
theorem nmJ7 : ∀ a, a < 0 → ∀ b, b < 0 → a ≠ b → (TJ7 a).2.1 ≠ (TJ7 b).2.1 := by decide +kernel
theorem tyJ7_ok : ∀ k, k < 0 → parseFieldDescriptor (TJ7 k).2.2.1 = some (tyJ7 k) := by decide +kernel
abbrev cJ7_fill_53178 : ByteArray := prog_6_method_103_code
def yJ7_fill_53178 : MethodName := ⟨RJ7, "fill", "([II)V"⟩
def RL : String := "PianoJuryLaw"
abbrev cL_law : ByteArray := code
def yL_law : MethodName := ⟨RL, "law", "([I)Z"⟩
def wsJ7_fill_53178 : List Cond := .code yJ7_fill_53178 cJ7_fill_53178 4 none :: ([])
def wsX0_clearAll : List Cond := .code yX0_clearAll cX0_clearAll 1 none :: ([.fieldLink RX0 16 "PianoJury" "marks" "[I", .fieldLink RX0 20 "PianoJury" "yeses" "[I", .fieldLink RX0 23 "PianoJury" "pupils" "[I", .fieldLink RX0 41 "PianoJury" "programmeCounts" "[I", .fieldLink RX0 44 "PianoJury" "choices" "[I", .methodLink RX0 59 yJ7_fill_53178, .static yJ7_fill_53178, .initialized RJ7, .code yJ7_fill_53178 cJ7_fill_53178 4 none] ++ wsX00)
def wsX0_init_r1 : List Cond := [Cond.methodLink RX0 1 objectInit, Cond.instanceMethod objectInit, Cond.code objectInit ⟨#[0xb1]⟩ 1 none, Cond.fieldLink RX0 7 "PianoJury" "players" "I", Cond.fieldLink RX0 13 "PianoJury" "jurors" "I", Cond.arrayClass .int, Cond.fieldLink RX0 16 "PianoJury" "marks" "[I", Cond.fieldLink RX0 20 "PianoJury" "yeses" "[I", Cond.fieldLink RX0 23 "PianoJury" "pupils" "[I", Cond.fieldLink RX0 26 "PianoJury" "rules" "[I", Cond.fieldLink RX0 29 "PianoJury" "weights" "[I", Cond.fieldLink RX0 32 "PianoJury" "prizes" "[I", Cond.fieldLink RX0 35 "PianoJury" "minutes" "[I", Cond.fieldLink RX0 38 "PianoJury" "programmes" "[I", Cond.fieldLink RX0 41 "PianoJury" "programmeCounts" "[I", Cond.fieldLink RX0 44 "PianoJury" "choices" "[I", Cond.fieldLink RX0 47 "PianoJury" "sorted" "[I", Cond.fieldLink RX0 50 "PianoJury" "scores" "[I", Cond.fieldLink RX0 53 "PianoJury" "totals" "[I", Cond.fieldLink RX0 56 "PianoJury" "fitting" "[I", Cond.methodLink RX0 59 yJ7_fill_53178, Cond.static yJ7_fill_53178, Cond.initialized RJ7, Cond.code yJ7_fill_53178 cJ7_fill_53178 4 none]
def wsX0_init_r2 : List Cond := [Cond.methodLink RX0 65 yX0_clearAll, Cond.instanceMethod yX0_clearAll, Cond.selects RX0 yX0_clearAll yX0_clearAll, Cond.initialized RX0, Cond.code yX0_clearAll cX0_clearAll 1 none]
def wsX0_init : List Cond := .code yX0_init cX0_init 1 none :: ((wsX0_init_r1 ++ wsX0_init_r2) ++ wsX00)
def wsX0_isWithin : List Cond := .code yX0_isWithin cX0_isWithin 3 (some .boolean) :: ([])
def wsX0_contest : List Cond := .code yX0_contest cX0_contest 3 (some .int) :: ([.fieldLink RX0 7 "PianoJury" "players" "I", .fieldLink RX0 13 "PianoJury" "jurors" "I", .methodLink RX0 68 yX0_isWithin, .static yX0_isWithin, .initialized RX0, .code yX0_isWithin cX0_isWithin 3 (some .boolean), .methodLink RX0 65 yX0_clearAll, .instanceMethod yX0_clearAll, .selects RX0 yX0_clearAll yX0_clearAll, .code yX0_clearAll cX0_clearAll 1 none, .fieldLink RX0 16 "PianoJury" "marks" "[I", .fieldLink RX0 20 "PianoJury" "yeses" "[I", .fieldLink RX0 23 "PianoJury" "pupils" "[I", .fieldLink RX0 41 "PianoJury" "programmeCounts" "[I", .fieldLink RX0 44 "PianoJury" "choices" "[I", .methodLink RX0 59 yJ7_fill_53178, .static yJ7_fill_53178, .initialized RJ7, .code yJ7_fill_53178 cJ7_fill_53178 4 none] ++ wsX00)
def wsX0_isRound : List Cond := .code yX0_isRound cX0_isRound 1 (some .boolean) :: ([.methodLink RX0 68 yX0_isWithin, .static yX0_isWithin, .initialized RX0, .code yX0_isWithin cX0_isWithin 3 (some .boolean)])
def wsX0_isJuror : List Cond := .code yX0_isJuror cX0_isJuror 2 (some .boolean) :: ([.fieldLink RX0 13 "PianoJury" "jurors" "I", .methodLink RX0 68 yX0_isWithin, .static yX0_isWithin, .initialized RX0, .code yX0_isWithin cX0_isWithin 3 (some .boolean)] ++ wsX00)
def wsX0_isPlayer : List Cond := .code yX0_isPlayer cX0_isPlayer 2 (some .boolean) :: ([.fieldLink RX0 7 "PianoJury" "players" "I", .methodLink RX0 68 yX0_isWithin, .static yX0_isWithin, .initialized RX0, .code yX0_isWithin cX0_isWithin 3 (some .boolean)] ++ wsX00)
def wsX0_cellOf : List Cond := .code yX0_cellOf cX0_cellOf 3 (some .int) :: ([])
def wsX0_replace : List Cond := .code yX0_replace cX0_replace 4 (some .int) :: ([])
def wsX0_mark : List Cond := .code yX0_mark cX0_mark 5 (some .int) :: ([.fieldLink RX0 16 "PianoJury" "marks" "[I", .methodLink RX0 72 yX0_isRound, .static yX0_isRound, .initialized RX0, .code yX0_isRound cX0_isRound 1 (some .boolean), .methodLink RX0 68 yX0_isWithin, .static yX0_isWithin, .code yX0_isWithin cX0_isWithin 3 (some .boolean), .methodLink RX0 76 yX0_isJuror, .instanceMethod yX0_isJuror, .selects RX0 yX0_isJuror yX0_isJuror, .code yX0_isJuror cX0_isJuror 2 (some .boolean), .fieldLink RX0 13 "PianoJury" "jurors" "I", .methodLink RX0 79 yX0_isPlayer, .instanceMethod yX0_isPlayer, .selects RX0 yX0_isPlayer yX0_isPlayer, .code yX0_isPlayer cX0_isPlayer 2 (some .boolean), .fieldLink RX0 7 "PianoJury" "players" "I", .methodLink RX0 82 yX0_cellOf, .static yX0_cellOf, .code yX0_cellOf cX0_cellOf 3 (some .int), .methodLink RX0 86 yX0_replace, .static yX0_replace, .code yX0_replace cX0_replace 4 (some .int)] ++ wsX00)
def wsX0_yes : List Cond := .code yX0_yes cX0_yes 5 (some .int) :: ([.fieldLink RX0 20 "PianoJury" "yeses" "[I", .methodLink RX0 72 yX0_isRound, .static yX0_isRound, .initialized RX0, .code yX0_isRound cX0_isRound 1 (some .boolean), .methodLink RX0 68 yX0_isWithin, .static yX0_isWithin, .code yX0_isWithin cX0_isWithin 3 (some .boolean), .methodLink RX0 76 yX0_isJuror, .instanceMethod yX0_isJuror, .selects RX0 yX0_isJuror yX0_isJuror, .code yX0_isJuror cX0_isJuror 2 (some .boolean), .fieldLink RX0 13 "PianoJury" "jurors" "I", .methodLink RX0 79 yX0_isPlayer, .instanceMethod yX0_isPlayer, .selects RX0 yX0_isPlayer yX0_isPlayer, .code yX0_isPlayer cX0_isPlayer 2 (some .boolean), .fieldLink RX0 7 "PianoJury" "players" "I", .methodLink RX0 82 yX0_cellOf, .static yX0_cellOf, .code yX0_cellOf cX0_cellOf 3 (some .int), .methodLink RX0 86 yX0_replace, .static yX0_replace, .code yX0_replace cX0_replace 4 (some .int)] ++ wsX00)
def wsX0_pupilCellOf : List Cond := .code yX0_pupilCellOf cX0_pupilCellOf 2 (some .int) :: ([])
def wsX0_pupil : List Cond := .code yX0_pupil cX0_pupil 4 (some .int) :: ([.fieldLink RX0 23 "PianoJury" "pupils" "[I", .methodLink RX0 76 yX0_isJuror, .instanceMethod yX0_isJuror, .selects RX0 yX0_isJuror yX0_isJuror, .initialized RX0, .code yX0_isJuror cX0_isJuror 2 (some .boolean), .fieldLink RX0 13 "PianoJury" "jurors" "I", .methodLink RX0 68 yX0_isWithin, .static yX0_isWithin, .code yX0_isWithin cX0_isWithin 3 (some .boolean), .methodLink RX0 79 yX0_isPlayer, .instanceMethod yX0_isPlayer, .selects RX0 yX0_isPlayer yX0_isPlayer, .code yX0_isPlayer cX0_isPlayer 2 (some .boolean), .fieldLink RX0 7 "PianoJury" "players" "I", .methodLink RX0 90 yX0_pupilCellOf, .static yX0_pupilCellOf, .code yX0_pupilCellOf cX0_pupilCellOf 2 (some .int), .methodLink RX0 86 yX0_replace, .static yX0_replace, .code yX0_replace cX0_replace 4 (some .int)] ++ wsX00)
def wsX0_rule : List Cond := .code yX0_rule cX0_rule 4 (some .int) :: ([.fieldLink RX0 26 "PianoJury" "rules" "[I", .methodLink RX0 68 yX0_isWithin, .static yX0_isWithin, .initialized RX0, .code yX0_isWithin cX0_isWithin 3 (some .boolean), .methodLink RX0 86 yX0_replace, .static yX0_replace, .code yX0_replace cX0_replace 4 (some .int)] ++ wsX00)
def wsX0_isWay : List Cond := .code yX0_isWay cX0_isWay 1 (some .boolean) :: ([.methodLink RX0 68 yX0_isWithin, .static yX0_isWithin, .initialized RX0, .code yX0_isWithin cX0_isWithin 3 (some .boolean)])
def wsX0_countedMark : List Cond := .code yX0_countedMark cX0_countedMark 4 (some .int) :: ([.fieldLink RX0 23 "PianoJury" "pupils" "[I", .fieldLink RX0 16 "PianoJury" "marks" "[I", .methodLink RX0 90 yX0_pupilCellOf, .static yX0_pupilCellOf, .initialized RX0, .code yX0_pupilCellOf cX0_pupilCellOf 2 (some .int), .methodLink RX0 82 yX0_cellOf, .static yX0_cellOf, .code yX0_cellOf cX0_cellOf 3 (some .int)] ++ wsX00)
def wsX0_insertMark : List Cond := .code yX0_insertMark cX0_insertMark 4 none :: ([.fieldLink RX0 47 "PianoJury" "sorted" "[I"] ++ wsX00)
def wsX0_sortMarks : List Cond := .code yX0_sortMarks cX0_sortMarks 6 (some .int) :: ([.fieldLink RX0 13 "PianoJury" "jurors" "I", .methodLink RX0 186 yX0_countedMark, .instanceMethod yX0_countedMark, .selects RX0 yX0_countedMark yX0_countedMark, .initialized RX0, .code yX0_countedMark cX0_countedMark 4 (some .int), .fieldLink RX0 23 "PianoJury" "pupils" "[I", .fieldLink RX0 16 "PianoJury" "marks" "[I", .methodLink RX0 90 yX0_pupilCellOf, .static yX0_pupilCellOf, .code yX0_pupilCellOf cX0_pupilCellOf 2 (some .int), .methodLink RX0 82 yX0_cellOf, .static yX0_cellOf, .code yX0_cellOf cX0_cellOf 3 (some .int), .methodLink RX0 209 yX0_insertMark, .instanceMethod yX0_insertMark, .selects RX0 yX0_insertMark yX0_insertMark, .code yX0_insertMark cX0_insertMark 4 none, .fieldLink RX0 47 "PianoJury" "sorted" "[I"] ++ wsX00)
def wsX0_sumBetween : List Cond := .code yX0_sumBetween cX0_sumBetween 5 (some .int) :: ([.fieldLink RX0 47 "PianoJury" "sorted" "[I"] ++ wsX00)
def wsX0_meanBetween : List Cond := .code yX0_meanBetween cX0_meanBetween 3 (some .int) :: ([.constant RX0 196 (176400), .methodLink RX0 212 yX0_sumBetween, .instanceMethod yX0_sumBetween, .selects RX0 yX0_sumBetween yX0_sumBetween, .initialized RX0, .code yX0_sumBetween cX0_sumBetween 5 (some .int), .fieldLink RX0 47 "PianoJury" "sorted" "[I"] ++ wsX00)
def wsX0_cutMean : List Cond := .code yX0_cutMean cX0_cutMean 3 (some .int) :: ([.fieldLink RX0 26 "PianoJury" "rules" "[I", .methodLink RX0 206 yX0_meanBetween, .instanceMethod yX0_meanBetween, .selects RX0 yX0_meanBetween yX0_meanBetween, .initialized RX0, .code yX0_meanBetween cX0_meanBetween 3 (some .int), .constant RX0 196 (176400), .methodLink RX0 212 yX0_sumBetween, .instanceMethod yX0_sumBetween, .selects RX0 yX0_sumBetween yX0_sumBetween, .code yX0_sumBetween cX0_sumBetween 5 (some .int), .fieldLink RX0 47 "PianoJury" "sorted" "[I"] ++ wsX00)
def wsX0_countYeses : List Cond := .code yX0_countYeses cX0_countYeses 5 (some .int) :: ([.fieldLink RX0 13 "PianoJury" "jurors" "I", .fieldLink RX0 20 "PianoJury" "yeses" "[I", .methodLink RX0 186 yX0_countedMark, .instanceMethod yX0_countedMark, .selects RX0 yX0_countedMark yX0_countedMark, .initialized RX0, .code yX0_countedMark cX0_countedMark 4 (some .int), .fieldLink RX0 23 "PianoJury" "pupils" "[I", .fieldLink RX0 16 "PianoJury" "marks" "[I", .methodLink RX0 90 yX0_pupilCellOf, .static yX0_pupilCellOf, .code yX0_pupilCellOf cX0_pupilCellOf 2 (some .int), .methodLink RX0 82 yX0_cellOf, .static yX0_cellOf, .code yX0_cellOf cX0_cellOf 3 (some .int)] ++ wsX00)
def wsX0_isMarked : List Cond := .code yX0_isMarked cX0_isMarked 4 (some .boolean) :: ([.fieldLink RX0 13 "PianoJury" "jurors" "I", .methodLink RX0 186 yX0_countedMark, .instanceMethod yX0_countedMark, .selects RX0 yX0_countedMark yX0_countedMark, .initialized RX0, .code yX0_countedMark cX0_countedMark 4 (some .int), .fieldLink RX0 23 "PianoJury" "pupils" "[I", .fieldLink RX0 16 "PianoJury" "marks" "[I", .methodLink RX0 90 yX0_pupilCellOf, .static yX0_pupilCellOf, .code yX0_pupilCellOf cX0_pupilCellOf 2 (some .int), .methodLink RX0 82 yX0_cellOf, .static yX0_cellOf, .code yX0_cellOf cX0_cellOf 3 (some .int)] ++ wsX00)
def wsJ6_compare_7cf53 : List Cond := .code yJ6_compare_7cf53 cJ6_compare_7cf53 2 (some .int) :: ([])
def wsX0_duel : List Cond := .code yX0_duel cX0_duel 8 (some .int) :: ([.fieldLink RX0 13 "PianoJury" "jurors" "I", .methodLink RX0 186 yX0_countedMark, .instanceMethod yX0_countedMark, .selects RX0 yX0_countedMark yX0_countedMark, .initialized RX0, .code yX0_countedMark cX0_countedMark 4 (some .int), .fieldLink RX0 23 "PianoJury" "pupils" "[I", .fieldLink RX0 16 "PianoJury" "marks" "[I", .methodLink RX0 90 yX0_pupilCellOf, .static yX0_pupilCellOf, .code yX0_pupilCellOf cX0_pupilCellOf 2 (some .int), .methodLink RX0 82 yX0_cellOf, .static yX0_cellOf, .code yX0_cellOf cX0_cellOf 3 (some .int), .methodLink RX0 226 yJ6_compare_7cf53, .static yJ6_compare_7cf53, .initialized RJ6, .code yJ6_compare_7cf53 cJ6_compare_7cf53 2 (some .int)] ++ wsX00)
def wsX0_pairScore_r1 : List Cond := [Cond.fieldLink RX0 7 "PianoJury" "players" "I", Cond.methodLink RX0 223 yX0_isMarked, Cond.instanceMethod yX0_isMarked, Cond.selects RX0 yX0_isMarked yX0_isMarked, Cond.initialized RX0, Cond.code yX0_isMarked cX0_isMarked 4 (some .boolean), Cond.fieldLink RX0 13 "PianoJury" "jurors" "I", Cond.methodLink RX0 186 yX0_countedMark, Cond.instanceMethod yX0_countedMark, Cond.selects RX0 yX0_countedMark yX0_countedMark, Cond.code yX0_countedMark cX0_countedMark 4 (some .int), Cond.fieldLink RX0 23 "PianoJury" "pupils" "[I", Cond.fieldLink RX0 16 "PianoJury" "marks" "[I", Cond.methodLink RX0 90 yX0_pupilCellOf, Cond.static yX0_pupilCellOf, Cond.code yX0_pupilCellOf cX0_pupilCellOf 2 (some .int), Cond.methodLink RX0 82 yX0_cellOf, Cond.static yX0_cellOf, Cond.code yX0_cellOf cX0_cellOf 3 (some .int), Cond.methodLink RX0 100 yX0_duel, Cond.instanceMethod yX0_duel, Cond.selects RX0 yX0_duel yX0_duel, Cond.code yX0_duel cX0_duel 8 (some .int), Cond.methodLink RX0 226 yJ6_compare_7cf53]
def wsX0_pairScore_r2 : List Cond := [Cond.static yJ6_compare_7cf53, Cond.initialized RJ6, Cond.code yJ6_compare_7cf53 cJ6_compare_7cf53 2 (some .int)]
def wsX0_pairScore : List Cond := .code yX0_pairScore cX0_pairScore 5 (some .int) :: ((wsX0_pairScore_r1 ++ wsX0_pairScore_r2) ++ wsX00)
def wsX0_pulledMean : List Cond := .code yX0_pulledMean cX0_pulledMean 7 (some .int) :: ([.fieldLink RX0 26 "PianoJury" "rules" "[I", .fieldLink RX0 47 "PianoJury" "sorted" "[I", .methodLink RX0 215 Lib.Math.max.name, .static Lib.Math.max.name, .initialized "java/lang/Math", .code Lib.Math.max.name Lib.Math.max.code 2 (some .int), .methodLink RX0 220 Lib.Math.min.name, .static Lib.Math.min.name, .code Lib.Math.min.name Lib.Math.min.code 2 (some .int), .constant RX0 196 (176400), .methodLink RX0 212 yX0_sumBetween, .instanceMethod yX0_sumBetween, .selects RX0 yX0_sumBetween yX0_sumBetween, .initialized RX0, .code yX0_sumBetween cX0_sumBetween 5 (some .int)] ++ wsX00)
def wsX0_scoreOf_r1 : List Cond := [Cond.constant RX0 195 (88200), Cond.fieldLink RX0 47 "PianoJury" "sorted" "[I", Cond.constant RX0 196 (176400), Cond.methodLink RX0 189 yX0_sortMarks, Cond.instanceMethod yX0_sortMarks, Cond.selects RX0 yX0_sortMarks yX0_sortMarks, Cond.initialized RX0, Cond.code yX0_sortMarks cX0_sortMarks 6 (some .int), Cond.fieldLink RX0 13 "PianoJury" "jurors" "I", Cond.methodLink RX0 186 yX0_countedMark, Cond.instanceMethod yX0_countedMark, Cond.selects RX0 yX0_countedMark yX0_countedMark, Cond.code yX0_countedMark cX0_countedMark 4 (some .int), Cond.fieldLink RX0 23 "PianoJury" "pupils" "[I", Cond.fieldLink RX0 16 "PianoJury" "marks" "[I", Cond.methodLink RX0 90 yX0_pupilCellOf, Cond.static yX0_pupilCellOf, Cond.code yX0_pupilCellOf cX0_pupilCellOf 2 (some .int), Cond.methodLink RX0 82 yX0_cellOf, Cond.static yX0_cellOf, Cond.code yX0_cellOf cX0_cellOf 3 (some .int), Cond.methodLink RX0 209 yX0_insertMark, Cond.instanceMethod yX0_insertMark, Cond.selects RX0 yX0_insertMark yX0_insertMark]
def wsX0_scoreOf_r2 : List Cond := [Cond.code yX0_insertMark cX0_insertMark 4 none, Cond.methodLink RX0 192 yX0_cutMean, Cond.instanceMethod yX0_cutMean, Cond.selects RX0 yX0_cutMean yX0_cutMean, Cond.code yX0_cutMean cX0_cutMean 3 (some .int), Cond.fieldLink RX0 26 "PianoJury" "rules" "[I", Cond.methodLink RX0 206 yX0_meanBetween, Cond.instanceMethod yX0_meanBetween, Cond.selects RX0 yX0_meanBetween yX0_meanBetween, Cond.code yX0_meanBetween cX0_meanBetween 3 (some .int), Cond.methodLink RX0 212 yX0_sumBetween, Cond.instanceMethod yX0_sumBetween, Cond.selects RX0 yX0_sumBetween yX0_sumBetween, Cond.code yX0_sumBetween cX0_sumBetween 5 (some .int), Cond.methodLink RX0 197 yX0_countYeses, Cond.instanceMethod yX0_countYeses, Cond.selects RX0 yX0_countYeses yX0_countYeses, Cond.code yX0_countYeses cX0_countYeses 5 (some .int), Cond.fieldLink RX0 20 "PianoJury" "yeses" "[I", Cond.methodLink RX0 200 yX0_pairScore, Cond.instanceMethod yX0_pairScore, Cond.selects RX0 yX0_pairScore yX0_pairScore, Cond.code yX0_pairScore cX0_pairScore 5 (some .int), Cond.fieldLink RX0 7 "PianoJury" "players" "I"]
def wsX0_scoreOf_r3 : List Cond := [Cond.methodLink RX0 223 yX0_isMarked, Cond.instanceMethod yX0_isMarked, Cond.selects RX0 yX0_isMarked yX0_isMarked, Cond.code yX0_isMarked cX0_isMarked 4 (some .boolean), Cond.methodLink RX0 100 yX0_duel, Cond.instanceMethod yX0_duel, Cond.selects RX0 yX0_duel yX0_duel, Cond.code yX0_duel cX0_duel 8 (some .int), Cond.methodLink RX0 226 yJ6_compare_7cf53, Cond.static yJ6_compare_7cf53, Cond.initialized RJ6, Cond.code yJ6_compare_7cf53 cJ6_compare_7cf53 2 (some .int), Cond.methodLink RX0 203 yX0_pulledMean, Cond.instanceMethod yX0_pulledMean, Cond.selects RX0 yX0_pulledMean yX0_pulledMean, Cond.code yX0_pulledMean cX0_pulledMean 7 (some .int), Cond.methodLink RX0 215 Lib.Math.max.name, Cond.static Lib.Math.max.name, Cond.initialized "java/lang/Math", Cond.code Lib.Math.max.name Lib.Math.max.code 2 (some .int), Cond.methodLink RX0 220 Lib.Math.min.name, Cond.static Lib.Math.min.name, Cond.code Lib.Math.min.name Lib.Math.min.code 2 (some .int)]
def wsX0_scoreOf : List Cond := .code yX0_scoreOf cX0_scoreOf 5 (some .int) :: ((wsX0_scoreOf_r1 ++ (wsX0_scoreOf_r2 ++ wsX0_scoreOf_r3)) ++ wsX00)
def wsX0_score_r1 : List Cond := [Cond.methodLink RX0 72 yX0_isRound, Cond.static yX0_isRound, Cond.initialized RX0, Cond.code yX0_isRound cX0_isRound 1 (some .boolean), Cond.methodLink RX0 68 yX0_isWithin, Cond.static yX0_isWithin, Cond.code yX0_isWithin cX0_isWithin 3 (some .boolean), Cond.methodLink RX0 79 yX0_isPlayer, Cond.instanceMethod yX0_isPlayer, Cond.selects RX0 yX0_isPlayer yX0_isPlayer, Cond.code yX0_isPlayer cX0_isPlayer 2 (some .boolean), Cond.fieldLink RX0 7 "PianoJury" "players" "I", Cond.methodLink RX0 94 yX0_isWay, Cond.static yX0_isWay, Cond.code yX0_isWay cX0_isWay 1 (some .boolean), Cond.methodLink RX0 97 yX0_scoreOf, Cond.instanceMethod yX0_scoreOf, Cond.selects RX0 yX0_scoreOf yX0_scoreOf, Cond.code yX0_scoreOf cX0_scoreOf 5 (some .int), Cond.constant RX0 195 (88200), Cond.fieldLink RX0 47 "PianoJury" "sorted" "[I", Cond.constant RX0 196 (176400), Cond.methodLink RX0 189 yX0_sortMarks, Cond.instanceMethod yX0_sortMarks]
def wsX0_score_r2 : List Cond := [Cond.selects RX0 yX0_sortMarks yX0_sortMarks, Cond.code yX0_sortMarks cX0_sortMarks 6 (some .int), Cond.fieldLink RX0 13 "PianoJury" "jurors" "I", Cond.methodLink RX0 186 yX0_countedMark, Cond.instanceMethod yX0_countedMark, Cond.selects RX0 yX0_countedMark yX0_countedMark, Cond.code yX0_countedMark cX0_countedMark 4 (some .int), Cond.fieldLink RX0 23 "PianoJury" "pupils" "[I", Cond.fieldLink RX0 16 "PianoJury" "marks" "[I", Cond.methodLink RX0 90 yX0_pupilCellOf, Cond.static yX0_pupilCellOf, Cond.code yX0_pupilCellOf cX0_pupilCellOf 2 (some .int), Cond.methodLink RX0 82 yX0_cellOf, Cond.static yX0_cellOf, Cond.code yX0_cellOf cX0_cellOf 3 (some .int), Cond.methodLink RX0 209 yX0_insertMark, Cond.instanceMethod yX0_insertMark, Cond.selects RX0 yX0_insertMark yX0_insertMark, Cond.code yX0_insertMark cX0_insertMark 4 none, Cond.methodLink RX0 192 yX0_cutMean, Cond.instanceMethod yX0_cutMean, Cond.selects RX0 yX0_cutMean yX0_cutMean, Cond.code yX0_cutMean cX0_cutMean 3 (some .int), Cond.fieldLink RX0 26 "PianoJury" "rules" "[I"]
def wsX0_score_r3 : List Cond := [Cond.methodLink RX0 206 yX0_meanBetween, Cond.instanceMethod yX0_meanBetween, Cond.selects RX0 yX0_meanBetween yX0_meanBetween, Cond.code yX0_meanBetween cX0_meanBetween 3 (some .int), Cond.methodLink RX0 212 yX0_sumBetween, Cond.instanceMethod yX0_sumBetween, Cond.selects RX0 yX0_sumBetween yX0_sumBetween, Cond.code yX0_sumBetween cX0_sumBetween 5 (some .int), Cond.methodLink RX0 197 yX0_countYeses, Cond.instanceMethod yX0_countYeses, Cond.selects RX0 yX0_countYeses yX0_countYeses, Cond.code yX0_countYeses cX0_countYeses 5 (some .int), Cond.fieldLink RX0 20 "PianoJury" "yeses" "[I", Cond.methodLink RX0 200 yX0_pairScore, Cond.instanceMethod yX0_pairScore, Cond.selects RX0 yX0_pairScore yX0_pairScore, Cond.code yX0_pairScore cX0_pairScore 5 (some .int), Cond.methodLink RX0 223 yX0_isMarked, Cond.instanceMethod yX0_isMarked, Cond.selects RX0 yX0_isMarked yX0_isMarked, Cond.code yX0_isMarked cX0_isMarked 4 (some .boolean), Cond.methodLink RX0 100 yX0_duel, Cond.instanceMethod yX0_duel, Cond.selects RX0 yX0_duel yX0_duel]
def wsX0_score_r4 : List Cond := [Cond.code yX0_duel cX0_duel 8 (some .int), Cond.methodLink RX0 226 yJ6_compare_7cf53, Cond.static yJ6_compare_7cf53, Cond.initialized RJ6, Cond.code yJ6_compare_7cf53 cJ6_compare_7cf53 2 (some .int), Cond.methodLink RX0 203 yX0_pulledMean, Cond.instanceMethod yX0_pulledMean, Cond.selects RX0 yX0_pulledMean yX0_pulledMean, Cond.code yX0_pulledMean cX0_pulledMean 7 (some .int), Cond.methodLink RX0 215 Lib.Math.max.name, Cond.static Lib.Math.max.name, Cond.initialized "java/lang/Math", Cond.code Lib.Math.max.name Lib.Math.max.code 2 (some .int), Cond.methodLink RX0 220 Lib.Math.min.name, Cond.static Lib.Math.min.name, Cond.code Lib.Math.min.name Lib.Math.min.code 2 (some .int)]
def wsX0_score : List Cond := .code yX0_score cX0_score 4 (some .int) :: ((wsX0_score_r1 ++ (wsX0_score_r2 ++ (wsX0_score_r3 ++ wsX0_score_r4))) ++ wsX00)
def wsX0_beats_r1 : List Cond := [Cond.methodLink RX0 72 yX0_isRound, Cond.static yX0_isRound, Cond.initialized RX0, Cond.code yX0_isRound cX0_isRound 1 (some .boolean), Cond.methodLink RX0 68 yX0_isWithin, Cond.static yX0_isWithin, Cond.code yX0_isWithin cX0_isWithin 3 (some .boolean), Cond.methodLink RX0 79 yX0_isPlayer, Cond.instanceMethod yX0_isPlayer, Cond.selects RX0 yX0_isPlayer yX0_isPlayer, Cond.code yX0_isPlayer cX0_isPlayer 2 (some .boolean), Cond.fieldLink RX0 7 "PianoJury" "players" "I", Cond.methodLink RX0 100 yX0_duel, Cond.instanceMethod yX0_duel, Cond.selects RX0 yX0_duel yX0_duel, Cond.code yX0_duel cX0_duel 8 (some .int), Cond.fieldLink RX0 13 "PianoJury" "jurors" "I", Cond.methodLink RX0 186 yX0_countedMark, Cond.instanceMethod yX0_countedMark, Cond.selects RX0 yX0_countedMark yX0_countedMark, Cond.code yX0_countedMark cX0_countedMark 4 (some .int), Cond.fieldLink RX0 23 "PianoJury" "pupils" "[I", Cond.fieldLink RX0 16 "PianoJury" "marks" "[I", Cond.methodLink RX0 90 yX0_pupilCellOf]
def wsX0_beats_r2 : List Cond := [Cond.static yX0_pupilCellOf, Cond.code yX0_pupilCellOf cX0_pupilCellOf 2 (some .int), Cond.methodLink RX0 82 yX0_cellOf, Cond.static yX0_cellOf, Cond.code yX0_cellOf cX0_cellOf 3 (some .int), Cond.methodLink RX0 226 yJ6_compare_7cf53, Cond.static yJ6_compare_7cf53, Cond.initialized RJ6, Cond.code yJ6_compare_7cf53 cJ6_compare_7cf53 2 (some .int)]
def wsX0_beats : List Cond := .code yX0_beats cX0_beats 4 (some .int) :: ((wsX0_beats_r1 ++ wsX0_beats_r2) ++ wsX00)
def wsX0_fillScores_r1 : List Cond := [Cond.fieldLink RX0 7 "PianoJury" "players" "I", Cond.fieldLink RX0 50 "PianoJury" "scores" "[I", Cond.methodLink RX0 97 yX0_scoreOf, Cond.instanceMethod yX0_scoreOf, Cond.selects RX0 yX0_scoreOf yX0_scoreOf, Cond.initialized RX0, Cond.code yX0_scoreOf cX0_scoreOf 5 (some .int), Cond.constant RX0 195 (88200), Cond.fieldLink RX0 47 "PianoJury" "sorted" "[I", Cond.constant RX0 196 (176400), Cond.methodLink RX0 189 yX0_sortMarks, Cond.instanceMethod yX0_sortMarks, Cond.selects RX0 yX0_sortMarks yX0_sortMarks, Cond.code yX0_sortMarks cX0_sortMarks 6 (some .int), Cond.fieldLink RX0 13 "PianoJury" "jurors" "I", Cond.methodLink RX0 186 yX0_countedMark, Cond.instanceMethod yX0_countedMark, Cond.selects RX0 yX0_countedMark yX0_countedMark, Cond.code yX0_countedMark cX0_countedMark 4 (some .int), Cond.fieldLink RX0 23 "PianoJury" "pupils" "[I", Cond.fieldLink RX0 16 "PianoJury" "marks" "[I", Cond.methodLink RX0 90 yX0_pupilCellOf, Cond.static yX0_pupilCellOf, Cond.code yX0_pupilCellOf cX0_pupilCellOf 2 (some .int)]
def wsX0_fillScores_r2 : List Cond := [Cond.methodLink RX0 82 yX0_cellOf, Cond.static yX0_cellOf, Cond.code yX0_cellOf cX0_cellOf 3 (some .int), Cond.methodLink RX0 209 yX0_insertMark, Cond.instanceMethod yX0_insertMark, Cond.selects RX0 yX0_insertMark yX0_insertMark, Cond.code yX0_insertMark cX0_insertMark 4 none, Cond.methodLink RX0 192 yX0_cutMean, Cond.instanceMethod yX0_cutMean, Cond.selects RX0 yX0_cutMean yX0_cutMean, Cond.code yX0_cutMean cX0_cutMean 3 (some .int), Cond.fieldLink RX0 26 "PianoJury" "rules" "[I", Cond.methodLink RX0 206 yX0_meanBetween, Cond.instanceMethod yX0_meanBetween, Cond.selects RX0 yX0_meanBetween yX0_meanBetween, Cond.code yX0_meanBetween cX0_meanBetween 3 (some .int), Cond.methodLink RX0 212 yX0_sumBetween, Cond.instanceMethod yX0_sumBetween, Cond.selects RX0 yX0_sumBetween yX0_sumBetween, Cond.code yX0_sumBetween cX0_sumBetween 5 (some .int), Cond.methodLink RX0 197 yX0_countYeses, Cond.instanceMethod yX0_countYeses, Cond.selects RX0 yX0_countYeses yX0_countYeses, Cond.code yX0_countYeses cX0_countYeses 5 (some .int)]
def wsX0_fillScores_r3 : List Cond := [Cond.fieldLink RX0 20 "PianoJury" "yeses" "[I", Cond.methodLink RX0 200 yX0_pairScore, Cond.instanceMethod yX0_pairScore, Cond.selects RX0 yX0_pairScore yX0_pairScore, Cond.code yX0_pairScore cX0_pairScore 5 (some .int), Cond.methodLink RX0 223 yX0_isMarked, Cond.instanceMethod yX0_isMarked, Cond.selects RX0 yX0_isMarked yX0_isMarked, Cond.code yX0_isMarked cX0_isMarked 4 (some .boolean), Cond.methodLink RX0 100 yX0_duel, Cond.instanceMethod yX0_duel, Cond.selects RX0 yX0_duel yX0_duel, Cond.code yX0_duel cX0_duel 8 (some .int), Cond.methodLink RX0 226 yJ6_compare_7cf53, Cond.static yJ6_compare_7cf53, Cond.initialized RJ6, Cond.code yJ6_compare_7cf53 cJ6_compare_7cf53 2 (some .int), Cond.methodLink RX0 203 yX0_pulledMean, Cond.instanceMethod yX0_pulledMean, Cond.selects RX0 yX0_pulledMean yX0_pulledMean, Cond.code yX0_pulledMean cX0_pulledMean 7 (some .int), Cond.methodLink RX0 215 Lib.Math.max.name, Cond.static Lib.Math.max.name, Cond.initialized "java/lang/Math"]
def wsX0_fillScores_r4 : List Cond := [Cond.code Lib.Math.max.name Lib.Math.max.code 2 (some .int), Cond.methodLink RX0 220 Lib.Math.min.name, Cond.static Lib.Math.min.name, Cond.code Lib.Math.min.name Lib.Math.min.code 2 (some .int)]
def wsX0_fillScores : List Cond := .code yX0_fillScores cX0_fillScores 4 none :: ((wsX0_fillScores_r1 ++ (wsX0_fillScores_r2 ++ (wsX0_fillScores_r3 ++ wsX0_fillScores_r4))) ++ wsX00)
def wsX0_placeIn : List Cond := .code yX0_placeIn cX0_placeIn 5 (some .int) :: ([.fieldLink RX0 7 "PianoJury" "players" "I"] ++ wsX00)
def wsX0_place_r1 : List Cond := [Cond.fieldLink RX0 50 "PianoJury" "scores" "[I", Cond.methodLink RX0 72 yX0_isRound, Cond.static yX0_isRound, Cond.initialized RX0, Cond.code yX0_isRound cX0_isRound 1 (some .boolean), Cond.methodLink RX0 68 yX0_isWithin, Cond.static yX0_isWithin, Cond.code yX0_isWithin cX0_isWithin 3 (some .boolean), Cond.methodLink RX0 79 yX0_isPlayer, Cond.instanceMethod yX0_isPlayer, Cond.selects RX0 yX0_isPlayer yX0_isPlayer, Cond.code yX0_isPlayer cX0_isPlayer 2 (some .boolean), Cond.fieldLink RX0 7 "PianoJury" "players" "I", Cond.methodLink RX0 94 yX0_isWay, Cond.static yX0_isWay, Cond.code yX0_isWay cX0_isWay 1 (some .boolean), Cond.methodLink RX0 103 yX0_fillScores, Cond.instanceMethod yX0_fillScores, Cond.selects RX0 yX0_fillScores yX0_fillScores, Cond.code yX0_fillScores cX0_fillScores 4 none, Cond.methodLink RX0 97 yX0_scoreOf, Cond.instanceMethod yX0_scoreOf, Cond.selects RX0 yX0_scoreOf yX0_scoreOf, Cond.code yX0_scoreOf cX0_scoreOf 5 (some .int)]
def wsX0_place_r2 : List Cond := [Cond.constant RX0 195 (88200), Cond.fieldLink RX0 47 "PianoJury" "sorted" "[I", Cond.constant RX0 196 (176400), Cond.methodLink RX0 189 yX0_sortMarks, Cond.instanceMethod yX0_sortMarks, Cond.selects RX0 yX0_sortMarks yX0_sortMarks, Cond.code yX0_sortMarks cX0_sortMarks 6 (some .int), Cond.fieldLink RX0 13 "PianoJury" "jurors" "I", Cond.methodLink RX0 186 yX0_countedMark, Cond.instanceMethod yX0_countedMark, Cond.selects RX0 yX0_countedMark yX0_countedMark, Cond.code yX0_countedMark cX0_countedMark 4 (some .int), Cond.fieldLink RX0 23 "PianoJury" "pupils" "[I", Cond.fieldLink RX0 16 "PianoJury" "marks" "[I", Cond.methodLink RX0 90 yX0_pupilCellOf, Cond.static yX0_pupilCellOf, Cond.code yX0_pupilCellOf cX0_pupilCellOf 2 (some .int), Cond.methodLink RX0 82 yX0_cellOf, Cond.static yX0_cellOf, Cond.code yX0_cellOf cX0_cellOf 3 (some .int), Cond.methodLink RX0 209 yX0_insertMark, Cond.instanceMethod yX0_insertMark, Cond.selects RX0 yX0_insertMark yX0_insertMark, Cond.code yX0_insertMark cX0_insertMark 4 none]
def wsX0_place_r3 : List Cond := [Cond.methodLink RX0 192 yX0_cutMean, Cond.instanceMethod yX0_cutMean, Cond.selects RX0 yX0_cutMean yX0_cutMean, Cond.code yX0_cutMean cX0_cutMean 3 (some .int), Cond.fieldLink RX0 26 "PianoJury" "rules" "[I", Cond.methodLink RX0 206 yX0_meanBetween, Cond.instanceMethod yX0_meanBetween, Cond.selects RX0 yX0_meanBetween yX0_meanBetween, Cond.code yX0_meanBetween cX0_meanBetween 3 (some .int), Cond.methodLink RX0 212 yX0_sumBetween, Cond.instanceMethod yX0_sumBetween, Cond.selects RX0 yX0_sumBetween yX0_sumBetween, Cond.code yX0_sumBetween cX0_sumBetween 5 (some .int), Cond.methodLink RX0 197 yX0_countYeses, Cond.instanceMethod yX0_countYeses, Cond.selects RX0 yX0_countYeses yX0_countYeses, Cond.code yX0_countYeses cX0_countYeses 5 (some .int), Cond.fieldLink RX0 20 "PianoJury" "yeses" "[I", Cond.methodLink RX0 200 yX0_pairScore, Cond.instanceMethod yX0_pairScore, Cond.selects RX0 yX0_pairScore yX0_pairScore, Cond.code yX0_pairScore cX0_pairScore 5 (some .int), Cond.methodLink RX0 223 yX0_isMarked, Cond.instanceMethod yX0_isMarked]
def wsX0_place_r4 : List Cond := [Cond.selects RX0 yX0_isMarked yX0_isMarked, Cond.code yX0_isMarked cX0_isMarked 4 (some .boolean), Cond.methodLink RX0 100 yX0_duel, Cond.instanceMethod yX0_duel, Cond.selects RX0 yX0_duel yX0_duel, Cond.code yX0_duel cX0_duel 8 (some .int), Cond.methodLink RX0 226 yJ6_compare_7cf53, Cond.static yJ6_compare_7cf53, Cond.initialized RJ6, Cond.code yJ6_compare_7cf53 cJ6_compare_7cf53 2 (some .int), Cond.methodLink RX0 203 yX0_pulledMean, Cond.instanceMethod yX0_pulledMean, Cond.selects RX0 yX0_pulledMean yX0_pulledMean, Cond.code yX0_pulledMean cX0_pulledMean 7 (some .int), Cond.methodLink RX0 215 Lib.Math.max.name, Cond.static Lib.Math.max.name, Cond.initialized "java/lang/Math", Cond.code Lib.Math.max.name Lib.Math.max.code 2 (some .int), Cond.methodLink RX0 220 Lib.Math.min.name, Cond.static Lib.Math.min.name, Cond.code Lib.Math.min.name Lib.Math.min.code 2 (some .int), Cond.methodLink RX0 107 yX0_placeIn, Cond.instanceMethod yX0_placeIn, Cond.selects RX0 yX0_placeIn yX0_placeIn]
def wsX0_place_r5 : List Cond := [Cond.code yX0_placeIn cX0_placeIn 5 (some .int)]
def wsX0_place : List Cond := .code yX0_place cX0_place 4 (some .int) :: ((wsX0_place_r1 ++ (wsX0_place_r2 ++ (wsX0_place_r3 ++ (wsX0_place_r4 ++ wsX0_place_r5)))) ++ wsX00)
def wsX0_isLimit : List Cond := .code yX0_isLimit cX0_isLimit 1 (some .boolean) :: ([.methodLink RX0 68 yX0_isWithin, .static yX0_isWithin, .initialized RX0, .code yX0_isWithin cX0_isWithin 3 (some .boolean)])
def wsX0_passesIn : List Cond := .code yX0_passesIn cX0_passesIn 4 (some .boolean) :: ([.methodLink RX0 107 yX0_placeIn, .instanceMethod yX0_placeIn, .selects RX0 yX0_placeIn yX0_placeIn, .initialized RX0, .code yX0_placeIn cX0_placeIn 5 (some .int), .fieldLink RX0 7 "PianoJury" "players" "I"] ++ wsX00)
def wsX0_passedBits_r1 : List Cond := [Cond.fieldLink RX0 7 "PianoJury" "players" "I", Cond.fieldLink RX0 50 "PianoJury" "scores" "[I", Cond.methodLink RX0 103 yX0_fillScores, Cond.instanceMethod yX0_fillScores, Cond.selects RX0 yX0_fillScores yX0_fillScores, Cond.initialized RX0, Cond.code yX0_fillScores cX0_fillScores 4 none, Cond.methodLink RX0 97 yX0_scoreOf, Cond.instanceMethod yX0_scoreOf, Cond.selects RX0 yX0_scoreOf yX0_scoreOf, Cond.code yX0_scoreOf cX0_scoreOf 5 (some .int), Cond.constant RX0 195 (88200), Cond.fieldLink RX0 47 "PianoJury" "sorted" "[I", Cond.constant RX0 196 (176400), Cond.methodLink RX0 189 yX0_sortMarks, Cond.instanceMethod yX0_sortMarks, Cond.selects RX0 yX0_sortMarks yX0_sortMarks, Cond.code yX0_sortMarks cX0_sortMarks 6 (some .int), Cond.fieldLink RX0 13 "PianoJury" "jurors" "I", Cond.methodLink RX0 186 yX0_countedMark, Cond.instanceMethod yX0_countedMark, Cond.selects RX0 yX0_countedMark yX0_countedMark, Cond.code yX0_countedMark cX0_countedMark 4 (some .int), Cond.fieldLink RX0 23 "PianoJury" "pupils" "[I"]
def wsX0_passedBits_r2 : List Cond := [Cond.fieldLink RX0 16 "PianoJury" "marks" "[I", Cond.methodLink RX0 90 yX0_pupilCellOf, Cond.static yX0_pupilCellOf, Cond.code yX0_pupilCellOf cX0_pupilCellOf 2 (some .int), Cond.methodLink RX0 82 yX0_cellOf, Cond.static yX0_cellOf, Cond.code yX0_cellOf cX0_cellOf 3 (some .int), Cond.methodLink RX0 209 yX0_insertMark, Cond.instanceMethod yX0_insertMark, Cond.selects RX0 yX0_insertMark yX0_insertMark, Cond.code yX0_insertMark cX0_insertMark 4 none, Cond.methodLink RX0 192 yX0_cutMean, Cond.instanceMethod yX0_cutMean, Cond.selects RX0 yX0_cutMean yX0_cutMean, Cond.code yX0_cutMean cX0_cutMean 3 (some .int), Cond.fieldLink RX0 26 "PianoJury" "rules" "[I", Cond.methodLink RX0 206 yX0_meanBetween, Cond.instanceMethod yX0_meanBetween, Cond.selects RX0 yX0_meanBetween yX0_meanBetween, Cond.code yX0_meanBetween cX0_meanBetween 3 (some .int), Cond.methodLink RX0 212 yX0_sumBetween, Cond.instanceMethod yX0_sumBetween, Cond.selects RX0 yX0_sumBetween yX0_sumBetween, Cond.code yX0_sumBetween cX0_sumBetween 5 (some .int)]
def wsX0_passedBits_r3 : List Cond := [Cond.methodLink RX0 197 yX0_countYeses, Cond.instanceMethod yX0_countYeses, Cond.selects RX0 yX0_countYeses yX0_countYeses, Cond.code yX0_countYeses cX0_countYeses 5 (some .int), Cond.fieldLink RX0 20 "PianoJury" "yeses" "[I", Cond.methodLink RX0 200 yX0_pairScore, Cond.instanceMethod yX0_pairScore, Cond.selects RX0 yX0_pairScore yX0_pairScore, Cond.code yX0_pairScore cX0_pairScore 5 (some .int), Cond.methodLink RX0 223 yX0_isMarked, Cond.instanceMethod yX0_isMarked, Cond.selects RX0 yX0_isMarked yX0_isMarked, Cond.code yX0_isMarked cX0_isMarked 4 (some .boolean), Cond.methodLink RX0 100 yX0_duel, Cond.instanceMethod yX0_duel, Cond.selects RX0 yX0_duel yX0_duel, Cond.code yX0_duel cX0_duel 8 (some .int), Cond.methodLink RX0 226 yJ6_compare_7cf53, Cond.static yJ6_compare_7cf53, Cond.initialized RJ6, Cond.code yJ6_compare_7cf53 cJ6_compare_7cf53 2 (some .int), Cond.methodLink RX0 203 yX0_pulledMean, Cond.instanceMethod yX0_pulledMean, Cond.selects RX0 yX0_pulledMean yX0_pulledMean]
def wsX0_passedBits_r4 : List Cond := [Cond.code yX0_pulledMean cX0_pulledMean 7 (some .int), Cond.methodLink RX0 215 Lib.Math.max.name, Cond.static Lib.Math.max.name, Cond.initialized "java/lang/Math", Cond.code Lib.Math.max.name Lib.Math.max.code 2 (some .int), Cond.methodLink RX0 220 Lib.Math.min.name, Cond.static Lib.Math.min.name, Cond.code Lib.Math.min.name Lib.Math.min.code 2 (some .int), Cond.methodLink RX0 131 yX0_passesIn, Cond.instanceMethod yX0_passesIn, Cond.selects RX0 yX0_passesIn yX0_passesIn, Cond.code yX0_passesIn cX0_passesIn 4 (some .boolean), Cond.methodLink RX0 107 yX0_placeIn, Cond.instanceMethod yX0_placeIn, Cond.selects RX0 yX0_placeIn yX0_placeIn, Cond.code yX0_placeIn cX0_placeIn 5 (some .int)]
def wsX0_passedBits : List Cond := .code yX0_passedBits cX0_passedBits 6 (some .int) :: ((wsX0_passedBits_r1 ++ (wsX0_passedBits_r2 ++ (wsX0_passedBits_r3 ++ wsX0_passedBits_r4))) ++ wsX00)
def wsX0_passed_r1 : List Cond := [Cond.methodLink RX0 72 yX0_isRound, Cond.static yX0_isRound, Cond.initialized RX0, Cond.code yX0_isRound cX0_isRound 1 (some .boolean), Cond.methodLink RX0 68 yX0_isWithin, Cond.static yX0_isWithin, Cond.code yX0_isWithin cX0_isWithin 3 (some .boolean), Cond.methodLink RX0 94 yX0_isWay, Cond.static yX0_isWay, Cond.code yX0_isWay cX0_isWay 1 (some .boolean), Cond.methodLink RX0 111 yX0_isLimit, Cond.static yX0_isLimit, Cond.code yX0_isLimit cX0_isLimit 1 (some .boolean), Cond.methodLink RX0 114 yX0_passedBits, Cond.instanceMethod yX0_passedBits, Cond.selects RX0 yX0_passedBits yX0_passedBits, Cond.code yX0_passedBits cX0_passedBits 6 (some .int), Cond.fieldLink RX0 7 "PianoJury" "players" "I", Cond.fieldLink RX0 50 "PianoJury" "scores" "[I", Cond.methodLink RX0 103 yX0_fillScores, Cond.instanceMethod yX0_fillScores, Cond.selects RX0 yX0_fillScores yX0_fillScores, Cond.code yX0_fillScores cX0_fillScores 4 none, Cond.methodLink RX0 97 yX0_scoreOf]
def wsX0_passed_r2 : List Cond := [Cond.instanceMethod yX0_scoreOf, Cond.selects RX0 yX0_scoreOf yX0_scoreOf, Cond.code yX0_scoreOf cX0_scoreOf 5 (some .int), Cond.constant RX0 195 (88200), Cond.fieldLink RX0 47 "PianoJury" "sorted" "[I", Cond.constant RX0 196 (176400), Cond.methodLink RX0 189 yX0_sortMarks, Cond.instanceMethod yX0_sortMarks, Cond.selects RX0 yX0_sortMarks yX0_sortMarks, Cond.code yX0_sortMarks cX0_sortMarks 6 (some .int), Cond.fieldLink RX0 13 "PianoJury" "jurors" "I", Cond.methodLink RX0 186 yX0_countedMark, Cond.instanceMethod yX0_countedMark, Cond.selects RX0 yX0_countedMark yX0_countedMark, Cond.code yX0_countedMark cX0_countedMark 4 (some .int), Cond.fieldLink RX0 23 "PianoJury" "pupils" "[I", Cond.fieldLink RX0 16 "PianoJury" "marks" "[I", Cond.methodLink RX0 90 yX0_pupilCellOf, Cond.static yX0_pupilCellOf, Cond.code yX0_pupilCellOf cX0_pupilCellOf 2 (some .int), Cond.methodLink RX0 82 yX0_cellOf, Cond.static yX0_cellOf, Cond.code yX0_cellOf cX0_cellOf 3 (some .int), Cond.methodLink RX0 209 yX0_insertMark]
def wsX0_passed_r3 : List Cond := [Cond.instanceMethod yX0_insertMark, Cond.selects RX0 yX0_insertMark yX0_insertMark, Cond.code yX0_insertMark cX0_insertMark 4 none, Cond.methodLink RX0 192 yX0_cutMean, Cond.instanceMethod yX0_cutMean, Cond.selects RX0 yX0_cutMean yX0_cutMean, Cond.code yX0_cutMean cX0_cutMean 3 (some .int), Cond.fieldLink RX0 26 "PianoJury" "rules" "[I", Cond.methodLink RX0 206 yX0_meanBetween, Cond.instanceMethod yX0_meanBetween, Cond.selects RX0 yX0_meanBetween yX0_meanBetween, Cond.code yX0_meanBetween cX0_meanBetween 3 (some .int), Cond.methodLink RX0 212 yX0_sumBetween, Cond.instanceMethod yX0_sumBetween, Cond.selects RX0 yX0_sumBetween yX0_sumBetween, Cond.code yX0_sumBetween cX0_sumBetween 5 (some .int), Cond.methodLink RX0 197 yX0_countYeses, Cond.instanceMethod yX0_countYeses, Cond.selects RX0 yX0_countYeses yX0_countYeses, Cond.code yX0_countYeses cX0_countYeses 5 (some .int), Cond.fieldLink RX0 20 "PianoJury" "yeses" "[I", Cond.methodLink RX0 200 yX0_pairScore, Cond.instanceMethod yX0_pairScore, Cond.selects RX0 yX0_pairScore yX0_pairScore]
def wsX0_passed_r4 : List Cond := [Cond.code yX0_pairScore cX0_pairScore 5 (some .int), Cond.methodLink RX0 223 yX0_isMarked, Cond.instanceMethod yX0_isMarked, Cond.selects RX0 yX0_isMarked yX0_isMarked, Cond.code yX0_isMarked cX0_isMarked 4 (some .boolean), Cond.methodLink RX0 100 yX0_duel, Cond.instanceMethod yX0_duel, Cond.selects RX0 yX0_duel yX0_duel, Cond.code yX0_duel cX0_duel 8 (some .int), Cond.methodLink RX0 226 yJ6_compare_7cf53, Cond.static yJ6_compare_7cf53, Cond.initialized RJ6, Cond.code yJ6_compare_7cf53 cJ6_compare_7cf53 2 (some .int), Cond.methodLink RX0 203 yX0_pulledMean, Cond.instanceMethod yX0_pulledMean, Cond.selects RX0 yX0_pulledMean yX0_pulledMean, Cond.code yX0_pulledMean cX0_pulledMean 7 (some .int), Cond.methodLink RX0 215 Lib.Math.max.name, Cond.static Lib.Math.max.name, Cond.initialized "java/lang/Math", Cond.code Lib.Math.max.name Lib.Math.max.code 2 (some .int), Cond.methodLink RX0 220 Lib.Math.min.name, Cond.static Lib.Math.min.name, Cond.code Lib.Math.min.name Lib.Math.min.code 2 (some .int)]
def wsX0_passed_r5 : List Cond := [Cond.methodLink RX0 131 yX0_passesIn, Cond.instanceMethod yX0_passesIn, Cond.selects RX0 yX0_passesIn yX0_passesIn, Cond.code yX0_passesIn cX0_passesIn 4 (some .boolean), Cond.methodLink RX0 107 yX0_placeIn, Cond.instanceMethod yX0_placeIn, Cond.selects RX0 yX0_placeIn yX0_placeIn, Cond.code yX0_placeIn cX0_placeIn 5 (some .int)]
def wsX0_passed : List Cond := .code yX0_passed cX0_passed 4 (some .int) :: ((wsX0_passed_r1 ++ (wsX0_passed_r2 ++ (wsX0_passed_r3 ++ (wsX0_passed_r4 ++ wsX0_passed_r5)))) ++ wsX00)
def wsJ6_bitCount_0f7a4 : List Cond := .code yJ6_bitCount_0f7a4 cJ6_bitCount_0f7a4 1 (some .int) :: ([.constant RJ6 265 (1431655765), .constant RJ6 266 (858993459), .constant RJ6 267 (252645135)])
def wsX0_differ_r1 : List Cond := [Cond.methodLink RX0 72 yX0_isRound, Cond.static yX0_isRound, Cond.initialized RX0, Cond.code yX0_isRound cX0_isRound 1 (some .boolean), Cond.methodLink RX0 68 yX0_isWithin, Cond.static yX0_isWithin, Cond.code yX0_isWithin cX0_isWithin 3 (some .boolean), Cond.methodLink RX0 94 yX0_isWay, Cond.static yX0_isWay, Cond.code yX0_isWay cX0_isWay 1 (some .boolean), Cond.methodLink RX0 111 yX0_isLimit, Cond.static yX0_isLimit, Cond.code yX0_isLimit cX0_isLimit 1 (some .boolean), Cond.methodLink RX0 114 yX0_passedBits, Cond.instanceMethod yX0_passedBits, Cond.selects RX0 yX0_passedBits yX0_passedBits, Cond.code yX0_passedBits cX0_passedBits 6 (some .int), Cond.fieldLink RX0 7 "PianoJury" "players" "I", Cond.fieldLink RX0 50 "PianoJury" "scores" "[I", Cond.methodLink RX0 103 yX0_fillScores, Cond.instanceMethod yX0_fillScores, Cond.selects RX0 yX0_fillScores yX0_fillScores, Cond.code yX0_fillScores cX0_fillScores 4 none, Cond.methodLink RX0 97 yX0_scoreOf]
def wsX0_differ_r2 : List Cond := [Cond.instanceMethod yX0_scoreOf, Cond.selects RX0 yX0_scoreOf yX0_scoreOf, Cond.code yX0_scoreOf cX0_scoreOf 5 (some .int), Cond.constant RX0 195 (88200), Cond.fieldLink RX0 47 "PianoJury" "sorted" "[I", Cond.constant RX0 196 (176400), Cond.methodLink RX0 189 yX0_sortMarks, Cond.instanceMethod yX0_sortMarks, Cond.selects RX0 yX0_sortMarks yX0_sortMarks, Cond.code yX0_sortMarks cX0_sortMarks 6 (some .int), Cond.fieldLink RX0 13 "PianoJury" "jurors" "I", Cond.methodLink RX0 186 yX0_countedMark, Cond.instanceMethod yX0_countedMark, Cond.selects RX0 yX0_countedMark yX0_countedMark, Cond.code yX0_countedMark cX0_countedMark 4 (some .int), Cond.fieldLink RX0 23 "PianoJury" "pupils" "[I", Cond.fieldLink RX0 16 "PianoJury" "marks" "[I", Cond.methodLink RX0 90 yX0_pupilCellOf, Cond.static yX0_pupilCellOf, Cond.code yX0_pupilCellOf cX0_pupilCellOf 2 (some .int), Cond.methodLink RX0 82 yX0_cellOf, Cond.static yX0_cellOf, Cond.code yX0_cellOf cX0_cellOf 3 (some .int), Cond.methodLink RX0 209 yX0_insertMark]
def wsX0_differ_r3 : List Cond := [Cond.instanceMethod yX0_insertMark, Cond.selects RX0 yX0_insertMark yX0_insertMark, Cond.code yX0_insertMark cX0_insertMark 4 none, Cond.methodLink RX0 192 yX0_cutMean, Cond.instanceMethod yX0_cutMean, Cond.selects RX0 yX0_cutMean yX0_cutMean, Cond.code yX0_cutMean cX0_cutMean 3 (some .int), Cond.fieldLink RX0 26 "PianoJury" "rules" "[I", Cond.methodLink RX0 206 yX0_meanBetween, Cond.instanceMethod yX0_meanBetween, Cond.selects RX0 yX0_meanBetween yX0_meanBetween, Cond.code yX0_meanBetween cX0_meanBetween 3 (some .int), Cond.methodLink RX0 212 yX0_sumBetween, Cond.instanceMethod yX0_sumBetween, Cond.selects RX0 yX0_sumBetween yX0_sumBetween, Cond.code yX0_sumBetween cX0_sumBetween 5 (some .int), Cond.methodLink RX0 197 yX0_countYeses, Cond.instanceMethod yX0_countYeses, Cond.selects RX0 yX0_countYeses yX0_countYeses, Cond.code yX0_countYeses cX0_countYeses 5 (some .int), Cond.fieldLink RX0 20 "PianoJury" "yeses" "[I", Cond.methodLink RX0 200 yX0_pairScore, Cond.instanceMethod yX0_pairScore, Cond.selects RX0 yX0_pairScore yX0_pairScore]
def wsX0_differ_r4 : List Cond := [Cond.code yX0_pairScore cX0_pairScore 5 (some .int), Cond.methodLink RX0 223 yX0_isMarked, Cond.instanceMethod yX0_isMarked, Cond.selects RX0 yX0_isMarked yX0_isMarked, Cond.code yX0_isMarked cX0_isMarked 4 (some .boolean), Cond.methodLink RX0 100 yX0_duel, Cond.instanceMethod yX0_duel, Cond.selects RX0 yX0_duel yX0_duel, Cond.code yX0_duel cX0_duel 8 (some .int), Cond.methodLink RX0 226 yJ6_compare_7cf53, Cond.static yJ6_compare_7cf53, Cond.initialized RJ6, Cond.code yJ6_compare_7cf53 cJ6_compare_7cf53 2 (some .int), Cond.methodLink RX0 203 yX0_pulledMean, Cond.instanceMethod yX0_pulledMean, Cond.selects RX0 yX0_pulledMean yX0_pulledMean, Cond.code yX0_pulledMean cX0_pulledMean 7 (some .int), Cond.methodLink RX0 215 Lib.Math.max.name, Cond.static Lib.Math.max.name, Cond.initialized "java/lang/Math", Cond.code Lib.Math.max.name Lib.Math.max.code 2 (some .int), Cond.methodLink RX0 220 Lib.Math.min.name, Cond.static Lib.Math.min.name, Cond.code Lib.Math.min.name Lib.Math.min.code 2 (some .int)]
def wsX0_differ_r5 : List Cond := [Cond.methodLink RX0 131 yX0_passesIn, Cond.instanceMethod yX0_passesIn, Cond.selects RX0 yX0_passesIn yX0_passesIn, Cond.code yX0_passesIn cX0_passesIn 4 (some .boolean), Cond.methodLink RX0 107 yX0_placeIn, Cond.instanceMethod yX0_placeIn, Cond.selects RX0 yX0_placeIn yX0_placeIn, Cond.code yX0_placeIn cX0_placeIn 5 (some .int), Cond.methodLink RX0 117 yJ6_bitCount_0f7a4, Cond.static yJ6_bitCount_0f7a4, Cond.code yJ6_bitCount_0f7a4 cJ6_bitCount_0f7a4 1 (some .int), Cond.constant RJ6 265 (1431655765), Cond.constant RJ6 266 (858993459), Cond.constant RJ6 267 (252645135)]
def wsX0_differ : List Cond := .code yX0_differ cX0_differ 5 (some .int) :: ((wsX0_differ_r1 ++ (wsX0_differ_r2 ++ (wsX0_differ_r3 ++ (wsX0_differ_r4 ++ wsX0_differ_r5)))) ++ wsX00)
def wsX0_isPupil : List Cond := .code yX0_isPupil cX0_isPupil 3 (some .boolean) :: ([.fieldLink RX0 23 "PianoJury" "pupils" "[I", .methodLink RX0 90 yX0_pupilCellOf, .static yX0_pupilCellOf, .initialized RX0, .code yX0_pupilCellOf cX0_pupilCellOf 2 (some .int)] ++ wsX00)
def wsX0_fillScoresIf_r1 : List Cond := [Cond.fieldLink RX0 16 "PianoJury" "marks" "[I", Cond.fieldLink RX0 20 "PianoJury" "yeses" "[I", Cond.methodLink RX0 82 yX0_cellOf, Cond.static yX0_cellOf, Cond.initialized RX0, Cond.code yX0_cellOf cX0_cellOf 3 (some .int), Cond.methodLink RX0 103 yX0_fillScores, Cond.instanceMethod yX0_fillScores, Cond.selects RX0 yX0_fillScores yX0_fillScores, Cond.code yX0_fillScores cX0_fillScores 4 none, Cond.fieldLink RX0 7 "PianoJury" "players" "I", Cond.fieldLink RX0 50 "PianoJury" "scores" "[I", Cond.methodLink RX0 97 yX0_scoreOf, Cond.instanceMethod yX0_scoreOf, Cond.selects RX0 yX0_scoreOf yX0_scoreOf, Cond.code yX0_scoreOf cX0_scoreOf 5 (some .int), Cond.constant RX0 195 (88200), Cond.fieldLink RX0 47 "PianoJury" "sorted" "[I", Cond.constant RX0 196 (176400), Cond.methodLink RX0 189 yX0_sortMarks, Cond.instanceMethod yX0_sortMarks, Cond.selects RX0 yX0_sortMarks yX0_sortMarks, Cond.code yX0_sortMarks cX0_sortMarks 6 (some .int), Cond.fieldLink RX0 13 "PianoJury" "jurors" "I"]
def wsX0_fillScoresIf_r2 : List Cond := [Cond.methodLink RX0 186 yX0_countedMark, Cond.instanceMethod yX0_countedMark, Cond.selects RX0 yX0_countedMark yX0_countedMark, Cond.code yX0_countedMark cX0_countedMark 4 (some .int), Cond.fieldLink RX0 23 "PianoJury" "pupils" "[I", Cond.methodLink RX0 90 yX0_pupilCellOf, Cond.static yX0_pupilCellOf, Cond.code yX0_pupilCellOf cX0_pupilCellOf 2 (some .int), Cond.methodLink RX0 209 yX0_insertMark, Cond.instanceMethod yX0_insertMark, Cond.selects RX0 yX0_insertMark yX0_insertMark, Cond.code yX0_insertMark cX0_insertMark 4 none, Cond.methodLink RX0 192 yX0_cutMean, Cond.instanceMethod yX0_cutMean, Cond.selects RX0 yX0_cutMean yX0_cutMean, Cond.code yX0_cutMean cX0_cutMean 3 (some .int), Cond.fieldLink RX0 26 "PianoJury" "rules" "[I", Cond.methodLink RX0 206 yX0_meanBetween, Cond.instanceMethod yX0_meanBetween, Cond.selects RX0 yX0_meanBetween yX0_meanBetween, Cond.code yX0_meanBetween cX0_meanBetween 3 (some .int), Cond.methodLink RX0 212 yX0_sumBetween, Cond.instanceMethod yX0_sumBetween, Cond.selects RX0 yX0_sumBetween yX0_sumBetween]
def wsX0_fillScoresIf_r3 : List Cond := [Cond.code yX0_sumBetween cX0_sumBetween 5 (some .int), Cond.methodLink RX0 197 yX0_countYeses, Cond.instanceMethod yX0_countYeses, Cond.selects RX0 yX0_countYeses yX0_countYeses, Cond.code yX0_countYeses cX0_countYeses 5 (some .int), Cond.methodLink RX0 200 yX0_pairScore, Cond.instanceMethod yX0_pairScore, Cond.selects RX0 yX0_pairScore yX0_pairScore, Cond.code yX0_pairScore cX0_pairScore 5 (some .int), Cond.methodLink RX0 223 yX0_isMarked, Cond.instanceMethod yX0_isMarked, Cond.selects RX0 yX0_isMarked yX0_isMarked, Cond.code yX0_isMarked cX0_isMarked 4 (some .boolean), Cond.methodLink RX0 100 yX0_duel, Cond.instanceMethod yX0_duel, Cond.selects RX0 yX0_duel yX0_duel, Cond.code yX0_duel cX0_duel 8 (some .int), Cond.methodLink RX0 226 yJ6_compare_7cf53, Cond.static yJ6_compare_7cf53, Cond.initialized RJ6, Cond.code yJ6_compare_7cf53 cJ6_compare_7cf53 2 (some .int), Cond.methodLink RX0 203 yX0_pulledMean, Cond.instanceMethod yX0_pulledMean, Cond.selects RX0 yX0_pulledMean yX0_pulledMean]
def wsX0_fillScoresIf_r4 : List Cond := [Cond.code yX0_pulledMean cX0_pulledMean 7 (some .int), Cond.methodLink RX0 215 Lib.Math.max.name, Cond.static Lib.Math.max.name, Cond.initialized "java/lang/Math", Cond.code Lib.Math.max.name Lib.Math.max.code 2 (some .int), Cond.methodLink RX0 220 Lib.Math.min.name, Cond.static Lib.Math.min.name, Cond.code Lib.Math.min.name Lib.Math.min.code 2 (some .int)]
def wsX0_fillScoresIf : List Cond := .code yX0_fillScoresIf cX0_fillScoresIf 9 none :: ((wsX0_fillScoresIf_r1 ++ (wsX0_fillScoresIf_r2 ++ (wsX0_fillScoresIf_r3 ++ wsX0_fillScoresIf_r4))) ++ wsX00)
def wsX0_reach_r1 : List Cond := [Cond.fieldLink RX0 50 "PianoJury" "scores" "[I", Cond.methodLink RX0 72 yX0_isRound, Cond.static yX0_isRound, Cond.initialized RX0, Cond.code yX0_isRound cX0_isRound 1 (some .boolean), Cond.methodLink RX0 68 yX0_isWithin, Cond.static yX0_isWithin, Cond.code yX0_isWithin cX0_isWithin 3 (some .boolean), Cond.methodLink RX0 76 yX0_isJuror, Cond.instanceMethod yX0_isJuror, Cond.selects RX0 yX0_isJuror yX0_isJuror, Cond.code yX0_isJuror cX0_isJuror 2 (some .boolean), Cond.fieldLink RX0 13 "PianoJury" "jurors" "I", Cond.methodLink RX0 79 yX0_isPlayer, Cond.instanceMethod yX0_isPlayer, Cond.selects RX0 yX0_isPlayer yX0_isPlayer, Cond.code yX0_isPlayer cX0_isPlayer 2 (some .boolean), Cond.fieldLink RX0 7 "PianoJury" "players" "I", Cond.methodLink RX0 94 yX0_isWay, Cond.static yX0_isWay, Cond.code yX0_isWay cX0_isWay 1 (some .boolean), Cond.methodLink RX0 123 yX0_isPupil, Cond.instanceMethod yX0_isPupil, Cond.selects RX0 yX0_isPupil yX0_isPupil]
def wsX0_reach_r2 : List Cond := [Cond.code yX0_isPupil cX0_isPupil 3 (some .boolean), Cond.fieldLink RX0 23 "PianoJury" "pupils" "[I", Cond.methodLink RX0 90 yX0_pupilCellOf, Cond.static yX0_pupilCellOf, Cond.code yX0_pupilCellOf cX0_pupilCellOf 2 (some .int), Cond.methodLink RX0 127 yX0_fillScoresIf, Cond.instanceMethod yX0_fillScoresIf, Cond.selects RX0 yX0_fillScoresIf yX0_fillScoresIf, Cond.code yX0_fillScoresIf cX0_fillScoresIf 9 none, Cond.fieldLink RX0 16 "PianoJury" "marks" "[I", Cond.fieldLink RX0 20 "PianoJury" "yeses" "[I", Cond.methodLink RX0 82 yX0_cellOf, Cond.static yX0_cellOf, Cond.code yX0_cellOf cX0_cellOf 3 (some .int), Cond.methodLink RX0 103 yX0_fillScores, Cond.instanceMethod yX0_fillScores, Cond.selects RX0 yX0_fillScores yX0_fillScores, Cond.code yX0_fillScores cX0_fillScores 4 none, Cond.methodLink RX0 97 yX0_scoreOf, Cond.instanceMethod yX0_scoreOf, Cond.selects RX0 yX0_scoreOf yX0_scoreOf, Cond.code yX0_scoreOf cX0_scoreOf 5 (some .int), Cond.constant RX0 195 (88200), Cond.fieldLink RX0 47 "PianoJury" "sorted" "[I"]
def wsX0_reach_r3 : List Cond := [Cond.constant RX0 196 (176400), Cond.methodLink RX0 189 yX0_sortMarks, Cond.instanceMethod yX0_sortMarks, Cond.selects RX0 yX0_sortMarks yX0_sortMarks, Cond.code yX0_sortMarks cX0_sortMarks 6 (some .int), Cond.methodLink RX0 186 yX0_countedMark, Cond.instanceMethod yX0_countedMark, Cond.selects RX0 yX0_countedMark yX0_countedMark, Cond.code yX0_countedMark cX0_countedMark 4 (some .int), Cond.methodLink RX0 209 yX0_insertMark, Cond.instanceMethod yX0_insertMark, Cond.selects RX0 yX0_insertMark yX0_insertMark, Cond.code yX0_insertMark cX0_insertMark 4 none, Cond.methodLink RX0 192 yX0_cutMean, Cond.instanceMethod yX0_cutMean, Cond.selects RX0 yX0_cutMean yX0_cutMean, Cond.code yX0_cutMean cX0_cutMean 3 (some .int), Cond.fieldLink RX0 26 "PianoJury" "rules" "[I", Cond.methodLink RX0 206 yX0_meanBetween, Cond.instanceMethod yX0_meanBetween, Cond.selects RX0 yX0_meanBetween yX0_meanBetween, Cond.code yX0_meanBetween cX0_meanBetween 3 (some .int), Cond.methodLink RX0 212 yX0_sumBetween, Cond.instanceMethod yX0_sumBetween]
def wsX0_reach_r4 : List Cond := [Cond.selects RX0 yX0_sumBetween yX0_sumBetween, Cond.code yX0_sumBetween cX0_sumBetween 5 (some .int), Cond.methodLink RX0 197 yX0_countYeses, Cond.instanceMethod yX0_countYeses, Cond.selects RX0 yX0_countYeses yX0_countYeses, Cond.code yX0_countYeses cX0_countYeses 5 (some .int), Cond.methodLink RX0 200 yX0_pairScore, Cond.instanceMethod yX0_pairScore, Cond.selects RX0 yX0_pairScore yX0_pairScore, Cond.code yX0_pairScore cX0_pairScore 5 (some .int), Cond.methodLink RX0 223 yX0_isMarked, Cond.instanceMethod yX0_isMarked, Cond.selects RX0 yX0_isMarked yX0_isMarked, Cond.code yX0_isMarked cX0_isMarked 4 (some .boolean), Cond.methodLink RX0 100 yX0_duel, Cond.instanceMethod yX0_duel, Cond.selects RX0 yX0_duel yX0_duel, Cond.code yX0_duel cX0_duel 8 (some .int), Cond.methodLink RX0 226 yJ6_compare_7cf53, Cond.static yJ6_compare_7cf53, Cond.initialized RJ6, Cond.code yJ6_compare_7cf53 cJ6_compare_7cf53 2 (some .int), Cond.methodLink RX0 203 yX0_pulledMean, Cond.instanceMethod yX0_pulledMean]
def wsX0_reach_r5 : List Cond := [Cond.selects RX0 yX0_pulledMean yX0_pulledMean, Cond.code yX0_pulledMean cX0_pulledMean 7 (some .int), Cond.methodLink RX0 215 Lib.Math.max.name, Cond.static Lib.Math.max.name, Cond.initialized "java/lang/Math", Cond.code Lib.Math.max.name Lib.Math.max.code 2 (some .int), Cond.methodLink RX0 220 Lib.Math.min.name, Cond.static Lib.Math.min.name, Cond.code Lib.Math.min.name Lib.Math.min.code 2 (some .int), Cond.methodLink RX0 107 yX0_placeIn, Cond.instanceMethod yX0_placeIn, Cond.selects RX0 yX0_placeIn yX0_placeIn, Cond.code yX0_placeIn cX0_placeIn 5 (some .int)]
def wsX0_reach : List Cond := .code yX0_reach cX0_reach 6 (some .int) :: ((wsX0_reach_r1 ++ (wsX0_reach_r2 ++ (wsX0_reach_r3 ++ (wsX0_reach_r4 ++ wsX0_reach_r5)))) ++ wsX00)
def wsX0_sway_r1 : List Cond := [Cond.fieldLink RX0 7 "PianoJury" "players" "I", Cond.fieldLink RX0 50 "PianoJury" "scores" "[I", Cond.methodLink RX0 72 yX0_isRound, Cond.static yX0_isRound, Cond.initialized RX0, Cond.code yX0_isRound cX0_isRound 1 (some .boolean), Cond.methodLink RX0 68 yX0_isWithin, Cond.static yX0_isWithin, Cond.code yX0_isWithin cX0_isWithin 3 (some .boolean), Cond.methodLink RX0 76 yX0_isJuror, Cond.instanceMethod yX0_isJuror, Cond.selects RX0 yX0_isJuror yX0_isJuror, Cond.code yX0_isJuror cX0_isJuror 2 (some .boolean), Cond.fieldLink RX0 13 "PianoJury" "jurors" "I", Cond.methodLink RX0 94 yX0_isWay, Cond.static yX0_isWay, Cond.code yX0_isWay cX0_isWay 1 (some .boolean), Cond.methodLink RX0 111 yX0_isLimit, Cond.static yX0_isLimit, Cond.code yX0_isLimit cX0_isLimit 1 (some .boolean), Cond.methodLink RX0 114 yX0_passedBits, Cond.instanceMethod yX0_passedBits, Cond.selects RX0 yX0_passedBits yX0_passedBits, Cond.code yX0_passedBits cX0_passedBits 6 (some .int)]
def wsX0_sway_r2 : List Cond := [Cond.methodLink RX0 103 yX0_fillScores, Cond.instanceMethod yX0_fillScores, Cond.selects RX0 yX0_fillScores yX0_fillScores, Cond.code yX0_fillScores cX0_fillScores 4 none, Cond.methodLink RX0 97 yX0_scoreOf, Cond.instanceMethod yX0_scoreOf, Cond.selects RX0 yX0_scoreOf yX0_scoreOf, Cond.code yX0_scoreOf cX0_scoreOf 5 (some .int), Cond.constant RX0 195 (88200), Cond.fieldLink RX0 47 "PianoJury" "sorted" "[I", Cond.constant RX0 196 (176400), Cond.methodLink RX0 189 yX0_sortMarks, Cond.instanceMethod yX0_sortMarks, Cond.selects RX0 yX0_sortMarks yX0_sortMarks, Cond.code yX0_sortMarks cX0_sortMarks 6 (some .int), Cond.methodLink RX0 186 yX0_countedMark, Cond.instanceMethod yX0_countedMark, Cond.selects RX0 yX0_countedMark yX0_countedMark, Cond.code yX0_countedMark cX0_countedMark 4 (some .int), Cond.fieldLink RX0 23 "PianoJury" "pupils" "[I", Cond.fieldLink RX0 16 "PianoJury" "marks" "[I", Cond.methodLink RX0 90 yX0_pupilCellOf, Cond.static yX0_pupilCellOf, Cond.code yX0_pupilCellOf cX0_pupilCellOf 2 (some .int)]
def wsX0_sway_r3 : List Cond := [Cond.methodLink RX0 82 yX0_cellOf, Cond.static yX0_cellOf, Cond.code yX0_cellOf cX0_cellOf 3 (some .int), Cond.methodLink RX0 209 yX0_insertMark, Cond.instanceMethod yX0_insertMark, Cond.selects RX0 yX0_insertMark yX0_insertMark, Cond.code yX0_insertMark cX0_insertMark 4 none, Cond.methodLink RX0 192 yX0_cutMean, Cond.instanceMethod yX0_cutMean, Cond.selects RX0 yX0_cutMean yX0_cutMean, Cond.code yX0_cutMean cX0_cutMean 3 (some .int), Cond.fieldLink RX0 26 "PianoJury" "rules" "[I", Cond.methodLink RX0 206 yX0_meanBetween, Cond.instanceMethod yX0_meanBetween, Cond.selects RX0 yX0_meanBetween yX0_meanBetween, Cond.code yX0_meanBetween cX0_meanBetween 3 (some .int), Cond.methodLink RX0 212 yX0_sumBetween, Cond.instanceMethod yX0_sumBetween, Cond.selects RX0 yX0_sumBetween yX0_sumBetween, Cond.code yX0_sumBetween cX0_sumBetween 5 (some .int), Cond.methodLink RX0 197 yX0_countYeses, Cond.instanceMethod yX0_countYeses, Cond.selects RX0 yX0_countYeses yX0_countYeses, Cond.code yX0_countYeses cX0_countYeses 5 (some .int)]
def wsX0_sway_r4 : List Cond := [Cond.fieldLink RX0 20 "PianoJury" "yeses" "[I", Cond.methodLink RX0 200 yX0_pairScore, Cond.instanceMethod yX0_pairScore, Cond.selects RX0 yX0_pairScore yX0_pairScore, Cond.code yX0_pairScore cX0_pairScore 5 (some .int), Cond.methodLink RX0 223 yX0_isMarked, Cond.instanceMethod yX0_isMarked, Cond.selects RX0 yX0_isMarked yX0_isMarked, Cond.code yX0_isMarked cX0_isMarked 4 (some .boolean), Cond.methodLink RX0 100 yX0_duel, Cond.instanceMethod yX0_duel, Cond.selects RX0 yX0_duel yX0_duel, Cond.code yX0_duel cX0_duel 8 (some .int), Cond.methodLink RX0 226 yJ6_compare_7cf53, Cond.static yJ6_compare_7cf53, Cond.initialized RJ6, Cond.code yJ6_compare_7cf53 cJ6_compare_7cf53 2 (some .int), Cond.methodLink RX0 203 yX0_pulledMean, Cond.instanceMethod yX0_pulledMean, Cond.selects RX0 yX0_pulledMean yX0_pulledMean, Cond.code yX0_pulledMean cX0_pulledMean 7 (some .int), Cond.methodLink RX0 215 Lib.Math.max.name, Cond.static Lib.Math.max.name, Cond.initialized "java/lang/Math"]
def wsX0_sway_r5 : List Cond := [Cond.code Lib.Math.max.name Lib.Math.max.code 2 (some .int), Cond.methodLink RX0 220 Lib.Math.min.name, Cond.static Lib.Math.min.name, Cond.code Lib.Math.min.name Lib.Math.min.code 2 (some .int), Cond.methodLink RX0 131 yX0_passesIn, Cond.instanceMethod yX0_passesIn, Cond.selects RX0 yX0_passesIn yX0_passesIn, Cond.code yX0_passesIn cX0_passesIn 4 (some .boolean), Cond.methodLink RX0 107 yX0_placeIn, Cond.instanceMethod yX0_placeIn, Cond.selects RX0 yX0_placeIn yX0_placeIn, Cond.code yX0_placeIn cX0_placeIn 5 (some .int), Cond.methodLink RX0 123 yX0_isPupil, Cond.instanceMethod yX0_isPupil, Cond.selects RX0 yX0_isPupil yX0_isPupil, Cond.code yX0_isPupil cX0_isPupil 3 (some .boolean), Cond.methodLink RX0 127 yX0_fillScoresIf, Cond.instanceMethod yX0_fillScoresIf, Cond.selects RX0 yX0_fillScoresIf yX0_fillScoresIf, Cond.code yX0_fillScoresIf cX0_fillScoresIf 9 none]
def wsX0_sway : List Cond := .code yX0_sway cX0_sway 11 (some .int) :: ((wsX0_sway_r1 ++ (wsX0_sway_r2 ++ (wsX0_sway_r3 ++ (wsX0_sway_r4 ++ wsX0_sway_r5)))) ++ wsX00)
def wsX0_weight : List Cond := .code yX0_weight cX0_weight 3 (some .int) :: ([.fieldLink RX0 29 "PianoJury" "weights" "[I", .methodLink RX0 72 yX0_isRound, .static yX0_isRound, .initialized RX0, .code yX0_isRound cX0_isRound 1 (some .boolean), .methodLink RX0 68 yX0_isWithin, .static yX0_isWithin, .code yX0_isWithin cX0_isWithin 3 (some .boolean), .methodLink RX0 86 yX0_replace, .static yX0_replace, .code yX0_replace cX0_replace 4 (some .int)] ++ wsX00)
def wsX0_totalOf_r1 : List Cond := [Cond.fieldLink RX0 29 "PianoJury" "weights" "[I", Cond.methodLink RX0 97 yX0_scoreOf, Cond.instanceMethod yX0_scoreOf, Cond.selects RX0 yX0_scoreOf yX0_scoreOf, Cond.initialized RX0, Cond.code yX0_scoreOf cX0_scoreOf 5 (some .int), Cond.constant RX0 195 (88200), Cond.fieldLink RX0 47 "PianoJury" "sorted" "[I", Cond.constant RX0 196 (176400), Cond.methodLink RX0 189 yX0_sortMarks, Cond.instanceMethod yX0_sortMarks, Cond.selects RX0 yX0_sortMarks yX0_sortMarks, Cond.code yX0_sortMarks cX0_sortMarks 6 (some .int), Cond.fieldLink RX0 13 "PianoJury" "jurors" "I", Cond.methodLink RX0 186 yX0_countedMark, Cond.instanceMethod yX0_countedMark, Cond.selects RX0 yX0_countedMark yX0_countedMark, Cond.code yX0_countedMark cX0_countedMark 4 (some .int), Cond.fieldLink RX0 23 "PianoJury" "pupils" "[I", Cond.fieldLink RX0 16 "PianoJury" "marks" "[I", Cond.methodLink RX0 90 yX0_pupilCellOf, Cond.static yX0_pupilCellOf, Cond.code yX0_pupilCellOf cX0_pupilCellOf 2 (some .int), Cond.methodLink RX0 82 yX0_cellOf]
def wsX0_totalOf_r2 : List Cond := [Cond.static yX0_cellOf, Cond.code yX0_cellOf cX0_cellOf 3 (some .int), Cond.methodLink RX0 209 yX0_insertMark, Cond.instanceMethod yX0_insertMark, Cond.selects RX0 yX0_insertMark yX0_insertMark, Cond.code yX0_insertMark cX0_insertMark 4 none, Cond.methodLink RX0 192 yX0_cutMean, Cond.instanceMethod yX0_cutMean, Cond.selects RX0 yX0_cutMean yX0_cutMean, Cond.code yX0_cutMean cX0_cutMean 3 (some .int), Cond.fieldLink RX0 26 "PianoJury" "rules" "[I", Cond.methodLink RX0 206 yX0_meanBetween, Cond.instanceMethod yX0_meanBetween, Cond.selects RX0 yX0_meanBetween yX0_meanBetween, Cond.code yX0_meanBetween cX0_meanBetween 3 (some .int), Cond.methodLink RX0 212 yX0_sumBetween, Cond.instanceMethod yX0_sumBetween, Cond.selects RX0 yX0_sumBetween yX0_sumBetween, Cond.code yX0_sumBetween cX0_sumBetween 5 (some .int), Cond.methodLink RX0 197 yX0_countYeses, Cond.instanceMethod yX0_countYeses, Cond.selects RX0 yX0_countYeses yX0_countYeses, Cond.code yX0_countYeses cX0_countYeses 5 (some .int), Cond.fieldLink RX0 20 "PianoJury" "yeses" "[I"]
def wsX0_totalOf_r3 : List Cond := [Cond.methodLink RX0 200 yX0_pairScore, Cond.instanceMethod yX0_pairScore, Cond.selects RX0 yX0_pairScore yX0_pairScore, Cond.code yX0_pairScore cX0_pairScore 5 (some .int), Cond.fieldLink RX0 7 "PianoJury" "players" "I", Cond.methodLink RX0 223 yX0_isMarked, Cond.instanceMethod yX0_isMarked, Cond.selects RX0 yX0_isMarked yX0_isMarked, Cond.code yX0_isMarked cX0_isMarked 4 (some .boolean), Cond.methodLink RX0 100 yX0_duel, Cond.instanceMethod yX0_duel, Cond.selects RX0 yX0_duel yX0_duel, Cond.code yX0_duel cX0_duel 8 (some .int), Cond.methodLink RX0 226 yJ6_compare_7cf53, Cond.static yJ6_compare_7cf53, Cond.initialized RJ6, Cond.code yJ6_compare_7cf53 cJ6_compare_7cf53 2 (some .int), Cond.methodLink RX0 203 yX0_pulledMean, Cond.instanceMethod yX0_pulledMean, Cond.selects RX0 yX0_pulledMean yX0_pulledMean, Cond.code yX0_pulledMean cX0_pulledMean 7 (some .int), Cond.methodLink RX0 215 Lib.Math.max.name, Cond.static Lib.Math.max.name, Cond.initialized "java/lang/Math"]
def wsX0_totalOf_r4 : List Cond := [Cond.code Lib.Math.max.name Lib.Math.max.code 2 (some .int), Cond.methodLink RX0 220 Lib.Math.min.name, Cond.static Lib.Math.min.name, Cond.code Lib.Math.min.name Lib.Math.min.code 2 (some .int)]
def wsX0_totalOf : List Cond := .code yX0_totalOf cX0_totalOf 5 (some .int) :: ((wsX0_totalOf_r1 ++ (wsX0_totalOf_r2 ++ (wsX0_totalOf_r3 ++ wsX0_totalOf_r4))) ++ wsX00)
def wsX0_total_r1 : List Cond := [Cond.methodLink RX0 79 yX0_isPlayer, Cond.instanceMethod yX0_isPlayer, Cond.selects RX0 yX0_isPlayer yX0_isPlayer, Cond.initialized RX0, Cond.code yX0_isPlayer cX0_isPlayer 2 (some .boolean), Cond.fieldLink RX0 7 "PianoJury" "players" "I", Cond.methodLink RX0 68 yX0_isWithin, Cond.static yX0_isWithin, Cond.code yX0_isWithin cX0_isWithin 3 (some .boolean), Cond.methodLink RX0 135 yX0_totalOf, Cond.instanceMethod yX0_totalOf, Cond.selects RX0 yX0_totalOf yX0_totalOf, Cond.code yX0_totalOf cX0_totalOf 5 (some .int), Cond.fieldLink RX0 29 "PianoJury" "weights" "[I", Cond.methodLink RX0 97 yX0_scoreOf, Cond.instanceMethod yX0_scoreOf, Cond.selects RX0 yX0_scoreOf yX0_scoreOf, Cond.code yX0_scoreOf cX0_scoreOf 5 (some .int), Cond.constant RX0 195 (88200), Cond.fieldLink RX0 47 "PianoJury" "sorted" "[I", Cond.constant RX0 196 (176400), Cond.methodLink RX0 189 yX0_sortMarks, Cond.instanceMethod yX0_sortMarks, Cond.selects RX0 yX0_sortMarks yX0_sortMarks]
def wsX0_total_r2 : List Cond := [Cond.code yX0_sortMarks cX0_sortMarks 6 (some .int), Cond.fieldLink RX0 13 "PianoJury" "jurors" "I", Cond.methodLink RX0 186 yX0_countedMark, Cond.instanceMethod yX0_countedMark, Cond.selects RX0 yX0_countedMark yX0_countedMark, Cond.code yX0_countedMark cX0_countedMark 4 (some .int), Cond.fieldLink RX0 23 "PianoJury" "pupils" "[I", Cond.fieldLink RX0 16 "PianoJury" "marks" "[I", Cond.methodLink RX0 90 yX0_pupilCellOf, Cond.static yX0_pupilCellOf, Cond.code yX0_pupilCellOf cX0_pupilCellOf 2 (some .int), Cond.methodLink RX0 82 yX0_cellOf, Cond.static yX0_cellOf, Cond.code yX0_cellOf cX0_cellOf 3 (some .int), Cond.methodLink RX0 209 yX0_insertMark, Cond.instanceMethod yX0_insertMark, Cond.selects RX0 yX0_insertMark yX0_insertMark, Cond.code yX0_insertMark cX0_insertMark 4 none, Cond.methodLink RX0 192 yX0_cutMean, Cond.instanceMethod yX0_cutMean, Cond.selects RX0 yX0_cutMean yX0_cutMean, Cond.code yX0_cutMean cX0_cutMean 3 (some .int), Cond.fieldLink RX0 26 "PianoJury" "rules" "[I", Cond.methodLink RX0 206 yX0_meanBetween]
def wsX0_total_r3 : List Cond := [Cond.instanceMethod yX0_meanBetween, Cond.selects RX0 yX0_meanBetween yX0_meanBetween, Cond.code yX0_meanBetween cX0_meanBetween 3 (some .int), Cond.methodLink RX0 212 yX0_sumBetween, Cond.instanceMethod yX0_sumBetween, Cond.selects RX0 yX0_sumBetween yX0_sumBetween, Cond.code yX0_sumBetween cX0_sumBetween 5 (some .int), Cond.methodLink RX0 197 yX0_countYeses, Cond.instanceMethod yX0_countYeses, Cond.selects RX0 yX0_countYeses yX0_countYeses, Cond.code yX0_countYeses cX0_countYeses 5 (some .int), Cond.fieldLink RX0 20 "PianoJury" "yeses" "[I", Cond.methodLink RX0 200 yX0_pairScore, Cond.instanceMethod yX0_pairScore, Cond.selects RX0 yX0_pairScore yX0_pairScore, Cond.code yX0_pairScore cX0_pairScore 5 (some .int), Cond.methodLink RX0 223 yX0_isMarked, Cond.instanceMethod yX0_isMarked, Cond.selects RX0 yX0_isMarked yX0_isMarked, Cond.code yX0_isMarked cX0_isMarked 4 (some .boolean), Cond.methodLink RX0 100 yX0_duel, Cond.instanceMethod yX0_duel, Cond.selects RX0 yX0_duel yX0_duel, Cond.code yX0_duel cX0_duel 8 (some .int)]
def wsX0_total_r4 : List Cond := [Cond.methodLink RX0 226 yJ6_compare_7cf53, Cond.static yJ6_compare_7cf53, Cond.initialized RJ6, Cond.code yJ6_compare_7cf53 cJ6_compare_7cf53 2 (some .int), Cond.methodLink RX0 203 yX0_pulledMean, Cond.instanceMethod yX0_pulledMean, Cond.selects RX0 yX0_pulledMean yX0_pulledMean, Cond.code yX0_pulledMean cX0_pulledMean 7 (some .int), Cond.methodLink RX0 215 Lib.Math.max.name, Cond.static Lib.Math.max.name, Cond.initialized "java/lang/Math", Cond.code Lib.Math.max.name Lib.Math.max.code 2 (some .int), Cond.methodLink RX0 220 Lib.Math.min.name, Cond.static Lib.Math.min.name, Cond.code Lib.Math.min.name Lib.Math.min.code 2 (some .int)]
def wsX0_total : List Cond := .code yX0_total cX0_total 2 (some .int) :: ((wsX0_total_r1 ++ (wsX0_total_r2 ++ (wsX0_total_r3 ++ wsX0_total_r4))) ++ wsX00)
def wsX0_fillTotals_r1 : List Cond := [Cond.fieldLink RX0 7 "PianoJury" "players" "I", Cond.fieldLink RX0 53 "PianoJury" "totals" "[I", Cond.methodLink RX0 135 yX0_totalOf, Cond.instanceMethod yX0_totalOf, Cond.selects RX0 yX0_totalOf yX0_totalOf, Cond.initialized RX0, Cond.code yX0_totalOf cX0_totalOf 5 (some .int), Cond.fieldLink RX0 29 "PianoJury" "weights" "[I", Cond.methodLink RX0 97 yX0_scoreOf, Cond.instanceMethod yX0_scoreOf, Cond.selects RX0 yX0_scoreOf yX0_scoreOf, Cond.code yX0_scoreOf cX0_scoreOf 5 (some .int), Cond.constant RX0 195 (88200), Cond.fieldLink RX0 47 "PianoJury" "sorted" "[I", Cond.constant RX0 196 (176400), Cond.methodLink RX0 189 yX0_sortMarks, Cond.instanceMethod yX0_sortMarks, Cond.selects RX0 yX0_sortMarks yX0_sortMarks, Cond.code yX0_sortMarks cX0_sortMarks 6 (some .int), Cond.fieldLink RX0 13 "PianoJury" "jurors" "I", Cond.methodLink RX0 186 yX0_countedMark, Cond.instanceMethod yX0_countedMark, Cond.selects RX0 yX0_countedMark yX0_countedMark, Cond.code yX0_countedMark cX0_countedMark 4 (some .int)]
def wsX0_fillTotals_r2 : List Cond := [Cond.fieldLink RX0 23 "PianoJury" "pupils" "[I", Cond.fieldLink RX0 16 "PianoJury" "marks" "[I", Cond.methodLink RX0 90 yX0_pupilCellOf, Cond.static yX0_pupilCellOf, Cond.code yX0_pupilCellOf cX0_pupilCellOf 2 (some .int), Cond.methodLink RX0 82 yX0_cellOf, Cond.static yX0_cellOf, Cond.code yX0_cellOf cX0_cellOf 3 (some .int), Cond.methodLink RX0 209 yX0_insertMark, Cond.instanceMethod yX0_insertMark, Cond.selects RX0 yX0_insertMark yX0_insertMark, Cond.code yX0_insertMark cX0_insertMark 4 none, Cond.methodLink RX0 192 yX0_cutMean, Cond.instanceMethod yX0_cutMean, Cond.selects RX0 yX0_cutMean yX0_cutMean, Cond.code yX0_cutMean cX0_cutMean 3 (some .int), Cond.fieldLink RX0 26 "PianoJury" "rules" "[I", Cond.methodLink RX0 206 yX0_meanBetween, Cond.instanceMethod yX0_meanBetween, Cond.selects RX0 yX0_meanBetween yX0_meanBetween, Cond.code yX0_meanBetween cX0_meanBetween 3 (some .int), Cond.methodLink RX0 212 yX0_sumBetween, Cond.instanceMethod yX0_sumBetween, Cond.selects RX0 yX0_sumBetween yX0_sumBetween]
def wsX0_fillTotals_r3 : List Cond := [Cond.code yX0_sumBetween cX0_sumBetween 5 (some .int), Cond.methodLink RX0 197 yX0_countYeses, Cond.instanceMethod yX0_countYeses, Cond.selects RX0 yX0_countYeses yX0_countYeses, Cond.code yX0_countYeses cX0_countYeses 5 (some .int), Cond.fieldLink RX0 20 "PianoJury" "yeses" "[I", Cond.methodLink RX0 200 yX0_pairScore, Cond.instanceMethod yX0_pairScore, Cond.selects RX0 yX0_pairScore yX0_pairScore, Cond.code yX0_pairScore cX0_pairScore 5 (some .int), Cond.methodLink RX0 223 yX0_isMarked, Cond.instanceMethod yX0_isMarked, Cond.selects RX0 yX0_isMarked yX0_isMarked, Cond.code yX0_isMarked cX0_isMarked 4 (some .boolean), Cond.methodLink RX0 100 yX0_duel, Cond.instanceMethod yX0_duel, Cond.selects RX0 yX0_duel yX0_duel, Cond.code yX0_duel cX0_duel 8 (some .int), Cond.methodLink RX0 226 yJ6_compare_7cf53, Cond.static yJ6_compare_7cf53, Cond.initialized RJ6, Cond.code yJ6_compare_7cf53 cJ6_compare_7cf53 2 (some .int), Cond.methodLink RX0 203 yX0_pulledMean, Cond.instanceMethod yX0_pulledMean]
def wsX0_fillTotals_r4 : List Cond := [Cond.selects RX0 yX0_pulledMean yX0_pulledMean, Cond.code yX0_pulledMean cX0_pulledMean 7 (some .int), Cond.methodLink RX0 215 Lib.Math.max.name, Cond.static Lib.Math.max.name, Cond.initialized "java/lang/Math", Cond.code Lib.Math.max.name Lib.Math.max.code 2 (some .int), Cond.methodLink RX0 220 Lib.Math.min.name, Cond.static Lib.Math.min.name, Cond.code Lib.Math.min.name Lib.Math.min.code 2 (some .int)]
def wsX0_fillTotals : List Cond := .code yX0_fillTotals cX0_fillTotals 2 none :: ((wsX0_fillTotals_r1 ++ (wsX0_fillTotals_r2 ++ (wsX0_fillTotals_r3 ++ wsX0_fillTotals_r4))) ++ wsX00)
def wsX0_last_r1 : List Cond := [Cond.fieldLink RX0 53 "PianoJury" "totals" "[I", Cond.methodLink RX0 79 yX0_isPlayer, Cond.instanceMethod yX0_isPlayer, Cond.selects RX0 yX0_isPlayer yX0_isPlayer, Cond.initialized RX0, Cond.code yX0_isPlayer cX0_isPlayer 2 (some .boolean), Cond.fieldLink RX0 7 "PianoJury" "players" "I", Cond.methodLink RX0 68 yX0_isWithin, Cond.static yX0_isWithin, Cond.code yX0_isWithin cX0_isWithin 3 (some .boolean), Cond.methodLink RX0 138 yX0_fillTotals, Cond.instanceMethod yX0_fillTotals, Cond.selects RX0 yX0_fillTotals yX0_fillTotals, Cond.code yX0_fillTotals cX0_fillTotals 2 none, Cond.methodLink RX0 135 yX0_totalOf, Cond.instanceMethod yX0_totalOf, Cond.selects RX0 yX0_totalOf yX0_totalOf, Cond.code yX0_totalOf cX0_totalOf 5 (some .int), Cond.fieldLink RX0 29 "PianoJury" "weights" "[I", Cond.methodLink RX0 97 yX0_scoreOf, Cond.instanceMethod yX0_scoreOf, Cond.selects RX0 yX0_scoreOf yX0_scoreOf, Cond.code yX0_scoreOf cX0_scoreOf 5 (some .int), Cond.constant RX0 195 (88200)]
def wsX0_last_r2 : List Cond := [Cond.fieldLink RX0 47 "PianoJury" "sorted" "[I", Cond.constant RX0 196 (176400), Cond.methodLink RX0 189 yX0_sortMarks, Cond.instanceMethod yX0_sortMarks, Cond.selects RX0 yX0_sortMarks yX0_sortMarks, Cond.code yX0_sortMarks cX0_sortMarks 6 (some .int), Cond.fieldLink RX0 13 "PianoJury" "jurors" "I", Cond.methodLink RX0 186 yX0_countedMark, Cond.instanceMethod yX0_countedMark, Cond.selects RX0 yX0_countedMark yX0_countedMark, Cond.code yX0_countedMark cX0_countedMark 4 (some .int), Cond.fieldLink RX0 23 "PianoJury" "pupils" "[I", Cond.fieldLink RX0 16 "PianoJury" "marks" "[I", Cond.methodLink RX0 90 yX0_pupilCellOf, Cond.static yX0_pupilCellOf, Cond.code yX0_pupilCellOf cX0_pupilCellOf 2 (some .int), Cond.methodLink RX0 82 yX0_cellOf, Cond.static yX0_cellOf, Cond.code yX0_cellOf cX0_cellOf 3 (some .int), Cond.methodLink RX0 209 yX0_insertMark, Cond.instanceMethod yX0_insertMark, Cond.selects RX0 yX0_insertMark yX0_insertMark, Cond.code yX0_insertMark cX0_insertMark 4 none, Cond.methodLink RX0 192 yX0_cutMean]
def wsX0_last_r3 : List Cond := [Cond.instanceMethod yX0_cutMean, Cond.selects RX0 yX0_cutMean yX0_cutMean, Cond.code yX0_cutMean cX0_cutMean 3 (some .int), Cond.fieldLink RX0 26 "PianoJury" "rules" "[I", Cond.methodLink RX0 206 yX0_meanBetween, Cond.instanceMethod yX0_meanBetween, Cond.selects RX0 yX0_meanBetween yX0_meanBetween, Cond.code yX0_meanBetween cX0_meanBetween 3 (some .int), Cond.methodLink RX0 212 yX0_sumBetween, Cond.instanceMethod yX0_sumBetween, Cond.selects RX0 yX0_sumBetween yX0_sumBetween, Cond.code yX0_sumBetween cX0_sumBetween 5 (some .int), Cond.methodLink RX0 197 yX0_countYeses, Cond.instanceMethod yX0_countYeses, Cond.selects RX0 yX0_countYeses yX0_countYeses, Cond.code yX0_countYeses cX0_countYeses 5 (some .int), Cond.fieldLink RX0 20 "PianoJury" "yeses" "[I", Cond.methodLink RX0 200 yX0_pairScore, Cond.instanceMethod yX0_pairScore, Cond.selects RX0 yX0_pairScore yX0_pairScore, Cond.code yX0_pairScore cX0_pairScore 5 (some .int), Cond.methodLink RX0 223 yX0_isMarked, Cond.instanceMethod yX0_isMarked, Cond.selects RX0 yX0_isMarked yX0_isMarked]
def wsX0_last_r4 : List Cond := [Cond.code yX0_isMarked cX0_isMarked 4 (some .boolean), Cond.methodLink RX0 100 yX0_duel, Cond.instanceMethod yX0_duel, Cond.selects RX0 yX0_duel yX0_duel, Cond.code yX0_duel cX0_duel 8 (some .int), Cond.methodLink RX0 226 yJ6_compare_7cf53, Cond.static yJ6_compare_7cf53, Cond.initialized RJ6, Cond.code yJ6_compare_7cf53 cJ6_compare_7cf53 2 (some .int), Cond.methodLink RX0 203 yX0_pulledMean, Cond.instanceMethod yX0_pulledMean, Cond.selects RX0 yX0_pulledMean yX0_pulledMean, Cond.code yX0_pulledMean cX0_pulledMean 7 (some .int), Cond.methodLink RX0 215 Lib.Math.max.name, Cond.static Lib.Math.max.name, Cond.initialized "java/lang/Math", Cond.code Lib.Math.max.name Lib.Math.max.code 2 (some .int), Cond.methodLink RX0 220 Lib.Math.min.name, Cond.static Lib.Math.min.name, Cond.code Lib.Math.min.name Lib.Math.min.code 2 (some .int), Cond.methodLink RX0 107 yX0_placeIn, Cond.instanceMethod yX0_placeIn, Cond.selects RX0 yX0_placeIn yX0_placeIn, Cond.code yX0_placeIn cX0_placeIn 5 (some .int)]
def wsX0_last : List Cond := .code yX0_last cX0_last 2 (some .int) :: ((wsX0_last_r1 ++ (wsX0_last_r2 ++ (wsX0_last_r3 ++ wsX0_last_r4))) ++ wsX00)
def wsX0_prize : List Cond := .code yX0_prize cX0_prize 3 (some .int) :: ([.constant RX0 141 (1000000), .fieldLink RX0 32 "PianoJury" "prizes" "[I", .methodLink RX0 68 yX0_isWithin, .static yX0_isWithin, .initialized RX0, .code yX0_isWithin cX0_isWithin 3 (some .boolean), .methodLink RX0 86 yX0_replace, .static yX0_replace, .code yX0_replace cX0_replace 4 (some .int)] ++ wsX00)
def wsX0_shareOf : List Cond := .code yX0_shareOf cX0_shareOf 6 (some .int) :: ([.fieldLink RX0 53 "PianoJury" "totals" "[I", .fieldLink RX0 7 "PianoJury" "players" "I", .fieldLink RX0 32 "PianoJury" "prizes" "[I", .methodLink RX0 107 yX0_placeIn, .instanceMethod yX0_placeIn, .selects RX0 yX0_placeIn yX0_placeIn, .initialized RX0, .code yX0_placeIn cX0_placeIn 5 (some .int)] ++ wsX00)
def wsX0_wins_r1 : List Cond := [Cond.methodLink RX0 79 yX0_isPlayer, Cond.instanceMethod yX0_isPlayer, Cond.selects RX0 yX0_isPlayer yX0_isPlayer, Cond.initialized RX0, Cond.code yX0_isPlayer cX0_isPlayer 2 (some .boolean), Cond.fieldLink RX0 7 "PianoJury" "players" "I", Cond.methodLink RX0 68 yX0_isWithin, Cond.static yX0_isWithin, Cond.code yX0_isWithin cX0_isWithin 3 (some .boolean), Cond.methodLink RX0 138 yX0_fillTotals, Cond.instanceMethod yX0_fillTotals, Cond.selects RX0 yX0_fillTotals yX0_fillTotals, Cond.code yX0_fillTotals cX0_fillTotals 2 none, Cond.fieldLink RX0 53 "PianoJury" "totals" "[I", Cond.methodLink RX0 135 yX0_totalOf, Cond.instanceMethod yX0_totalOf, Cond.selects RX0 yX0_totalOf yX0_totalOf, Cond.code yX0_totalOf cX0_totalOf 5 (some .int), Cond.fieldLink RX0 29 "PianoJury" "weights" "[I", Cond.methodLink RX0 97 yX0_scoreOf, Cond.instanceMethod yX0_scoreOf, Cond.selects RX0 yX0_scoreOf yX0_scoreOf, Cond.code yX0_scoreOf cX0_scoreOf 5 (some .int), Cond.constant RX0 195 (88200)]
def wsX0_wins_r2 : List Cond := [Cond.fieldLink RX0 47 "PianoJury" "sorted" "[I", Cond.constant RX0 196 (176400), Cond.methodLink RX0 189 yX0_sortMarks, Cond.instanceMethod yX0_sortMarks, Cond.selects RX0 yX0_sortMarks yX0_sortMarks, Cond.code yX0_sortMarks cX0_sortMarks 6 (some .int), Cond.fieldLink RX0 13 "PianoJury" "jurors" "I", Cond.methodLink RX0 186 yX0_countedMark, Cond.instanceMethod yX0_countedMark, Cond.selects RX0 yX0_countedMark yX0_countedMark, Cond.code yX0_countedMark cX0_countedMark 4 (some .int), Cond.fieldLink RX0 23 "PianoJury" "pupils" "[I", Cond.fieldLink RX0 16 "PianoJury" "marks" "[I", Cond.methodLink RX0 90 yX0_pupilCellOf, Cond.static yX0_pupilCellOf, Cond.code yX0_pupilCellOf cX0_pupilCellOf 2 (some .int), Cond.methodLink RX0 82 yX0_cellOf, Cond.static yX0_cellOf, Cond.code yX0_cellOf cX0_cellOf 3 (some .int), Cond.methodLink RX0 209 yX0_insertMark, Cond.instanceMethod yX0_insertMark, Cond.selects RX0 yX0_insertMark yX0_insertMark, Cond.code yX0_insertMark cX0_insertMark 4 none, Cond.methodLink RX0 192 yX0_cutMean]
def wsX0_wins_r3 : List Cond := [Cond.instanceMethod yX0_cutMean, Cond.selects RX0 yX0_cutMean yX0_cutMean, Cond.code yX0_cutMean cX0_cutMean 3 (some .int), Cond.fieldLink RX0 26 "PianoJury" "rules" "[I", Cond.methodLink RX0 206 yX0_meanBetween, Cond.instanceMethod yX0_meanBetween, Cond.selects RX0 yX0_meanBetween yX0_meanBetween, Cond.code yX0_meanBetween cX0_meanBetween 3 (some .int), Cond.methodLink RX0 212 yX0_sumBetween, Cond.instanceMethod yX0_sumBetween, Cond.selects RX0 yX0_sumBetween yX0_sumBetween, Cond.code yX0_sumBetween cX0_sumBetween 5 (some .int), Cond.methodLink RX0 197 yX0_countYeses, Cond.instanceMethod yX0_countYeses, Cond.selects RX0 yX0_countYeses yX0_countYeses, Cond.code yX0_countYeses cX0_countYeses 5 (some .int), Cond.fieldLink RX0 20 "PianoJury" "yeses" "[I", Cond.methodLink RX0 200 yX0_pairScore, Cond.instanceMethod yX0_pairScore, Cond.selects RX0 yX0_pairScore yX0_pairScore, Cond.code yX0_pairScore cX0_pairScore 5 (some .int), Cond.methodLink RX0 223 yX0_isMarked, Cond.instanceMethod yX0_isMarked, Cond.selects RX0 yX0_isMarked yX0_isMarked]
def wsX0_wins_r4 : List Cond := [Cond.code yX0_isMarked cX0_isMarked 4 (some .boolean), Cond.methodLink RX0 100 yX0_duel, Cond.instanceMethod yX0_duel, Cond.selects RX0 yX0_duel yX0_duel, Cond.code yX0_duel cX0_duel 8 (some .int), Cond.methodLink RX0 226 yJ6_compare_7cf53, Cond.static yJ6_compare_7cf53, Cond.initialized RJ6, Cond.code yJ6_compare_7cf53 cJ6_compare_7cf53 2 (some .int), Cond.methodLink RX0 203 yX0_pulledMean, Cond.instanceMethod yX0_pulledMean, Cond.selects RX0 yX0_pulledMean yX0_pulledMean, Cond.code yX0_pulledMean cX0_pulledMean 7 (some .int), Cond.methodLink RX0 215 Lib.Math.max.name, Cond.static Lib.Math.max.name, Cond.initialized "java/lang/Math", Cond.code Lib.Math.max.name Lib.Math.max.code 2 (some .int), Cond.methodLink RX0 220 Lib.Math.min.name, Cond.static Lib.Math.min.name, Cond.code Lib.Math.min.name Lib.Math.min.code 2 (some .int), Cond.methodLink RX0 142 yX0_shareOf, Cond.instanceMethod yX0_shareOf, Cond.selects RX0 yX0_shareOf yX0_shareOf, Cond.code yX0_shareOf cX0_shareOf 6 (some .int)]
def wsX0_wins_r5 : List Cond := [Cond.fieldLink RX0 32 "PianoJury" "prizes" "[I", Cond.methodLink RX0 107 yX0_placeIn, Cond.instanceMethod yX0_placeIn, Cond.selects RX0 yX0_placeIn yX0_placeIn, Cond.code yX0_placeIn cX0_placeIn 5 (some .int)]
def wsX0_wins : List Cond := .code yX0_wins cX0_wins 2 (some .int) :: ((wsX0_wins_r1 ++ (wsX0_wins_r2 ++ (wsX0_wins_r3 ++ (wsX0_wins_r4 ++ wsX0_wins_r5)))) ++ wsX00)
def wsX0_sumOf : List Cond := .code yX0_sumOf cX0_sumOf 3 (some .int) :: ([])
def wsX0_rest_r1 : List Cond := [Cond.fieldLink RX0 32 "PianoJury" "prizes" "[I", Cond.fieldLink RX0 7 "PianoJury" "players" "I", Cond.methodLink RX0 138 yX0_fillTotals, Cond.instanceMethod yX0_fillTotals, Cond.selects RX0 yX0_fillTotals yX0_fillTotals, Cond.initialized RX0, Cond.code yX0_fillTotals cX0_fillTotals 2 none, Cond.fieldLink RX0 53 "PianoJury" "totals" "[I", Cond.methodLink RX0 135 yX0_totalOf, Cond.instanceMethod yX0_totalOf, Cond.selects RX0 yX0_totalOf yX0_totalOf, Cond.code yX0_totalOf cX0_totalOf 5 (some .int), Cond.fieldLink RX0 29 "PianoJury" "weights" "[I", Cond.methodLink RX0 97 yX0_scoreOf, Cond.instanceMethod yX0_scoreOf, Cond.selects RX0 yX0_scoreOf yX0_scoreOf, Cond.code yX0_scoreOf cX0_scoreOf 5 (some .int), Cond.constant RX0 195 (88200), Cond.fieldLink RX0 47 "PianoJury" "sorted" "[I", Cond.constant RX0 196 (176400), Cond.methodLink RX0 189 yX0_sortMarks, Cond.instanceMethod yX0_sortMarks, Cond.selects RX0 yX0_sortMarks yX0_sortMarks, Cond.code yX0_sortMarks cX0_sortMarks 6 (some .int)]
def wsX0_rest_r2 : List Cond := [Cond.fieldLink RX0 13 "PianoJury" "jurors" "I", Cond.methodLink RX0 186 yX0_countedMark, Cond.instanceMethod yX0_countedMark, Cond.selects RX0 yX0_countedMark yX0_countedMark, Cond.code yX0_countedMark cX0_countedMark 4 (some .int), Cond.fieldLink RX0 23 "PianoJury" "pupils" "[I", Cond.fieldLink RX0 16 "PianoJury" "marks" "[I", Cond.methodLink RX0 90 yX0_pupilCellOf, Cond.static yX0_pupilCellOf, Cond.code yX0_pupilCellOf cX0_pupilCellOf 2 (some .int), Cond.methodLink RX0 82 yX0_cellOf, Cond.static yX0_cellOf, Cond.code yX0_cellOf cX0_cellOf 3 (some .int), Cond.methodLink RX0 209 yX0_insertMark, Cond.instanceMethod yX0_insertMark, Cond.selects RX0 yX0_insertMark yX0_insertMark, Cond.code yX0_insertMark cX0_insertMark 4 none, Cond.methodLink RX0 192 yX0_cutMean, Cond.instanceMethod yX0_cutMean, Cond.selects RX0 yX0_cutMean yX0_cutMean, Cond.code yX0_cutMean cX0_cutMean 3 (some .int), Cond.fieldLink RX0 26 "PianoJury" "rules" "[I", Cond.methodLink RX0 206 yX0_meanBetween, Cond.instanceMethod yX0_meanBetween]
def wsX0_rest_r3 : List Cond := [Cond.selects RX0 yX0_meanBetween yX0_meanBetween, Cond.code yX0_meanBetween cX0_meanBetween 3 (some .int), Cond.methodLink RX0 212 yX0_sumBetween, Cond.instanceMethod yX0_sumBetween, Cond.selects RX0 yX0_sumBetween yX0_sumBetween, Cond.code yX0_sumBetween cX0_sumBetween 5 (some .int), Cond.methodLink RX0 197 yX0_countYeses, Cond.instanceMethod yX0_countYeses, Cond.selects RX0 yX0_countYeses yX0_countYeses, Cond.code yX0_countYeses cX0_countYeses 5 (some .int), Cond.fieldLink RX0 20 "PianoJury" "yeses" "[I", Cond.methodLink RX0 200 yX0_pairScore, Cond.instanceMethod yX0_pairScore, Cond.selects RX0 yX0_pairScore yX0_pairScore, Cond.code yX0_pairScore cX0_pairScore 5 (some .int), Cond.methodLink RX0 223 yX0_isMarked, Cond.instanceMethod yX0_isMarked, Cond.selects RX0 yX0_isMarked yX0_isMarked, Cond.code yX0_isMarked cX0_isMarked 4 (some .boolean), Cond.methodLink RX0 100 yX0_duel, Cond.instanceMethod yX0_duel, Cond.selects RX0 yX0_duel yX0_duel, Cond.code yX0_duel cX0_duel 8 (some .int), Cond.methodLink RX0 226 yJ6_compare_7cf53]
def wsX0_rest_r4 : List Cond := [Cond.static yJ6_compare_7cf53, Cond.initialized RJ6, Cond.code yJ6_compare_7cf53 cJ6_compare_7cf53 2 (some .int), Cond.methodLink RX0 203 yX0_pulledMean, Cond.instanceMethod yX0_pulledMean, Cond.selects RX0 yX0_pulledMean yX0_pulledMean, Cond.code yX0_pulledMean cX0_pulledMean 7 (some .int), Cond.methodLink RX0 215 Lib.Math.max.name, Cond.static Lib.Math.max.name, Cond.initialized "java/lang/Math", Cond.code Lib.Math.max.name Lib.Math.max.code 2 (some .int), Cond.methodLink RX0 220 Lib.Math.min.name, Cond.static Lib.Math.min.name, Cond.code Lib.Math.min.name Lib.Math.min.code 2 (some .int), Cond.methodLink RX0 145 yX0_sumOf, Cond.static yX0_sumOf, Cond.code yX0_sumOf cX0_sumOf 3 (some .int), Cond.methodLink RX0 142 yX0_shareOf, Cond.instanceMethod yX0_shareOf, Cond.selects RX0 yX0_shareOf yX0_shareOf, Cond.code yX0_shareOf cX0_shareOf 6 (some .int), Cond.methodLink RX0 107 yX0_placeIn, Cond.instanceMethod yX0_placeIn, Cond.selects RX0 yX0_placeIn yX0_placeIn]
def wsX0_rest_r5 : List Cond := [Cond.code yX0_placeIn cX0_placeIn 5 (some .int)]
def wsX0_rest : List Cond := .code yX0_rest cX0_rest 3 (some .int) :: ((wsX0_rest_r1 ++ (wsX0_rest_r2 ++ (wsX0_rest_r3 ++ (wsX0_rest_r4 ++ wsX0_rest_r5)))) ++ wsX00)
def wsX0_isWork : List Cond := .code yX0_isWork cX0_isWork 1 (some .boolean) :: ([.methodLink RX0 68 yX0_isWithin, .static yX0_isWithin, .initialized RX0, .code yX0_isWithin cX0_isWithin 3 (some .boolean)])
def wsX0_work : List Cond := .code yX0_work cX0_work 3 (some .int) :: ([.fieldLink RX0 35 "PianoJury" "minutes" "[I", .methodLink RX0 149 yX0_isWork, .static yX0_isWork, .initialized RX0, .code yX0_isWork cX0_isWork 1 (some .boolean), .methodLink RX0 68 yX0_isWithin, .static yX0_isWithin, .code yX0_isWithin cX0_isWithin 3 (some .boolean), .methodLink RX0 86 yX0_replace, .static yX0_replace, .code yX0_replace cX0_replace 4 (some .int)] ++ wsX00)
def wsX0_programmeCellOf : List Cond := .code yX0_programmeCellOf cX0_programmeCellOf 2 (some .int) :: ([])
def wsX0_programme : List Cond := .code yX0_programme cX0_programme 3 (some .int) :: ([.fieldLink RX0 41 "PianoJury" "programmeCounts" "[I", .fieldLink RX0 38 "PianoJury" "programmes" "[I", .methodLink RX0 79 yX0_isPlayer, .instanceMethod yX0_isPlayer, .selects RX0 yX0_isPlayer yX0_isPlayer, .initialized RX0, .code yX0_isPlayer cX0_isPlayer 2 (some .boolean), .fieldLink RX0 7 "PianoJury" "players" "I", .methodLink RX0 68 yX0_isWithin, .static yX0_isWithin, .code yX0_isWithin cX0_isWithin 3 (some .boolean), .methodLink RX0 152 yX0_programmeCellOf, .static yX0_programmeCellOf, .code yX0_programmeCellOf cX0_programmeCellOf 2 (some .int)] ++ wsX00)
def wsX0_minutesOf : List Cond := .code yX0_minutesOf cX0_minutesOf 4 (some .int) :: ([.fieldLink RX0 35 "PianoJury" "minutes" "[I"] ++ wsX00)
def wsX0_fillFitting : List Cond := .code yX0_fillFitting cX0_fillFitting 7 none :: ([.fieldLink RX0 7 "PianoJury" "players" "I", .fieldLink RX0 41 "PianoJury" "programmeCounts" "[I", .fieldLink RX0 38 "PianoJury" "programmes" "[I", .fieldLink RX0 56 "PianoJury" "fitting" "[I", .methodLink RX0 152 yX0_programmeCellOf, .static yX0_programmeCellOf, .initialized RX0, .code yX0_programmeCellOf cX0_programmeCellOf 2 (some .int), .methodLink RX0 229 yX0_minutesOf, .instanceMethod yX0_minutesOf, .selects RX0 yX0_minutesOf yX0_minutesOf, .code yX0_minutesOf cX0_minutesOf 4 (some .int), .fieldLink RX0 35 "PianoJury" "minutes" "[I", .methodLink RX0 68 yX0_isWithin, .static yX0_isWithin, .code yX0_isWithin cX0_isWithin 3 (some .boolean)] ++ wsX00)
def wsX0_choosesFrom : List Cond := .code yX0_choosesFrom cX0_choosesFrom 8 (some .boolean) :: ([.fieldLink RX0 7 "PianoJury" "players" "I", .fieldLink RX0 41 "PianoJury" "programmeCounts" "[I", .fieldLink RX0 56 "PianoJury" "fitting" "[I", .fieldLink RX0 44 "PianoJury" "choices" "[I", .methodLink RX0 152 yX0_programmeCellOf, .static yX0_programmeCellOf, .initialized RX0, .code yX0_programmeCellOf cX0_programmeCellOf 2 (some .int), .methodLink RX0 158 yX0_choosesFrom, .instanceMethod yX0_choosesFrom, .selects RX0 yX0_choosesFrom yX0_choosesFrom] ++ wsX00)
def wsX0_plan_r1 : List Cond := [Cond.fieldLink RX0 44 "PianoJury" "choices" "[I", Cond.methodLink RX0 68 yX0_isWithin, Cond.static yX0_isWithin, Cond.initialized RX0, Cond.code yX0_isWithin cX0_isWithin 3 (some .boolean), Cond.methodLink RX0 59 yJ7_fill_53178, Cond.static yJ7_fill_53178, Cond.initialized RJ7, Cond.code yJ7_fill_53178 cJ7_fill_53178 4 none, Cond.methodLink RX0 155 yX0_fillFitting, Cond.instanceMethod yX0_fillFitting, Cond.selects RX0 yX0_fillFitting yX0_fillFitting, Cond.code yX0_fillFitting cX0_fillFitting 7 none, Cond.fieldLink RX0 7 "PianoJury" "players" "I", Cond.fieldLink RX0 41 "PianoJury" "programmeCounts" "[I", Cond.fieldLink RX0 38 "PianoJury" "programmes" "[I", Cond.fieldLink RX0 56 "PianoJury" "fitting" "[I", Cond.methodLink RX0 152 yX0_programmeCellOf, Cond.static yX0_programmeCellOf, Cond.code yX0_programmeCellOf cX0_programmeCellOf 2 (some .int), Cond.methodLink RX0 229 yX0_minutesOf, Cond.instanceMethod yX0_minutesOf, Cond.selects RX0 yX0_minutesOf yX0_minutesOf, Cond.code yX0_minutesOf cX0_minutesOf 4 (some .int)]
def wsX0_plan_r2 : List Cond := [Cond.fieldLink RX0 35 "PianoJury" "minutes" "[I", Cond.methodLink RX0 158 yX0_choosesFrom, Cond.instanceMethod yX0_choosesFrom, Cond.selects RX0 yX0_choosesFrom yX0_choosesFrom, Cond.code yX0_choosesFrom cX0_choosesFrom 8 (some .boolean)]
def wsX0_plan : List Cond := .code yX0_plan cX0_plan 6 (some .int) :: ((wsX0_plan_r1 ++ wsX0_plan_r2) ++ wsX00)
def wsX0_chosen : List Cond := .code yX0_chosen cX0_chosen 2 (some .int) :: ([.fieldLink RX0 44 "PianoJury" "choices" "[I", .methodLink RX0 79 yX0_isPlayer, .instanceMethod yX0_isPlayer, .selects RX0 yX0_isPlayer yX0_isPlayer, .initialized RX0, .code yX0_isPlayer cX0_isPlayer 2 (some .boolean), .fieldLink RX0 7 "PianoJury" "players" "I", .methodLink RX0 68 yX0_isWithin, .static yX0_isWithin, .code yX0_isWithin cX0_isWithin 3 (some .boolean)] ++ wsX00)
def wsX0_heard : List Cond := .code yX0_heard cX0_heard 4 (some .int) :: ([.fieldLink RX0 7 "PianoJury" "players" "I", .fieldLink RX0 44 "PianoJury" "choices" "[I", .fieldLink RX0 38 "PianoJury" "programmes" "[I", .methodLink RX0 149 yX0_isWork, .static yX0_isWork, .initialized RX0, .code yX0_isWork cX0_isWork 1 (some .boolean), .methodLink RX0 68 yX0_isWithin, .static yX0_isWithin, .code yX0_isWithin cX0_isWithin 3 (some .boolean), .methodLink RX0 152 yX0_programmeCellOf, .static yX0_programmeCellOf, .code yX0_programmeCellOf cX0_programmeCellOf 2 (some .int)] ++ wsX00)
def wsX0_factorial : List Cond := .code yX0_factorial cX0_factorial 3 (some .int) :: ([])
def wsX0_bitOf : List Cond := .code yX0_bitOf cX0_bitOf 4 (some .int) :: ([])
def wsX0_drawn : List Cond := .code yX0_drawn cX0_drawn 8 (some .int) :: ([.fieldLink RX0 7 "PianoJury" "players" "I", .methodLink RX0 79 yX0_isPlayer, .instanceMethod yX0_isPlayer, .selects RX0 yX0_isPlayer yX0_isPlayer, .initialized RX0, .code yX0_isPlayer cX0_isPlayer 2 (some .boolean), .methodLink RX0 68 yX0_isWithin, .static yX0_isWithin, .code yX0_isWithin cX0_isWithin 3 (some .boolean), .methodLink RX0 162 yX0_factorial, .static yX0_factorial, .code yX0_factorial cX0_factorial 3 (some .int), .methodLink RX0 165 yX0_bitOf, .static yX0_bitOf, .code yX0_bitOf cX0_bitOf 4 (some .int)] ++ wsX00)
def wsX0_countMarks : List Cond := .code yX0_countMarks cX0_countMarks 3 (some .int) :: ([.fieldLink RX0 16 "PianoJury" "marks" "[I"] ++ wsX00)
def wsX0_count : List Cond := .code yX0_count cX0_count 2 (some .int) :: ([.fieldLink RX0 7 "PianoJury" "players" "I", .fieldLink RX0 13 "PianoJury" "jurors" "I", .fieldLink RX0 20 "PianoJury" "yeses" "[I", .fieldLink RX0 23 "PianoJury" "pupils" "[I", .fieldLink RX0 41 "PianoJury" "programmeCounts" "[I", .methodLink RX0 168 yX0_countMarks, .instanceMethod yX0_countMarks, .selects RX0 yX0_countMarks yX0_countMarks, .initialized RX0, .code yX0_countMarks cX0_countMarks 3 (some .int), .fieldLink RX0 16 "PianoJury" "marks" "[I", .methodLink RX0 145 yX0_sumOf, .static yX0_sumOf, .code yX0_sumOf cX0_sumOf 3 (some .int)] ++ wsX00)
def wsX0_mixed : List Cond := .code yX0_mixed cX0_mixed 4 (some .long) :: ([.constantLong RX0 232 (31)])
def wsX0_mixedRound : List Cond := .code yX0_mixedRound cX0_mixedRound 9 (some .long) :: ([.fieldLink RX0 13 "PianoJury" "jurors" "I", .fieldLink RX0 7 "PianoJury" "players" "I", .fieldLink RX0 16 "PianoJury" "marks" "[I", .fieldLink RX0 20 "PianoJury" "yeses" "[I", .methodLink RX0 82 yX0_cellOf, .static yX0_cellOf, .initialized RX0, .code yX0_cellOf cX0_cellOf 3 (some .int), .methodLink RX0 174 yX0_mixed, .static yX0_mixed, .code yX0_mixed cX0_mixed 4 (some .long), .constantLong RX0 232 (31)] ++ wsX00)
def wsX0_mixedRow : List Cond := .code yX0_mixedRow cX0_mixedRow 6 (some .long) :: ([.methodLink RX0 174 yX0_mixed, .static yX0_mixed, .initialized RX0, .code yX0_mixed cX0_mixed 4 (some .long), .constantLong RX0 232 (31)])
def wsX0_digest_r1 : List Cond := [Cond.constantLong RX0 172 (193), Cond.fieldLink RX0 7 "PianoJury" "players" "I", Cond.fieldLink RX0 13 "PianoJury" "jurors" "I", Cond.fieldLink RX0 23 "PianoJury" "pupils" "[I", Cond.fieldLink RX0 26 "PianoJury" "rules" "[I", Cond.fieldLink RX0 29 "PianoJury" "weights" "[I", Cond.fieldLink RX0 32 "PianoJury" "prizes" "[I", Cond.fieldLink RX0 35 "PianoJury" "minutes" "[I", Cond.fieldLink RX0 41 "PianoJury" "programmeCounts" "[I", Cond.fieldLink RX0 38 "PianoJury" "programmes" "[I", Cond.fieldLink RX0 44 "PianoJury" "choices" "[I", Cond.methodLink RX0 174 yX0_mixed, Cond.static yX0_mixed, Cond.initialized RX0, Cond.code yX0_mixed cX0_mixed 4 (some .long), Cond.constantLong RX0 232 (31), Cond.methodLink RX0 178 yX0_mixedRound, Cond.instanceMethod yX0_mixedRound, Cond.selects RX0 yX0_mixedRound yX0_mixedRound, Cond.code yX0_mixedRound cX0_mixedRound 9 (some .long), Cond.fieldLink RX0 16 "PianoJury" "marks" "[I", Cond.fieldLink RX0 20 "PianoJury" "yeses" "[I", Cond.methodLink RX0 82 yX0_cellOf, Cond.static yX0_cellOf]
def wsX0_digest_r2 : List Cond := [Cond.code yX0_cellOf cX0_cellOf 3 (some .int), Cond.methodLink RX0 90 yX0_pupilCellOf, Cond.static yX0_pupilCellOf, Cond.code yX0_pupilCellOf cX0_pupilCellOf 2 (some .int), Cond.methodLink RX0 182 yX0_mixedRow, Cond.static yX0_mixedRow, Cond.code yX0_mixedRow cX0_mixedRow 6 (some .long), Cond.methodLink RX0 152 yX0_programmeCellOf, Cond.static yX0_programmeCellOf, Cond.code yX0_programmeCellOf cX0_programmeCellOf 2 (some .int)]
def wsX0_digest : List Cond := .code yX0_digest cX0_digest 5 (some .long) :: ((wsX0_digest_r1 ++ wsX0_digest_r2) ++ wsX00)
def wsX1_begin : List Cond := .code yX1_begin cX1_begin 2 none :: ([.fieldLink RX1 16 "PianoJuryModel" "marks" "[I", .fieldLink RX1 20 "PianoJuryModel" "isYes" "[Z", .fieldLink RX1 24 "PianoJuryModel" "isPupil" "[Z", .fieldLink RX1 42 "PianoJuryModel" "programmes" "[I", .fieldLink RX1 60 "PianoJuryModel" "hasPlan" "Z"] ++ wsX10)
def wsX1_init_r1 : List Cond := [Cond.methodLink RX1 1 objectInit, Cond.instanceMethod objectInit, Cond.code objectInit ⟨#[0xb1]⟩ 1 none, Cond.fieldLink RX1 7 "PianoJuryModel" "players" "I", Cond.fieldLink RX1 13 "PianoJuryModel" "jurors" "I", Cond.arrayClass .int, Cond.fieldLink RX1 16 "PianoJuryModel" "marks" "[I", Cond.arrayClass .boolean, Cond.fieldLink RX1 20 "PianoJuryModel" "isYes" "[Z", Cond.fieldLink RX1 24 "PianoJuryModel" "isPupil" "[Z", Cond.fieldLink RX1 27 "PianoJuryModel" "cuts" "I", Cond.fieldLink RX1 30 "PianoJuryModel" "pull" "I", Cond.fieldLink RX1 33 "PianoJuryModel" "weights" "[I", Cond.fieldLink RX1 36 "PianoJuryModel" "prizes" "[I", Cond.fieldLink RX1 39 "PianoJuryModel" "minutes" "[I", Cond.fieldLink RX1 42 "PianoJuryModel" "programmes" "[I", Cond.fieldLink RX1 45 "PianoJuryModel" "worksOf" "[I", Cond.fieldLink RX1 48 "PianoJuryModel" "planOf" "[I", Cond.fieldLink RX1 51 "PianoJuryModel" "row" "[I", Cond.fieldLink RX1 54 "PianoJuryModel" "heardOf" "[I", Cond.methodLink RX1 57 yX1_begin, Cond.instanceMethod yX1_begin, Cond.selects RX1 yX1_begin yX1_begin, Cond.initialized RX1]
def wsX1_init_r2 : List Cond := [Cond.code yX1_begin cX1_begin 2 none, Cond.fieldLink RX1 60 "PianoJuryModel" "hasPlan" "Z"]
def wsX1_init : List Cond := .code yX1_init cX1_init 2 none :: ((wsX1_init_r1 ++ wsX1_init_r2) ++ wsX10)
def wsX1_in : List Cond := .code yX1_in cX1_in 3 (some .boolean) :: ([])
def wsX1_isRound : List Cond := .code yX1_isRound cX1_isRound 1 (some .boolean) :: ([.methodLink RX1 64 yX1_in, .static yX1_in, .initialized RX1, .code yX1_in cX1_in 3 (some .boolean)])
def wsX1_isPlayer : List Cond := .code yX1_isPlayer cX1_isPlayer 2 (some .boolean) :: ([.fieldLink RX1 7 "PianoJuryModel" "players" "I", .methodLink RX1 64 yX1_in, .static yX1_in, .initialized RX1, .code yX1_in cX1_in 3 (some .boolean)] ++ wsX10)
def wsX1_isJuror : List Cond := .code yX1_isJuror cX1_isJuror 2 (some .boolean) :: ([.fieldLink RX1 13 "PianoJuryModel" "jurors" "I", .methodLink RX1 64 yX1_in, .static yX1_in, .initialized RX1, .code yX1_in cX1_in 3 (some .boolean)] ++ wsX10)
def wsX1_contest : List Cond := .code yX1_contest cX1_contest 3 (some .int) :: ([.fieldLink RX1 7 "PianoJuryModel" "players" "I", .fieldLink RX1 13 "PianoJuryModel" "jurors" "I", .methodLink RX1 64 yX1_in, .static yX1_in, .initialized RX1, .code yX1_in cX1_in 3 (some .boolean), .methodLink RX1 57 yX1_begin, .instanceMethod yX1_begin, .selects RX1 yX1_begin yX1_begin, .code yX1_begin cX1_begin 2 none, .fieldLink RX1 16 "PianoJuryModel" "marks" "[I", .fieldLink RX1 20 "PianoJuryModel" "isYes" "[Z", .fieldLink RX1 24 "PianoJuryModel" "isPupil" "[Z", .fieldLink RX1 42 "PianoJuryModel" "programmes" "[I", .fieldLink RX1 60 "PianoJuryModel" "hasPlan" "Z"] ++ wsX10)
def wsX1_mark : List Cond := .code yX1_mark cX1_mark 7 (some .int) :: ([.fieldLink RX1 16 "PianoJuryModel" "marks" "[I", .methodLink RX1 68 yX1_isRound, .static yX1_isRound, .initialized RX1, .code yX1_isRound cX1_isRound 1 (some .boolean), .methodLink RX1 64 yX1_in, .static yX1_in, .code yX1_in cX1_in 3 (some .boolean), .methodLink RX1 72 yX1_isJuror, .instanceMethod yX1_isJuror, .selects RX1 yX1_isJuror yX1_isJuror, .code yX1_isJuror cX1_isJuror 2 (some .boolean), .fieldLink RX1 13 "PianoJuryModel" "jurors" "I", .methodLink RX1 75 yX1_isPlayer, .instanceMethod yX1_isPlayer, .selects RX1 yX1_isPlayer yX1_isPlayer, .code yX1_isPlayer cX1_isPlayer 2 (some .boolean), .fieldLink RX1 7 "PianoJuryModel" "players" "I"] ++ wsX10)
def wsX1_yes : List Cond := .code yX1_yes cX1_yes 7 (some .int) :: ([.fieldLink RX1 20 "PianoJuryModel" "isYes" "[Z", .methodLink RX1 68 yX1_isRound, .static yX1_isRound, .initialized RX1, .code yX1_isRound cX1_isRound 1 (some .boolean), .methodLink RX1 64 yX1_in, .static yX1_in, .code yX1_in cX1_in 3 (some .boolean), .methodLink RX1 72 yX1_isJuror, .instanceMethod yX1_isJuror, .selects RX1 yX1_isJuror yX1_isJuror, .code yX1_isJuror cX1_isJuror 2 (some .boolean), .fieldLink RX1 13 "PianoJuryModel" "jurors" "I", .methodLink RX1 75 yX1_isPlayer, .instanceMethod yX1_isPlayer, .selects RX1 yX1_isPlayer yX1_isPlayer, .code yX1_isPlayer cX1_isPlayer 2 (some .boolean), .fieldLink RX1 7 "PianoJuryModel" "players" "I"] ++ wsX10)
def wsX1_pupil : List Cond := .code yX1_pupil cX1_pupil 5 (some .int) :: ([.fieldLink RX1 24 "PianoJuryModel" "isPupil" "[Z", .methodLink RX1 72 yX1_isJuror, .instanceMethod yX1_isJuror, .selects RX1 yX1_isJuror yX1_isJuror, .initialized RX1, .code yX1_isJuror cX1_isJuror 2 (some .boolean), .fieldLink RX1 13 "PianoJuryModel" "jurors" "I", .methodLink RX1 64 yX1_in, .static yX1_in, .code yX1_in cX1_in 3 (some .boolean), .methodLink RX1 75 yX1_isPlayer, .instanceMethod yX1_isPlayer, .selects RX1 yX1_isPlayer yX1_isPlayer, .code yX1_isPlayer cX1_isPlayer 2 (some .boolean), .fieldLink RX1 7 "PianoJuryModel" "players" "I"] ++ wsX10)
def wsX1_rule : List Cond := .code yX1_rule cX1_rule 4 (some .int) :: ([.fieldLink RX1 27 "PianoJuryModel" "cuts" "I", .fieldLink RX1 30 "PianoJuryModel" "pull" "I", .methodLink RX1 64 yX1_in, .static yX1_in, .initialized RX1, .code yX1_in cX1_in 3 (some .boolean)] ++ wsX10)
def wsX1_counts : List Cond := .code yX1_counts cX1_counts 4 (some .boolean) :: ([.fieldLink RX1 24 "PianoJuryModel" "isPupil" "[Z", .fieldLink RX1 16 "PianoJuryModel" "marks" "[I"] ++ wsX10)
def wsX1_gather : List Cond := .code yX1_gather cX1_gather 6 none :: ([.fieldLink RX1 78 "PianoJuryModel" "many" "I", .fieldLink RX1 81 "PianoJuryModel" "sum" "I", .fieldLink RX1 13 "PianoJuryModel" "jurors" "I", .fieldLink RX1 16 "PianoJuryModel" "marks" "[I", .fieldLink RX1 51 "PianoJuryModel" "row" "[I", .methodLink RX1 84 yX1_counts, .instanceMethod yX1_counts, .selects RX1 yX1_counts yX1_counts, .initialized RX1, .code yX1_counts cX1_counts 4 (some .boolean), .fieldLink RX1 24 "PianoJuryModel" "isPupil" "[Z"] ++ wsX10)
def wsX1_cutOf : List Cond := .code yX1_cutOf cX1_cutOf 4 (some .int) :: ([.fieldLink RX1 78 "PianoJuryModel" "many" "I", .fieldLink RX1 27 "PianoJuryModel" "cuts" "I", .fieldLink RX1 51 "PianoJuryModel" "row" "[I", .constant RX1 87 (176400)] ++ wsX10)
def wsX1_yesOf : List Cond := .code yX1_yesOf cX1_yesOf 5 (some .int) :: ([.fieldLink RX1 13 "PianoJuryModel" "jurors" "I", .fieldLink RX1 20 "PianoJuryModel" "isYes" "[Z", .constant RX1 87 (176400), .fieldLink RX1 78 "PianoJuryModel" "many" "I", .methodLink RX1 84 yX1_counts, .instanceMethod yX1_counts, .selects RX1 yX1_counts yX1_counts, .initialized RX1, .code yX1_counts cX1_counts 4 (some .boolean), .fieldLink RX1 24 "PianoJuryModel" "isPupil" "[Z", .fieldLink RX1 16 "PianoJuryModel" "marks" "[I"] ++ wsX10)
def wsX1_beatsOf : List Cond := .code yX1_beatsOf cX1_beatsOf 7 (some .int) :: ([.fieldLink RX1 13 "PianoJuryModel" "jurors" "I", .fieldLink RX1 16 "PianoJuryModel" "marks" "[I", .methodLink RX1 84 yX1_counts, .instanceMethod yX1_counts, .selects RX1 yX1_counts yX1_counts, .initialized RX1, .code yX1_counts cX1_counts 4 (some .boolean), .fieldLink RX1 24 "PianoJuryModel" "isPupil" "[Z"] ++ wsX10)
def wsX1_hasMark : List Cond := .code yX1_hasMark cX1_hasMark 5 (some .boolean) :: ([.fieldLink RX1 13 "PianoJuryModel" "jurors" "I", .methodLink RX1 84 yX1_counts, .instanceMethod yX1_counts, .selects RX1 yX1_counts yX1_counts, .initialized RX1, .code yX1_counts cX1_counts 4 (some .boolean), .fieldLink RX1 24 "PianoJuryModel" "isPupil" "[Z", .fieldLink RX1 16 "PianoJuryModel" "marks" "[I"] ++ wsX10)
def wsX1_pairsOf : List Cond := .code yX1_pairsOf cX1_pairsOf 5 (some .int) :: ([.fieldLink RX1 7 "PianoJuryModel" "players" "I", .methodLink RX1 88 yX1_hasMark, .instanceMethod yX1_hasMark, .selects RX1 yX1_hasMark yX1_hasMark, .initialized RX1, .code yX1_hasMark cX1_hasMark 5 (some .boolean), .fieldLink RX1 13 "PianoJuryModel" "jurors" "I", .methodLink RX1 84 yX1_counts, .instanceMethod yX1_counts, .selects RX1 yX1_counts yX1_counts, .code yX1_counts cX1_counts 4 (some .boolean), .fieldLink RX1 24 "PianoJuryModel" "isPupil" "[Z", .fieldLink RX1 16 "PianoJuryModel" "marks" "[I", .methodLink RX1 92 yX1_beatsOf, .instanceMethod yX1_beatsOf, .selects RX1 yX1_beatsOf yX1_beatsOf, .code yX1_beatsOf cX1_beatsOf 7 (some .int)] ++ wsX10)
def wsX1_pulledOf : List Cond := .code yX1_pulledOf cX1_pulledOf 4 (some .int) :: ([.fieldLink RX1 78 "PianoJuryModel" "many" "I", .fieldLink RX1 51 "PianoJuryModel" "row" "[I", .fieldLink RX1 81 "PianoJuryModel" "sum" "I", .fieldLink RX1 30 "PianoJuryModel" "pull" "I", .constant RX1 87 (176400)] ++ wsX10)
def wsX1_scoreOf_r1 : List Cond := [Cond.fieldLink RX1 78 "PianoJuryModel" "many" "I", Cond.constant RX1 87 (176400), Cond.fieldLink RX1 81 "PianoJuryModel" "sum" "I", Cond.constant RX1 104 (88200), Cond.fieldLink RX1 51 "PianoJuryModel" "row" "[I", Cond.methodLink RX1 96 yX1_gather, Cond.instanceMethod yX1_gather, Cond.selects RX1 yX1_gather yX1_gather, Cond.initialized RX1, Cond.code yX1_gather cX1_gather 6 none, Cond.fieldLink RX1 13 "PianoJuryModel" "jurors" "I", Cond.fieldLink RX1 16 "PianoJuryModel" "marks" "[I", Cond.methodLink RX1 84 yX1_counts, Cond.instanceMethod yX1_counts, Cond.selects RX1 yX1_counts yX1_counts, Cond.code yX1_counts cX1_counts 4 (some .boolean), Cond.fieldLink RX1 24 "PianoJuryModel" "isPupil" "[Z", Cond.methodLink RX1 100 yX1_cutOf, Cond.instanceMethod yX1_cutOf, Cond.selects RX1 yX1_cutOf yX1_cutOf, Cond.code yX1_cutOf cX1_cutOf 4 (some .int), Cond.fieldLink RX1 27 "PianoJuryModel" "cuts" "I", Cond.methodLink RX1 105 yX1_yesOf, Cond.instanceMethod yX1_yesOf]
def wsX1_scoreOf_r2 : List Cond := [Cond.selects RX1 yX1_yesOf yX1_yesOf, Cond.code yX1_yesOf cX1_yesOf 5 (some .int), Cond.fieldLink RX1 20 "PianoJuryModel" "isYes" "[Z", Cond.methodLink RX1 109 yX1_pairsOf, Cond.instanceMethod yX1_pairsOf, Cond.selects RX1 yX1_pairsOf yX1_pairsOf, Cond.code yX1_pairsOf cX1_pairsOf 5 (some .int), Cond.fieldLink RX1 7 "PianoJuryModel" "players" "I", Cond.methodLink RX1 88 yX1_hasMark, Cond.instanceMethod yX1_hasMark, Cond.selects RX1 yX1_hasMark yX1_hasMark, Cond.code yX1_hasMark cX1_hasMark 5 (some .boolean), Cond.methodLink RX1 92 yX1_beatsOf, Cond.instanceMethod yX1_beatsOf, Cond.selects RX1 yX1_beatsOf yX1_beatsOf, Cond.code yX1_beatsOf cX1_beatsOf 7 (some .int), Cond.methodLink RX1 112 yX1_pulledOf, Cond.instanceMethod yX1_pulledOf, Cond.selects RX1 yX1_pulledOf yX1_pulledOf, Cond.code yX1_pulledOf cX1_pulledOf 4 (some .int), Cond.fieldLink RX1 30 "PianoJuryModel" "pull" "I"]
def wsX1_scoreOf : List Cond := .code yX1_scoreOf cX1_scoreOf 4 (some .int) :: ((wsX1_scoreOf_r1 ++ wsX1_scoreOf_r2) ++ wsX10)
def wsX1_score_r1 : List Cond := [Cond.methodLink RX1 68 yX1_isRound, Cond.static yX1_isRound, Cond.initialized RX1, Cond.code yX1_isRound cX1_isRound 1 (some .boolean), Cond.methodLink RX1 64 yX1_in, Cond.static yX1_in, Cond.code yX1_in cX1_in 3 (some .boolean), Cond.methodLink RX1 75 yX1_isPlayer, Cond.instanceMethod yX1_isPlayer, Cond.selects RX1 yX1_isPlayer yX1_isPlayer, Cond.code yX1_isPlayer cX1_isPlayer 2 (some .boolean), Cond.fieldLink RX1 7 "PianoJuryModel" "players" "I", Cond.methodLink RX1 115 yX1_scoreOf, Cond.instanceMethod yX1_scoreOf, Cond.selects RX1 yX1_scoreOf yX1_scoreOf, Cond.code yX1_scoreOf cX1_scoreOf 4 (some .int), Cond.fieldLink RX1 78 "PianoJuryModel" "many" "I", Cond.constant RX1 87 (176400), Cond.fieldLink RX1 81 "PianoJuryModel" "sum" "I", Cond.constant RX1 104 (88200), Cond.fieldLink RX1 51 "PianoJuryModel" "row" "[I", Cond.methodLink RX1 96 yX1_gather, Cond.instanceMethod yX1_gather, Cond.selects RX1 yX1_gather yX1_gather]
def wsX1_score_r2 : List Cond := [Cond.code yX1_gather cX1_gather 6 none, Cond.fieldLink RX1 13 "PianoJuryModel" "jurors" "I", Cond.fieldLink RX1 16 "PianoJuryModel" "marks" "[I", Cond.methodLink RX1 84 yX1_counts, Cond.instanceMethod yX1_counts, Cond.selects RX1 yX1_counts yX1_counts, Cond.code yX1_counts cX1_counts 4 (some .boolean), Cond.fieldLink RX1 24 "PianoJuryModel" "isPupil" "[Z", Cond.methodLink RX1 100 yX1_cutOf, Cond.instanceMethod yX1_cutOf, Cond.selects RX1 yX1_cutOf yX1_cutOf, Cond.code yX1_cutOf cX1_cutOf 4 (some .int), Cond.fieldLink RX1 27 "PianoJuryModel" "cuts" "I", Cond.methodLink RX1 105 yX1_yesOf, Cond.instanceMethod yX1_yesOf, Cond.selects RX1 yX1_yesOf yX1_yesOf, Cond.code yX1_yesOf cX1_yesOf 5 (some .int), Cond.fieldLink RX1 20 "PianoJuryModel" "isYes" "[Z", Cond.methodLink RX1 109 yX1_pairsOf, Cond.instanceMethod yX1_pairsOf, Cond.selects RX1 yX1_pairsOf yX1_pairsOf, Cond.code yX1_pairsOf cX1_pairsOf 5 (some .int), Cond.methodLink RX1 88 yX1_hasMark, Cond.instanceMethod yX1_hasMark]
def wsX1_score_r3 : List Cond := [Cond.selects RX1 yX1_hasMark yX1_hasMark, Cond.code yX1_hasMark cX1_hasMark 5 (some .boolean), Cond.methodLink RX1 92 yX1_beatsOf, Cond.instanceMethod yX1_beatsOf, Cond.selects RX1 yX1_beatsOf yX1_beatsOf, Cond.code yX1_beatsOf cX1_beatsOf 7 (some .int), Cond.methodLink RX1 112 yX1_pulledOf, Cond.instanceMethod yX1_pulledOf, Cond.selects RX1 yX1_pulledOf yX1_pulledOf, Cond.code yX1_pulledOf cX1_pulledOf 4 (some .int), Cond.fieldLink RX1 30 "PianoJuryModel" "pull" "I"]
def wsX1_score : List Cond := .code yX1_score cX1_score 4 (some .int) :: ((wsX1_score_r1 ++ (wsX1_score_r2 ++ wsX1_score_r3)) ++ wsX10)
def wsX1_beats : List Cond := .code yX1_beats cX1_beats 4 (some .int) :: ([.methodLink RX1 68 yX1_isRound, .static yX1_isRound, .initialized RX1, .code yX1_isRound cX1_isRound 1 (some .boolean), .methodLink RX1 64 yX1_in, .static yX1_in, .code yX1_in cX1_in 3 (some .boolean), .methodLink RX1 75 yX1_isPlayer, .instanceMethod yX1_isPlayer, .selects RX1 yX1_isPlayer yX1_isPlayer, .code yX1_isPlayer cX1_isPlayer 2 (some .boolean), .fieldLink RX1 7 "PianoJuryModel" "players" "I", .methodLink RX1 92 yX1_beatsOf, .instanceMethod yX1_beatsOf, .selects RX1 yX1_beatsOf yX1_beatsOf, .code yX1_beatsOf cX1_beatsOf 7 (some .int), .fieldLink RX1 13 "PianoJuryModel" "jurors" "I", .fieldLink RX1 16 "PianoJuryModel" "marks" "[I", .methodLink RX1 84 yX1_counts, .instanceMethod yX1_counts, .selects RX1 yX1_counts yX1_counts, .code yX1_counts cX1_counts 4 (some .boolean), .fieldLink RX1 24 "PianoJuryModel" "isPupil" "[Z"] ++ wsX10)
def wsX1_placeOf_r1 : List Cond := [Cond.fieldLink RX1 7 "PianoJuryModel" "players" "I", Cond.methodLink RX1 115 yX1_scoreOf, Cond.instanceMethod yX1_scoreOf, Cond.selects RX1 yX1_scoreOf yX1_scoreOf, Cond.initialized RX1, Cond.code yX1_scoreOf cX1_scoreOf 4 (some .int), Cond.fieldLink RX1 78 "PianoJuryModel" "many" "I", Cond.constant RX1 87 (176400), Cond.fieldLink RX1 81 "PianoJuryModel" "sum" "I", Cond.constant RX1 104 (88200), Cond.fieldLink RX1 51 "PianoJuryModel" "row" "[I", Cond.methodLink RX1 96 yX1_gather, Cond.instanceMethod yX1_gather, Cond.selects RX1 yX1_gather yX1_gather, Cond.code yX1_gather cX1_gather 6 none, Cond.fieldLink RX1 13 "PianoJuryModel" "jurors" "I", Cond.fieldLink RX1 16 "PianoJuryModel" "marks" "[I", Cond.methodLink RX1 84 yX1_counts, Cond.instanceMethod yX1_counts, Cond.selects RX1 yX1_counts yX1_counts, Cond.code yX1_counts cX1_counts 4 (some .boolean), Cond.fieldLink RX1 24 "PianoJuryModel" "isPupil" "[Z", Cond.methodLink RX1 100 yX1_cutOf, Cond.instanceMethod yX1_cutOf]
def wsX1_placeOf_r2 : List Cond := [Cond.selects RX1 yX1_cutOf yX1_cutOf, Cond.code yX1_cutOf cX1_cutOf 4 (some .int), Cond.fieldLink RX1 27 "PianoJuryModel" "cuts" "I", Cond.methodLink RX1 105 yX1_yesOf, Cond.instanceMethod yX1_yesOf, Cond.selects RX1 yX1_yesOf yX1_yesOf, Cond.code yX1_yesOf cX1_yesOf 5 (some .int), Cond.fieldLink RX1 20 "PianoJuryModel" "isYes" "[Z", Cond.methodLink RX1 109 yX1_pairsOf, Cond.instanceMethod yX1_pairsOf, Cond.selects RX1 yX1_pairsOf yX1_pairsOf, Cond.code yX1_pairsOf cX1_pairsOf 5 (some .int), Cond.methodLink RX1 88 yX1_hasMark, Cond.instanceMethod yX1_hasMark, Cond.selects RX1 yX1_hasMark yX1_hasMark, Cond.code yX1_hasMark cX1_hasMark 5 (some .boolean), Cond.methodLink RX1 92 yX1_beatsOf, Cond.instanceMethod yX1_beatsOf, Cond.selects RX1 yX1_beatsOf yX1_beatsOf, Cond.code yX1_beatsOf cX1_beatsOf 7 (some .int), Cond.methodLink RX1 112 yX1_pulledOf, Cond.instanceMethod yX1_pulledOf, Cond.selects RX1 yX1_pulledOf yX1_pulledOf, Cond.code yX1_pulledOf cX1_pulledOf 4 (some .int)]
def wsX1_placeOf_r3 : List Cond := [Cond.fieldLink RX1 30 "PianoJuryModel" "pull" "I"]
def wsX1_placeOf : List Cond := .code yX1_placeOf cX1_placeOf 7 (some .int) :: ((wsX1_placeOf_r1 ++ (wsX1_placeOf_r2 ++ wsX1_placeOf_r3)) ++ wsX10)
def wsX1_place_r1 : List Cond := [Cond.methodLink RX1 68 yX1_isRound, Cond.static yX1_isRound, Cond.initialized RX1, Cond.code yX1_isRound cX1_isRound 1 (some .boolean), Cond.methodLink RX1 64 yX1_in, Cond.static yX1_in, Cond.code yX1_in cX1_in 3 (some .boolean), Cond.methodLink RX1 75 yX1_isPlayer, Cond.instanceMethod yX1_isPlayer, Cond.selects RX1 yX1_isPlayer yX1_isPlayer, Cond.code yX1_isPlayer cX1_isPlayer 2 (some .boolean), Cond.fieldLink RX1 7 "PianoJuryModel" "players" "I", Cond.methodLink RX1 118 yX1_placeOf, Cond.instanceMethod yX1_placeOf, Cond.selects RX1 yX1_placeOf yX1_placeOf, Cond.code yX1_placeOf cX1_placeOf 7 (some .int), Cond.methodLink RX1 115 yX1_scoreOf, Cond.instanceMethod yX1_scoreOf, Cond.selects RX1 yX1_scoreOf yX1_scoreOf, Cond.code yX1_scoreOf cX1_scoreOf 4 (some .int), Cond.fieldLink RX1 78 "PianoJuryModel" "many" "I", Cond.constant RX1 87 (176400), Cond.fieldLink RX1 81 "PianoJuryModel" "sum" "I", Cond.constant RX1 104 (88200)]
def wsX1_place_r2 : List Cond := [Cond.fieldLink RX1 51 "PianoJuryModel" "row" "[I", Cond.methodLink RX1 96 yX1_gather, Cond.instanceMethod yX1_gather, Cond.selects RX1 yX1_gather yX1_gather, Cond.code yX1_gather cX1_gather 6 none, Cond.fieldLink RX1 13 "PianoJuryModel" "jurors" "I", Cond.fieldLink RX1 16 "PianoJuryModel" "marks" "[I", Cond.methodLink RX1 84 yX1_counts, Cond.instanceMethod yX1_counts, Cond.selects RX1 yX1_counts yX1_counts, Cond.code yX1_counts cX1_counts 4 (some .boolean), Cond.fieldLink RX1 24 "PianoJuryModel" "isPupil" "[Z", Cond.methodLink RX1 100 yX1_cutOf, Cond.instanceMethod yX1_cutOf, Cond.selects RX1 yX1_cutOf yX1_cutOf, Cond.code yX1_cutOf cX1_cutOf 4 (some .int), Cond.fieldLink RX1 27 "PianoJuryModel" "cuts" "I", Cond.methodLink RX1 105 yX1_yesOf, Cond.instanceMethod yX1_yesOf, Cond.selects RX1 yX1_yesOf yX1_yesOf, Cond.code yX1_yesOf cX1_yesOf 5 (some .int), Cond.fieldLink RX1 20 "PianoJuryModel" "isYes" "[Z", Cond.methodLink RX1 109 yX1_pairsOf, Cond.instanceMethod yX1_pairsOf]
def wsX1_place_r3 : List Cond := [Cond.selects RX1 yX1_pairsOf yX1_pairsOf, Cond.code yX1_pairsOf cX1_pairsOf 5 (some .int), Cond.methodLink RX1 88 yX1_hasMark, Cond.instanceMethod yX1_hasMark, Cond.selects RX1 yX1_hasMark yX1_hasMark, Cond.code yX1_hasMark cX1_hasMark 5 (some .boolean), Cond.methodLink RX1 92 yX1_beatsOf, Cond.instanceMethod yX1_beatsOf, Cond.selects RX1 yX1_beatsOf yX1_beatsOf, Cond.code yX1_beatsOf cX1_beatsOf 7 (some .int), Cond.methodLink RX1 112 yX1_pulledOf, Cond.instanceMethod yX1_pulledOf, Cond.selects RX1 yX1_pulledOf yX1_pulledOf, Cond.code yX1_pulledOf cX1_pulledOf 4 (some .int), Cond.fieldLink RX1 30 "PianoJuryModel" "pull" "I"]
def wsX1_place : List Cond := .code yX1_place cX1_place 4 (some .int) :: ((wsX1_place_r1 ++ (wsX1_place_r2 ++ wsX1_place_r3)) ++ wsX10)
def wsX1_passes_r1 : List Cond := [Cond.methodLink RX1 88 yX1_hasMark, Cond.instanceMethod yX1_hasMark, Cond.selects RX1 yX1_hasMark yX1_hasMark, Cond.initialized RX1, Cond.code yX1_hasMark cX1_hasMark 5 (some .boolean), Cond.fieldLink RX1 13 "PianoJuryModel" "jurors" "I", Cond.methodLink RX1 84 yX1_counts, Cond.instanceMethod yX1_counts, Cond.selects RX1 yX1_counts yX1_counts, Cond.code yX1_counts cX1_counts 4 (some .boolean), Cond.fieldLink RX1 24 "PianoJuryModel" "isPupil" "[Z", Cond.fieldLink RX1 16 "PianoJuryModel" "marks" "[I", Cond.methodLink RX1 118 yX1_placeOf, Cond.instanceMethod yX1_placeOf, Cond.selects RX1 yX1_placeOf yX1_placeOf, Cond.code yX1_placeOf cX1_placeOf 7 (some .int), Cond.fieldLink RX1 7 "PianoJuryModel" "players" "I", Cond.methodLink RX1 115 yX1_scoreOf, Cond.instanceMethod yX1_scoreOf, Cond.selects RX1 yX1_scoreOf yX1_scoreOf, Cond.code yX1_scoreOf cX1_scoreOf 4 (some .int), Cond.fieldLink RX1 78 "PianoJuryModel" "many" "I", Cond.constant RX1 87 (176400), Cond.fieldLink RX1 81 "PianoJuryModel" "sum" "I"]
def wsX1_passes_r2 : List Cond := [Cond.constant RX1 104 (88200), Cond.fieldLink RX1 51 "PianoJuryModel" "row" "[I", Cond.methodLink RX1 96 yX1_gather, Cond.instanceMethod yX1_gather, Cond.selects RX1 yX1_gather yX1_gather, Cond.code yX1_gather cX1_gather 6 none, Cond.methodLink RX1 100 yX1_cutOf, Cond.instanceMethod yX1_cutOf, Cond.selects RX1 yX1_cutOf yX1_cutOf, Cond.code yX1_cutOf cX1_cutOf 4 (some .int), Cond.fieldLink RX1 27 "PianoJuryModel" "cuts" "I", Cond.methodLink RX1 105 yX1_yesOf, Cond.instanceMethod yX1_yesOf, Cond.selects RX1 yX1_yesOf yX1_yesOf, Cond.code yX1_yesOf cX1_yesOf 5 (some .int), Cond.fieldLink RX1 20 "PianoJuryModel" "isYes" "[Z", Cond.methodLink RX1 109 yX1_pairsOf, Cond.instanceMethod yX1_pairsOf, Cond.selects RX1 yX1_pairsOf yX1_pairsOf, Cond.code yX1_pairsOf cX1_pairsOf 5 (some .int), Cond.methodLink RX1 92 yX1_beatsOf, Cond.instanceMethod yX1_beatsOf, Cond.selects RX1 yX1_beatsOf yX1_beatsOf, Cond.code yX1_beatsOf cX1_beatsOf 7 (some .int)]
def wsX1_passes_r3 : List Cond := [Cond.methodLink RX1 112 yX1_pulledOf, Cond.instanceMethod yX1_pulledOf, Cond.selects RX1 yX1_pulledOf yX1_pulledOf, Cond.code yX1_pulledOf cX1_pulledOf 4 (some .int), Cond.fieldLink RX1 30 "PianoJuryModel" "pull" "I"]
def wsX1_passes : List Cond := .code yX1_passes cX1_passes 5 (some .boolean) :: ((wsX1_passes_r1 ++ (wsX1_passes_r2 ++ wsX1_passes_r3)) ++ wsX10)
def wsX1_passedOf_r1 : List Cond := [Cond.fieldLink RX1 7 "PianoJuryModel" "players" "I", Cond.methodLink RX1 121 yX1_passes, Cond.instanceMethod yX1_passes, Cond.selects RX1 yX1_passes yX1_passes, Cond.initialized RX1, Cond.code yX1_passes cX1_passes 5 (some .boolean), Cond.methodLink RX1 88 yX1_hasMark, Cond.instanceMethod yX1_hasMark, Cond.selects RX1 yX1_hasMark yX1_hasMark, Cond.code yX1_hasMark cX1_hasMark 5 (some .boolean), Cond.fieldLink RX1 13 "PianoJuryModel" "jurors" "I", Cond.methodLink RX1 84 yX1_counts, Cond.instanceMethod yX1_counts, Cond.selects RX1 yX1_counts yX1_counts, Cond.code yX1_counts cX1_counts 4 (some .boolean), Cond.fieldLink RX1 24 "PianoJuryModel" "isPupil" "[Z", Cond.fieldLink RX1 16 "PianoJuryModel" "marks" "[I", Cond.methodLink RX1 118 yX1_placeOf, Cond.instanceMethod yX1_placeOf, Cond.selects RX1 yX1_placeOf yX1_placeOf, Cond.code yX1_placeOf cX1_placeOf 7 (some .int), Cond.methodLink RX1 115 yX1_scoreOf, Cond.instanceMethod yX1_scoreOf, Cond.selects RX1 yX1_scoreOf yX1_scoreOf]
def wsX1_passedOf_r2 : List Cond := [Cond.code yX1_scoreOf cX1_scoreOf 4 (some .int), Cond.fieldLink RX1 78 "PianoJuryModel" "many" "I", Cond.constant RX1 87 (176400), Cond.fieldLink RX1 81 "PianoJuryModel" "sum" "I", Cond.constant RX1 104 (88200), Cond.fieldLink RX1 51 "PianoJuryModel" "row" "[I", Cond.methodLink RX1 96 yX1_gather, Cond.instanceMethod yX1_gather, Cond.selects RX1 yX1_gather yX1_gather, Cond.code yX1_gather cX1_gather 6 none, Cond.methodLink RX1 100 yX1_cutOf, Cond.instanceMethod yX1_cutOf, Cond.selects RX1 yX1_cutOf yX1_cutOf, Cond.code yX1_cutOf cX1_cutOf 4 (some .int), Cond.fieldLink RX1 27 "PianoJuryModel" "cuts" "I", Cond.methodLink RX1 105 yX1_yesOf, Cond.instanceMethod yX1_yesOf, Cond.selects RX1 yX1_yesOf yX1_yesOf, Cond.code yX1_yesOf cX1_yesOf 5 (some .int), Cond.fieldLink RX1 20 "PianoJuryModel" "isYes" "[Z", Cond.methodLink RX1 109 yX1_pairsOf, Cond.instanceMethod yX1_pairsOf, Cond.selects RX1 yX1_pairsOf yX1_pairsOf, Cond.code yX1_pairsOf cX1_pairsOf 5 (some .int)]
def wsX1_passedOf_r3 : List Cond := [Cond.methodLink RX1 92 yX1_beatsOf, Cond.instanceMethod yX1_beatsOf, Cond.selects RX1 yX1_beatsOf yX1_beatsOf, Cond.code yX1_beatsOf cX1_beatsOf 7 (some .int), Cond.methodLink RX1 112 yX1_pulledOf, Cond.instanceMethod yX1_pulledOf, Cond.selects RX1 yX1_pulledOf yX1_pulledOf, Cond.code yX1_pulledOf cX1_pulledOf 4 (some .int), Cond.fieldLink RX1 30 "PianoJuryModel" "pull" "I"]
def wsX1_passedOf : List Cond := .code yX1_passedOf cX1_passedOf 6 (some .int) :: ((wsX1_passedOf_r1 ++ (wsX1_passedOf_r2 ++ wsX1_passedOf_r3)) ++ wsX10)
def wsX1_passed_r1 : List Cond := [Cond.methodLink RX1 68 yX1_isRound, Cond.static yX1_isRound, Cond.initialized RX1, Cond.code yX1_isRound cX1_isRound 1 (some .boolean), Cond.methodLink RX1 64 yX1_in, Cond.static yX1_in, Cond.code yX1_in cX1_in 3 (some .boolean), Cond.methodLink RX1 125 yX1_passedOf, Cond.instanceMethod yX1_passedOf, Cond.selects RX1 yX1_passedOf yX1_passedOf, Cond.code yX1_passedOf cX1_passedOf 6 (some .int), Cond.fieldLink RX1 7 "PianoJuryModel" "players" "I", Cond.methodLink RX1 121 yX1_passes, Cond.instanceMethod yX1_passes, Cond.selects RX1 yX1_passes yX1_passes, Cond.code yX1_passes cX1_passes 5 (some .boolean), Cond.methodLink RX1 88 yX1_hasMark, Cond.instanceMethod yX1_hasMark, Cond.selects RX1 yX1_hasMark yX1_hasMark, Cond.code yX1_hasMark cX1_hasMark 5 (some .boolean), Cond.fieldLink RX1 13 "PianoJuryModel" "jurors" "I", Cond.methodLink RX1 84 yX1_counts, Cond.instanceMethod yX1_counts, Cond.selects RX1 yX1_counts yX1_counts]
def wsX1_passed_r2 : List Cond := [Cond.code yX1_counts cX1_counts 4 (some .boolean), Cond.fieldLink RX1 24 "PianoJuryModel" "isPupil" "[Z", Cond.fieldLink RX1 16 "PianoJuryModel" "marks" "[I", Cond.methodLink RX1 118 yX1_placeOf, Cond.instanceMethod yX1_placeOf, Cond.selects RX1 yX1_placeOf yX1_placeOf, Cond.code yX1_placeOf cX1_placeOf 7 (some .int), Cond.methodLink RX1 115 yX1_scoreOf, Cond.instanceMethod yX1_scoreOf, Cond.selects RX1 yX1_scoreOf yX1_scoreOf, Cond.code yX1_scoreOf cX1_scoreOf 4 (some .int), Cond.fieldLink RX1 78 "PianoJuryModel" "many" "I", Cond.constant RX1 87 (176400), Cond.fieldLink RX1 81 "PianoJuryModel" "sum" "I", Cond.constant RX1 104 (88200), Cond.fieldLink RX1 51 "PianoJuryModel" "row" "[I", Cond.methodLink RX1 96 yX1_gather, Cond.instanceMethod yX1_gather, Cond.selects RX1 yX1_gather yX1_gather, Cond.code yX1_gather cX1_gather 6 none, Cond.methodLink RX1 100 yX1_cutOf, Cond.instanceMethod yX1_cutOf, Cond.selects RX1 yX1_cutOf yX1_cutOf, Cond.code yX1_cutOf cX1_cutOf 4 (some .int)]
def wsX1_passed_r3 : List Cond := [Cond.fieldLink RX1 27 "PianoJuryModel" "cuts" "I", Cond.methodLink RX1 105 yX1_yesOf, Cond.instanceMethod yX1_yesOf, Cond.selects RX1 yX1_yesOf yX1_yesOf, Cond.code yX1_yesOf cX1_yesOf 5 (some .int), Cond.fieldLink RX1 20 "PianoJuryModel" "isYes" "[Z", Cond.methodLink RX1 109 yX1_pairsOf, Cond.instanceMethod yX1_pairsOf, Cond.selects RX1 yX1_pairsOf yX1_pairsOf, Cond.code yX1_pairsOf cX1_pairsOf 5 (some .int), Cond.methodLink RX1 92 yX1_beatsOf, Cond.instanceMethod yX1_beatsOf, Cond.selects RX1 yX1_beatsOf yX1_beatsOf, Cond.code yX1_beatsOf cX1_beatsOf 7 (some .int), Cond.methodLink RX1 112 yX1_pulledOf, Cond.instanceMethod yX1_pulledOf, Cond.selects RX1 yX1_pulledOf yX1_pulledOf, Cond.code yX1_pulledOf cX1_pulledOf 4 (some .int), Cond.fieldLink RX1 30 "PianoJuryModel" "pull" "I"]
def wsX1_passed : List Cond := .code yX1_passed cX1_passed 4 (some .int) :: ((wsX1_passed_r1 ++ (wsX1_passed_r2 ++ wsX1_passed_r3)) ++ wsX10)
def wsX1_differ_r1 : List Cond := [Cond.fieldLink RX1 7 "PianoJuryModel" "players" "I", Cond.methodLink RX1 68 yX1_isRound, Cond.static yX1_isRound, Cond.initialized RX1, Cond.code yX1_isRound cX1_isRound 1 (some .boolean), Cond.methodLink RX1 64 yX1_in, Cond.static yX1_in, Cond.code yX1_in cX1_in 3 (some .boolean), Cond.methodLink RX1 125 yX1_passedOf, Cond.instanceMethod yX1_passedOf, Cond.selects RX1 yX1_passedOf yX1_passedOf, Cond.code yX1_passedOf cX1_passedOf 6 (some .int), Cond.methodLink RX1 121 yX1_passes, Cond.instanceMethod yX1_passes, Cond.selects RX1 yX1_passes yX1_passes, Cond.code yX1_passes cX1_passes 5 (some .boolean), Cond.methodLink RX1 88 yX1_hasMark, Cond.instanceMethod yX1_hasMark, Cond.selects RX1 yX1_hasMark yX1_hasMark, Cond.code yX1_hasMark cX1_hasMark 5 (some .boolean), Cond.fieldLink RX1 13 "PianoJuryModel" "jurors" "I", Cond.methodLink RX1 84 yX1_counts, Cond.instanceMethod yX1_counts, Cond.selects RX1 yX1_counts yX1_counts]
def wsX1_differ_r2 : List Cond := [Cond.code yX1_counts cX1_counts 4 (some .boolean), Cond.fieldLink RX1 24 "PianoJuryModel" "isPupil" "[Z", Cond.fieldLink RX1 16 "PianoJuryModel" "marks" "[I", Cond.methodLink RX1 118 yX1_placeOf, Cond.instanceMethod yX1_placeOf, Cond.selects RX1 yX1_placeOf yX1_placeOf, Cond.code yX1_placeOf cX1_placeOf 7 (some .int), Cond.methodLink RX1 115 yX1_scoreOf, Cond.instanceMethod yX1_scoreOf, Cond.selects RX1 yX1_scoreOf yX1_scoreOf, Cond.code yX1_scoreOf cX1_scoreOf 4 (some .int), Cond.fieldLink RX1 78 "PianoJuryModel" "many" "I", Cond.constant RX1 87 (176400), Cond.fieldLink RX1 81 "PianoJuryModel" "sum" "I", Cond.constant RX1 104 (88200), Cond.fieldLink RX1 51 "PianoJuryModel" "row" "[I", Cond.methodLink RX1 96 yX1_gather, Cond.instanceMethod yX1_gather, Cond.selects RX1 yX1_gather yX1_gather, Cond.code yX1_gather cX1_gather 6 none, Cond.methodLink RX1 100 yX1_cutOf, Cond.instanceMethod yX1_cutOf, Cond.selects RX1 yX1_cutOf yX1_cutOf, Cond.code yX1_cutOf cX1_cutOf 4 (some .int)]
def wsX1_differ_r3 : List Cond := [Cond.fieldLink RX1 27 "PianoJuryModel" "cuts" "I", Cond.methodLink RX1 105 yX1_yesOf, Cond.instanceMethod yX1_yesOf, Cond.selects RX1 yX1_yesOf yX1_yesOf, Cond.code yX1_yesOf cX1_yesOf 5 (some .int), Cond.fieldLink RX1 20 "PianoJuryModel" "isYes" "[Z", Cond.methodLink RX1 109 yX1_pairsOf, Cond.instanceMethod yX1_pairsOf, Cond.selects RX1 yX1_pairsOf yX1_pairsOf, Cond.code yX1_pairsOf cX1_pairsOf 5 (some .int), Cond.methodLink RX1 92 yX1_beatsOf, Cond.instanceMethod yX1_beatsOf, Cond.selects RX1 yX1_beatsOf yX1_beatsOf, Cond.code yX1_beatsOf cX1_beatsOf 7 (some .int), Cond.methodLink RX1 112 yX1_pulledOf, Cond.instanceMethod yX1_pulledOf, Cond.selects RX1 yX1_pulledOf yX1_pulledOf, Cond.code yX1_pulledOf cX1_pulledOf 4 (some .int), Cond.fieldLink RX1 30 "PianoJuryModel" "pull" "I"]
def wsX1_differ : List Cond := .code yX1_differ cX1_differ 8 (some .int) :: ((wsX1_differ_r1 ++ (wsX1_differ_r2 ++ wsX1_differ_r3)) ++ wsX10)
def wsX1_note_r1 : List Cond := [Cond.fieldLink RX1 128 "PianoJuryModel" "leastPlace" "I", Cond.fieldLink RX1 131 "PianoJuryModel" "greatestPlace" "I", Cond.fieldLink RX1 134 "PianoJuryModel" "mayPass" "Z", Cond.fieldLink RX1 137 "PianoJuryModel" "mayFail" "Z", Cond.methodLink RX1 118 yX1_placeOf, Cond.instanceMethod yX1_placeOf, Cond.selects RX1 yX1_placeOf yX1_placeOf, Cond.initialized RX1, Cond.code yX1_placeOf cX1_placeOf 7 (some .int), Cond.fieldLink RX1 7 "PianoJuryModel" "players" "I", Cond.methodLink RX1 115 yX1_scoreOf, Cond.instanceMethod yX1_scoreOf, Cond.selects RX1 yX1_scoreOf yX1_scoreOf, Cond.code yX1_scoreOf cX1_scoreOf 4 (some .int), Cond.fieldLink RX1 78 "PianoJuryModel" "many" "I", Cond.constant RX1 87 (176400), Cond.fieldLink RX1 81 "PianoJuryModel" "sum" "I", Cond.constant RX1 104 (88200), Cond.fieldLink RX1 51 "PianoJuryModel" "row" "[I", Cond.methodLink RX1 96 yX1_gather, Cond.instanceMethod yX1_gather, Cond.selects RX1 yX1_gather yX1_gather, Cond.code yX1_gather cX1_gather 6 none, Cond.fieldLink RX1 13 "PianoJuryModel" "jurors" "I"]
def wsX1_note_r2 : List Cond := [Cond.fieldLink RX1 16 "PianoJuryModel" "marks" "[I", Cond.methodLink RX1 84 yX1_counts, Cond.instanceMethod yX1_counts, Cond.selects RX1 yX1_counts yX1_counts, Cond.code yX1_counts cX1_counts 4 (some .boolean), Cond.fieldLink RX1 24 "PianoJuryModel" "isPupil" "[Z", Cond.methodLink RX1 100 yX1_cutOf, Cond.instanceMethod yX1_cutOf, Cond.selects RX1 yX1_cutOf yX1_cutOf, Cond.code yX1_cutOf cX1_cutOf 4 (some .int), Cond.fieldLink RX1 27 "PianoJuryModel" "cuts" "I", Cond.methodLink RX1 105 yX1_yesOf, Cond.instanceMethod yX1_yesOf, Cond.selects RX1 yX1_yesOf yX1_yesOf, Cond.code yX1_yesOf cX1_yesOf 5 (some .int), Cond.fieldLink RX1 20 "PianoJuryModel" "isYes" "[Z", Cond.methodLink RX1 109 yX1_pairsOf, Cond.instanceMethod yX1_pairsOf, Cond.selects RX1 yX1_pairsOf yX1_pairsOf, Cond.code yX1_pairsOf cX1_pairsOf 5 (some .int), Cond.methodLink RX1 88 yX1_hasMark, Cond.instanceMethod yX1_hasMark, Cond.selects RX1 yX1_hasMark yX1_hasMark, Cond.code yX1_hasMark cX1_hasMark 5 (some .boolean)]
def wsX1_note_r3 : List Cond := [Cond.methodLink RX1 92 yX1_beatsOf, Cond.instanceMethod yX1_beatsOf, Cond.selects RX1 yX1_beatsOf yX1_beatsOf, Cond.code yX1_beatsOf cX1_beatsOf 7 (some .int), Cond.methodLink RX1 112 yX1_pulledOf, Cond.instanceMethod yX1_pulledOf, Cond.selects RX1 yX1_pulledOf yX1_pulledOf, Cond.code yX1_pulledOf cX1_pulledOf 4 (some .int), Cond.fieldLink RX1 30 "PianoJuryModel" "pull" "I", Cond.methodLink RX1 121 yX1_passes, Cond.instanceMethod yX1_passes, Cond.selects RX1 yX1_passes yX1_passes, Cond.code yX1_passes cX1_passes 5 (some .boolean)]
def wsX1_note : List Cond := .code yX1_note cX1_note 7 none :: ((wsX1_note_r1 ++ (wsX1_note_r2 ++ wsX1_note_r3)) ++ wsX10)
def wsX1_seek_r1 : List Cond := [Cond.fieldLink RX1 128 "PianoJuryModel" "leastPlace" "I", Cond.fieldLink RX1 131 "PianoJuryModel" "greatestPlace" "I", Cond.fieldLink RX1 134 "PianoJuryModel" "mayPass" "Z", Cond.fieldLink RX1 137 "PianoJuryModel" "mayFail" "Z", Cond.fieldLink RX1 20 "PianoJuryModel" "isYes" "[Z", Cond.fieldLink RX1 16 "PianoJuryModel" "marks" "[I", Cond.methodLink RX1 140 yX1_note, Cond.instanceMethod yX1_note, Cond.selects RX1 yX1_note yX1_note, Cond.initialized RX1, Cond.code yX1_note cX1_note 7 none, Cond.methodLink RX1 118 yX1_placeOf, Cond.instanceMethod yX1_placeOf, Cond.selects RX1 yX1_placeOf yX1_placeOf, Cond.code yX1_placeOf cX1_placeOf 7 (some .int), Cond.fieldLink RX1 7 "PianoJuryModel" "players" "I", Cond.methodLink RX1 115 yX1_scoreOf, Cond.instanceMethod yX1_scoreOf, Cond.selects RX1 yX1_scoreOf yX1_scoreOf, Cond.code yX1_scoreOf cX1_scoreOf 4 (some .int), Cond.fieldLink RX1 78 "PianoJuryModel" "many" "I", Cond.constant RX1 87 (176400), Cond.fieldLink RX1 81 "PianoJuryModel" "sum" "I", Cond.constant RX1 104 (88200)]
def wsX1_seek_r2 : List Cond := [Cond.fieldLink RX1 51 "PianoJuryModel" "row" "[I", Cond.methodLink RX1 96 yX1_gather, Cond.instanceMethod yX1_gather, Cond.selects RX1 yX1_gather yX1_gather, Cond.code yX1_gather cX1_gather 6 none, Cond.fieldLink RX1 13 "PianoJuryModel" "jurors" "I", Cond.methodLink RX1 84 yX1_counts, Cond.instanceMethod yX1_counts, Cond.selects RX1 yX1_counts yX1_counts, Cond.code yX1_counts cX1_counts 4 (some .boolean), Cond.fieldLink RX1 24 "PianoJuryModel" "isPupil" "[Z", Cond.methodLink RX1 100 yX1_cutOf, Cond.instanceMethod yX1_cutOf, Cond.selects RX1 yX1_cutOf yX1_cutOf, Cond.code yX1_cutOf cX1_cutOf 4 (some .int), Cond.fieldLink RX1 27 "PianoJuryModel" "cuts" "I", Cond.methodLink RX1 105 yX1_yesOf, Cond.instanceMethod yX1_yesOf, Cond.selects RX1 yX1_yesOf yX1_yesOf, Cond.code yX1_yesOf cX1_yesOf 5 (some .int), Cond.methodLink RX1 109 yX1_pairsOf, Cond.instanceMethod yX1_pairsOf, Cond.selects RX1 yX1_pairsOf yX1_pairsOf, Cond.code yX1_pairsOf cX1_pairsOf 5 (some .int)]
def wsX1_seek_r3 : List Cond := [Cond.methodLink RX1 88 yX1_hasMark, Cond.instanceMethod yX1_hasMark, Cond.selects RX1 yX1_hasMark yX1_hasMark, Cond.code yX1_hasMark cX1_hasMark 5 (some .boolean), Cond.methodLink RX1 92 yX1_beatsOf, Cond.instanceMethod yX1_beatsOf, Cond.selects RX1 yX1_beatsOf yX1_beatsOf, Cond.code yX1_beatsOf cX1_beatsOf 7 (some .int), Cond.methodLink RX1 112 yX1_pulledOf, Cond.instanceMethod yX1_pulledOf, Cond.selects RX1 yX1_pulledOf yX1_pulledOf, Cond.code yX1_pulledOf cX1_pulledOf 4 (some .int), Cond.fieldLink RX1 30 "PianoJuryModel" "pull" "I", Cond.methodLink RX1 121 yX1_passes, Cond.instanceMethod yX1_passes, Cond.selects RX1 yX1_passes yX1_passes, Cond.code yX1_passes cX1_passes 5 (some .boolean)]
def wsX1_seek : List Cond := .code yX1_seek cX1_seek 9 none :: ((wsX1_seek_r1 ++ (wsX1_seek_r2 ++ wsX1_seek_r3)) ++ wsX10)
def wsX1_reach_r1 : List Cond := [Cond.fieldLink RX1 24 "PianoJuryModel" "isPupil" "[Z", Cond.fieldLink RX1 128 "PianoJuryModel" "leastPlace" "I", Cond.fieldLink RX1 131 "PianoJuryModel" "greatestPlace" "I", Cond.methodLink RX1 68 yX1_isRound, Cond.static yX1_isRound, Cond.initialized RX1, Cond.code yX1_isRound cX1_isRound 1 (some .boolean), Cond.methodLink RX1 64 yX1_in, Cond.static yX1_in, Cond.code yX1_in cX1_in 3 (some .boolean), Cond.methodLink RX1 72 yX1_isJuror, Cond.instanceMethod yX1_isJuror, Cond.selects RX1 yX1_isJuror yX1_isJuror, Cond.code yX1_isJuror cX1_isJuror 2 (some .boolean), Cond.fieldLink RX1 13 "PianoJuryModel" "jurors" "I", Cond.methodLink RX1 75 yX1_isPlayer, Cond.instanceMethod yX1_isPlayer, Cond.selects RX1 yX1_isPlayer yX1_isPlayer, Cond.code yX1_isPlayer cX1_isPlayer 2 (some .boolean), Cond.fieldLink RX1 7 "PianoJuryModel" "players" "I", Cond.methodLink RX1 144 yX1_seek, Cond.instanceMethod yX1_seek, Cond.selects RX1 yX1_seek yX1_seek, Cond.code yX1_seek cX1_seek 9 none]
def wsX1_reach_r2 : List Cond := [Cond.fieldLink RX1 134 "PianoJuryModel" "mayPass" "Z", Cond.fieldLink RX1 137 "PianoJuryModel" "mayFail" "Z", Cond.fieldLink RX1 20 "PianoJuryModel" "isYes" "[Z", Cond.fieldLink RX1 16 "PianoJuryModel" "marks" "[I", Cond.methodLink RX1 140 yX1_note, Cond.instanceMethod yX1_note, Cond.selects RX1 yX1_note yX1_note, Cond.code yX1_note cX1_note 7 none, Cond.methodLink RX1 118 yX1_placeOf, Cond.instanceMethod yX1_placeOf, Cond.selects RX1 yX1_placeOf yX1_placeOf, Cond.code yX1_placeOf cX1_placeOf 7 (some .int), Cond.methodLink RX1 115 yX1_scoreOf, Cond.instanceMethod yX1_scoreOf, Cond.selects RX1 yX1_scoreOf yX1_scoreOf, Cond.code yX1_scoreOf cX1_scoreOf 4 (some .int), Cond.fieldLink RX1 78 "PianoJuryModel" "many" "I", Cond.constant RX1 87 (176400), Cond.fieldLink RX1 81 "PianoJuryModel" "sum" "I", Cond.constant RX1 104 (88200), Cond.fieldLink RX1 51 "PianoJuryModel" "row" "[I", Cond.methodLink RX1 96 yX1_gather, Cond.instanceMethod yX1_gather, Cond.selects RX1 yX1_gather yX1_gather]
def wsX1_reach_r3 : List Cond := [Cond.code yX1_gather cX1_gather 6 none, Cond.methodLink RX1 84 yX1_counts, Cond.instanceMethod yX1_counts, Cond.selects RX1 yX1_counts yX1_counts, Cond.code yX1_counts cX1_counts 4 (some .boolean), Cond.methodLink RX1 100 yX1_cutOf, Cond.instanceMethod yX1_cutOf, Cond.selects RX1 yX1_cutOf yX1_cutOf, Cond.code yX1_cutOf cX1_cutOf 4 (some .int), Cond.fieldLink RX1 27 "PianoJuryModel" "cuts" "I", Cond.methodLink RX1 105 yX1_yesOf, Cond.instanceMethod yX1_yesOf, Cond.selects RX1 yX1_yesOf yX1_yesOf, Cond.code yX1_yesOf cX1_yesOf 5 (some .int), Cond.methodLink RX1 109 yX1_pairsOf, Cond.instanceMethod yX1_pairsOf, Cond.selects RX1 yX1_pairsOf yX1_pairsOf, Cond.code yX1_pairsOf cX1_pairsOf 5 (some .int), Cond.methodLink RX1 88 yX1_hasMark, Cond.instanceMethod yX1_hasMark, Cond.selects RX1 yX1_hasMark yX1_hasMark, Cond.code yX1_hasMark cX1_hasMark 5 (some .boolean), Cond.methodLink RX1 92 yX1_beatsOf, Cond.instanceMethod yX1_beatsOf]
def wsX1_reach_r4 : List Cond := [Cond.selects RX1 yX1_beatsOf yX1_beatsOf, Cond.code yX1_beatsOf cX1_beatsOf 7 (some .int), Cond.methodLink RX1 112 yX1_pulledOf, Cond.instanceMethod yX1_pulledOf, Cond.selects RX1 yX1_pulledOf yX1_pulledOf, Cond.code yX1_pulledOf cX1_pulledOf 4 (some .int), Cond.fieldLink RX1 30 "PianoJuryModel" "pull" "I", Cond.methodLink RX1 121 yX1_passes, Cond.instanceMethod yX1_passes, Cond.selects RX1 yX1_passes yX1_passes, Cond.code yX1_passes cX1_passes 5 (some .boolean)]
def wsX1_reach : List Cond := .code yX1_reach cX1_reach 6 (some .int) :: ((wsX1_reach_r1 ++ (wsX1_reach_r2 ++ (wsX1_reach_r3 ++ wsX1_reach_r4))) ++ wsX10)
def wsX1_sway_r1 : List Cond := [Cond.fieldLink RX1 7 "PianoJuryModel" "players" "I", Cond.fieldLink RX1 24 "PianoJuryModel" "isPupil" "[Z", Cond.fieldLink RX1 137 "PianoJuryModel" "mayFail" "Z", Cond.fieldLink RX1 134 "PianoJuryModel" "mayPass" "Z", Cond.methodLink RX1 68 yX1_isRound, Cond.static yX1_isRound, Cond.initialized RX1, Cond.code yX1_isRound cX1_isRound 1 (some .boolean), Cond.methodLink RX1 64 yX1_in, Cond.static yX1_in, Cond.code yX1_in cX1_in 3 (some .boolean), Cond.methodLink RX1 72 yX1_isJuror, Cond.instanceMethod yX1_isJuror, Cond.selects RX1 yX1_isJuror yX1_isJuror, Cond.code yX1_isJuror cX1_isJuror 2 (some .boolean), Cond.fieldLink RX1 13 "PianoJuryModel" "jurors" "I", Cond.methodLink RX1 121 yX1_passes, Cond.instanceMethod yX1_passes, Cond.selects RX1 yX1_passes yX1_passes, Cond.code yX1_passes cX1_passes 5 (some .boolean), Cond.methodLink RX1 88 yX1_hasMark, Cond.instanceMethod yX1_hasMark, Cond.selects RX1 yX1_hasMark yX1_hasMark, Cond.code yX1_hasMark cX1_hasMark 5 (some .boolean)]
def wsX1_sway_r2 : List Cond := [Cond.methodLink RX1 84 yX1_counts, Cond.instanceMethod yX1_counts, Cond.selects RX1 yX1_counts yX1_counts, Cond.code yX1_counts cX1_counts 4 (some .boolean), Cond.fieldLink RX1 16 "PianoJuryModel" "marks" "[I", Cond.methodLink RX1 118 yX1_placeOf, Cond.instanceMethod yX1_placeOf, Cond.selects RX1 yX1_placeOf yX1_placeOf, Cond.code yX1_placeOf cX1_placeOf 7 (some .int), Cond.methodLink RX1 115 yX1_scoreOf, Cond.instanceMethod yX1_scoreOf, Cond.selects RX1 yX1_scoreOf yX1_scoreOf, Cond.code yX1_scoreOf cX1_scoreOf 4 (some .int), Cond.fieldLink RX1 78 "PianoJuryModel" "many" "I", Cond.constant RX1 87 (176400), Cond.fieldLink RX1 81 "PianoJuryModel" "sum" "I", Cond.constant RX1 104 (88200), Cond.fieldLink RX1 51 "PianoJuryModel" "row" "[I", Cond.methodLink RX1 96 yX1_gather, Cond.instanceMethod yX1_gather, Cond.selects RX1 yX1_gather yX1_gather, Cond.code yX1_gather cX1_gather 6 none, Cond.methodLink RX1 100 yX1_cutOf, Cond.instanceMethod yX1_cutOf]
def wsX1_sway_r3 : List Cond := [Cond.selects RX1 yX1_cutOf yX1_cutOf, Cond.code yX1_cutOf cX1_cutOf 4 (some .int), Cond.fieldLink RX1 27 "PianoJuryModel" "cuts" "I", Cond.methodLink RX1 105 yX1_yesOf, Cond.instanceMethod yX1_yesOf, Cond.selects RX1 yX1_yesOf yX1_yesOf, Cond.code yX1_yesOf cX1_yesOf 5 (some .int), Cond.fieldLink RX1 20 "PianoJuryModel" "isYes" "[Z", Cond.methodLink RX1 109 yX1_pairsOf, Cond.instanceMethod yX1_pairsOf, Cond.selects RX1 yX1_pairsOf yX1_pairsOf, Cond.code yX1_pairsOf cX1_pairsOf 5 (some .int), Cond.methodLink RX1 92 yX1_beatsOf, Cond.instanceMethod yX1_beatsOf, Cond.selects RX1 yX1_beatsOf yX1_beatsOf, Cond.code yX1_beatsOf cX1_beatsOf 7 (some .int), Cond.methodLink RX1 112 yX1_pulledOf, Cond.instanceMethod yX1_pulledOf, Cond.selects RX1 yX1_pulledOf yX1_pulledOf, Cond.code yX1_pulledOf cX1_pulledOf 4 (some .int), Cond.fieldLink RX1 30 "PianoJuryModel" "pull" "I", Cond.methodLink RX1 144 yX1_seek, Cond.instanceMethod yX1_seek, Cond.selects RX1 yX1_seek yX1_seek]
def wsX1_sway_r4 : List Cond := [Cond.code yX1_seek cX1_seek 9 none, Cond.fieldLink RX1 128 "PianoJuryModel" "leastPlace" "I", Cond.fieldLink RX1 131 "PianoJuryModel" "greatestPlace" "I", Cond.methodLink RX1 140 yX1_note, Cond.instanceMethod yX1_note, Cond.selects RX1 yX1_note yX1_note, Cond.code yX1_note cX1_note 7 none]
def wsX1_sway : List Cond := .code yX1_sway cX1_sway 8 (some .int) :: ((wsX1_sway_r1 ++ (wsX1_sway_r2 ++ (wsX1_sway_r3 ++ wsX1_sway_r4))) ++ wsX10)
def wsX1_weight : List Cond := .code yX1_weight cX1_weight 4 (some .int) :: ([.fieldLink RX1 33 "PianoJuryModel" "weights" "[I", .methodLink RX1 68 yX1_isRound, .static yX1_isRound, .initialized RX1, .code yX1_isRound cX1_isRound 1 (some .boolean), .methodLink RX1 64 yX1_in, .static yX1_in, .code yX1_in cX1_in 3 (some .boolean)] ++ wsX10)
def wsX1_totalOf_r1 : List Cond := [Cond.fieldLink RX1 33 "PianoJuryModel" "weights" "[I", Cond.methodLink RX1 115 yX1_scoreOf, Cond.instanceMethod yX1_scoreOf, Cond.selects RX1 yX1_scoreOf yX1_scoreOf, Cond.initialized RX1, Cond.code yX1_scoreOf cX1_scoreOf 4 (some .int), Cond.fieldLink RX1 78 "PianoJuryModel" "many" "I", Cond.constant RX1 87 (176400), Cond.fieldLink RX1 81 "PianoJuryModel" "sum" "I", Cond.constant RX1 104 (88200), Cond.fieldLink RX1 51 "PianoJuryModel" "row" "[I", Cond.methodLink RX1 96 yX1_gather, Cond.instanceMethod yX1_gather, Cond.selects RX1 yX1_gather yX1_gather, Cond.code yX1_gather cX1_gather 6 none, Cond.fieldLink RX1 13 "PianoJuryModel" "jurors" "I", Cond.fieldLink RX1 16 "PianoJuryModel" "marks" "[I", Cond.methodLink RX1 84 yX1_counts, Cond.instanceMethod yX1_counts, Cond.selects RX1 yX1_counts yX1_counts, Cond.code yX1_counts cX1_counts 4 (some .boolean), Cond.fieldLink RX1 24 "PianoJuryModel" "isPupil" "[Z", Cond.methodLink RX1 100 yX1_cutOf, Cond.instanceMethod yX1_cutOf]
def wsX1_totalOf_r2 : List Cond := [Cond.selects RX1 yX1_cutOf yX1_cutOf, Cond.code yX1_cutOf cX1_cutOf 4 (some .int), Cond.fieldLink RX1 27 "PianoJuryModel" "cuts" "I", Cond.methodLink RX1 105 yX1_yesOf, Cond.instanceMethod yX1_yesOf, Cond.selects RX1 yX1_yesOf yX1_yesOf, Cond.code yX1_yesOf cX1_yesOf 5 (some .int), Cond.fieldLink RX1 20 "PianoJuryModel" "isYes" "[Z", Cond.methodLink RX1 109 yX1_pairsOf, Cond.instanceMethod yX1_pairsOf, Cond.selects RX1 yX1_pairsOf yX1_pairsOf, Cond.code yX1_pairsOf cX1_pairsOf 5 (some .int), Cond.fieldLink RX1 7 "PianoJuryModel" "players" "I", Cond.methodLink RX1 88 yX1_hasMark, Cond.instanceMethod yX1_hasMark, Cond.selects RX1 yX1_hasMark yX1_hasMark, Cond.code yX1_hasMark cX1_hasMark 5 (some .boolean), Cond.methodLink RX1 92 yX1_beatsOf, Cond.instanceMethod yX1_beatsOf, Cond.selects RX1 yX1_beatsOf yX1_beatsOf, Cond.code yX1_beatsOf cX1_beatsOf 7 (some .int), Cond.methodLink RX1 112 yX1_pulledOf, Cond.instanceMethod yX1_pulledOf, Cond.selects RX1 yX1_pulledOf yX1_pulledOf]
def wsX1_totalOf_r3 : List Cond := [Cond.code yX1_pulledOf cX1_pulledOf 4 (some .int), Cond.fieldLink RX1 30 "PianoJuryModel" "pull" "I"]
def wsX1_totalOf : List Cond := .code yX1_totalOf cX1_totalOf 5 (some .int) :: ((wsX1_totalOf_r1 ++ (wsX1_totalOf_r2 ++ wsX1_totalOf_r3)) ++ wsX10)
def wsX1_total_r1 : List Cond := [Cond.methodLink RX1 75 yX1_isPlayer, Cond.instanceMethod yX1_isPlayer, Cond.selects RX1 yX1_isPlayer yX1_isPlayer, Cond.initialized RX1, Cond.code yX1_isPlayer cX1_isPlayer 2 (some .boolean), Cond.fieldLink RX1 7 "PianoJuryModel" "players" "I", Cond.methodLink RX1 64 yX1_in, Cond.static yX1_in, Cond.code yX1_in cX1_in 3 (some .boolean), Cond.methodLink RX1 148 yX1_totalOf, Cond.instanceMethod yX1_totalOf, Cond.selects RX1 yX1_totalOf yX1_totalOf, Cond.code yX1_totalOf cX1_totalOf 5 (some .int), Cond.fieldLink RX1 33 "PianoJuryModel" "weights" "[I", Cond.methodLink RX1 115 yX1_scoreOf, Cond.instanceMethod yX1_scoreOf, Cond.selects RX1 yX1_scoreOf yX1_scoreOf, Cond.code yX1_scoreOf cX1_scoreOf 4 (some .int), Cond.fieldLink RX1 78 "PianoJuryModel" "many" "I", Cond.constant RX1 87 (176400), Cond.fieldLink RX1 81 "PianoJuryModel" "sum" "I", Cond.constant RX1 104 (88200), Cond.fieldLink RX1 51 "PianoJuryModel" "row" "[I", Cond.methodLink RX1 96 yX1_gather]
def wsX1_total_r2 : List Cond := [Cond.instanceMethod yX1_gather, Cond.selects RX1 yX1_gather yX1_gather, Cond.code yX1_gather cX1_gather 6 none, Cond.fieldLink RX1 13 "PianoJuryModel" "jurors" "I", Cond.fieldLink RX1 16 "PianoJuryModel" "marks" "[I", Cond.methodLink RX1 84 yX1_counts, Cond.instanceMethod yX1_counts, Cond.selects RX1 yX1_counts yX1_counts, Cond.code yX1_counts cX1_counts 4 (some .boolean), Cond.fieldLink RX1 24 "PianoJuryModel" "isPupil" "[Z", Cond.methodLink RX1 100 yX1_cutOf, Cond.instanceMethod yX1_cutOf, Cond.selects RX1 yX1_cutOf yX1_cutOf, Cond.code yX1_cutOf cX1_cutOf 4 (some .int), Cond.fieldLink RX1 27 "PianoJuryModel" "cuts" "I", Cond.methodLink RX1 105 yX1_yesOf, Cond.instanceMethod yX1_yesOf, Cond.selects RX1 yX1_yesOf yX1_yesOf, Cond.code yX1_yesOf cX1_yesOf 5 (some .int), Cond.fieldLink RX1 20 "PianoJuryModel" "isYes" "[Z", Cond.methodLink RX1 109 yX1_pairsOf, Cond.instanceMethod yX1_pairsOf, Cond.selects RX1 yX1_pairsOf yX1_pairsOf, Cond.code yX1_pairsOf cX1_pairsOf 5 (some .int)]
def wsX1_total_r3 : List Cond := [Cond.methodLink RX1 88 yX1_hasMark, Cond.instanceMethod yX1_hasMark, Cond.selects RX1 yX1_hasMark yX1_hasMark, Cond.code yX1_hasMark cX1_hasMark 5 (some .boolean), Cond.methodLink RX1 92 yX1_beatsOf, Cond.instanceMethod yX1_beatsOf, Cond.selects RX1 yX1_beatsOf yX1_beatsOf, Cond.code yX1_beatsOf cX1_beatsOf 7 (some .int), Cond.methodLink RX1 112 yX1_pulledOf, Cond.instanceMethod yX1_pulledOf, Cond.selects RX1 yX1_pulledOf yX1_pulledOf, Cond.code yX1_pulledOf cX1_pulledOf 4 (some .int), Cond.fieldLink RX1 30 "PianoJuryModel" "pull" "I"]
def wsX1_total : List Cond := .code yX1_total cX1_total 2 (some .int) :: ((wsX1_total_r1 ++ (wsX1_total_r2 ++ wsX1_total_r3)) ++ wsX10)
def wsX1_lastOf_r1 : List Cond := [Cond.fieldLink RX1 7 "PianoJuryModel" "players" "I", Cond.methodLink RX1 148 yX1_totalOf, Cond.instanceMethod yX1_totalOf, Cond.selects RX1 yX1_totalOf yX1_totalOf, Cond.initialized RX1, Cond.code yX1_totalOf cX1_totalOf 5 (some .int), Cond.fieldLink RX1 33 "PianoJuryModel" "weights" "[I", Cond.methodLink RX1 115 yX1_scoreOf, Cond.instanceMethod yX1_scoreOf, Cond.selects RX1 yX1_scoreOf yX1_scoreOf, Cond.code yX1_scoreOf cX1_scoreOf 4 (some .int), Cond.fieldLink RX1 78 "PianoJuryModel" "many" "I", Cond.constant RX1 87 (176400), Cond.fieldLink RX1 81 "PianoJuryModel" "sum" "I", Cond.constant RX1 104 (88200), Cond.fieldLink RX1 51 "PianoJuryModel" "row" "[I", Cond.methodLink RX1 96 yX1_gather, Cond.instanceMethod yX1_gather, Cond.selects RX1 yX1_gather yX1_gather, Cond.code yX1_gather cX1_gather 6 none, Cond.fieldLink RX1 13 "PianoJuryModel" "jurors" "I", Cond.fieldLink RX1 16 "PianoJuryModel" "marks" "[I", Cond.methodLink RX1 84 yX1_counts, Cond.instanceMethod yX1_counts]
def wsX1_lastOf_r2 : List Cond := [Cond.selects RX1 yX1_counts yX1_counts, Cond.code yX1_counts cX1_counts 4 (some .boolean), Cond.fieldLink RX1 24 "PianoJuryModel" "isPupil" "[Z", Cond.methodLink RX1 100 yX1_cutOf, Cond.instanceMethod yX1_cutOf, Cond.selects RX1 yX1_cutOf yX1_cutOf, Cond.code yX1_cutOf cX1_cutOf 4 (some .int), Cond.fieldLink RX1 27 "PianoJuryModel" "cuts" "I", Cond.methodLink RX1 105 yX1_yesOf, Cond.instanceMethod yX1_yesOf, Cond.selects RX1 yX1_yesOf yX1_yesOf, Cond.code yX1_yesOf cX1_yesOf 5 (some .int), Cond.fieldLink RX1 20 "PianoJuryModel" "isYes" "[Z", Cond.methodLink RX1 109 yX1_pairsOf, Cond.instanceMethod yX1_pairsOf, Cond.selects RX1 yX1_pairsOf yX1_pairsOf, Cond.code yX1_pairsOf cX1_pairsOf 5 (some .int), Cond.methodLink RX1 88 yX1_hasMark, Cond.instanceMethod yX1_hasMark, Cond.selects RX1 yX1_hasMark yX1_hasMark, Cond.code yX1_hasMark cX1_hasMark 5 (some .boolean), Cond.methodLink RX1 92 yX1_beatsOf, Cond.instanceMethod yX1_beatsOf, Cond.selects RX1 yX1_beatsOf yX1_beatsOf]
def wsX1_lastOf_r3 : List Cond := [Cond.code yX1_beatsOf cX1_beatsOf 7 (some .int), Cond.methodLink RX1 112 yX1_pulledOf, Cond.instanceMethod yX1_pulledOf, Cond.selects RX1 yX1_pulledOf yX1_pulledOf, Cond.code yX1_pulledOf cX1_pulledOf 4 (some .int), Cond.fieldLink RX1 30 "PianoJuryModel" "pull" "I"]
def wsX1_lastOf : List Cond := .code yX1_lastOf cX1_lastOf 5 (some .int) :: ((wsX1_lastOf_r1 ++ (wsX1_lastOf_r2 ++ wsX1_lastOf_r3)) ++ wsX10)
def wsX1_last_r1 : List Cond := [Cond.methodLink RX1 75 yX1_isPlayer, Cond.instanceMethod yX1_isPlayer, Cond.selects RX1 yX1_isPlayer yX1_isPlayer, Cond.initialized RX1, Cond.code yX1_isPlayer cX1_isPlayer 2 (some .boolean), Cond.fieldLink RX1 7 "PianoJuryModel" "players" "I", Cond.methodLink RX1 64 yX1_in, Cond.static yX1_in, Cond.code yX1_in cX1_in 3 (some .boolean), Cond.methodLink RX1 152 yX1_lastOf, Cond.instanceMethod yX1_lastOf, Cond.selects RX1 yX1_lastOf yX1_lastOf, Cond.code yX1_lastOf cX1_lastOf 5 (some .int), Cond.methodLink RX1 148 yX1_totalOf, Cond.instanceMethod yX1_totalOf, Cond.selects RX1 yX1_totalOf yX1_totalOf, Cond.code yX1_totalOf cX1_totalOf 5 (some .int), Cond.fieldLink RX1 33 "PianoJuryModel" "weights" "[I", Cond.methodLink RX1 115 yX1_scoreOf, Cond.instanceMethod yX1_scoreOf, Cond.selects RX1 yX1_scoreOf yX1_scoreOf, Cond.code yX1_scoreOf cX1_scoreOf 4 (some .int), Cond.fieldLink RX1 78 "PianoJuryModel" "many" "I", Cond.constant RX1 87 (176400)]
def wsX1_last_r2 : List Cond := [Cond.fieldLink RX1 81 "PianoJuryModel" "sum" "I", Cond.constant RX1 104 (88200), Cond.fieldLink RX1 51 "PianoJuryModel" "row" "[I", Cond.methodLink RX1 96 yX1_gather, Cond.instanceMethod yX1_gather, Cond.selects RX1 yX1_gather yX1_gather, Cond.code yX1_gather cX1_gather 6 none, Cond.fieldLink RX1 13 "PianoJuryModel" "jurors" "I", Cond.fieldLink RX1 16 "PianoJuryModel" "marks" "[I", Cond.methodLink RX1 84 yX1_counts, Cond.instanceMethod yX1_counts, Cond.selects RX1 yX1_counts yX1_counts, Cond.code yX1_counts cX1_counts 4 (some .boolean), Cond.fieldLink RX1 24 "PianoJuryModel" "isPupil" "[Z", Cond.methodLink RX1 100 yX1_cutOf, Cond.instanceMethod yX1_cutOf, Cond.selects RX1 yX1_cutOf yX1_cutOf, Cond.code yX1_cutOf cX1_cutOf 4 (some .int), Cond.fieldLink RX1 27 "PianoJuryModel" "cuts" "I", Cond.methodLink RX1 105 yX1_yesOf, Cond.instanceMethod yX1_yesOf, Cond.selects RX1 yX1_yesOf yX1_yesOf, Cond.code yX1_yesOf cX1_yesOf 5 (some .int), Cond.fieldLink RX1 20 "PianoJuryModel" "isYes" "[Z"]
def wsX1_last_r3 : List Cond := [Cond.methodLink RX1 109 yX1_pairsOf, Cond.instanceMethod yX1_pairsOf, Cond.selects RX1 yX1_pairsOf yX1_pairsOf, Cond.code yX1_pairsOf cX1_pairsOf 5 (some .int), Cond.methodLink RX1 88 yX1_hasMark, Cond.instanceMethod yX1_hasMark, Cond.selects RX1 yX1_hasMark yX1_hasMark, Cond.code yX1_hasMark cX1_hasMark 5 (some .boolean), Cond.methodLink RX1 92 yX1_beatsOf, Cond.instanceMethod yX1_beatsOf, Cond.selects RX1 yX1_beatsOf yX1_beatsOf, Cond.code yX1_beatsOf cX1_beatsOf 7 (some .int), Cond.methodLink RX1 112 yX1_pulledOf, Cond.instanceMethod yX1_pulledOf, Cond.selects RX1 yX1_pulledOf yX1_pulledOf, Cond.code yX1_pulledOf cX1_pulledOf 4 (some .int), Cond.fieldLink RX1 30 "PianoJuryModel" "pull" "I"]
def wsX1_last : List Cond := .code yX1_last cX1_last 2 (some .int) :: ((wsX1_last_r1 ++ (wsX1_last_r2 ++ wsX1_last_r3)) ++ wsX10)
def wsX1_prize : List Cond := .code yX1_prize cX1_prize 4 (some .int) :: ([.constant RX1 155 (1000000), .fieldLink RX1 36 "PianoJuryModel" "prizes" "[I", .methodLink RX1 64 yX1_in, .static yX1_in, .initialized RX1, .code yX1_in cX1_in 3 (some .boolean)] ++ wsX10)
def wsX1_winsOf_r1 : List Cond := [Cond.fieldLink RX1 7 "PianoJuryModel" "players" "I", Cond.fieldLink RX1 36 "PianoJuryModel" "prizes" "[I", Cond.methodLink RX1 148 yX1_totalOf, Cond.instanceMethod yX1_totalOf, Cond.selects RX1 yX1_totalOf yX1_totalOf, Cond.initialized RX1, Cond.code yX1_totalOf cX1_totalOf 5 (some .int), Cond.fieldLink RX1 33 "PianoJuryModel" "weights" "[I", Cond.methodLink RX1 115 yX1_scoreOf, Cond.instanceMethod yX1_scoreOf, Cond.selects RX1 yX1_scoreOf yX1_scoreOf, Cond.code yX1_scoreOf cX1_scoreOf 4 (some .int), Cond.fieldLink RX1 78 "PianoJuryModel" "many" "I", Cond.constant RX1 87 (176400), Cond.fieldLink RX1 81 "PianoJuryModel" "sum" "I", Cond.constant RX1 104 (88200), Cond.fieldLink RX1 51 "PianoJuryModel" "row" "[I", Cond.methodLink RX1 96 yX1_gather, Cond.instanceMethod yX1_gather, Cond.selects RX1 yX1_gather yX1_gather, Cond.code yX1_gather cX1_gather 6 none, Cond.fieldLink RX1 13 "PianoJuryModel" "jurors" "I", Cond.fieldLink RX1 16 "PianoJuryModel" "marks" "[I", Cond.methodLink RX1 84 yX1_counts]
def wsX1_winsOf_r2 : List Cond := [Cond.instanceMethod yX1_counts, Cond.selects RX1 yX1_counts yX1_counts, Cond.code yX1_counts cX1_counts 4 (some .boolean), Cond.fieldLink RX1 24 "PianoJuryModel" "isPupil" "[Z", Cond.methodLink RX1 100 yX1_cutOf, Cond.instanceMethod yX1_cutOf, Cond.selects RX1 yX1_cutOf yX1_cutOf, Cond.code yX1_cutOf cX1_cutOf 4 (some .int), Cond.fieldLink RX1 27 "PianoJuryModel" "cuts" "I", Cond.methodLink RX1 105 yX1_yesOf, Cond.instanceMethod yX1_yesOf, Cond.selects RX1 yX1_yesOf yX1_yesOf, Cond.code yX1_yesOf cX1_yesOf 5 (some .int), Cond.fieldLink RX1 20 "PianoJuryModel" "isYes" "[Z", Cond.methodLink RX1 109 yX1_pairsOf, Cond.instanceMethod yX1_pairsOf, Cond.selects RX1 yX1_pairsOf yX1_pairsOf, Cond.code yX1_pairsOf cX1_pairsOf 5 (some .int), Cond.methodLink RX1 88 yX1_hasMark, Cond.instanceMethod yX1_hasMark, Cond.selects RX1 yX1_hasMark yX1_hasMark, Cond.code yX1_hasMark cX1_hasMark 5 (some .boolean), Cond.methodLink RX1 92 yX1_beatsOf, Cond.instanceMethod yX1_beatsOf]
def wsX1_winsOf_r3 : List Cond := [Cond.selects RX1 yX1_beatsOf yX1_beatsOf, Cond.code yX1_beatsOf cX1_beatsOf 7 (some .int), Cond.methodLink RX1 112 yX1_pulledOf, Cond.instanceMethod yX1_pulledOf, Cond.selects RX1 yX1_pulledOf yX1_pulledOf, Cond.code yX1_pulledOf cX1_pulledOf 4 (some .int), Cond.fieldLink RX1 30 "PianoJuryModel" "pull" "I", Cond.methodLink RX1 152 yX1_lastOf, Cond.instanceMethod yX1_lastOf, Cond.selects RX1 yX1_lastOf yX1_lastOf, Cond.code yX1_lastOf cX1_lastOf 5 (some .int)]
def wsX1_winsOf : List Cond := .code yX1_winsOf cX1_winsOf 7 (some .int) :: ((wsX1_winsOf_r1 ++ (wsX1_winsOf_r2 ++ wsX1_winsOf_r3)) ++ wsX10)
def wsX1_wins_r1 : List Cond := [Cond.methodLink RX1 75 yX1_isPlayer, Cond.instanceMethod yX1_isPlayer, Cond.selects RX1 yX1_isPlayer yX1_isPlayer, Cond.initialized RX1, Cond.code yX1_isPlayer cX1_isPlayer 2 (some .boolean), Cond.fieldLink RX1 7 "PianoJuryModel" "players" "I", Cond.methodLink RX1 64 yX1_in, Cond.static yX1_in, Cond.code yX1_in cX1_in 3 (some .boolean), Cond.methodLink RX1 156 yX1_winsOf, Cond.instanceMethod yX1_winsOf, Cond.selects RX1 yX1_winsOf yX1_winsOf, Cond.code yX1_winsOf cX1_winsOf 7 (some .int), Cond.fieldLink RX1 36 "PianoJuryModel" "prizes" "[I", Cond.methodLink RX1 148 yX1_totalOf, Cond.instanceMethod yX1_totalOf, Cond.selects RX1 yX1_totalOf yX1_totalOf, Cond.code yX1_totalOf cX1_totalOf 5 (some .int), Cond.fieldLink RX1 33 "PianoJuryModel" "weights" "[I", Cond.methodLink RX1 115 yX1_scoreOf, Cond.instanceMethod yX1_scoreOf, Cond.selects RX1 yX1_scoreOf yX1_scoreOf, Cond.code yX1_scoreOf cX1_scoreOf 4 (some .int), Cond.fieldLink RX1 78 "PianoJuryModel" "many" "I"]
def wsX1_wins_r2 : List Cond := [Cond.constant RX1 87 (176400), Cond.fieldLink RX1 81 "PianoJuryModel" "sum" "I", Cond.constant RX1 104 (88200), Cond.fieldLink RX1 51 "PianoJuryModel" "row" "[I", Cond.methodLink RX1 96 yX1_gather, Cond.instanceMethod yX1_gather, Cond.selects RX1 yX1_gather yX1_gather, Cond.code yX1_gather cX1_gather 6 none, Cond.fieldLink RX1 13 "PianoJuryModel" "jurors" "I", Cond.fieldLink RX1 16 "PianoJuryModel" "marks" "[I", Cond.methodLink RX1 84 yX1_counts, Cond.instanceMethod yX1_counts, Cond.selects RX1 yX1_counts yX1_counts, Cond.code yX1_counts cX1_counts 4 (some .boolean), Cond.fieldLink RX1 24 "PianoJuryModel" "isPupil" "[Z", Cond.methodLink RX1 100 yX1_cutOf, Cond.instanceMethod yX1_cutOf, Cond.selects RX1 yX1_cutOf yX1_cutOf, Cond.code yX1_cutOf cX1_cutOf 4 (some .int), Cond.fieldLink RX1 27 "PianoJuryModel" "cuts" "I", Cond.methodLink RX1 105 yX1_yesOf, Cond.instanceMethod yX1_yesOf, Cond.selects RX1 yX1_yesOf yX1_yesOf, Cond.code yX1_yesOf cX1_yesOf 5 (some .int)]
def wsX1_wins_r3 : List Cond := [Cond.fieldLink RX1 20 "PianoJuryModel" "isYes" "[Z", Cond.methodLink RX1 109 yX1_pairsOf, Cond.instanceMethod yX1_pairsOf, Cond.selects RX1 yX1_pairsOf yX1_pairsOf, Cond.code yX1_pairsOf cX1_pairsOf 5 (some .int), Cond.methodLink RX1 88 yX1_hasMark, Cond.instanceMethod yX1_hasMark, Cond.selects RX1 yX1_hasMark yX1_hasMark, Cond.code yX1_hasMark cX1_hasMark 5 (some .boolean), Cond.methodLink RX1 92 yX1_beatsOf, Cond.instanceMethod yX1_beatsOf, Cond.selects RX1 yX1_beatsOf yX1_beatsOf, Cond.code yX1_beatsOf cX1_beatsOf 7 (some .int), Cond.methodLink RX1 112 yX1_pulledOf, Cond.instanceMethod yX1_pulledOf, Cond.selects RX1 yX1_pulledOf yX1_pulledOf, Cond.code yX1_pulledOf cX1_pulledOf 4 (some .int), Cond.fieldLink RX1 30 "PianoJuryModel" "pull" "I", Cond.methodLink RX1 152 yX1_lastOf, Cond.instanceMethod yX1_lastOf, Cond.selects RX1 yX1_lastOf yX1_lastOf, Cond.code yX1_lastOf cX1_lastOf 5 (some .int)]
def wsX1_wins : List Cond := .code yX1_wins cX1_wins 2 (some .int) :: ((wsX1_wins_r1 ++ (wsX1_wins_r2 ++ wsX1_wins_r3)) ++ wsX10)
def wsX1_rest_r1 : List Cond := [Cond.fieldLink RX1 36 "PianoJuryModel" "prizes" "[I", Cond.fieldLink RX1 7 "PianoJuryModel" "players" "I", Cond.methodLink RX1 156 yX1_winsOf, Cond.instanceMethod yX1_winsOf, Cond.selects RX1 yX1_winsOf yX1_winsOf, Cond.initialized RX1, Cond.code yX1_winsOf cX1_winsOf 7 (some .int), Cond.methodLink RX1 148 yX1_totalOf, Cond.instanceMethod yX1_totalOf, Cond.selects RX1 yX1_totalOf yX1_totalOf, Cond.code yX1_totalOf cX1_totalOf 5 (some .int), Cond.fieldLink RX1 33 "PianoJuryModel" "weights" "[I", Cond.methodLink RX1 115 yX1_scoreOf, Cond.instanceMethod yX1_scoreOf, Cond.selects RX1 yX1_scoreOf yX1_scoreOf, Cond.code yX1_scoreOf cX1_scoreOf 4 (some .int), Cond.fieldLink RX1 78 "PianoJuryModel" "many" "I", Cond.constant RX1 87 (176400), Cond.fieldLink RX1 81 "PianoJuryModel" "sum" "I", Cond.constant RX1 104 (88200), Cond.fieldLink RX1 51 "PianoJuryModel" "row" "[I", Cond.methodLink RX1 96 yX1_gather, Cond.instanceMethod yX1_gather, Cond.selects RX1 yX1_gather yX1_gather]
def wsX1_rest_r2 : List Cond := [Cond.code yX1_gather cX1_gather 6 none, Cond.fieldLink RX1 13 "PianoJuryModel" "jurors" "I", Cond.fieldLink RX1 16 "PianoJuryModel" "marks" "[I", Cond.methodLink RX1 84 yX1_counts, Cond.instanceMethod yX1_counts, Cond.selects RX1 yX1_counts yX1_counts, Cond.code yX1_counts cX1_counts 4 (some .boolean), Cond.fieldLink RX1 24 "PianoJuryModel" "isPupil" "[Z", Cond.methodLink RX1 100 yX1_cutOf, Cond.instanceMethod yX1_cutOf, Cond.selects RX1 yX1_cutOf yX1_cutOf, Cond.code yX1_cutOf cX1_cutOf 4 (some .int), Cond.fieldLink RX1 27 "PianoJuryModel" "cuts" "I", Cond.methodLink RX1 105 yX1_yesOf, Cond.instanceMethod yX1_yesOf, Cond.selects RX1 yX1_yesOf yX1_yesOf, Cond.code yX1_yesOf cX1_yesOf 5 (some .int), Cond.fieldLink RX1 20 "PianoJuryModel" "isYes" "[Z", Cond.methodLink RX1 109 yX1_pairsOf, Cond.instanceMethod yX1_pairsOf, Cond.selects RX1 yX1_pairsOf yX1_pairsOf, Cond.code yX1_pairsOf cX1_pairsOf 5 (some .int), Cond.methodLink RX1 88 yX1_hasMark, Cond.instanceMethod yX1_hasMark]
def wsX1_rest_r3 : List Cond := [Cond.selects RX1 yX1_hasMark yX1_hasMark, Cond.code yX1_hasMark cX1_hasMark 5 (some .boolean), Cond.methodLink RX1 92 yX1_beatsOf, Cond.instanceMethod yX1_beatsOf, Cond.selects RX1 yX1_beatsOf yX1_beatsOf, Cond.code yX1_beatsOf cX1_beatsOf 7 (some .int), Cond.methodLink RX1 112 yX1_pulledOf, Cond.instanceMethod yX1_pulledOf, Cond.selects RX1 yX1_pulledOf yX1_pulledOf, Cond.code yX1_pulledOf cX1_pulledOf 4 (some .int), Cond.fieldLink RX1 30 "PianoJuryModel" "pull" "I", Cond.methodLink RX1 152 yX1_lastOf, Cond.instanceMethod yX1_lastOf, Cond.selects RX1 yX1_lastOf yX1_lastOf, Cond.code yX1_lastOf cX1_lastOf 5 (some .int)]
def wsX1_rest : List Cond := .code yX1_rest cX1_rest 3 (some .int) :: ((wsX1_rest_r1 ++ (wsX1_rest_r2 ++ wsX1_rest_r3)) ++ wsX10)
def wsX1_work : List Cond := .code yX1_work cX1_work 4 (some .int) :: ([.fieldLink RX1 39 "PianoJuryModel" "minutes" "[I", .methodLink RX1 64 yX1_in, .static yX1_in, .initialized RX1, .code yX1_in cX1_in 3 (some .boolean)] ++ wsX10)
def wsX1_programme : List Cond := .code yX1_programme cX1_programme 3 (some .int) :: ([.fieldLink RX1 42 "PianoJuryModel" "programmes" "[I", .fieldLink RX1 45 "PianoJuryModel" "worksOf" "[I", .methodLink RX1 75 yX1_isPlayer, .instanceMethod yX1_isPlayer, .selects RX1 yX1_isPlayer yX1_isPlayer, .initialized RX1, .code yX1_isPlayer cX1_isPlayer 2 (some .boolean), .fieldLink RX1 7 "PianoJuryModel" "players" "I", .methodLink RX1 64 yX1_in, .static yX1_in, .code yX1_in cX1_in 3 (some .boolean)] ++ wsX10)
def wsX1_hear : List Cond := .code yX1_hear cX1_hear 4 none :: ([.fieldLink RX1 54 "PianoJuryModel" "heardOf" "[I"] ++ wsX10)
def wsX1_mayBe : List Cond := .code yX1_mayBe cX1_mayBe 8 (some .boolean) :: ([.fieldLink RX1 39 "PianoJuryModel" "minutes" "[I", .fieldLink RX1 54 "PianoJuryModel" "heardOf" "[I", .methodLink RX1 64 yX1_in, .static yX1_in, .initialized RX1, .code yX1_in cX1_in 3 (some .boolean)] ++ wsX10)
def wsX1_plan : List Cond := .code yX1_plan cX1_plan 5 (some .int) :: ([.fieldLink RX1 54 "PianoJuryModel" "heardOf" "[I", .fieldLink RX1 48 "PianoJuryModel" "planOf" "[I", .fieldLink RX1 7 "PianoJuryModel" "players" "I", .fieldLink RX1 45 "PianoJuryModel" "worksOf" "[I", .fieldLink RX1 42 "PianoJuryModel" "programmes" "[I", .fieldLink RX1 60 "PianoJuryModel" "hasPlan" "Z", .methodLink RX1 64 yX1_in, .static yX1_in, .initialized RX1, .code yX1_in cX1_in 3 (some .boolean), .methodLink RX1 159 yX1_hear, .instanceMethod yX1_hear, .selects RX1 yX1_hear yX1_hear, .code yX1_hear cX1_hear 4 none, .methodLink RX1 162 yX1_mayBe, .instanceMethod yX1_mayBe, .selects RX1 yX1_mayBe yX1_mayBe, .code yX1_mayBe cX1_mayBe 8 (some .boolean), .fieldLink RX1 39 "PianoJuryModel" "minutes" "[I"] ++ wsX10)
def wsX1_chosenOf : List Cond := .code yX1_chosenOf cX1_chosenOf 2 (some .int) :: ([.fieldLink RX1 60 "PianoJuryModel" "hasPlan" "Z", .fieldLink RX1 48 "PianoJuryModel" "planOf" "[I"] ++ wsX10)
def wsX1_chosen : List Cond := .code yX1_chosen cX1_chosen 2 (some .int) :: ([.methodLink RX1 75 yX1_isPlayer, .instanceMethod yX1_isPlayer, .selects RX1 yX1_isPlayer yX1_isPlayer, .initialized RX1, .code yX1_isPlayer cX1_isPlayer 2 (some .boolean), .fieldLink RX1 7 "PianoJuryModel" "players" "I", .methodLink RX1 64 yX1_in, .static yX1_in, .code yX1_in cX1_in 3 (some .boolean), .methodLink RX1 165 yX1_chosenOf, .instanceMethod yX1_chosenOf, .selects RX1 yX1_chosenOf yX1_chosenOf, .code yX1_chosenOf cX1_chosenOf 2 (some .int), .fieldLink RX1 60 "PianoJuryModel" "hasPlan" "Z", .fieldLink RX1 48 "PianoJuryModel" "planOf" "[I"] ++ wsX10)
def wsX1_heard : List Cond := .code yX1_heard cX1_heard 2 (some .int) :: ([.fieldLink RX1 60 "PianoJuryModel" "hasPlan" "Z", .fieldLink RX1 54 "PianoJuryModel" "heardOf" "[I", .methodLink RX1 64 yX1_in, .static yX1_in, .initialized RX1, .code yX1_in cX1_in 3 (some .boolean)] ++ wsX10)
def wsX1_drawn : List Cond := .code yX1_drawn cX1_drawn 9 (some .int) :: ([.fieldLink RX1 7 "PianoJuryModel" "players" "I", .methodLink RX1 64 yX1_in, .static yX1_in, .initialized RX1, .code yX1_in cX1_in 3 (some .boolean)] ++ wsX10)
def wsX1_count : List Cond := .code yX1_count cX1_count 4 (some .int) :: ([.fieldLink RX1 7 "PianoJuryModel" "players" "I", .fieldLink RX1 13 "PianoJuryModel" "jurors" "I", .fieldLink RX1 16 "PianoJuryModel" "marks" "[I", .fieldLink RX1 20 "PianoJuryModel" "isYes" "[Z", .fieldLink RX1 24 "PianoJuryModel" "isPupil" "[Z", .fieldLink RX1 42 "PianoJuryModel" "programmes" "[I"] ++ wsX10)
def wsX1_mix : List Cond := .code yX1_mix cX1_mix 3 none :: ([.constantLong RX1 168 (31), .fieldLink RX1 170 "PianoJuryModel" "h" "J"] ++ wsX10)
def wsX1_digest_r1 : List Cond := [Cond.constantLong RX1 174 (193), Cond.fieldLink RX1 170 "PianoJuryModel" "h" "J", Cond.fieldLink RX1 7 "PianoJuryModel" "players" "I", Cond.fieldLink RX1 13 "PianoJuryModel" "jurors" "I", Cond.fieldLink RX1 16 "PianoJuryModel" "marks" "[I", Cond.fieldLink RX1 20 "PianoJuryModel" "isYes" "[Z", Cond.fieldLink RX1 24 "PianoJuryModel" "isPupil" "[Z", Cond.fieldLink RX1 27 "PianoJuryModel" "cuts" "I", Cond.fieldLink RX1 30 "PianoJuryModel" "pull" "I", Cond.fieldLink RX1 33 "PianoJuryModel" "weights" "[I", Cond.fieldLink RX1 36 "PianoJuryModel" "prizes" "[I", Cond.fieldLink RX1 39 "PianoJuryModel" "minutes" "[I", Cond.fieldLink RX1 42 "PianoJuryModel" "programmes" "[I", Cond.fieldLink RX1 45 "PianoJuryModel" "worksOf" "[I", Cond.methodLink RX1 176 yX1_mix, Cond.instanceMethod yX1_mix, Cond.selects RX1 yX1_mix yX1_mix, Cond.initialized RX1, Cond.code yX1_mix cX1_mix 3 none, Cond.constantLong RX1 168 (31), Cond.methodLink RX1 165 yX1_chosenOf, Cond.instanceMethod yX1_chosenOf, Cond.selects RX1 yX1_chosenOf yX1_chosenOf, Cond.code yX1_chosenOf cX1_chosenOf 2 (some .int)]
def wsX1_digest_r2 : List Cond := [Cond.fieldLink RX1 60 "PianoJuryModel" "hasPlan" "Z", Cond.fieldLink RX1 48 "PianoJuryModel" "planOf" "[I"]
def wsX1_digest : List Cond := .code yX1_digest cX1_digest 4 (some .long) :: ((wsX1_digest_r1 ++ wsX1_digest_r2) ++ wsX10)
def wsJ9_max_7cf53 : List Cond := .code yJ9_max_7cf53 cJ9_max_7cf53 2 (some .int) :: ([])
def wsJ9_min_7cf53 : List Cond := .code yJ9_min_7cf53 cJ9_min_7cf53 2 (some .int) :: ([])
def wsL_law_r1 : List Cond := [Cond.classLink RL 7 RX0, Cond.instantiable RX0 16, Cond.initialized RX0, Cond.classLink RL 10 RX1, Cond.instantiable RX1 23, Cond.initialized RX1, Cond.methodLink RL 9 yX0_init, Cond.instanceMethod yX0_init, Cond.code yX0_init cX0_init 1 none, Cond.methodLink RX0 1 objectInit, Cond.instanceMethod objectInit, Cond.code objectInit ⟨#[0xb1]⟩ 1 none, Cond.fieldLink RX0 7 "PianoJury" "players" "I", Cond.fieldLink RX0 13 "PianoJury" "jurors" "I", Cond.arrayClass .int, Cond.fieldLink RX0 16 "PianoJury" "marks" "[I", Cond.fieldLink RX0 20 "PianoJury" "yeses" "[I", Cond.fieldLink RX0 23 "PianoJury" "pupils" "[I", Cond.fieldLink RX0 26 "PianoJury" "rules" "[I", Cond.fieldLink RX0 29 "PianoJury" "weights" "[I", Cond.fieldLink RX0 32 "PianoJury" "prizes" "[I", Cond.fieldLink RX0 35 "PianoJury" "minutes" "[I", Cond.fieldLink RX0 38 "PianoJury" "programmes" "[I", Cond.fieldLink RX0 41 "PianoJury" "programmeCounts" "[I"]
def wsL_law_r2 : List Cond := [Cond.fieldLink RX0 44 "PianoJury" "choices" "[I", Cond.fieldLink RX0 47 "PianoJury" "sorted" "[I", Cond.fieldLink RX0 50 "PianoJury" "scores" "[I", Cond.fieldLink RX0 53 "PianoJury" "totals" "[I", Cond.fieldLink RX0 56 "PianoJury" "fitting" "[I", Cond.methodLink RX0 59 yJ7_fill_53178, Cond.static yJ7_fill_53178, Cond.initialized RJ7, Cond.code yJ7_fill_53178 cJ7_fill_53178 4 none, Cond.methodLink RX0 65 yX0_clearAll, Cond.instanceMethod yX0_clearAll, Cond.selects RX0 yX0_clearAll yX0_clearAll, Cond.code yX0_clearAll cX0_clearAll 1 none, Cond.methodLink RL 12 yX1_init, Cond.instanceMethod yX1_init, Cond.code yX1_init cX1_init 2 none, Cond.methodLink RX1 1 objectInit, Cond.fieldLink RX1 7 "PianoJuryModel" "players" "I", Cond.fieldLink RX1 13 "PianoJuryModel" "jurors" "I", Cond.fieldLink RX1 16 "PianoJuryModel" "marks" "[I", Cond.arrayClass .boolean, Cond.fieldLink RX1 20 "PianoJuryModel" "isYes" "[Z", Cond.fieldLink RX1 24 "PianoJuryModel" "isPupil" "[Z", Cond.fieldLink RX1 27 "PianoJuryModel" "cuts" "I"]
def wsL_law_r3 : List Cond := [Cond.fieldLink RX1 30 "PianoJuryModel" "pull" "I", Cond.fieldLink RX1 33 "PianoJuryModel" "weights" "[I", Cond.fieldLink RX1 36 "PianoJuryModel" "prizes" "[I", Cond.fieldLink RX1 39 "PianoJuryModel" "minutes" "[I", Cond.fieldLink RX1 42 "PianoJuryModel" "programmes" "[I", Cond.fieldLink RX1 45 "PianoJuryModel" "worksOf" "[I", Cond.fieldLink RX1 48 "PianoJuryModel" "planOf" "[I", Cond.fieldLink RX1 51 "PianoJuryModel" "row" "[I", Cond.fieldLink RX1 54 "PianoJuryModel" "heardOf" "[I", Cond.methodLink RX1 57 yX1_begin, Cond.instanceMethod yX1_begin, Cond.selects RX1 yX1_begin yX1_begin, Cond.code yX1_begin cX1_begin 2 none, Cond.fieldLink RX1 60 "PianoJuryModel" "hasPlan" "Z", Cond.methodLink RL 13 yX0_contest, Cond.instanceMethod yX0_contest, Cond.selects RX0 yX0_contest yX0_contest, Cond.code yX0_contest cX0_contest 3 (some .int), Cond.methodLink RX0 68 yX0_isWithin, Cond.static yX0_isWithin, Cond.code yX0_isWithin cX0_isWithin 3 (some .boolean), Cond.methodLink RL 17 yX1_contest, Cond.instanceMethod yX1_contest, Cond.selects RX1 yX1_contest yX1_contest]
def wsL_law_r4 : List Cond := [Cond.code yX1_contest cX1_contest 3 (some .int), Cond.methodLink RX1 64 yX1_in, Cond.static yX1_in, Cond.code yX1_in cX1_in 3 (some .boolean), Cond.methodLink RL 18 yX0_mark, Cond.instanceMethod yX0_mark, Cond.selects RX0 yX0_mark yX0_mark, Cond.code yX0_mark cX0_mark 5 (some .int), Cond.methodLink RX0 72 yX0_isRound, Cond.static yX0_isRound, Cond.code yX0_isRound cX0_isRound 1 (some .boolean), Cond.methodLink RX0 76 yX0_isJuror, Cond.instanceMethod yX0_isJuror, Cond.selects RX0 yX0_isJuror yX0_isJuror, Cond.code yX0_isJuror cX0_isJuror 2 (some .boolean), Cond.methodLink RX0 79 yX0_isPlayer, Cond.instanceMethod yX0_isPlayer, Cond.selects RX0 yX0_isPlayer yX0_isPlayer, Cond.code yX0_isPlayer cX0_isPlayer 2 (some .boolean), Cond.methodLink RX0 82 yX0_cellOf, Cond.static yX0_cellOf, Cond.code yX0_cellOf cX0_cellOf 3 (some .int), Cond.methodLink RX0 86 yX0_replace, Cond.static yX0_replace]
def wsL_law_r5 : List Cond := [Cond.code yX0_replace cX0_replace 4 (some .int), Cond.methodLink RL 22 yX1_mark, Cond.instanceMethod yX1_mark, Cond.selects RX1 yX1_mark yX1_mark, Cond.code yX1_mark cX1_mark 7 (some .int), Cond.methodLink RX1 68 yX1_isRound, Cond.static yX1_isRound, Cond.code yX1_isRound cX1_isRound 1 (some .boolean), Cond.methodLink RX1 72 yX1_isJuror, Cond.instanceMethod yX1_isJuror, Cond.selects RX1 yX1_isJuror yX1_isJuror, Cond.code yX1_isJuror cX1_isJuror 2 (some .boolean), Cond.methodLink RX1 75 yX1_isPlayer, Cond.instanceMethod yX1_isPlayer, Cond.selects RX1 yX1_isPlayer yX1_isPlayer, Cond.code yX1_isPlayer cX1_isPlayer 2 (some .boolean), Cond.methodLink RL 23 yX0_yes, Cond.instanceMethod yX0_yes, Cond.selects RX0 yX0_yes yX0_yes, Cond.code yX0_yes cX0_yes 5 (some .int), Cond.methodLink RL 27 yX1_yes, Cond.instanceMethod yX1_yes, Cond.selects RX1 yX1_yes yX1_yes, Cond.code yX1_yes cX1_yes 7 (some .int)]
def wsL_law_r6 : List Cond := [Cond.methodLink RL 28 yX0_pupil, Cond.instanceMethod yX0_pupil, Cond.selects RX0 yX0_pupil yX0_pupil, Cond.code yX0_pupil cX0_pupil 4 (some .int), Cond.methodLink RX0 90 yX0_pupilCellOf, Cond.static yX0_pupilCellOf, Cond.code yX0_pupilCellOf cX0_pupilCellOf 2 (some .int), Cond.methodLink RL 32 yX1_pupil, Cond.instanceMethod yX1_pupil, Cond.selects RX1 yX1_pupil yX1_pupil, Cond.code yX1_pupil cX1_pupil 5 (some .int), Cond.methodLink RL 33 yX0_rule, Cond.instanceMethod yX0_rule, Cond.selects RX0 yX0_rule yX0_rule, Cond.code yX0_rule cX0_rule 4 (some .int), Cond.methodLink RL 36 yX1_rule, Cond.instanceMethod yX1_rule, Cond.selects RX1 yX1_rule yX1_rule, Cond.code yX1_rule cX1_rule 4 (some .int), Cond.methodLink RL 37 yX0_score, Cond.instanceMethod yX0_score, Cond.selects RX0 yX0_score yX0_score, Cond.code yX0_score cX0_score 4 (some .int), Cond.methodLink RX0 94 yX0_isWay]
def wsL_law_r7 : List Cond := [Cond.static yX0_isWay, Cond.code yX0_isWay cX0_isWay 1 (some .boolean), Cond.methodLink RX0 97 yX0_scoreOf, Cond.instanceMethod yX0_scoreOf, Cond.selects RX0 yX0_scoreOf yX0_scoreOf, Cond.code yX0_scoreOf cX0_scoreOf 5 (some .int), Cond.constant RX0 195 (88200), Cond.constant RX0 196 (176400), Cond.methodLink RX0 189 yX0_sortMarks, Cond.instanceMethod yX0_sortMarks, Cond.selects RX0 yX0_sortMarks yX0_sortMarks, Cond.code yX0_sortMarks cX0_sortMarks 6 (some .int), Cond.methodLink RX0 186 yX0_countedMark, Cond.instanceMethod yX0_countedMark, Cond.selects RX0 yX0_countedMark yX0_countedMark, Cond.code yX0_countedMark cX0_countedMark 4 (some .int), Cond.methodLink RX0 209 yX0_insertMark, Cond.instanceMethod yX0_insertMark, Cond.selects RX0 yX0_insertMark yX0_insertMark, Cond.code yX0_insertMark cX0_insertMark 4 none, Cond.methodLink RX0 192 yX0_cutMean, Cond.instanceMethod yX0_cutMean, Cond.selects RX0 yX0_cutMean yX0_cutMean, Cond.code yX0_cutMean cX0_cutMean 3 (some .int)]
def wsL_law_r8 : List Cond := [Cond.methodLink RX0 206 yX0_meanBetween, Cond.instanceMethod yX0_meanBetween, Cond.selects RX0 yX0_meanBetween yX0_meanBetween, Cond.code yX0_meanBetween cX0_meanBetween 3 (some .int), Cond.methodLink RX0 212 yX0_sumBetween, Cond.instanceMethod yX0_sumBetween, Cond.selects RX0 yX0_sumBetween yX0_sumBetween, Cond.code yX0_sumBetween cX0_sumBetween 5 (some .int), Cond.methodLink RX0 197 yX0_countYeses, Cond.instanceMethod yX0_countYeses, Cond.selects RX0 yX0_countYeses yX0_countYeses, Cond.code yX0_countYeses cX0_countYeses 5 (some .int), Cond.methodLink RX0 200 yX0_pairScore, Cond.instanceMethod yX0_pairScore, Cond.selects RX0 yX0_pairScore yX0_pairScore, Cond.code yX0_pairScore cX0_pairScore 5 (some .int), Cond.methodLink RX0 223 yX0_isMarked, Cond.instanceMethod yX0_isMarked, Cond.selects RX0 yX0_isMarked yX0_isMarked, Cond.code yX0_isMarked cX0_isMarked 4 (some .boolean), Cond.methodLink RX0 100 yX0_duel, Cond.instanceMethod yX0_duel, Cond.selects RX0 yX0_duel yX0_duel, Cond.code yX0_duel cX0_duel 8 (some .int)]
def wsL_law_r9 : List Cond := [Cond.methodLink RX0 226 yJ6_compare_7cf53, Cond.static yJ6_compare_7cf53, Cond.initialized RJ6, Cond.code yJ6_compare_7cf53 cJ6_compare_7cf53 2 (some .int), Cond.methodLink RX0 203 yX0_pulledMean, Cond.instanceMethod yX0_pulledMean, Cond.selects RX0 yX0_pulledMean yX0_pulledMean, Cond.code yX0_pulledMean cX0_pulledMean 7 (some .int), Cond.methodLink RX0 215 Lib.Math.max.name, Cond.static Lib.Math.max.name, Cond.initialized "java/lang/Math", Cond.code Lib.Math.max.name Lib.Math.max.code 2 (some .int), Cond.methodLink RX0 220 Lib.Math.min.name, Cond.static Lib.Math.min.name, Cond.code Lib.Math.min.name Lib.Math.min.code 2 (some .int), Cond.methodLink RL 41 yX1_score, Cond.instanceMethod yX1_score, Cond.selects RX1 yX1_score yX1_score, Cond.code yX1_score cX1_score 4 (some .int), Cond.methodLink RX1 115 yX1_scoreOf, Cond.instanceMethod yX1_scoreOf, Cond.selects RX1 yX1_scoreOf yX1_scoreOf, Cond.code yX1_scoreOf cX1_scoreOf 4 (some .int), Cond.fieldLink RX1 78 "PianoJuryModel" "many" "I"]
def wsL_law_r10 : List Cond := [Cond.constant RX1 87 (176400), Cond.fieldLink RX1 81 "PianoJuryModel" "sum" "I", Cond.constant RX1 104 (88200), Cond.methodLink RX1 96 yX1_gather, Cond.instanceMethod yX1_gather, Cond.selects RX1 yX1_gather yX1_gather, Cond.code yX1_gather cX1_gather 6 none, Cond.methodLink RX1 84 yX1_counts, Cond.instanceMethod yX1_counts, Cond.selects RX1 yX1_counts yX1_counts, Cond.code yX1_counts cX1_counts 4 (some .boolean), Cond.methodLink RX1 100 yX1_cutOf, Cond.instanceMethod yX1_cutOf, Cond.selects RX1 yX1_cutOf yX1_cutOf, Cond.code yX1_cutOf cX1_cutOf 4 (some .int), Cond.methodLink RX1 105 yX1_yesOf, Cond.instanceMethod yX1_yesOf, Cond.selects RX1 yX1_yesOf yX1_yesOf, Cond.code yX1_yesOf cX1_yesOf 5 (some .int), Cond.methodLink RX1 109 yX1_pairsOf, Cond.instanceMethod yX1_pairsOf, Cond.selects RX1 yX1_pairsOf yX1_pairsOf, Cond.code yX1_pairsOf cX1_pairsOf 5 (some .int), Cond.methodLink RX1 88 yX1_hasMark]
def wsL_law_r11 : List Cond := [Cond.instanceMethod yX1_hasMark, Cond.selects RX1 yX1_hasMark yX1_hasMark, Cond.code yX1_hasMark cX1_hasMark 5 (some .boolean), Cond.methodLink RX1 92 yX1_beatsOf, Cond.instanceMethod yX1_beatsOf, Cond.selects RX1 yX1_beatsOf yX1_beatsOf, Cond.code yX1_beatsOf cX1_beatsOf 7 (some .int), Cond.methodLink RX1 112 yX1_pulledOf, Cond.instanceMethod yX1_pulledOf, Cond.selects RX1 yX1_pulledOf yX1_pulledOf, Cond.code yX1_pulledOf cX1_pulledOf 4 (some .int), Cond.methodLink RL 42 yX0_beats, Cond.instanceMethod yX0_beats, Cond.selects RX0 yX0_beats yX0_beats, Cond.code yX0_beats cX0_beats 4 (some .int), Cond.methodLink RL 45 yX1_beats, Cond.instanceMethod yX1_beats, Cond.selects RX1 yX1_beats yX1_beats, Cond.code yX1_beats cX1_beats 4 (some .int), Cond.methodLink RL 46 yX0_place, Cond.instanceMethod yX0_place, Cond.selects RX0 yX0_place yX0_place, Cond.code yX0_place cX0_place 4 (some .int), Cond.methodLink RX0 103 yX0_fillScores]
def wsL_law_r12 : List Cond := [Cond.instanceMethod yX0_fillScores, Cond.selects RX0 yX0_fillScores yX0_fillScores, Cond.code yX0_fillScores cX0_fillScores 4 none, Cond.methodLink RX0 107 yX0_placeIn, Cond.instanceMethod yX0_placeIn, Cond.selects RX0 yX0_placeIn yX0_placeIn, Cond.code yX0_placeIn cX0_placeIn 5 (some .int), Cond.methodLink RL 49 yX1_place, Cond.instanceMethod yX1_place, Cond.selects RX1 yX1_place yX1_place, Cond.code yX1_place cX1_place 4 (some .int), Cond.methodLink RX1 118 yX1_placeOf, Cond.instanceMethod yX1_placeOf, Cond.selects RX1 yX1_placeOf yX1_placeOf, Cond.code yX1_placeOf cX1_placeOf 7 (some .int), Cond.methodLink RL 50 yX0_passed, Cond.instanceMethod yX0_passed, Cond.selects RX0 yX0_passed yX0_passed, Cond.code yX0_passed cX0_passed 4 (some .int), Cond.methodLink RX0 111 yX0_isLimit, Cond.static yX0_isLimit, Cond.code yX0_isLimit cX0_isLimit 1 (some .boolean), Cond.methodLink RX0 114 yX0_passedBits, Cond.instanceMethod yX0_passedBits]
def wsL_law_r13 : List Cond := [Cond.selects RX0 yX0_passedBits yX0_passedBits, Cond.code yX0_passedBits cX0_passedBits 6 (some .int), Cond.methodLink RX0 131 yX0_passesIn, Cond.instanceMethod yX0_passesIn, Cond.selects RX0 yX0_passesIn yX0_passesIn, Cond.code yX0_passesIn cX0_passesIn 4 (some .boolean), Cond.methodLink RL 53 yX1_passed, Cond.instanceMethod yX1_passed, Cond.selects RX1 yX1_passed yX1_passed, Cond.code yX1_passed cX1_passed 4 (some .int), Cond.methodLink RX1 125 yX1_passedOf, Cond.instanceMethod yX1_passedOf, Cond.selects RX1 yX1_passedOf yX1_passedOf, Cond.code yX1_passedOf cX1_passedOf 6 (some .int), Cond.methodLink RX1 121 yX1_passes, Cond.instanceMethod yX1_passes, Cond.selects RX1 yX1_passes yX1_passes, Cond.code yX1_passes cX1_passes 5 (some .boolean), Cond.methodLink RL 54 yX0_differ, Cond.instanceMethod yX0_differ, Cond.selects RX0 yX0_differ yX0_differ, Cond.code yX0_differ cX0_differ 5 (some .int), Cond.methodLink RX0 117 yJ6_bitCount_0f7a4, Cond.static yJ6_bitCount_0f7a4]
def wsL_law_r14 : List Cond := [Cond.code yJ6_bitCount_0f7a4 cJ6_bitCount_0f7a4 1 (some .int), Cond.constant RJ6 265 (1431655765), Cond.constant RJ6 266 (858993459), Cond.constant RJ6 267 (252645135), Cond.methodLink RL 57 yX1_differ, Cond.instanceMethod yX1_differ, Cond.selects RX1 yX1_differ yX1_differ, Cond.code yX1_differ cX1_differ 8 (some .int), Cond.methodLink RL 58 yX0_reach, Cond.instanceMethod yX0_reach, Cond.selects RX0 yX0_reach yX0_reach, Cond.code yX0_reach cX0_reach 6 (some .int), Cond.methodLink RX0 123 yX0_isPupil, Cond.instanceMethod yX0_isPupil, Cond.selects RX0 yX0_isPupil yX0_isPupil, Cond.code yX0_isPupil cX0_isPupil 3 (some .boolean), Cond.methodLink RX0 127 yX0_fillScoresIf, Cond.instanceMethod yX0_fillScoresIf, Cond.selects RX0 yX0_fillScoresIf yX0_fillScoresIf, Cond.code yX0_fillScoresIf cX0_fillScoresIf 9 none, Cond.methodLink RL 62 yX1_reach, Cond.instanceMethod yX1_reach, Cond.selects RX1 yX1_reach yX1_reach, Cond.code yX1_reach cX1_reach 6 (some .int)]
def wsL_law_r15 : List Cond := [Cond.fieldLink RX1 128 "PianoJuryModel" "leastPlace" "I", Cond.fieldLink RX1 131 "PianoJuryModel" "greatestPlace" "I", Cond.methodLink RX1 144 yX1_seek, Cond.instanceMethod yX1_seek, Cond.selects RX1 yX1_seek yX1_seek, Cond.code yX1_seek cX1_seek 9 none, Cond.fieldLink RX1 134 "PianoJuryModel" "mayPass" "Z", Cond.fieldLink RX1 137 "PianoJuryModel" "mayFail" "Z", Cond.methodLink RX1 140 yX1_note, Cond.instanceMethod yX1_note, Cond.selects RX1 yX1_note yX1_note, Cond.code yX1_note cX1_note 7 none, Cond.methodLink RL 63 yX0_sway, Cond.instanceMethod yX0_sway, Cond.selects RX0 yX0_sway yX0_sway, Cond.code yX0_sway cX0_sway 11 (some .int), Cond.methodLink RL 66 yX1_sway, Cond.instanceMethod yX1_sway, Cond.selects RX1 yX1_sway yX1_sway, Cond.code yX1_sway cX1_sway 8 (some .int), Cond.methodLink RL 67 yX0_weight, Cond.instanceMethod yX0_weight, Cond.selects RX0 yX0_weight yX0_weight, Cond.code yX0_weight cX0_weight 3 (some .int)]
def wsL_law_r16 : List Cond := [Cond.methodLink RL 70 yX1_weight, Cond.instanceMethod yX1_weight, Cond.selects RX1 yX1_weight yX1_weight, Cond.code yX1_weight cX1_weight 4 (some .int), Cond.methodLink RL 71 yX0_total, Cond.instanceMethod yX0_total, Cond.selects RX0 yX0_total yX0_total, Cond.code yX0_total cX0_total 2 (some .int), Cond.methodLink RX0 135 yX0_totalOf, Cond.instanceMethod yX0_totalOf, Cond.selects RX0 yX0_totalOf yX0_totalOf, Cond.code yX0_totalOf cX0_totalOf 5 (some .int), Cond.methodLink RL 75 yX1_total, Cond.instanceMethod yX1_total, Cond.selects RX1 yX1_total yX1_total, Cond.code yX1_total cX1_total 2 (some .int), Cond.methodLink RX1 148 yX1_totalOf, Cond.instanceMethod yX1_totalOf, Cond.selects RX1 yX1_totalOf yX1_totalOf, Cond.code yX1_totalOf cX1_totalOf 5 (some .int), Cond.methodLink RL 76 yX0_last, Cond.instanceMethod yX0_last, Cond.selects RX0 yX0_last yX0_last, Cond.code yX0_last cX0_last 2 (some .int)]
def wsL_law_r17 : List Cond := [Cond.methodLink RX0 138 yX0_fillTotals, Cond.instanceMethod yX0_fillTotals, Cond.selects RX0 yX0_fillTotals yX0_fillTotals, Cond.code yX0_fillTotals cX0_fillTotals 2 none, Cond.methodLink RL 79 yX1_last, Cond.instanceMethod yX1_last, Cond.selects RX1 yX1_last yX1_last, Cond.code yX1_last cX1_last 2 (some .int), Cond.methodLink RX1 152 yX1_lastOf, Cond.instanceMethod yX1_lastOf, Cond.selects RX1 yX1_lastOf yX1_lastOf, Cond.code yX1_lastOf cX1_lastOf 5 (some .int), Cond.methodLink RL 80 yX0_prize, Cond.instanceMethod yX0_prize, Cond.selects RX0 yX0_prize yX0_prize, Cond.code yX0_prize cX0_prize 3 (some .int), Cond.constant RX0 141 (1000000), Cond.methodLink RL 83 yX1_prize, Cond.instanceMethod yX1_prize, Cond.selects RX1 yX1_prize yX1_prize, Cond.code yX1_prize cX1_prize 4 (some .int), Cond.constant RX1 155 (1000000), Cond.methodLink RL 84 yX0_wins, Cond.instanceMethod yX0_wins]
def wsL_law_r18 : List Cond := [Cond.selects RX0 yX0_wins yX0_wins, Cond.code yX0_wins cX0_wins 2 (some .int), Cond.methodLink RX0 142 yX0_shareOf, Cond.instanceMethod yX0_shareOf, Cond.selects RX0 yX0_shareOf yX0_shareOf, Cond.code yX0_shareOf cX0_shareOf 6 (some .int), Cond.methodLink RL 87 yX1_wins, Cond.instanceMethod yX1_wins, Cond.selects RX1 yX1_wins yX1_wins, Cond.code yX1_wins cX1_wins 2 (some .int), Cond.methodLink RX1 156 yX1_winsOf, Cond.instanceMethod yX1_winsOf, Cond.selects RX1 yX1_winsOf yX1_winsOf, Cond.code yX1_winsOf cX1_winsOf 7 (some .int), Cond.methodLink RL 88 yX0_rest, Cond.instanceMethod yX0_rest, Cond.selects RX0 yX0_rest yX0_rest, Cond.code yX0_rest cX0_rest 3 (some .int), Cond.methodLink RX0 145 yX0_sumOf, Cond.static yX0_sumOf, Cond.code yX0_sumOf cX0_sumOf 3 (some .int), Cond.methodLink RL 92 yX1_rest, Cond.instanceMethod yX1_rest, Cond.selects RX1 yX1_rest yX1_rest]
def wsL_law_r19 : List Cond := [Cond.code yX1_rest cX1_rest 3 (some .int), Cond.methodLink RL 93 yX0_work, Cond.instanceMethod yX0_work, Cond.selects RX0 yX0_work yX0_work, Cond.code yX0_work cX0_work 3 (some .int), Cond.methodLink RX0 149 yX0_isWork, Cond.static yX0_isWork, Cond.code yX0_isWork cX0_isWork 1 (some .boolean), Cond.methodLink RL 96 yX1_work, Cond.instanceMethod yX1_work, Cond.selects RX1 yX1_work yX1_work, Cond.code yX1_work cX1_work 4 (some .int), Cond.methodLink RL 97 yX0_programme, Cond.instanceMethod yX0_programme, Cond.selects RX0 yX0_programme yX0_programme, Cond.code yX0_programme cX0_programme 3 (some .int), Cond.methodLink RX0 152 yX0_programmeCellOf, Cond.static yX0_programmeCellOf, Cond.code yX0_programmeCellOf cX0_programmeCellOf 2 (some .int), Cond.methodLink RL 100 yX1_programme, Cond.instanceMethod yX1_programme, Cond.selects RX1 yX1_programme yX1_programme, Cond.code yX1_programme cX1_programme 3 (some .int), Cond.methodLink RL 101 yX0_plan]
def wsL_law_r20 : List Cond := [Cond.instanceMethod yX0_plan, Cond.selects RX0 yX0_plan yX0_plan, Cond.code yX0_plan cX0_plan 6 (some .int), Cond.methodLink RX0 155 yX0_fillFitting, Cond.instanceMethod yX0_fillFitting, Cond.selects RX0 yX0_fillFitting yX0_fillFitting, Cond.code yX0_fillFitting cX0_fillFitting 7 none, Cond.methodLink RX0 229 yX0_minutesOf, Cond.instanceMethod yX0_minutesOf, Cond.selects RX0 yX0_minutesOf yX0_minutesOf, Cond.code yX0_minutesOf cX0_minutesOf 4 (some .int), Cond.methodLink RX0 158 yX0_choosesFrom, Cond.instanceMethod yX0_choosesFrom, Cond.selects RX0 yX0_choosesFrom yX0_choosesFrom, Cond.code yX0_choosesFrom cX0_choosesFrom 8 (some .boolean), Cond.methodLink RL 104 yX1_plan, Cond.instanceMethod yX1_plan, Cond.selects RX1 yX1_plan yX1_plan, Cond.code yX1_plan cX1_plan 5 (some .int), Cond.methodLink RX1 159 yX1_hear, Cond.instanceMethod yX1_hear, Cond.selects RX1 yX1_hear yX1_hear, Cond.code yX1_hear cX1_hear 4 none, Cond.methodLink RX1 162 yX1_mayBe]
def wsL_law_r21 : List Cond := [Cond.instanceMethod yX1_mayBe, Cond.selects RX1 yX1_mayBe yX1_mayBe, Cond.code yX1_mayBe cX1_mayBe 8 (some .boolean), Cond.methodLink RL 105 yX0_chosen, Cond.instanceMethod yX0_chosen, Cond.selects RX0 yX0_chosen yX0_chosen, Cond.code yX0_chosen cX0_chosen 2 (some .int), Cond.methodLink RL 108 yX1_chosen, Cond.instanceMethod yX1_chosen, Cond.selects RX1 yX1_chosen yX1_chosen, Cond.code yX1_chosen cX1_chosen 2 (some .int), Cond.methodLink RX1 165 yX1_chosenOf, Cond.instanceMethod yX1_chosenOf, Cond.selects RX1 yX1_chosenOf yX1_chosenOf, Cond.code yX1_chosenOf cX1_chosenOf 2 (some .int), Cond.methodLink RL 109 yX0_heard, Cond.instanceMethod yX0_heard, Cond.selects RX0 yX0_heard yX0_heard, Cond.code yX0_heard cX0_heard 4 (some .int), Cond.methodLink RL 112 yX1_heard, Cond.instanceMethod yX1_heard, Cond.selects RX1 yX1_heard yX1_heard, Cond.code yX1_heard cX1_heard 2 (some .int), Cond.methodLink RL 113 yX0_drawn]
def wsL_law_r22 : List Cond := [Cond.instanceMethod yX0_drawn, Cond.selects RX0 yX0_drawn yX0_drawn, Cond.code yX0_drawn cX0_drawn 8 (some .int), Cond.methodLink RX0 162 yX0_factorial, Cond.static yX0_factorial, Cond.code yX0_factorial cX0_factorial 3 (some .int), Cond.methodLink RX0 165 yX0_bitOf, Cond.static yX0_bitOf, Cond.code yX0_bitOf cX0_bitOf 4 (some .int), Cond.methodLink RL 116 yX1_drawn, Cond.instanceMethod yX1_drawn, Cond.selects RX1 yX1_drawn yX1_drawn, Cond.code yX1_drawn cX1_drawn 9 (some .int), Cond.methodLink RL 117 yX0_count, Cond.instanceMethod yX0_count, Cond.selects RX0 yX0_count yX0_count, Cond.code yX0_count cX0_count 2 (some .int), Cond.methodLink RX0 168 yX0_countMarks, Cond.instanceMethod yX0_countMarks, Cond.selects RX0 yX0_countMarks yX0_countMarks, Cond.code yX0_countMarks cX0_countMarks 3 (some .int), Cond.methodLink RL 120 yX1_count, Cond.instanceMethod yX1_count, Cond.selects RX1 yX1_count yX1_count]
def wsL_law_r23 : List Cond := [Cond.code yX1_count cX1_count 4 (some .int), Cond.methodLink RL 121 yX0_digest, Cond.instanceMethod yX0_digest, Cond.selects RX0 yX0_digest yX0_digest, Cond.code yX0_digest cX0_digest 5 (some .long), Cond.constantLong RX0 172 (193), Cond.methodLink RX0 174 yX0_mixed, Cond.static yX0_mixed, Cond.code yX0_mixed cX0_mixed 4 (some .long), Cond.constantLong RX0 232 (31), Cond.methodLink RX0 178 yX0_mixedRound, Cond.instanceMethod yX0_mixedRound, Cond.selects RX0 yX0_mixedRound yX0_mixedRound, Cond.code yX0_mixedRound cX0_mixedRound 9 (some .long), Cond.methodLink RX0 182 yX0_mixedRow, Cond.static yX0_mixedRow, Cond.code yX0_mixedRow cX0_mixedRow 6 (some .long), Cond.methodLink RL 125 yX1_digest, Cond.instanceMethod yX1_digest, Cond.selects RX1 yX1_digest yX1_digest, Cond.code yX1_digest cX1_digest 4 (some .long), Cond.constantLong RX1 174 (193), Cond.fieldLink RX1 170 "PianoJuryModel" "h" "J", Cond.methodLink RX1 176 yX1_mix]
def wsL_law_r24 : List Cond := [Cond.instanceMethod yX1_mix, Cond.selects RX1 yX1_mix yX1_mix, Cond.code yX1_mix cX1_mix 3 none, Cond.constantLong RX1 168 (31)]
def wsL_law : List Cond := (wsL_law_r1 ++ (wsL_law_r2 ++ (wsL_law_r3 ++ (wsL_law_r4 ++ (wsL_law_r5 ++ (wsL_law_r6 ++ (wsL_law_r7 ++ (wsL_law_r8 ++ (wsL_law_r9 ++ (wsL_law_r10 ++ (wsL_law_r11 ++ (wsL_law_r12 ++ (wsL_law_r13 ++ (wsL_law_r14 ++ (wsL_law_r15 ++ (wsL_law_r16 ++ (wsL_law_r17 ++ (wsL_law_r18 ++ (wsL_law_r19 ++ (wsL_law_r20 ++ (wsL_law_r21 ++ (wsL_law_r22 ++ (wsL_law_r23 ++ wsL_law_r24))))))))))))))))))))))) ++ wsX00 ++ wsX10 ++ ([] : List Cond)
set_option maxRecDepth 20000 in
theorem wsL_law_in : ∀ w ∈ wsL_law, w ∈ lw_tbl := sorry
theorem inlX0 : ∀ w ∈ wsX00, w ∈ wsL_law := fun _ h => List.mem_append_left _ (List.mem_append_left _ (List.mem_append_right _ h))
theorem inX0 : ∀ w ∈ wsX00, w ∈ lw_tbl := fun w h => wsL_law_in w (inlX0 w h)
theorem inlX1 : ∀ w ∈ wsX10, w ∈ wsL_law := fun _ h => List.mem_append_left _ (List.mem_append_right _ h)
theorem inX1 : ∀ w ∈ wsX10, w ∈ lw_tbl := fun w h => wsL_law_in w (inlX1 w h)
theorem inJ6 : ∀ w ∈ wsJ60, w ∈ lw_tbl := by decide +kernel
theorem inJ9 : ∀ w ∈ wsJ90, w ∈ lw_tbl := by decide +kernel
theorem inJ7 : ∀ w ∈ wsJ70, w ∈ lw_tbl := by decide +kernel
set_option maxRecDepth 20000 in
theorem ggX0_init_J7_fill_53178 : GoodIn wsX0_init wsJ7_fill_53178 := goodIn_r _ [24] (by decide +kernel) (by decide +kernel)
set_option maxRecDepth 20000 in
theorem gX0_init_J7_fill_53178 : GoodIn wsX0_init (va_wsS RX0 59 yJ7_fill_53178 wsJ7_fill_53178) := goodIn_app (goodIn_of _ (by decide +kernel)) ggX0_init_J7_fill_53178
set_option maxRecDepth 20000 in
theorem ggX0_init_X0_clearAll : GoodIn wsX0_init wsX0_clearAll := goodIn_r _ [29, 7, 8, 9, 15, 16, 21, 22, 23, 24, 30, 31, 32, 33, 34, 35, 36, 37, 38, 39, 40, 41, 42, 43, 44, 45] (by decide +kernel) (by decide +kernel)
set_option maxRecDepth 20000 in
theorem gX0_init_X0_clearAll : GoodIn wsX0_init (wsV RX0 65 RX0 yX0_clearAll wsX0_clearAll) := goodIn_app (goodIn_of _ (by decide +kernel)) ggX0_init_X0_clearAll
end
section
theorem dX0_init_0 : decode cX0_init 0 = .ok (.aload_n 0, 1) := by decide +kernel
theorem dX0_init_1 : decode cX0_init 1 = .ok (.invokespecial 1, 3) := by decide +kernel
theorem dX0_init_4 : decode cX0_init 4 = .ok (.aload_n 0, 1) := by decide +kernel
theorem dX0_init_5 : decode cX0_init 5 = .ok (.iconst 1, 1) := by decide +kernel
theorem dX0_init_6 : decode cX0_init 6 = .ok (.putfield 7, 3) := by decide +kernel
theorem dX0_init_9 : decode cX0_init 9 = .ok (.aload_n 0, 1) := by decide +kernel
theorem dX0_init_10 : decode cX0_init 10 = .ok (.iconst 1, 1) := by decide +kernel
theorem dX0_init_11 : decode cX0_init 11 = .ok (.putfield 13, 3) := by decide +kernel
theorem dX0_init_14 : decode cX0_init 14 = .ok (.aload_n 0, 1) := by decide +kernel
theorem dX0_init_15 : decode cX0_init 15 = .ok (.sipush 210, 3) := by decide +kernel
theorem dX0_init_18 : decode cX0_init 18 = .ok (.newarray .int, 2) := by decide +kernel
theorem dX0_init_20 : decode cX0_init 20 = .ok (.putfield 16, 3) := by decide +kernel
theorem dX0_init_23 : decode cX0_init 23 = .ok (.aload_n 0, 1) := by decide +kernel
theorem dX0_init_24 : decode cX0_init 24 = .ok (.sipush 210, 3) := by decide +kernel
theorem dX0_init_27 : decode cX0_init 27 = .ok (.newarray .int, 2) := by decide +kernel
theorem dX0_init_29 : decode cX0_init 29 = .ok (.putfield 20, 3) := by decide +kernel
theorem dX0_init_32 : decode cX0_init 32 = .ok (.aload_n 0, 1) := by decide +kernel
theorem dX0_init_33 : decode cX0_init 33 = .ok (.bipush 70, 2) := by decide +kernel
theorem dX0_init_35 : decode cX0_init 35 = .ok (.newarray .int, 2) := by decide +kernel
theorem dX0_init_37 : decode cX0_init 37 = .ok (.putfield 23, 3) := by decide +kernel
theorem dX0_init_40 : decode cX0_init 40 = .ok (.aload_n 0, 1) := by decide +kernel
theorem dX0_init_41 : decode cX0_init 41 = .ok (.iconst 2, 1) := by decide +kernel
theorem dX0_init_42 : decode cX0_init 42 = .ok (.newarray .int, 2) := by decide +kernel
theorem dX0_init_44 : decode cX0_init 44 = .ok (.dup, 1) := by decide +kernel
theorem dX0_init_45 : decode cX0_init 45 = .ok (.iconst 0, 1) := by decide +kernel
theorem dX0_init_46 : decode cX0_init 46 = .ok (.iconst 1, 1) := by decide +kernel
theorem dX0_init_47 : decode cX0_init 47 = .ok (.iastore, 1) := by decide +kernel
theorem dX0_init_48 : decode cX0_init 48 = .ok (.dup, 1) := by decide +kernel
theorem dX0_init_49 : decode cX0_init 49 = .ok (.iconst 1, 1) := by decide +kernel
theorem dX0_init_50 : decode cX0_init 50 = .ok (.bipush 10, 2) := by decide +kernel
theorem dX0_init_52 : decode cX0_init 52 = .ok (.iastore, 1) := by decide +kernel
theorem dX0_init_53 : decode cX0_init 53 = .ok (.putfield 26, 3) := by decide +kernel
theorem dX0_init_56 : decode cX0_init 56 = .ok (.aload_n 0, 1) := by decide +kernel
theorem dX0_init_57 : decode cX0_init 57 = .ok (.iconst 3, 1) := by decide +kernel
theorem dX0_init_58 : decode cX0_init 58 = .ok (.newarray .int, 2) := by decide +kernel
theorem dX0_init_60 : decode cX0_init 60 = .ok (.dup, 1) := by decide +kernel
theorem dX0_init_61 : decode cX0_init 61 = .ok (.iconst 0, 1) := by decide +kernel
theorem dX0_init_62 : decode cX0_init 62 = .ok (.iconst 1, 1) := by decide +kernel
theorem dX0_init_63 : decode cX0_init 63 = .ok (.iastore, 1) := by decide +kernel
theorem dX0_init_64 : decode cX0_init 64 = .ok (.dup, 1) := by decide +kernel
theorem dX0_init_65 : decode cX0_init 65 = .ok (.iconst 1, 1) := by decide +kernel
theorem dX0_init_66 : decode cX0_init 66 = .ok (.iconst 0, 1) := by decide +kernel
theorem dX0_init_67 : decode cX0_init 67 = .ok (.iastore, 1) := by decide +kernel
theorem dX0_init_68 : decode cX0_init 68 = .ok (.dup, 1) := by decide +kernel
theorem dX0_init_69 : decode cX0_init 69 = .ok (.iconst 2, 1) := by decide +kernel
theorem dX0_init_70 : decode cX0_init 70 = .ok (.iconst 0, 1) := by decide +kernel
theorem dX0_init_71 : decode cX0_init 71 = .ok (.iastore, 1) := by decide +kernel
theorem dX0_init_72 : decode cX0_init 72 = .ok (.putfield 29, 3) := by decide +kernel
theorem dX0_init_75 : decode cX0_init 75 = .ok (.aload_n 0, 1) := by decide +kernel
theorem dX0_init_76 : decode cX0_init 76 = .ok (.bipush 6, 2) := by decide +kernel
theorem dX0_init_78 : decode cX0_init 78 = .ok (.newarray .int, 2) := by decide +kernel
theorem dX0_init_80 : decode cX0_init 80 = .ok (.putfield 32, 3) := by decide +kernel
theorem dX0_init_83 : decode cX0_init 83 = .ok (.aload_n 0, 1) := by decide +kernel
theorem dX0_init_84 : decode cX0_init 84 = .ok (.bipush 12, 2) := by decide +kernel
theorem dX0_init_86 : decode cX0_init 86 = .ok (.newarray .int, 2) := by decide +kernel
theorem dX0_init_88 : decode cX0_init 88 = .ok (.putfield 35, 3) := by decide +kernel
theorem dX0_init_91 : decode cX0_init 91 = .ok (.aload_n 0, 1) := by decide +kernel
theorem dX0_init_92 : decode cX0_init 92 = .ok (.bipush 30, 2) := by decide +kernel
theorem dX0_init_94 : decode cX0_init 94 = .ok (.newarray .int, 2) := by decide +kernel
theorem dX0_init_96 : decode cX0_init 96 = .ok (.putfield 38, 3) := by decide +kernel
theorem dX0_init_99 : decode cX0_init 99 = .ok (.aload_n 0, 1) := by decide +kernel
theorem dX0_init_100 : decode cX0_init 100 = .ok (.bipush 10, 2) := by decide +kernel
theorem dX0_init_102 : decode cX0_init 102 = .ok (.newarray .int, 2) := by decide +kernel
theorem dX0_init_104 : decode cX0_init 104 = .ok (.putfield 41, 3) := by decide +kernel
theorem dX0_init_107 : decode cX0_init 107 = .ok (.aload_n 0, 1) := by decide +kernel
theorem dX0_init_108 : decode cX0_init 108 = .ok (.bipush 10, 2) := by decide +kernel
theorem dX0_init_110 : decode cX0_init 110 = .ok (.newarray .int, 2) := by decide +kernel
theorem dX0_init_112 : decode cX0_init 112 = .ok (.putfield 44, 3) := by decide +kernel
theorem dX0_init_115 : decode cX0_init 115 = .ok (.aload_n 0, 1) := by decide +kernel
theorem dX0_init_116 : decode cX0_init 116 = .ok (.bipush 7, 2) := by decide +kernel
theorem dX0_init_118 : decode cX0_init 118 = .ok (.newarray .int, 2) := by decide +kernel
theorem dX0_init_120 : decode cX0_init 120 = .ok (.putfield 47, 3) := by decide +kernel
theorem dX0_init_123 : decode cX0_init 123 = .ok (.aload_n 0, 1) := by decide +kernel
theorem dX0_init_124 : decode cX0_init 124 = .ok (.bipush 10, 2) := by decide +kernel
theorem dX0_init_126 : decode cX0_init 126 = .ok (.newarray .int, 2) := by decide +kernel
theorem dX0_init_128 : decode cX0_init 128 = .ok (.putfield 50, 3) := by decide +kernel
theorem dX0_init_131 : decode cX0_init 131 = .ok (.aload_n 0, 1) := by decide +kernel
theorem dX0_init_132 : decode cX0_init 132 = .ok (.bipush 10, 2) := by decide +kernel
theorem dX0_init_134 : decode cX0_init 134 = .ok (.newarray .int, 2) := by decide +kernel
theorem dX0_init_136 : decode cX0_init 136 = .ok (.putfield 53, 3) := by decide +kernel
theorem dX0_init_139 : decode cX0_init 139 = .ok (.aload_n 0, 1) := by decide +kernel
theorem dX0_init_140 : decode cX0_init 140 = .ok (.bipush 30, 2) := by decide +kernel
theorem dX0_init_142 : decode cX0_init 142 = .ok (.newarray .int, 2) := by decide +kernel
theorem dX0_init_144 : decode cX0_init 144 = .ok (.putfield 56, 3) := by decide +kernel
theorem dX0_init_147 : decode cX0_init 147 = .ok (.aload_n 0, 1) := by decide +kernel
theorem dX0_init_148 : decode cX0_init 148 = .ok (.getfield 35, 3) := by decide +kernel
theorem dX0_init_151 : decode cX0_init 151 = .ok (.bipush 10, 2) := by decide +kernel
theorem dX0_init_153 : decode cX0_init 153 = .ok (.invokestatic 59, 3) := by decide +kernel
theorem dX0_init_156 : decode cX0_init 156 = .ok (.aload_n 0, 1) := by decide +kernel
theorem dX0_init_157 : decode cX0_init 157 = .ok (.invokevirtual 65, 3) := by decide +kernel
theorem dX0_init_160 : decode cX0_init 160 = .ok (.return_, 1) := by decide +kernel
set_option maxRecDepth 20000 in
theorem ggX0_contest_X0_isWithin : GoodIn wsX0_contest wsX0_isWithin := goodIn_r _ [6] (by decide +kernel) (by decide +kernel)
set_option maxRecDepth 20000 in
theorem gX0_contest_X0_isWithin : GoodIn wsX0_contest (va_wsS RX0 68 yX0_isWithin wsX0_isWithin) := goodIn_app (goodIn_of _ (by decide +kernel)) ggX0_contest_X0_isWithin
set_option maxRecDepth 20000 in
theorem ggX0_contest_X0_clearAll : GoodIn wsX0_contest wsX0_clearAll := goodIn_r _ [10, 11, 12, 13, 14, 15, 16, 17, 18, 19, 20, 21, 22, 23, 24, 25, 26, 27, 28, 29, 30, 31, 32, 33, 34, 35] (by decide +kernel) (by decide +kernel)
set_option maxRecDepth 20000 in
theorem gX0_contest_X0_clearAll : GoodIn wsX0_contest (wsV RX0 65 RX0 yX0_clearAll wsX0_clearAll) := goodIn_app (goodIn_of _ (by decide +kernel)) ggX0_contest_X0_clearAll
theorem dX0_contest_0 : decode cX0_contest 0 = .ok (.iload_n 1, 1) := by decide +kernel
theorem dX0_contest_1 : decode cX0_contest 1 = .ok (.iconst 1, 1) := by decide +kernel
theorem dX0_contest_2 : decode cX0_contest 2 = .ok (.bipush 10, 2) := by decide +kernel
theorem dX0_contest_4 : decode cX0_contest 4 = .ok (.invokestatic 68, 3) := by decide +kernel
theorem dX0_contest_7 : decode cX0_contest 7 = .ok (.ifCond .eq 13, 3) := by decide +kernel
theorem dX0_contest_10 : decode cX0_contest 10 = .ok (.iload_n 2, 1) := by decide +kernel
theorem dX0_contest_11 : decode cX0_contest 11 = .ok (.iconst 1, 1) := by decide +kernel
theorem dX0_contest_12 : decode cX0_contest 12 = .ok (.bipush 7, 2) := by decide +kernel
theorem dX0_contest_14 : decode cX0_contest 14 = .ok (.invokestatic 68, 3) := by decide +kernel
theorem dX0_contest_17 : decode cX0_contest 17 = .ok (.ifCond .ne 6, 3) := by decide +kernel
theorem dX0_contest_20 : decode cX0_contest 20 = .ok (.bipush (-102), 2) := by decide +kernel
theorem dX0_contest_22 : decode cX0_contest 22 = .ok (.ireturn, 1) := by decide +kernel
theorem dX0_contest_23 : decode cX0_contest 23 = .ok (.aload_n 0, 1) := by decide +kernel
theorem dX0_contest_24 : decode cX0_contest 24 = .ok (.iload_n 1, 1) := by decide +kernel
theorem dX0_contest_25 : decode cX0_contest 25 = .ok (.putfield 7, 3) := by decide +kernel
theorem dX0_contest_28 : decode cX0_contest 28 = .ok (.aload_n 0, 1) := by decide +kernel
theorem dX0_contest_29 : decode cX0_contest 29 = .ok (.iload_n 2, 1) := by decide +kernel
theorem dX0_contest_30 : decode cX0_contest 30 = .ok (.putfield 13, 3) := by decide +kernel
theorem dX0_contest_33 : decode cX0_contest 33 = .ok (.aload_n 0, 1) := by decide +kernel
theorem dX0_contest_34 : decode cX0_contest 34 = .ok (.invokevirtual 65, 3) := by decide +kernel
theorem dX0_contest_37 : decode cX0_contest 37 = .ok (.iload_n 1, 1) := by decide +kernel
theorem dX0_contest_38 : decode cX0_contest 38 = .ok (.ireturn, 1) := by decide +kernel
set_option maxRecDepth 20000 in
theorem ggX0_mark_X0_isRound : GoodIn wsX0_mark wsX0_isRound := goodIn_r _ [5, 6, 7, 4, 8] (by decide +kernel) (by decide +kernel)
set_option maxRecDepth 20000 in
theorem gX0_mark_X0_isRound : GoodIn wsX0_mark (va_wsS RX0 72 yX0_isRound wsX0_isRound) := goodIn_app (goodIn_of _ (by decide +kernel)) ggX0_mark_X0_isRound
set_option maxRecDepth 20000 in
theorem ggX0_mark_X0_isJuror : GoodIn wsX0_mark wsX0_isJuror := goodIn_r _ [12, 13, 6, 7, 4, 8, 25, 26, 27, 28, 29, 30, 31, 32, 33, 34, 35, 36, 37, 38, 39, 40] (by decide +kernel) (by decide +kernel)
set_option maxRecDepth 20000 in
theorem gX0_mark_X0_isJuror : GoodIn wsX0_mark (wsV RX0 76 RX0 yX0_isJuror wsX0_isJuror) := goodIn_app (goodIn_of _ (by decide +kernel)) ggX0_mark_X0_isJuror
set_option maxRecDepth 20000 in
theorem ggX0_mark_X0_isPlayer : GoodIn wsX0_mark wsX0_isPlayer := goodIn_r _ [17, 18, 6, 7, 4, 8, 25, 26, 27, 28, 29, 30, 31, 32, 33, 34, 35, 36, 37, 38, 39, 40] (by decide +kernel) (by decide +kernel)
set_option maxRecDepth 20000 in
theorem gX0_mark_X0_isPlayer : GoodIn wsX0_mark (wsV RX0 79 RX0 yX0_isPlayer wsX0_isPlayer) := goodIn_app (goodIn_of _ (by decide +kernel)) ggX0_mark_X0_isPlayer
set_option maxRecDepth 20000 in
theorem ggX0_mark_X0_isWithin : GoodIn wsX0_mark wsX0_isWithin := goodIn_r _ [8] (by decide +kernel) (by decide +kernel)
set_option maxRecDepth 20000 in
theorem gX0_mark_X0_isWithin : GoodIn wsX0_mark (va_wsS RX0 68 yX0_isWithin wsX0_isWithin) := goodIn_app (goodIn_of _ (by decide +kernel)) ggX0_mark_X0_isWithin
set_option maxRecDepth 20000 in
theorem ggX0_mark_X0_cellOf : GoodIn wsX0_mark wsX0_cellOf := goodIn_r _ [21] (by decide +kernel) (by decide +kernel)
set_option maxRecDepth 20000 in
theorem gX0_mark_X0_cellOf : GoodIn wsX0_mark (va_wsS RX0 82 yX0_cellOf wsX0_cellOf) := goodIn_app (goodIn_of _ (by decide +kernel)) ggX0_mark_X0_cellOf
set_option maxRecDepth 20000 in
theorem ggX0_mark_X0_replace : GoodIn wsX0_mark wsX0_replace := goodIn_r _ [24] (by decide +kernel) (by decide +kernel)
set_option maxRecDepth 20000 in
theorem gX0_mark_X0_replace : GoodIn wsX0_mark (va_wsS RX0 86 yX0_replace wsX0_replace) := goodIn_app (goodIn_of _ (by decide +kernel)) ggX0_mark_X0_replace
theorem dX0_mark_0 : decode cX0_mark 0 = .ok (.iload_n 1, 1) := by decide +kernel
theorem dX0_mark_1 : decode cX0_mark 1 = .ok (.invokestatic 72, 3) := by decide +kernel
theorem dX0_mark_4 : decode cX0_mark 4 = .ok (.ifCond .eq 19, 3) := by decide +kernel
theorem dX0_mark_7 : decode cX0_mark 7 = .ok (.aload_n 0, 1) := by decide +kernel
theorem dX0_mark_8 : decode cX0_mark 8 = .ok (.iload_n 2, 1) := by decide +kernel
theorem dX0_mark_9 : decode cX0_mark 9 = .ok (.invokevirtual 76, 3) := by decide +kernel
theorem dX0_mark_12 : decode cX0_mark 12 = .ok (.ifCond .eq 11, 3) := by decide +kernel
theorem dX0_mark_15 : decode cX0_mark 15 = .ok (.aload_n 0, 1) := by decide +kernel
theorem dX0_mark_16 : decode cX0_mark 16 = .ok (.iload_n 3, 1) := by decide +kernel
theorem dX0_mark_17 : decode cX0_mark 17 = .ok (.invokevirtual 79, 3) := by decide +kernel
theorem dX0_mark_20 : decode cX0_mark 20 = .ok (.ifCond .ne 6, 3) := by decide +kernel
theorem dX0_mark_23 : decode cX0_mark 23 = .ok (.bipush (-101), 2) := by decide +kernel
theorem dX0_mark_25 : decode cX0_mark 25 = .ok (.ireturn, 1) := by decide +kernel
theorem dX0_mark_26 : decode cX0_mark 26 = .ok (.iload 4, 2) := by decide +kernel
theorem dX0_mark_28 : decode cX0_mark 28 = .ok (.iconst (-1), 1) := by decide +kernel
theorem dX0_mark_29 : decode cX0_mark 29 = .ok (.if_icmp .eq 17, 3) := by decide +kernel
theorem dX0_mark_32 : decode cX0_mark 32 = .ok (.iload 4, 2) := by decide +kernel
theorem dX0_mark_34 : decode cX0_mark 34 = .ok (.iconst 1, 1) := by decide +kernel
theorem dX0_mark_35 : decode cX0_mark 35 = .ok (.bipush 100, 2) := by decide +kernel
theorem dX0_mark_37 : decode cX0_mark 37 = .ok (.invokestatic 68, 3) := by decide +kernel
theorem dX0_mark_40 : decode cX0_mark 40 = .ok (.ifCond .ne 6, 3) := by decide +kernel
theorem dX0_mark_43 : decode cX0_mark 43 = .ok (.bipush (-102), 2) := by decide +kernel
theorem dX0_mark_45 : decode cX0_mark 45 = .ok (.ireturn, 1) := by decide +kernel
theorem dX0_mark_46 : decode cX0_mark 46 = .ok (.aload_n 0, 1) := by decide +kernel
theorem dX0_mark_47 : decode cX0_mark 47 = .ok (.getfield 16, 3) := by decide +kernel
theorem dX0_mark_50 : decode cX0_mark 50 = .ok (.iload_n 1, 1) := by decide +kernel
theorem dX0_mark_51 : decode cX0_mark 51 = .ok (.iload_n 2, 1) := by decide +kernel
theorem dX0_mark_52 : decode cX0_mark 52 = .ok (.iload_n 3, 1) := by decide +kernel
theorem dX0_mark_53 : decode cX0_mark 53 = .ok (.invokestatic 82, 3) := by decide +kernel
theorem dX0_mark_56 : decode cX0_mark 56 = .ok (.iload 4, 2) := by decide +kernel
theorem dX0_mark_58 : decode cX0_mark 58 = .ok (.invokestatic 86, 3) := by decide +kernel
theorem dX0_mark_61 : decode cX0_mark 61 = .ok (.ireturn, 1) := by decide +kernel
set_option maxRecDepth 20000 in
theorem ggX0_yes_X0_isRound : GoodIn wsX0_yes wsX0_isRound := goodIn_r _ [5, 6, 7, 4, 8] (by decide +kernel) (by decide +kernel)
set_option maxRecDepth 20000 in
theorem gX0_yes_X0_isRound : GoodIn wsX0_yes (va_wsS RX0 72 yX0_isRound wsX0_isRound) := goodIn_app (goodIn_of _ (by decide +kernel)) ggX0_yes_X0_isRound
set_option maxRecDepth 20000 in
theorem ggX0_yes_X0_isJuror : GoodIn wsX0_yes wsX0_isJuror := goodIn_r _ [12, 13, 6, 7, 4, 8, 25, 26, 27, 28, 29, 30, 31, 32, 33, 34, 35, 36, 37, 38, 39, 40] (by decide +kernel) (by decide +kernel)
set_option maxRecDepth 20000 in
theorem gX0_yes_X0_isJuror : GoodIn wsX0_yes (wsV RX0 76 RX0 yX0_isJuror wsX0_isJuror) := goodIn_app (goodIn_of _ (by decide +kernel)) ggX0_yes_X0_isJuror
set_option maxRecDepth 20000 in
theorem ggX0_yes_X0_isPlayer : GoodIn wsX0_yes wsX0_isPlayer := goodIn_r _ [17, 18, 6, 7, 4, 8, 25, 26, 27, 28, 29, 30, 31, 32, 33, 34, 35, 36, 37, 38, 39, 40] (by decide +kernel) (by decide +kernel)
set_option maxRecDepth 20000 in
theorem gX0_yes_X0_isPlayer : GoodIn wsX0_yes (wsV RX0 79 RX0 yX0_isPlayer wsX0_isPlayer) := goodIn_app (goodIn_of _ (by decide +kernel)) ggX0_yes_X0_isPlayer
set_option maxRecDepth 20000 in
theorem ggX0_yes_X0_cellOf : GoodIn wsX0_yes wsX0_cellOf := goodIn_r _ [21] (by decide +kernel) (by decide +kernel)
set_option maxRecDepth 20000 in
theorem gX0_yes_X0_cellOf : GoodIn wsX0_yes (va_wsS RX0 82 yX0_cellOf wsX0_cellOf) := goodIn_app (goodIn_of _ (by decide +kernel)) ggX0_yes_X0_cellOf
set_option maxRecDepth 20000 in
theorem ggX0_yes_X0_replace : GoodIn wsX0_yes wsX0_replace := goodIn_r _ [24] (by decide +kernel) (by decide +kernel)
set_option maxRecDepth 20000 in
theorem gX0_yes_X0_replace : GoodIn wsX0_yes (va_wsS RX0 86 yX0_replace wsX0_replace) := goodIn_app (goodIn_of _ (by decide +kernel)) ggX0_yes_X0_replace
theorem dX0_yes_0 : decode cX0_yes 0 = .ok (.iload_n 1, 1) := by decide +kernel
theorem dX0_yes_1 : decode cX0_yes 1 = .ok (.invokestatic 72, 3) := by decide +kernel
theorem dX0_yes_4 : decode cX0_yes 4 = .ok (.ifCond .eq 19, 3) := by decide +kernel
theorem dX0_yes_7 : decode cX0_yes 7 = .ok (.aload_n 0, 1) := by decide +kernel
theorem dX0_yes_8 : decode cX0_yes 8 = .ok (.iload_n 2, 1) := by decide +kernel
theorem dX0_yes_9 : decode cX0_yes 9 = .ok (.invokevirtual 76, 3) := by decide +kernel
theorem dX0_yes_12 : decode cX0_yes 12 = .ok (.ifCond .eq 11, 3) := by decide +kernel
theorem dX0_yes_15 : decode cX0_yes 15 = .ok (.aload_n 0, 1) := by decide +kernel
theorem dX0_yes_16 : decode cX0_yes 16 = .ok (.iload_n 3, 1) := by decide +kernel
theorem dX0_yes_17 : decode cX0_yes 17 = .ok (.invokevirtual 79, 3) := by decide +kernel
theorem dX0_yes_20 : decode cX0_yes 20 = .ok (.ifCond .ne 6, 3) := by decide +kernel
theorem dX0_yes_23 : decode cX0_yes 23 = .ok (.bipush (-101), 2) := by decide +kernel
theorem dX0_yes_25 : decode cX0_yes 25 = .ok (.ireturn, 1) := by decide +kernel
theorem dX0_yes_26 : decode cX0_yes 26 = .ok (.aload_n 0, 1) := by decide +kernel
theorem dX0_yes_27 : decode cX0_yes 27 = .ok (.getfield 20, 3) := by decide +kernel
theorem dX0_yes_30 : decode cX0_yes 30 = .ok (.iload_n 1, 1) := by decide +kernel
theorem dX0_yes_31 : decode cX0_yes 31 = .ok (.iload_n 2, 1) := by decide +kernel
theorem dX0_yes_32 : decode cX0_yes 32 = .ok (.iload_n 3, 1) := by decide +kernel
theorem dX0_yes_33 : decode cX0_yes 33 = .ok (.invokestatic 82, 3) := by decide +kernel
theorem dX0_yes_36 : decode cX0_yes 36 = .ok (.iload 4, 2) := by decide +kernel
theorem dX0_yes_38 : decode cX0_yes 38 = .ok (.ifCond .eq 7, 3) := by decide +kernel
theorem dX0_yes_41 : decode cX0_yes 41 = .ok (.iconst 1, 1) := by decide +kernel
theorem dX0_yes_42 : decode cX0_yes 42 = .ok (.goto 4, 3) := by decide +kernel
theorem dX0_yes_45 : decode cX0_yes 45 = .ok (.iconst 0, 1) := by decide +kernel
theorem dX0_yes_46 : decode cX0_yes 46 = .ok (.invokestatic 86, 3) := by decide +kernel
theorem dX0_yes_49 : decode cX0_yes 49 = .ok (.ireturn, 1) := by decide +kernel
set_option maxRecDepth 20000 in
theorem ggX0_pupil_X0_isJuror : GoodIn wsX0_pupil wsX0_isJuror := goodIn_r _ [6, 7, 8, 9, 5, 10, 22, 23, 24, 25, 26, 27, 28, 29, 30, 31, 32, 33, 34, 35, 36, 37] (by decide +kernel) (by decide +kernel)
set_option maxRecDepth 20000 in
theorem gX0_pupil_X0_isJuror : GoodIn wsX0_pupil (wsV RX0 76 RX0 yX0_isJuror wsX0_isJuror) := goodIn_app (goodIn_of _ (by decide +kernel)) ggX0_pupil_X0_isJuror
set_option maxRecDepth 20000 in
theorem ggX0_pupil_X0_isPlayer : GoodIn wsX0_pupil wsX0_isPlayer := goodIn_r _ [14, 15, 8, 9, 5, 10, 22, 23, 24, 25, 26, 27, 28, 29, 30, 31, 32, 33, 34, 35, 36, 37] (by decide +kernel) (by decide +kernel)
set_option maxRecDepth 20000 in
theorem gX0_pupil_X0_isPlayer : GoodIn wsX0_pupil (wsV RX0 79 RX0 yX0_isPlayer wsX0_isPlayer) := goodIn_app (goodIn_of _ (by decide +kernel)) ggX0_pupil_X0_isPlayer
set_option maxRecDepth 20000 in
theorem ggX0_pupil_X0_pupilCellOf : GoodIn wsX0_pupil wsX0_pupilCellOf := goodIn_r _ [18] (by decide +kernel) (by decide +kernel)
set_option maxRecDepth 20000 in
theorem gX0_pupil_X0_pupilCellOf : GoodIn wsX0_pupil (va_wsS RX0 90 yX0_pupilCellOf wsX0_pupilCellOf) := goodIn_app (goodIn_of _ (by decide +kernel)) ggX0_pupil_X0_pupilCellOf
set_option maxRecDepth 20000 in
theorem ggX0_pupil_X0_replace : GoodIn wsX0_pupil wsX0_replace := goodIn_r _ [21] (by decide +kernel) (by decide +kernel)
set_option maxRecDepth 20000 in
theorem gX0_pupil_X0_replace : GoodIn wsX0_pupil (va_wsS RX0 86 yX0_replace wsX0_replace) := goodIn_app (goodIn_of _ (by decide +kernel)) ggX0_pupil_X0_replace
theorem dX0_pupil_0 : decode cX0_pupil 0 = .ok (.aload_n 0, 1) := by decide +kernel
theorem dX0_pupil_1 : decode cX0_pupil 1 = .ok (.iload_n 1, 1) := by decide +kernel
theorem dX0_pupil_2 : decode cX0_pupil 2 = .ok (.invokevirtual 76, 3) := by decide +kernel
theorem dX0_pupil_5 : decode cX0_pupil 5 = .ok (.ifCond .eq 11, 3) := by decide +kernel
theorem dX0_pupil_8 : decode cX0_pupil 8 = .ok (.aload_n 0, 1) := by decide +kernel
theorem dX0_pupil_9 : decode cX0_pupil 9 = .ok (.iload_n 2, 1) := by decide +kernel
theorem dX0_pupil_10 : decode cX0_pupil 10 = .ok (.invokevirtual 79, 3) := by decide +kernel
theorem dX0_pupil_13 : decode cX0_pupil 13 = .ok (.ifCond .ne 6, 3) := by decide +kernel
theorem dX0_pupil_16 : decode cX0_pupil 16 = .ok (.bipush (-101), 2) := by decide +kernel
theorem dX0_pupil_18 : decode cX0_pupil 18 = .ok (.ireturn, 1) := by decide +kernel
theorem dX0_pupil_19 : decode cX0_pupil 19 = .ok (.aload_n 0, 1) := by decide +kernel
theorem dX0_pupil_20 : decode cX0_pupil 20 = .ok (.getfield 23, 3) := by decide +kernel
theorem dX0_pupil_23 : decode cX0_pupil 23 = .ok (.iload_n 1, 1) := by decide +kernel
theorem dX0_pupil_24 : decode cX0_pupil 24 = .ok (.iload_n 2, 1) := by decide +kernel
theorem dX0_pupil_25 : decode cX0_pupil 25 = .ok (.invokestatic 90, 3) := by decide +kernel
theorem dX0_pupil_28 : decode cX0_pupil 28 = .ok (.iload_n 3, 1) := by decide +kernel
theorem dX0_pupil_29 : decode cX0_pupil 29 = .ok (.ifCond .eq 7, 3) := by decide +kernel
theorem dX0_pupil_32 : decode cX0_pupil 32 = .ok (.iconst 1, 1) := by decide +kernel
theorem dX0_pupil_33 : decode cX0_pupil 33 = .ok (.goto 4, 3) := by decide +kernel
theorem dX0_pupil_36 : decode cX0_pupil 36 = .ok (.iconst 0, 1) := by decide +kernel
theorem dX0_pupil_37 : decode cX0_pupil 37 = .ok (.invokestatic 86, 3) := by decide +kernel
theorem dX0_pupil_40 : decode cX0_pupil 40 = .ok (.ireturn, 1) := by decide +kernel
set_option maxRecDepth 20000 in
theorem ggX0_rule_X0_isWithin : GoodIn wsX0_rule wsX0_isWithin := goodIn_r _ [5] (by decide +kernel) (by decide +kernel)
set_option maxRecDepth 20000 in
theorem gX0_rule_X0_isWithin : GoodIn wsX0_rule (va_wsS RX0 68 yX0_isWithin wsX0_isWithin) := goodIn_app (goodIn_of _ (by decide +kernel)) ggX0_rule_X0_isWithin
set_option maxRecDepth 20000 in
theorem ggX0_rule_X0_replace : GoodIn wsX0_rule wsX0_replace := goodIn_r _ [8] (by decide +kernel) (by decide +kernel)
set_option maxRecDepth 20000 in
theorem gX0_rule_X0_replace : GoodIn wsX0_rule (va_wsS RX0 86 yX0_replace wsX0_replace) := goodIn_app (goodIn_of _ (by decide +kernel)) ggX0_rule_X0_replace
theorem dX0_rule_0 : decode cX0_rule 0 = .ok (.iload_n 1, 1) := by decide +kernel
theorem dX0_rule_1 : decode cX0_rule 1 = .ok (.iconst 0, 1) := by decide +kernel
theorem dX0_rule_2 : decode cX0_rule 2 = .ok (.iconst 1, 1) := by decide +kernel
theorem dX0_rule_3 : decode cX0_rule 3 = .ok (.invokestatic 68, 3) := by decide +kernel
theorem dX0_rule_6 : decode cX0_rule 6 = .ok (.ifCond .ne 6, 3) := by decide +kernel
theorem dX0_rule_9 : decode cX0_rule 9 = .ok (.bipush (-101), 2) := by decide +kernel
theorem dX0_rule_11 : decode cX0_rule 11 = .ok (.ireturn, 1) := by decide +kernel
theorem dX0_rule_12 : decode cX0_rule 12 = .ok (.iload_n 1, 1) := by decide +kernel
theorem dX0_rule_13 : decode cX0_rule 13 = .ok (.ifCond .ne 12, 3) := by decide +kernel
theorem dX0_rule_16 : decode cX0_rule 16 = .ok (.iload_n 2, 1) := by decide +kernel
theorem dX0_rule_17 : decode cX0_rule 17 = .ok (.iconst 0, 1) := by decide +kernel
theorem dX0_rule_18 : decode cX0_rule 18 = .ok (.iconst 2, 1) := by decide +kernel
theorem dX0_rule_19 : decode cX0_rule 19 = .ok (.invokestatic 68, 3) := by decide +kernel
theorem dX0_rule_22 : decode cX0_rule 22 = .ok (.goto 10, 3) := by decide +kernel
theorem dX0_rule_25 : decode cX0_rule 25 = .ok (.iload_n 2, 1) := by decide +kernel
theorem dX0_rule_26 : decode cX0_rule 26 = .ok (.iconst 1, 1) := by decide +kernel
theorem dX0_rule_27 : decode cX0_rule 27 = .ok (.bipush 50, 2) := by decide +kernel
theorem dX0_rule_29 : decode cX0_rule 29 = .ok (.invokestatic 68, 3) := by decide +kernel
theorem dX0_rule_32 : decode cX0_rule 32 = .ok (.istore_n 3, 1) := by decide +kernel
theorem dX0_rule_33 : decode cX0_rule 33 = .ok (.iload_n 3, 1) := by decide +kernel
theorem dX0_rule_34 : decode cX0_rule 34 = .ok (.ifCond .ne 6, 3) := by decide +kernel
theorem dX0_rule_37 : decode cX0_rule 37 = .ok (.bipush (-102), 2) := by decide +kernel
theorem dX0_rule_39 : decode cX0_rule 39 = .ok (.ireturn, 1) := by decide +kernel
theorem dX0_rule_40 : decode cX0_rule 40 = .ok (.aload_n 0, 1) := by decide +kernel
theorem dX0_rule_41 : decode cX0_rule 41 = .ok (.getfield 26, 3) := by decide +kernel
theorem dX0_rule_44 : decode cX0_rule 44 = .ok (.iload_n 1, 1) := by decide +kernel
theorem dX0_rule_45 : decode cX0_rule 45 = .ok (.iload_n 2, 1) := by decide +kernel
theorem dX0_rule_46 : decode cX0_rule 46 = .ok (.invokestatic 86, 3) := by decide +kernel
theorem dX0_rule_49 : decode cX0_rule 49 = .ok (.ireturn, 1) := by decide +kernel
set_option maxRecDepth 20000 in
theorem ggX0_score_X0_isRound : GoodIn wsX0_score wsX0_isRound := goodIn_r _ [4, 5, 6, 3, 7] (by decide +kernel) (by decide +kernel)
set_option maxRecDepth 20000 in
theorem gX0_score_X0_isRound : GoodIn wsX0_score (va_wsS RX0 72 yX0_isRound wsX0_isRound) := goodIn_app (goodIn_of _ (by decide +kernel)) ggX0_score_X0_isRound
set_option maxRecDepth 20000 in
theorem ggX0_score_X0_isPlayer : GoodIn wsX0_score wsX0_isPlayer := goodIn_r _ [11, 12, 5, 6, 3, 7, 89, 90, 91, 92, 93, 94, 95, 96, 97, 98, 99, 100, 101, 102, 103, 104] (by decide +kernel) (by decide +kernel)
set_option maxRecDepth 20000 in
theorem gX0_score_X0_isPlayer : GoodIn wsX0_score (wsV RX0 79 RX0 yX0_isPlayer wsX0_isPlayer) := goodIn_app (goodIn_of _ (by decide +kernel)) ggX0_score_X0_isPlayer
set_option maxRecDepth 20000 in
theorem ggX0_score_X0_isWay : GoodIn wsX0_score wsX0_isWay := goodIn_r _ [15, 5, 6, 3, 7] (by decide +kernel) (by decide +kernel)
set_option maxRecDepth 20000 in
theorem gX0_score_X0_isWay : GoodIn wsX0_score (va_wsS RX0 94 yX0_isWay wsX0_isWay) := goodIn_app (goodIn_of _ (by decide +kernel)) ggX0_score_X0_isWay
set_option maxRecDepth 20000 in
theorem ggX0_score_X0_scoreOf : GoodIn wsX0_score wsX0_scoreOf := goodIn_r _ [19, 20, 21, 22, 23, 24, 25, 3, 26, 27, 28, 29, 30, 31, 32, 33, 34, 35, 36, 37, 38, 39, 40, 41, 42, 43, 44, 45, 46, 47, 48, 49, 50, 51, 52, 53, 54, 55, 56, 57, 58, 59, 60, 61, 62, 63, 64, 65, 12, 66, 67, 68, 69, 70, 71, 72, 73, 74, 75, 76, 77, 78, 79, 80, 81, 82, 83, 84, 85, 86, 87, 88, 89, 90, 91, 92, 93, 94, 95, 96, 97, 98, 99, 100, 101, 102, 103, 104] (by decide +kernel) (by decide +kernel)
set_option maxRecDepth 20000 in
theorem gX0_score_X0_scoreOf : GoodIn wsX0_score (wsV RX0 97 RX0 yX0_scoreOf wsX0_scoreOf) := goodIn_app (goodIn_of _ (by decide +kernel)) ggX0_score_X0_scoreOf
theorem dX0_score_0 : decode cX0_score 0 = .ok (.iload_n 1, 1) := by decide +kernel
theorem dX0_score_1 : decode cX0_score 1 = .ok (.invokestatic 72, 3) := by decide +kernel
theorem dX0_score_4 : decode cX0_score 4 = .ok (.ifCond .eq 11, 3) := by decide +kernel
theorem dX0_score_7 : decode cX0_score 7 = .ok (.aload_n 0, 1) := by decide +kernel
theorem dX0_score_8 : decode cX0_score 8 = .ok (.iload_n 3, 1) := by decide +kernel
theorem dX0_score_9 : decode cX0_score 9 = .ok (.invokevirtual 79, 3) := by decide +kernel
theorem dX0_score_12 : decode cX0_score 12 = .ok (.ifCond .ne 6, 3) := by decide +kernel
theorem dX0_score_15 : decode cX0_score 15 = .ok (.bipush (-101), 2) := by decide +kernel
theorem dX0_score_17 : decode cX0_score 17 = .ok (.ireturn, 1) := by decide +kernel
theorem dX0_score_18 : decode cX0_score 18 = .ok (.iload_n 2, 1) := by decide +kernel
theorem dX0_score_19 : decode cX0_score 19 = .ok (.invokestatic 94, 3) := by decide +kernel
theorem dX0_score_22 : decode cX0_score 22 = .ok (.ifCond .ne 6, 3) := by decide +kernel
theorem dX0_score_25 : decode cX0_score 25 = .ok (.bipush (-102), 2) := by decide +kernel
theorem dX0_score_27 : decode cX0_score 27 = .ok (.ireturn, 1) := by decide +kernel
theorem dX0_score_28 : decode cX0_score 28 = .ok (.aload_n 0, 1) := by decide +kernel
theorem dX0_score_29 : decode cX0_score 29 = .ok (.iload_n 1, 1) := by decide +kernel
theorem dX0_score_30 : decode cX0_score 30 = .ok (.iload_n 2, 1) := by decide +kernel
theorem dX0_score_31 : decode cX0_score 31 = .ok (.iload_n 3, 1) := by decide +kernel
theorem dX0_score_32 : decode cX0_score 32 = .ok (.invokevirtual 97, 3) := by decide +kernel
theorem dX0_score_35 : decode cX0_score 35 = .ok (.ireturn, 1) := by decide +kernel
set_option maxRecDepth 20000 in
theorem ggX0_beats_X0_isRound : GoodIn wsX0_beats wsX0_isRound := goodIn_r _ [4, 5, 6, 3, 7] (by decide +kernel) (by decide +kernel)
set_option maxRecDepth 20000 in
theorem gX0_beats_X0_isRound : GoodIn wsX0_beats (va_wsS RX0 72 yX0_isRound wsX0_isRound) := goodIn_app (goodIn_of _ (by decide +kernel)) ggX0_beats_X0_isRound
set_option maxRecDepth 20000 in
theorem ggX0_beats_X0_isPlayer : GoodIn wsX0_beats wsX0_isPlayer := goodIn_r _ [11, 12, 5, 6, 3, 7, 34, 35, 36, 37, 38, 39, 40, 41, 42, 43, 44, 45, 46, 47, 48, 49] (by decide +kernel) (by decide +kernel)
set_option maxRecDepth 20000 in
theorem gX0_beats_X0_isPlayer : GoodIn wsX0_beats (wsV RX0 79 RX0 yX0_isPlayer wsX0_isPlayer) := goodIn_app (goodIn_of _ (by decide +kernel)) ggX0_beats_X0_isPlayer
set_option maxRecDepth 20000 in
theorem ggX0_beats_X0_duel : GoodIn wsX0_beats wsX0_duel := goodIn_r _ [16, 17, 18, 19, 20, 3, 21, 22, 23, 24, 25, 26, 27, 28, 29, 30, 31, 32, 33, 34, 35, 36, 37, 38, 39, 40, 41, 42, 43, 44, 45, 46, 47, 48, 49] (by decide +kernel) (by decide +kernel)
set_option maxRecDepth 20000 in
theorem gX0_beats_X0_duel : GoodIn wsX0_beats (wsV RX0 100 RX0 yX0_duel wsX0_duel) := goodIn_app (goodIn_of _ (by decide +kernel)) ggX0_beats_X0_duel
theorem dX0_beats_0 : decode cX0_beats 0 = .ok (.iload_n 1, 1) := by decide +kernel
theorem dX0_beats_1 : decode cX0_beats 1 = .ok (.invokestatic 72, 3) := by decide +kernel
theorem dX0_beats_4 : decode cX0_beats 4 = .ok (.ifCond .eq 19, 3) := by decide +kernel
theorem dX0_beats_7 : decode cX0_beats 7 = .ok (.aload_n 0, 1) := by decide +kernel
theorem dX0_beats_8 : decode cX0_beats 8 = .ok (.iload_n 2, 1) := by decide +kernel
theorem dX0_beats_9 : decode cX0_beats 9 = .ok (.invokevirtual 79, 3) := by decide +kernel
theorem dX0_beats_12 : decode cX0_beats 12 = .ok (.ifCond .eq 11, 3) := by decide +kernel
theorem dX0_beats_15 : decode cX0_beats 15 = .ok (.aload_n 0, 1) := by decide +kernel
theorem dX0_beats_16 : decode cX0_beats 16 = .ok (.iload_n 3, 1) := by decide +kernel
theorem dX0_beats_17 : decode cX0_beats 17 = .ok (.invokevirtual 79, 3) := by decide +kernel
theorem dX0_beats_20 : decode cX0_beats 20 = .ok (.ifCond .ne 6, 3) := by decide +kernel
theorem dX0_beats_23 : decode cX0_beats 23 = .ok (.bipush (-101), 2) := by decide +kernel
theorem dX0_beats_25 : decode cX0_beats 25 = .ok (.ireturn, 1) := by decide +kernel
theorem dX0_beats_26 : decode cX0_beats 26 = .ok (.aload_n 0, 1) := by decide +kernel
theorem dX0_beats_27 : decode cX0_beats 27 = .ok (.iload_n 1, 1) := by decide +kernel
theorem dX0_beats_28 : decode cX0_beats 28 = .ok (.iload_n 2, 1) := by decide +kernel
theorem dX0_beats_29 : decode cX0_beats 29 = .ok (.iload_n 3, 1) := by decide +kernel
theorem dX0_beats_30 : decode cX0_beats 30 = .ok (.invokevirtual 100, 3) := by decide +kernel
theorem dX0_beats_33 : decode cX0_beats 33 = .ok (.ireturn, 1) := by decide +kernel
set_option maxRecDepth 20000 in
theorem ggX0_place_X0_isRound : GoodIn wsX0_place wsX0_isRound := goodIn_r _ [5, 6, 7, 4, 8] (by decide +kernel) (by decide +kernel)
set_option maxRecDepth 20000 in
theorem gX0_place_X0_isRound : GoodIn wsX0_place (va_wsS RX0 72 yX0_isRound wsX0_isRound) := goodIn_app (goodIn_of _ (by decide +kernel)) ggX0_place_X0_isRound
set_option maxRecDepth 20000 in
theorem ggX0_place_X0_isPlayer : GoodIn wsX0_place wsX0_isPlayer := goodIn_r _ [12, 13, 6, 7, 4, 8, 98, 99, 100, 101, 102, 103, 104, 105, 106, 107, 108, 109, 110, 111, 112, 113] (by decide +kernel) (by decide +kernel)
set_option maxRecDepth 20000 in
theorem gX0_place_X0_isPlayer : GoodIn wsX0_place (wsV RX0 79 RX0 yX0_isPlayer wsX0_isPlayer) := goodIn_app (goodIn_of _ (by decide +kernel)) ggX0_place_X0_isPlayer
set_option maxRecDepth 20000 in
theorem ggX0_place_X0_isWay : GoodIn wsX0_place wsX0_isWay := goodIn_r _ [16, 6, 7, 4, 8] (by decide +kernel) (by decide +kernel)
set_option maxRecDepth 20000 in
theorem gX0_place_X0_isWay : GoodIn wsX0_place (va_wsS RX0 94 yX0_isWay wsX0_isWay) := goodIn_app (goodIn_of _ (by decide +kernel)) ggX0_place_X0_isWay
set_option maxRecDepth 20000 in
theorem ggX0_place_X0_fillScores : GoodIn wsX0_place wsX0_fillScores := goodIn_r _ [20, 13, 1, 21, 22, 23, 4, 24, 25, 26, 27, 28, 29, 30, 31, 32, 33, 34, 35, 36, 37, 38, 39, 40, 41, 42, 43, 44, 45, 46, 47, 48, 49, 50, 51, 52, 53, 54, 55, 56, 57, 58, 59, 60, 61, 62, 63, 64, 65, 66, 67, 68, 69, 70, 71, 72, 73, 74, 75, 76, 77, 78, 79, 80, 81, 82, 83, 84, 85, 86, 87, 88, 89, 90, 91, 92, 93, 98, 99, 100, 101, 102, 103, 104, 105, 106, 107, 108, 109, 110, 111, 112, 113] (by decide +kernel) (by decide +kernel)
set_option maxRecDepth 20000 in
theorem gX0_place_X0_fillScores : GoodIn wsX0_place (wsV RX0 103 RX0 yX0_fillScores wsX0_fillScores) := goodIn_app (goodIn_of _ (by decide +kernel)) ggX0_place_X0_fillScores
set_option maxRecDepth 20000 in
theorem ggX0_place_X0_placeIn : GoodIn wsX0_place wsX0_placeIn := goodIn_r _ [97, 13, 98, 99, 100, 101, 102, 103, 104, 105, 106, 107, 108, 109, 110, 111, 112, 113] (by decide +kernel) (by decide +kernel)
set_option maxRecDepth 20000 in
theorem gX0_place_X0_placeIn : GoodIn wsX0_place (wsV RX0 107 RX0 yX0_placeIn wsX0_placeIn) := goodIn_app (goodIn_of _ (by decide +kernel)) ggX0_place_X0_placeIn
theorem dX0_place_0 : decode cX0_place 0 = .ok (.iload_n 1, 1) := by decide +kernel
theorem dX0_place_1 : decode cX0_place 1 = .ok (.invokestatic 72, 3) := by decide +kernel
theorem dX0_place_4 : decode cX0_place 4 = .ok (.ifCond .eq 11, 3) := by decide +kernel
theorem dX0_place_7 : decode cX0_place 7 = .ok (.aload_n 0, 1) := by decide +kernel
theorem dX0_place_8 : decode cX0_place 8 = .ok (.iload_n 3, 1) := by decide +kernel
theorem dX0_place_9 : decode cX0_place 9 = .ok (.invokevirtual 79, 3) := by decide +kernel
theorem dX0_place_12 : decode cX0_place 12 = .ok (.ifCond .ne 6, 3) := by decide +kernel
theorem dX0_place_15 : decode cX0_place 15 = .ok (.bipush (-101), 2) := by decide +kernel
theorem dX0_place_17 : decode cX0_place 17 = .ok (.ireturn, 1) := by decide +kernel
theorem dX0_place_18 : decode cX0_place 18 = .ok (.iload_n 2, 1) := by decide +kernel
theorem dX0_place_19 : decode cX0_place 19 = .ok (.invokestatic 94, 3) := by decide +kernel
theorem dX0_place_22 : decode cX0_place 22 = .ok (.ifCond .ne 6, 3) := by decide +kernel
theorem dX0_place_25 : decode cX0_place 25 = .ok (.bipush (-102), 2) := by decide +kernel
theorem dX0_place_27 : decode cX0_place 27 = .ok (.ireturn, 1) := by decide +kernel
theorem dX0_place_28 : decode cX0_place 28 = .ok (.aload_n 0, 1) := by decide +kernel
theorem dX0_place_29 : decode cX0_place 29 = .ok (.iload_n 1, 1) := by decide +kernel
theorem dX0_place_30 : decode cX0_place 30 = .ok (.iload_n 2, 1) := by decide +kernel
theorem dX0_place_31 : decode cX0_place 31 = .ok (.invokevirtual 103, 3) := by decide +kernel
theorem dX0_place_34 : decode cX0_place 34 = .ok (.aload_n 0, 1) := by decide +kernel
theorem dX0_place_35 : decode cX0_place 35 = .ok (.aload_n 0, 1) := by decide +kernel
theorem dX0_place_36 : decode cX0_place 36 = .ok (.getfield 50, 3) := by decide +kernel
theorem dX0_place_39 : decode cX0_place 39 = .ok (.iload_n 3, 1) := by decide +kernel
theorem dX0_place_40 : decode cX0_place 40 = .ok (.invokevirtual 107, 3) := by decide +kernel
theorem dX0_place_43 : decode cX0_place 43 = .ok (.ireturn, 1) := by decide +kernel
set_option maxRecDepth 20000 in
theorem ggX0_passed_X0_isRound : GoodIn wsX0_passed wsX0_isRound := goodIn_r _ [4, 5, 6, 3, 7] (by decide +kernel) (by decide +kernel)
set_option maxRecDepth 20000 in
theorem gX0_passed_X0_isRound : GoodIn wsX0_passed (va_wsS RX0 72 yX0_isRound wsX0_isRound) := goodIn_app (goodIn_of _ (by decide +kernel)) ggX0_passed_X0_isRound
set_option maxRecDepth 20000 in
theorem ggX0_passed_X0_isWay : GoodIn wsX0_passed wsX0_isWay := goodIn_r _ [10, 5, 6, 3, 7] (by decide +kernel) (by decide +kernel)
set_option maxRecDepth 20000 in
theorem gX0_passed_X0_isWay : GoodIn wsX0_passed (va_wsS RX0 94 yX0_isWay wsX0_isWay) := goodIn_app (goodIn_of _ (by decide +kernel)) ggX0_passed_X0_isWay
set_option maxRecDepth 20000 in
theorem ggX0_passed_X0_isLimit : GoodIn wsX0_passed wsX0_isLimit := goodIn_r _ [13, 5, 6, 3, 7] (by decide +kernel) (by decide +kernel)
set_option maxRecDepth 20000 in
theorem gX0_passed_X0_isLimit : GoodIn wsX0_passed (va_wsS RX0 111 yX0_isLimit wsX0_isLimit) := goodIn_app (goodIn_of _ (by decide +kernel)) ggX0_passed_X0_isLimit
set_option maxRecDepth 20000 in
theorem ggX0_passed_X0_passedBits : GoodIn wsX0_passed wsX0_passedBits := goodIn_r _ [17, 18, 19, 20, 21, 22, 3, 23, 24, 25, 26, 27, 28, 29, 30, 31, 32, 33, 34, 35, 36, 37, 38, 39, 40, 41, 42, 43, 44, 45, 46, 47, 48, 49, 50, 51, 52, 53, 54, 55, 56, 57, 58, 59, 60, 61, 62, 63, 64, 65, 66, 67, 68, 69, 70, 71, 72, 73, 74, 75, 76, 77, 78, 79, 80, 81, 82, 83, 84, 85, 86, 87, 88, 89, 90, 91, 92, 93, 94, 95, 96, 97, 98, 99, 100, 101, 102, 103, 104, 105, 106, 107, 108, 109, 110, 111, 112, 113, 114, 115, 116, 117, 118, 119, 120] (by decide +kernel) (by decide +kernel)
set_option maxRecDepth 20000 in
theorem gX0_passed_X0_passedBits : GoodIn wsX0_passed (wsV RX0 114 RX0 yX0_passedBits wsX0_passedBits) := goodIn_app (goodIn_of _ (by decide +kernel)) ggX0_passed_X0_passedBits
theorem dX0_passed_0 : decode cX0_passed 0 = .ok (.iload_n 1, 1) := by decide +kernel
theorem dX0_passed_1 : decode cX0_passed 1 = .ok (.invokestatic 72, 3) := by decide +kernel
theorem dX0_passed_4 : decode cX0_passed 4 = .ok (.ifCond .ne 6, 3) := by decide +kernel
theorem dX0_passed_7 : decode cX0_passed 7 = .ok (.bipush (-101), 2) := by decide +kernel
theorem dX0_passed_9 : decode cX0_passed 9 = .ok (.ireturn, 1) := by decide +kernel
theorem dX0_passed_10 : decode cX0_passed 10 = .ok (.iload_n 2, 1) := by decide +kernel
theorem dX0_passed_11 : decode cX0_passed 11 = .ok (.invokestatic 94, 3) := by decide +kernel
theorem dX0_passed_14 : decode cX0_passed 14 = .ok (.ifCond .eq 10, 3) := by decide +kernel
theorem dX0_passed_17 : decode cX0_passed 17 = .ok (.iload_n 3, 1) := by decide +kernel
theorem dX0_passed_18 : decode cX0_passed 18 = .ok (.invokestatic 111, 3) := by decide +kernel
theorem dX0_passed_21 : decode cX0_passed 21 = .ok (.ifCond .ne 6, 3) := by decide +kernel
theorem dX0_passed_24 : decode cX0_passed 24 = .ok (.bipush (-102), 2) := by decide +kernel
theorem dX0_passed_26 : decode cX0_passed 26 = .ok (.ireturn, 1) := by decide +kernel
theorem dX0_passed_27 : decode cX0_passed 27 = .ok (.aload_n 0, 1) := by decide +kernel
theorem dX0_passed_28 : decode cX0_passed 28 = .ok (.iload_n 1, 1) := by decide +kernel
theorem dX0_passed_29 : decode cX0_passed 29 = .ok (.iload_n 2, 1) := by decide +kernel
theorem dX0_passed_30 : decode cX0_passed 30 = .ok (.iload_n 3, 1) := by decide +kernel
theorem dX0_passed_31 : decode cX0_passed 31 = .ok (.invokevirtual 114, 3) := by decide +kernel
theorem dX0_passed_34 : decode cX0_passed 34 = .ok (.ireturn, 1) := by decide +kernel
set_option maxRecDepth 20000 in
theorem ggX0_differ_X0_isRound : GoodIn wsX0_differ wsX0_isRound := goodIn_r _ [4, 5, 6, 3, 7] (by decide +kernel) (by decide +kernel)
set_option maxRecDepth 20000 in
theorem gX0_differ_X0_isRound : GoodIn wsX0_differ (va_wsS RX0 72 yX0_isRound wsX0_isRound) := goodIn_app (goodIn_of _ (by decide +kernel)) ggX0_differ_X0_isRound
set_option maxRecDepth 20000 in
theorem ggX0_differ_X0_isWay : GoodIn wsX0_differ wsX0_isWay := goodIn_r _ [10, 5, 6, 3, 7] (by decide +kernel) (by decide +kernel)
set_option maxRecDepth 20000 in
theorem gX0_differ_X0_isWay : GoodIn wsX0_differ (va_wsS RX0 94 yX0_isWay wsX0_isWay) := goodIn_app (goodIn_of _ (by decide +kernel)) ggX0_differ_X0_isWay
set_option maxRecDepth 20000 in
theorem ggX0_differ_X0_isLimit : GoodIn wsX0_differ wsX0_isLimit := goodIn_r _ [13, 5, 6, 3, 7] (by decide +kernel) (by decide +kernel)
set_option maxRecDepth 20000 in
theorem gX0_differ_X0_isLimit : GoodIn wsX0_differ (va_wsS RX0 111 yX0_isLimit wsX0_isLimit) := goodIn_app (goodIn_of _ (by decide +kernel)) ggX0_differ_X0_isLimit
set_option maxRecDepth 20000 in
theorem ggX0_differ_X0_passedBits : GoodIn wsX0_differ wsX0_passedBits := goodIn_r _ [17, 18, 19, 20, 21, 22, 3, 23, 24, 25, 26, 27, 28, 29, 30, 31, 32, 33, 34, 35, 36, 37, 38, 39, 40, 41, 42, 43, 44, 45, 46, 47, 48, 49, 50, 51, 52, 53, 54, 55, 56, 57, 58, 59, 60, 61, 62, 63, 64, 65, 66, 67, 68, 69, 70, 71, 72, 73, 74, 75, 76, 77, 78, 79, 80, 81, 82, 83, 84, 85, 86, 87, 88, 89, 90, 91, 92, 93, 94, 95, 96, 97, 98, 99, 100, 101, 102, 103, 104, 111, 112, 113, 114, 115, 116, 117, 118, 119, 120, 121, 122, 123, 124, 125, 126] (by decide +kernel) (by decide +kernel)
set_option maxRecDepth 20000 in
theorem gX0_differ_X0_passedBits : GoodIn wsX0_differ (wsV RX0 114 RX0 yX0_passedBits wsX0_passedBits) := goodIn_app (goodIn_of _ (by decide +kernel)) ggX0_differ_X0_passedBits
set_option maxRecDepth 20000 in
theorem ggX0_differ_J6_bitCount_0f7a4 : GoodIn wsX0_differ wsJ6_bitCount_0f7a4 := goodIn_r _ [107, 108, 109, 110] (by decide +kernel) (by decide +kernel)
set_option maxRecDepth 20000 in
theorem gX0_differ_J6_bitCount_0f7a4 : GoodIn wsX0_differ (va_wsS RX0 117 yJ6_bitCount_0f7a4 wsJ6_bitCount_0f7a4) := goodIn_app (goodIn_of _ (by decide +kernel)) ggX0_differ_J6_bitCount_0f7a4
theorem dX0_differ_0 : decode cX0_differ 0 = .ok (.iload_n 1, 1) := by decide +kernel
theorem dX0_differ_1 : decode cX0_differ 1 = .ok (.invokestatic 72, 3) := by decide +kernel
theorem dX0_differ_4 : decode cX0_differ 4 = .ok (.ifCond .ne 6, 3) := by decide +kernel
theorem dX0_differ_7 : decode cX0_differ 7 = .ok (.bipush (-101), 2) := by decide +kernel
theorem dX0_differ_9 : decode cX0_differ 9 = .ok (.ireturn, 1) := by decide +kernel
theorem dX0_differ_10 : decode cX0_differ 10 = .ok (.iload_n 2, 1) := by decide +kernel
theorem dX0_differ_11 : decode cX0_differ 11 = .ok (.invokestatic 94, 3) := by decide +kernel
theorem dX0_differ_14 : decode cX0_differ 14 = .ok (.ifCond .eq 18, 3) := by decide +kernel
theorem dX0_differ_17 : decode cX0_differ 17 = .ok (.iload_n 3, 1) := by decide +kernel
theorem dX0_differ_18 : decode cX0_differ 18 = .ok (.invokestatic 94, 3) := by decide +kernel
theorem dX0_differ_21 : decode cX0_differ 21 = .ok (.ifCond .eq 11, 3) := by decide +kernel
theorem dX0_differ_24 : decode cX0_differ 24 = .ok (.iload 4, 2) := by decide +kernel
theorem dX0_differ_26 : decode cX0_differ 26 = .ok (.invokestatic 111, 3) := by decide +kernel
theorem dX0_differ_29 : decode cX0_differ 29 = .ok (.ifCond .ne 6, 3) := by decide +kernel
theorem dX0_differ_32 : decode cX0_differ 32 = .ok (.bipush (-102), 2) := by decide +kernel
theorem dX0_differ_34 : decode cX0_differ 34 = .ok (.ireturn, 1) := by decide +kernel
theorem dX0_differ_35 : decode cX0_differ 35 = .ok (.aload_n 0, 1) := by decide +kernel
theorem dX0_differ_36 : decode cX0_differ 36 = .ok (.iload_n 1, 1) := by decide +kernel
theorem dX0_differ_37 : decode cX0_differ 37 = .ok (.iload_n 2, 1) := by decide +kernel
theorem dX0_differ_38 : decode cX0_differ 38 = .ok (.iload 4, 2) := by decide +kernel
theorem dX0_differ_40 : decode cX0_differ 40 = .ok (.invokevirtual 114, 3) := by decide +kernel
theorem dX0_differ_43 : decode cX0_differ 43 = .ok (.aload_n 0, 1) := by decide +kernel
theorem dX0_differ_44 : decode cX0_differ 44 = .ok (.iload_n 1, 1) := by decide +kernel
theorem dX0_differ_45 : decode cX0_differ 45 = .ok (.iload_n 3, 1) := by decide +kernel
theorem dX0_differ_46 : decode cX0_differ 46 = .ok (.iload 4, 2) := by decide +kernel
theorem dX0_differ_48 : decode cX0_differ 48 = .ok (.invokevirtual 114, 3) := by decide +kernel
theorem dX0_differ_51 : decode cX0_differ 51 = .ok (.ixor, 1) := by decide +kernel
theorem dX0_differ_52 : decode cX0_differ 52 = .ok (.invokestatic 117, 3) := by decide +kernel
theorem dX0_differ_55 : decode cX0_differ 55 = .ok (.ireturn, 1) := by decide +kernel
set_option maxRecDepth 20000 in
theorem ggX0_reach_X0_isRound : GoodIn wsX0_reach wsX0_isRound := goodIn_r _ [5, 6, 7, 4, 8] (by decide +kernel) (by decide +kernel)
set_option maxRecDepth 20000 in
theorem gX0_reach_X0_isRound : GoodIn wsX0_reach (va_wsS RX0 72 yX0_isRound wsX0_isRound) := goodIn_app (goodIn_of _ (by decide +kernel)) ggX0_reach_X0_isRound
set_option maxRecDepth 20000 in
theorem ggX0_reach_X0_isJuror : GoodIn wsX0_reach wsX0_isJuror := goodIn_r _ [12, 13, 6, 7, 4, 8, 110, 111, 112, 113, 114, 115, 116, 117, 118, 119, 120, 121, 122, 123, 124, 125] (by decide +kernel) (by decide +kernel)
set_option maxRecDepth 20000 in
theorem gX0_reach_X0_isJuror : GoodIn wsX0_reach (wsV RX0 76 RX0 yX0_isJuror wsX0_isJuror) := goodIn_app (goodIn_of _ (by decide +kernel)) ggX0_reach_X0_isJuror
set_option maxRecDepth 20000 in
theorem ggX0_reach_X0_isPlayer : GoodIn wsX0_reach wsX0_isPlayer := goodIn_r _ [17, 18, 6, 7, 4, 8, 110, 111, 112, 113, 114, 115, 116, 117, 118, 119, 120, 121, 122, 123, 124, 125] (by decide +kernel) (by decide +kernel)
set_option maxRecDepth 20000 in
theorem gX0_reach_X0_isPlayer : GoodIn wsX0_reach (wsV RX0 79 RX0 yX0_isPlayer wsX0_isPlayer) := goodIn_app (goodIn_of _ (by decide +kernel)) ggX0_reach_X0_isPlayer
set_option maxRecDepth 20000 in
theorem ggX0_reach_X0_isWay : GoodIn wsX0_reach wsX0_isWay := goodIn_r _ [21, 6, 7, 4, 8] (by decide +kernel) (by decide +kernel)
set_option maxRecDepth 20000 in
theorem gX0_reach_X0_isWay : GoodIn wsX0_reach (va_wsS RX0 94 yX0_isWay wsX0_isWay) := goodIn_app (goodIn_of _ (by decide +kernel)) ggX0_reach_X0_isWay
set_option maxRecDepth 20000 in
theorem ggX0_reach_X0_isWithin : GoodIn wsX0_reach wsX0_isWithin := goodIn_r _ [8] (by decide +kernel) (by decide +kernel)
set_option maxRecDepth 20000 in
theorem gX0_reach_X0_isWithin : GoodIn wsX0_reach (va_wsS RX0 68 yX0_isWithin wsX0_isWithin) := goodIn_app (goodIn_of _ (by decide +kernel)) ggX0_reach_X0_isWithin
set_option maxRecDepth 20000 in
theorem ggX0_reach_X0_isPupil : GoodIn wsX0_reach wsX0_isPupil := goodIn_r _ [25, 26, 27, 28, 4, 29, 110, 111, 112, 113, 114, 115, 116, 117, 118, 119, 120, 121, 122, 123, 124, 125] (by decide +kernel) (by decide +kernel)
set_option maxRecDepth 20000 in
theorem gX0_reach_X0_isPupil : GoodIn wsX0_reach (wsV RX0 123 RX0 yX0_isPupil wsX0_isPupil) := goodIn_app (goodIn_of _ (by decide +kernel)) ggX0_reach_X0_isPupil
set_option maxRecDepth 20000 in
theorem ggX0_reach_X0_fillScoresIf : GoodIn wsX0_reach wsX0_fillScoresIf := goodIn_r _ [33, 34, 35, 36, 37, 4, 38, 39, 40, 41, 42, 18, 1, 43, 44, 45, 46, 47, 48, 49, 50, 51, 52, 53, 13, 54, 55, 56, 57, 26, 27, 28, 29, 58, 59, 60, 61, 62, 63, 64, 65, 66, 67, 68, 69, 70, 71, 72, 73, 74, 75, 76, 77, 78, 79, 80, 81, 82, 83, 84, 85, 86, 87, 88, 89, 90, 91, 92, 93, 94, 95, 96, 97, 98, 99, 100, 101, 102, 103, 104, 105, 110, 111, 112, 113, 114, 115, 116, 117, 118, 119, 120, 121, 122, 123, 124, 125] (by decide +kernel) (by decide +kernel)
set_option maxRecDepth 20000 in
theorem gX0_reach_X0_fillScoresIf : GoodIn wsX0_reach (wsV RX0 127 RX0 yX0_fillScoresIf wsX0_fillScoresIf) := goodIn_app (goodIn_of _ (by decide +kernel)) ggX0_reach_X0_fillScoresIf
set_option maxRecDepth 20000 in
theorem ggX0_reach_X0_placeIn : GoodIn wsX0_reach wsX0_placeIn := goodIn_r _ [109, 18, 110, 111, 112, 113, 114, 115, 116, 117, 118, 119, 120, 121, 122, 123, 124, 125] (by decide +kernel) (by decide +kernel)
set_option maxRecDepth 20000 in
theorem gX0_reach_X0_placeIn : GoodIn wsX0_reach (wsV RX0 107 RX0 yX0_placeIn wsX0_placeIn) := goodIn_app (goodIn_of _ (by decide +kernel)) ggX0_reach_X0_placeIn
theorem dX0_reach_0 : decode cX0_reach 0 = .ok (.iload_n 1, 1) := by decide +kernel
theorem dX0_reach_1 : decode cX0_reach 1 = .ok (.invokestatic 72, 3) := by decide +kernel
theorem dX0_reach_4 : decode cX0_reach 4 = .ok (.ifCond .eq 20, 3) := by decide +kernel
theorem dX0_reach_7 : decode cX0_reach 7 = .ok (.aload_n 0, 1) := by decide +kernel
theorem dX0_reach_8 : decode cX0_reach 8 = .ok (.iload_n 3, 1) := by decide +kernel
theorem dX0_reach_9 : decode cX0_reach 9 = .ok (.invokevirtual 76, 3) := by decide +kernel
theorem dX0_reach_12 : decode cX0_reach 12 = .ok (.ifCond .eq 12, 3) := by decide +kernel
theorem dX0_reach_15 : decode cX0_reach 15 = .ok (.aload_n 0, 1) := by decide +kernel
theorem dX0_reach_16 : decode cX0_reach 16 = .ok (.iload 4, 2) := by decide +kernel
theorem dX0_reach_18 : decode cX0_reach 18 = .ok (.invokevirtual 79, 3) := by decide +kernel
theorem dX0_reach_21 : decode cX0_reach 21 = .ok (.ifCond .ne 6, 3) := by decide +kernel
theorem dX0_reach_24 : decode cX0_reach 24 = .ok (.bipush (-101), 2) := by decide +kernel
theorem dX0_reach_26 : decode cX0_reach 26 = .ok (.ireturn, 1) := by decide +kernel
theorem dX0_reach_27 : decode cX0_reach 27 = .ok (.iload_n 2, 1) := by decide +kernel
theorem dX0_reach_28 : decode cX0_reach 28 = .ok (.invokestatic 94, 3) := by decide +kernel
theorem dX0_reach_31 : decode cX0_reach 31 = .ok (.ifCond .eq 13, 3) := by decide +kernel
theorem dX0_reach_34 : decode cX0_reach 34 = .ok (.iload 5, 2) := by decide +kernel
theorem dX0_reach_36 : decode cX0_reach 36 = .ok (.iconst 0, 1) := by decide +kernel
theorem dX0_reach_37 : decode cX0_reach 37 = .ok (.iconst 1, 1) := by decide +kernel
theorem dX0_reach_38 : decode cX0_reach 38 = .ok (.invokestatic 68, 3) := by decide +kernel
theorem dX0_reach_41 : decode cX0_reach 41 = .ok (.ifCond .ne 6, 3) := by decide +kernel
theorem dX0_reach_44 : decode cX0_reach 44 = .ok (.bipush (-102), 2) := by decide +kernel
theorem dX0_reach_46 : decode cX0_reach 46 = .ok (.ireturn, 1) := by decide +kernel
theorem dX0_reach_47 : decode cX0_reach 47 = .ok (.aload_n 0, 1) := by decide +kernel
theorem dX0_reach_48 : decode cX0_reach 48 = .ok (.iload_n 3, 1) := by decide +kernel
theorem dX0_reach_49 : decode cX0_reach 49 = .ok (.iload 4, 2) := by decide +kernel
theorem dX0_reach_51 : decode cX0_reach 51 = .ok (.invokevirtual 123, 3) := by decide +kernel
theorem dX0_reach_54 : decode cX0_reach 54 = .ok (.ifCond .eq 6, 3) := by decide +kernel
theorem dX0_reach_57 : decode cX0_reach 57 = .ok (.bipush (-103), 2) := by decide +kernel
theorem dX0_reach_59 : decode cX0_reach 59 = .ok (.ireturn, 1) := by decide +kernel
theorem dX0_reach_60 : decode cX0_reach 60 = .ok (.aload_n 0, 1) := by decide +kernel
theorem dX0_reach_61 : decode cX0_reach 61 = .ok (.iload_n 1, 1) := by decide +kernel
theorem dX0_reach_62 : decode cX0_reach 62 = .ok (.iload_n 2, 1) := by decide +kernel
theorem dX0_reach_63 : decode cX0_reach 63 = .ok (.iload_n 3, 1) := by decide +kernel
theorem dX0_reach_64 : decode cX0_reach 64 = .ok (.iload 4, 2) := by decide +kernel
theorem dX0_reach_66 : decode cX0_reach 66 = .ok (.iload 5, 2) := by decide +kernel
theorem dX0_reach_68 : decode cX0_reach 68 = .ok (.ifCond .ne 7, 3) := by decide +kernel
theorem dX0_reach_71 : decode cX0_reach 71 = .ok (.iconst 1, 1) := by decide +kernel
theorem dX0_reach_72 : decode cX0_reach 72 = .ok (.goto 4, 3) := by decide +kernel
theorem dX0_reach_75 : decode cX0_reach 75 = .ok (.iconst 0, 1) := by decide +kernel
theorem dX0_reach_76 : decode cX0_reach 76 = .ok (.invokevirtual 127, 3) := by decide +kernel
theorem dX0_reach_79 : decode cX0_reach 79 = .ok (.aload_n 0, 1) := by decide +kernel
theorem dX0_reach_80 : decode cX0_reach 80 = .ok (.aload_n 0, 1) := by decide +kernel
theorem dX0_reach_81 : decode cX0_reach 81 = .ok (.getfield 50, 3) := by decide +kernel
theorem dX0_reach_84 : decode cX0_reach 84 = .ok (.iload 4, 2) := by decide +kernel
theorem dX0_reach_86 : decode cX0_reach 86 = .ok (.invokevirtual 107, 3) := by decide +kernel
theorem dX0_reach_89 : decode cX0_reach 89 = .ok (.ireturn, 1) := by decide +kernel
set_option maxRecDepth 20000 in
theorem ggX0_sway_X0_isRound : GoodIn wsX0_sway wsX0_isRound := goodIn_r _ [6, 7, 8, 5, 9] (by decide +kernel) (by decide +kernel)
set_option maxRecDepth 20000 in
theorem gX0_sway_X0_isRound : GoodIn wsX0_sway (va_wsS RX0 72 yX0_isRound wsX0_isRound) := goodIn_app (goodIn_of _ (by decide +kernel)) ggX0_sway_X0_isRound
set_option maxRecDepth 20000 in
theorem ggX0_sway_X0_isJuror : GoodIn wsX0_sway wsX0_isJuror := goodIn_r _ [13, 14, 7, 8, 5, 9, 117, 118, 119, 120, 121, 122, 123, 124, 125, 126, 127, 128, 129, 130, 131, 132] (by decide +kernel) (by decide +kernel)
set_option maxRecDepth 20000 in
theorem gX0_sway_X0_isJuror : GoodIn wsX0_sway (wsV RX0 76 RX0 yX0_isJuror wsX0_isJuror) := goodIn_app (goodIn_of _ (by decide +kernel)) ggX0_sway_X0_isJuror
set_option maxRecDepth 20000 in
theorem ggX0_sway_X0_isWay : GoodIn wsX0_sway wsX0_isWay := goodIn_r _ [17, 7, 8, 5, 9] (by decide +kernel) (by decide +kernel)
set_option maxRecDepth 20000 in
theorem gX0_sway_X0_isWay : GoodIn wsX0_sway (va_wsS RX0 94 yX0_isWay wsX0_isWay) := goodIn_app (goodIn_of _ (by decide +kernel)) ggX0_sway_X0_isWay
set_option maxRecDepth 20000 in
theorem ggX0_sway_X0_isLimit : GoodIn wsX0_sway wsX0_isLimit := goodIn_r _ [20, 7, 8, 5, 9] (by decide +kernel) (by decide +kernel)
set_option maxRecDepth 20000 in
theorem gX0_sway_X0_isLimit : GoodIn wsX0_sway (va_wsS RX0 111 yX0_isLimit wsX0_isLimit) := goodIn_app (goodIn_of _ (by decide +kernel)) ggX0_sway_X0_isLimit
set_option maxRecDepth 20000 in
theorem ggX0_sway_X0_passedBits : GoodIn wsX0_sway wsX0_passedBits := goodIn_r _ [24, 1, 2, 25, 26, 27, 5, 28, 29, 30, 31, 32, 33, 34, 35, 36, 37, 38, 39, 14, 40, 41, 42, 43, 44, 45, 46, 47, 48, 49, 50, 51, 52, 53, 54, 55, 56, 57, 58, 59, 60, 61, 62, 63, 64, 65, 66, 67, 68, 69, 70, 71, 72, 73, 74, 75, 76, 77, 78, 79, 80, 81, 82, 83, 84, 85, 86, 87, 88, 89, 90, 91, 92, 93, 94, 95, 96, 97, 98, 99, 100, 101, 102, 103, 104, 105, 106, 107, 108, 117, 118, 119, 120, 121, 122, 123, 124, 125, 126, 127, 128, 129, 130, 131, 132] (by decide +kernel) (by decide +kernel)
set_option maxRecDepth 20000 in
theorem gX0_sway_X0_passedBits : GoodIn wsX0_sway (wsV RX0 114 RX0 yX0_passedBits wsX0_passedBits) := goodIn_app (goodIn_of _ (by decide +kernel)) ggX0_sway_X0_passedBits
set_option maxRecDepth 20000 in
theorem ggX0_sway_X0_isPupil : GoodIn wsX0_sway wsX0_isPupil := goodIn_r _ [112, 44, 46, 47, 5, 48, 117, 118, 119, 120, 121, 122, 123, 124, 125, 126, 127, 128, 129, 130, 131, 132] (by decide +kernel) (by decide +kernel)
set_option maxRecDepth 20000 in
theorem gX0_sway_X0_isPupil : GoodIn wsX0_sway (wsV RX0 123 RX0 yX0_isPupil wsX0_isPupil) := goodIn_app (goodIn_of _ (by decide +kernel)) ggX0_sway_X0_isPupil
set_option maxRecDepth 20000 in
theorem ggX0_sway_X0_fillScoresIf : GoodIn wsX0_sway wsX0_fillScoresIf := goodIn_r _ [116, 45, 73, 49, 50, 5, 51, 25, 26, 27, 28, 1, 2, 29, 30, 31, 32, 33, 34, 35, 36, 37, 38, 39, 14, 40, 41, 42, 43, 44, 46, 47, 48, 52, 53, 54, 55, 56, 57, 58, 59, 60, 61, 62, 63, 64, 65, 66, 67, 68, 69, 70, 71, 72, 74, 75, 76, 77, 78, 79, 80, 81, 82, 83, 84, 85, 86, 87, 88, 89, 90, 91, 92, 93, 94, 95, 96, 97, 98, 99, 100, 117, 118, 119, 120, 121, 122, 123, 124, 125, 126, 127, 128, 129, 130, 131, 132] (by decide +kernel) (by decide +kernel)
set_option maxRecDepth 20000 in
theorem gX0_sway_X0_fillScoresIf : GoodIn wsX0_sway (wsV RX0 127 RX0 yX0_fillScoresIf wsX0_fillScoresIf) := goodIn_app (goodIn_of _ (by decide +kernel)) ggX0_sway_X0_fillScoresIf
set_option maxRecDepth 20000 in
theorem ggX0_sway_X0_passesIn : GoodIn wsX0_sway wsX0_passesIn := goodIn_r _ [104, 105, 106, 107, 5, 108, 1, 117, 118, 119, 120, 121, 122, 123, 124, 125, 126, 127, 128, 129, 130, 131, 132] (by decide +kernel) (by decide +kernel)
set_option maxRecDepth 20000 in
theorem gX0_sway_X0_passesIn : GoodIn wsX0_sway (wsV RX0 131 RX0 yX0_passesIn wsX0_passesIn) := goodIn_app (goodIn_of _ (by decide +kernel)) ggX0_sway_X0_passesIn
theorem dX0_sway_0 : decode cX0_sway 0 = .ok (.iload_n 1, 1) := by decide +kernel
theorem dX0_sway_1 : decode cX0_sway 1 = .ok (.invokestatic 72, 3) := by decide +kernel
theorem dX0_sway_4 : decode cX0_sway 4 = .ok (.ifCond .eq 11, 3) := by decide +kernel
theorem dX0_sway_7 : decode cX0_sway 7 = .ok (.aload_n 0, 1) := by decide +kernel
theorem dX0_sway_8 : decode cX0_sway 8 = .ok (.iload_n 3, 1) := by decide +kernel
theorem dX0_sway_9 : decode cX0_sway 9 = .ok (.invokevirtual 76, 3) := by decide +kernel
theorem dX0_sway_12 : decode cX0_sway 12 = .ok (.ifCond .ne 6, 3) := by decide +kernel
theorem dX0_sway_15 : decode cX0_sway 15 = .ok (.bipush (-101), 2) := by decide +kernel
theorem dX0_sway_17 : decode cX0_sway 17 = .ok (.ireturn, 1) := by decide +kernel
theorem dX0_sway_18 : decode cX0_sway 18 = .ok (.iload_n 2, 1) := by decide +kernel
theorem dX0_sway_19 : decode cX0_sway 19 = .ok (.invokestatic 94, 3) := by decide +kernel
theorem dX0_sway_22 : decode cX0_sway 22 = .ok (.ifCond .eq 11, 3) := by decide +kernel
theorem dX0_sway_25 : decode cX0_sway 25 = .ok (.iload 4, 2) := by decide +kernel
theorem dX0_sway_27 : decode cX0_sway 27 = .ok (.invokestatic 111, 3) := by decide +kernel
theorem dX0_sway_30 : decode cX0_sway 30 = .ok (.ifCond .ne 6, 3) := by decide +kernel
theorem dX0_sway_33 : decode cX0_sway 33 = .ok (.bipush (-102), 2) := by decide +kernel
theorem dX0_sway_35 : decode cX0_sway 35 = .ok (.ireturn, 1) := by decide +kernel
theorem dX0_sway_36 : decode cX0_sway 36 = .ok (.aload_n 0, 1) := by decide +kernel
theorem dX0_sway_37 : decode cX0_sway 37 = .ok (.iload_n 1, 1) := by decide +kernel
theorem dX0_sway_38 : decode cX0_sway 38 = .ok (.iload_n 2, 1) := by decide +kernel
theorem dX0_sway_39 : decode cX0_sway 39 = .ok (.iload 4, 2) := by decide +kernel
theorem dX0_sway_41 : decode cX0_sway 41 = .ok (.invokevirtual 114, 3) := by decide +kernel
theorem dX0_sway_44 : decode cX0_sway 44 = .ok (.istore 5, 2) := by decide +kernel
theorem dX0_sway_46 : decode cX0_sway 46 = .ok (.iconst 0, 1) := by decide +kernel
theorem dX0_sway_47 : decode cX0_sway 47 = .ok (.istore 6, 2) := by decide +kernel
theorem dX0_sway_49 : decode cX0_sway 49 = .ok (.iconst 0, 1) := by decide +kernel
theorem dX0_sway_50 : decode cX0_sway 50 = .ok (.istore 7, 2) := by decide +kernel
theorem dX0_sway_52 : decode cX0_sway 52 = .ok (.iload 7, 2) := by decide +kernel
theorem dX0_sway_54 : decode cX0_sway 54 = .ok (.aload_n 0, 1) := by decide +kernel
theorem dX0_sway_55 : decode cX0_sway 55 = .ok (.getfield 7, 3) := by decide +kernel
theorem dX0_sway_58 : decode cX0_sway 58 = .ok (.if_icmp .ge 105, 3) := by decide +kernel
theorem dX0_sway_61 : decode cX0_sway 61 = .ok (.aload_n 0, 1) := by decide +kernel
theorem dX0_sway_62 : decode cX0_sway 62 = .ok (.iload_n 3, 1) := by decide +kernel
theorem dX0_sway_63 : decode cX0_sway 63 = .ok (.iload 7, 2) := by decide +kernel
theorem dX0_sway_65 : decode cX0_sway 65 = .ok (.invokevirtual 123, 3) := by decide +kernel
theorem dX0_sway_68 : decode cX0_sway 68 = .ok (.ifCond .eq 6, 3) := by decide +kernel
theorem dX0_sway_71 : decode cX0_sway 71 = .ok (.goto 86, 3) := by decide +kernel
theorem dX0_sway_74 : decode cX0_sway 74 = .ok (.iload 5, 2) := by decide +kernel
theorem dX0_sway_76 : decode cX0_sway 76 = .ok (.iload 7, 2) := by decide +kernel
theorem dX0_sway_78 : decode cX0_sway 78 = .ok (.ishr, 1) := by decide +kernel
theorem dX0_sway_79 : decode cX0_sway 79 = .ok (.iconst 1, 1) := by decide +kernel
theorem dX0_sway_80 : decode cX0_sway 80 = .ok (.iand, 1) := by decide +kernel
theorem dX0_sway_81 : decode cX0_sway 81 = .ok (.iconst 1, 1) := by decide +kernel
theorem dX0_sway_82 : decode cX0_sway 82 = .ok (.if_icmp .ne 7, 3) := by decide +kernel
theorem dX0_sway_85 : decode cX0_sway 85 = .ok (.iconst 1, 1) := by decide +kernel
theorem dX0_sway_86 : decode cX0_sway 86 = .ok (.goto 4, 3) := by decide +kernel
theorem dX0_sway_89 : decode cX0_sway 89 = .ok (.iconst 0, 1) := by decide +kernel
theorem dX0_sway_90 : decode cX0_sway 90 = .ok (.istore 8, 2) := by decide +kernel
theorem dX0_sway_92 : decode cX0_sway 92 = .ok (.aload_n 0, 1) := by decide +kernel
theorem dX0_sway_93 : decode cX0_sway 93 = .ok (.iload_n 1, 1) := by decide +kernel
theorem dX0_sway_94 : decode cX0_sway 94 = .ok (.iload_n 2, 1) := by decide +kernel
theorem dX0_sway_95 : decode cX0_sway 95 = .ok (.iload_n 3, 1) := by decide +kernel
theorem dX0_sway_96 : decode cX0_sway 96 = .ok (.iload 7, 2) := by decide +kernel
theorem dX0_sway_98 : decode cX0_sway 98 = .ok (.iconst 1, 1) := by decide +kernel
theorem dX0_sway_99 : decode cX0_sway 99 = .ok (.invokevirtual 127, 3) := by decide +kernel
theorem dX0_sway_102 : decode cX0_sway 102 = .ok (.aload_n 0, 1) := by decide +kernel
theorem dX0_sway_103 : decode cX0_sway 103 = .ok (.aload_n 0, 1) := by decide +kernel
theorem dX0_sway_104 : decode cX0_sway 104 = .ok (.getfield 50, 3) := by decide +kernel
theorem dX0_sway_107 : decode cX0_sway 107 = .ok (.iload 7, 2) := by decide +kernel
theorem dX0_sway_109 : decode cX0_sway 109 = .ok (.iload 4, 2) := by decide +kernel
theorem dX0_sway_111 : decode cX0_sway 111 = .ok (.invokevirtual 131, 3) := by decide +kernel
theorem dX0_sway_114 : decode cX0_sway 114 = .ok (.istore 9, 2) := by decide +kernel
theorem dX0_sway_116 : decode cX0_sway 116 = .ok (.aload_n 0, 1) := by decide +kernel
theorem dX0_sway_117 : decode cX0_sway 117 = .ok (.iload_n 1, 1) := by decide +kernel
theorem dX0_sway_118 : decode cX0_sway 118 = .ok (.iload_n 2, 1) := by decide +kernel
theorem dX0_sway_119 : decode cX0_sway 119 = .ok (.iload_n 3, 1) := by decide +kernel
theorem dX0_sway_120 : decode cX0_sway 120 = .ok (.iload 7, 2) := by decide +kernel
theorem dX0_sway_122 : decode cX0_sway 122 = .ok (.iconst 0, 1) := by decide +kernel
theorem dX0_sway_123 : decode cX0_sway 123 = .ok (.invokevirtual 127, 3) := by decide +kernel
theorem dX0_sway_126 : decode cX0_sway 126 = .ok (.aload_n 0, 1) := by decide +kernel
theorem dX0_sway_127 : decode cX0_sway 127 = .ok (.aload_n 0, 1) := by decide +kernel
theorem dX0_sway_128 : decode cX0_sway 128 = .ok (.getfield 50, 3) := by decide +kernel
theorem dX0_sway_131 : decode cX0_sway 131 = .ok (.iload 7, 2) := by decide +kernel
theorem dX0_sway_133 : decode cX0_sway 133 = .ok (.iload 4, 2) := by decide +kernel
theorem dX0_sway_135 : decode cX0_sway 135 = .ok (.invokevirtual 131, 3) := by decide +kernel
theorem dX0_sway_138 : decode cX0_sway 138 = .ok (.istore 10, 2) := by decide +kernel
theorem dX0_sway_140 : decode cX0_sway 140 = .ok (.iload 9, 2) := by decide +kernel
theorem dX0_sway_142 : decode cX0_sway 142 = .ok (.iload 8, 2) := by decide +kernel
theorem dX0_sway_144 : decode cX0_sway 144 = .ok (.if_icmp .ne 10, 3) := by decide +kernel
theorem dX0_sway_147 : decode cX0_sway 147 = .ok (.iload 10, 2) := by decide +kernel
theorem dX0_sway_149 : decode cX0_sway 149 = .ok (.iload 8, 2) := by decide +kernel
theorem dX0_sway_151 : decode cX0_sway 151 = .ok (.if_icmp .eq 6, 3) := by decide +kernel
theorem dX0_sway_154 : decode cX0_sway 154 = .ok (.iinc 6 1, 3) := by decide +kernel
theorem dX0_sway_157 : decode cX0_sway 157 = .ok (.iinc 7 1, 3) := by decide +kernel
theorem dX0_sway_160 : decode cX0_sway 160 = .ok (.goto (-108), 3) := by decide +kernel
theorem dX0_sway_163 : decode cX0_sway 163 = .ok (.iload 6, 2) := by decide +kernel
theorem dX0_sway_165 : decode cX0_sway 165 = .ok (.ireturn, 1) := by decide +kernel
set_option maxRecDepth 20000 in
theorem ggX0_weight_X0_isRound : GoodIn wsX0_weight wsX0_isRound := goodIn_r _ [5, 6, 7, 4, 8] (by decide +kernel) (by decide +kernel)
set_option maxRecDepth 20000 in
theorem gX0_weight_X0_isRound : GoodIn wsX0_weight (va_wsS RX0 72 yX0_isRound wsX0_isRound) := goodIn_app (goodIn_of _ (by decide +kernel)) ggX0_weight_X0_isRound
set_option maxRecDepth 20000 in
theorem ggX0_weight_X0_isWithin : GoodIn wsX0_weight wsX0_isWithin := goodIn_r _ [8] (by decide +kernel) (by decide +kernel)
set_option maxRecDepth 20000 in
theorem gX0_weight_X0_isWithin : GoodIn wsX0_weight (va_wsS RX0 68 yX0_isWithin wsX0_isWithin) := goodIn_app (goodIn_of _ (by decide +kernel)) ggX0_weight_X0_isWithin
set_option maxRecDepth 20000 in
theorem ggX0_weight_X0_replace : GoodIn wsX0_weight wsX0_replace := goodIn_r _ [11] (by decide +kernel) (by decide +kernel)
set_option maxRecDepth 20000 in
theorem gX0_weight_X0_replace : GoodIn wsX0_weight (va_wsS RX0 86 yX0_replace wsX0_replace) := goodIn_app (goodIn_of _ (by decide +kernel)) ggX0_weight_X0_replace
theorem dX0_weight_0 : decode cX0_weight 0 = .ok (.iload_n 1, 1) := by decide +kernel
theorem dX0_weight_1 : decode cX0_weight 1 = .ok (.invokestatic 72, 3) := by decide +kernel
theorem dX0_weight_4 : decode cX0_weight 4 = .ok (.ifCond .ne 6, 3) := by decide +kernel
theorem dX0_weight_7 : decode cX0_weight 7 = .ok (.bipush (-101), 2) := by decide +kernel
theorem dX0_weight_9 : decode cX0_weight 9 = .ok (.ireturn, 1) := by decide +kernel
theorem dX0_weight_10 : decode cX0_weight 10 = .ok (.iload_n 2, 1) := by decide +kernel
theorem dX0_weight_11 : decode cX0_weight 11 = .ok (.iconst 0, 1) := by decide +kernel
theorem dX0_weight_12 : decode cX0_weight 12 = .ok (.bipush 10, 2) := by decide +kernel
theorem dX0_weight_14 : decode cX0_weight 14 = .ok (.invokestatic 68, 3) := by decide +kernel
theorem dX0_weight_17 : decode cX0_weight 17 = .ok (.ifCond .ne 6, 3) := by decide +kernel
theorem dX0_weight_20 : decode cX0_weight 20 = .ok (.bipush (-102), 2) := by decide +kernel
theorem dX0_weight_22 : decode cX0_weight 22 = .ok (.ireturn, 1) := by decide +kernel
theorem dX0_weight_23 : decode cX0_weight 23 = .ok (.aload_n 0, 1) := by decide +kernel
theorem dX0_weight_24 : decode cX0_weight 24 = .ok (.getfield 29, 3) := by decide +kernel
theorem dX0_weight_27 : decode cX0_weight 27 = .ok (.iload_n 1, 1) := by decide +kernel
theorem dX0_weight_28 : decode cX0_weight 28 = .ok (.iload_n 2, 1) := by decide +kernel
theorem dX0_weight_29 : decode cX0_weight 29 = .ok (.invokestatic 86, 3) := by decide +kernel
theorem dX0_weight_32 : decode cX0_weight 32 = .ok (.ireturn, 1) := by decide +kernel
set_option maxRecDepth 20000 in
theorem ggX0_total_X0_isPlayer : GoodIn wsX0_total wsX0_isPlayer := goodIn_r _ [5, 6, 7, 8, 4, 9, 88, 89, 90, 91, 92, 93, 94, 95, 96, 97, 98, 99, 100, 101, 102, 103] (by decide +kernel) (by decide +kernel)
set_option maxRecDepth 20000 in
theorem gX0_total_X0_isPlayer : GoodIn wsX0_total (wsV RX0 79 RX0 yX0_isPlayer wsX0_isPlayer) := goodIn_app (goodIn_of _ (by decide +kernel)) ggX0_total_X0_isPlayer
set_option maxRecDepth 20000 in
theorem ggX0_total_X0_totalOf : GoodIn wsX0_total wsX0_totalOf := goodIn_r _ [13, 14, 15, 16, 17, 4, 18, 19, 20, 21, 22, 23, 24, 25, 26, 27, 28, 29, 30, 31, 32, 33, 34, 35, 36, 37, 38, 39, 40, 41, 42, 43, 44, 45, 46, 47, 48, 49, 50, 51, 52, 53, 54, 55, 56, 57, 58, 59, 60, 61, 62, 63, 64, 6, 65, 66, 67, 68, 69, 70, 71, 72, 73, 74, 75, 76, 77, 78, 79, 80, 81, 82, 83, 84, 85, 86, 87, 88, 89, 90, 91, 92, 93, 94, 95, 96, 97, 98, 99, 100, 101, 102, 103] (by decide +kernel) (by decide +kernel)
set_option maxRecDepth 20000 in
theorem gX0_total_X0_totalOf : GoodIn wsX0_total (wsV RX0 135 RX0 yX0_totalOf wsX0_totalOf) := goodIn_app (goodIn_of _ (by decide +kernel)) ggX0_total_X0_totalOf
theorem dX0_total_0 : decode cX0_total 0 = .ok (.aload_n 0, 1) := by decide +kernel
theorem dX0_total_1 : decode cX0_total 1 = .ok (.iload_n 1, 1) := by decide +kernel
theorem dX0_total_2 : decode cX0_total 2 = .ok (.invokevirtual 79, 3) := by decide +kernel
theorem dX0_total_5 : decode cX0_total 5 = .ok (.ifCond .ne 6, 3) := by decide +kernel
theorem dX0_total_8 : decode cX0_total 8 = .ok (.bipush (-101), 2) := by decide +kernel
theorem dX0_total_10 : decode cX0_total 10 = .ok (.ireturn, 1) := by decide +kernel
theorem dX0_total_11 : decode cX0_total 11 = .ok (.aload_n 0, 1) := by decide +kernel
theorem dX0_total_12 : decode cX0_total 12 = .ok (.iload_n 1, 1) := by decide +kernel
theorem dX0_total_13 : decode cX0_total 13 = .ok (.invokevirtual 135, 3) := by decide +kernel
theorem dX0_total_16 : decode cX0_total 16 = .ok (.ireturn, 1) := by decide +kernel
set_option maxRecDepth 20000 in
theorem ggX0_last_X0_isPlayer : GoodIn wsX0_last wsX0_isPlayer := goodIn_r _ [6, 7, 8, 9, 5, 10, 97, 98, 99, 100, 101, 102, 103, 104, 105, 106, 107, 108, 109, 110, 111, 112] (by decide +kernel) (by decide +kernel)
set_option maxRecDepth 20000 in
theorem gX0_last_X0_isPlayer : GoodIn wsX0_last (wsV RX0 79 RX0 yX0_isPlayer wsX0_isPlayer) := goodIn_app (goodIn_of _ (by decide +kernel)) ggX0_last_X0_isPlayer
set_option maxRecDepth 20000 in
theorem ggX0_last_X0_fillTotals : GoodIn wsX0_last wsX0_fillTotals := goodIn_r _ [14, 7, 1, 15, 16, 17, 5, 18, 19, 20, 21, 22, 23, 24, 25, 26, 27, 28, 29, 30, 31, 32, 33, 34, 35, 36, 37, 38, 39, 40, 41, 42, 43, 44, 45, 46, 47, 48, 49, 50, 51, 52, 53, 54, 55, 56, 57, 58, 59, 60, 61, 62, 63, 64, 65, 66, 67, 68, 69, 70, 71, 72, 73, 74, 75, 76, 77, 78, 79, 80, 81, 82, 83, 84, 85, 86, 87, 88, 89, 90, 91, 92, 97, 98, 99, 100, 101, 102, 103, 104, 105, 106, 107, 108, 109, 110, 111, 112] (by decide +kernel) (by decide +kernel)
set_option maxRecDepth 20000 in
theorem gX0_last_X0_fillTotals : GoodIn wsX0_last (wsV RX0 138 RX0 yX0_fillTotals wsX0_fillTotals) := goodIn_app (goodIn_of _ (by decide +kernel)) ggX0_last_X0_fillTotals
set_option maxRecDepth 20000 in
theorem ggX0_last_X0_placeIn : GoodIn wsX0_last wsX0_placeIn := goodIn_r _ [96, 7, 97, 98, 99, 100, 101, 102, 103, 104, 105, 106, 107, 108, 109, 110, 111, 112] (by decide +kernel) (by decide +kernel)
set_option maxRecDepth 20000 in
theorem gX0_last_X0_placeIn : GoodIn wsX0_last (wsV RX0 107 RX0 yX0_placeIn wsX0_placeIn) := goodIn_app (goodIn_of _ (by decide +kernel)) ggX0_last_X0_placeIn
theorem dX0_last_0 : decode cX0_last 0 = .ok (.aload_n 0, 1) := by decide +kernel
theorem dX0_last_1 : decode cX0_last 1 = .ok (.iload_n 1, 1) := by decide +kernel
theorem dX0_last_2 : decode cX0_last 2 = .ok (.invokevirtual 79, 3) := by decide +kernel
theorem dX0_last_5 : decode cX0_last 5 = .ok (.ifCond .ne 6, 3) := by decide +kernel
theorem dX0_last_8 : decode cX0_last 8 = .ok (.bipush (-101), 2) := by decide +kernel
theorem dX0_last_10 : decode cX0_last 10 = .ok (.ireturn, 1) := by decide +kernel
theorem dX0_last_11 : decode cX0_last 11 = .ok (.aload_n 0, 1) := by decide +kernel
theorem dX0_last_12 : decode cX0_last 12 = .ok (.invokevirtual 138, 3) := by decide +kernel
theorem dX0_last_15 : decode cX0_last 15 = .ok (.aload_n 0, 1) := by decide +kernel
theorem dX0_last_16 : decode cX0_last 16 = .ok (.aload_n 0, 1) := by decide +kernel
theorem dX0_last_17 : decode cX0_last 17 = .ok (.getfield 53, 3) := by decide +kernel
theorem dX0_last_20 : decode cX0_last 20 = .ok (.iload_n 1, 1) := by decide +kernel
theorem dX0_last_21 : decode cX0_last 21 = .ok (.invokevirtual 107, 3) := by decide +kernel
theorem dX0_last_24 : decode cX0_last 24 = .ok (.ireturn, 1) := by decide +kernel
set_option maxRecDepth 20000 in
theorem ggX0_prize_X0_isWithin : GoodIn wsX0_prize wsX0_isWithin := goodIn_r _ [6] (by decide +kernel) (by decide +kernel)
set_option maxRecDepth 20000 in
theorem gX0_prize_X0_isWithin : GoodIn wsX0_prize (va_wsS RX0 68 yX0_isWithin wsX0_isWithin) := goodIn_app (goodIn_of _ (by decide +kernel)) ggX0_prize_X0_isWithin
set_option maxRecDepth 20000 in
theorem ggX0_prize_X0_replace : GoodIn wsX0_prize wsX0_replace := goodIn_r _ [9] (by decide +kernel) (by decide +kernel)
set_option maxRecDepth 20000 in
theorem gX0_prize_X0_replace : GoodIn wsX0_prize (va_wsS RX0 86 yX0_replace wsX0_replace) := goodIn_app (goodIn_of _ (by decide +kernel)) ggX0_prize_X0_replace
theorem dX0_prize_0 : decode cX0_prize 0 = .ok (.iload_n 1, 1) := by decide +kernel
theorem dX0_prize_1 : decode cX0_prize 1 = .ok (.iconst 0, 1) := by decide +kernel
theorem dX0_prize_2 : decode cX0_prize 2 = .ok (.iconst 5, 1) := by decide +kernel
theorem dX0_prize_3 : decode cX0_prize 3 = .ok (.invokestatic 68, 3) := by decide +kernel
theorem dX0_prize_6 : decode cX0_prize 6 = .ok (.ifCond .ne 6, 3) := by decide +kernel
theorem dX0_prize_9 : decode cX0_prize 9 = .ok (.bipush (-101), 2) := by decide +kernel
theorem dX0_prize_11 : decode cX0_prize 11 = .ok (.ireturn, 1) := by decide +kernel
theorem dX0_prize_12 : decode cX0_prize 12 = .ok (.iload_n 2, 1) := by decide +kernel
theorem dX0_prize_13 : decode cX0_prize 13 = .ok (.iconst 0, 1) := by decide +kernel
theorem dX0_prize_14 : decode cX0_prize 14 = .ok (.ldc 141, 2) := by decide +kernel
theorem dX0_prize_16 : decode cX0_prize 16 = .ok (.invokestatic 68, 3) := by decide +kernel
theorem dX0_prize_19 : decode cX0_prize 19 = .ok (.ifCond .ne 6, 3) := by decide +kernel
theorem dX0_prize_22 : decode cX0_prize 22 = .ok (.bipush (-102), 2) := by decide +kernel
theorem dX0_prize_24 : decode cX0_prize 24 = .ok (.ireturn, 1) := by decide +kernel
theorem dX0_prize_25 : decode cX0_prize 25 = .ok (.aload_n 0, 1) := by decide +kernel
theorem dX0_prize_26 : decode cX0_prize 26 = .ok (.getfield 32, 3) := by decide +kernel
theorem dX0_prize_29 : decode cX0_prize 29 = .ok (.iload_n 1, 1) := by decide +kernel
theorem dX0_prize_30 : decode cX0_prize 30 = .ok (.iload_n 2, 1) := by decide +kernel
theorem dX0_prize_31 : decode cX0_prize 31 = .ok (.invokestatic 86, 3) := by decide +kernel
theorem dX0_prize_34 : decode cX0_prize 34 = .ok (.ireturn, 1) := by decide +kernel
set_option maxRecDepth 20000 in
theorem ggX0_wins_X0_isPlayer : GoodIn wsX0_wins wsX0_isPlayer := goodIn_r _ [5, 6, 7, 8, 4, 9, 102, 103, 104, 105, 106, 107, 108, 109, 110, 111, 112, 113, 114, 115, 116, 117] (by decide +kernel) (by decide +kernel)
set_option maxRecDepth 20000 in
theorem gX0_wins_X0_isPlayer : GoodIn wsX0_wins (wsV RX0 79 RX0 yX0_isPlayer wsX0_isPlayer) := goodIn_app (goodIn_of _ (by decide +kernel)) ggX0_wins_X0_isPlayer
set_option maxRecDepth 20000 in
theorem ggX0_wins_X0_fillTotals : GoodIn wsX0_wins wsX0_fillTotals := goodIn_r _ [13, 6, 14, 15, 16, 17, 4, 18, 19, 20, 21, 22, 23, 24, 25, 26, 27, 28, 29, 30, 31, 32, 33, 34, 35, 36, 37, 38, 39, 40, 41, 42, 43, 44, 45, 46, 47, 48, 49, 50, 51, 52, 53, 54, 55, 56, 57, 58, 59, 60, 61, 62, 63, 64, 65, 66, 67, 68, 69, 70, 71, 72, 73, 74, 75, 76, 77, 78, 79, 80, 81, 82, 83, 84, 85, 86, 87, 88, 89, 90, 91, 92, 102, 103, 104, 105, 106, 107, 108, 109, 110, 111, 112, 113, 114, 115, 116, 117] (by decide +kernel) (by decide +kernel)
set_option maxRecDepth 20000 in
theorem gX0_wins_X0_fillTotals : GoodIn wsX0_wins (wsV RX0 138 RX0 yX0_fillTotals wsX0_fillTotals) := goodIn_app (goodIn_of _ (by decide +kernel)) ggX0_wins_X0_fillTotals
set_option maxRecDepth 20000 in
theorem ggX0_wins_X0_shareOf : GoodIn wsX0_wins wsX0_shareOf := goodIn_r _ [96, 14, 6, 97, 98, 99, 100, 4, 101, 102, 103, 104, 105, 106, 107, 108, 109, 110, 111, 112, 113, 114, 115, 116, 117] (by decide +kernel) (by decide +kernel)
set_option maxRecDepth 20000 in
theorem gX0_wins_X0_shareOf : GoodIn wsX0_wins (wsV RX0 142 RX0 yX0_shareOf wsX0_shareOf) := goodIn_app (goodIn_of _ (by decide +kernel)) ggX0_wins_X0_shareOf
theorem dX0_wins_0 : decode cX0_wins 0 = .ok (.aload_n 0, 1) := by decide +kernel
theorem dX0_wins_1 : decode cX0_wins 1 = .ok (.iload_n 1, 1) := by decide +kernel
theorem dX0_wins_2 : decode cX0_wins 2 = .ok (.invokevirtual 79, 3) := by decide +kernel
theorem dX0_wins_5 : decode cX0_wins 5 = .ok (.ifCond .ne 6, 3) := by decide +kernel
theorem dX0_wins_8 : decode cX0_wins 8 = .ok (.bipush (-101), 2) := by decide +kernel
theorem dX0_wins_10 : decode cX0_wins 10 = .ok (.ireturn, 1) := by decide +kernel
theorem dX0_wins_11 : decode cX0_wins 11 = .ok (.aload_n 0, 1) := by decide +kernel
theorem dX0_wins_12 : decode cX0_wins 12 = .ok (.invokevirtual 138, 3) := by decide +kernel
theorem dX0_wins_15 : decode cX0_wins 15 = .ok (.aload_n 0, 1) := by decide +kernel
theorem dX0_wins_16 : decode cX0_wins 16 = .ok (.iload_n 1, 1) := by decide +kernel
theorem dX0_wins_17 : decode cX0_wins 17 = .ok (.invokevirtual 142, 3) := by decide +kernel
theorem dX0_wins_20 : decode cX0_wins 20 = .ok (.ireturn, 1) := by decide +kernel
set_option maxRecDepth 20000 in
theorem ggX0_rest_X0_fillTotals : GoodIn wsX0_rest wsX0_fillTotals := goodIn_r _ [7, 2, 8, 9, 10, 11, 6, 12, 13, 14, 15, 16, 17, 18, 19, 20, 21, 22, 23, 24, 25, 26, 27, 28, 29, 30, 31, 32, 33, 34, 35, 36, 37, 38, 39, 40, 41, 42, 43, 44, 45, 46, 47, 48, 49, 50, 51, 52, 53, 54, 55, 56, 57, 58, 59, 60, 61, 62, 63, 64, 65, 66, 67, 68, 69, 70, 71, 72, 73, 74, 75, 76, 77, 78, 79, 80, 81, 82, 83, 84, 85, 86, 98, 99, 100, 101, 102, 103, 104, 105, 106, 107, 108, 109, 110, 111, 112, 113] (by decide +kernel) (by decide +kernel)
set_option maxRecDepth 20000 in
theorem gX0_rest_X0_fillTotals : GoodIn wsX0_rest (wsV RX0 138 RX0 yX0_fillTotals wsX0_fillTotals) := goodIn_app (goodIn_of _ (by decide +kernel)) ggX0_rest_X0_fillTotals
set_option maxRecDepth 20000 in
theorem ggX0_rest_X0_sumOf : GoodIn wsX0_rest wsX0_sumOf := goodIn_r _ [89] (by decide +kernel) (by decide +kernel)
set_option maxRecDepth 20000 in
theorem gX0_rest_X0_sumOf : GoodIn wsX0_rest (va_wsS RX0 145 yX0_sumOf wsX0_sumOf) := goodIn_app (goodIn_of _ (by decide +kernel)) ggX0_rest_X0_sumOf
set_option maxRecDepth 20000 in
theorem ggX0_rest_X0_shareOf : GoodIn wsX0_rest wsX0_shareOf := goodIn_r _ [93, 8, 2, 1, 94, 95, 96, 6, 97, 98, 99, 100, 101, 102, 103, 104, 105, 106, 107, 108, 109, 110, 111, 112, 113] (by decide +kernel) (by decide +kernel)
set_option maxRecDepth 20000 in
theorem gX0_rest_X0_shareOf : GoodIn wsX0_rest (wsV RX0 142 RX0 yX0_shareOf wsX0_shareOf) := goodIn_app (goodIn_of _ (by decide +kernel)) ggX0_rest_X0_shareOf
theorem dX0_rest_0 : decode cX0_rest 0 = .ok (.aload_n 0, 1) := by decide +kernel
theorem dX0_rest_1 : decode cX0_rest 1 = .ok (.invokevirtual 138, 3) := by decide +kernel
theorem dX0_rest_4 : decode cX0_rest 4 = .ok (.aload_n 0, 1) := by decide +kernel
theorem dX0_rest_5 : decode cX0_rest 5 = .ok (.getfield 32, 3) := by decide +kernel
theorem dX0_rest_8 : decode cX0_rest 8 = .ok (.invokestatic 145, 3) := by decide +kernel
theorem dX0_rest_11 : decode cX0_rest 11 = .ok (.istore_n 1, 1) := by decide +kernel
theorem dX0_rest_12 : decode cX0_rest 12 = .ok (.iconst 0, 1) := by decide +kernel
theorem dX0_rest_13 : decode cX0_rest 13 = .ok (.istore_n 2, 1) := by decide +kernel
theorem dX0_rest_14 : decode cX0_rest 14 = .ok (.iload_n 2, 1) := by decide +kernel
theorem dX0_rest_15 : decode cX0_rest 15 = .ok (.aload_n 0, 1) := by decide +kernel
theorem dX0_rest_16 : decode cX0_rest 16 = .ok (.getfield 7, 3) := by decide +kernel
theorem dX0_rest_19 : decode cX0_rest 19 = .ok (.if_icmp .ge 17, 3) := by decide +kernel
theorem dX0_rest_22 : decode cX0_rest 22 = .ok (.iload_n 1, 1) := by decide +kernel
theorem dX0_rest_23 : decode cX0_rest 23 = .ok (.aload_n 0, 1) := by decide +kernel
theorem dX0_rest_24 : decode cX0_rest 24 = .ok (.iload_n 2, 1) := by decide +kernel
theorem dX0_rest_25 : decode cX0_rest 25 = .ok (.invokevirtual 142, 3) := by decide +kernel
theorem dX0_rest_28 : decode cX0_rest 28 = .ok (.isub, 1) := by decide +kernel
theorem dX0_rest_29 : decode cX0_rest 29 = .ok (.istore_n 1, 1) := by decide +kernel
theorem dX0_rest_30 : decode cX0_rest 30 = .ok (.iinc 2 1, 3) := by decide +kernel
theorem dX0_rest_33 : decode cX0_rest 33 = .ok (.goto (-19), 3) := by decide +kernel
theorem dX0_rest_36 : decode cX0_rest 36 = .ok (.iload_n 1, 1) := by decide +kernel
theorem dX0_rest_37 : decode cX0_rest 37 = .ok (.ireturn, 1) := by decide +kernel
set_option maxRecDepth 20000 in
theorem ggX0_work_X0_isWork : GoodIn wsX0_work wsX0_isWork := goodIn_r _ [5, 6, 7, 4, 8] (by decide +kernel) (by decide +kernel)
set_option maxRecDepth 20000 in
theorem gX0_work_X0_isWork : GoodIn wsX0_work (va_wsS RX0 149 yX0_isWork wsX0_isWork) := goodIn_app (goodIn_of _ (by decide +kernel)) ggX0_work_X0_isWork
set_option maxRecDepth 20000 in
theorem ggX0_work_X0_isWithin : GoodIn wsX0_work wsX0_isWithin := goodIn_r _ [8] (by decide +kernel) (by decide +kernel)
set_option maxRecDepth 20000 in
theorem gX0_work_X0_isWithin : GoodIn wsX0_work (va_wsS RX0 68 yX0_isWithin wsX0_isWithin) := goodIn_app (goodIn_of _ (by decide +kernel)) ggX0_work_X0_isWithin
set_option maxRecDepth 20000 in
theorem ggX0_work_X0_replace : GoodIn wsX0_work wsX0_replace := goodIn_r _ [11] (by decide +kernel) (by decide +kernel)
set_option maxRecDepth 20000 in
theorem gX0_work_X0_replace : GoodIn wsX0_work (va_wsS RX0 86 yX0_replace wsX0_replace) := goodIn_app (goodIn_of _ (by decide +kernel)) ggX0_work_X0_replace
theorem dX0_work_0 : decode cX0_work 0 = .ok (.iload_n 1, 1) := by decide +kernel
theorem dX0_work_1 : decode cX0_work 1 = .ok (.invokestatic 149, 3) := by decide +kernel
theorem dX0_work_4 : decode cX0_work 4 = .ok (.ifCond .ne 6, 3) := by decide +kernel
theorem dX0_work_7 : decode cX0_work 7 = .ok (.bipush (-101), 2) := by decide +kernel
theorem dX0_work_9 : decode cX0_work 9 = .ok (.ireturn, 1) := by decide +kernel
theorem dX0_work_10 : decode cX0_work 10 = .ok (.iload_n 2, 1) := by decide +kernel
theorem dX0_work_11 : decode cX0_work 11 = .ok (.iconst 1, 1) := by decide +kernel
theorem dX0_work_12 : decode cX0_work 12 = .ok (.bipush 60, 2) := by decide +kernel
theorem dX0_work_14 : decode cX0_work 14 = .ok (.invokestatic 68, 3) := by decide +kernel
theorem dX0_work_17 : decode cX0_work 17 = .ok (.ifCond .ne 6, 3) := by decide +kernel
theorem dX0_work_20 : decode cX0_work 20 = .ok (.bipush (-102), 2) := by decide +kernel
theorem dX0_work_22 : decode cX0_work 22 = .ok (.ireturn, 1) := by decide +kernel
theorem dX0_work_23 : decode cX0_work 23 = .ok (.aload_n 0, 1) := by decide +kernel
theorem dX0_work_24 : decode cX0_work 24 = .ok (.getfield 35, 3) := by decide +kernel
theorem dX0_work_27 : decode cX0_work 27 = .ok (.iload_n 1, 1) := by decide +kernel
theorem dX0_work_28 : decode cX0_work 28 = .ok (.iload_n 2, 1) := by decide +kernel
theorem dX0_work_29 : decode cX0_work 29 = .ok (.invokestatic 86, 3) := by decide +kernel
theorem dX0_work_32 : decode cX0_work 32 = .ok (.ireturn, 1) := by decide +kernel
set_option maxRecDepth 20000 in
theorem ggX0_programme_X0_isPlayer : GoodIn wsX0_programme wsX0_isPlayer := goodIn_r _ [7, 8, 9, 10, 6, 11, 15, 16, 17, 18, 19, 20, 21, 22, 23, 24, 25, 26, 27, 28, 29, 30] (by decide +kernel) (by decide +kernel)
set_option maxRecDepth 20000 in
theorem gX0_programme_X0_isPlayer : GoodIn wsX0_programme (wsV RX0 79 RX0 yX0_isPlayer wsX0_isPlayer) := goodIn_app (goodIn_of _ (by decide +kernel)) ggX0_programme_X0_isPlayer
set_option maxRecDepth 20000 in
theorem ggX0_programme_X0_isWithin : GoodIn wsX0_programme wsX0_isWithin := goodIn_r _ [11] (by decide +kernel) (by decide +kernel)
set_option maxRecDepth 20000 in
theorem gX0_programme_X0_isWithin : GoodIn wsX0_programme (va_wsS RX0 68 yX0_isWithin wsX0_isWithin) := goodIn_app (goodIn_of _ (by decide +kernel)) ggX0_programme_X0_isWithin
set_option maxRecDepth 20000 in
theorem ggX0_programme_X0_programmeCellOf : GoodIn wsX0_programme wsX0_programmeCellOf := goodIn_r _ [14] (by decide +kernel) (by decide +kernel)
set_option maxRecDepth 20000 in
theorem gX0_programme_X0_programmeCellOf : GoodIn wsX0_programme (va_wsS RX0 152 yX0_programmeCellOf wsX0_programmeCellOf) := goodIn_app (goodIn_of _ (by decide +kernel)) ggX0_programme_X0_programmeCellOf
theorem dX0_programme_0 : decode cX0_programme 0 = .ok (.aload_n 0, 1) := by decide +kernel
theorem dX0_programme_1 : decode cX0_programme 1 = .ok (.iload_n 1, 1) := by decide +kernel
theorem dX0_programme_2 : decode cX0_programme 2 = .ok (.invokevirtual 79, 3) := by decide +kernel
theorem dX0_programme_5 : decode cX0_programme 5 = .ok (.ifCond .ne 6, 3) := by decide +kernel
theorem dX0_programme_8 : decode cX0_programme 8 = .ok (.bipush (-101), 2) := by decide +kernel
theorem dX0_programme_10 : decode cX0_programme 10 = .ok (.ireturn, 1) := by decide +kernel
theorem dX0_programme_11 : decode cX0_programme 11 = .ok (.iload_n 2, 1) := by decide +kernel
theorem dX0_programme_12 : decode cX0_programme 12 = .ok (.iconst 1, 1) := by decide +kernel
theorem dX0_programme_13 : decode cX0_programme 13 = .ok (.sipush 4095, 3) := by decide +kernel
theorem dX0_programme_16 : decode cX0_programme 16 = .ok (.invokestatic 68, 3) := by decide +kernel
theorem dX0_programme_19 : decode cX0_programme 19 = .ok (.ifCond .ne 6, 3) := by decide +kernel
theorem dX0_programme_22 : decode cX0_programme 22 = .ok (.bipush (-102), 2) := by decide +kernel
theorem dX0_programme_24 : decode cX0_programme 24 = .ok (.ireturn, 1) := by decide +kernel
theorem dX0_programme_25 : decode cX0_programme 25 = .ok (.aload_n 0, 1) := by decide +kernel
theorem dX0_programme_26 : decode cX0_programme 26 = .ok (.getfield 41, 3) := by decide +kernel
theorem dX0_programme_29 : decode cX0_programme 29 = .ok (.iload_n 1, 1) := by decide +kernel
theorem dX0_programme_30 : decode cX0_programme 30 = .ok (.iaload, 1) := by decide +kernel
theorem dX0_programme_31 : decode cX0_programme 31 = .ok (.iconst 3, 1) := by decide +kernel
theorem dX0_programme_32 : decode cX0_programme 32 = .ok (.if_icmp .lt 6, 3) := by decide +kernel
theorem dX0_programme_35 : decode cX0_programme 35 = .ok (.bipush (-104), 2) := by decide +kernel
theorem dX0_programme_37 : decode cX0_programme 37 = .ok (.ireturn, 1) := by decide +kernel
theorem dX0_programme_38 : decode cX0_programme 38 = .ok (.aload_n 0, 1) := by decide +kernel
theorem dX0_programme_39 : decode cX0_programme 39 = .ok (.getfield 38, 3) := by decide +kernel
theorem dX0_programme_42 : decode cX0_programme 42 = .ok (.iload_n 1, 1) := by decide +kernel
theorem dX0_programme_43 : decode cX0_programme 43 = .ok (.aload_n 0, 1) := by decide +kernel
theorem dX0_programme_44 : decode cX0_programme 44 = .ok (.getfield 41, 3) := by decide +kernel
theorem dX0_programme_47 : decode cX0_programme 47 = .ok (.iload_n 1, 1) := by decide +kernel
theorem dX0_programme_48 : decode cX0_programme 48 = .ok (.iaload, 1) := by decide +kernel
theorem dX0_programme_49 : decode cX0_programme 49 = .ok (.invokestatic 152, 3) := by decide +kernel
theorem dX0_programme_52 : decode cX0_programme 52 = .ok (.iload_n 2, 1) := by decide +kernel
theorem dX0_programme_53 : decode cX0_programme 53 = .ok (.iastore, 1) := by decide +kernel
theorem dX0_programme_54 : decode cX0_programme 54 = .ok (.aload_n 0, 1) := by decide +kernel
theorem dX0_programme_55 : decode cX0_programme 55 = .ok (.getfield 41, 3) := by decide +kernel
theorem dX0_programme_58 : decode cX0_programme 58 = .ok (.iload_n 1, 1) := by decide +kernel
theorem dX0_programme_59 : decode cX0_programme 59 = .ok (.dup2, 1) := by decide +kernel
theorem dX0_programme_60 : decode cX0_programme 60 = .ok (.iaload, 1) := by decide +kernel
theorem dX0_programme_61 : decode cX0_programme 61 = .ok (.iconst 1, 1) := by decide +kernel
theorem dX0_programme_62 : decode cX0_programme 62 = .ok (.iadd, 1) := by decide +kernel
theorem dX0_programme_63 : decode cX0_programme 63 = .ok (.iastore, 1) := by decide +kernel
theorem dX0_programme_64 : decode cX0_programme 64 = .ok (.aload_n 0, 1) := by decide +kernel
theorem dX0_programme_65 : decode cX0_programme 65 = .ok (.getfield 41, 3) := by decide +kernel
theorem dX0_programme_68 : decode cX0_programme 68 = .ok (.iload_n 1, 1) := by decide +kernel
theorem dX0_programme_69 : decode cX0_programme 69 = .ok (.iaload, 1) := by decide +kernel
theorem dX0_programme_70 : decode cX0_programme 70 = .ok (.ireturn, 1) := by decide +kernel
set_option maxRecDepth 20000 in
theorem ggX0_plan_X0_isWithin : GoodIn wsX0_plan wsX0_isWithin := goodIn_r _ [5] (by decide +kernel) (by decide +kernel)
set_option maxRecDepth 20000 in
theorem gX0_plan_X0_isWithin : GoodIn wsX0_plan (va_wsS RX0 68 yX0_isWithin wsX0_isWithin) := goodIn_app (goodIn_of _ (by decide +kernel)) ggX0_plan_X0_isWithin
set_option maxRecDepth 20000 in
theorem ggX0_plan_J7_fill_53178 : GoodIn wsX0_plan wsJ7_fill_53178 := goodIn_r _ [9] (by decide +kernel) (by decide +kernel)
set_option maxRecDepth 20000 in
theorem gX0_plan_J7_fill_53178 : GoodIn wsX0_plan (va_wsS RX0 59 yJ7_fill_53178 wsJ7_fill_53178) := goodIn_app (goodIn_of _ (by decide +kernel)) ggX0_plan_J7_fill_53178
set_option maxRecDepth 20000 in
theorem ggX0_plan_X0_fillFitting : GoodIn wsX0_plan wsX0_fillFitting := goodIn_r _ [13, 14, 15, 16, 17, 18, 19, 4, 20, 21, 22, 23, 24, 25, 2, 3, 5, 30, 31, 32, 33, 34, 35, 36, 37, 38, 39, 40, 41, 42, 43, 44, 45] (by decide +kernel) (by decide +kernel)
set_option maxRecDepth 20000 in
theorem gX0_plan_X0_fillFitting : GoodIn wsX0_plan (wsV RX0 155 RX0 yX0_fillFitting wsX0_fillFitting) := goodIn_app (goodIn_of _ (by decide +kernel)) ggX0_plan_X0_fillFitting
set_option maxRecDepth 20000 in
theorem ggX0_plan_X0_choosesFrom : GoodIn wsX0_plan wsX0_choosesFrom := goodIn_r _ [29, 14, 15, 17, 1, 18, 19, 4, 20, 26, 27, 28, 30, 31, 32, 33, 34, 35, 36, 37, 38, 39, 40, 41, 42, 43, 44, 45] (by decide +kernel) (by decide +kernel)
set_option maxRecDepth 20000 in
theorem gX0_plan_X0_choosesFrom : GoodIn wsX0_plan (wsV RX0 158 RX0 yX0_choosesFrom wsX0_choosesFrom) := goodIn_app (goodIn_of _ (by decide +kernel)) ggX0_plan_X0_choosesFrom
theorem dX0_plan_0 : decode cX0_plan 0 = .ok (.iload_n 1, 1) := by decide +kernel
theorem dX0_plan_1 : decode cX0_plan 1 = .ok (.iconst 0, 1) := by decide +kernel
theorem dX0_plan_2 : decode cX0_plan 2 = .ok (.sipush 720, 3) := by decide +kernel
theorem dX0_plan_5 : decode cX0_plan 5 = .ok (.invokestatic 68, 3) := by decide +kernel
theorem dX0_plan_8 : decode cX0_plan 8 = .ok (.ifCond .eq 23, 3) := by decide +kernel
theorem dX0_plan_11 : decode cX0_plan 11 = .ok (.iload_n 2, 1) := by decide +kernel
theorem dX0_plan_12 : decode cX0_plan 12 = .ok (.iload_n 1, 1) := by decide +kernel
theorem dX0_plan_13 : decode cX0_plan 13 = .ok (.sipush 720, 3) := by decide +kernel
theorem dX0_plan_16 : decode cX0_plan 16 = .ok (.invokestatic 68, 3) := by decide +kernel
theorem dX0_plan_19 : decode cX0_plan 19 = .ok (.ifCond .eq 12, 3) := by decide +kernel
theorem dX0_plan_22 : decode cX0_plan 22 = .ok (.iload_n 3, 1) := by decide +kernel
theorem dX0_plan_23 : decode cX0_plan 23 = .ok (.iconst 1, 1) := by decide +kernel
theorem dX0_plan_24 : decode cX0_plan 24 = .ok (.iconst 3, 1) := by decide +kernel
theorem dX0_plan_25 : decode cX0_plan 25 = .ok (.invokestatic 68, 3) := by decide +kernel
theorem dX0_plan_28 : decode cX0_plan 28 = .ok (.ifCond .ne 6, 3) := by decide +kernel
theorem dX0_plan_31 : decode cX0_plan 31 = .ok (.bipush (-102), 2) := by decide +kernel
theorem dX0_plan_33 : decode cX0_plan 33 = .ok (.ireturn, 1) := by decide +kernel
theorem dX0_plan_34 : decode cX0_plan 34 = .ok (.aload_n 0, 1) := by decide +kernel
theorem dX0_plan_35 : decode cX0_plan 35 = .ok (.getfield 44, 3) := by decide +kernel
theorem dX0_plan_38 : decode cX0_plan 38 = .ok (.iconst (-1), 1) := by decide +kernel
theorem dX0_plan_39 : decode cX0_plan 39 = .ok (.invokestatic 59, 3) := by decide +kernel
theorem dX0_plan_42 : decode cX0_plan 42 = .ok (.aload_n 0, 1) := by decide +kernel
theorem dX0_plan_43 : decode cX0_plan 43 = .ok (.iload_n 1, 1) := by decide +kernel
theorem dX0_plan_44 : decode cX0_plan 44 = .ok (.iload_n 2, 1) := by decide +kernel
theorem dX0_plan_45 : decode cX0_plan 45 = .ok (.invokevirtual 155, 3) := by decide +kernel
theorem dX0_plan_48 : decode cX0_plan 48 = .ok (.iload_n 3, 1) := by decide +kernel
theorem dX0_plan_49 : decode cX0_plan 49 = .ok (.iconst 3, 1) := by decide +kernel
theorem dX0_plan_50 : decode cX0_plan 50 = .ok (.if_icmp .ge 9, 3) := by decide +kernel
theorem dX0_plan_53 : decode cX0_plan 53 = .ok (.sipush 4095, 3) := by decide +kernel
theorem dX0_plan_56 : decode cX0_plan 56 = .ok (.goto 4, 3) := by decide +kernel
theorem dX0_plan_59 : decode cX0_plan 59 = .ok (.iconst 0, 1) := by decide +kernel
theorem dX0_plan_60 : decode cX0_plan 60 = .ok (.istore 4, 2) := by decide +kernel
theorem dX0_plan_62 : decode cX0_plan 62 = .ok (.iload_n 3, 1) := by decide +kernel
theorem dX0_plan_63 : decode cX0_plan 63 = .ok (.iconst 2, 1) := by decide +kernel
theorem dX0_plan_64 : decode cX0_plan 64 = .ok (.if_icmp .ge 9, 3) := by decide +kernel
theorem dX0_plan_67 : decode cX0_plan 67 = .ok (.sipush 4095, 3) := by decide +kernel
theorem dX0_plan_70 : decode cX0_plan 70 = .ok (.goto 4, 3) := by decide +kernel
theorem dX0_plan_73 : decode cX0_plan 73 = .ok (.iconst 0, 1) := by decide +kernel
theorem dX0_plan_74 : decode cX0_plan 74 = .ok (.istore 5, 2) := by decide +kernel
theorem dX0_plan_76 : decode cX0_plan 76 = .ok (.aload_n 0, 1) := by decide +kernel
theorem dX0_plan_77 : decode cX0_plan 77 = .ok (.iconst 0, 1) := by decide +kernel
theorem dX0_plan_78 : decode cX0_plan 78 = .ok (.iload 4, 2) := by decide +kernel
theorem dX0_plan_80 : decode cX0_plan 80 = .ok (.iload 5, 2) := by decide +kernel
theorem dX0_plan_82 : decode cX0_plan 82 = .ok (.iconst 0, 1) := by decide +kernel
theorem dX0_plan_83 : decode cX0_plan 83 = .ok (.invokevirtual 158, 3) := by decide +kernel
theorem dX0_plan_86 : decode cX0_plan 86 = .ok (.ifCond .eq 7, 3) := by decide +kernel
theorem dX0_plan_89 : decode cX0_plan 89 = .ok (.iconst 1, 1) := by decide +kernel
theorem dX0_plan_90 : decode cX0_plan 90 = .ok (.goto 4, 3) := by decide +kernel
theorem dX0_plan_93 : decode cX0_plan 93 = .ok (.iconst 0, 1) := by decide +kernel
theorem dX0_plan_94 : decode cX0_plan 94 = .ok (.ireturn, 1) := by decide +kernel
set_option maxRecDepth 20000 in
theorem ggX0_chosen_X0_isPlayer : GoodIn wsX0_chosen wsX0_isPlayer := goodIn_r _ [6, 7, 8, 9, 5, 10, 11, 12, 13, 14, 15, 16, 17, 18, 19, 20, 21, 22, 23, 24, 25, 26] (by decide +kernel) (by decide +kernel)
set_option maxRecDepth 20000 in
theorem gX0_chosen_X0_isPlayer : GoodIn wsX0_chosen (wsV RX0 79 RX0 yX0_isPlayer wsX0_isPlayer) := goodIn_app (goodIn_of _ (by decide +kernel)) ggX0_chosen_X0_isPlayer
theorem dX0_chosen_0 : decode cX0_chosen 0 = .ok (.aload_n 0, 1) := by decide +kernel
theorem dX0_chosen_1 : decode cX0_chosen 1 = .ok (.iload_n 1, 1) := by decide +kernel
theorem dX0_chosen_2 : decode cX0_chosen 2 = .ok (.invokevirtual 79, 3) := by decide +kernel
theorem dX0_chosen_5 : decode cX0_chosen 5 = .ok (.ifCond .ne 6, 3) := by decide +kernel
theorem dX0_chosen_8 : decode cX0_chosen 8 = .ok (.bipush (-101), 2) := by decide +kernel
theorem dX0_chosen_10 : decode cX0_chosen 10 = .ok (.ireturn, 1) := by decide +kernel
theorem dX0_chosen_11 : decode cX0_chosen 11 = .ok (.aload_n 0, 1) := by decide +kernel
theorem dX0_chosen_12 : decode cX0_chosen 12 = .ok (.getfield 44, 3) := by decide +kernel
theorem dX0_chosen_15 : decode cX0_chosen 15 = .ok (.iload_n 1, 1) := by decide +kernel
theorem dX0_chosen_16 : decode cX0_chosen 16 = .ok (.iaload, 1) := by decide +kernel
theorem dX0_chosen_17 : decode cX0_chosen 17 = .ok (.ireturn, 1) := by decide +kernel
set_option maxRecDepth 20000 in
theorem ggX0_heard_X0_isWork : GoodIn wsX0_heard wsX0_isWork := goodIn_r _ [7, 8, 9, 6, 10] (by decide +kernel) (by decide +kernel)
set_option maxRecDepth 20000 in
theorem gX0_heard_X0_isWork : GoodIn wsX0_heard (va_wsS RX0 149 yX0_isWork wsX0_isWork) := goodIn_app (goodIn_of _ (by decide +kernel)) ggX0_heard_X0_isWork
set_option maxRecDepth 20000 in
theorem ggX0_heard_X0_programmeCellOf : GoodIn wsX0_heard wsX0_programmeCellOf := goodIn_r _ [13] (by decide +kernel) (by decide +kernel)
set_option maxRecDepth 20000 in
theorem gX0_heard_X0_programmeCellOf : GoodIn wsX0_heard (va_wsS RX0 152 yX0_programmeCellOf wsX0_programmeCellOf) := goodIn_app (goodIn_of _ (by decide +kernel)) ggX0_heard_X0_programmeCellOf
theorem dX0_heard_0 : decode cX0_heard 0 = .ok (.iload_n 1, 1) := by decide +kernel
theorem dX0_heard_1 : decode cX0_heard 1 = .ok (.invokestatic 149, 3) := by decide +kernel
theorem dX0_heard_4 : decode cX0_heard 4 = .ok (.ifCond .ne 6, 3) := by decide +kernel
theorem dX0_heard_7 : decode cX0_heard 7 = .ok (.bipush (-101), 2) := by decide +kernel
theorem dX0_heard_9 : decode cX0_heard 9 = .ok (.ireturn, 1) := by decide +kernel
theorem dX0_heard_10 : decode cX0_heard 10 = .ok (.iconst 0, 1) := by decide +kernel
theorem dX0_heard_11 : decode cX0_heard 11 = .ok (.istore_n 2, 1) := by decide +kernel
theorem dX0_heard_12 : decode cX0_heard 12 = .ok (.iconst 0, 1) := by decide +kernel
theorem dX0_heard_13 : decode cX0_heard 13 = .ok (.istore_n 3, 1) := by decide +kernel
theorem dX0_heard_14 : decode cX0_heard 14 = .ok (.iload_n 3, 1) := by decide +kernel
theorem dX0_heard_15 : decode cX0_heard 15 = .ok (.aload_n 0, 1) := by decide +kernel
theorem dX0_heard_16 : decode cX0_heard 16 = .ok (.getfield 7, 3) := by decide +kernel
theorem dX0_heard_19 : decode cX0_heard 19 = .ok (.if_icmp .ge 41, 3) := by decide +kernel
theorem dX0_heard_22 : decode cX0_heard 22 = .ok (.aload_n 0, 1) := by decide +kernel
theorem dX0_heard_23 : decode cX0_heard 23 = .ok (.getfield 44, 3) := by decide +kernel
theorem dX0_heard_26 : decode cX0_heard 26 = .ok (.iload_n 3, 1) := by decide +kernel
theorem dX0_heard_27 : decode cX0_heard 27 = .ok (.iaload, 1) := by decide +kernel
theorem dX0_heard_28 : decode cX0_heard 28 = .ok (.iconst (-1), 1) := by decide +kernel
theorem dX0_heard_29 : decode cX0_heard 29 = .ok (.if_icmp .eq 25, 3) := by decide +kernel
theorem dX0_heard_32 : decode cX0_heard 32 = .ok (.iload_n 2, 1) := by decide +kernel
theorem dX0_heard_33 : decode cX0_heard 33 = .ok (.aload_n 0, 1) := by decide +kernel
theorem dX0_heard_34 : decode cX0_heard 34 = .ok (.getfield 38, 3) := by decide +kernel
theorem dX0_heard_37 : decode cX0_heard 37 = .ok (.iload_n 3, 1) := by decide +kernel
theorem dX0_heard_38 : decode cX0_heard 38 = .ok (.aload_n 0, 1) := by decide +kernel
theorem dX0_heard_39 : decode cX0_heard 39 = .ok (.getfield 44, 3) := by decide +kernel
theorem dX0_heard_42 : decode cX0_heard 42 = .ok (.iload_n 3, 1) := by decide +kernel
theorem dX0_heard_43 : decode cX0_heard 43 = .ok (.iaload, 1) := by decide +kernel
theorem dX0_heard_44 : decode cX0_heard 44 = .ok (.invokestatic 152, 3) := by decide +kernel
theorem dX0_heard_47 : decode cX0_heard 47 = .ok (.iaload, 1) := by decide +kernel
theorem dX0_heard_48 : decode cX0_heard 48 = .ok (.iload_n 1, 1) := by decide +kernel
theorem dX0_heard_49 : decode cX0_heard 49 = .ok (.ishr, 1) := by decide +kernel
theorem dX0_heard_50 : decode cX0_heard 50 = .ok (.iconst 1, 1) := by decide +kernel
theorem dX0_heard_51 : decode cX0_heard 51 = .ok (.iand, 1) := by decide +kernel
theorem dX0_heard_52 : decode cX0_heard 52 = .ok (.iadd, 1) := by decide +kernel
theorem dX0_heard_53 : decode cX0_heard 53 = .ok (.istore_n 2, 1) := by decide +kernel
theorem dX0_heard_54 : decode cX0_heard 54 = .ok (.iinc 3 1, 3) := by decide +kernel
theorem dX0_heard_57 : decode cX0_heard 57 = .ok (.goto (-43), 3) := by decide +kernel
theorem dX0_heard_60 : decode cX0_heard 60 = .ok (.iload_n 2, 1) := by decide +kernel
theorem dX0_heard_61 : decode cX0_heard 61 = .ok (.ireturn, 1) := by decide +kernel
set_option maxRecDepth 20000 in
theorem ggX0_drawn_X0_isPlayer : GoodIn wsX0_drawn wsX0_isPlayer := goodIn_r _ [6, 1, 7, 8, 5, 9, 16, 17, 18, 19, 20, 21, 22, 23, 24, 25, 26, 27, 28, 29, 30, 31] (by decide +kernel) (by decide +kernel)
set_option maxRecDepth 20000 in
theorem gX0_drawn_X0_isPlayer : GoodIn wsX0_drawn (wsV RX0 79 RX0 yX0_isPlayer wsX0_isPlayer) := goodIn_app (goodIn_of _ (by decide +kernel)) ggX0_drawn_X0_isPlayer
set_option maxRecDepth 20000 in
theorem ggX0_drawn_X0_factorial : GoodIn wsX0_drawn wsX0_factorial := goodIn_r _ [12] (by decide +kernel) (by decide +kernel)
set_option maxRecDepth 20000 in
theorem gX0_drawn_X0_factorial : GoodIn wsX0_drawn (va_wsS RX0 162 yX0_factorial wsX0_factorial) := goodIn_app (goodIn_of _ (by decide +kernel)) ggX0_drawn_X0_factorial
set_option maxRecDepth 20000 in
theorem ggX0_drawn_X0_isWithin : GoodIn wsX0_drawn wsX0_isWithin := goodIn_r _ [9] (by decide +kernel) (by decide +kernel)
set_option maxRecDepth 20000 in
theorem gX0_drawn_X0_isWithin : GoodIn wsX0_drawn (va_wsS RX0 68 yX0_isWithin wsX0_isWithin) := goodIn_app (goodIn_of _ (by decide +kernel)) ggX0_drawn_X0_isWithin
set_option maxRecDepth 20000 in
theorem ggX0_drawn_X0_bitOf : GoodIn wsX0_drawn wsX0_bitOf := goodIn_r _ [15] (by decide +kernel) (by decide +kernel)
set_option maxRecDepth 20000 in
theorem gX0_drawn_X0_bitOf : GoodIn wsX0_drawn (va_wsS RX0 165 yX0_bitOf wsX0_bitOf) := goodIn_app (goodIn_of _ (by decide +kernel)) ggX0_drawn_X0_bitOf
theorem dX0_drawn_0 : decode cX0_drawn 0 = .ok (.aload_n 0, 1) := by decide +kernel
theorem dX0_drawn_1 : decode cX0_drawn 1 = .ok (.iload_n 2, 1) := by decide +kernel
theorem dX0_drawn_2 : decode cX0_drawn 2 = .ok (.invokevirtual 79, 3) := by decide +kernel
theorem dX0_drawn_5 : decode cX0_drawn 5 = .ok (.ifCond .ne 6, 3) := by decide +kernel
theorem dX0_drawn_8 : decode cX0_drawn 8 = .ok (.bipush (-101), 2) := by decide +kernel
theorem dX0_drawn_10 : decode cX0_drawn 10 = .ok (.ireturn, 1) := by decide +kernel
theorem dX0_drawn_11 : decode cX0_drawn 11 = .ok (.iload_n 1, 1) := by decide +kernel
theorem dX0_drawn_12 : decode cX0_drawn 12 = .ok (.iconst 0, 1) := by decide +kernel
theorem dX0_drawn_13 : decode cX0_drawn 13 = .ok (.aload_n 0, 1) := by decide +kernel
theorem dX0_drawn_14 : decode cX0_drawn 14 = .ok (.getfield 7, 3) := by decide +kernel
theorem dX0_drawn_17 : decode cX0_drawn 17 = .ok (.invokestatic 162, 3) := by decide +kernel
theorem dX0_drawn_20 : decode cX0_drawn 20 = .ok (.iconst 1, 1) := by decide +kernel
theorem dX0_drawn_21 : decode cX0_drawn 21 = .ok (.isub, 1) := by decide +kernel
theorem dX0_drawn_22 : decode cX0_drawn 22 = .ok (.invokestatic 68, 3) := by decide +kernel
theorem dX0_drawn_25 : decode cX0_drawn 25 = .ok (.ifCond .ne 6, 3) := by decide +kernel
theorem dX0_drawn_28 : decode cX0_drawn 28 = .ok (.bipush (-102), 2) := by decide +kernel
theorem dX0_drawn_30 : decode cX0_drawn 30 = .ok (.ireturn, 1) := by decide +kernel
theorem dX0_drawn_31 : decode cX0_drawn 31 = .ok (.iconst 1, 1) := by decide +kernel
theorem dX0_drawn_32 : decode cX0_drawn 32 = .ok (.aload_n 0, 1) := by decide +kernel
theorem dX0_drawn_33 : decode cX0_drawn 33 = .ok (.getfield 7, 3) := by decide +kernel
theorem dX0_drawn_36 : decode cX0_drawn 36 = .ok (.ishl, 1) := by decide +kernel
theorem dX0_drawn_37 : decode cX0_drawn 37 = .ok (.iconst 1, 1) := by decide +kernel
theorem dX0_drawn_38 : decode cX0_drawn 38 = .ok (.isub, 1) := by decide +kernel
theorem dX0_drawn_39 : decode cX0_drawn 39 = .ok (.istore_n 3, 1) := by decide +kernel
theorem dX0_drawn_40 : decode cX0_drawn 40 = .ok (.iload_n 1, 1) := by decide +kernel
theorem dX0_drawn_41 : decode cX0_drawn 41 = .ok (.istore 4, 2) := by decide +kernel
theorem dX0_drawn_43 : decode cX0_drawn 43 = .ok (.iconst (-1), 1) := by decide +kernel
theorem dX0_drawn_44 : decode cX0_drawn 44 = .ok (.istore 5, 2) := by decide +kernel
theorem dX0_drawn_46 : decode cX0_drawn 46 = .ok (.iconst 0, 1) := by decide +kernel
theorem dX0_drawn_47 : decode cX0_drawn 47 = .ok (.istore 6, 2) := by decide +kernel
theorem dX0_drawn_49 : decode cX0_drawn 49 = .ok (.iload 6, 2) := by decide +kernel
theorem dX0_drawn_51 : decode cX0_drawn 51 = .ok (.iload_n 2, 1) := by decide +kernel
theorem dX0_drawn_52 : decode cX0_drawn 52 = .ok (.if_icmp .gt 58, 3) := by decide +kernel
theorem dX0_drawn_55 : decode cX0_drawn 55 = .ok (.aload_n 0, 1) := by decide +kernel
theorem dX0_drawn_56 : decode cX0_drawn 56 = .ok (.getfield 7, 3) := by decide +kernel
theorem dX0_drawn_59 : decode cX0_drawn 59 = .ok (.iconst 1, 1) := by decide +kernel
theorem dX0_drawn_60 : decode cX0_drawn 60 = .ok (.isub, 1) := by decide +kernel
theorem dX0_drawn_61 : decode cX0_drawn 61 = .ok (.iload 6, 2) := by decide +kernel
theorem dX0_drawn_63 : decode cX0_drawn 63 = .ok (.isub, 1) := by decide +kernel
theorem dX0_drawn_64 : decode cX0_drawn 64 = .ok (.invokestatic 162, 3) := by decide +kernel
theorem dX0_drawn_67 : decode cX0_drawn 67 = .ok (.istore 7, 2) := by decide +kernel
theorem dX0_drawn_69 : decode cX0_drawn 69 = .ok (.iload 7, 2) := by decide +kernel
theorem dX0_drawn_71 : decode cX0_drawn 71 = .ok (.iconst 1, 1) := by decide +kernel
theorem dX0_drawn_72 : decode cX0_drawn 72 = .ok (.if_icmp .ge 5, 3) := by decide +kernel
theorem dX0_drawn_75 : decode cX0_drawn 75 = .ok (.iconst (-1), 1) := by decide +kernel
theorem dX0_drawn_76 : decode cX0_drawn 76 = .ok (.ireturn, 1) := by decide +kernel
theorem dX0_drawn_77 : decode cX0_drawn 77 = .ok (.iload_n 3, 1) := by decide +kernel
theorem dX0_drawn_78 : decode cX0_drawn 78 = .ok (.iload 4, 2) := by decide +kernel
theorem dX0_drawn_80 : decode cX0_drawn 80 = .ok (.iload 7, 2) := by decide +kernel
theorem dX0_drawn_82 : decode cX0_drawn 82 = .ok (.idiv, 1) := by decide +kernel
theorem dX0_drawn_83 : decode cX0_drawn 83 = .ok (.invokestatic 165, 3) := by decide +kernel
theorem dX0_drawn_86 : decode cX0_drawn 86 = .ok (.istore 5, 2) := by decide +kernel
theorem dX0_drawn_88 : decode cX0_drawn 88 = .ok (.iload 4, 2) := by decide +kernel
theorem dX0_drawn_90 : decode cX0_drawn 90 = .ok (.iload 7, 2) := by decide +kernel
theorem dX0_drawn_92 : decode cX0_drawn 92 = .ok (.irem, 1) := by decide +kernel
theorem dX0_drawn_93 : decode cX0_drawn 93 = .ok (.istore 4, 2) := by decide +kernel
theorem dX0_drawn_95 : decode cX0_drawn 95 = .ok (.iload_n 3, 1) := by decide +kernel
theorem dX0_drawn_96 : decode cX0_drawn 96 = .ok (.iconst 1, 1) := by decide +kernel
theorem dX0_drawn_97 : decode cX0_drawn 97 = .ok (.iload 5, 2) := by decide +kernel
theorem dX0_drawn_99 : decode cX0_drawn 99 = .ok (.ishl, 1) := by decide +kernel
theorem dX0_drawn_100 : decode cX0_drawn 100 = .ok (.iconst (-1), 1) := by decide +kernel
theorem dX0_drawn_101 : decode cX0_drawn 101 = .ok (.ixor, 1) := by decide +kernel
theorem dX0_drawn_102 : decode cX0_drawn 102 = .ok (.iand, 1) := by decide +kernel
theorem dX0_drawn_103 : decode cX0_drawn 103 = .ok (.istore_n 3, 1) := by decide +kernel
theorem dX0_drawn_104 : decode cX0_drawn 104 = .ok (.iinc 6 1, 3) := by decide +kernel
theorem dX0_drawn_107 : decode cX0_drawn 107 = .ok (.goto (-58), 3) := by decide +kernel
theorem dX0_drawn_110 : decode cX0_drawn 110 = .ok (.iload 5, 2) := by decide +kernel
theorem dX0_drawn_112 : decode cX0_drawn 112 = .ok (.ireturn, 1) := by decide +kernel
set_option maxRecDepth 20000 in
theorem ggX0_count_X0_countMarks : GoodIn wsX0_count wsX0_countMarks := goodIn_r _ [10, 11, 15, 16, 17, 18, 19, 20, 21, 22, 23, 24, 25, 26, 27, 28, 29, 30] (by decide +kernel) (by decide +kernel)
set_option maxRecDepth 20000 in
theorem gX0_count_X0_countMarks : GoodIn wsX0_count (wsV RX0 168 RX0 yX0_countMarks wsX0_countMarks) := goodIn_app (goodIn_of _ (by decide +kernel)) ggX0_count_X0_countMarks
set_option maxRecDepth 20000 in
theorem ggX0_count_X0_sumOf : GoodIn wsX0_count wsX0_sumOf := goodIn_r _ [14] (by decide +kernel) (by decide +kernel)
set_option maxRecDepth 20000 in
theorem gX0_count_X0_sumOf : GoodIn wsX0_count (va_wsS RX0 145 yX0_sumOf wsX0_sumOf) := goodIn_app (goodIn_of _ (by decide +kernel)) ggX0_count_X0_sumOf
theorem dX0_count_0 : decode cX0_count 0 = .ok (.iload_n 1, 1) := by decide +kernel
theorem dX0_count_1 : decode cX0_count 1 = .ok (.tableswitch 78 0 5 #[39, 44, 49, 54, 62, 70], 39) := by decide +kernel
theorem dX0_count_40 : decode cX0_count 40 = .ok (.aload_n 0, 1) := by decide +kernel
theorem dX0_count_41 : decode cX0_count 41 = .ok (.getfield 7, 3) := by decide +kernel
theorem dX0_count_44 : decode cX0_count 44 = .ok (.ireturn, 1) := by decide +kernel
theorem dX0_count_45 : decode cX0_count 45 = .ok (.aload_n 0, 1) := by decide +kernel
theorem dX0_count_46 : decode cX0_count 46 = .ok (.getfield 13, 3) := by decide +kernel
theorem dX0_count_49 : decode cX0_count 49 = .ok (.ireturn, 1) := by decide +kernel
theorem dX0_count_50 : decode cX0_count 50 = .ok (.aload_n 0, 1) := by decide +kernel
theorem dX0_count_51 : decode cX0_count 51 = .ok (.invokevirtual 168, 3) := by decide +kernel
theorem dX0_count_54 : decode cX0_count 54 = .ok (.ireturn, 1) := by decide +kernel
theorem dX0_count_55 : decode cX0_count 55 = .ok (.aload_n 0, 1) := by decide +kernel
theorem dX0_count_56 : decode cX0_count 56 = .ok (.getfield 20, 3) := by decide +kernel
theorem dX0_count_59 : decode cX0_count 59 = .ok (.invokestatic 145, 3) := by decide +kernel
theorem dX0_count_62 : decode cX0_count 62 = .ok (.ireturn, 1) := by decide +kernel
theorem dX0_count_63 : decode cX0_count 63 = .ok (.aload_n 0, 1) := by decide +kernel
theorem dX0_count_64 : decode cX0_count 64 = .ok (.getfield 23, 3) := by decide +kernel
theorem dX0_count_67 : decode cX0_count 67 = .ok (.invokestatic 145, 3) := by decide +kernel
theorem dX0_count_70 : decode cX0_count 70 = .ok (.ireturn, 1) := by decide +kernel
theorem dX0_count_71 : decode cX0_count 71 = .ok (.aload_n 0, 1) := by decide +kernel
theorem dX0_count_72 : decode cX0_count 72 = .ok (.getfield 41, 3) := by decide +kernel
theorem dX0_count_75 : decode cX0_count 75 = .ok (.invokestatic 145, 3) := by decide +kernel
theorem dX0_count_78 : decode cX0_count 78 = .ok (.ireturn, 1) := by decide +kernel
theorem dX0_count_79 : decode cX0_count 79 = .ok (.bipush (-102), 2) := by decide +kernel
theorem dX0_count_81 : decode cX0_count 81 = .ok (.ireturn, 1) := by decide +kernel
set_option maxRecDepth 20000 in
theorem ggX0_digest_X0_mixed : GoodIn wsX0_digest wsX0_mixed := goodIn_r _ [15, 16] (by decide +kernel) (by decide +kernel)
set_option maxRecDepth 20000 in
theorem gX0_digest_X0_mixed : GoodIn wsX0_digest (va_wsS RX0 174 yX0_mixed wsX0_mixed) := goodIn_app (goodIn_of _ (by decide +kernel)) ggX0_digest_X0_mixed
set_option maxRecDepth 20000 in
theorem ggX0_digest_X0_mixedRound : GoodIn wsX0_digest wsX0_mixedRound := goodIn_r _ [20, 3, 2, 21, 22, 23, 24, 14, 25, 12, 13, 15, 16, 35, 36, 37, 38, 39, 40, 41, 42, 43, 44, 45, 46, 47, 48, 49, 50] (by decide +kernel) (by decide +kernel)
set_option maxRecDepth 20000 in
theorem gX0_digest_X0_mixedRound : GoodIn wsX0_digest (wsV RX0 178 RX0 yX0_mixedRound wsX0_mixedRound) := goodIn_app (goodIn_of _ (by decide +kernel)) ggX0_digest_X0_mixedRound
set_option maxRecDepth 20000 in
theorem ggX0_digest_X0_pupilCellOf : GoodIn wsX0_digest wsX0_pupilCellOf := goodIn_r _ [28] (by decide +kernel) (by decide +kernel)
set_option maxRecDepth 20000 in
theorem gX0_digest_X0_pupilCellOf : GoodIn wsX0_digest (va_wsS RX0 90 yX0_pupilCellOf wsX0_pupilCellOf) := goodIn_app (goodIn_of _ (by decide +kernel)) ggX0_digest_X0_pupilCellOf
set_option maxRecDepth 20000 in
theorem ggX0_digest_X0_mixedRow : GoodIn wsX0_digest wsX0_mixedRow := goodIn_r _ [31, 12, 13, 14, 15, 16] (by decide +kernel) (by decide +kernel)
set_option maxRecDepth 20000 in
theorem gX0_digest_X0_mixedRow : GoodIn wsX0_digest (va_wsS RX0 182 yX0_mixedRow wsX0_mixedRow) := goodIn_app (goodIn_of _ (by decide +kernel)) ggX0_digest_X0_mixedRow
set_option maxRecDepth 20000 in
theorem ggX0_digest_X0_programmeCellOf : GoodIn wsX0_digest wsX0_programmeCellOf := goodIn_r _ [34] (by decide +kernel) (by decide +kernel)
set_option maxRecDepth 20000 in
theorem gX0_digest_X0_programmeCellOf : GoodIn wsX0_digest (va_wsS RX0 152 yX0_programmeCellOf wsX0_programmeCellOf) := goodIn_app (goodIn_of _ (by decide +kernel)) ggX0_digest_X0_programmeCellOf
theorem dX0_digest_0 : decode cX0_digest 0 = .ok (.ldc2_w 172, 3) := by decide +kernel
theorem dX0_digest_3 : decode cX0_digest 3 = .ok (.aload_n 0, 1) := by decide +kernel
theorem dX0_digest_4 : decode cX0_digest 4 = .ok (.getfield 7, 3) := by decide +kernel
theorem dX0_digest_7 : decode cX0_digest 7 = .ok (.i2l, 1) := by decide +kernel
theorem dX0_digest_8 : decode cX0_digest 8 = .ok (.invokestatic 174, 3) := by decide +kernel
theorem dX0_digest_11 : decode cX0_digest 11 = .ok (.aload_n 0, 1) := by decide +kernel
theorem dX0_digest_12 : decode cX0_digest 12 = .ok (.getfield 13, 3) := by decide +kernel
theorem dX0_digest_15 : decode cX0_digest 15 = .ok (.i2l, 1) := by decide +kernel
theorem dX0_digest_16 : decode cX0_digest 16 = .ok (.invokestatic 174, 3) := by decide +kernel
theorem dX0_digest_19 : decode cX0_digest 19 = .ok (.lstore_n 1, 1) := by decide +kernel
theorem dX0_digest_20 : decode cX0_digest 20 = .ok (.iconst 0, 1) := by decide +kernel
theorem dX0_digest_21 : decode cX0_digest 21 = .ok (.istore_n 3, 1) := by decide +kernel
theorem dX0_digest_22 : decode cX0_digest 22 = .ok (.iload_n 3, 1) := by decide +kernel
theorem dX0_digest_23 : decode cX0_digest 23 = .ok (.iconst 3, 1) := by decide +kernel
theorem dX0_digest_24 : decode cX0_digest 24 = .ok (.if_icmp .ge 16, 3) := by decide +kernel
theorem dX0_digest_27 : decode cX0_digest 27 = .ok (.aload_n 0, 1) := by decide +kernel
theorem dX0_digest_28 : decode cX0_digest 28 = .ok (.lload_n 1, 1) := by decide +kernel
theorem dX0_digest_29 : decode cX0_digest 29 = .ok (.iload_n 3, 1) := by decide +kernel
theorem dX0_digest_30 : decode cX0_digest 30 = .ok (.invokevirtual 178, 3) := by decide +kernel
theorem dX0_digest_33 : decode cX0_digest 33 = .ok (.lstore_n 1, 1) := by decide +kernel
theorem dX0_digest_34 : decode cX0_digest 34 = .ok (.iinc 3 1, 3) := by decide +kernel
theorem dX0_digest_37 : decode cX0_digest 37 = .ok (.goto (-15), 3) := by decide +kernel
theorem dX0_digest_40 : decode cX0_digest 40 = .ok (.iconst 0, 1) := by decide +kernel
theorem dX0_digest_41 : decode cX0_digest 41 = .ok (.istore_n 3, 1) := by decide +kernel
theorem dX0_digest_42 : decode cX0_digest 42 = .ok (.iload_n 3, 1) := by decide +kernel
theorem dX0_digest_43 : decode cX0_digest 43 = .ok (.aload_n 0, 1) := by decide +kernel
theorem dX0_digest_44 : decode cX0_digest 44 = .ok (.getfield 13, 3) := by decide +kernel
theorem dX0_digest_47 : decode cX0_digest 47 = .ok (.if_icmp .ge 44, 3) := by decide +kernel
theorem dX0_digest_50 : decode cX0_digest 50 = .ok (.iconst 0, 1) := by decide +kernel
theorem dX0_digest_51 : decode cX0_digest 51 = .ok (.istore 4, 2) := by decide +kernel
theorem dX0_digest_53 : decode cX0_digest 53 = .ok (.iload 4, 2) := by decide +kernel
theorem dX0_digest_55 : decode cX0_digest 55 = .ok (.aload_n 0, 1) := by decide +kernel
theorem dX0_digest_56 : decode cX0_digest 56 = .ok (.getfield 7, 3) := by decide +kernel
theorem dX0_digest_59 : decode cX0_digest 59 = .ok (.if_icmp .ge 26, 3) := by decide +kernel
theorem dX0_digest_62 : decode cX0_digest 62 = .ok (.lload_n 1, 1) := by decide +kernel
theorem dX0_digest_63 : decode cX0_digest 63 = .ok (.aload_n 0, 1) := by decide +kernel
theorem dX0_digest_64 : decode cX0_digest 64 = .ok (.getfield 23, 3) := by decide +kernel
theorem dX0_digest_67 : decode cX0_digest 67 = .ok (.iload_n 3, 1) := by decide +kernel
theorem dX0_digest_68 : decode cX0_digest 68 = .ok (.iload 4, 2) := by decide +kernel
theorem dX0_digest_70 : decode cX0_digest 70 = .ok (.invokestatic 90, 3) := by decide +kernel
theorem dX0_digest_73 : decode cX0_digest 73 = .ok (.iaload, 1) := by decide +kernel
theorem dX0_digest_74 : decode cX0_digest 74 = .ok (.i2l, 1) := by decide +kernel
theorem dX0_digest_75 : decode cX0_digest 75 = .ok (.invokestatic 174, 3) := by decide +kernel
theorem dX0_digest_78 : decode cX0_digest 78 = .ok (.lstore_n 1, 1) := by decide +kernel
theorem dX0_digest_79 : decode cX0_digest 79 = .ok (.iinc 4 1, 3) := by decide +kernel
theorem dX0_digest_82 : decode cX0_digest 82 = .ok (.goto (-29), 3) := by decide +kernel
theorem dX0_digest_85 : decode cX0_digest 85 = .ok (.iinc 3 1, 3) := by decide +kernel
theorem dX0_digest_88 : decode cX0_digest 88 = .ok (.goto (-46), 3) := by decide +kernel
theorem dX0_digest_91 : decode cX0_digest 91 = .ok (.lload_n 1, 1) := by decide +kernel
theorem dX0_digest_92 : decode cX0_digest 92 = .ok (.aload_n 0, 1) := by decide +kernel
theorem dX0_digest_93 : decode cX0_digest 93 = .ok (.getfield 26, 3) := by decide +kernel
theorem dX0_digest_96 : decode cX0_digest 96 = .ok (.invokestatic 182, 3) := by decide +kernel
theorem dX0_digest_99 : decode cX0_digest 99 = .ok (.aload_n 0, 1) := by decide +kernel
theorem dX0_digest_100 : decode cX0_digest 100 = .ok (.getfield 29, 3) := by decide +kernel
theorem dX0_digest_103 : decode cX0_digest 103 = .ok (.invokestatic 182, 3) := by decide +kernel
theorem dX0_digest_106 : decode cX0_digest 106 = .ok (.lstore_n 1, 1) := by decide +kernel
theorem dX0_digest_107 : decode cX0_digest 107 = .ok (.lload_n 1, 1) := by decide +kernel
theorem dX0_digest_108 : decode cX0_digest 108 = .ok (.aload_n 0, 1) := by decide +kernel
theorem dX0_digest_109 : decode cX0_digest 109 = .ok (.getfield 32, 3) := by decide +kernel
theorem dX0_digest_112 : decode cX0_digest 112 = .ok (.invokestatic 182, 3) := by decide +kernel
theorem dX0_digest_115 : decode cX0_digest 115 = .ok (.aload_n 0, 1) := by decide +kernel
theorem dX0_digest_116 : decode cX0_digest 116 = .ok (.getfield 35, 3) := by decide +kernel
theorem dX0_digest_119 : decode cX0_digest 119 = .ok (.invokestatic 182, 3) := by decide +kernel
theorem dX0_digest_122 : decode cX0_digest 122 = .ok (.lstore_n 1, 1) := by decide +kernel
theorem dX0_digest_123 : decode cX0_digest 123 = .ok (.iconst 0, 1) := by decide +kernel
theorem dX0_digest_124 : decode cX0_digest 124 = .ok (.istore_n 3, 1) := by decide +kernel
theorem dX0_digest_125 : decode cX0_digest 125 = .ok (.iload_n 3, 1) := by decide +kernel
theorem dX0_digest_126 : decode cX0_digest 126 = .ok (.aload_n 0, 1) := by decide +kernel
theorem dX0_digest_127 : decode cX0_digest 127 = .ok (.getfield 7, 3) := by decide +kernel
theorem dX0_digest_130 : decode cX0_digest 130 = .ok (.if_icmp .ge 58, 3) := by decide +kernel
theorem dX0_digest_133 : decode cX0_digest 133 = .ok (.iconst 0, 1) := by decide +kernel
theorem dX0_digest_134 : decode cX0_digest 134 = .ok (.istore 4, 2) := by decide +kernel
theorem dX0_digest_136 : decode cX0_digest 136 = .ok (.iload 4, 2) := by decide +kernel
theorem dX0_digest_138 : decode cX0_digest 138 = .ok (.aload_n 0, 1) := by decide +kernel
theorem dX0_digest_139 : decode cX0_digest 139 = .ok (.getfield 41, 3) := by decide +kernel
theorem dX0_digest_142 : decode cX0_digest 142 = .ok (.iload_n 3, 1) := by decide +kernel
theorem dX0_digest_143 : decode cX0_digest 143 = .ok (.iaload, 1) := by decide +kernel
theorem dX0_digest_144 : decode cX0_digest 144 = .ok (.if_icmp .ge 26, 3) := by decide +kernel
theorem dX0_digest_147 : decode cX0_digest 147 = .ok (.lload_n 1, 1) := by decide +kernel
theorem dX0_digest_148 : decode cX0_digest 148 = .ok (.aload_n 0, 1) := by decide +kernel
theorem dX0_digest_149 : decode cX0_digest 149 = .ok (.getfield 38, 3) := by decide +kernel
theorem dX0_digest_152 : decode cX0_digest 152 = .ok (.iload_n 3, 1) := by decide +kernel
theorem dX0_digest_153 : decode cX0_digest 153 = .ok (.iload 4, 2) := by decide +kernel
theorem dX0_digest_155 : decode cX0_digest 155 = .ok (.invokestatic 152, 3) := by decide +kernel
theorem dX0_digest_158 : decode cX0_digest 158 = .ok (.iaload, 1) := by decide +kernel
theorem dX0_digest_159 : decode cX0_digest 159 = .ok (.i2l, 1) := by decide +kernel
theorem dX0_digest_160 : decode cX0_digest 160 = .ok (.invokestatic 174, 3) := by decide +kernel
theorem dX0_digest_163 : decode cX0_digest 163 = .ok (.lstore_n 1, 1) := by decide +kernel
theorem dX0_digest_164 : decode cX0_digest 164 = .ok (.iinc 4 1, 3) := by decide +kernel
theorem dX0_digest_167 : decode cX0_digest 167 = .ok (.goto (-31), 3) := by decide +kernel
theorem dX0_digest_170 : decode cX0_digest 170 = .ok (.lload_n 1, 1) := by decide +kernel
theorem dX0_digest_171 : decode cX0_digest 171 = .ok (.aload_n 0, 1) := by decide +kernel
theorem dX0_digest_172 : decode cX0_digest 172 = .ok (.getfield 44, 3) := by decide +kernel
theorem dX0_digest_175 : decode cX0_digest 175 = .ok (.iload_n 3, 1) := by decide +kernel
theorem dX0_digest_176 : decode cX0_digest 176 = .ok (.iaload, 1) := by decide +kernel
theorem dX0_digest_177 : decode cX0_digest 177 = .ok (.i2l, 1) := by decide +kernel
theorem dX0_digest_178 : decode cX0_digest 178 = .ok (.invokestatic 174, 3) := by decide +kernel
theorem dX0_digest_181 : decode cX0_digest 181 = .ok (.lstore_n 1, 1) := by decide +kernel
theorem dX0_digest_182 : decode cX0_digest 182 = .ok (.iinc 3 1, 3) := by decide +kernel
theorem dX0_digest_185 : decode cX0_digest 185 = .ok (.goto (-60), 3) := by decide +kernel
theorem dX0_digest_188 : decode cX0_digest 188 = .ok (.lload_n 1, 1) := by decide +kernel
theorem dX0_digest_189 : decode cX0_digest 189 = .ok (.lreturn, 1) := by decide +kernel
theorem dX0_isWithin_0 : decode cX0_isWithin 0 = .ok (.iload_n 0, 1) := by decide +kernel
theorem dX0_isWithin_1 : decode cX0_isWithin 1 = .ok (.iload_n 1, 1) := by decide +kernel
theorem dX0_isWithin_2 : decode cX0_isWithin 2 = .ok (.if_icmp .lt 12, 3) := by decide +kernel
theorem dX0_isWithin_5 : decode cX0_isWithin 5 = .ok (.iload_n 0, 1) := by decide +kernel
theorem dX0_isWithin_6 : decode cX0_isWithin 6 = .ok (.iload_n 2, 1) := by decide +kernel
theorem dX0_isWithin_7 : decode cX0_isWithin 7 = .ok (.if_icmp .gt 7, 3) := by decide +kernel
theorem dX0_isWithin_10 : decode cX0_isWithin 10 = .ok (.iconst 1, 1) := by decide +kernel
theorem dX0_isWithin_11 : decode cX0_isWithin 11 = .ok (.goto 4, 3) := by decide +kernel
theorem dX0_isWithin_14 : decode cX0_isWithin 14 = .ok (.iconst 0, 1) := by decide +kernel
theorem dX0_isWithin_15 : decode cX0_isWithin 15 = .ok (.ireturn, 1) := by decide +kernel
set_option maxRecDepth 20000 in
theorem ggX0_isRound_X0_isWithin : GoodIn wsX0_isRound wsX0_isWithin := goodIn_r _ [4] (by decide +kernel) (by decide +kernel)
set_option maxRecDepth 20000 in
theorem gX0_isRound_X0_isWithin : GoodIn wsX0_isRound (va_wsS RX0 68 yX0_isWithin wsX0_isWithin) := goodIn_app (goodIn_of _ (by decide +kernel)) ggX0_isRound_X0_isWithin
theorem dX0_isRound_0 : decode cX0_isRound 0 = .ok (.iload_n 0, 1) := by decide +kernel
theorem dX0_isRound_1 : decode cX0_isRound 1 = .ok (.iconst 0, 1) := by decide +kernel
theorem dX0_isRound_2 : decode cX0_isRound 2 = .ok (.iconst 2, 1) := by decide +kernel
theorem dX0_isRound_3 : decode cX0_isRound 3 = .ok (.invokestatic 68, 3) := by decide +kernel
theorem dX0_isRound_6 : decode cX0_isRound 6 = .ok (.ireturn, 1) := by decide +kernel
set_option maxRecDepth 20000 in
theorem ggX0_isJuror_X0_isWithin : GoodIn wsX0_isJuror wsX0_isWithin := goodIn_r _ [5] (by decide +kernel) (by decide +kernel)
set_option maxRecDepth 20000 in
theorem gX0_isJuror_X0_isWithin : GoodIn wsX0_isJuror (va_wsS RX0 68 yX0_isWithin wsX0_isWithin) := goodIn_app (goodIn_of _ (by decide +kernel)) ggX0_isJuror_X0_isWithin
theorem dX0_isJuror_0 : decode cX0_isJuror 0 = .ok (.iload_n 1, 1) := by decide +kernel
theorem dX0_isJuror_1 : decode cX0_isJuror 1 = .ok (.iconst 0, 1) := by decide +kernel
theorem dX0_isJuror_2 : decode cX0_isJuror 2 = .ok (.aload_n 0, 1) := by decide +kernel
theorem dX0_isJuror_3 : decode cX0_isJuror 3 = .ok (.getfield 13, 3) := by decide +kernel
theorem dX0_isJuror_6 : decode cX0_isJuror 6 = .ok (.iconst 1, 1) := by decide +kernel
theorem dX0_isJuror_7 : decode cX0_isJuror 7 = .ok (.isub, 1) := by decide +kernel
theorem dX0_isJuror_8 : decode cX0_isJuror 8 = .ok (.invokestatic 68, 3) := by decide +kernel
theorem dX0_isJuror_11 : decode cX0_isJuror 11 = .ok (.ireturn, 1) := by decide +kernel
set_option maxRecDepth 20000 in
theorem ggX0_isPlayer_X0_isWithin : GoodIn wsX0_isPlayer wsX0_isWithin := goodIn_r _ [5] (by decide +kernel) (by decide +kernel)
set_option maxRecDepth 20000 in
theorem gX0_isPlayer_X0_isWithin : GoodIn wsX0_isPlayer (va_wsS RX0 68 yX0_isWithin wsX0_isWithin) := goodIn_app (goodIn_of _ (by decide +kernel)) ggX0_isPlayer_X0_isWithin
theorem dX0_isPlayer_0 : decode cX0_isPlayer 0 = .ok (.iload_n 1, 1) := by decide +kernel
theorem dX0_isPlayer_1 : decode cX0_isPlayer 1 = .ok (.iconst 0, 1) := by decide +kernel
theorem dX0_isPlayer_2 : decode cX0_isPlayer 2 = .ok (.aload_n 0, 1) := by decide +kernel
theorem dX0_isPlayer_3 : decode cX0_isPlayer 3 = .ok (.getfield 7, 3) := by decide +kernel
theorem dX0_isPlayer_6 : decode cX0_isPlayer 6 = .ok (.iconst 1, 1) := by decide +kernel
theorem dX0_isPlayer_7 : decode cX0_isPlayer 7 = .ok (.isub, 1) := by decide +kernel
theorem dX0_isPlayer_8 : decode cX0_isPlayer 8 = .ok (.invokestatic 68, 3) := by decide +kernel
theorem dX0_isPlayer_11 : decode cX0_isPlayer 11 = .ok (.ireturn, 1) := by decide +kernel
set_option maxRecDepth 20000 in
theorem ggX0_isWay_X0_isWithin : GoodIn wsX0_isWay wsX0_isWithin := goodIn_r _ [4] (by decide +kernel) (by decide +kernel)
set_option maxRecDepth 20000 in
theorem gX0_isWay_X0_isWithin : GoodIn wsX0_isWay (va_wsS RX0 68 yX0_isWithin wsX0_isWithin) := goodIn_app (goodIn_of _ (by decide +kernel)) ggX0_isWay_X0_isWithin
theorem dX0_isWay_0 : decode cX0_isWay 0 = .ok (.iload_n 0, 1) := by decide +kernel
theorem dX0_isWay_1 : decode cX0_isWay 1 = .ok (.iconst 0, 1) := by decide +kernel
theorem dX0_isWay_2 : decode cX0_isWay 2 = .ok (.iconst 5, 1) := by decide +kernel
theorem dX0_isWay_3 : decode cX0_isWay 3 = .ok (.invokestatic 68, 3) := by decide +kernel
theorem dX0_isWay_6 : decode cX0_isWay 6 = .ok (.ireturn, 1) := by decide +kernel
set_option maxRecDepth 20000 in
theorem ggX0_isLimit_X0_isWithin : GoodIn wsX0_isLimit wsX0_isWithin := goodIn_r _ [4] (by decide +kernel) (by decide +kernel)
set_option maxRecDepth 20000 in
theorem gX0_isLimit_X0_isWithin : GoodIn wsX0_isLimit (va_wsS RX0 68 yX0_isWithin wsX0_isWithin) := goodIn_app (goodIn_of _ (by decide +kernel)) ggX0_isLimit_X0_isWithin
theorem dX0_isLimit_0 : decode cX0_isLimit 0 = .ok (.iload_n 0, 1) := by decide +kernel
theorem dX0_isLimit_1 : decode cX0_isLimit 1 = .ok (.iconst 1, 1) := by decide +kernel
theorem dX0_isLimit_2 : decode cX0_isLimit 2 = .ok (.bipush 10, 2) := by decide +kernel
theorem dX0_isLimit_4 : decode cX0_isLimit 4 = .ok (.invokestatic 68, 3) := by decide +kernel
theorem dX0_isLimit_7 : decode cX0_isLimit 7 = .ok (.ireturn, 1) := by decide +kernel
set_option maxRecDepth 20000 in
theorem ggX0_isWork_X0_isWithin : GoodIn wsX0_isWork wsX0_isWithin := goodIn_r _ [4] (by decide +kernel) (by decide +kernel)
set_option maxRecDepth 20000 in
theorem gX0_isWork_X0_isWithin : GoodIn wsX0_isWork (va_wsS RX0 68 yX0_isWithin wsX0_isWithin) := goodIn_app (goodIn_of _ (by decide +kernel)) ggX0_isWork_X0_isWithin
theorem dX0_isWork_0 : decode cX0_isWork 0 = .ok (.iload_n 0, 1) := by decide +kernel
theorem dX0_isWork_1 : decode cX0_isWork 1 = .ok (.iconst 0, 1) := by decide +kernel
theorem dX0_isWork_2 : decode cX0_isWork 2 = .ok (.bipush 11, 2) := by decide +kernel
theorem dX0_isWork_4 : decode cX0_isWork 4 = .ok (.invokestatic 68, 3) := by decide +kernel
theorem dX0_isWork_7 : decode cX0_isWork 7 = .ok (.ireturn, 1) := by decide +kernel
theorem dX0_cellOf_0 : decode cX0_cellOf 0 = .ok (.iload_n 0, 1) := by decide +kernel
theorem dX0_cellOf_1 : decode cX0_cellOf 1 = .ok (.bipush 7, 2) := by decide +kernel
theorem dX0_cellOf_3 : decode cX0_cellOf 3 = .ok (.imul, 1) := by decide +kernel
theorem dX0_cellOf_4 : decode cX0_cellOf 4 = .ok (.iload_n 1, 1) := by decide +kernel
theorem dX0_cellOf_5 : decode cX0_cellOf 5 = .ok (.iadd, 1) := by decide +kernel
theorem dX0_cellOf_6 : decode cX0_cellOf 6 = .ok (.bipush 10, 2) := by decide +kernel
theorem dX0_cellOf_8 : decode cX0_cellOf 8 = .ok (.imul, 1) := by decide +kernel
theorem dX0_cellOf_9 : decode cX0_cellOf 9 = .ok (.iload_n 2, 1) := by decide +kernel
theorem dX0_cellOf_10 : decode cX0_cellOf 10 = .ok (.iadd, 1) := by decide +kernel
theorem dX0_cellOf_11 : decode cX0_cellOf 11 = .ok (.ireturn, 1) := by decide +kernel
theorem dX0_pupilCellOf_0 : decode cX0_pupilCellOf 0 = .ok (.iload_n 0, 1) := by decide +kernel
theorem dX0_pupilCellOf_1 : decode cX0_pupilCellOf 1 = .ok (.bipush 10, 2) := by decide +kernel
theorem dX0_pupilCellOf_3 : decode cX0_pupilCellOf 3 = .ok (.imul, 1) := by decide +kernel
theorem dX0_pupilCellOf_4 : decode cX0_pupilCellOf 4 = .ok (.iload_n 1, 1) := by decide +kernel
theorem dX0_pupilCellOf_5 : decode cX0_pupilCellOf 5 = .ok (.iadd, 1) := by decide +kernel
theorem dX0_pupilCellOf_6 : decode cX0_pupilCellOf 6 = .ok (.ireturn, 1) := by decide +kernel
theorem dX0_programmeCellOf_0 : decode cX0_programmeCellOf 0 = .ok (.iload_n 0, 1) := by decide +kernel
theorem dX0_programmeCellOf_1 : decode cX0_programmeCellOf 1 = .ok (.iconst 3, 1) := by decide +kernel
theorem dX0_programmeCellOf_2 : decode cX0_programmeCellOf 2 = .ok (.imul, 1) := by decide +kernel
theorem dX0_programmeCellOf_3 : decode cX0_programmeCellOf 3 = .ok (.iload_n 1, 1) := by decide +kernel
theorem dX0_programmeCellOf_4 : decode cX0_programmeCellOf 4 = .ok (.iadd, 1) := by decide +kernel
theorem dX0_programmeCellOf_5 : decode cX0_programmeCellOf 5 = .ok (.ireturn, 1) := by decide +kernel
theorem dX0_replace_0 : decode cX0_replace 0 = .ok (.aload_n 0, 1) := by decide +kernel
theorem dX0_replace_1 : decode cX0_replace 1 = .ok (.iload_n 1, 1) := by decide +kernel
theorem dX0_replace_2 : decode cX0_replace 2 = .ok (.iaload, 1) := by decide +kernel
theorem dX0_replace_3 : decode cX0_replace 3 = .ok (.istore_n 3, 1) := by decide +kernel
theorem dX0_replace_4 : decode cX0_replace 4 = .ok (.aload_n 0, 1) := by decide +kernel
theorem dX0_replace_5 : decode cX0_replace 5 = .ok (.iload_n 1, 1) := by decide +kernel
theorem dX0_replace_6 : decode cX0_replace 6 = .ok (.iload_n 2, 1) := by decide +kernel
theorem dX0_replace_7 : decode cX0_replace 7 = .ok (.iastore, 1) := by decide +kernel
theorem dX0_replace_8 : decode cX0_replace 8 = .ok (.iload_n 3, 1) := by decide +kernel
theorem dX0_replace_9 : decode cX0_replace 9 = .ok (.ireturn, 1) := by decide +kernel
set_option maxRecDepth 20000 in
theorem ggX0_clearAll_J7_fill_53178 : GoodIn wsX0_clearAll wsJ7_fill_53178 := goodIn_r _ [9] (by decide +kernel) (by decide +kernel)
set_option maxRecDepth 20000 in
theorem gX0_clearAll_J7_fill_53178 : GoodIn wsX0_clearAll (va_wsS RX0 59 yJ7_fill_53178 wsJ7_fill_53178) := goodIn_app (goodIn_of _ (by decide +kernel)) ggX0_clearAll_J7_fill_53178
theorem dX0_clearAll_0 : decode cX0_clearAll 0 = .ok (.aload_n 0, 1) := by decide +kernel
theorem dX0_clearAll_1 : decode cX0_clearAll 1 = .ok (.getfield 16, 3) := by decide +kernel
theorem dX0_clearAll_4 : decode cX0_clearAll 4 = .ok (.iconst (-1), 1) := by decide +kernel
theorem dX0_clearAll_5 : decode cX0_clearAll 5 = .ok (.invokestatic 59, 3) := by decide +kernel
theorem dX0_clearAll_8 : decode cX0_clearAll 8 = .ok (.aload_n 0, 1) := by decide +kernel
theorem dX0_clearAll_9 : decode cX0_clearAll 9 = .ok (.getfield 20, 3) := by decide +kernel
theorem dX0_clearAll_12 : decode cX0_clearAll 12 = .ok (.iconst 0, 1) := by decide +kernel
theorem dX0_clearAll_13 : decode cX0_clearAll 13 = .ok (.invokestatic 59, 3) := by decide +kernel
theorem dX0_clearAll_16 : decode cX0_clearAll 16 = .ok (.aload_n 0, 1) := by decide +kernel
theorem dX0_clearAll_17 : decode cX0_clearAll 17 = .ok (.getfield 23, 3) := by decide +kernel
theorem dX0_clearAll_20 : decode cX0_clearAll 20 = .ok (.iconst 0, 1) := by decide +kernel
theorem dX0_clearAll_21 : decode cX0_clearAll 21 = .ok (.invokestatic 59, 3) := by decide +kernel
theorem dX0_clearAll_24 : decode cX0_clearAll 24 = .ok (.aload_n 0, 1) := by decide +kernel
theorem dX0_clearAll_25 : decode cX0_clearAll 25 = .ok (.getfield 41, 3) := by decide +kernel
theorem dX0_clearAll_28 : decode cX0_clearAll 28 = .ok (.iconst 0, 1) := by decide +kernel
theorem dX0_clearAll_29 : decode cX0_clearAll 29 = .ok (.invokestatic 59, 3) := by decide +kernel
theorem dX0_clearAll_32 : decode cX0_clearAll 32 = .ok (.aload_n 0, 1) := by decide +kernel
theorem dX0_clearAll_33 : decode cX0_clearAll 33 = .ok (.getfield 44, 3) := by decide +kernel
theorem dX0_clearAll_36 : decode cX0_clearAll 36 = .ok (.iconst (-1), 1) := by decide +kernel
theorem dX0_clearAll_37 : decode cX0_clearAll 37 = .ok (.invokestatic 59, 3) := by decide +kernel
theorem dX0_clearAll_40 : decode cX0_clearAll 40 = .ok (.return_, 1) := by decide +kernel
set_option maxRecDepth 20000 in
theorem ggX0_isPupil_X0_pupilCellOf : GoodIn wsX0_isPupil wsX0_pupilCellOf := goodIn_r _ [5] (by decide +kernel) (by decide +kernel)
set_option maxRecDepth 20000 in
theorem gX0_isPupil_X0_pupilCellOf : GoodIn wsX0_isPupil (va_wsS RX0 90 yX0_pupilCellOf wsX0_pupilCellOf) := goodIn_app (goodIn_of _ (by decide +kernel)) ggX0_isPupil_X0_pupilCellOf
theorem dX0_isPupil_0 : decode cX0_isPupil 0 = .ok (.aload_n 0, 1) := by decide +kernel
theorem dX0_isPupil_1 : decode cX0_isPupil 1 = .ok (.getfield 23, 3) := by decide +kernel
theorem dX0_isPupil_4 : decode cX0_isPupil 4 = .ok (.iload_n 1, 1) := by decide +kernel
theorem dX0_isPupil_5 : decode cX0_isPupil 5 = .ok (.iload_n 2, 1) := by decide +kernel
theorem dX0_isPupil_6 : decode cX0_isPupil 6 = .ok (.invokestatic 90, 3) := by decide +kernel
theorem dX0_isPupil_9 : decode cX0_isPupil 9 = .ok (.iaload, 1) := by decide +kernel
theorem dX0_isPupil_10 : decode cX0_isPupil 10 = .ok (.iconst 1, 1) := by decide +kernel
theorem dX0_isPupil_11 : decode cX0_isPupil 11 = .ok (.if_icmp .ne 7, 3) := by decide +kernel
theorem dX0_isPupil_14 : decode cX0_isPupil 14 = .ok (.iconst 1, 1) := by decide +kernel
theorem dX0_isPupil_15 : decode cX0_isPupil 15 = .ok (.goto 4, 3) := by decide +kernel
theorem dX0_isPupil_18 : decode cX0_isPupil 18 = .ok (.iconst 0, 1) := by decide +kernel
theorem dX0_isPupil_19 : decode cX0_isPupil 19 = .ok (.ireturn, 1) := by decide +kernel
set_option maxRecDepth 20000 in
theorem ggX0_countedMark_X0_pupilCellOf : GoodIn wsX0_countedMark wsX0_pupilCellOf := goodIn_r _ [6] (by decide +kernel) (by decide +kernel)
set_option maxRecDepth 20000 in
theorem gX0_countedMark_X0_pupilCellOf : GoodIn wsX0_countedMark (va_wsS RX0 90 yX0_pupilCellOf wsX0_pupilCellOf) := goodIn_app (goodIn_of _ (by decide +kernel)) ggX0_countedMark_X0_pupilCellOf
set_option maxRecDepth 20000 in
theorem ggX0_countedMark_X0_cellOf : GoodIn wsX0_countedMark wsX0_cellOf := goodIn_r _ [9] (by decide +kernel) (by decide +kernel)
set_option maxRecDepth 20000 in
theorem gX0_countedMark_X0_cellOf : GoodIn wsX0_countedMark (va_wsS RX0 82 yX0_cellOf wsX0_cellOf) := goodIn_app (goodIn_of _ (by decide +kernel)) ggX0_countedMark_X0_cellOf
theorem dX0_countedMark_0 : decode cX0_countedMark 0 = .ok (.aload_n 0, 1) := by decide +kernel
theorem dX0_countedMark_1 : decode cX0_countedMark 1 = .ok (.getfield 23, 3) := by decide +kernel
theorem dX0_countedMark_4 : decode cX0_countedMark 4 = .ok (.iload_n 2, 1) := by decide +kernel
theorem dX0_countedMark_5 : decode cX0_countedMark 5 = .ok (.iload_n 3, 1) := by decide +kernel
theorem dX0_countedMark_6 : decode cX0_countedMark 6 = .ok (.invokestatic 90, 3) := by decide +kernel
theorem dX0_countedMark_9 : decode cX0_countedMark 9 = .ok (.iaload, 1) := by decide +kernel
theorem dX0_countedMark_10 : decode cX0_countedMark 10 = .ok (.iconst 1, 1) := by decide +kernel
theorem dX0_countedMark_11 : decode cX0_countedMark 11 = .ok (.if_icmp .ne 7, 3) := by decide +kernel
theorem dX0_countedMark_14 : decode cX0_countedMark 14 = .ok (.iconst (-1), 1) := by decide +kernel
theorem dX0_countedMark_15 : decode cX0_countedMark 15 = .ok (.goto 14, 3) := by decide +kernel
theorem dX0_countedMark_18 : decode cX0_countedMark 18 = .ok (.aload_n 0, 1) := by decide +kernel
theorem dX0_countedMark_19 : decode cX0_countedMark 19 = .ok (.getfield 16, 3) := by decide +kernel
theorem dX0_countedMark_22 : decode cX0_countedMark 22 = .ok (.iload_n 1, 1) := by decide +kernel
theorem dX0_countedMark_23 : decode cX0_countedMark 23 = .ok (.iload_n 2, 1) := by decide +kernel
theorem dX0_countedMark_24 : decode cX0_countedMark 24 = .ok (.iload_n 3, 1) := by decide +kernel
theorem dX0_countedMark_25 : decode cX0_countedMark 25 = .ok (.invokestatic 82, 3) := by decide +kernel
theorem dX0_countedMark_28 : decode cX0_countedMark 28 = .ok (.iaload, 1) := by decide +kernel
theorem dX0_countedMark_29 : decode cX0_countedMark 29 = .ok (.ireturn, 1) := by decide +kernel
set_option maxRecDepth 20000 in
theorem ggX0_isMarked_X0_countedMark : GoodIn wsX0_isMarked wsX0_countedMark := goodIn_r _ [6, 7, 8, 9, 10, 5, 11, 12, 13, 14, 15, 16, 17, 18, 19, 20, 21, 22, 23, 24, 25, 26, 27, 28, 29, 30] (by decide +kernel) (by decide +kernel)
set_option maxRecDepth 20000 in
theorem gX0_isMarked_X0_countedMark : GoodIn wsX0_isMarked (wsV RX0 186 RX0 yX0_countedMark wsX0_countedMark) := goodIn_app (goodIn_of _ (by decide +kernel)) ggX0_isMarked_X0_countedMark
theorem dX0_isMarked_0 : decode cX0_isMarked 0 = .ok (.iconst 0, 1) := by decide +kernel
theorem dX0_isMarked_1 : decode cX0_isMarked 1 = .ok (.istore_n 3, 1) := by decide +kernel
theorem dX0_isMarked_2 : decode cX0_isMarked 2 = .ok (.iload_n 3, 1) := by decide +kernel
theorem dX0_isMarked_3 : decode cX0_isMarked 3 = .ok (.aload_n 0, 1) := by decide +kernel
theorem dX0_isMarked_4 : decode cX0_isMarked 4 = .ok (.getfield 13, 3) := by decide +kernel
theorem dX0_isMarked_7 : decode cX0_isMarked 7 = .ok (.if_icmp .ge 22, 3) := by decide +kernel
theorem dX0_isMarked_10 : decode cX0_isMarked 10 = .ok (.aload_n 0, 1) := by decide +kernel
theorem dX0_isMarked_11 : decode cX0_isMarked 11 = .ok (.iload_n 1, 1) := by decide +kernel
theorem dX0_isMarked_12 : decode cX0_isMarked 12 = .ok (.iload_n 3, 1) := by decide +kernel
theorem dX0_isMarked_13 : decode cX0_isMarked 13 = .ok (.iload_n 2, 1) := by decide +kernel
theorem dX0_isMarked_14 : decode cX0_isMarked 14 = .ok (.invokevirtual 186, 3) := by decide +kernel
theorem dX0_isMarked_17 : decode cX0_isMarked 17 = .ok (.iconst (-1), 1) := by decide +kernel
theorem dX0_isMarked_18 : decode cX0_isMarked 18 = .ok (.if_icmp .eq 5, 3) := by decide +kernel
theorem dX0_isMarked_21 : decode cX0_isMarked 21 = .ok (.iconst 1, 1) := by decide +kernel
theorem dX0_isMarked_22 : decode cX0_isMarked 22 = .ok (.ireturn, 1) := by decide +kernel
theorem dX0_isMarked_23 : decode cX0_isMarked 23 = .ok (.iinc 3 1, 3) := by decide +kernel
theorem dX0_isMarked_26 : decode cX0_isMarked 26 = .ok (.goto (-24), 3) := by decide +kernel
theorem dX0_isMarked_29 : decode cX0_isMarked 29 = .ok (.iconst 0, 1) := by decide +kernel
theorem dX0_isMarked_30 : decode cX0_isMarked 30 = .ok (.ireturn, 1) := by decide +kernel
set_option maxRecDepth 20000 in
theorem ggX0_scoreOf_X0_sortMarks : GoodIn wsX0_scoreOf wsX0_sortMarks := goodIn_r _ [8, 9, 10, 11, 12, 7, 13, 14, 15, 16, 17, 18, 19, 20, 21, 22, 23, 24, 25, 2, 72, 73, 74, 75, 76, 77, 78, 79, 80, 81, 82, 83, 84, 85, 86, 87] (by decide +kernel) (by decide +kernel)
set_option maxRecDepth 20000 in
theorem gX0_scoreOf_X0_sortMarks : GoodIn wsX0_scoreOf (wsV RX0 189 RX0 yX0_sortMarks wsX0_sortMarks) := goodIn_app (goodIn_of _ (by decide +kernel)) ggX0_scoreOf_X0_sortMarks
set_option maxRecDepth 20000 in
theorem ggX0_scoreOf_X0_cutMean : GoodIn wsX0_scoreOf wsX0_cutMean := goodIn_r _ [29, 30, 31, 32, 33, 7, 34, 3, 35, 36, 37, 38, 2, 72, 73, 74, 75, 76, 77, 78, 79, 80, 81, 82, 83, 84, 85, 86, 87] (by decide +kernel) (by decide +kernel)
set_option maxRecDepth 20000 in
theorem gX0_scoreOf_X0_cutMean : GoodIn wsX0_scoreOf (wsV RX0 192 RX0 yX0_cutMean wsX0_cutMean) := goodIn_app (goodIn_of _ (by decide +kernel)) ggX0_scoreOf_X0_cutMean
set_option maxRecDepth 20000 in
theorem ggX0_scoreOf_X0_countYeses : GoodIn wsX0_scoreOf wsX0_countYeses := goodIn_r _ [42, 9, 43, 10, 11, 12, 7, 13, 14, 15, 16, 17, 18, 19, 20, 21, 72, 73, 74, 75, 76, 77, 78, 79, 80, 81, 82, 83, 84, 85, 86, 87] (by decide +kernel) (by decide +kernel)
set_option maxRecDepth 20000 in
theorem gX0_scoreOf_X0_countYeses : GoodIn wsX0_scoreOf (wsV RX0 197 RX0 yX0_countYeses wsX0_countYeses) := goodIn_app (goodIn_of _ (by decide +kernel)) ggX0_scoreOf_X0_countYeses
set_option maxRecDepth 20000 in
theorem ggX0_scoreOf_X0_pairScore : GoodIn wsX0_scoreOf wsX0_pairScore := goodIn_r _ [47, 48, 49, 50, 51, 7, 52, 9, 10, 11, 12, 13, 14, 15, 16, 17, 18, 19, 20, 21, 53, 54, 55, 56, 57, 58, 59, 60, 72, 73, 74, 75, 76, 77, 78, 79, 80, 81, 82, 83, 84, 85, 86, 87] (by decide +kernel) (by decide +kernel)
set_option maxRecDepth 20000 in
theorem gX0_scoreOf_X0_pairScore : GoodIn wsX0_scoreOf (wsV RX0 200 RX0 yX0_pairScore wsX0_pairScore) := goodIn_app (goodIn_of _ (by decide +kernel)) ggX0_scoreOf_X0_pairScore
set_option maxRecDepth 20000 in
theorem ggX0_scoreOf_X0_pulledMean : GoodIn wsX0_scoreOf wsX0_pulledMean := goodIn_r _ [64, 30, 2, 65, 66, 67, 68, 69, 70, 71, 3, 35, 36, 37, 7, 38, 72, 73, 74, 75, 76, 77, 78, 79, 80, 81, 82, 83, 84, 85, 86, 87] (by decide +kernel) (by decide +kernel)
set_option maxRecDepth 20000 in
theorem gX0_scoreOf_X0_pulledMean : GoodIn wsX0_scoreOf (wsV RX0 203 RX0 yX0_pulledMean wsX0_pulledMean) := goodIn_app (goodIn_of _ (by decide +kernel)) ggX0_scoreOf_X0_pulledMean
set_option maxRecDepth 20000 in
theorem ggX0_scoreOf_X0_meanBetween : GoodIn wsX0_scoreOf wsX0_meanBetween := goodIn_r _ [34, 3, 35, 36, 37, 7, 38, 2, 72, 73, 74, 75, 76, 77, 78, 79, 80, 81, 82, 83, 84, 85, 86, 87] (by decide +kernel) (by decide +kernel)
set_option maxRecDepth 20000 in
theorem gX0_scoreOf_X0_meanBetween : GoodIn wsX0_scoreOf (wsV RX0 206 RX0 yX0_meanBetween wsX0_meanBetween) := goodIn_app (goodIn_of _ (by decide +kernel)) ggX0_scoreOf_X0_meanBetween
theorem dX0_scoreOf_0 : decode cX0_scoreOf 0 = .ok (.aload_n 0, 1) := by decide +kernel
theorem dX0_scoreOf_1 : decode cX0_scoreOf 1 = .ok (.iload_n 1, 1) := by decide +kernel
theorem dX0_scoreOf_2 : decode cX0_scoreOf 2 = .ok (.iload_n 3, 1) := by decide +kernel
theorem dX0_scoreOf_3 : decode cX0_scoreOf 3 = .ok (.invokevirtual 189, 3) := by decide +kernel
theorem dX0_scoreOf_6 : decode cX0_scoreOf 6 = .ok (.istore 4, 2) := by decide +kernel
theorem dX0_scoreOf_8 : decode cX0_scoreOf 8 = .ok (.iload 4, 2) := by decide +kernel
theorem dX0_scoreOf_10 : decode cX0_scoreOf 10 = .ok (.iconst 1, 1) := by decide +kernel
theorem dX0_scoreOf_11 : decode cX0_scoreOf 11 = .ok (.if_icmp .ge 5, 3) := by decide +kernel
theorem dX0_scoreOf_14 : decode cX0_scoreOf 14 = .ok (.iconst (-1), 1) := by decide +kernel
theorem dX0_scoreOf_15 : decode cX0_scoreOf 15 = .ok (.ireturn, 1) := by decide +kernel
theorem dX0_scoreOf_16 : decode cX0_scoreOf 16 = .ok (.iload_n 2, 1) := by decide +kernel
theorem dX0_scoreOf_17 : decode cX0_scoreOf 17 = .ok (.tableswitch 94 1 5 #[35, 42, 67, 80, 87], 35) := by decide +kernel
theorem dX0_scoreOf_52 : decode cX0_scoreOf 52 = .ok (.aload_n 0, 1) := by decide +kernel
theorem dX0_scoreOf_53 : decode cX0_scoreOf 53 = .ok (.iload 4, 2) := by decide +kernel
theorem dX0_scoreOf_55 : decode cX0_scoreOf 55 = .ok (.invokevirtual 192, 3) := by decide +kernel
theorem dX0_scoreOf_58 : decode cX0_scoreOf 58 = .ok (.ireturn, 1) := by decide +kernel
theorem dX0_scoreOf_59 : decode cX0_scoreOf 59 = .ok (.ldc 195, 2) := by decide +kernel
theorem dX0_scoreOf_61 : decode cX0_scoreOf 61 = .ok (.aload_n 0, 1) := by decide +kernel
theorem dX0_scoreOf_62 : decode cX0_scoreOf 62 = .ok (.getfield 47, 3) := by decide +kernel
theorem dX0_scoreOf_65 : decode cX0_scoreOf 65 = .ok (.iload 4, 2) := by decide +kernel
theorem dX0_scoreOf_67 : decode cX0_scoreOf 67 = .ok (.iconst 1, 1) := by decide +kernel
theorem dX0_scoreOf_68 : decode cX0_scoreOf 68 = .ok (.isub, 1) := by decide +kernel
theorem dX0_scoreOf_69 : decode cX0_scoreOf 69 = .ok (.iconst 2, 1) := by decide +kernel
theorem dX0_scoreOf_70 : decode cX0_scoreOf 70 = .ok (.idiv, 1) := by decide +kernel
theorem dX0_scoreOf_71 : decode cX0_scoreOf 71 = .ok (.iaload, 1) := by decide +kernel
theorem dX0_scoreOf_72 : decode cX0_scoreOf 72 = .ok (.aload_n 0, 1) := by decide +kernel
theorem dX0_scoreOf_73 : decode cX0_scoreOf 73 = .ok (.getfield 47, 3) := by decide +kernel
theorem dX0_scoreOf_76 : decode cX0_scoreOf 76 = .ok (.iload 4, 2) := by decide +kernel
theorem dX0_scoreOf_78 : decode cX0_scoreOf 78 = .ok (.iconst 2, 1) := by decide +kernel
theorem dX0_scoreOf_79 : decode cX0_scoreOf 79 = .ok (.idiv, 1) := by decide +kernel
theorem dX0_scoreOf_80 : decode cX0_scoreOf 80 = .ok (.iaload, 1) := by decide +kernel
theorem dX0_scoreOf_81 : decode cX0_scoreOf 81 = .ok (.iadd, 1) := by decide +kernel
theorem dX0_scoreOf_82 : decode cX0_scoreOf 82 = .ok (.imul, 1) := by decide +kernel
theorem dX0_scoreOf_83 : decode cX0_scoreOf 83 = .ok (.ireturn, 1) := by decide +kernel
theorem dX0_scoreOf_84 : decode cX0_scoreOf 84 = .ok (.ldc 196, 2) := by decide +kernel
theorem dX0_scoreOf_86 : decode cX0_scoreOf 86 = .ok (.aload_n 0, 1) := by decide +kernel
theorem dX0_scoreOf_87 : decode cX0_scoreOf 87 = .ok (.iload_n 1, 1) := by decide +kernel
theorem dX0_scoreOf_88 : decode cX0_scoreOf 88 = .ok (.iload_n 3, 1) := by decide +kernel
theorem dX0_scoreOf_89 : decode cX0_scoreOf 89 = .ok (.invokevirtual 197, 3) := by decide +kernel
theorem dX0_scoreOf_92 : decode cX0_scoreOf 92 = .ok (.imul, 1) := by decide +kernel
theorem dX0_scoreOf_93 : decode cX0_scoreOf 93 = .ok (.iload 4, 2) := by decide +kernel
theorem dX0_scoreOf_95 : decode cX0_scoreOf 95 = .ok (.idiv, 1) := by decide +kernel
theorem dX0_scoreOf_96 : decode cX0_scoreOf 96 = .ok (.ireturn, 1) := by decide +kernel
theorem dX0_scoreOf_97 : decode cX0_scoreOf 97 = .ok (.aload_n 0, 1) := by decide +kernel
theorem dX0_scoreOf_98 : decode cX0_scoreOf 98 = .ok (.iload_n 1, 1) := by decide +kernel
theorem dX0_scoreOf_99 : decode cX0_scoreOf 99 = .ok (.iload_n 3, 1) := by decide +kernel
theorem dX0_scoreOf_100 : decode cX0_scoreOf 100 = .ok (.invokevirtual 200, 3) := by decide +kernel
theorem dX0_scoreOf_103 : decode cX0_scoreOf 103 = .ok (.ireturn, 1) := by decide +kernel
theorem dX0_scoreOf_104 : decode cX0_scoreOf 104 = .ok (.aload_n 0, 1) := by decide +kernel
theorem dX0_scoreOf_105 : decode cX0_scoreOf 105 = .ok (.iload 4, 2) := by decide +kernel
theorem dX0_scoreOf_107 : decode cX0_scoreOf 107 = .ok (.invokevirtual 203, 3) := by decide +kernel
theorem dX0_scoreOf_110 : decode cX0_scoreOf 110 = .ok (.ireturn, 1) := by decide +kernel
theorem dX0_scoreOf_111 : decode cX0_scoreOf 111 = .ok (.aload_n 0, 1) := by decide +kernel
theorem dX0_scoreOf_112 : decode cX0_scoreOf 112 = .ok (.iconst 0, 1) := by decide +kernel
theorem dX0_scoreOf_113 : decode cX0_scoreOf 113 = .ok (.iload 4, 2) := by decide +kernel
theorem dX0_scoreOf_115 : decode cX0_scoreOf 115 = .ok (.invokevirtual 206, 3) := by decide +kernel
theorem dX0_scoreOf_118 : decode cX0_scoreOf 118 = .ok (.ireturn, 1) := by decide +kernel
set_option maxRecDepth 20000 in
theorem ggX0_sortMarks_X0_countedMark : GoodIn wsX0_sortMarks wsX0_countedMark := goodIn_r _ [6, 7, 8, 9, 10, 5, 11, 12, 13, 14, 20, 21, 22, 23, 24, 25, 26, 27, 28, 29, 30, 31, 32, 33, 34, 35] (by decide +kernel) (by decide +kernel)
set_option maxRecDepth 20000 in
theorem gX0_sortMarks_X0_countedMark : GoodIn wsX0_sortMarks (wsV RX0 186 RX0 yX0_countedMark wsX0_countedMark) := goodIn_app (goodIn_of _ (by decide +kernel)) ggX0_sortMarks_X0_countedMark
set_option maxRecDepth 20000 in
theorem ggX0_sortMarks_X0_insertMark : GoodIn wsX0_sortMarks wsX0_insertMark := goodIn_r _ [18, 19, 20, 21, 22, 23, 24, 25, 26, 27, 28, 29, 30, 31, 32, 33, 34, 35] (by decide +kernel) (by decide +kernel)
set_option maxRecDepth 20000 in
theorem gX0_sortMarks_X0_insertMark : GoodIn wsX0_sortMarks (wsV RX0 209 RX0 yX0_insertMark wsX0_insertMark) := goodIn_app (goodIn_of _ (by decide +kernel)) ggX0_sortMarks_X0_insertMark
theorem dX0_sortMarks_0 : decode cX0_sortMarks 0 = .ok (.iconst 0, 1) := by decide +kernel
theorem dX0_sortMarks_1 : decode cX0_sortMarks 1 = .ok (.istore_n 3, 1) := by decide +kernel
theorem dX0_sortMarks_2 : decode cX0_sortMarks 2 = .ok (.iconst 0, 1) := by decide +kernel
theorem dX0_sortMarks_3 : decode cX0_sortMarks 3 = .ok (.istore 4, 2) := by decide +kernel
theorem dX0_sortMarks_5 : decode cX0_sortMarks 5 = .ok (.iload 4, 2) := by decide +kernel
theorem dX0_sortMarks_7 : decode cX0_sortMarks 7 = .ok (.aload_n 0, 1) := by decide +kernel
theorem dX0_sortMarks_8 : decode cX0_sortMarks 8 = .ok (.getfield 13, 3) := by decide +kernel
theorem dX0_sortMarks_11 : decode cX0_sortMarks 11 = .ok (.if_icmp .ge 35, 3) := by decide +kernel
theorem dX0_sortMarks_14 : decode cX0_sortMarks 14 = .ok (.aload_n 0, 1) := by decide +kernel
theorem dX0_sortMarks_15 : decode cX0_sortMarks 15 = .ok (.iload_n 1, 1) := by decide +kernel
theorem dX0_sortMarks_16 : decode cX0_sortMarks 16 = .ok (.iload 4, 2) := by decide +kernel
theorem dX0_sortMarks_18 : decode cX0_sortMarks 18 = .ok (.iload_n 2, 1) := by decide +kernel
theorem dX0_sortMarks_19 : decode cX0_sortMarks 19 = .ok (.invokevirtual 186, 3) := by decide +kernel
theorem dX0_sortMarks_22 : decode cX0_sortMarks 22 = .ok (.istore 5, 2) := by decide +kernel
theorem dX0_sortMarks_24 : decode cX0_sortMarks 24 = .ok (.iload 5, 2) := by decide +kernel
theorem dX0_sortMarks_26 : decode cX0_sortMarks 26 = .ok (.iconst (-1), 1) := by decide +kernel
theorem dX0_sortMarks_27 : decode cX0_sortMarks 27 = .ok (.if_icmp .eq 13, 3) := by decide +kernel
theorem dX0_sortMarks_30 : decode cX0_sortMarks 30 = .ok (.aload_n 0, 1) := by decide +kernel
theorem dX0_sortMarks_31 : decode cX0_sortMarks 31 = .ok (.iload_n 3, 1) := by decide +kernel
theorem dX0_sortMarks_32 : decode cX0_sortMarks 32 = .ok (.iload 5, 2) := by decide +kernel
theorem dX0_sortMarks_34 : decode cX0_sortMarks 34 = .ok (.invokevirtual 209, 3) := by decide +kernel
theorem dX0_sortMarks_37 : decode cX0_sortMarks 37 = .ok (.iinc 3 1, 3) := by decide +kernel
theorem dX0_sortMarks_40 : decode cX0_sortMarks 40 = .ok (.iinc 4 1, 3) := by decide +kernel
theorem dX0_sortMarks_43 : decode cX0_sortMarks 43 = .ok (.goto (-38), 3) := by decide +kernel
theorem dX0_sortMarks_46 : decode cX0_sortMarks 46 = .ok (.iload_n 3, 1) := by decide +kernel
theorem dX0_sortMarks_47 : decode cX0_sortMarks 47 = .ok (.ireturn, 1) := by decide +kernel
theorem dX0_insertMark_0 : decode cX0_insertMark 0 = .ok (.iload_n 1, 1) := by decide +kernel
theorem dX0_insertMark_1 : decode cX0_insertMark 1 = .ok (.istore_n 3, 1) := by decide +kernel
theorem dX0_insertMark_2 : decode cX0_insertMark 2 = .ok (.iload_n 3, 1) := by decide +kernel
theorem dX0_insertMark_3 : decode cX0_insertMark 3 = .ok (.ifCond .le 35, 3) := by decide +kernel
theorem dX0_insertMark_6 : decode cX0_insertMark 6 = .ok (.aload_n 0, 1) := by decide +kernel
theorem dX0_insertMark_7 : decode cX0_insertMark 7 = .ok (.getfield 47, 3) := by decide +kernel
theorem dX0_insertMark_10 : decode cX0_insertMark 10 = .ok (.iload_n 3, 1) := by decide +kernel
theorem dX0_insertMark_11 : decode cX0_insertMark 11 = .ok (.iconst 1, 1) := by decide +kernel
theorem dX0_insertMark_12 : decode cX0_insertMark 12 = .ok (.isub, 1) := by decide +kernel
theorem dX0_insertMark_13 : decode cX0_insertMark 13 = .ok (.iaload, 1) := by decide +kernel
theorem dX0_insertMark_14 : decode cX0_insertMark 14 = .ok (.iload_n 2, 1) := by decide +kernel
theorem dX0_insertMark_15 : decode cX0_insertMark 15 = .ok (.if_icmp .le 23, 3) := by decide +kernel
theorem dX0_insertMark_18 : decode cX0_insertMark 18 = .ok (.aload_n 0, 1) := by decide +kernel
theorem dX0_insertMark_19 : decode cX0_insertMark 19 = .ok (.getfield 47, 3) := by decide +kernel
theorem dX0_insertMark_22 : decode cX0_insertMark 22 = .ok (.iload_n 3, 1) := by decide +kernel
theorem dX0_insertMark_23 : decode cX0_insertMark 23 = .ok (.aload_n 0, 1) := by decide +kernel
theorem dX0_insertMark_24 : decode cX0_insertMark 24 = .ok (.getfield 47, 3) := by decide +kernel
theorem dX0_insertMark_27 : decode cX0_insertMark 27 = .ok (.iload_n 3, 1) := by decide +kernel
theorem dX0_insertMark_28 : decode cX0_insertMark 28 = .ok (.iconst 1, 1) := by decide +kernel
theorem dX0_insertMark_29 : decode cX0_insertMark 29 = .ok (.isub, 1) := by decide +kernel
theorem dX0_insertMark_30 : decode cX0_insertMark 30 = .ok (.iaload, 1) := by decide +kernel
theorem dX0_insertMark_31 : decode cX0_insertMark 31 = .ok (.iastore, 1) := by decide +kernel
theorem dX0_insertMark_32 : decode cX0_insertMark 32 = .ok (.iinc 3 (-1), 3) := by decide +kernel
theorem dX0_insertMark_35 : decode cX0_insertMark 35 = .ok (.goto (-33), 3) := by decide +kernel
theorem dX0_insertMark_38 : decode cX0_insertMark 38 = .ok (.aload_n 0, 1) := by decide +kernel
theorem dX0_insertMark_39 : decode cX0_insertMark 39 = .ok (.getfield 47, 3) := by decide +kernel
theorem dX0_insertMark_42 : decode cX0_insertMark 42 = .ok (.iload_n 3, 1) := by decide +kernel
theorem dX0_insertMark_43 : decode cX0_insertMark 43 = .ok (.iload_n 2, 1) := by decide +kernel
theorem dX0_insertMark_44 : decode cX0_insertMark 44 = .ok (.iastore, 1) := by decide +kernel
theorem dX0_insertMark_45 : decode cX0_insertMark 45 = .ok (.return_, 1) := by decide +kernel
theorem dX0_sumBetween_0 : decode cX0_sumBetween 0 = .ok (.iconst 0, 1) := by decide +kernel
theorem dX0_sumBetween_1 : decode cX0_sumBetween 1 = .ok (.istore_n 3, 1) := by decide +kernel
theorem dX0_sumBetween_2 : decode cX0_sumBetween 2 = .ok (.iload_n 1, 1) := by decide +kernel
theorem dX0_sumBetween_3 : decode cX0_sumBetween 3 = .ok (.istore 4, 2) := by decide +kernel
theorem dX0_sumBetween_5 : decode cX0_sumBetween 5 = .ok (.iload 4, 2) := by decide +kernel
theorem dX0_sumBetween_7 : decode cX0_sumBetween 7 = .ok (.iload_n 2, 1) := by decide +kernel
theorem dX0_sumBetween_8 : decode cX0_sumBetween 8 = .ok (.if_icmp .ge 19, 3) := by decide +kernel
theorem dX0_sumBetween_11 : decode cX0_sumBetween 11 = .ok (.iload_n 3, 1) := by decide +kernel
theorem dX0_sumBetween_12 : decode cX0_sumBetween 12 = .ok (.aload_n 0, 1) := by decide +kernel
theorem dX0_sumBetween_13 : decode cX0_sumBetween 13 = .ok (.getfield 47, 3) := by decide +kernel
theorem dX0_sumBetween_16 : decode cX0_sumBetween 16 = .ok (.iload 4, 2) := by decide +kernel
theorem dX0_sumBetween_18 : decode cX0_sumBetween 18 = .ok (.iaload, 1) := by decide +kernel
theorem dX0_sumBetween_19 : decode cX0_sumBetween 19 = .ok (.iadd, 1) := by decide +kernel
theorem dX0_sumBetween_20 : decode cX0_sumBetween 20 = .ok (.istore_n 3, 1) := by decide +kernel
theorem dX0_sumBetween_21 : decode cX0_sumBetween 21 = .ok (.iinc 4 1, 3) := by decide +kernel
theorem dX0_sumBetween_24 : decode cX0_sumBetween 24 = .ok (.goto (-19), 3) := by decide +kernel
theorem dX0_sumBetween_27 : decode cX0_sumBetween 27 = .ok (.iload_n 3, 1) := by decide +kernel
theorem dX0_sumBetween_28 : decode cX0_sumBetween 28 = .ok (.ireturn, 1) := by decide +kernel
set_option maxRecDepth 20000 in
theorem ggX0_meanBetween_X0_sumBetween : GoodIn wsX0_meanBetween wsX0_sumBetween := goodIn_r _ [6, 7, 8, 9, 10, 11, 12, 13, 14, 15, 16, 17, 18, 19, 20, 21, 22, 23] (by decide +kernel) (by decide +kernel)
set_option maxRecDepth 20000 in
theorem gX0_meanBetween_X0_sumBetween : GoodIn wsX0_meanBetween (wsV RX0 212 RX0 yX0_sumBetween wsX0_sumBetween) := goodIn_app (goodIn_of _ (by decide +kernel)) ggX0_meanBetween_X0_sumBetween
theorem dX0_meanBetween_0 : decode cX0_meanBetween 0 = .ok (.iload_n 2, 1) := by decide +kernel
theorem dX0_meanBetween_1 : decode cX0_meanBetween 1 = .ok (.iload_n 1, 1) := by decide +kernel
theorem dX0_meanBetween_2 : decode cX0_meanBetween 2 = .ok (.if_icmp .gt 5, 3) := by decide +kernel
theorem dX0_meanBetween_5 : decode cX0_meanBetween 5 = .ok (.iconst (-1), 1) := by decide +kernel
theorem dX0_meanBetween_6 : decode cX0_meanBetween 6 = .ok (.ireturn, 1) := by decide +kernel
theorem dX0_meanBetween_7 : decode cX0_meanBetween 7 = .ok (.ldc 196, 2) := by decide +kernel
theorem dX0_meanBetween_9 : decode cX0_meanBetween 9 = .ok (.aload_n 0, 1) := by decide +kernel
theorem dX0_meanBetween_10 : decode cX0_meanBetween 10 = .ok (.iload_n 1, 1) := by decide +kernel
theorem dX0_meanBetween_11 : decode cX0_meanBetween 11 = .ok (.iload_n 2, 1) := by decide +kernel
theorem dX0_meanBetween_12 : decode cX0_meanBetween 12 = .ok (.invokevirtual 212, 3) := by decide +kernel
theorem dX0_meanBetween_15 : decode cX0_meanBetween 15 = .ok (.imul, 1) := by decide +kernel
theorem dX0_meanBetween_16 : decode cX0_meanBetween 16 = .ok (.iload_n 2, 1) := by decide +kernel
theorem dX0_meanBetween_17 : decode cX0_meanBetween 17 = .ok (.iload_n 1, 1) := by decide +kernel
theorem dX0_meanBetween_18 : decode cX0_meanBetween 18 = .ok (.isub, 1) := by decide +kernel
theorem dX0_meanBetween_19 : decode cX0_meanBetween 19 = .ok (.idiv, 1) := by decide +kernel
theorem dX0_meanBetween_20 : decode cX0_meanBetween 20 = .ok (.ireturn, 1) := by decide +kernel
set_option maxRecDepth 20000 in
theorem ggX0_cutMean_X0_meanBetween : GoodIn wsX0_cutMean wsX0_meanBetween := goodIn_r _ [6, 7, 8, 9, 10, 5, 11, 12, 13, 14, 15, 16, 17, 18, 19, 20, 21, 22, 23, 24, 25, 26, 27, 28] (by decide +kernel) (by decide +kernel)
set_option maxRecDepth 20000 in
theorem gX0_cutMean_X0_meanBetween : GoodIn wsX0_cutMean (wsV RX0 206 RX0 yX0_meanBetween wsX0_meanBetween) := goodIn_app (goodIn_of _ (by decide +kernel)) ggX0_cutMean_X0_meanBetween
theorem dX0_cutMean_0 : decode cX0_cutMean 0 = .ok (.iload_n 1, 1) := by decide +kernel
theorem dX0_cutMean_1 : decode cX0_cutMean 1 = .ok (.iconst 2, 1) := by decide +kernel
theorem dX0_cutMean_2 : decode cX0_cutMean 2 = .ok (.aload_n 0, 1) := by decide +kernel
theorem dX0_cutMean_3 : decode cX0_cutMean 3 = .ok (.getfield 26, 3) := by decide +kernel
theorem dX0_cutMean_6 : decode cX0_cutMean 6 = .ok (.iconst 0, 1) := by decide +kernel
theorem dX0_cutMean_7 : decode cX0_cutMean 7 = .ok (.iaload, 1) := by decide +kernel
theorem dX0_cutMean_8 : decode cX0_cutMean 8 = .ok (.imul, 1) := by decide +kernel
theorem dX0_cutMean_9 : decode cX0_cutMean 9 = .ok (.if_icmp .le 12, 3) := by decide +kernel
theorem dX0_cutMean_12 : decode cX0_cutMean 12 = .ok (.aload_n 0, 1) := by decide +kernel
theorem dX0_cutMean_13 : decode cX0_cutMean 13 = .ok (.getfield 26, 3) := by decide +kernel
theorem dX0_cutMean_16 : decode cX0_cutMean 16 = .ok (.iconst 0, 1) := by decide +kernel
theorem dX0_cutMean_17 : decode cX0_cutMean 17 = .ok (.iaload, 1) := by decide +kernel
theorem dX0_cutMean_18 : decode cX0_cutMean 18 = .ok (.goto 4, 3) := by decide +kernel
theorem dX0_cutMean_21 : decode cX0_cutMean 21 = .ok (.iconst 0, 1) := by decide +kernel
theorem dX0_cutMean_22 : decode cX0_cutMean 22 = .ok (.istore_n 2, 1) := by decide +kernel
theorem dX0_cutMean_23 : decode cX0_cutMean 23 = .ok (.aload_n 0, 1) := by decide +kernel
theorem dX0_cutMean_24 : decode cX0_cutMean 24 = .ok (.iload_n 2, 1) := by decide +kernel
theorem dX0_cutMean_25 : decode cX0_cutMean 25 = .ok (.iload_n 1, 1) := by decide +kernel
theorem dX0_cutMean_26 : decode cX0_cutMean 26 = .ok (.iload_n 2, 1) := by decide +kernel
theorem dX0_cutMean_27 : decode cX0_cutMean 27 = .ok (.isub, 1) := by decide +kernel
theorem dX0_cutMean_28 : decode cX0_cutMean 28 = .ok (.invokevirtual 206, 3) := by decide +kernel
theorem dX0_cutMean_31 : decode cX0_cutMean 31 = .ok (.ireturn, 1) := by decide +kernel
set_option maxRecDepth 20000 in
theorem ggX0_pulledMean_X0_sumBetween : GoodIn wsX0_pulledMean wsX0_sumBetween := goodIn_r _ [15, 2, 16, 17, 18, 19, 20, 21, 22, 23, 24, 25, 26, 27, 28, 29, 30, 31] (by decide +kernel) (by decide +kernel)
set_option maxRecDepth 20000 in
theorem gX0_pulledMean_X0_sumBetween : GoodIn wsX0_pulledMean (wsV RX0 212 RX0 yX0_sumBetween wsX0_sumBetween) := goodIn_app (goodIn_of _ (by decide +kernel)) ggX0_pulledMean_X0_sumBetween
theorem dX0_pulledMean_0 : decode cX0_pulledMean 0 = .ok (.iload_n 1, 1) := by decide +kernel
theorem dX0_pulledMean_1 : decode cX0_pulledMean 1 = .ok (.iconst 1, 1) := by decide +kernel
theorem dX0_pulledMean_2 : decode cX0_pulledMean 2 = .ok (.if_icmp .ge 5, 3) := by decide +kernel
theorem dX0_pulledMean_5 : decode cX0_pulledMean 5 = .ok (.iconst (-1), 1) := by decide +kernel
theorem dX0_pulledMean_6 : decode cX0_pulledMean 6 = .ok (.ireturn, 1) := by decide +kernel
theorem dX0_pulledMean_7 : decode cX0_pulledMean 7 = .ok (.aload_n 0, 1) := by decide +kernel
theorem dX0_pulledMean_8 : decode cX0_pulledMean 8 = .ok (.iconst 0, 1) := by decide +kernel
theorem dX0_pulledMean_9 : decode cX0_pulledMean 9 = .ok (.iload_n 1, 1) := by decide +kernel
theorem dX0_pulledMean_10 : decode cX0_pulledMean 10 = .ok (.invokevirtual 212, 3) := by decide +kernel
theorem dX0_pulledMean_13 : decode cX0_pulledMean 13 = .ok (.istore_n 2, 1) := by decide +kernel
theorem dX0_pulledMean_14 : decode cX0_pulledMean 14 = .ok (.iload_n 2, 1) := by decide +kernel
theorem dX0_pulledMean_15 : decode cX0_pulledMean 15 = .ok (.iload_n 1, 1) := by decide +kernel
theorem dX0_pulledMean_16 : decode cX0_pulledMean 16 = .ok (.aload_n 0, 1) := by decide +kernel
theorem dX0_pulledMean_17 : decode cX0_pulledMean 17 = .ok (.getfield 26, 3) := by decide +kernel
theorem dX0_pulledMean_20 : decode cX0_pulledMean 20 = .ok (.iconst 1, 1) := by decide +kernel
theorem dX0_pulledMean_21 : decode cX0_pulledMean 21 = .ok (.iaload, 1) := by decide +kernel
theorem dX0_pulledMean_22 : decode cX0_pulledMean 22 = .ok (.imul, 1) := by decide +kernel
theorem dX0_pulledMean_23 : decode cX0_pulledMean 23 = .ok (.isub, 1) := by decide +kernel
theorem dX0_pulledMean_24 : decode cX0_pulledMean 24 = .ok (.istore_n 3, 1) := by decide +kernel
theorem dX0_pulledMean_25 : decode cX0_pulledMean 25 = .ok (.iload_n 2, 1) := by decide +kernel
theorem dX0_pulledMean_26 : decode cX0_pulledMean 26 = .ok (.iload_n 1, 1) := by decide +kernel
theorem dX0_pulledMean_27 : decode cX0_pulledMean 27 = .ok (.aload_n 0, 1) := by decide +kernel
theorem dX0_pulledMean_28 : decode cX0_pulledMean 28 = .ok (.getfield 26, 3) := by decide +kernel
theorem dX0_pulledMean_31 : decode cX0_pulledMean 31 = .ok (.iconst 1, 1) := by decide +kernel
theorem dX0_pulledMean_32 : decode cX0_pulledMean 32 = .ok (.iaload, 1) := by decide +kernel
theorem dX0_pulledMean_33 : decode cX0_pulledMean 33 = .ok (.imul, 1) := by decide +kernel
theorem dX0_pulledMean_34 : decode cX0_pulledMean 34 = .ok (.iadd, 1) := by decide +kernel
theorem dX0_pulledMean_35 : decode cX0_pulledMean 35 = .ok (.istore 4, 2) := by decide +kernel
theorem dX0_pulledMean_37 : decode cX0_pulledMean 37 = .ok (.iconst 0, 1) := by decide +kernel
theorem dX0_pulledMean_38 : decode cX0_pulledMean 38 = .ok (.istore 5, 2) := by decide +kernel
theorem dX0_pulledMean_40 : decode cX0_pulledMean 40 = .ok (.iconst 0, 1) := by decide +kernel
theorem dX0_pulledMean_41 : decode cX0_pulledMean 41 = .ok (.istore 6, 2) := by decide +kernel
theorem dX0_pulledMean_43 : decode cX0_pulledMean 43 = .ok (.iload 6, 2) := by decide +kernel
theorem dX0_pulledMean_45 : decode cX0_pulledMean 45 = .ok (.iload_n 1, 1) := by decide +kernel
theorem dX0_pulledMean_46 : decode cX0_pulledMean 46 = .ok (.if_icmp .ge 32, 3) := by decide +kernel
theorem dX0_pulledMean_49 : decode cX0_pulledMean 49 = .ok (.iload 5, 2) := by decide +kernel
theorem dX0_pulledMean_51 : decode cX0_pulledMean 51 = .ok (.iload 4, 2) := by decide +kernel
theorem dX0_pulledMean_53 : decode cX0_pulledMean 53 = .ok (.iload_n 3, 1) := by decide +kernel
theorem dX0_pulledMean_54 : decode cX0_pulledMean 54 = .ok (.iload_n 1, 1) := by decide +kernel
theorem dX0_pulledMean_55 : decode cX0_pulledMean 55 = .ok (.aload_n 0, 1) := by decide +kernel
theorem dX0_pulledMean_56 : decode cX0_pulledMean 56 = .ok (.getfield 47, 3) := by decide +kernel
theorem dX0_pulledMean_59 : decode cX0_pulledMean 59 = .ok (.iload 6, 2) := by decide +kernel
theorem dX0_pulledMean_61 : decode cX0_pulledMean 61 = .ok (.iaload, 1) := by decide +kernel
theorem dX0_pulledMean_62 : decode cX0_pulledMean 62 = .ok (.imul, 1) := by decide +kernel
theorem dX0_pulledMean_63 : decode cX0_pulledMean 63 = .ok (.invokestatic 215, 3) := by decide +kernel
theorem dX0_pulledMean_66 : decode cX0_pulledMean 66 = .ok (.invokestatic 220, 3) := by decide +kernel
theorem dX0_pulledMean_69 : decode cX0_pulledMean 69 = .ok (.iadd, 1) := by decide +kernel
theorem dX0_pulledMean_70 : decode cX0_pulledMean 70 = .ok (.istore 5, 2) := by decide +kernel
theorem dX0_pulledMean_72 : decode cX0_pulledMean 72 = .ok (.iinc 6 1, 3) := by decide +kernel
theorem dX0_pulledMean_75 : decode cX0_pulledMean 75 = .ok (.goto (-32), 3) := by decide +kernel
theorem dX0_pulledMean_78 : decode cX0_pulledMean 78 = .ok (.ldc 196, 2) := by decide +kernel
theorem dX0_pulledMean_80 : decode cX0_pulledMean 80 = .ok (.iload_n 1, 1) := by decide +kernel
theorem dX0_pulledMean_81 : decode cX0_pulledMean 81 = .ok (.iload_n 1, 1) := by decide +kernel
theorem dX0_pulledMean_82 : decode cX0_pulledMean 82 = .ok (.imul, 1) := by decide +kernel
theorem dX0_pulledMean_83 : decode cX0_pulledMean 83 = .ok (.idiv, 1) := by decide +kernel
theorem dX0_pulledMean_84 : decode cX0_pulledMean 84 = .ok (.iload 5, 2) := by decide +kernel
theorem dX0_pulledMean_86 : decode cX0_pulledMean 86 = .ok (.imul, 1) := by decide +kernel
theorem dX0_pulledMean_87 : decode cX0_pulledMean 87 = .ok (.ireturn, 1) := by decide +kernel
set_option maxRecDepth 20000 in
theorem ggX0_countYeses_X0_countedMark : GoodIn wsX0_countYeses wsX0_countedMark := goodIn_r _ [7, 8, 9, 10, 11, 6, 12, 13, 14, 15, 16, 17, 18, 19, 20, 21, 22, 23, 24, 25, 26, 27, 28, 29, 30, 31] (by decide +kernel) (by decide +kernel)
set_option maxRecDepth 20000 in
theorem gX0_countYeses_X0_countedMark : GoodIn wsX0_countYeses (wsV RX0 186 RX0 yX0_countedMark wsX0_countedMark) := goodIn_app (goodIn_of _ (by decide +kernel)) ggX0_countYeses_X0_countedMark
set_option maxRecDepth 20000 in
theorem ggX0_countYeses_X0_cellOf : GoodIn wsX0_countYeses wsX0_cellOf := goodIn_r _ [15] (by decide +kernel) (by decide +kernel)
set_option maxRecDepth 20000 in
theorem gX0_countYeses_X0_cellOf : GoodIn wsX0_countYeses (va_wsS RX0 82 yX0_cellOf wsX0_cellOf) := goodIn_app (goodIn_of _ (by decide +kernel)) ggX0_countYeses_X0_cellOf
theorem dX0_countYeses_0 : decode cX0_countYeses 0 = .ok (.iconst 0, 1) := by decide +kernel
theorem dX0_countYeses_1 : decode cX0_countYeses 1 = .ok (.istore_n 3, 1) := by decide +kernel
theorem dX0_countYeses_2 : decode cX0_countYeses 2 = .ok (.iconst 0, 1) := by decide +kernel
theorem dX0_countYeses_3 : decode cX0_countYeses 3 = .ok (.istore 4, 2) := by decide +kernel
theorem dX0_countYeses_5 : decode cX0_countYeses 5 = .ok (.iload 4, 2) := by decide +kernel
theorem dX0_countYeses_7 : decode cX0_countYeses 7 = .ok (.aload_n 0, 1) := by decide +kernel
theorem dX0_countYeses_8 : decode cX0_countYeses 8 = .ok (.getfield 13, 3) := by decide +kernel
theorem dX0_countYeses_11 : decode cX0_countYeses 11 = .ok (.if_icmp .ge 36, 3) := by decide +kernel
theorem dX0_countYeses_14 : decode cX0_countYeses 14 = .ok (.aload_n 0, 1) := by decide +kernel
theorem dX0_countYeses_15 : decode cX0_countYeses 15 = .ok (.iload_n 1, 1) := by decide +kernel
theorem dX0_countYeses_16 : decode cX0_countYeses 16 = .ok (.iload 4, 2) := by decide +kernel
theorem dX0_countYeses_18 : decode cX0_countYeses 18 = .ok (.iload_n 2, 1) := by decide +kernel
theorem dX0_countYeses_19 : decode cX0_countYeses 19 = .ok (.invokevirtual 186, 3) := by decide +kernel
theorem dX0_countYeses_22 : decode cX0_countYeses 22 = .ok (.iconst (-1), 1) := by decide +kernel
theorem dX0_countYeses_23 : decode cX0_countYeses 23 = .ok (.if_icmp .eq 18, 3) := by decide +kernel
theorem dX0_countYeses_26 : decode cX0_countYeses 26 = .ok (.iload_n 3, 1) := by decide +kernel
theorem dX0_countYeses_27 : decode cX0_countYeses 27 = .ok (.aload_n 0, 1) := by decide +kernel
theorem dX0_countYeses_28 : decode cX0_countYeses 28 = .ok (.getfield 20, 3) := by decide +kernel
theorem dX0_countYeses_31 : decode cX0_countYeses 31 = .ok (.iload_n 1, 1) := by decide +kernel
theorem dX0_countYeses_32 : decode cX0_countYeses 32 = .ok (.iload 4, 2) := by decide +kernel
theorem dX0_countYeses_34 : decode cX0_countYeses 34 = .ok (.iload_n 2, 1) := by decide +kernel
theorem dX0_countYeses_35 : decode cX0_countYeses 35 = .ok (.invokestatic 82, 3) := by decide +kernel
theorem dX0_countYeses_38 : decode cX0_countYeses 38 = .ok (.iaload, 1) := by decide +kernel
theorem dX0_countYeses_39 : decode cX0_countYeses 39 = .ok (.iadd, 1) := by decide +kernel
theorem dX0_countYeses_40 : decode cX0_countYeses 40 = .ok (.istore_n 3, 1) := by decide +kernel
theorem dX0_countYeses_41 : decode cX0_countYeses 41 = .ok (.iinc 4 1, 3) := by decide +kernel
theorem dX0_countYeses_44 : decode cX0_countYeses 44 = .ok (.goto (-39), 3) := by decide +kernel
theorem dX0_countYeses_47 : decode cX0_countYeses 47 = .ok (.iload_n 3, 1) := by decide +kernel
theorem dX0_countYeses_48 : decode cX0_countYeses 48 = .ok (.ireturn, 1) := by decide +kernel
set_option maxRecDepth 20000 in
theorem ggX0_pairScore_X0_isMarked : GoodIn wsX0_pairScore wsX0_isMarked := goodIn_r _ [6, 7, 8, 9, 10, 5, 11, 12, 13, 14, 15, 16, 17, 18, 19, 28, 29, 30, 31, 32, 33, 34, 35, 36, 37, 38, 39, 40, 41, 42, 43] (by decide +kernel) (by decide +kernel)
set_option maxRecDepth 20000 in
theorem gX0_pairScore_X0_isMarked : GoodIn wsX0_pairScore (wsV RX0 223 RX0 yX0_isMarked wsX0_isMarked) := goodIn_app (goodIn_of _ (by decide +kernel)) ggX0_pairScore_X0_isMarked
set_option maxRecDepth 20000 in
theorem ggX0_pairScore_X0_duel : GoodIn wsX0_pairScore wsX0_duel := goodIn_r _ [23, 7, 8, 9, 10, 5, 11, 12, 13, 14, 15, 16, 17, 18, 19, 24, 25, 26, 27, 28, 29, 30, 31, 32, 33, 34, 35, 36, 37, 38, 39, 40, 41, 42, 43] (by decide +kernel) (by decide +kernel)
set_option maxRecDepth 20000 in
theorem gX0_pairScore_X0_duel : GoodIn wsX0_pairScore (wsV RX0 100 RX0 yX0_duel wsX0_duel) := goodIn_app (goodIn_of _ (by decide +kernel)) ggX0_pairScore_X0_duel
theorem dX0_pairScore_0 : decode cX0_pairScore 0 = .ok (.iconst 0, 1) := by decide +kernel
theorem dX0_pairScore_1 : decode cX0_pairScore 1 = .ok (.istore_n 3, 1) := by decide +kernel
theorem dX0_pairScore_2 : decode cX0_pairScore 2 = .ok (.iconst 0, 1) := by decide +kernel
theorem dX0_pairScore_3 : decode cX0_pairScore 3 = .ok (.istore 4, 2) := by decide +kernel
theorem dX0_pairScore_5 : decode cX0_pairScore 5 = .ok (.iload 4, 2) := by decide +kernel
theorem dX0_pairScore_7 : decode cX0_pairScore 7 = .ok (.aload_n 0, 1) := by decide +kernel
theorem dX0_pairScore_8 : decode cX0_pairScore 8 = .ok (.getfield 7, 3) := by decide +kernel
theorem dX0_pairScore_11 : decode cX0_pairScore 11 = .ok (.if_icmp .ge 38, 3) := by decide +kernel
theorem dX0_pairScore_14 : decode cX0_pairScore 14 = .ok (.iload 4, 2) := by decide +kernel
theorem dX0_pairScore_16 : decode cX0_pairScore 16 = .ok (.iload_n 2, 1) := by decide +kernel
theorem dX0_pairScore_17 : decode cX0_pairScore 17 = .ok (.if_icmp .eq 26, 3) := by decide +kernel
theorem dX0_pairScore_20 : decode cX0_pairScore 20 = .ok (.aload_n 0, 1) := by decide +kernel
theorem dX0_pairScore_21 : decode cX0_pairScore 21 = .ok (.iload_n 1, 1) := by decide +kernel
theorem dX0_pairScore_22 : decode cX0_pairScore 22 = .ok (.iload 4, 2) := by decide +kernel
theorem dX0_pairScore_24 : decode cX0_pairScore 24 = .ok (.invokevirtual 223, 3) := by decide +kernel
theorem dX0_pairScore_27 : decode cX0_pairScore 27 = .ok (.ifCond .eq 16, 3) := by decide +kernel
theorem dX0_pairScore_30 : decode cX0_pairScore 30 = .ok (.iload_n 3, 1) := by decide +kernel
theorem dX0_pairScore_31 : decode cX0_pairScore 31 = .ok (.iconst 1, 1) := by decide +kernel
theorem dX0_pairScore_32 : decode cX0_pairScore 32 = .ok (.aload_n 0, 1) := by decide +kernel
theorem dX0_pairScore_33 : decode cX0_pairScore 33 = .ok (.iload_n 1, 1) := by decide +kernel
theorem dX0_pairScore_34 : decode cX0_pairScore 34 = .ok (.iload_n 2, 1) := by decide +kernel
theorem dX0_pairScore_35 : decode cX0_pairScore 35 = .ok (.iload 4, 2) := by decide +kernel
theorem dX0_pairScore_37 : decode cX0_pairScore 37 = .ok (.invokevirtual 100, 3) := by decide +kernel
theorem dX0_pairScore_40 : decode cX0_pairScore 40 = .ok (.iadd, 1) := by decide +kernel
theorem dX0_pairScore_41 : decode cX0_pairScore 41 = .ok (.iadd, 1) := by decide +kernel
theorem dX0_pairScore_42 : decode cX0_pairScore 42 = .ok (.istore_n 3, 1) := by decide +kernel
theorem dX0_pairScore_43 : decode cX0_pairScore 43 = .ok (.iinc 4 1, 3) := by decide +kernel
theorem dX0_pairScore_46 : decode cX0_pairScore 46 = .ok (.goto (-41), 3) := by decide +kernel
theorem dX0_pairScore_49 : decode cX0_pairScore 49 = .ok (.iload_n 3, 1) := by decide +kernel
theorem dX0_pairScore_50 : decode cX0_pairScore 50 = .ok (.ireturn, 1) := by decide +kernel
set_option maxRecDepth 20000 in
theorem ggX0_duel_X0_countedMark : GoodIn wsX0_duel wsX0_countedMark := goodIn_r _ [6, 7, 8, 9, 10, 5, 11, 12, 13, 14, 19, 20, 21, 22, 23, 24, 25, 26, 27, 28, 29, 30, 31, 32, 33, 34] (by decide +kernel) (by decide +kernel)
set_option maxRecDepth 20000 in
theorem gX0_duel_X0_countedMark : GoodIn wsX0_duel (wsV RX0 186 RX0 yX0_countedMark wsX0_countedMark) := goodIn_app (goodIn_of _ (by decide +kernel)) ggX0_duel_X0_countedMark
set_option maxRecDepth 20000 in
theorem ggX0_duel_J6_compare_7cf53 : GoodIn wsX0_duel wsJ6_compare_7cf53 := goodIn_r _ [18] (by decide +kernel) (by decide +kernel)
set_option maxRecDepth 20000 in
theorem gX0_duel_J6_compare_7cf53 : GoodIn wsX0_duel (va_wsS RX0 226 yJ6_compare_7cf53 wsJ6_compare_7cf53) := goodIn_app (goodIn_of _ (by decide +kernel)) ggX0_duel_J6_compare_7cf53
theorem dX0_duel_0 : decode cX0_duel 0 = .ok (.iconst 0, 1) := by decide +kernel
theorem dX0_duel_1 : decode cX0_duel 1 = .ok (.istore 4, 2) := by decide +kernel
theorem dX0_duel_3 : decode cX0_duel 3 = .ok (.iconst 0, 1) := by decide +kernel
theorem dX0_duel_4 : decode cX0_duel 4 = .ok (.istore 5, 2) := by decide +kernel
theorem dX0_duel_6 : decode cX0_duel 6 = .ok (.iload 5, 2) := by decide +kernel
theorem dX0_duel_8 : decode cX0_duel 8 = .ok (.aload_n 0, 1) := by decide +kernel
theorem dX0_duel_9 : decode cX0_duel 9 = .ok (.getfield 13, 3) := by decide +kernel
theorem dX0_duel_12 : decode cX0_duel 12 = .ok (.if_icmp .ge 53, 3) := by decide +kernel
theorem dX0_duel_15 : decode cX0_duel 15 = .ok (.aload_n 0, 1) := by decide +kernel
theorem dX0_duel_16 : decode cX0_duel 16 = .ok (.iload_n 1, 1) := by decide +kernel
theorem dX0_duel_17 : decode cX0_duel 17 = .ok (.iload 5, 2) := by decide +kernel
theorem dX0_duel_19 : decode cX0_duel 19 = .ok (.iload_n 2, 1) := by decide +kernel
theorem dX0_duel_20 : decode cX0_duel 20 = .ok (.invokevirtual 186, 3) := by decide +kernel
theorem dX0_duel_23 : decode cX0_duel 23 = .ok (.istore 6, 2) := by decide +kernel
theorem dX0_duel_25 : decode cX0_duel 25 = .ok (.aload_n 0, 1) := by decide +kernel
theorem dX0_duel_26 : decode cX0_duel 26 = .ok (.iload_n 1, 1) := by decide +kernel
theorem dX0_duel_27 : decode cX0_duel 27 = .ok (.iload 5, 2) := by decide +kernel
theorem dX0_duel_29 : decode cX0_duel 29 = .ok (.iload_n 3, 1) := by decide +kernel
theorem dX0_duel_30 : decode cX0_duel 30 = .ok (.invokevirtual 186, 3) := by decide +kernel
theorem dX0_duel_33 : decode cX0_duel 33 = .ok (.istore 7, 2) := by decide +kernel
theorem dX0_duel_35 : decode cX0_duel 35 = .ok (.iload 6, 2) := by decide +kernel
theorem dX0_duel_37 : decode cX0_duel 37 = .ok (.iconst (-1), 1) := by decide +kernel
theorem dX0_duel_38 : decode cX0_duel 38 = .ok (.if_icmp .eq 21, 3) := by decide +kernel
theorem dX0_duel_41 : decode cX0_duel 41 = .ok (.iload 7, 2) := by decide +kernel
theorem dX0_duel_43 : decode cX0_duel 43 = .ok (.iconst (-1), 1) := by decide +kernel
theorem dX0_duel_44 : decode cX0_duel 44 = .ok (.if_icmp .eq 15, 3) := by decide +kernel
theorem dX0_duel_47 : decode cX0_duel 47 = .ok (.iload 4, 2) := by decide +kernel
theorem dX0_duel_49 : decode cX0_duel 49 = .ok (.iload 6, 2) := by decide +kernel
theorem dX0_duel_51 : decode cX0_duel 51 = .ok (.iload 7, 2) := by decide +kernel
theorem dX0_duel_53 : decode cX0_duel 53 = .ok (.invokestatic 226, 3) := by decide +kernel
theorem dX0_duel_56 : decode cX0_duel 56 = .ok (.iadd, 1) := by decide +kernel
theorem dX0_duel_57 : decode cX0_duel 57 = .ok (.istore 4, 2) := by decide +kernel
theorem dX0_duel_59 : decode cX0_duel 59 = .ok (.iinc 5 1, 3) := by decide +kernel
theorem dX0_duel_62 : decode cX0_duel 62 = .ok (.goto (-56), 3) := by decide +kernel
theorem dX0_duel_65 : decode cX0_duel 65 = .ok (.iload 4, 2) := by decide +kernel
theorem dX0_duel_67 : decode cX0_duel 67 = .ok (.iconst 0, 1) := by decide +kernel
theorem dX0_duel_68 : decode cX0_duel 68 = .ok (.invokestatic 226, 3) := by decide +kernel
theorem dX0_duel_71 : decode cX0_duel 71 = .ok (.ireturn, 1) := by decide +kernel
set_option maxRecDepth 20000 in
theorem ggX0_fillScores_X0_scoreOf : GoodIn wsX0_fillScores wsX0_scoreOf := goodIn_r _ [7, 8, 9, 10, 11, 12, 13, 6, 14, 15, 16, 17, 18, 19, 20, 21, 22, 23, 24, 25, 26, 27, 28, 29, 30, 31, 32, 33, 34, 35, 36, 37, 38, 39, 40, 41, 42, 43, 44, 45, 46, 47, 48, 49, 50, 51, 52, 53, 1, 54, 55, 56, 57, 58, 59, 60, 61, 62, 63, 64, 65, 66, 67, 68, 69, 70, 71, 72, 73, 74, 75, 76, 77, 78, 79, 80, 81, 82, 83, 84, 85, 86, 87, 88, 89, 90, 91, 92] (by decide +kernel) (by decide +kernel)
set_option maxRecDepth 20000 in
theorem gX0_fillScores_X0_scoreOf : GoodIn wsX0_fillScores (wsV RX0 97 RX0 yX0_scoreOf wsX0_scoreOf) := goodIn_app (goodIn_of _ (by decide +kernel)) ggX0_fillScores_X0_scoreOf
theorem dX0_fillScores_0 : decode cX0_fillScores 0 = .ok (.iconst 0, 1) := by decide +kernel
theorem dX0_fillScores_1 : decode cX0_fillScores 1 = .ok (.istore_n 3, 1) := by decide +kernel
theorem dX0_fillScores_2 : decode cX0_fillScores 2 = .ok (.iload_n 3, 1) := by decide +kernel
theorem dX0_fillScores_3 : decode cX0_fillScores 3 = .ok (.aload_n 0, 1) := by decide +kernel
theorem dX0_fillScores_4 : decode cX0_fillScores 4 = .ok (.getfield 7, 3) := by decide +kernel
theorem dX0_fillScores_7 : decode cX0_fillScores 7 = .ok (.if_icmp .ge 22, 3) := by decide +kernel
theorem dX0_fillScores_10 : decode cX0_fillScores 10 = .ok (.aload_n 0, 1) := by decide +kernel
theorem dX0_fillScores_11 : decode cX0_fillScores 11 = .ok (.getfield 50, 3) := by decide +kernel
theorem dX0_fillScores_14 : decode cX0_fillScores 14 = .ok (.iload_n 3, 1) := by decide +kernel
theorem dX0_fillScores_15 : decode cX0_fillScores 15 = .ok (.aload_n 0, 1) := by decide +kernel
theorem dX0_fillScores_16 : decode cX0_fillScores 16 = .ok (.iload_n 1, 1) := by decide +kernel
theorem dX0_fillScores_17 : decode cX0_fillScores 17 = .ok (.iload_n 2, 1) := by decide +kernel
theorem dX0_fillScores_18 : decode cX0_fillScores 18 = .ok (.iload_n 3, 1) := by decide +kernel
theorem dX0_fillScores_19 : decode cX0_fillScores 19 = .ok (.invokevirtual 97, 3) := by decide +kernel
theorem dX0_fillScores_22 : decode cX0_fillScores 22 = .ok (.iastore, 1) := by decide +kernel
theorem dX0_fillScores_23 : decode cX0_fillScores 23 = .ok (.iinc 3 1, 3) := by decide +kernel
theorem dX0_fillScores_26 : decode cX0_fillScores 26 = .ok (.goto (-24), 3) := by decide +kernel
theorem dX0_fillScores_29 : decode cX0_fillScores 29 = .ok (.return_, 1) := by decide +kernel
set_option maxRecDepth 20000 in
theorem ggX0_fillScoresIf_X0_cellOf : GoodIn wsX0_fillScoresIf wsX0_cellOf := goodIn_r _ [6] (by decide +kernel) (by decide +kernel)
set_option maxRecDepth 20000 in
theorem gX0_fillScoresIf_X0_cellOf : GoodIn wsX0_fillScoresIf (va_wsS RX0 82 yX0_cellOf wsX0_cellOf) := goodIn_app (goodIn_of _ (by decide +kernel)) ggX0_fillScoresIf_X0_cellOf
set_option maxRecDepth 20000 in
theorem ggX0_fillScoresIf_X0_fillScores : GoodIn wsX0_fillScoresIf wsX0_fillScores := goodIn_r _ [10, 11, 12, 13, 14, 15, 5, 16, 17, 18, 19, 20, 21, 22, 23, 24, 25, 26, 27, 28, 29, 1, 30, 31, 32, 3, 4, 6, 33, 34, 35, 36, 37, 38, 39, 40, 41, 42, 43, 44, 45, 46, 47, 48, 49, 50, 51, 52, 53, 2, 54, 55, 56, 57, 58, 59, 60, 61, 62, 63, 64, 65, 66, 67, 68, 69, 70, 71, 72, 73, 74, 75, 76, 77, 78, 79, 80, 81, 82, 83, 84, 85, 86, 87, 88, 89, 90, 91, 92, 93, 94, 95, 96] (by decide +kernel) (by decide +kernel)
set_option maxRecDepth 20000 in
theorem gX0_fillScoresIf_X0_fillScores : GoodIn wsX0_fillScoresIf (wsV RX0 103 RX0 yX0_fillScores wsX0_fillScores) := goodIn_app (goodIn_of _ (by decide +kernel)) ggX0_fillScoresIf_X0_fillScores
theorem dX0_fillScoresIf_0 : decode cX0_fillScoresIf 0 = .ok (.iload_n 1, 1) := by decide +kernel
theorem dX0_fillScoresIf_1 : decode cX0_fillScoresIf 1 = .ok (.iload_n 3, 1) := by decide +kernel
theorem dX0_fillScoresIf_2 : decode cX0_fillScoresIf 2 = .ok (.iload 4, 2) := by decide +kernel
theorem dX0_fillScoresIf_4 : decode cX0_fillScoresIf 4 = .ok (.invokestatic 82, 3) := by decide +kernel
theorem dX0_fillScoresIf_7 : decode cX0_fillScoresIf 7 = .ok (.istore 6, 2) := by decide +kernel
theorem dX0_fillScoresIf_9 : decode cX0_fillScoresIf 9 = .ok (.aload_n 0, 1) := by decide +kernel
theorem dX0_fillScoresIf_10 : decode cX0_fillScoresIf 10 = .ok (.getfield 16, 3) := by decide +kernel
theorem dX0_fillScoresIf_13 : decode cX0_fillScoresIf 13 = .ok (.iload 6, 2) := by decide +kernel
theorem dX0_fillScoresIf_15 : decode cX0_fillScoresIf 15 = .ok (.iaload, 1) := by decide +kernel
theorem dX0_fillScoresIf_16 : decode cX0_fillScoresIf 16 = .ok (.istore 7, 2) := by decide +kernel
theorem dX0_fillScoresIf_18 : decode cX0_fillScoresIf 18 = .ok (.aload_n 0, 1) := by decide +kernel
theorem dX0_fillScoresIf_19 : decode cX0_fillScoresIf 19 = .ok (.getfield 20, 3) := by decide +kernel
theorem dX0_fillScoresIf_22 : decode cX0_fillScoresIf 22 = .ok (.iload 6, 2) := by decide +kernel
theorem dX0_fillScoresIf_24 : decode cX0_fillScoresIf 24 = .ok (.iaload, 1) := by decide +kernel
theorem dX0_fillScoresIf_25 : decode cX0_fillScoresIf 25 = .ok (.istore 8, 2) := by decide +kernel
theorem dX0_fillScoresIf_27 : decode cX0_fillScoresIf 27 = .ok (.iload_n 2, 1) := by decide +kernel
theorem dX0_fillScoresIf_28 : decode cX0_fillScoresIf 28 = .ok (.iconst 3, 1) := by decide +kernel
theorem dX0_fillScoresIf_29 : decode cX0_fillScoresIf 29 = .ok (.if_icmp .ne 23, 3) := by decide +kernel
theorem dX0_fillScoresIf_32 : decode cX0_fillScoresIf 32 = .ok (.aload_n 0, 1) := by decide +kernel
theorem dX0_fillScoresIf_33 : decode cX0_fillScoresIf 33 = .ok (.getfield 20, 3) := by decide +kernel
theorem dX0_fillScoresIf_36 : decode cX0_fillScoresIf 36 = .ok (.iload 6, 2) := by decide +kernel
theorem dX0_fillScoresIf_38 : decode cX0_fillScoresIf 38 = .ok (.iload 5, 2) := by decide +kernel
theorem dX0_fillScoresIf_40 : decode cX0_fillScoresIf 40 = .ok (.ifCond .eq 7, 3) := by decide +kernel
theorem dX0_fillScoresIf_43 : decode cX0_fillScoresIf 43 = .ok (.iconst 1, 1) := by decide +kernel
theorem dX0_fillScoresIf_44 : decode cX0_fillScoresIf 44 = .ok (.goto 4, 3) := by decide +kernel
theorem dX0_fillScoresIf_47 : decode cX0_fillScoresIf 47 = .ok (.iconst 0, 1) := by decide +kernel
theorem dX0_fillScoresIf_48 : decode cX0_fillScoresIf 48 = .ok (.iastore, 1) := by decide +kernel
theorem dX0_fillScoresIf_49 : decode cX0_fillScoresIf 49 = .ok (.goto 21, 3) := by decide +kernel
theorem dX0_fillScoresIf_52 : decode cX0_fillScoresIf 52 = .ok (.aload_n 0, 1) := by decide +kernel
theorem dX0_fillScoresIf_53 : decode cX0_fillScoresIf 53 = .ok (.getfield 16, 3) := by decide +kernel
theorem dX0_fillScoresIf_56 : decode cX0_fillScoresIf 56 = .ok (.iload 6, 2) := by decide +kernel
theorem dX0_fillScoresIf_58 : decode cX0_fillScoresIf 58 = .ok (.iload 5, 2) := by decide +kernel
theorem dX0_fillScoresIf_60 : decode cX0_fillScoresIf 60 = .ok (.ifCond .eq 8, 3) := by decide +kernel
theorem dX0_fillScoresIf_63 : decode cX0_fillScoresIf 63 = .ok (.bipush 100, 2) := by decide +kernel
theorem dX0_fillScoresIf_65 : decode cX0_fillScoresIf 65 = .ok (.goto 4, 3) := by decide +kernel
theorem dX0_fillScoresIf_68 : decode cX0_fillScoresIf 68 = .ok (.iconst 1, 1) := by decide +kernel
theorem dX0_fillScoresIf_69 : decode cX0_fillScoresIf 69 = .ok (.iastore, 1) := by decide +kernel
theorem dX0_fillScoresIf_70 : decode cX0_fillScoresIf 70 = .ok (.aload_n 0, 1) := by decide +kernel
theorem dX0_fillScoresIf_71 : decode cX0_fillScoresIf 71 = .ok (.iload_n 1, 1) := by decide +kernel
theorem dX0_fillScoresIf_72 : decode cX0_fillScoresIf 72 = .ok (.iload_n 2, 1) := by decide +kernel
theorem dX0_fillScoresIf_73 : decode cX0_fillScoresIf 73 = .ok (.invokevirtual 103, 3) := by decide +kernel
theorem dX0_fillScoresIf_76 : decode cX0_fillScoresIf 76 = .ok (.aload_n 0, 1) := by decide +kernel
theorem dX0_fillScoresIf_77 : decode cX0_fillScoresIf 77 = .ok (.getfield 16, 3) := by decide +kernel
theorem dX0_fillScoresIf_80 : decode cX0_fillScoresIf 80 = .ok (.iload 6, 2) := by decide +kernel
theorem dX0_fillScoresIf_82 : decode cX0_fillScoresIf 82 = .ok (.iload 7, 2) := by decide +kernel
theorem dX0_fillScoresIf_84 : decode cX0_fillScoresIf 84 = .ok (.iastore, 1) := by decide +kernel
theorem dX0_fillScoresIf_85 : decode cX0_fillScoresIf 85 = .ok (.aload_n 0, 1) := by decide +kernel
theorem dX0_fillScoresIf_86 : decode cX0_fillScoresIf 86 = .ok (.getfield 20, 3) := by decide +kernel
theorem dX0_fillScoresIf_89 : decode cX0_fillScoresIf 89 = .ok (.iload 6, 2) := by decide +kernel
theorem dX0_fillScoresIf_91 : decode cX0_fillScoresIf 91 = .ok (.iload 8, 2) := by decide +kernel
theorem dX0_fillScoresIf_93 : decode cX0_fillScoresIf 93 = .ok (.iastore, 1) := by decide +kernel
theorem dX0_fillScoresIf_94 : decode cX0_fillScoresIf 94 = .ok (.return_, 1) := by decide +kernel
theorem dX0_placeIn_0 : decode cX0_placeIn 0 = .ok (.iconst 0, 1) := by decide +kernel
theorem dX0_placeIn_1 : decode cX0_placeIn 1 = .ok (.istore_n 3, 1) := by decide +kernel
theorem dX0_placeIn_2 : decode cX0_placeIn 2 = .ok (.iconst 0, 1) := by decide +kernel
theorem dX0_placeIn_3 : decode cX0_placeIn 3 = .ok (.istore 4, 2) := by decide +kernel
theorem dX0_placeIn_5 : decode cX0_placeIn 5 = .ok (.iload 4, 2) := by decide +kernel
theorem dX0_placeIn_7 : decode cX0_placeIn 7 = .ok (.aload_n 0, 1) := by decide +kernel
theorem dX0_placeIn_8 : decode cX0_placeIn 8 = .ok (.getfield 7, 3) := by decide +kernel
theorem dX0_placeIn_11 : decode cX0_placeIn 11 = .ok (.if_icmp .ge 22, 3) := by decide +kernel
theorem dX0_placeIn_14 : decode cX0_placeIn 14 = .ok (.aload_n 1, 1) := by decide +kernel
theorem dX0_placeIn_15 : decode cX0_placeIn 15 = .ok (.iload 4, 2) := by decide +kernel
theorem dX0_placeIn_17 : decode cX0_placeIn 17 = .ok (.iaload, 1) := by decide +kernel
theorem dX0_placeIn_18 : decode cX0_placeIn 18 = .ok (.aload_n 1, 1) := by decide +kernel
theorem dX0_placeIn_19 : decode cX0_placeIn 19 = .ok (.iload_n 2, 1) := by decide +kernel
theorem dX0_placeIn_20 : decode cX0_placeIn 20 = .ok (.iaload, 1) := by decide +kernel
theorem dX0_placeIn_21 : decode cX0_placeIn 21 = .ok (.if_icmp .le 6, 3) := by decide +kernel
theorem dX0_placeIn_24 : decode cX0_placeIn 24 = .ok (.iinc 3 1, 3) := by decide +kernel
theorem dX0_placeIn_27 : decode cX0_placeIn 27 = .ok (.iinc 4 1, 3) := by decide +kernel
theorem dX0_placeIn_30 : decode cX0_placeIn 30 = .ok (.goto (-25), 3) := by decide +kernel
theorem dX0_placeIn_33 : decode cX0_placeIn 33 = .ok (.iload_n 3, 1) := by decide +kernel
theorem dX0_placeIn_34 : decode cX0_placeIn 34 = .ok (.iconst 1, 1) := by decide +kernel
theorem dX0_placeIn_35 : decode cX0_placeIn 35 = .ok (.iadd, 1) := by decide +kernel
theorem dX0_placeIn_36 : decode cX0_placeIn 36 = .ok (.ireturn, 1) := by decide +kernel
set_option maxRecDepth 20000 in
theorem ggX0_passesIn_X0_placeIn : GoodIn wsX0_passesIn wsX0_placeIn := goodIn_r _ [5, 6, 7, 8, 9, 10, 11, 12, 13, 14, 15, 16, 17, 18, 19, 20, 21, 22] (by decide +kernel) (by decide +kernel)
set_option maxRecDepth 20000 in
theorem gX0_passesIn_X0_placeIn : GoodIn wsX0_passesIn (wsV RX0 107 RX0 yX0_placeIn wsX0_placeIn) := goodIn_app (goodIn_of _ (by decide +kernel)) ggX0_passesIn_X0_placeIn
theorem dX0_passesIn_0 : decode cX0_passesIn 0 = .ok (.aload_n 1, 1) := by decide +kernel
theorem dX0_passesIn_1 : decode cX0_passesIn 1 = .ok (.iload_n 2, 1) := by decide +kernel
theorem dX0_passesIn_2 : decode cX0_passesIn 2 = .ok (.iaload, 1) := by decide +kernel
theorem dX0_passesIn_3 : decode cX0_passesIn 3 = .ok (.iconst (-1), 1) := by decide +kernel
theorem dX0_passesIn_4 : decode cX0_passesIn 4 = .ok (.if_icmp .eq 17, 3) := by decide +kernel
theorem dX0_passesIn_7 : decode cX0_passesIn 7 = .ok (.aload_n 0, 1) := by decide +kernel
theorem dX0_passesIn_8 : decode cX0_passesIn 8 = .ok (.aload_n 1, 1) := by decide +kernel
theorem dX0_passesIn_9 : decode cX0_passesIn 9 = .ok (.iload_n 2, 1) := by decide +kernel
theorem dX0_passesIn_10 : decode cX0_passesIn 10 = .ok (.invokevirtual 107, 3) := by decide +kernel
theorem dX0_passesIn_13 : decode cX0_passesIn 13 = .ok (.iload_n 3, 1) := by decide +kernel
theorem dX0_passesIn_14 : decode cX0_passesIn 14 = .ok (.if_icmp .gt 7, 3) := by decide +kernel
theorem dX0_passesIn_17 : decode cX0_passesIn 17 = .ok (.iconst 1, 1) := by decide +kernel
theorem dX0_passesIn_18 : decode cX0_passesIn 18 = .ok (.goto 4, 3) := by decide +kernel
theorem dX0_passesIn_21 : decode cX0_passesIn 21 = .ok (.iconst 0, 1) := by decide +kernel
theorem dX0_passesIn_22 : decode cX0_passesIn 22 = .ok (.ireturn, 1) := by decide +kernel
set_option maxRecDepth 20000 in
theorem ggX0_passedBits_X0_fillScores : GoodIn wsX0_passedBits wsX0_fillScores := goodIn_r _ [7, 1, 2, 8, 9, 10, 6, 11, 12, 13, 14, 15, 16, 17, 18, 19, 20, 21, 22, 23, 24, 25, 26, 27, 28, 29, 30, 31, 32, 33, 34, 35, 36, 37, 38, 39, 40, 41, 42, 43, 44, 45, 46, 47, 48, 49, 50, 51, 52, 53, 54, 55, 56, 57, 58, 59, 60, 61, 62, 63, 64, 65, 66, 67, 68, 69, 70, 71, 72, 73, 74, 75, 76, 77, 78, 79, 80, 89, 90, 91, 92, 93, 94, 95, 96, 97, 98, 99, 100, 101, 102, 103, 104] (by decide +kernel) (by decide +kernel)
set_option maxRecDepth 20000 in
theorem gX0_passedBits_X0_fillScores : GoodIn wsX0_passedBits (wsV RX0 103 RX0 yX0_fillScores wsX0_fillScores) := goodIn_app (goodIn_of _ (by decide +kernel)) ggX0_passedBits_X0_fillScores
set_option maxRecDepth 20000 in
theorem ggX0_passedBits_X0_passesIn : GoodIn wsX0_passedBits wsX0_passesIn := goodIn_r _ [84, 85, 86, 87, 6, 88, 1, 89, 90, 91, 92, 93, 94, 95, 96, 97, 98, 99, 100, 101, 102, 103, 104] (by decide +kernel) (by decide +kernel)
set_option maxRecDepth 20000 in
theorem gX0_passedBits_X0_passesIn : GoodIn wsX0_passedBits (wsV RX0 131 RX0 yX0_passesIn wsX0_passesIn) := goodIn_app (goodIn_of _ (by decide +kernel)) ggX0_passedBits_X0_passesIn
theorem dX0_passedBits_0 : decode cX0_passedBits 0 = .ok (.aload_n 0, 1) := by decide +kernel
theorem dX0_passedBits_1 : decode cX0_passedBits 1 = .ok (.iload_n 1, 1) := by decide +kernel
theorem dX0_passedBits_2 : decode cX0_passedBits 2 = .ok (.iload_n 2, 1) := by decide +kernel
theorem dX0_passedBits_3 : decode cX0_passedBits 3 = .ok (.invokevirtual 103, 3) := by decide +kernel
theorem dX0_passedBits_6 : decode cX0_passedBits 6 = .ok (.iconst 0, 1) := by decide +kernel
theorem dX0_passedBits_7 : decode cX0_passedBits 7 = .ok (.istore 4, 2) := by decide +kernel
theorem dX0_passedBits_9 : decode cX0_passedBits 9 = .ok (.iconst 0, 1) := by decide +kernel
theorem dX0_passedBits_10 : decode cX0_passedBits 10 = .ok (.istore 5, 2) := by decide +kernel
theorem dX0_passedBits_12 : decode cX0_passedBits 12 = .ok (.iload 5, 2) := by decide +kernel
theorem dX0_passedBits_14 : decode cX0_passedBits 14 = .ok (.aload_n 0, 1) := by decide +kernel
theorem dX0_passedBits_15 : decode cX0_passedBits 15 = .ok (.getfield 7, 3) := by decide +kernel
theorem dX0_passedBits_18 : decode cX0_passedBits 18 = .ok (.if_icmp .ge 32, 3) := by decide +kernel
theorem dX0_passedBits_21 : decode cX0_passedBits 21 = .ok (.aload_n 0, 1) := by decide +kernel
theorem dX0_passedBits_22 : decode cX0_passedBits 22 = .ok (.aload_n 0, 1) := by decide +kernel
theorem dX0_passedBits_23 : decode cX0_passedBits 23 = .ok (.getfield 50, 3) := by decide +kernel
theorem dX0_passedBits_26 : decode cX0_passedBits 26 = .ok (.iload 5, 2) := by decide +kernel
theorem dX0_passedBits_28 : decode cX0_passedBits 28 = .ok (.iload_n 3, 1) := by decide +kernel
theorem dX0_passedBits_29 : decode cX0_passedBits 29 = .ok (.invokevirtual 131, 3) := by decide +kernel
theorem dX0_passedBits_32 : decode cX0_passedBits 32 = .ok (.ifCond .eq 12, 3) := by decide +kernel
theorem dX0_passedBits_35 : decode cX0_passedBits 35 = .ok (.iload 4, 2) := by decide +kernel
theorem dX0_passedBits_37 : decode cX0_passedBits 37 = .ok (.iconst 1, 1) := by decide +kernel
theorem dX0_passedBits_38 : decode cX0_passedBits 38 = .ok (.iload 5, 2) := by decide +kernel
theorem dX0_passedBits_40 : decode cX0_passedBits 40 = .ok (.ishl, 1) := by decide +kernel
theorem dX0_passedBits_41 : decode cX0_passedBits 41 = .ok (.ior, 1) := by decide +kernel
theorem dX0_passedBits_42 : decode cX0_passedBits 42 = .ok (.istore 4, 2) := by decide +kernel
theorem dX0_passedBits_44 : decode cX0_passedBits 44 = .ok (.iinc 5 1, 3) := by decide +kernel
theorem dX0_passedBits_47 : decode cX0_passedBits 47 = .ok (.goto (-35), 3) := by decide +kernel
theorem dX0_passedBits_50 : decode cX0_passedBits 50 = .ok (.iload 4, 2) := by decide +kernel
theorem dX0_passedBits_52 : decode cX0_passedBits 52 = .ok (.ireturn, 1) := by decide +kernel
set_option maxRecDepth 20000 in
theorem ggX0_totalOf_X0_scoreOf : GoodIn wsX0_totalOf wsX0_scoreOf := goodIn_r _ [6, 7, 8, 9, 10, 11, 12, 5, 13, 14, 15, 16, 17, 18, 19, 20, 21, 22, 23, 24, 25, 26, 27, 28, 29, 30, 31, 32, 33, 34, 35, 36, 37, 38, 39, 40, 41, 42, 43, 44, 45, 46, 47, 48, 49, 50, 51, 52, 53, 54, 55, 56, 57, 58, 59, 60, 61, 62, 63, 64, 65, 66, 67, 68, 69, 70, 71, 72, 73, 74, 75, 76, 77, 78, 79, 80, 81, 82, 83, 84, 85, 86, 87, 88, 89, 90, 91, 92] (by decide +kernel) (by decide +kernel)
set_option maxRecDepth 20000 in
theorem gX0_totalOf_X0_scoreOf : GoodIn wsX0_totalOf (wsV RX0 97 RX0 yX0_scoreOf wsX0_scoreOf) := goodIn_app (goodIn_of _ (by decide +kernel)) ggX0_totalOf_X0_scoreOf
theorem dX0_totalOf_0 : decode cX0_totalOf 0 = .ok (.iconst 0, 1) := by decide +kernel
theorem dX0_totalOf_1 : decode cX0_totalOf 1 = .ok (.istore_n 2, 1) := by decide +kernel
theorem dX0_totalOf_2 : decode cX0_totalOf 2 = .ok (.iconst 0, 1) := by decide +kernel
theorem dX0_totalOf_3 : decode cX0_totalOf 3 = .ok (.istore_n 3, 1) := by decide +kernel
theorem dX0_totalOf_4 : decode cX0_totalOf 4 = .ok (.iload_n 3, 1) := by decide +kernel
theorem dX0_totalOf_5 : decode cX0_totalOf 5 = .ok (.iconst 3, 1) := by decide +kernel
theorem dX0_totalOf_6 : decode cX0_totalOf 6 = .ok (.if_icmp .ge 47, 3) := by decide +kernel
theorem dX0_totalOf_9 : decode cX0_totalOf 9 = .ok (.aload_n 0, 1) := by decide +kernel
theorem dX0_totalOf_10 : decode cX0_totalOf 10 = .ok (.getfield 29, 3) := by decide +kernel
theorem dX0_totalOf_13 : decode cX0_totalOf 13 = .ok (.iload_n 3, 1) := by decide +kernel
theorem dX0_totalOf_14 : decode cX0_totalOf 14 = .ok (.iaload, 1) := by decide +kernel
theorem dX0_totalOf_15 : decode cX0_totalOf 15 = .ok (.ifCond .le 32, 3) := by decide +kernel
theorem dX0_totalOf_18 : decode cX0_totalOf 18 = .ok (.aload_n 0, 1) := by decide +kernel
theorem dX0_totalOf_19 : decode cX0_totalOf 19 = .ok (.iload_n 3, 1) := by decide +kernel
theorem dX0_totalOf_20 : decode cX0_totalOf 20 = .ok (.iconst 0, 1) := by decide +kernel
theorem dX0_totalOf_21 : decode cX0_totalOf 21 = .ok (.iload_n 1, 1) := by decide +kernel
theorem dX0_totalOf_22 : decode cX0_totalOf 22 = .ok (.invokevirtual 97, 3) := by decide +kernel
theorem dX0_totalOf_25 : decode cX0_totalOf 25 = .ok (.istore 4, 2) := by decide +kernel
theorem dX0_totalOf_27 : decode cX0_totalOf 27 = .ok (.iload 4, 2) := by decide +kernel
theorem dX0_totalOf_29 : decode cX0_totalOf 29 = .ok (.iconst (-1), 1) := by decide +kernel
theorem dX0_totalOf_30 : decode cX0_totalOf 30 = .ok (.if_icmp .ne 5, 3) := by decide +kernel
theorem dX0_totalOf_33 : decode cX0_totalOf 33 = .ok (.iconst (-1), 1) := by decide +kernel
theorem dX0_totalOf_34 : decode cX0_totalOf 34 = .ok (.ireturn, 1) := by decide +kernel
theorem dX0_totalOf_35 : decode cX0_totalOf 35 = .ok (.iload_n 2, 1) := by decide +kernel
theorem dX0_totalOf_36 : decode cX0_totalOf 36 = .ok (.aload_n 0, 1) := by decide +kernel
theorem dX0_totalOf_37 : decode cX0_totalOf 37 = .ok (.getfield 29, 3) := by decide +kernel
theorem dX0_totalOf_40 : decode cX0_totalOf 40 = .ok (.iload_n 3, 1) := by decide +kernel
theorem dX0_totalOf_41 : decode cX0_totalOf 41 = .ok (.iaload, 1) := by decide +kernel
theorem dX0_totalOf_42 : decode cX0_totalOf 42 = .ok (.iload 4, 2) := by decide +kernel
theorem dX0_totalOf_44 : decode cX0_totalOf 44 = .ok (.imul, 1) := by decide +kernel
theorem dX0_totalOf_45 : decode cX0_totalOf 45 = .ok (.iadd, 1) := by decide +kernel
theorem dX0_totalOf_46 : decode cX0_totalOf 46 = .ok (.istore_n 2, 1) := by decide +kernel
theorem dX0_totalOf_47 : decode cX0_totalOf 47 = .ok (.iinc 3 1, 3) := by decide +kernel
theorem dX0_totalOf_50 : decode cX0_totalOf 50 = .ok (.goto (-46), 3) := by decide +kernel
theorem dX0_totalOf_53 : decode cX0_totalOf 53 = .ok (.iload_n 2, 1) := by decide +kernel
theorem dX0_totalOf_54 : decode cX0_totalOf 54 = .ok (.ireturn, 1) := by decide +kernel
set_option maxRecDepth 20000 in
theorem ggX0_fillTotals_X0_totalOf : GoodIn wsX0_fillTotals wsX0_totalOf := goodIn_r _ [7, 8, 9, 10, 11, 6, 12, 13, 14, 15, 16, 17, 18, 19, 20, 21, 22, 23, 24, 25, 26, 27, 28, 29, 30, 31, 32, 33, 34, 35, 36, 37, 38, 39, 40, 41, 42, 43, 44, 45, 46, 47, 48, 49, 50, 51, 52, 53, 54, 55, 56, 57, 58, 1, 59, 60, 61, 62, 63, 64, 65, 66, 67, 68, 69, 70, 71, 72, 73, 74, 75, 76, 77, 78, 79, 80, 81, 82, 83, 84, 85, 86, 87, 88, 89, 90, 91, 92, 93, 94, 95, 96, 97] (by decide +kernel) (by decide +kernel)
set_option maxRecDepth 20000 in
theorem gX0_fillTotals_X0_totalOf : GoodIn wsX0_fillTotals (wsV RX0 135 RX0 yX0_totalOf wsX0_totalOf) := goodIn_app (goodIn_of _ (by decide +kernel)) ggX0_fillTotals_X0_totalOf
theorem dX0_fillTotals_0 : decode cX0_fillTotals 0 = .ok (.iconst 0, 1) := by decide +kernel
theorem dX0_fillTotals_1 : decode cX0_fillTotals 1 = .ok (.istore_n 1, 1) := by decide +kernel
theorem dX0_fillTotals_2 : decode cX0_fillTotals 2 = .ok (.iload_n 1, 1) := by decide +kernel
theorem dX0_fillTotals_3 : decode cX0_fillTotals 3 = .ok (.aload_n 0, 1) := by decide +kernel
theorem dX0_fillTotals_4 : decode cX0_fillTotals 4 = .ok (.getfield 7, 3) := by decide +kernel
theorem dX0_fillTotals_7 : decode cX0_fillTotals 7 = .ok (.if_icmp .ge 20, 3) := by decide +kernel
theorem dX0_fillTotals_10 : decode cX0_fillTotals 10 = .ok (.aload_n 0, 1) := by decide +kernel
theorem dX0_fillTotals_11 : decode cX0_fillTotals 11 = .ok (.getfield 53, 3) := by decide +kernel
theorem dX0_fillTotals_14 : decode cX0_fillTotals 14 = .ok (.iload_n 1, 1) := by decide +kernel
theorem dX0_fillTotals_15 : decode cX0_fillTotals 15 = .ok (.aload_n 0, 1) := by decide +kernel
theorem dX0_fillTotals_16 : decode cX0_fillTotals 16 = .ok (.iload_n 1, 1) := by decide +kernel
theorem dX0_fillTotals_17 : decode cX0_fillTotals 17 = .ok (.invokevirtual 135, 3) := by decide +kernel
theorem dX0_fillTotals_20 : decode cX0_fillTotals 20 = .ok (.iastore, 1) := by decide +kernel
theorem dX0_fillTotals_21 : decode cX0_fillTotals 21 = .ok (.iinc 1 1, 3) := by decide +kernel
theorem dX0_fillTotals_24 : decode cX0_fillTotals 24 = .ok (.goto (-22), 3) := by decide +kernel
theorem dX0_fillTotals_27 : decode cX0_fillTotals 27 = .ok (.return_, 1) := by decide +kernel
set_option maxRecDepth 20000 in
theorem ggX0_shareOf_X0_placeIn : GoodIn wsX0_shareOf wsX0_placeIn := goodIn_r _ [8, 2, 9, 10, 11, 12, 13, 14, 15, 16, 17, 18, 19, 20, 21, 22, 23, 24] (by decide +kernel) (by decide +kernel)
set_option maxRecDepth 20000 in
theorem gX0_shareOf_X0_placeIn : GoodIn wsX0_shareOf (wsV RX0 107 RX0 yX0_placeIn wsX0_placeIn) := goodIn_app (goodIn_of _ (by decide +kernel)) ggX0_shareOf_X0_placeIn
theorem dX0_shareOf_0 : decode cX0_shareOf 0 = .ok (.aload_n 0, 1) := by decide +kernel
theorem dX0_shareOf_1 : decode cX0_shareOf 1 = .ok (.getfield 53, 3) := by decide +kernel
theorem dX0_shareOf_4 : decode cX0_shareOf 4 = .ok (.iload_n 1, 1) := by decide +kernel
theorem dX0_shareOf_5 : decode cX0_shareOf 5 = .ok (.iaload, 1) := by decide +kernel
theorem dX0_shareOf_6 : decode cX0_shareOf 6 = .ok (.iconst (-1), 1) := by decide +kernel
theorem dX0_shareOf_7 : decode cX0_shareOf 7 = .ok (.if_icmp .ne 5, 3) := by decide +kernel
theorem dX0_shareOf_10 : decode cX0_shareOf 10 = .ok (.iconst 0, 1) := by decide +kernel
theorem dX0_shareOf_11 : decode cX0_shareOf 11 = .ok (.ireturn, 1) := by decide +kernel
theorem dX0_shareOf_12 : decode cX0_shareOf 12 = .ok (.iconst 0, 1) := by decide +kernel
theorem dX0_shareOf_13 : decode cX0_shareOf 13 = .ok (.istore_n 2, 1) := by decide +kernel
theorem dX0_shareOf_14 : decode cX0_shareOf 14 = .ok (.iconst 0, 1) := by decide +kernel
theorem dX0_shareOf_15 : decode cX0_shareOf 15 = .ok (.istore_n 3, 1) := by decide +kernel
theorem dX0_shareOf_16 : decode cX0_shareOf 16 = .ok (.iload_n 3, 1) := by decide +kernel
theorem dX0_shareOf_17 : decode cX0_shareOf 17 = .ok (.aload_n 0, 1) := by decide +kernel
theorem dX0_shareOf_18 : decode cX0_shareOf 18 = .ok (.getfield 7, 3) := by decide +kernel
theorem dX0_shareOf_21 : decode cX0_shareOf 21 = .ok (.if_icmp .ge 27, 3) := by decide +kernel
theorem dX0_shareOf_24 : decode cX0_shareOf 24 = .ok (.aload_n 0, 1) := by decide +kernel
theorem dX0_shareOf_25 : decode cX0_shareOf 25 = .ok (.getfield 53, 3) := by decide +kernel
theorem dX0_shareOf_28 : decode cX0_shareOf 28 = .ok (.iload_n 3, 1) := by decide +kernel
theorem dX0_shareOf_29 : decode cX0_shareOf 29 = .ok (.iaload, 1) := by decide +kernel
theorem dX0_shareOf_30 : decode cX0_shareOf 30 = .ok (.aload_n 0, 1) := by decide +kernel
theorem dX0_shareOf_31 : decode cX0_shareOf 31 = .ok (.getfield 53, 3) := by decide +kernel
theorem dX0_shareOf_34 : decode cX0_shareOf 34 = .ok (.iload_n 1, 1) := by decide +kernel
theorem dX0_shareOf_35 : decode cX0_shareOf 35 = .ok (.iaload, 1) := by decide +kernel
theorem dX0_shareOf_36 : decode cX0_shareOf 36 = .ok (.if_icmp .ne 6, 3) := by decide +kernel
theorem dX0_shareOf_39 : decode cX0_shareOf 39 = .ok (.iinc 2 1, 3) := by decide +kernel
theorem dX0_shareOf_42 : decode cX0_shareOf 42 = .ok (.iinc 3 1, 3) := by decide +kernel
theorem dX0_shareOf_45 : decode cX0_shareOf 45 = .ok (.goto (-29), 3) := by decide +kernel
theorem dX0_shareOf_48 : decode cX0_shareOf 48 = .ok (.iload_n 2, 1) := by decide +kernel
theorem dX0_shareOf_49 : decode cX0_shareOf 49 = .ok (.iconst 1, 1) := by decide +kernel
theorem dX0_shareOf_50 : decode cX0_shareOf 50 = .ok (.if_icmp .ge 5, 3) := by decide +kernel
theorem dX0_shareOf_53 : decode cX0_shareOf 53 = .ok (.iconst 0, 1) := by decide +kernel
theorem dX0_shareOf_54 : decode cX0_shareOf 54 = .ok (.ireturn, 1) := by decide +kernel
theorem dX0_shareOf_55 : decode cX0_shareOf 55 = .ok (.aload_n 0, 1) := by decide +kernel
theorem dX0_shareOf_56 : decode cX0_shareOf 56 = .ok (.aload_n 0, 1) := by decide +kernel
theorem dX0_shareOf_57 : decode cX0_shareOf 57 = .ok (.getfield 53, 3) := by decide +kernel
theorem dX0_shareOf_60 : decode cX0_shareOf 60 = .ok (.iload_n 1, 1) := by decide +kernel
theorem dX0_shareOf_61 : decode cX0_shareOf 61 = .ok (.invokevirtual 107, 3) := by decide +kernel
theorem dX0_shareOf_64 : decode cX0_shareOf 64 = .ok (.iconst 1, 1) := by decide +kernel
theorem dX0_shareOf_65 : decode cX0_shareOf 65 = .ok (.isub, 1) := by decide +kernel
theorem dX0_shareOf_66 : decode cX0_shareOf 66 = .ok (.istore_n 3, 1) := by decide +kernel
theorem dX0_shareOf_67 : decode cX0_shareOf 67 = .ok (.iconst 0, 1) := by decide +kernel
theorem dX0_shareOf_68 : decode cX0_shareOf 68 = .ok (.istore 4, 2) := by decide +kernel
theorem dX0_shareOf_70 : decode cX0_shareOf 70 = .ok (.iload_n 3, 1) := by decide +kernel
theorem dX0_shareOf_71 : decode cX0_shareOf 71 = .ok (.istore 5, 2) := by decide +kernel
theorem dX0_shareOf_73 : decode cX0_shareOf 73 = .ok (.iload 5, 2) := by decide +kernel
theorem dX0_shareOf_75 : decode cX0_shareOf 75 = .ok (.iload_n 3, 1) := by decide +kernel
theorem dX0_shareOf_76 : decode cX0_shareOf 76 = .ok (.iload_n 2, 1) := by decide +kernel
theorem dX0_shareOf_77 : decode cX0_shareOf 77 = .ok (.iadd, 1) := by decide +kernel
theorem dX0_shareOf_78 : decode cX0_shareOf 78 = .ok (.if_icmp .ge 28, 3) := by decide +kernel
theorem dX0_shareOf_81 : decode cX0_shareOf 81 = .ok (.iload 5, 2) := by decide +kernel
theorem dX0_shareOf_83 : decode cX0_shareOf 83 = .ok (.bipush 6, 2) := by decide +kernel
theorem dX0_shareOf_85 : decode cX0_shareOf 85 = .ok (.if_icmp .ge 21, 3) := by decide +kernel
theorem dX0_shareOf_88 : decode cX0_shareOf 88 = .ok (.iload 4, 2) := by decide +kernel
theorem dX0_shareOf_90 : decode cX0_shareOf 90 = .ok (.aload_n 0, 1) := by decide +kernel
theorem dX0_shareOf_91 : decode cX0_shareOf 91 = .ok (.getfield 32, 3) := by decide +kernel
theorem dX0_shareOf_94 : decode cX0_shareOf 94 = .ok (.iload 5, 2) := by decide +kernel
theorem dX0_shareOf_96 : decode cX0_shareOf 96 = .ok (.iaload, 1) := by decide +kernel
theorem dX0_shareOf_97 : decode cX0_shareOf 97 = .ok (.iadd, 1) := by decide +kernel
theorem dX0_shareOf_98 : decode cX0_shareOf 98 = .ok (.istore 4, 2) := by decide +kernel
theorem dX0_shareOf_100 : decode cX0_shareOf 100 = .ok (.iinc 5 1, 3) := by decide +kernel
theorem dX0_shareOf_103 : decode cX0_shareOf 103 = .ok (.goto (-30), 3) := by decide +kernel
theorem dX0_shareOf_106 : decode cX0_shareOf 106 = .ok (.iload 4, 2) := by decide +kernel
theorem dX0_shareOf_108 : decode cX0_shareOf 108 = .ok (.iload_n 2, 1) := by decide +kernel
theorem dX0_shareOf_109 : decode cX0_shareOf 109 = .ok (.idiv, 1) := by decide +kernel
theorem dX0_shareOf_110 : decode cX0_shareOf 110 = .ok (.ireturn, 1) := by decide +kernel
set_option maxRecDepth 20000 in
theorem ggX0_fillFitting_X0_programmeCellOf : GoodIn wsX0_fillFitting wsX0_programmeCellOf := goodIn_r _ [8] (by decide +kernel) (by decide +kernel)
set_option maxRecDepth 20000 in
theorem gX0_fillFitting_X0_programmeCellOf : GoodIn wsX0_fillFitting (va_wsS RX0 152 yX0_programmeCellOf wsX0_programmeCellOf) := goodIn_app (goodIn_of _ (by decide +kernel)) ggX0_fillFitting_X0_programmeCellOf
set_option maxRecDepth 20000 in
theorem ggX0_fillFitting_X0_minutesOf : GoodIn wsX0_fillFitting wsX0_minutesOf := goodIn_r _ [12, 13, 17, 18, 19, 20, 21, 22, 23, 24, 25, 26, 27, 28, 29, 30, 31, 32] (by decide +kernel) (by decide +kernel)
set_option maxRecDepth 20000 in
theorem gX0_fillFitting_X0_minutesOf : GoodIn wsX0_fillFitting (wsV RX0 229 RX0 yX0_minutesOf wsX0_minutesOf) := goodIn_app (goodIn_of _ (by decide +kernel)) ggX0_fillFitting_X0_minutesOf
set_option maxRecDepth 20000 in
theorem ggX0_fillFitting_X0_isWithin : GoodIn wsX0_fillFitting wsX0_isWithin := goodIn_r _ [16] (by decide +kernel) (by decide +kernel)
set_option maxRecDepth 20000 in
theorem gX0_fillFitting_X0_isWithin : GoodIn wsX0_fillFitting (va_wsS RX0 68 yX0_isWithin wsX0_isWithin) := goodIn_app (goodIn_of _ (by decide +kernel)) ggX0_fillFitting_X0_isWithin
theorem dX0_fillFitting_0 : decode cX0_fillFitting 0 = .ok (.iconst 0, 1) := by decide +kernel
theorem dX0_fillFitting_1 : decode cX0_fillFitting 1 = .ok (.istore_n 3, 1) := by decide +kernel
theorem dX0_fillFitting_2 : decode cX0_fillFitting 2 = .ok (.iload_n 3, 1) := by decide +kernel
theorem dX0_fillFitting_3 : decode cX0_fillFitting 3 = .ok (.aload_n 0, 1) := by decide +kernel
theorem dX0_fillFitting_4 : decode cX0_fillFitting 4 = .ok (.getfield 7, 3) := by decide +kernel
theorem dX0_fillFitting_7 : decode cX0_fillFitting 7 = .ok (.if_icmp .ge 78, 3) := by decide +kernel
theorem dX0_fillFitting_10 : decode cX0_fillFitting 10 = .ok (.iconst 0, 1) := by decide +kernel
theorem dX0_fillFitting_11 : decode cX0_fillFitting 11 = .ok (.istore 4, 2) := by decide +kernel
theorem dX0_fillFitting_13 : decode cX0_fillFitting 13 = .ok (.iload 4, 2) := by decide +kernel
theorem dX0_fillFitting_15 : decode cX0_fillFitting 15 = .ok (.aload_n 0, 1) := by decide +kernel
theorem dX0_fillFitting_16 : decode cX0_fillFitting 16 = .ok (.getfield 41, 3) := by decide +kernel
theorem dX0_fillFitting_19 : decode cX0_fillFitting 19 = .ok (.iload_n 3, 1) := by decide +kernel
theorem dX0_fillFitting_20 : decode cX0_fillFitting 20 = .ok (.iaload, 1) := by decide +kernel
theorem dX0_fillFitting_21 : decode cX0_fillFitting 21 = .ok (.if_icmp .ge 58, 3) := by decide +kernel
theorem dX0_fillFitting_24 : decode cX0_fillFitting 24 = .ok (.iload_n 3, 1) := by decide +kernel
theorem dX0_fillFitting_25 : decode cX0_fillFitting 25 = .ok (.iload 4, 2) := by decide +kernel
theorem dX0_fillFitting_27 : decode cX0_fillFitting 27 = .ok (.invokestatic 152, 3) := by decide +kernel
theorem dX0_fillFitting_30 : decode cX0_fillFitting 30 = .ok (.istore 5, 2) := by decide +kernel
theorem dX0_fillFitting_32 : decode cX0_fillFitting 32 = .ok (.aload_n 0, 1) := by decide +kernel
theorem dX0_fillFitting_33 : decode cX0_fillFitting 33 = .ok (.aload_n 0, 1) := by decide +kernel
theorem dX0_fillFitting_34 : decode cX0_fillFitting 34 = .ok (.getfield 38, 3) := by decide +kernel
theorem dX0_fillFitting_37 : decode cX0_fillFitting 37 = .ok (.iload 5, 2) := by decide +kernel
theorem dX0_fillFitting_39 : decode cX0_fillFitting 39 = .ok (.iaload, 1) := by decide +kernel
theorem dX0_fillFitting_40 : decode cX0_fillFitting 40 = .ok (.invokevirtual 229, 3) := by decide +kernel
theorem dX0_fillFitting_43 : decode cX0_fillFitting 43 = .ok (.iload_n 1, 1) := by decide +kernel
theorem dX0_fillFitting_44 : decode cX0_fillFitting 44 = .ok (.iload_n 2, 1) := by decide +kernel
theorem dX0_fillFitting_45 : decode cX0_fillFitting 45 = .ok (.invokestatic 68, 3) := by decide +kernel
theorem dX0_fillFitting_48 : decode cX0_fillFitting 48 = .ok (.istore 6, 2) := by decide +kernel
theorem dX0_fillFitting_50 : decode cX0_fillFitting 50 = .ok (.aload_n 0, 1) := by decide +kernel
theorem dX0_fillFitting_51 : decode cX0_fillFitting 51 = .ok (.getfield 56, 3) := by decide +kernel
theorem dX0_fillFitting_54 : decode cX0_fillFitting 54 = .ok (.iload 5, 2) := by decide +kernel
theorem dX0_fillFitting_56 : decode cX0_fillFitting 56 = .ok (.iload 6, 2) := by decide +kernel
theorem dX0_fillFitting_58 : decode cX0_fillFitting 58 = .ok (.ifCond .eq 13, 3) := by decide +kernel
theorem dX0_fillFitting_61 : decode cX0_fillFitting 61 = .ok (.aload_n 0, 1) := by decide +kernel
theorem dX0_fillFitting_62 : decode cX0_fillFitting 62 = .ok (.getfield 38, 3) := by decide +kernel
theorem dX0_fillFitting_65 : decode cX0_fillFitting 65 = .ok (.iload 5, 2) := by decide +kernel
theorem dX0_fillFitting_67 : decode cX0_fillFitting 67 = .ok (.iaload, 1) := by decide +kernel
theorem dX0_fillFitting_68 : decode cX0_fillFitting 68 = .ok (.goto 4, 3) := by decide +kernel
theorem dX0_fillFitting_71 : decode cX0_fillFitting 71 = .ok (.iconst 0, 1) := by decide +kernel
theorem dX0_fillFitting_72 : decode cX0_fillFitting 72 = .ok (.iastore, 1) := by decide +kernel
theorem dX0_fillFitting_73 : decode cX0_fillFitting 73 = .ok (.iinc 4 1, 3) := by decide +kernel
theorem dX0_fillFitting_76 : decode cX0_fillFitting 76 = .ok (.goto (-63), 3) := by decide +kernel
theorem dX0_fillFitting_79 : decode cX0_fillFitting 79 = .ok (.iinc 3 1, 3) := by decide +kernel
theorem dX0_fillFitting_82 : decode cX0_fillFitting 82 = .ok (.goto (-80), 3) := by decide +kernel
theorem dX0_fillFitting_85 : decode cX0_fillFitting 85 = .ok (.return_, 1) := by decide +kernel
theorem dX0_minutesOf_0 : decode cX0_minutesOf 0 = .ok (.iconst 0, 1) := by decide +kernel
theorem dX0_minutesOf_1 : decode cX0_minutesOf 1 = .ok (.istore_n 2, 1) := by decide +kernel
theorem dX0_minutesOf_2 : decode cX0_minutesOf 2 = .ok (.iconst 0, 1) := by decide +kernel
theorem dX0_minutesOf_3 : decode cX0_minutesOf 3 = .ok (.istore_n 3, 1) := by decide +kernel
theorem dX0_minutesOf_4 : decode cX0_minutesOf 4 = .ok (.iload_n 3, 1) := by decide +kernel
theorem dX0_minutesOf_5 : decode cX0_minutesOf 5 = .ok (.bipush 12, 2) := by decide +kernel
theorem dX0_minutesOf_7 : decode cX0_minutesOf 7 = .ok (.if_icmp .ge 27, 3) := by decide +kernel
theorem dX0_minutesOf_10 : decode cX0_minutesOf 10 = .ok (.iload_n 1, 1) := by decide +kernel
theorem dX0_minutesOf_11 : decode cX0_minutesOf 11 = .ok (.iload_n 3, 1) := by decide +kernel
theorem dX0_minutesOf_12 : decode cX0_minutesOf 12 = .ok (.ishr, 1) := by decide +kernel
theorem dX0_minutesOf_13 : decode cX0_minutesOf 13 = .ok (.iconst 1, 1) := by decide +kernel
theorem dX0_minutesOf_14 : decode cX0_minutesOf 14 = .ok (.iand, 1) := by decide +kernel
theorem dX0_minutesOf_15 : decode cX0_minutesOf 15 = .ok (.iconst 1, 1) := by decide +kernel
theorem dX0_minutesOf_16 : decode cX0_minutesOf 16 = .ok (.if_icmp .ne 12, 3) := by decide +kernel
theorem dX0_minutesOf_19 : decode cX0_minutesOf 19 = .ok (.iload_n 2, 1) := by decide +kernel
theorem dX0_minutesOf_20 : decode cX0_minutesOf 20 = .ok (.aload_n 0, 1) := by decide +kernel
theorem dX0_minutesOf_21 : decode cX0_minutesOf 21 = .ok (.getfield 35, 3) := by decide +kernel
theorem dX0_minutesOf_24 : decode cX0_minutesOf 24 = .ok (.iload_n 3, 1) := by decide +kernel
theorem dX0_minutesOf_25 : decode cX0_minutesOf 25 = .ok (.iaload, 1) := by decide +kernel
theorem dX0_minutesOf_26 : decode cX0_minutesOf 26 = .ok (.iadd, 1) := by decide +kernel
theorem dX0_minutesOf_27 : decode cX0_minutesOf 27 = .ok (.istore_n 2, 1) := by decide +kernel
theorem dX0_minutesOf_28 : decode cX0_minutesOf 28 = .ok (.iinc 3 1, 3) := by decide +kernel
theorem dX0_minutesOf_31 : decode cX0_minutesOf 31 = .ok (.goto (-27), 3) := by decide +kernel
theorem dX0_minutesOf_34 : decode cX0_minutesOf 34 = .ok (.iload_n 2, 1) := by decide +kernel
theorem dX0_minutesOf_35 : decode cX0_minutesOf 35 = .ok (.ireturn, 1) := by decide +kernel
set_option maxRecDepth 20000 in
theorem ggX0_choosesFrom_X0_programmeCellOf : GoodIn wsX0_choosesFrom wsX0_programmeCellOf := goodIn_r _ [8] (by decide +kernel) (by decide +kernel)
set_option maxRecDepth 20000 in
theorem gX0_choosesFrom_X0_programmeCellOf : GoodIn wsX0_choosesFrom (va_wsS RX0 152 yX0_programmeCellOf wsX0_programmeCellOf) := goodIn_app (goodIn_of _ (by decide +kernel)) ggX0_choosesFrom_X0_programmeCellOf
set_option maxRecDepth 20000 in
theorem ggX0_choosesFrom_X0_choosesFrom : GoodIn wsX0_choosesFrom wsX0_choosesFrom := goodIn_r _ [0, 1, 2, 3, 4, 5, 6, 7, 8, 9, 10, 11, 12, 13, 14, 15, 16, 17, 18, 19, 20, 21, 22, 23, 24, 25, 26, 27] (by decide +kernel) (by decide +kernel)
set_option maxRecDepth 20000 in
theorem gX0_choosesFrom_X0_choosesFrom : GoodIn wsX0_choosesFrom (wsV RX0 158 RX0 yX0_choosesFrom wsX0_choosesFrom) := goodIn_app (goodIn_of _ (by decide +kernel)) ggX0_choosesFrom_X0_choosesFrom
theorem dX0_choosesFrom_0 : decode cX0_choosesFrom 0 = .ok (.iload_n 1, 1) := by decide +kernel
theorem dX0_choosesFrom_1 : decode cX0_choosesFrom 1 = .ok (.aload_n 0, 1) := by decide +kernel
theorem dX0_choosesFrom_2 : decode cX0_choosesFrom 2 = .ok (.getfield 7, 3) := by decide +kernel
theorem dX0_choosesFrom_5 : decode cX0_choosesFrom 5 = .ok (.if_icmp .lt 5, 3) := by decide +kernel
theorem dX0_choosesFrom_8 : decode cX0_choosesFrom 8 = .ok (.iconst 1, 1) := by decide +kernel
theorem dX0_choosesFrom_9 : decode cX0_choosesFrom 9 = .ok (.ireturn, 1) := by decide +kernel
theorem dX0_choosesFrom_10 : decode cX0_choosesFrom 10 = .ok (.iconst 0, 1) := by decide +kernel
theorem dX0_choosesFrom_11 : decode cX0_choosesFrom 11 = .ok (.istore 5, 2) := by decide +kernel
theorem dX0_choosesFrom_13 : decode cX0_choosesFrom 13 = .ok (.iload 5, 2) := by decide +kernel
theorem dX0_choosesFrom_15 : decode cX0_choosesFrom 15 = .ok (.aload_n 0, 1) := by decide +kernel
theorem dX0_choosesFrom_16 : decode cX0_choosesFrom 16 = .ok (.getfield 41, 3) := by decide +kernel
theorem dX0_choosesFrom_19 : decode cX0_choosesFrom 19 = .ok (.iload_n 1, 1) := by decide +kernel
theorem dX0_choosesFrom_20 : decode cX0_choosesFrom 20 = .ok (.iaload, 1) := by decide +kernel
theorem dX0_choosesFrom_21 : decode cX0_choosesFrom 21 = .ok (.if_icmp .ge 84, 3) := by decide +kernel
theorem dX0_choosesFrom_24 : decode cX0_choosesFrom 24 = .ok (.aload_n 0, 1) := by decide +kernel
theorem dX0_choosesFrom_25 : decode cX0_choosesFrom 25 = .ok (.getfield 56, 3) := by decide +kernel
theorem dX0_choosesFrom_28 : decode cX0_choosesFrom 28 = .ok (.iload_n 1, 1) := by decide +kernel
theorem dX0_choosesFrom_29 : decode cX0_choosesFrom 29 = .ok (.iload 5, 2) := by decide +kernel
theorem dX0_choosesFrom_31 : decode cX0_choosesFrom 31 = .ok (.invokestatic 152, 3) := by decide +kernel
theorem dX0_choosesFrom_34 : decode cX0_choosesFrom 34 = .ok (.iaload, 1) := by decide +kernel
theorem dX0_choosesFrom_35 : decode cX0_choosesFrom 35 = .ok (.istore 6, 2) := by decide +kernel
theorem dX0_choosesFrom_37 : decode cX0_choosesFrom 37 = .ok (.iload 6, 2) := by decide +kernel
theorem dX0_choosesFrom_39 : decode cX0_choosesFrom 39 = .ok (.ifCond .eq 15, 3) := by decide +kernel
theorem dX0_choosesFrom_42 : decode cX0_choosesFrom 42 = .ok (.iload 6, 2) := by decide +kernel
theorem dX0_choosesFrom_44 : decode cX0_choosesFrom 44 = .ok (.iload 4, 2) := by decide +kernel
theorem dX0_choosesFrom_46 : decode cX0_choosesFrom 46 = .ok (.iand, 1) := by decide +kernel
theorem dX0_choosesFrom_47 : decode cX0_choosesFrom 47 = .ok (.ifCond .ne 7, 3) := by decide +kernel
theorem dX0_choosesFrom_50 : decode cX0_choosesFrom 50 = .ok (.iconst 1, 1) := by decide +kernel
theorem dX0_choosesFrom_51 : decode cX0_choosesFrom 51 = .ok (.goto 4, 3) := by decide +kernel
theorem dX0_choosesFrom_54 : decode cX0_choosesFrom 54 = .ok (.iconst 0, 1) := by decide +kernel
theorem dX0_choosesFrom_55 : decode cX0_choosesFrom 55 = .ok (.istore 7, 2) := by decide +kernel
theorem dX0_choosesFrom_57 : decode cX0_choosesFrom 57 = .ok (.iload 7, 2) := by decide +kernel
theorem dX0_choosesFrom_59 : decode cX0_choosesFrom 59 = .ok (.ifCond .eq 40, 3) := by decide +kernel
theorem dX0_choosesFrom_62 : decode cX0_choosesFrom 62 = .ok (.aload_n 0, 1) := by decide +kernel
theorem dX0_choosesFrom_63 : decode cX0_choosesFrom 63 = .ok (.iload_n 1, 1) := by decide +kernel
theorem dX0_choosesFrom_64 : decode cX0_choosesFrom 64 = .ok (.iconst 1, 1) := by decide +kernel
theorem dX0_choosesFrom_65 : decode cX0_choosesFrom 65 = .ok (.iadd, 1) := by decide +kernel
theorem dX0_choosesFrom_66 : decode cX0_choosesFrom 66 = .ok (.iload_n 2, 1) := by decide +kernel
theorem dX0_choosesFrom_67 : decode cX0_choosesFrom 67 = .ok (.iload 6, 2) := by decide +kernel
theorem dX0_choosesFrom_69 : decode cX0_choosesFrom 69 = .ok (.ior, 1) := by decide +kernel
theorem dX0_choosesFrom_70 : decode cX0_choosesFrom 70 = .ok (.iload_n 3, 1) := by decide +kernel
theorem dX0_choosesFrom_71 : decode cX0_choosesFrom 71 = .ok (.iload_n 2, 1) := by decide +kernel
theorem dX0_choosesFrom_72 : decode cX0_choosesFrom 72 = .ok (.iload 6, 2) := by decide +kernel
theorem dX0_choosesFrom_74 : decode cX0_choosesFrom 74 = .ok (.iand, 1) := by decide +kernel
theorem dX0_choosesFrom_75 : decode cX0_choosesFrom 75 = .ok (.ior, 1) := by decide +kernel
theorem dX0_choosesFrom_76 : decode cX0_choosesFrom 76 = .ok (.iload 4, 2) := by decide +kernel
theorem dX0_choosesFrom_78 : decode cX0_choosesFrom 78 = .ok (.iload_n 3, 1) := by decide +kernel
theorem dX0_choosesFrom_79 : decode cX0_choosesFrom 79 = .ok (.iload 6, 2) := by decide +kernel
theorem dX0_choosesFrom_81 : decode cX0_choosesFrom 81 = .ok (.iand, 1) := by decide +kernel
theorem dX0_choosesFrom_82 : decode cX0_choosesFrom 82 = .ok (.ior, 1) := by decide +kernel
theorem dX0_choosesFrom_83 : decode cX0_choosesFrom 83 = .ok (.invokevirtual 158, 3) := by decide +kernel
theorem dX0_choosesFrom_86 : decode cX0_choosesFrom 86 = .ok (.ifCond .eq 13, 3) := by decide +kernel
theorem dX0_choosesFrom_89 : decode cX0_choosesFrom 89 = .ok (.aload_n 0, 1) := by decide +kernel
theorem dX0_choosesFrom_90 : decode cX0_choosesFrom 90 = .ok (.getfield 44, 3) := by decide +kernel
theorem dX0_choosesFrom_93 : decode cX0_choosesFrom 93 = .ok (.iload_n 1, 1) := by decide +kernel
theorem dX0_choosesFrom_94 : decode cX0_choosesFrom 94 = .ok (.iload 5, 2) := by decide +kernel
theorem dX0_choosesFrom_96 : decode cX0_choosesFrom 96 = .ok (.iastore, 1) := by decide +kernel
theorem dX0_choosesFrom_97 : decode cX0_choosesFrom 97 = .ok (.iconst 1, 1) := by decide +kernel
theorem dX0_choosesFrom_98 : decode cX0_choosesFrom 98 = .ok (.ireturn, 1) := by decide +kernel
theorem dX0_choosesFrom_99 : decode cX0_choosesFrom 99 = .ok (.iinc 5 1, 3) := by decide +kernel
theorem dX0_choosesFrom_102 : decode cX0_choosesFrom 102 = .ok (.goto (-89), 3) := by decide +kernel
theorem dX0_choosesFrom_105 : decode cX0_choosesFrom 105 = .ok (.iconst 0, 1) := by decide +kernel
theorem dX0_choosesFrom_106 : decode cX0_choosesFrom 106 = .ok (.ireturn, 1) := by decide +kernel
theorem dX0_factorial_0 : decode cX0_factorial 0 = .ok (.iconst 1, 1) := by decide +kernel
theorem dX0_factorial_1 : decode cX0_factorial 1 = .ok (.istore_n 1, 1) := by decide +kernel
theorem dX0_factorial_2 : decode cX0_factorial 2 = .ok (.iconst 2, 1) := by decide +kernel
theorem dX0_factorial_3 : decode cX0_factorial 3 = .ok (.istore_n 2, 1) := by decide +kernel
theorem dX0_factorial_4 : decode cX0_factorial 4 = .ok (.iload_n 2, 1) := by decide +kernel
theorem dX0_factorial_5 : decode cX0_factorial 5 = .ok (.iload_n 0, 1) := by decide +kernel
theorem dX0_factorial_6 : decode cX0_factorial 6 = .ok (.if_icmp .gt 13, 3) := by decide +kernel
theorem dX0_factorial_9 : decode cX0_factorial 9 = .ok (.iload_n 1, 1) := by decide +kernel
theorem dX0_factorial_10 : decode cX0_factorial 10 = .ok (.iload_n 2, 1) := by decide +kernel
theorem dX0_factorial_11 : decode cX0_factorial 11 = .ok (.imul, 1) := by decide +kernel
theorem dX0_factorial_12 : decode cX0_factorial 12 = .ok (.istore_n 1, 1) := by decide +kernel
theorem dX0_factorial_13 : decode cX0_factorial 13 = .ok (.iinc 2 1, 3) := by decide +kernel
theorem dX0_factorial_16 : decode cX0_factorial 16 = .ok (.goto (-12), 3) := by decide +kernel
theorem dX0_factorial_19 : decode cX0_factorial 19 = .ok (.iload_n 1, 1) := by decide +kernel
theorem dX0_factorial_20 : decode cX0_factorial 20 = .ok (.ireturn, 1) := by decide +kernel
theorem dX0_bitOf_0 : decode cX0_bitOf 0 = .ok (.iconst 0, 1) := by decide +kernel
theorem dX0_bitOf_1 : decode cX0_bitOf 1 = .ok (.istore_n 2, 1) := by decide +kernel
theorem dX0_bitOf_2 : decode cX0_bitOf 2 = .ok (.iconst 0, 1) := by decide +kernel
theorem dX0_bitOf_3 : decode cX0_bitOf 3 = .ok (.istore_n 3, 1) := by decide +kernel
theorem dX0_bitOf_4 : decode cX0_bitOf 4 = .ok (.iload_n 3, 1) := by decide +kernel
theorem dX0_bitOf_5 : decode cX0_bitOf 5 = .ok (.bipush 10, 2) := by decide +kernel
theorem dX0_bitOf_7 : decode cX0_bitOf 7 = .ok (.if_icmp .ge 28, 3) := by decide +kernel
theorem dX0_bitOf_10 : decode cX0_bitOf 10 = .ok (.iload_n 0, 1) := by decide +kernel
theorem dX0_bitOf_11 : decode cX0_bitOf 11 = .ok (.iload_n 3, 1) := by decide +kernel
theorem dX0_bitOf_12 : decode cX0_bitOf 12 = .ok (.ishr, 1) := by decide +kernel
theorem dX0_bitOf_13 : decode cX0_bitOf 13 = .ok (.iconst 1, 1) := by decide +kernel
theorem dX0_bitOf_14 : decode cX0_bitOf 14 = .ok (.iand, 1) := by decide +kernel
theorem dX0_bitOf_15 : decode cX0_bitOf 15 = .ok (.iconst 1, 1) := by decide +kernel
theorem dX0_bitOf_16 : decode cX0_bitOf 16 = .ok (.if_icmp .ne 13, 3) := by decide +kernel
theorem dX0_bitOf_19 : decode cX0_bitOf 19 = .ok (.iload_n 2, 1) := by decide +kernel
theorem dX0_bitOf_20 : decode cX0_bitOf 20 = .ok (.iload_n 1, 1) := by decide +kernel
theorem dX0_bitOf_21 : decode cX0_bitOf 21 = .ok (.if_icmp .ne 5, 3) := by decide +kernel
theorem dX0_bitOf_24 : decode cX0_bitOf 24 = .ok (.iload_n 3, 1) := by decide +kernel
theorem dX0_bitOf_25 : decode cX0_bitOf 25 = .ok (.ireturn, 1) := by decide +kernel
theorem dX0_bitOf_26 : decode cX0_bitOf 26 = .ok (.iinc 2 1, 3) := by decide +kernel
theorem dX0_bitOf_29 : decode cX0_bitOf 29 = .ok (.iinc 3 1, 3) := by decide +kernel
theorem dX0_bitOf_32 : decode cX0_bitOf 32 = .ok (.goto (-28), 3) := by decide +kernel
theorem dX0_bitOf_35 : decode cX0_bitOf 35 = .ok (.iconst (-1), 1) := by decide +kernel
theorem dX0_bitOf_36 : decode cX0_bitOf 36 = .ok (.ireturn, 1) := by decide +kernel
theorem dX0_countMarks_0 : decode cX0_countMarks 0 = .ok (.iconst 0, 1) := by decide +kernel
theorem dX0_countMarks_1 : decode cX0_countMarks 1 = .ok (.istore_n 1, 1) := by decide +kernel
theorem dX0_countMarks_2 : decode cX0_countMarks 2 = .ok (.iconst 0, 1) := by decide +kernel
theorem dX0_countMarks_3 : decode cX0_countMarks 3 = .ok (.istore_n 2, 1) := by decide +kernel
theorem dX0_countMarks_4 : decode cX0_countMarks 4 = .ok (.iload_n 2, 1) := by decide +kernel
theorem dX0_countMarks_5 : decode cX0_countMarks 5 = .ok (.aload_n 0, 1) := by decide +kernel
theorem dX0_countMarks_6 : decode cX0_countMarks 6 = .ok (.getfield 16, 3) := by decide +kernel
theorem dX0_countMarks_9 : decode cX0_countMarks 9 = .ok (.arraylength, 1) := by decide +kernel
theorem dX0_countMarks_10 : decode cX0_countMarks 10 = .ok (.if_icmp .ge 22, 3) := by decide +kernel
theorem dX0_countMarks_13 : decode cX0_countMarks 13 = .ok (.aload_n 0, 1) := by decide +kernel
theorem dX0_countMarks_14 : decode cX0_countMarks 14 = .ok (.getfield 16, 3) := by decide +kernel
theorem dX0_countMarks_17 : decode cX0_countMarks 17 = .ok (.iload_n 2, 1) := by decide +kernel
theorem dX0_countMarks_18 : decode cX0_countMarks 18 = .ok (.iaload, 1) := by decide +kernel
theorem dX0_countMarks_19 : decode cX0_countMarks 19 = .ok (.iconst (-1), 1) := by decide +kernel
theorem dX0_countMarks_20 : decode cX0_countMarks 20 = .ok (.if_icmp .eq 6, 3) := by decide +kernel
theorem dX0_countMarks_23 : decode cX0_countMarks 23 = .ok (.iinc 1 1, 3) := by decide +kernel
theorem dX0_countMarks_26 : decode cX0_countMarks 26 = .ok (.iinc 2 1, 3) := by decide +kernel
theorem dX0_countMarks_29 : decode cX0_countMarks 29 = .ok (.goto (-25), 3) := by decide +kernel
theorem dX0_countMarks_32 : decode cX0_countMarks 32 = .ok (.iload_n 1, 1) := by decide +kernel
theorem dX0_countMarks_33 : decode cX0_countMarks 33 = .ok (.ireturn, 1) := by decide +kernel
theorem dX0_sumOf_0 : decode cX0_sumOf 0 = .ok (.iconst 0, 1) := by decide +kernel
theorem dX0_sumOf_1 : decode cX0_sumOf 1 = .ok (.istore_n 1, 1) := by decide +kernel
theorem dX0_sumOf_2 : decode cX0_sumOf 2 = .ok (.iconst 0, 1) := by decide +kernel
theorem dX0_sumOf_3 : decode cX0_sumOf 3 = .ok (.istore_n 2, 1) := by decide +kernel
theorem dX0_sumOf_4 : decode cX0_sumOf 4 = .ok (.iload_n 2, 1) := by decide +kernel
theorem dX0_sumOf_5 : decode cX0_sumOf 5 = .ok (.aload_n 0, 1) := by decide +kernel
theorem dX0_sumOf_6 : decode cX0_sumOf 6 = .ok (.arraylength, 1) := by decide +kernel
theorem dX0_sumOf_7 : decode cX0_sumOf 7 = .ok (.if_icmp .ge 15, 3) := by decide +kernel
theorem dX0_sumOf_10 : decode cX0_sumOf 10 = .ok (.iload_n 1, 1) := by decide +kernel
theorem dX0_sumOf_11 : decode cX0_sumOf 11 = .ok (.aload_n 0, 1) := by decide +kernel
theorem dX0_sumOf_12 : decode cX0_sumOf 12 = .ok (.iload_n 2, 1) := by decide +kernel
theorem dX0_sumOf_13 : decode cX0_sumOf 13 = .ok (.iaload, 1) := by decide +kernel
theorem dX0_sumOf_14 : decode cX0_sumOf 14 = .ok (.iadd, 1) := by decide +kernel
theorem dX0_sumOf_15 : decode cX0_sumOf 15 = .ok (.istore_n 1, 1) := by decide +kernel
theorem dX0_sumOf_16 : decode cX0_sumOf 16 = .ok (.iinc 2 1, 3) := by decide +kernel
theorem dX0_sumOf_19 : decode cX0_sumOf 19 = .ok (.goto (-15), 3) := by decide +kernel
theorem dX0_sumOf_22 : decode cX0_sumOf 22 = .ok (.iload_n 1, 1) := by decide +kernel
theorem dX0_sumOf_23 : decode cX0_sumOf 23 = .ok (.ireturn, 1) := by decide +kernel
theorem dX0_mixed_0 : decode cX0_mixed 0 = .ok (.ldc2_w 232, 3) := by decide +kernel
theorem dX0_mixed_3 : decode cX0_mixed 3 = .ok (.lload_n 0, 1) := by decide +kernel
theorem dX0_mixed_4 : decode cX0_mixed 4 = .ok (.lmul, 1) := by decide +kernel
theorem dX0_mixed_5 : decode cX0_mixed 5 = .ok (.lload_n 2, 1) := by decide +kernel
theorem dX0_mixed_6 : decode cX0_mixed 6 = .ok (.ladd, 1) := by decide +kernel
theorem dX0_mixed_7 : decode cX0_mixed 7 = .ok (.lreturn, 1) := by decide +kernel
set_option maxRecDepth 20000 in
theorem ggX0_mixedRow_X0_mixed : GoodIn wsX0_mixedRow wsX0_mixed := goodIn_r _ [4, 5] (by decide +kernel) (by decide +kernel)
set_option maxRecDepth 20000 in
theorem gX0_mixedRow_X0_mixed : GoodIn wsX0_mixedRow (va_wsS RX0 174 yX0_mixed wsX0_mixed) := goodIn_app (goodIn_of _ (by decide +kernel)) ggX0_mixedRow_X0_mixed
theorem dX0_mixedRow_0 : decode cX0_mixedRow 0 = .ok (.lload_n 0, 1) := by decide +kernel
theorem dX0_mixedRow_1 : decode cX0_mixedRow 1 = .ok (.lstore_n 3, 1) := by decide +kernel
theorem dX0_mixedRow_2 : decode cX0_mixedRow 2 = .ok (.iconst 0, 1) := by decide +kernel
theorem dX0_mixedRow_3 : decode cX0_mixedRow 3 = .ok (.istore 5, 2) := by decide +kernel
theorem dX0_mixedRow_5 : decode cX0_mixedRow 5 = .ok (.iload 5, 2) := by decide +kernel
theorem dX0_mixedRow_7 : decode cX0_mixedRow 7 = .ok (.aload_n 2, 1) := by decide +kernel
theorem dX0_mixedRow_8 : decode cX0_mixedRow 8 = .ok (.arraylength, 1) := by decide +kernel
theorem dX0_mixedRow_9 : decode cX0_mixedRow 9 = .ok (.if_icmp .ge 19, 3) := by decide +kernel
theorem dX0_mixedRow_12 : decode cX0_mixedRow 12 = .ok (.lload_n 3, 1) := by decide +kernel
theorem dX0_mixedRow_13 : decode cX0_mixedRow 13 = .ok (.aload_n 2, 1) := by decide +kernel
theorem dX0_mixedRow_14 : decode cX0_mixedRow 14 = .ok (.iload 5, 2) := by decide +kernel
theorem dX0_mixedRow_16 : decode cX0_mixedRow 16 = .ok (.iaload, 1) := by decide +kernel
theorem dX0_mixedRow_17 : decode cX0_mixedRow 17 = .ok (.i2l, 1) := by decide +kernel
theorem dX0_mixedRow_18 : decode cX0_mixedRow 18 = .ok (.invokestatic 174, 3) := by decide +kernel
theorem dX0_mixedRow_21 : decode cX0_mixedRow 21 = .ok (.lstore_n 3, 1) := by decide +kernel
theorem dX0_mixedRow_22 : decode cX0_mixedRow 22 = .ok (.iinc 5 1, 3) := by decide +kernel
theorem dX0_mixedRow_25 : decode cX0_mixedRow 25 = .ok (.goto (-20), 3) := by decide +kernel
theorem dX0_mixedRow_28 : decode cX0_mixedRow 28 = .ok (.lload_n 3, 1) := by decide +kernel
theorem dX0_mixedRow_29 : decode cX0_mixedRow 29 = .ok (.lreturn, 1) := by decide +kernel
set_option maxRecDepth 20000 in
theorem ggX0_mixedRound_X0_cellOf : GoodIn wsX0_mixedRound wsX0_cellOf := goodIn_r _ [8] (by decide +kernel) (by decide +kernel)
set_option maxRecDepth 20000 in
theorem gX0_mixedRound_X0_cellOf : GoodIn wsX0_mixedRound (va_wsS RX0 82 yX0_cellOf wsX0_cellOf) := goodIn_app (goodIn_of _ (by decide +kernel)) ggX0_mixedRound_X0_cellOf
set_option maxRecDepth 20000 in
theorem ggX0_mixedRound_X0_mixed : GoodIn wsX0_mixedRound wsX0_mixed := goodIn_r _ [11, 12] (by decide +kernel) (by decide +kernel)
set_option maxRecDepth 20000 in
theorem gX0_mixedRound_X0_mixed : GoodIn wsX0_mixedRound (va_wsS RX0 174 yX0_mixed wsX0_mixed) := goodIn_app (goodIn_of _ (by decide +kernel)) ggX0_mixedRound_X0_mixed
theorem dX0_mixedRound_0 : decode cX0_mixedRound 0 = .ok (.lload_n 1, 1) := by decide +kernel
theorem dX0_mixedRound_1 : decode cX0_mixedRound 1 = .ok (.lstore 4, 2) := by decide +kernel
theorem dX0_mixedRound_3 : decode cX0_mixedRound 3 = .ok (.iconst 0, 1) := by decide +kernel
theorem dX0_mixedRound_4 : decode cX0_mixedRound 4 = .ok (.istore 6, 2) := by decide +kernel
theorem dX0_mixedRound_6 : decode cX0_mixedRound 6 = .ok (.iload 6, 2) := by decide +kernel
theorem dX0_mixedRound_8 : decode cX0_mixedRound 8 = .ok (.aload_n 0, 1) := by decide +kernel
theorem dX0_mixedRound_9 : decode cX0_mixedRound 9 = .ok (.getfield 13, 3) := by decide +kernel
theorem dX0_mixedRound_12 : decode cX0_mixedRound 12 = .ok (.if_icmp .ge 63, 3) := by decide +kernel
theorem dX0_mixedRound_15 : decode cX0_mixedRound 15 = .ok (.iconst 0, 1) := by decide +kernel
theorem dX0_mixedRound_16 : decode cX0_mixedRound 16 = .ok (.istore 7, 2) := by decide +kernel
theorem dX0_mixedRound_18 : decode cX0_mixedRound 18 = .ok (.iload 7, 2) := by decide +kernel
theorem dX0_mixedRound_20 : decode cX0_mixedRound 20 = .ok (.aload_n 0, 1) := by decide +kernel
theorem dX0_mixedRound_21 : decode cX0_mixedRound 21 = .ok (.getfield 7, 3) := by decide +kernel
theorem dX0_mixedRound_24 : decode cX0_mixedRound 24 = .ok (.if_icmp .ge 45, 3) := by decide +kernel
theorem dX0_mixedRound_27 : decode cX0_mixedRound 27 = .ok (.iload_n 3, 1) := by decide +kernel
theorem dX0_mixedRound_28 : decode cX0_mixedRound 28 = .ok (.iload 6, 2) := by decide +kernel
theorem dX0_mixedRound_30 : decode cX0_mixedRound 30 = .ok (.iload 7, 2) := by decide +kernel
theorem dX0_mixedRound_32 : decode cX0_mixedRound 32 = .ok (.invokestatic 82, 3) := by decide +kernel
theorem dX0_mixedRound_35 : decode cX0_mixedRound 35 = .ok (.istore 8, 2) := by decide +kernel
theorem dX0_mixedRound_37 : decode cX0_mixedRound 37 = .ok (.lload 4, 2) := by decide +kernel
theorem dX0_mixedRound_39 : decode cX0_mixedRound 39 = .ok (.aload_n 0, 1) := by decide +kernel
theorem dX0_mixedRound_40 : decode cX0_mixedRound 40 = .ok (.getfield 16, 3) := by decide +kernel
theorem dX0_mixedRound_43 : decode cX0_mixedRound 43 = .ok (.iload 8, 2) := by decide +kernel
theorem dX0_mixedRound_45 : decode cX0_mixedRound 45 = .ok (.iaload, 1) := by decide +kernel
theorem dX0_mixedRound_46 : decode cX0_mixedRound 46 = .ok (.i2l, 1) := by decide +kernel
theorem dX0_mixedRound_47 : decode cX0_mixedRound 47 = .ok (.invokestatic 174, 3) := by decide +kernel
theorem dX0_mixedRound_50 : decode cX0_mixedRound 50 = .ok (.aload_n 0, 1) := by decide +kernel
theorem dX0_mixedRound_51 : decode cX0_mixedRound 51 = .ok (.getfield 20, 3) := by decide +kernel
theorem dX0_mixedRound_54 : decode cX0_mixedRound 54 = .ok (.iload 8, 2) := by decide +kernel
theorem dX0_mixedRound_56 : decode cX0_mixedRound 56 = .ok (.iaload, 1) := by decide +kernel
theorem dX0_mixedRound_57 : decode cX0_mixedRound 57 = .ok (.i2l, 1) := by decide +kernel
theorem dX0_mixedRound_58 : decode cX0_mixedRound 58 = .ok (.invokestatic 174, 3) := by decide +kernel
theorem dX0_mixedRound_61 : decode cX0_mixedRound 61 = .ok (.lstore 4, 2) := by decide +kernel
theorem dX0_mixedRound_63 : decode cX0_mixedRound 63 = .ok (.iinc 7 1, 3) := by decide +kernel
theorem dX0_mixedRound_66 : decode cX0_mixedRound 66 = .ok (.goto (-48), 3) := by decide +kernel
theorem dX0_mixedRound_69 : decode cX0_mixedRound 69 = .ok (.iinc 6 1, 3) := by decide +kernel
theorem dX0_mixedRound_72 : decode cX0_mixedRound 72 = .ok (.goto (-66), 3) := by decide +kernel
theorem dX0_mixedRound_75 : decode cX0_mixedRound 75 = .ok (.lload 4, 2) := by decide +kernel
theorem dX0_mixedRound_77 : decode cX0_mixedRound 77 = .ok (.lreturn, 1) := by decide +kernel
end
section
set_option maxRecDepth 20000 in
theorem ggX1_init_X1_begin : GoodIn wsX1_init wsX1_begin := goodIn_r _ [25, 7, 9, 10, 16, 26, 27, 28, 29, 30, 31, 32, 33, 34, 35, 36, 37, 38, 39, 40, 41, 42, 43, 44, 45, 46, 47, 48, 49] (by decide +kernel) (by decide +kernel)
set_option maxRecDepth 20000 in
theorem gX1_init_X1_begin : GoodIn wsX1_init (wsV RX1 57 RX1 yX1_begin wsX1_begin) := goodIn_app (goodIn_of _ (by decide +kernel)) ggX1_init_X1_begin
theorem dX1_init_0 : decode cX1_init 0 = .ok (.aload_n 0, 1) := by decide +kernel
theorem dX1_init_1 : decode cX1_init 1 = .ok (.invokespecial 1, 3) := by decide +kernel
theorem dX1_init_4 : decode cX1_init 4 = .ok (.aload_n 0, 1) := by decide +kernel
theorem dX1_init_5 : decode cX1_init 5 = .ok (.iconst 1, 1) := by decide +kernel
theorem dX1_init_6 : decode cX1_init 6 = .ok (.putfield 7, 3) := by decide +kernel
theorem dX1_init_9 : decode cX1_init 9 = .ok (.aload_n 0, 1) := by decide +kernel
theorem dX1_init_10 : decode cX1_init 10 = .ok (.iconst 1, 1) := by decide +kernel
theorem dX1_init_11 : decode cX1_init 11 = .ok (.putfield 13, 3) := by decide +kernel
theorem dX1_init_14 : decode cX1_init 14 = .ok (.aload_n 0, 1) := by decide +kernel
theorem dX1_init_15 : decode cX1_init 15 = .ok (.sipush 210, 3) := by decide +kernel
theorem dX1_init_18 : decode cX1_init 18 = .ok (.newarray .int, 2) := by decide +kernel
theorem dX1_init_20 : decode cX1_init 20 = .ok (.putfield 16, 3) := by decide +kernel
theorem dX1_init_23 : decode cX1_init 23 = .ok (.aload_n 0, 1) := by decide +kernel
theorem dX1_init_24 : decode cX1_init 24 = .ok (.sipush 210, 3) := by decide +kernel
theorem dX1_init_27 : decode cX1_init 27 = .ok (.newarray .boolean, 2) := by decide +kernel
theorem dX1_init_29 : decode cX1_init 29 = .ok (.putfield 20, 3) := by decide +kernel
theorem dX1_init_32 : decode cX1_init 32 = .ok (.aload_n 0, 1) := by decide +kernel
theorem dX1_init_33 : decode cX1_init 33 = .ok (.bipush 70, 2) := by decide +kernel
theorem dX1_init_35 : decode cX1_init 35 = .ok (.newarray .boolean, 2) := by decide +kernel
theorem dX1_init_37 : decode cX1_init 37 = .ok (.putfield 24, 3) := by decide +kernel
theorem dX1_init_40 : decode cX1_init 40 = .ok (.aload_n 0, 1) := by decide +kernel
theorem dX1_init_41 : decode cX1_init 41 = .ok (.iconst 1, 1) := by decide +kernel
theorem dX1_init_42 : decode cX1_init 42 = .ok (.putfield 27, 3) := by decide +kernel
theorem dX1_init_45 : decode cX1_init 45 = .ok (.aload_n 0, 1) := by decide +kernel
theorem dX1_init_46 : decode cX1_init 46 = .ok (.bipush 10, 2) := by decide +kernel
theorem dX1_init_48 : decode cX1_init 48 = .ok (.putfield 30, 3) := by decide +kernel
theorem dX1_init_51 : decode cX1_init 51 = .ok (.aload_n 0, 1) := by decide +kernel
theorem dX1_init_52 : decode cX1_init 52 = .ok (.iconst 3, 1) := by decide +kernel
theorem dX1_init_53 : decode cX1_init 53 = .ok (.newarray .int, 2) := by decide +kernel
theorem dX1_init_55 : decode cX1_init 55 = .ok (.putfield 33, 3) := by decide +kernel
theorem dX1_init_58 : decode cX1_init 58 = .ok (.aload_n 0, 1) := by decide +kernel
theorem dX1_init_59 : decode cX1_init 59 = .ok (.bipush 6, 2) := by decide +kernel
theorem dX1_init_61 : decode cX1_init 61 = .ok (.newarray .int, 2) := by decide +kernel
theorem dX1_init_63 : decode cX1_init 63 = .ok (.putfield 36, 3) := by decide +kernel
theorem dX1_init_66 : decode cX1_init 66 = .ok (.aload_n 0, 1) := by decide +kernel
theorem dX1_init_67 : decode cX1_init 67 = .ok (.bipush 12, 2) := by decide +kernel
theorem dX1_init_69 : decode cX1_init 69 = .ok (.newarray .int, 2) := by decide +kernel
theorem dX1_init_71 : decode cX1_init 71 = .ok (.putfield 39, 3) := by decide +kernel
theorem dX1_init_74 : decode cX1_init 74 = .ok (.aload_n 0, 1) := by decide +kernel
theorem dX1_init_75 : decode cX1_init 75 = .ok (.bipush 10, 2) := by decide +kernel
theorem dX1_init_77 : decode cX1_init 77 = .ok (.newarray .int, 2) := by decide +kernel
theorem dX1_init_79 : decode cX1_init 79 = .ok (.putfield 42, 3) := by decide +kernel
theorem dX1_init_82 : decode cX1_init 82 = .ok (.aload_n 0, 1) := by decide +kernel
theorem dX1_init_83 : decode cX1_init 83 = .ok (.bipush 30, 2) := by decide +kernel
theorem dX1_init_85 : decode cX1_init 85 = .ok (.newarray .int, 2) := by decide +kernel
theorem dX1_init_87 : decode cX1_init 87 = .ok (.putfield 45, 3) := by decide +kernel
theorem dX1_init_90 : decode cX1_init 90 = .ok (.aload_n 0, 1) := by decide +kernel
theorem dX1_init_91 : decode cX1_init 91 = .ok (.bipush 10, 2) := by decide +kernel
theorem dX1_init_93 : decode cX1_init 93 = .ok (.newarray .int, 2) := by decide +kernel
theorem dX1_init_95 : decode cX1_init 95 = .ok (.putfield 48, 3) := by decide +kernel
theorem dX1_init_98 : decode cX1_init 98 = .ok (.aload_n 0, 1) := by decide +kernel
theorem dX1_init_99 : decode cX1_init 99 = .ok (.bipush 7, 2) := by decide +kernel
theorem dX1_init_101 : decode cX1_init 101 = .ok (.newarray .int, 2) := by decide +kernel
theorem dX1_init_103 : decode cX1_init 103 = .ok (.putfield 51, 3) := by decide +kernel
theorem dX1_init_106 : decode cX1_init 106 = .ok (.aload_n 0, 1) := by decide +kernel
theorem dX1_init_107 : decode cX1_init 107 = .ok (.bipush 12, 2) := by decide +kernel
theorem dX1_init_109 : decode cX1_init 109 = .ok (.newarray .int, 2) := by decide +kernel
theorem dX1_init_111 : decode cX1_init 111 = .ok (.putfield 54, 3) := by decide +kernel
theorem dX1_init_114 : decode cX1_init 114 = .ok (.aload_n 0, 1) := by decide +kernel
theorem dX1_init_115 : decode cX1_init 115 = .ok (.getfield 33, 3) := by decide +kernel
theorem dX1_init_118 : decode cX1_init 118 = .ok (.iconst 0, 1) := by decide +kernel
theorem dX1_init_119 : decode cX1_init 119 = .ok (.iconst 1, 1) := by decide +kernel
theorem dX1_init_120 : decode cX1_init 120 = .ok (.iastore, 1) := by decide +kernel
theorem dX1_init_121 : decode cX1_init 121 = .ok (.iconst 0, 1) := by decide +kernel
theorem dX1_init_122 : decode cX1_init 122 = .ok (.istore_n 1, 1) := by decide +kernel
theorem dX1_init_123 : decode cX1_init 123 = .ok (.iload_n 1, 1) := by decide +kernel
theorem dX1_init_124 : decode cX1_init 124 = .ok (.bipush 12, 2) := by decide +kernel
theorem dX1_init_126 : decode cX1_init 126 = .ok (.if_icmp .ge 17, 3) := by decide +kernel
theorem dX1_init_129 : decode cX1_init 129 = .ok (.aload_n 0, 1) := by decide +kernel
theorem dX1_init_130 : decode cX1_init 130 = .ok (.getfield 39, 3) := by decide +kernel
theorem dX1_init_133 : decode cX1_init 133 = .ok (.iload_n 1, 1) := by decide +kernel
theorem dX1_init_134 : decode cX1_init 134 = .ok (.bipush 10, 2) := by decide +kernel
theorem dX1_init_136 : decode cX1_init 136 = .ok (.iastore, 1) := by decide +kernel
theorem dX1_init_137 : decode cX1_init 137 = .ok (.iinc 1 1, 3) := by decide +kernel
theorem dX1_init_140 : decode cX1_init 140 = .ok (.goto (-17), 3) := by decide +kernel
theorem dX1_init_143 : decode cX1_init 143 = .ok (.aload_n 0, 1) := by decide +kernel
theorem dX1_init_144 : decode cX1_init 144 = .ok (.invokevirtual 57, 3) := by decide +kernel
theorem dX1_init_147 : decode cX1_init 147 = .ok (.return_, 1) := by decide +kernel
theorem dX1_in_0 : decode cX1_in 0 = .ok (.iload_n 0, 1) := by decide +kernel
theorem dX1_in_1 : decode cX1_in 1 = .ok (.iload_n 1, 1) := by decide +kernel
theorem dX1_in_2 : decode cX1_in 2 = .ok (.if_icmp .lt 12, 3) := by decide +kernel
theorem dX1_in_5 : decode cX1_in 5 = .ok (.iload_n 0, 1) := by decide +kernel
theorem dX1_in_6 : decode cX1_in 6 = .ok (.iload_n 2, 1) := by decide +kernel
theorem dX1_in_7 : decode cX1_in 7 = .ok (.if_icmp .gt 7, 3) := by decide +kernel
theorem dX1_in_10 : decode cX1_in 10 = .ok (.iconst 1, 1) := by decide +kernel
theorem dX1_in_11 : decode cX1_in 11 = .ok (.goto 4, 3) := by decide +kernel
theorem dX1_in_14 : decode cX1_in 14 = .ok (.iconst 0, 1) := by decide +kernel
theorem dX1_in_15 : decode cX1_in 15 = .ok (.ireturn, 1) := by decide +kernel
theorem dX1_begin_0 : decode cX1_begin 0 = .ok (.iconst 0, 1) := by decide +kernel
theorem dX1_begin_1 : decode cX1_begin 1 = .ok (.istore_n 1, 1) := by decide +kernel
theorem dX1_begin_2 : decode cX1_begin 2 = .ok (.iload_n 1, 1) := by decide +kernel
theorem dX1_begin_3 : decode cX1_begin 3 = .ok (.sipush 210, 3) := by decide +kernel
theorem dX1_begin_6 : decode cX1_begin 6 = .ok (.if_icmp .ge 23, 3) := by decide +kernel
theorem dX1_begin_9 : decode cX1_begin 9 = .ok (.aload_n 0, 1) := by decide +kernel
theorem dX1_begin_10 : decode cX1_begin 10 = .ok (.getfield 16, 3) := by decide +kernel
theorem dX1_begin_13 : decode cX1_begin 13 = .ok (.iload_n 1, 1) := by decide +kernel
theorem dX1_begin_14 : decode cX1_begin 14 = .ok (.iconst (-1), 1) := by decide +kernel
theorem dX1_begin_15 : decode cX1_begin 15 = .ok (.iastore, 1) := by decide +kernel
theorem dX1_begin_16 : decode cX1_begin 16 = .ok (.aload_n 0, 1) := by decide +kernel
theorem dX1_begin_17 : decode cX1_begin 17 = .ok (.getfield 20, 3) := by decide +kernel
theorem dX1_begin_20 : decode cX1_begin 20 = .ok (.iload_n 1, 1) := by decide +kernel
theorem dX1_begin_21 : decode cX1_begin 21 = .ok (.iconst 0, 1) := by decide +kernel
theorem dX1_begin_22 : decode cX1_begin 22 = .ok (.bastore, 1) := by decide +kernel
theorem dX1_begin_23 : decode cX1_begin 23 = .ok (.iinc 1 1, 3) := by decide +kernel
theorem dX1_begin_26 : decode cX1_begin 26 = .ok (.goto (-24), 3) := by decide +kernel
theorem dX1_begin_29 : decode cX1_begin 29 = .ok (.iconst 0, 1) := by decide +kernel
theorem dX1_begin_30 : decode cX1_begin 30 = .ok (.istore_n 1, 1) := by decide +kernel
theorem dX1_begin_31 : decode cX1_begin 31 = .ok (.iload_n 1, 1) := by decide +kernel
theorem dX1_begin_32 : decode cX1_begin 32 = .ok (.bipush 70, 2) := by decide +kernel
theorem dX1_begin_34 : decode cX1_begin 34 = .ok (.if_icmp .ge 16, 3) := by decide +kernel
theorem dX1_begin_37 : decode cX1_begin 37 = .ok (.aload_n 0, 1) := by decide +kernel
theorem dX1_begin_38 : decode cX1_begin 38 = .ok (.getfield 24, 3) := by decide +kernel
theorem dX1_begin_41 : decode cX1_begin 41 = .ok (.iload_n 1, 1) := by decide +kernel
theorem dX1_begin_42 : decode cX1_begin 42 = .ok (.iconst 0, 1) := by decide +kernel
theorem dX1_begin_43 : decode cX1_begin 43 = .ok (.bastore, 1) := by decide +kernel
theorem dX1_begin_44 : decode cX1_begin 44 = .ok (.iinc 1 1, 3) := by decide +kernel
theorem dX1_begin_47 : decode cX1_begin 47 = .ok (.goto (-16), 3) := by decide +kernel
theorem dX1_begin_50 : decode cX1_begin 50 = .ok (.iconst 0, 1) := by decide +kernel
theorem dX1_begin_51 : decode cX1_begin 51 = .ok (.istore_n 1, 1) := by decide +kernel
theorem dX1_begin_52 : decode cX1_begin 52 = .ok (.iload_n 1, 1) := by decide +kernel
theorem dX1_begin_53 : decode cX1_begin 53 = .ok (.bipush 10, 2) := by decide +kernel
theorem dX1_begin_55 : decode cX1_begin 55 = .ok (.if_icmp .ge 16, 3) := by decide +kernel
theorem dX1_begin_58 : decode cX1_begin 58 = .ok (.aload_n 0, 1) := by decide +kernel
theorem dX1_begin_59 : decode cX1_begin 59 = .ok (.getfield 42, 3) := by decide +kernel
theorem dX1_begin_62 : decode cX1_begin 62 = .ok (.iload_n 1, 1) := by decide +kernel
theorem dX1_begin_63 : decode cX1_begin 63 = .ok (.iconst 0, 1) := by decide +kernel
theorem dX1_begin_64 : decode cX1_begin 64 = .ok (.iastore, 1) := by decide +kernel
theorem dX1_begin_65 : decode cX1_begin 65 = .ok (.iinc 1 1, 3) := by decide +kernel
theorem dX1_begin_68 : decode cX1_begin 68 = .ok (.goto (-16), 3) := by decide +kernel
theorem dX1_begin_71 : decode cX1_begin 71 = .ok (.aload_n 0, 1) := by decide +kernel
theorem dX1_begin_72 : decode cX1_begin 72 = .ok (.iconst 0, 1) := by decide +kernel
theorem dX1_begin_73 : decode cX1_begin 73 = .ok (.putfield 60, 3) := by decide +kernel
theorem dX1_begin_76 : decode cX1_begin 76 = .ok (.return_, 1) := by decide +kernel
set_option maxRecDepth 20000 in
theorem ggX1_isRound_X1_in : GoodIn wsX1_isRound wsX1_in := goodIn_r _ [4] (by decide +kernel) (by decide +kernel)
set_option maxRecDepth 20000 in
theorem gX1_isRound_X1_in : GoodIn wsX1_isRound (va_wsS RX1 64 yX1_in wsX1_in) := goodIn_app (goodIn_of _ (by decide +kernel)) ggX1_isRound_X1_in
theorem dX1_isRound_0 : decode cX1_isRound 0 = .ok (.iload_n 0, 1) := by decide +kernel
theorem dX1_isRound_1 : decode cX1_isRound 1 = .ok (.iconst 0, 1) := by decide +kernel
theorem dX1_isRound_2 : decode cX1_isRound 2 = .ok (.iconst 2, 1) := by decide +kernel
theorem dX1_isRound_3 : decode cX1_isRound 3 = .ok (.invokestatic 64, 3) := by decide +kernel
theorem dX1_isRound_6 : decode cX1_isRound 6 = .ok (.ireturn, 1) := by decide +kernel
set_option maxRecDepth 20000 in
theorem ggX1_isPlayer_X1_in : GoodIn wsX1_isPlayer wsX1_in := goodIn_r _ [5] (by decide +kernel) (by decide +kernel)
set_option maxRecDepth 20000 in
theorem gX1_isPlayer_X1_in : GoodIn wsX1_isPlayer (va_wsS RX1 64 yX1_in wsX1_in) := goodIn_app (goodIn_of _ (by decide +kernel)) ggX1_isPlayer_X1_in
theorem dX1_isPlayer_0 : decode cX1_isPlayer 0 = .ok (.iload_n 1, 1) := by decide +kernel
theorem dX1_isPlayer_1 : decode cX1_isPlayer 1 = .ok (.iconst 0, 1) := by decide +kernel
theorem dX1_isPlayer_2 : decode cX1_isPlayer 2 = .ok (.aload_n 0, 1) := by decide +kernel
theorem dX1_isPlayer_3 : decode cX1_isPlayer 3 = .ok (.getfield 7, 3) := by decide +kernel
theorem dX1_isPlayer_6 : decode cX1_isPlayer 6 = .ok (.iconst 1, 1) := by decide +kernel
theorem dX1_isPlayer_7 : decode cX1_isPlayer 7 = .ok (.isub, 1) := by decide +kernel
theorem dX1_isPlayer_8 : decode cX1_isPlayer 8 = .ok (.invokestatic 64, 3) := by decide +kernel
theorem dX1_isPlayer_11 : decode cX1_isPlayer 11 = .ok (.ireturn, 1) := by decide +kernel
set_option maxRecDepth 20000 in
theorem ggX1_isJuror_X1_in : GoodIn wsX1_isJuror wsX1_in := goodIn_r _ [5] (by decide +kernel) (by decide +kernel)
set_option maxRecDepth 20000 in
theorem gX1_isJuror_X1_in : GoodIn wsX1_isJuror (va_wsS RX1 64 yX1_in wsX1_in) := goodIn_app (goodIn_of _ (by decide +kernel)) ggX1_isJuror_X1_in
theorem dX1_isJuror_0 : decode cX1_isJuror 0 = .ok (.iload_n 1, 1) := by decide +kernel
theorem dX1_isJuror_1 : decode cX1_isJuror 1 = .ok (.iconst 0, 1) := by decide +kernel
theorem dX1_isJuror_2 : decode cX1_isJuror 2 = .ok (.aload_n 0, 1) := by decide +kernel
theorem dX1_isJuror_3 : decode cX1_isJuror 3 = .ok (.getfield 13, 3) := by decide +kernel
theorem dX1_isJuror_6 : decode cX1_isJuror 6 = .ok (.iconst 1, 1) := by decide +kernel
theorem dX1_isJuror_7 : decode cX1_isJuror 7 = .ok (.isub, 1) := by decide +kernel
theorem dX1_isJuror_8 : decode cX1_isJuror 8 = .ok (.invokestatic 64, 3) := by decide +kernel
theorem dX1_isJuror_11 : decode cX1_isJuror 11 = .ok (.ireturn, 1) := by decide +kernel
set_option maxRecDepth 20000 in
theorem ggX1_contest_X1_in : GoodIn wsX1_contest wsX1_in := goodIn_r _ [6] (by decide +kernel) (by decide +kernel)
set_option maxRecDepth 20000 in
theorem gX1_contest_X1_in : GoodIn wsX1_contest (va_wsS RX1 64 yX1_in wsX1_in) := goodIn_app (goodIn_of _ (by decide +kernel)) ggX1_contest_X1_in
set_option maxRecDepth 20000 in
theorem ggX1_contest_X1_begin : GoodIn wsX1_contest wsX1_begin := goodIn_r _ [10, 11, 12, 13, 14, 15, 16, 17, 18, 19, 20, 21, 22, 23, 24, 25, 26, 27, 28, 29, 30, 31, 32, 33, 34, 35, 36, 37, 38] (by decide +kernel) (by decide +kernel)
set_option maxRecDepth 20000 in
theorem gX1_contest_X1_begin : GoodIn wsX1_contest (wsV RX1 57 RX1 yX1_begin wsX1_begin) := goodIn_app (goodIn_of _ (by decide +kernel)) ggX1_contest_X1_begin
theorem dX1_contest_0 : decode cX1_contest 0 = .ok (.iload_n 1, 1) := by decide +kernel
theorem dX1_contest_1 : decode cX1_contest 1 = .ok (.iconst 1, 1) := by decide +kernel
theorem dX1_contest_2 : decode cX1_contest 2 = .ok (.bipush 10, 2) := by decide +kernel
theorem dX1_contest_4 : decode cX1_contest 4 = .ok (.invokestatic 64, 3) := by decide +kernel
theorem dX1_contest_7 : decode cX1_contest 7 = .ok (.ifCond .eq 13, 3) := by decide +kernel
theorem dX1_contest_10 : decode cX1_contest 10 = .ok (.iload_n 2, 1) := by decide +kernel
theorem dX1_contest_11 : decode cX1_contest 11 = .ok (.iconst 1, 1) := by decide +kernel
theorem dX1_contest_12 : decode cX1_contest 12 = .ok (.bipush 7, 2) := by decide +kernel
theorem dX1_contest_14 : decode cX1_contest 14 = .ok (.invokestatic 64, 3) := by decide +kernel
theorem dX1_contest_17 : decode cX1_contest 17 = .ok (.ifCond .ne 6, 3) := by decide +kernel
theorem dX1_contest_20 : decode cX1_contest 20 = .ok (.bipush (-102), 2) := by decide +kernel
theorem dX1_contest_22 : decode cX1_contest 22 = .ok (.ireturn, 1) := by decide +kernel
theorem dX1_contest_23 : decode cX1_contest 23 = .ok (.aload_n 0, 1) := by decide +kernel
theorem dX1_contest_24 : decode cX1_contest 24 = .ok (.iload_n 1, 1) := by decide +kernel
theorem dX1_contest_25 : decode cX1_contest 25 = .ok (.putfield 7, 3) := by decide +kernel
theorem dX1_contest_28 : decode cX1_contest 28 = .ok (.aload_n 0, 1) := by decide +kernel
theorem dX1_contest_29 : decode cX1_contest 29 = .ok (.iload_n 2, 1) := by decide +kernel
theorem dX1_contest_30 : decode cX1_contest 30 = .ok (.putfield 13, 3) := by decide +kernel
theorem dX1_contest_33 : decode cX1_contest 33 = .ok (.aload_n 0, 1) := by decide +kernel
theorem dX1_contest_34 : decode cX1_contest 34 = .ok (.invokevirtual 57, 3) := by decide +kernel
theorem dX1_contest_37 : decode cX1_contest 37 = .ok (.iload_n 1, 1) := by decide +kernel
theorem dX1_contest_38 : decode cX1_contest 38 = .ok (.ireturn, 1) := by decide +kernel
set_option maxRecDepth 20000 in
theorem ggX1_mark_X1_isRound : GoodIn wsX1_mark wsX1_isRound := goodIn_r _ [5, 6, 7, 4, 8] (by decide +kernel) (by decide +kernel)
set_option maxRecDepth 20000 in
theorem gX1_mark_X1_isRound : GoodIn wsX1_mark (va_wsS RX1 68 yX1_isRound wsX1_isRound) := goodIn_app (goodIn_of _ (by decide +kernel)) ggX1_mark_X1_isRound
set_option maxRecDepth 20000 in
theorem ggX1_mark_X1_isJuror : GoodIn wsX1_mark wsX1_isJuror := goodIn_r _ [12, 13, 6, 7, 4, 8, 19, 20, 21, 22, 23, 24, 25, 26, 27, 28, 29, 30, 31, 32, 33, 34, 35, 36, 37, 38, 39, 40, 41] (by decide +kernel) (by decide +kernel)
set_option maxRecDepth 20000 in
theorem gX1_mark_X1_isJuror : GoodIn wsX1_mark (wsV RX1 72 RX1 yX1_isJuror wsX1_isJuror) := goodIn_app (goodIn_of _ (by decide +kernel)) ggX1_mark_X1_isJuror
set_option maxRecDepth 20000 in
theorem ggX1_mark_X1_isPlayer : GoodIn wsX1_mark wsX1_isPlayer := goodIn_r _ [17, 18, 6, 7, 4, 8, 19, 20, 21, 22, 23, 24, 25, 26, 27, 28, 29, 30, 31, 32, 33, 34, 35, 36, 37, 38, 39, 40, 41] (by decide +kernel) (by decide +kernel)
set_option maxRecDepth 20000 in
theorem gX1_mark_X1_isPlayer : GoodIn wsX1_mark (wsV RX1 75 RX1 yX1_isPlayer wsX1_isPlayer) := goodIn_app (goodIn_of _ (by decide +kernel)) ggX1_mark_X1_isPlayer
set_option maxRecDepth 20000 in
theorem ggX1_mark_X1_in : GoodIn wsX1_mark wsX1_in := goodIn_r _ [8] (by decide +kernel) (by decide +kernel)
set_option maxRecDepth 20000 in
theorem gX1_mark_X1_in : GoodIn wsX1_mark (va_wsS RX1 64 yX1_in wsX1_in) := goodIn_app (goodIn_of _ (by decide +kernel)) ggX1_mark_X1_in
theorem dX1_mark_0 : decode cX1_mark 0 = .ok (.iload_n 1, 1) := by decide +kernel
theorem dX1_mark_1 : decode cX1_mark 1 = .ok (.invokestatic 68, 3) := by decide +kernel
theorem dX1_mark_4 : decode cX1_mark 4 = .ok (.ifCond .eq 19, 3) := by decide +kernel
theorem dX1_mark_7 : decode cX1_mark 7 = .ok (.aload_n 0, 1) := by decide +kernel
theorem dX1_mark_8 : decode cX1_mark 8 = .ok (.iload_n 2, 1) := by decide +kernel
theorem dX1_mark_9 : decode cX1_mark 9 = .ok (.invokevirtual 72, 3) := by decide +kernel
theorem dX1_mark_12 : decode cX1_mark 12 = .ok (.ifCond .eq 11, 3) := by decide +kernel
theorem dX1_mark_15 : decode cX1_mark 15 = .ok (.aload_n 0, 1) := by decide +kernel
theorem dX1_mark_16 : decode cX1_mark 16 = .ok (.iload_n 3, 1) := by decide +kernel
theorem dX1_mark_17 : decode cX1_mark 17 = .ok (.invokevirtual 75, 3) := by decide +kernel
theorem dX1_mark_20 : decode cX1_mark 20 = .ok (.ifCond .ne 6, 3) := by decide +kernel
theorem dX1_mark_23 : decode cX1_mark 23 = .ok (.bipush (-101), 2) := by decide +kernel
theorem dX1_mark_25 : decode cX1_mark 25 = .ok (.ireturn, 1) := by decide +kernel
theorem dX1_mark_26 : decode cX1_mark 26 = .ok (.iload 4, 2) := by decide +kernel
theorem dX1_mark_28 : decode cX1_mark 28 = .ok (.iconst (-1), 1) := by decide +kernel
theorem dX1_mark_29 : decode cX1_mark 29 = .ok (.if_icmp .eq 17, 3) := by decide +kernel
theorem dX1_mark_32 : decode cX1_mark 32 = .ok (.iload 4, 2) := by decide +kernel
theorem dX1_mark_34 : decode cX1_mark 34 = .ok (.iconst 1, 1) := by decide +kernel
theorem dX1_mark_35 : decode cX1_mark 35 = .ok (.bipush 100, 2) := by decide +kernel
theorem dX1_mark_37 : decode cX1_mark 37 = .ok (.invokestatic 64, 3) := by decide +kernel
theorem dX1_mark_40 : decode cX1_mark 40 = .ok (.ifCond .ne 6, 3) := by decide +kernel
theorem dX1_mark_43 : decode cX1_mark 43 = .ok (.bipush (-102), 2) := by decide +kernel
theorem dX1_mark_45 : decode cX1_mark 45 = .ok (.ireturn, 1) := by decide +kernel
theorem dX1_mark_46 : decode cX1_mark 46 = .ok (.bipush 70, 2) := by decide +kernel
theorem dX1_mark_48 : decode cX1_mark 48 = .ok (.iload_n 1, 1) := by decide +kernel
theorem dX1_mark_49 : decode cX1_mark 49 = .ok (.imul, 1) := by decide +kernel
theorem dX1_mark_50 : decode cX1_mark 50 = .ok (.bipush 10, 2) := by decide +kernel
theorem dX1_mark_52 : decode cX1_mark 52 = .ok (.iload_n 2, 1) := by decide +kernel
theorem dX1_mark_53 : decode cX1_mark 53 = .ok (.imul, 1) := by decide +kernel
theorem dX1_mark_54 : decode cX1_mark 54 = .ok (.iadd, 1) := by decide +kernel
theorem dX1_mark_55 : decode cX1_mark 55 = .ok (.iload_n 3, 1) := by decide +kernel
theorem dX1_mark_56 : decode cX1_mark 56 = .ok (.iadd, 1) := by decide +kernel
theorem dX1_mark_57 : decode cX1_mark 57 = .ok (.istore 5, 2) := by decide +kernel
theorem dX1_mark_59 : decode cX1_mark 59 = .ok (.aload_n 0, 1) := by decide +kernel
theorem dX1_mark_60 : decode cX1_mark 60 = .ok (.getfield 16, 3) := by decide +kernel
theorem dX1_mark_63 : decode cX1_mark 63 = .ok (.iload 5, 2) := by decide +kernel
theorem dX1_mark_65 : decode cX1_mark 65 = .ok (.iaload, 1) := by decide +kernel
theorem dX1_mark_66 : decode cX1_mark 66 = .ok (.istore 6, 2) := by decide +kernel
theorem dX1_mark_68 : decode cX1_mark 68 = .ok (.aload_n 0, 1) := by decide +kernel
theorem dX1_mark_69 : decode cX1_mark 69 = .ok (.getfield 16, 3) := by decide +kernel
theorem dX1_mark_72 : decode cX1_mark 72 = .ok (.iload 5, 2) := by decide +kernel
theorem dX1_mark_74 : decode cX1_mark 74 = .ok (.iload 4, 2) := by decide +kernel
theorem dX1_mark_76 : decode cX1_mark 76 = .ok (.iastore, 1) := by decide +kernel
theorem dX1_mark_77 : decode cX1_mark 77 = .ok (.iload 6, 2) := by decide +kernel
theorem dX1_mark_79 : decode cX1_mark 79 = .ok (.ireturn, 1) := by decide +kernel
set_option maxRecDepth 20000 in
theorem ggX1_yes_X1_isRound : GoodIn wsX1_yes wsX1_isRound := goodIn_r _ [5, 6, 7, 4, 8] (by decide +kernel) (by decide +kernel)
set_option maxRecDepth 20000 in
theorem gX1_yes_X1_isRound : GoodIn wsX1_yes (va_wsS RX1 68 yX1_isRound wsX1_isRound) := goodIn_app (goodIn_of _ (by decide +kernel)) ggX1_yes_X1_isRound
set_option maxRecDepth 20000 in
theorem ggX1_yes_X1_isJuror : GoodIn wsX1_yes wsX1_isJuror := goodIn_r _ [12, 13, 6, 7, 4, 8, 19, 20, 21, 22, 23, 24, 25, 26, 27, 28, 29, 30, 31, 32, 33, 34, 35, 36, 37, 38, 39, 40, 41] (by decide +kernel) (by decide +kernel)
set_option maxRecDepth 20000 in
theorem gX1_yes_X1_isJuror : GoodIn wsX1_yes (wsV RX1 72 RX1 yX1_isJuror wsX1_isJuror) := goodIn_app (goodIn_of _ (by decide +kernel)) ggX1_yes_X1_isJuror
set_option maxRecDepth 20000 in
theorem ggX1_yes_X1_isPlayer : GoodIn wsX1_yes wsX1_isPlayer := goodIn_r _ [17, 18, 6, 7, 4, 8, 19, 20, 21, 22, 23, 24, 25, 26, 27, 28, 29, 30, 31, 32, 33, 34, 35, 36, 37, 38, 39, 40, 41] (by decide +kernel) (by decide +kernel)
set_option maxRecDepth 20000 in
theorem gX1_yes_X1_isPlayer : GoodIn wsX1_yes (wsV RX1 75 RX1 yX1_isPlayer wsX1_isPlayer) := goodIn_app (goodIn_of _ (by decide +kernel)) ggX1_yes_X1_isPlayer
theorem dX1_yes_0 : decode cX1_yes 0 = .ok (.iload_n 1, 1) := by decide +kernel
theorem dX1_yes_1 : decode cX1_yes 1 = .ok (.invokestatic 68, 3) := by decide +kernel
theorem dX1_yes_4 : decode cX1_yes 4 = .ok (.ifCond .eq 19, 3) := by decide +kernel
theorem dX1_yes_7 : decode cX1_yes 7 = .ok (.aload_n 0, 1) := by decide +kernel
theorem dX1_yes_8 : decode cX1_yes 8 = .ok (.iload_n 2, 1) := by decide +kernel
theorem dX1_yes_9 : decode cX1_yes 9 = .ok (.invokevirtual 72, 3) := by decide +kernel
theorem dX1_yes_12 : decode cX1_yes 12 = .ok (.ifCond .eq 11, 3) := by decide +kernel
theorem dX1_yes_15 : decode cX1_yes 15 = .ok (.aload_n 0, 1) := by decide +kernel
theorem dX1_yes_16 : decode cX1_yes 16 = .ok (.iload_n 3, 1) := by decide +kernel
theorem dX1_yes_17 : decode cX1_yes 17 = .ok (.invokevirtual 75, 3) := by decide +kernel
theorem dX1_yes_20 : decode cX1_yes 20 = .ok (.ifCond .ne 6, 3) := by decide +kernel
theorem dX1_yes_23 : decode cX1_yes 23 = .ok (.bipush (-101), 2) := by decide +kernel
theorem dX1_yes_25 : decode cX1_yes 25 = .ok (.ireturn, 1) := by decide +kernel
theorem dX1_yes_26 : decode cX1_yes 26 = .ok (.bipush 70, 2) := by decide +kernel
theorem dX1_yes_28 : decode cX1_yes 28 = .ok (.iload_n 1, 1) := by decide +kernel
theorem dX1_yes_29 : decode cX1_yes 29 = .ok (.imul, 1) := by decide +kernel
theorem dX1_yes_30 : decode cX1_yes 30 = .ok (.bipush 10, 2) := by decide +kernel
theorem dX1_yes_32 : decode cX1_yes 32 = .ok (.iload_n 2, 1) := by decide +kernel
theorem dX1_yes_33 : decode cX1_yes 33 = .ok (.imul, 1) := by decide +kernel
theorem dX1_yes_34 : decode cX1_yes 34 = .ok (.iadd, 1) := by decide +kernel
theorem dX1_yes_35 : decode cX1_yes 35 = .ok (.iload_n 3, 1) := by decide +kernel
theorem dX1_yes_36 : decode cX1_yes 36 = .ok (.iadd, 1) := by decide +kernel
theorem dX1_yes_37 : decode cX1_yes 37 = .ok (.istore 5, 2) := by decide +kernel
theorem dX1_yes_39 : decode cX1_yes 39 = .ok (.aload_n 0, 1) := by decide +kernel
theorem dX1_yes_40 : decode cX1_yes 40 = .ok (.getfield 20, 3) := by decide +kernel
theorem dX1_yes_43 : decode cX1_yes 43 = .ok (.iload 5, 2) := by decide +kernel
theorem dX1_yes_45 : decode cX1_yes 45 = .ok (.baload, 1) := by decide +kernel
theorem dX1_yes_46 : decode cX1_yes 46 = .ok (.ifCond .eq 7, 3) := by decide +kernel
theorem dX1_yes_49 : decode cX1_yes 49 = .ok (.iconst 1, 1) := by decide +kernel
theorem dX1_yes_50 : decode cX1_yes 50 = .ok (.goto 4, 3) := by decide +kernel
theorem dX1_yes_53 : decode cX1_yes 53 = .ok (.iconst 0, 1) := by decide +kernel
theorem dX1_yes_54 : decode cX1_yes 54 = .ok (.istore 6, 2) := by decide +kernel
theorem dX1_yes_56 : decode cX1_yes 56 = .ok (.aload_n 0, 1) := by decide +kernel
theorem dX1_yes_57 : decode cX1_yes 57 = .ok (.getfield 20, 3) := by decide +kernel
theorem dX1_yes_60 : decode cX1_yes 60 = .ok (.iload 5, 2) := by decide +kernel
theorem dX1_yes_62 : decode cX1_yes 62 = .ok (.iload 4, 2) := by decide +kernel
theorem dX1_yes_64 : decode cX1_yes 64 = .ok (.bastore, 1) := by decide +kernel
theorem dX1_yes_65 : decode cX1_yes 65 = .ok (.iload 6, 2) := by decide +kernel
theorem dX1_yes_67 : decode cX1_yes 67 = .ok (.ireturn, 1) := by decide +kernel
set_option maxRecDepth 20000 in
theorem ggX1_pupil_X1_isJuror : GoodIn wsX1_pupil wsX1_isJuror := goodIn_r _ [6, 7, 8, 9, 5, 10, 16, 17, 18, 19, 20, 21, 22, 23, 24, 25, 26, 27, 28, 29, 30, 31, 32, 33, 34, 35, 36, 37, 38] (by decide +kernel) (by decide +kernel)
set_option maxRecDepth 20000 in
theorem gX1_pupil_X1_isJuror : GoodIn wsX1_pupil (wsV RX1 72 RX1 yX1_isJuror wsX1_isJuror) := goodIn_app (goodIn_of _ (by decide +kernel)) ggX1_pupil_X1_isJuror
set_option maxRecDepth 20000 in
theorem ggX1_pupil_X1_isPlayer : GoodIn wsX1_pupil wsX1_isPlayer := goodIn_r _ [14, 15, 8, 9, 5, 10, 16, 17, 18, 19, 20, 21, 22, 23, 24, 25, 26, 27, 28, 29, 30, 31, 32, 33, 34, 35, 36, 37, 38] (by decide +kernel) (by decide +kernel)
set_option maxRecDepth 20000 in
theorem gX1_pupil_X1_isPlayer : GoodIn wsX1_pupil (wsV RX1 75 RX1 yX1_isPlayer wsX1_isPlayer) := goodIn_app (goodIn_of _ (by decide +kernel)) ggX1_pupil_X1_isPlayer
theorem dX1_pupil_0 : decode cX1_pupil 0 = .ok (.aload_n 0, 1) := by decide +kernel
theorem dX1_pupil_1 : decode cX1_pupil 1 = .ok (.iload_n 1, 1) := by decide +kernel
theorem dX1_pupil_2 : decode cX1_pupil 2 = .ok (.invokevirtual 72, 3) := by decide +kernel
theorem dX1_pupil_5 : decode cX1_pupil 5 = .ok (.ifCond .eq 11, 3) := by decide +kernel
theorem dX1_pupil_8 : decode cX1_pupil 8 = .ok (.aload_n 0, 1) := by decide +kernel
theorem dX1_pupil_9 : decode cX1_pupil 9 = .ok (.iload_n 2, 1) := by decide +kernel
theorem dX1_pupil_10 : decode cX1_pupil 10 = .ok (.invokevirtual 75, 3) := by decide +kernel
theorem dX1_pupil_13 : decode cX1_pupil 13 = .ok (.ifCond .ne 6, 3) := by decide +kernel
theorem dX1_pupil_16 : decode cX1_pupil 16 = .ok (.bipush (-101), 2) := by decide +kernel
theorem dX1_pupil_18 : decode cX1_pupil 18 = .ok (.ireturn, 1) := by decide +kernel
theorem dX1_pupil_19 : decode cX1_pupil 19 = .ok (.aload_n 0, 1) := by decide +kernel
theorem dX1_pupil_20 : decode cX1_pupil 20 = .ok (.getfield 24, 3) := by decide +kernel
theorem dX1_pupil_23 : decode cX1_pupil 23 = .ok (.bipush 10, 2) := by decide +kernel
theorem dX1_pupil_25 : decode cX1_pupil 25 = .ok (.iload_n 1, 1) := by decide +kernel
theorem dX1_pupil_26 : decode cX1_pupil 26 = .ok (.imul, 1) := by decide +kernel
theorem dX1_pupil_27 : decode cX1_pupil 27 = .ok (.iload_n 2, 1) := by decide +kernel
theorem dX1_pupil_28 : decode cX1_pupil 28 = .ok (.iadd, 1) := by decide +kernel
theorem dX1_pupil_29 : decode cX1_pupil 29 = .ok (.baload, 1) := by decide +kernel
theorem dX1_pupil_30 : decode cX1_pupil 30 = .ok (.ifCond .eq 7, 3) := by decide +kernel
theorem dX1_pupil_33 : decode cX1_pupil 33 = .ok (.iconst 1, 1) := by decide +kernel
theorem dX1_pupil_34 : decode cX1_pupil 34 = .ok (.goto 4, 3) := by decide +kernel
theorem dX1_pupil_37 : decode cX1_pupil 37 = .ok (.iconst 0, 1) := by decide +kernel
theorem dX1_pupil_38 : decode cX1_pupil 38 = .ok (.istore 4, 2) := by decide +kernel
theorem dX1_pupil_40 : decode cX1_pupil 40 = .ok (.aload_n 0, 1) := by decide +kernel
theorem dX1_pupil_41 : decode cX1_pupil 41 = .ok (.getfield 24, 3) := by decide +kernel
theorem dX1_pupil_44 : decode cX1_pupil 44 = .ok (.bipush 10, 2) := by decide +kernel
theorem dX1_pupil_46 : decode cX1_pupil 46 = .ok (.iload_n 1, 1) := by decide +kernel
theorem dX1_pupil_47 : decode cX1_pupil 47 = .ok (.imul, 1) := by decide +kernel
theorem dX1_pupil_48 : decode cX1_pupil 48 = .ok (.iload_n 2, 1) := by decide +kernel
theorem dX1_pupil_49 : decode cX1_pupil 49 = .ok (.iadd, 1) := by decide +kernel
theorem dX1_pupil_50 : decode cX1_pupil 50 = .ok (.iload_n 3, 1) := by decide +kernel
theorem dX1_pupil_51 : decode cX1_pupil 51 = .ok (.bastore, 1) := by decide +kernel
theorem dX1_pupil_52 : decode cX1_pupil 52 = .ok (.iload 4, 2) := by decide +kernel
theorem dX1_pupil_54 : decode cX1_pupil 54 = .ok (.ireturn, 1) := by decide +kernel
set_option maxRecDepth 20000 in
theorem ggX1_rule_X1_in : GoodIn wsX1_rule wsX1_in := goodIn_r _ [6] (by decide +kernel) (by decide +kernel)
set_option maxRecDepth 20000 in
theorem gX1_rule_X1_in : GoodIn wsX1_rule (va_wsS RX1 64 yX1_in wsX1_in) := goodIn_app (goodIn_of _ (by decide +kernel)) ggX1_rule_X1_in
theorem dX1_rule_0 : decode cX1_rule 0 = .ok (.iload_n 1, 1) := by decide +kernel
theorem dX1_rule_1 : decode cX1_rule 1 = .ok (.iconst 0, 1) := by decide +kernel
theorem dX1_rule_2 : decode cX1_rule 2 = .ok (.iconst 1, 1) := by decide +kernel
theorem dX1_rule_3 : decode cX1_rule 3 = .ok (.invokestatic 64, 3) := by decide +kernel
theorem dX1_rule_6 : decode cX1_rule 6 = .ok (.ifCond .ne 6, 3) := by decide +kernel
theorem dX1_rule_9 : decode cX1_rule 9 = .ok (.bipush (-101), 2) := by decide +kernel
theorem dX1_rule_11 : decode cX1_rule 11 = .ok (.ireturn, 1) := by decide +kernel
theorem dX1_rule_12 : decode cX1_rule 12 = .ok (.iload_n 1, 1) := by decide +kernel
theorem dX1_rule_13 : decode cX1_rule 13 = .ok (.ifCond .ne 15, 3) := by decide +kernel
theorem dX1_rule_16 : decode cX1_rule 16 = .ok (.iload_n 2, 1) := by decide +kernel
theorem dX1_rule_17 : decode cX1_rule 17 = .ok (.iconst 0, 1) := by decide +kernel
theorem dX1_rule_18 : decode cX1_rule 18 = .ok (.iconst 2, 1) := by decide +kernel
theorem dX1_rule_19 : decode cX1_rule 19 = .ok (.invokestatic 64, 3) := by decide +kernel
theorem dX1_rule_22 : decode cX1_rule 22 = .ok (.ifCond .ne 19, 3) := by decide +kernel
theorem dX1_rule_25 : decode cX1_rule 25 = .ok (.goto 13, 3) := by decide +kernel
theorem dX1_rule_28 : decode cX1_rule 28 = .ok (.iload_n 2, 1) := by decide +kernel
theorem dX1_rule_29 : decode cX1_rule 29 = .ok (.iconst 1, 1) := by decide +kernel
theorem dX1_rule_30 : decode cX1_rule 30 = .ok (.bipush 50, 2) := by decide +kernel
theorem dX1_rule_32 : decode cX1_rule 32 = .ok (.invokestatic 64, 3) := by decide +kernel
theorem dX1_rule_35 : decode cX1_rule 35 = .ok (.ifCond .ne 6, 3) := by decide +kernel
theorem dX1_rule_38 : decode cX1_rule 38 = .ok (.bipush (-102), 2) := by decide +kernel
theorem dX1_rule_40 : decode cX1_rule 40 = .ok (.ireturn, 1) := by decide +kernel
theorem dX1_rule_41 : decode cX1_rule 41 = .ok (.iload_n 1, 1) := by decide +kernel
theorem dX1_rule_42 : decode cX1_rule 42 = .ok (.ifCond .ne 10, 3) := by decide +kernel
theorem dX1_rule_45 : decode cX1_rule 45 = .ok (.aload_n 0, 1) := by decide +kernel
theorem dX1_rule_46 : decode cX1_rule 46 = .ok (.getfield 27, 3) := by decide +kernel
theorem dX1_rule_49 : decode cX1_rule 49 = .ok (.goto 7, 3) := by decide +kernel
theorem dX1_rule_52 : decode cX1_rule 52 = .ok (.aload_n 0, 1) := by decide +kernel
theorem dX1_rule_53 : decode cX1_rule 53 = .ok (.getfield 30, 3) := by decide +kernel
theorem dX1_rule_56 : decode cX1_rule 56 = .ok (.istore_n 3, 1) := by decide +kernel
theorem dX1_rule_57 : decode cX1_rule 57 = .ok (.aload_n 0, 1) := by decide +kernel
theorem dX1_rule_58 : decode cX1_rule 58 = .ok (.iload_n 1, 1) := by decide +kernel
theorem dX1_rule_59 : decode cX1_rule 59 = .ok (.ifCond .ne 7, 3) := by decide +kernel
theorem dX1_rule_62 : decode cX1_rule 62 = .ok (.iload_n 2, 1) := by decide +kernel
theorem dX1_rule_63 : decode cX1_rule 63 = .ok (.goto 7, 3) := by decide +kernel
theorem dX1_rule_66 : decode cX1_rule 66 = .ok (.aload_n 0, 1) := by decide +kernel
theorem dX1_rule_67 : decode cX1_rule 67 = .ok (.getfield 27, 3) := by decide +kernel
theorem dX1_rule_70 : decode cX1_rule 70 = .ok (.putfield 27, 3) := by decide +kernel
theorem dX1_rule_73 : decode cX1_rule 73 = .ok (.aload_n 0, 1) := by decide +kernel
theorem dX1_rule_74 : decode cX1_rule 74 = .ok (.iload_n 1, 1) := by decide +kernel
theorem dX1_rule_75 : decode cX1_rule 75 = .ok (.iconst 1, 1) := by decide +kernel
theorem dX1_rule_76 : decode cX1_rule 76 = .ok (.if_icmp .ne 7, 3) := by decide +kernel
theorem dX1_rule_79 : decode cX1_rule 79 = .ok (.iload_n 2, 1) := by decide +kernel
theorem dX1_rule_80 : decode cX1_rule 80 = .ok (.goto 7, 3) := by decide +kernel
theorem dX1_rule_83 : decode cX1_rule 83 = .ok (.aload_n 0, 1) := by decide +kernel
theorem dX1_rule_84 : decode cX1_rule 84 = .ok (.getfield 30, 3) := by decide +kernel
theorem dX1_rule_87 : decode cX1_rule 87 = .ok (.putfield 30, 3) := by decide +kernel
theorem dX1_rule_90 : decode cX1_rule 90 = .ok (.iload_n 3, 1) := by decide +kernel
theorem dX1_rule_91 : decode cX1_rule 91 = .ok (.ireturn, 1) := by decide +kernel
theorem dX1_counts_0 : decode cX1_counts 0 = .ok (.aload_n 0, 1) := by decide +kernel
theorem dX1_counts_1 : decode cX1_counts 1 = .ok (.getfield 24, 3) := by decide +kernel
theorem dX1_counts_4 : decode cX1_counts 4 = .ok (.bipush 10, 2) := by decide +kernel
theorem dX1_counts_6 : decode cX1_counts 6 = .ok (.iload_n 2, 1) := by decide +kernel
theorem dX1_counts_7 : decode cX1_counts 7 = .ok (.imul, 1) := by decide +kernel
theorem dX1_counts_8 : decode cX1_counts 8 = .ok (.iload_n 3, 1) := by decide +kernel
theorem dX1_counts_9 : decode cX1_counts 9 = .ok (.iadd, 1) := by decide +kernel
theorem dX1_counts_10 : decode cX1_counts 10 = .ok (.baload, 1) := by decide +kernel
theorem dX1_counts_11 : decode cX1_counts 11 = .ok (.ifCond .ne 27, 3) := by decide +kernel
theorem dX1_counts_14 : decode cX1_counts 14 = .ok (.aload_n 0, 1) := by decide +kernel
theorem dX1_counts_15 : decode cX1_counts 15 = .ok (.getfield 16, 3) := by decide +kernel
theorem dX1_counts_18 : decode cX1_counts 18 = .ok (.bipush 70, 2) := by decide +kernel
theorem dX1_counts_20 : decode cX1_counts 20 = .ok (.iload_n 1, 1) := by decide +kernel
theorem dX1_counts_21 : decode cX1_counts 21 = .ok (.imul, 1) := by decide +kernel
theorem dX1_counts_22 : decode cX1_counts 22 = .ok (.bipush 10, 2) := by decide +kernel
theorem dX1_counts_24 : decode cX1_counts 24 = .ok (.iload_n 2, 1) := by decide +kernel
theorem dX1_counts_25 : decode cX1_counts 25 = .ok (.imul, 1) := by decide +kernel
theorem dX1_counts_26 : decode cX1_counts 26 = .ok (.iadd, 1) := by decide +kernel
theorem dX1_counts_27 : decode cX1_counts 27 = .ok (.iload_n 3, 1) := by decide +kernel
theorem dX1_counts_28 : decode cX1_counts 28 = .ok (.iadd, 1) := by decide +kernel
theorem dX1_counts_29 : decode cX1_counts 29 = .ok (.iaload, 1) := by decide +kernel
theorem dX1_counts_30 : decode cX1_counts 30 = .ok (.iconst (-1), 1) := by decide +kernel
theorem dX1_counts_31 : decode cX1_counts 31 = .ok (.if_icmp .eq 7, 3) := by decide +kernel
theorem dX1_counts_34 : decode cX1_counts 34 = .ok (.iconst 1, 1) := by decide +kernel
theorem dX1_counts_35 : decode cX1_counts 35 = .ok (.goto 4, 3) := by decide +kernel
theorem dX1_counts_38 : decode cX1_counts 38 = .ok (.iconst 0, 1) := by decide +kernel
theorem dX1_counts_39 : decode cX1_counts 39 = .ok (.ireturn, 1) := by decide +kernel
set_option maxRecDepth 20000 in
theorem ggX1_gather_X1_counts : GoodIn wsX1_gather wsX1_counts := goodIn_r _ [10, 11, 4, 12, 13, 14, 15, 16, 17, 18, 19, 20, 21, 22, 23, 24, 25, 26, 27, 28, 29, 30, 31, 32, 33, 34] (by decide +kernel) (by decide +kernel)
set_option maxRecDepth 20000 in
theorem gX1_gather_X1_counts : GoodIn wsX1_gather (wsV RX1 84 RX1 yX1_counts wsX1_counts) := goodIn_app (goodIn_of _ (by decide +kernel)) ggX1_gather_X1_counts
theorem dX1_gather_0 : decode cX1_gather 0 = .ok (.aload_n 0, 1) := by decide +kernel
theorem dX1_gather_1 : decode cX1_gather 1 = .ok (.iconst 0, 1) := by decide +kernel
theorem dX1_gather_2 : decode cX1_gather 2 = .ok (.putfield 78, 3) := by decide +kernel
theorem dX1_gather_5 : decode cX1_gather 5 = .ok (.aload_n 0, 1) := by decide +kernel
theorem dX1_gather_6 : decode cX1_gather 6 = .ok (.iconst 0, 1) := by decide +kernel
theorem dX1_gather_7 : decode cX1_gather 7 = .ok (.putfield 81, 3) := by decide +kernel
theorem dX1_gather_10 : decode cX1_gather 10 = .ok (.iconst 0, 1) := by decide +kernel
theorem dX1_gather_11 : decode cX1_gather 11 = .ok (.istore_n 3, 1) := by decide +kernel
theorem dX1_gather_12 : decode cX1_gather 12 = .ok (.iload_n 3, 1) := by decide +kernel
theorem dX1_gather_13 : decode cX1_gather 13 = .ok (.aload_n 0, 1) := by decide +kernel
theorem dX1_gather_14 : decode cX1_gather 14 = .ok (.getfield 13, 3) := by decide +kernel
theorem dX1_gather_17 : decode cX1_gather 17 = .ok (.if_icmp .ge 114, 3) := by decide +kernel
theorem dX1_gather_20 : decode cX1_gather 20 = .ok (.aload_n 0, 1) := by decide +kernel
theorem dX1_gather_21 : decode cX1_gather 21 = .ok (.iload_n 1, 1) := by decide +kernel
theorem dX1_gather_22 : decode cX1_gather 22 = .ok (.iload_n 3, 1) := by decide +kernel
theorem dX1_gather_23 : decode cX1_gather 23 = .ok (.iload_n 2, 1) := by decide +kernel
theorem dX1_gather_24 : decode cX1_gather 24 = .ok (.invokevirtual 84, 3) := by decide +kernel
theorem dX1_gather_27 : decode cX1_gather 27 = .ok (.ifCond .eq 98, 3) := by decide +kernel
theorem dX1_gather_30 : decode cX1_gather 30 = .ok (.aload_n 0, 1) := by decide +kernel
theorem dX1_gather_31 : decode cX1_gather 31 = .ok (.getfield 16, 3) := by decide +kernel
theorem dX1_gather_34 : decode cX1_gather 34 = .ok (.bipush 70, 2) := by decide +kernel
theorem dX1_gather_36 : decode cX1_gather 36 = .ok (.iload_n 1, 1) := by decide +kernel
theorem dX1_gather_37 : decode cX1_gather 37 = .ok (.imul, 1) := by decide +kernel
theorem dX1_gather_38 : decode cX1_gather 38 = .ok (.bipush 10, 2) := by decide +kernel
theorem dX1_gather_40 : decode cX1_gather 40 = .ok (.iload_n 3, 1) := by decide +kernel
theorem dX1_gather_41 : decode cX1_gather 41 = .ok (.imul, 1) := by decide +kernel
theorem dX1_gather_42 : decode cX1_gather 42 = .ok (.iadd, 1) := by decide +kernel
theorem dX1_gather_43 : decode cX1_gather 43 = .ok (.iload_n 2, 1) := by decide +kernel
theorem dX1_gather_44 : decode cX1_gather 44 = .ok (.iadd, 1) := by decide +kernel
theorem dX1_gather_45 : decode cX1_gather 45 = .ok (.iaload, 1) := by decide +kernel
theorem dX1_gather_46 : decode cX1_gather 46 = .ok (.istore 4, 2) := by decide +kernel
theorem dX1_gather_48 : decode cX1_gather 48 = .ok (.aload_n 0, 1) := by decide +kernel
theorem dX1_gather_49 : decode cX1_gather 49 = .ok (.getfield 78, 3) := by decide +kernel
theorem dX1_gather_52 : decode cX1_gather 52 = .ok (.istore 5, 2) := by decide +kernel
theorem dX1_gather_54 : decode cX1_gather 54 = .ok (.iload 5, 2) := by decide +kernel
theorem dX1_gather_56 : decode cX1_gather 56 = .ok (.ifCond .le 39, 3) := by decide +kernel
theorem dX1_gather_59 : decode cX1_gather 59 = .ok (.aload_n 0, 1) := by decide +kernel
theorem dX1_gather_60 : decode cX1_gather 60 = .ok (.getfield 51, 3) := by decide +kernel
theorem dX1_gather_63 : decode cX1_gather 63 = .ok (.iload 5, 2) := by decide +kernel
theorem dX1_gather_65 : decode cX1_gather 65 = .ok (.iconst 1, 1) := by decide +kernel
theorem dX1_gather_66 : decode cX1_gather 66 = .ok (.isub, 1) := by decide +kernel
theorem dX1_gather_67 : decode cX1_gather 67 = .ok (.iaload, 1) := by decide +kernel
theorem dX1_gather_68 : decode cX1_gather 68 = .ok (.iload 4, 2) := by decide +kernel
theorem dX1_gather_70 : decode cX1_gather 70 = .ok (.if_icmp .le 25, 3) := by decide +kernel
theorem dX1_gather_73 : decode cX1_gather 73 = .ok (.aload_n 0, 1) := by decide +kernel
theorem dX1_gather_74 : decode cX1_gather 74 = .ok (.getfield 51, 3) := by decide +kernel
theorem dX1_gather_77 : decode cX1_gather 77 = .ok (.iload 5, 2) := by decide +kernel
theorem dX1_gather_79 : decode cX1_gather 79 = .ok (.aload_n 0, 1) := by decide +kernel
theorem dX1_gather_80 : decode cX1_gather 80 = .ok (.getfield 51, 3) := by decide +kernel
theorem dX1_gather_83 : decode cX1_gather 83 = .ok (.iload 5, 2) := by decide +kernel
theorem dX1_gather_85 : decode cX1_gather 85 = .ok (.iconst 1, 1) := by decide +kernel
theorem dX1_gather_86 : decode cX1_gather 86 = .ok (.isub, 1) := by decide +kernel
theorem dX1_gather_87 : decode cX1_gather 87 = .ok (.iaload, 1) := by decide +kernel
theorem dX1_gather_88 : decode cX1_gather 88 = .ok (.iastore, 1) := by decide +kernel
theorem dX1_gather_89 : decode cX1_gather 89 = .ok (.iinc 5 (-1), 3) := by decide +kernel
theorem dX1_gather_92 : decode cX1_gather 92 = .ok (.goto (-38), 3) := by decide +kernel
theorem dX1_gather_95 : decode cX1_gather 95 = .ok (.aload_n 0, 1) := by decide +kernel
theorem dX1_gather_96 : decode cX1_gather 96 = .ok (.getfield 51, 3) := by decide +kernel
theorem dX1_gather_99 : decode cX1_gather 99 = .ok (.iload 5, 2) := by decide +kernel
theorem dX1_gather_101 : decode cX1_gather 101 = .ok (.iload 4, 2) := by decide +kernel
theorem dX1_gather_103 : decode cX1_gather 103 = .ok (.iastore, 1) := by decide +kernel
theorem dX1_gather_104 : decode cX1_gather 104 = .ok (.aload_n 0, 1) := by decide +kernel
theorem dX1_gather_105 : decode cX1_gather 105 = .ok (.dup, 1) := by decide +kernel
theorem dX1_gather_106 : decode cX1_gather 106 = .ok (.getfield 78, 3) := by decide +kernel
theorem dX1_gather_109 : decode cX1_gather 109 = .ok (.iconst 1, 1) := by decide +kernel
theorem dX1_gather_110 : decode cX1_gather 110 = .ok (.iadd, 1) := by decide +kernel
theorem dX1_gather_111 : decode cX1_gather 111 = .ok (.putfield 78, 3) := by decide +kernel
theorem dX1_gather_114 : decode cX1_gather 114 = .ok (.aload_n 0, 1) := by decide +kernel
theorem dX1_gather_115 : decode cX1_gather 115 = .ok (.dup, 1) := by decide +kernel
theorem dX1_gather_116 : decode cX1_gather 116 = .ok (.getfield 81, 3) := by decide +kernel
theorem dX1_gather_119 : decode cX1_gather 119 = .ok (.iload 4, 2) := by decide +kernel
theorem dX1_gather_121 : decode cX1_gather 121 = .ok (.iadd, 1) := by decide +kernel
theorem dX1_gather_122 : decode cX1_gather 122 = .ok (.putfield 81, 3) := by decide +kernel
theorem dX1_gather_125 : decode cX1_gather 125 = .ok (.iinc 3 1, 3) := by decide +kernel
theorem dX1_gather_128 : decode cX1_gather 128 = .ok (.goto (-116), 3) := by decide +kernel
theorem dX1_gather_131 : decode cX1_gather 131 = .ok (.return_, 1) := by decide +kernel
theorem dX1_cutOf_0 : decode cX1_cutOf 0 = .ok (.aload_n 0, 1) := by decide +kernel
theorem dX1_cutOf_1 : decode cX1_cutOf 1 = .ok (.getfield 78, 3) := by decide +kernel
theorem dX1_cutOf_4 : decode cX1_cutOf 4 = .ok (.iconst 2, 1) := by decide +kernel
theorem dX1_cutOf_5 : decode cX1_cutOf 5 = .ok (.aload_n 0, 1) := by decide +kernel
theorem dX1_cutOf_6 : decode cX1_cutOf 6 = .ok (.getfield 27, 3) := by decide +kernel
theorem dX1_cutOf_9 : decode cX1_cutOf 9 = .ok (.imul, 1) := by decide +kernel
theorem dX1_cutOf_10 : decode cX1_cutOf 10 = .ok (.isub, 1) := by decide +kernel
theorem dX1_cutOf_11 : decode cX1_cutOf 11 = .ok (.iconst 1, 1) := by decide +kernel
theorem dX1_cutOf_12 : decode cX1_cutOf 12 = .ok (.if_icmp .ge 7, 3) := by decide +kernel
theorem dX1_cutOf_15 : decode cX1_cutOf 15 = .ok (.iconst 0, 1) := by decide +kernel
theorem dX1_cutOf_16 : decode cX1_cutOf 16 = .ok (.goto 7, 3) := by decide +kernel
theorem dX1_cutOf_19 : decode cX1_cutOf 19 = .ok (.aload_n 0, 1) := by decide +kernel
theorem dX1_cutOf_20 : decode cX1_cutOf 20 = .ok (.getfield 27, 3) := by decide +kernel
theorem dX1_cutOf_23 : decode cX1_cutOf 23 = .ok (.istore_n 1, 1) := by decide +kernel
theorem dX1_cutOf_24 : decode cX1_cutOf 24 = .ok (.iconst 0, 1) := by decide +kernel
theorem dX1_cutOf_25 : decode cX1_cutOf 25 = .ok (.istore_n 2, 1) := by decide +kernel
theorem dX1_cutOf_26 : decode cX1_cutOf 26 = .ok (.iload_n 1, 1) := by decide +kernel
theorem dX1_cutOf_27 : decode cX1_cutOf 27 = .ok (.istore_n 3, 1) := by decide +kernel
theorem dX1_cutOf_28 : decode cX1_cutOf 28 = .ok (.iload_n 3, 1) := by decide +kernel
theorem dX1_cutOf_29 : decode cX1_cutOf 29 = .ok (.aload_n 0, 1) := by decide +kernel
theorem dX1_cutOf_30 : decode cX1_cutOf 30 = .ok (.getfield 78, 3) := by decide +kernel
theorem dX1_cutOf_33 : decode cX1_cutOf 33 = .ok (.iload_n 1, 1) := by decide +kernel
theorem dX1_cutOf_34 : decode cX1_cutOf 34 = .ok (.isub, 1) := by decide +kernel
theorem dX1_cutOf_35 : decode cX1_cutOf 35 = .ok (.if_icmp .ge 18, 3) := by decide +kernel
theorem dX1_cutOf_38 : decode cX1_cutOf 38 = .ok (.iload_n 2, 1) := by decide +kernel
theorem dX1_cutOf_39 : decode cX1_cutOf 39 = .ok (.aload_n 0, 1) := by decide +kernel
theorem dX1_cutOf_40 : decode cX1_cutOf 40 = .ok (.getfield 51, 3) := by decide +kernel
theorem dX1_cutOf_43 : decode cX1_cutOf 43 = .ok (.iload_n 3, 1) := by decide +kernel
theorem dX1_cutOf_44 : decode cX1_cutOf 44 = .ok (.iaload, 1) := by decide +kernel
theorem dX1_cutOf_45 : decode cX1_cutOf 45 = .ok (.iadd, 1) := by decide +kernel
theorem dX1_cutOf_46 : decode cX1_cutOf 46 = .ok (.istore_n 2, 1) := by decide +kernel
theorem dX1_cutOf_47 : decode cX1_cutOf 47 = .ok (.iinc 3 1, 3) := by decide +kernel
theorem dX1_cutOf_50 : decode cX1_cutOf 50 = .ok (.goto (-22), 3) := by decide +kernel
theorem dX1_cutOf_53 : decode cX1_cutOf 53 = .ok (.ldc 87, 2) := by decide +kernel
theorem dX1_cutOf_55 : decode cX1_cutOf 55 = .ok (.aload_n 0, 1) := by decide +kernel
theorem dX1_cutOf_56 : decode cX1_cutOf 56 = .ok (.getfield 78, 3) := by decide +kernel
theorem dX1_cutOf_59 : decode cX1_cutOf 59 = .ok (.iconst 2, 1) := by decide +kernel
theorem dX1_cutOf_60 : decode cX1_cutOf 60 = .ok (.iload_n 1, 1) := by decide +kernel
theorem dX1_cutOf_61 : decode cX1_cutOf 61 = .ok (.imul, 1) := by decide +kernel
theorem dX1_cutOf_62 : decode cX1_cutOf 62 = .ok (.isub, 1) := by decide +kernel
theorem dX1_cutOf_63 : decode cX1_cutOf 63 = .ok (.idiv, 1) := by decide +kernel
theorem dX1_cutOf_64 : decode cX1_cutOf 64 = .ok (.iload_n 2, 1) := by decide +kernel
theorem dX1_cutOf_65 : decode cX1_cutOf 65 = .ok (.imul, 1) := by decide +kernel
theorem dX1_cutOf_66 : decode cX1_cutOf 66 = .ok (.ireturn, 1) := by decide +kernel
set_option maxRecDepth 20000 in
theorem ggX1_yesOf_X1_counts : GoodIn wsX1_yesOf wsX1_counts := goodIn_r _ [9, 10, 11, 12, 13, 14, 15, 16, 17, 18, 19, 20, 21, 22, 23, 24, 25, 26, 27, 28, 29, 30, 31, 32, 33, 34] (by decide +kernel) (by decide +kernel)
set_option maxRecDepth 20000 in
theorem gX1_yesOf_X1_counts : GoodIn wsX1_yesOf (wsV RX1 84 RX1 yX1_counts wsX1_counts) := goodIn_app (goodIn_of _ (by decide +kernel)) ggX1_yesOf_X1_counts
theorem dX1_yesOf_0 : decode cX1_yesOf 0 = .ok (.iconst 0, 1) := by decide +kernel
theorem dX1_yesOf_1 : decode cX1_yesOf 1 = .ok (.istore_n 3, 1) := by decide +kernel
theorem dX1_yesOf_2 : decode cX1_yesOf 2 = .ok (.iconst 0, 1) := by decide +kernel
theorem dX1_yesOf_3 : decode cX1_yesOf 3 = .ok (.istore 4, 2) := by decide +kernel
theorem dX1_yesOf_5 : decode cX1_yesOf 5 = .ok (.iload 4, 2) := by decide +kernel
theorem dX1_yesOf_7 : decode cX1_yesOf 7 = .ok (.aload_n 0, 1) := by decide +kernel
theorem dX1_yesOf_8 : decode cX1_yesOf 8 = .ok (.getfield 13, 3) := by decide +kernel
theorem dX1_yesOf_11 : decode cX1_yesOf 11 = .ok (.if_icmp .ge 48, 3) := by decide +kernel
theorem dX1_yesOf_14 : decode cX1_yesOf 14 = .ok (.iload_n 3, 1) := by decide +kernel
theorem dX1_yesOf_15 : decode cX1_yesOf 15 = .ok (.aload_n 0, 1) := by decide +kernel
theorem dX1_yesOf_16 : decode cX1_yesOf 16 = .ok (.iload_n 1, 1) := by decide +kernel
theorem dX1_yesOf_17 : decode cX1_yesOf 17 = .ok (.iload 4, 2) := by decide +kernel
theorem dX1_yesOf_19 : decode cX1_yesOf 19 = .ok (.iload_n 2, 1) := by decide +kernel
theorem dX1_yesOf_20 : decode cX1_yesOf 20 = .ok (.invokevirtual 84, 3) := by decide +kernel
theorem dX1_yesOf_23 : decode cX1_yesOf 23 = .ok (.ifCond .eq 27, 3) := by decide +kernel
theorem dX1_yesOf_26 : decode cX1_yesOf 26 = .ok (.aload_n 0, 1) := by decide +kernel
theorem dX1_yesOf_27 : decode cX1_yesOf 27 = .ok (.getfield 20, 3) := by decide +kernel
theorem dX1_yesOf_30 : decode cX1_yesOf 30 = .ok (.bipush 70, 2) := by decide +kernel
theorem dX1_yesOf_32 : decode cX1_yesOf 32 = .ok (.iload_n 1, 1) := by decide +kernel
theorem dX1_yesOf_33 : decode cX1_yesOf 33 = .ok (.imul, 1) := by decide +kernel
theorem dX1_yesOf_34 : decode cX1_yesOf 34 = .ok (.bipush 10, 2) := by decide +kernel
theorem dX1_yesOf_36 : decode cX1_yesOf 36 = .ok (.iload 4, 2) := by decide +kernel
theorem dX1_yesOf_38 : decode cX1_yesOf 38 = .ok (.imul, 1) := by decide +kernel
theorem dX1_yesOf_39 : decode cX1_yesOf 39 = .ok (.iadd, 1) := by decide +kernel
theorem dX1_yesOf_40 : decode cX1_yesOf 40 = .ok (.iload_n 2, 1) := by decide +kernel
theorem dX1_yesOf_41 : decode cX1_yesOf 41 = .ok (.iadd, 1) := by decide +kernel
theorem dX1_yesOf_42 : decode cX1_yesOf 42 = .ok (.baload, 1) := by decide +kernel
theorem dX1_yesOf_43 : decode cX1_yesOf 43 = .ok (.ifCond .eq 7, 3) := by decide +kernel
theorem dX1_yesOf_46 : decode cX1_yesOf 46 = .ok (.iconst 1, 1) := by decide +kernel
theorem dX1_yesOf_47 : decode cX1_yesOf 47 = .ok (.goto 4, 3) := by decide +kernel
theorem dX1_yesOf_50 : decode cX1_yesOf 50 = .ok (.iconst 0, 1) := by decide +kernel
theorem dX1_yesOf_51 : decode cX1_yesOf 51 = .ok (.iadd, 1) := by decide +kernel
theorem dX1_yesOf_52 : decode cX1_yesOf 52 = .ok (.istore_n 3, 1) := by decide +kernel
theorem dX1_yesOf_53 : decode cX1_yesOf 53 = .ok (.iinc 4 1, 3) := by decide +kernel
theorem dX1_yesOf_56 : decode cX1_yesOf 56 = .ok (.goto (-51), 3) := by decide +kernel
theorem dX1_yesOf_59 : decode cX1_yesOf 59 = .ok (.ldc 87, 2) := by decide +kernel
theorem dX1_yesOf_61 : decode cX1_yesOf 61 = .ok (.aload_n 0, 1) := by decide +kernel
theorem dX1_yesOf_62 : decode cX1_yesOf 62 = .ok (.getfield 78, 3) := by decide +kernel
theorem dX1_yesOf_65 : decode cX1_yesOf 65 = .ok (.idiv, 1) := by decide +kernel
theorem dX1_yesOf_66 : decode cX1_yesOf 66 = .ok (.iload_n 3, 1) := by decide +kernel
theorem dX1_yesOf_67 : decode cX1_yesOf 67 = .ok (.imul, 1) := by decide +kernel
theorem dX1_yesOf_68 : decode cX1_yesOf 68 = .ok (.ireturn, 1) := by decide +kernel
set_option maxRecDepth 20000 in
theorem ggX1_beatsOf_X1_counts : GoodIn wsX1_beatsOf wsX1_counts := goodIn_r _ [7, 8, 2, 9, 10, 11, 12, 13, 14, 15, 16, 17, 18, 19, 20, 21, 22, 23, 24, 25, 26, 27, 28, 29, 30, 31] (by decide +kernel) (by decide +kernel)
set_option maxRecDepth 20000 in
theorem gX1_beatsOf_X1_counts : GoodIn wsX1_beatsOf (wsV RX1 84 RX1 yX1_counts wsX1_counts) := goodIn_app (goodIn_of _ (by decide +kernel)) ggX1_beatsOf_X1_counts
theorem dX1_beatsOf_0 : decode cX1_beatsOf 0 = .ok (.iconst 0, 1) := by decide +kernel
theorem dX1_beatsOf_1 : decode cX1_beatsOf 1 = .ok (.istore 4, 2) := by decide +kernel
theorem dX1_beatsOf_3 : decode cX1_beatsOf 3 = .ok (.iconst 0, 1) := by decide +kernel
theorem dX1_beatsOf_4 : decode cX1_beatsOf 4 = .ok (.istore 5, 2) := by decide +kernel
theorem dX1_beatsOf_6 : decode cX1_beatsOf 6 = .ok (.iload 5, 2) := by decide +kernel
theorem dX1_beatsOf_8 : decode cX1_beatsOf 8 = .ok (.aload_n 0, 1) := by decide +kernel
theorem dX1_beatsOf_9 : decode cX1_beatsOf 9 = .ok (.getfield 13, 3) := by decide +kernel
theorem dX1_beatsOf_12 : decode cX1_beatsOf 12 = .ok (.if_icmp .ge 92, 3) := by decide +kernel
theorem dX1_beatsOf_15 : decode cX1_beatsOf 15 = .ok (.aload_n 0, 1) := by decide +kernel
theorem dX1_beatsOf_16 : decode cX1_beatsOf 16 = .ok (.iload_n 1, 1) := by decide +kernel
theorem dX1_beatsOf_17 : decode cX1_beatsOf 17 = .ok (.iload 5, 2) := by decide +kernel
theorem dX1_beatsOf_19 : decode cX1_beatsOf 19 = .ok (.iload_n 2, 1) := by decide +kernel
theorem dX1_beatsOf_20 : decode cX1_beatsOf 20 = .ok (.invokevirtual 84, 3) := by decide +kernel
theorem dX1_beatsOf_23 : decode cX1_beatsOf 23 = .ok (.ifCond .eq 75, 3) := by decide +kernel
theorem dX1_beatsOf_26 : decode cX1_beatsOf 26 = .ok (.aload_n 0, 1) := by decide +kernel
theorem dX1_beatsOf_27 : decode cX1_beatsOf 27 = .ok (.iload_n 1, 1) := by decide +kernel
theorem dX1_beatsOf_28 : decode cX1_beatsOf 28 = .ok (.iload 5, 2) := by decide +kernel
theorem dX1_beatsOf_30 : decode cX1_beatsOf 30 = .ok (.iload_n 3, 1) := by decide +kernel
theorem dX1_beatsOf_31 : decode cX1_beatsOf 31 = .ok (.invokevirtual 84, 3) := by decide +kernel
theorem dX1_beatsOf_34 : decode cX1_beatsOf 34 = .ok (.ifCond .eq 64, 3) := by decide +kernel
theorem dX1_beatsOf_37 : decode cX1_beatsOf 37 = .ok (.aload_n 0, 1) := by decide +kernel
theorem dX1_beatsOf_38 : decode cX1_beatsOf 38 = .ok (.getfield 16, 3) := by decide +kernel
theorem dX1_beatsOf_41 : decode cX1_beatsOf 41 = .ok (.bipush 70, 2) := by decide +kernel
theorem dX1_beatsOf_43 : decode cX1_beatsOf 43 = .ok (.iload_n 1, 1) := by decide +kernel
theorem dX1_beatsOf_44 : decode cX1_beatsOf 44 = .ok (.imul, 1) := by decide +kernel
theorem dX1_beatsOf_45 : decode cX1_beatsOf 45 = .ok (.bipush 10, 2) := by decide +kernel
theorem dX1_beatsOf_47 : decode cX1_beatsOf 47 = .ok (.iload 5, 2) := by decide +kernel
theorem dX1_beatsOf_49 : decode cX1_beatsOf 49 = .ok (.imul, 1) := by decide +kernel
theorem dX1_beatsOf_50 : decode cX1_beatsOf 50 = .ok (.iadd, 1) := by decide +kernel
theorem dX1_beatsOf_51 : decode cX1_beatsOf 51 = .ok (.iload_n 2, 1) := by decide +kernel
theorem dX1_beatsOf_52 : decode cX1_beatsOf 52 = .ok (.iadd, 1) := by decide +kernel
theorem dX1_beatsOf_53 : decode cX1_beatsOf 53 = .ok (.iaload, 1) := by decide +kernel
theorem dX1_beatsOf_54 : decode cX1_beatsOf 54 = .ok (.aload_n 0, 1) := by decide +kernel
theorem dX1_beatsOf_55 : decode cX1_beatsOf 55 = .ok (.getfield 16, 3) := by decide +kernel
theorem dX1_beatsOf_58 : decode cX1_beatsOf 58 = .ok (.bipush 70, 2) := by decide +kernel
theorem dX1_beatsOf_60 : decode cX1_beatsOf 60 = .ok (.iload_n 1, 1) := by decide +kernel
theorem dX1_beatsOf_61 : decode cX1_beatsOf 61 = .ok (.imul, 1) := by decide +kernel
theorem dX1_beatsOf_62 : decode cX1_beatsOf 62 = .ok (.bipush 10, 2) := by decide +kernel
theorem dX1_beatsOf_64 : decode cX1_beatsOf 64 = .ok (.iload 5, 2) := by decide +kernel
theorem dX1_beatsOf_66 : decode cX1_beatsOf 66 = .ok (.imul, 1) := by decide +kernel
theorem dX1_beatsOf_67 : decode cX1_beatsOf 67 = .ok (.iadd, 1) := by decide +kernel
theorem dX1_beatsOf_68 : decode cX1_beatsOf 68 = .ok (.iload_n 3, 1) := by decide +kernel
theorem dX1_beatsOf_69 : decode cX1_beatsOf 69 = .ok (.iadd, 1) := by decide +kernel
theorem dX1_beatsOf_70 : decode cX1_beatsOf 70 = .ok (.iaload, 1) := by decide +kernel
theorem dX1_beatsOf_71 : decode cX1_beatsOf 71 = .ok (.isub, 1) := by decide +kernel
theorem dX1_beatsOf_72 : decode cX1_beatsOf 72 = .ok (.istore 6, 2) := by decide +kernel
theorem dX1_beatsOf_74 : decode cX1_beatsOf 74 = .ok (.iload 4, 2) := by decide +kernel
theorem dX1_beatsOf_76 : decode cX1_beatsOf 76 = .ok (.iload 6, 2) := by decide +kernel
theorem dX1_beatsOf_78 : decode cX1_beatsOf 78 = .ok (.ifCond .le 7, 3) := by decide +kernel
theorem dX1_beatsOf_81 : decode cX1_beatsOf 81 = .ok (.iconst 1, 1) := by decide +kernel
theorem dX1_beatsOf_82 : decode cX1_beatsOf 82 = .ok (.goto 13, 3) := by decide +kernel
theorem dX1_beatsOf_85 : decode cX1_beatsOf 85 = .ok (.iload 6, 2) := by decide +kernel
theorem dX1_beatsOf_87 : decode cX1_beatsOf 87 = .ok (.ifCond .ge 7, 3) := by decide +kernel
theorem dX1_beatsOf_90 : decode cX1_beatsOf 90 = .ok (.iconst (-1), 1) := by decide +kernel
theorem dX1_beatsOf_91 : decode cX1_beatsOf 91 = .ok (.goto 4, 3) := by decide +kernel
theorem dX1_beatsOf_94 : decode cX1_beatsOf 94 = .ok (.iconst 0, 1) := by decide +kernel
theorem dX1_beatsOf_95 : decode cX1_beatsOf 95 = .ok (.iadd, 1) := by decide +kernel
theorem dX1_beatsOf_96 : decode cX1_beatsOf 96 = .ok (.istore 4, 2) := by decide +kernel
theorem dX1_beatsOf_98 : decode cX1_beatsOf 98 = .ok (.iinc 5 1, 3) := by decide +kernel
theorem dX1_beatsOf_101 : decode cX1_beatsOf 101 = .ok (.goto (-95), 3) := by decide +kernel
theorem dX1_beatsOf_104 : decode cX1_beatsOf 104 = .ok (.iload 4, 2) := by decide +kernel
theorem dX1_beatsOf_106 : decode cX1_beatsOf 106 = .ok (.ifCond .le 7, 3) := by decide +kernel
theorem dX1_beatsOf_109 : decode cX1_beatsOf 109 = .ok (.iconst 1, 1) := by decide +kernel
theorem dX1_beatsOf_110 : decode cX1_beatsOf 110 = .ok (.goto 13, 3) := by decide +kernel
theorem dX1_beatsOf_113 : decode cX1_beatsOf 113 = .ok (.iload 4, 2) := by decide +kernel
theorem dX1_beatsOf_115 : decode cX1_beatsOf 115 = .ok (.ifCond .ge 7, 3) := by decide +kernel
theorem dX1_beatsOf_118 : decode cX1_beatsOf 118 = .ok (.iconst (-1), 1) := by decide +kernel
theorem dX1_beatsOf_119 : decode cX1_beatsOf 119 = .ok (.goto 4, 3) := by decide +kernel
theorem dX1_beatsOf_122 : decode cX1_beatsOf 122 = .ok (.iconst 0, 1) := by decide +kernel
theorem dX1_beatsOf_123 : decode cX1_beatsOf 123 = .ok (.ireturn, 1) := by decide +kernel
set_option maxRecDepth 20000 in
theorem ggX1_hasMark_X1_counts : GoodIn wsX1_hasMark wsX1_counts := goodIn_r _ [6, 7, 8, 9, 10, 11, 12, 13, 14, 15, 16, 17, 18, 19, 20, 21, 22, 23, 24, 25, 26, 27, 28, 29, 30, 31] (by decide +kernel) (by decide +kernel)
set_option maxRecDepth 20000 in
theorem gX1_hasMark_X1_counts : GoodIn wsX1_hasMark (wsV RX1 84 RX1 yX1_counts wsX1_counts) := goodIn_app (goodIn_of _ (by decide +kernel)) ggX1_hasMark_X1_counts
theorem dX1_hasMark_0 : decode cX1_hasMark 0 = .ok (.iconst 0, 1) := by decide +kernel
theorem dX1_hasMark_1 : decode cX1_hasMark 1 = .ok (.istore_n 3, 1) := by decide +kernel
theorem dX1_hasMark_2 : decode cX1_hasMark 2 = .ok (.iconst 0, 1) := by decide +kernel
theorem dX1_hasMark_3 : decode cX1_hasMark 3 = .ok (.istore 4, 2) := by decide +kernel
theorem dX1_hasMark_5 : decode cX1_hasMark 5 = .ok (.iload 4, 2) := by decide +kernel
theorem dX1_hasMark_7 : decode cX1_hasMark 7 = .ok (.aload_n 0, 1) := by decide +kernel
theorem dX1_hasMark_8 : decode cX1_hasMark 8 = .ok (.getfield 13, 3) := by decide +kernel
theorem dX1_hasMark_11 : decode cX1_hasMark 11 = .ok (.if_icmp .ge 30, 3) := by decide +kernel
theorem dX1_hasMark_14 : decode cX1_hasMark 14 = .ok (.iload_n 3, 1) := by decide +kernel
theorem dX1_hasMark_15 : decode cX1_hasMark 15 = .ok (.ifCond .ne 14, 3) := by decide +kernel
theorem dX1_hasMark_18 : decode cX1_hasMark 18 = .ok (.aload_n 0, 1) := by decide +kernel
theorem dX1_hasMark_19 : decode cX1_hasMark 19 = .ok (.iload_n 1, 1) := by decide +kernel
theorem dX1_hasMark_20 : decode cX1_hasMark 20 = .ok (.iload 4, 2) := by decide +kernel
theorem dX1_hasMark_22 : decode cX1_hasMark 22 = .ok (.iload_n 2, 1) := by decide +kernel
theorem dX1_hasMark_23 : decode cX1_hasMark 23 = .ok (.invokevirtual 84, 3) := by decide +kernel
theorem dX1_hasMark_26 : decode cX1_hasMark 26 = .ok (.ifCond .eq 7, 3) := by decide +kernel
theorem dX1_hasMark_29 : decode cX1_hasMark 29 = .ok (.iconst 1, 1) := by decide +kernel
theorem dX1_hasMark_30 : decode cX1_hasMark 30 = .ok (.goto 4, 3) := by decide +kernel
theorem dX1_hasMark_33 : decode cX1_hasMark 33 = .ok (.iconst 0, 1) := by decide +kernel
theorem dX1_hasMark_34 : decode cX1_hasMark 34 = .ok (.istore_n 3, 1) := by decide +kernel
theorem dX1_hasMark_35 : decode cX1_hasMark 35 = .ok (.iinc 4 1, 3) := by decide +kernel
theorem dX1_hasMark_38 : decode cX1_hasMark 38 = .ok (.goto (-33), 3) := by decide +kernel
theorem dX1_hasMark_41 : decode cX1_hasMark 41 = .ok (.iload_n 3, 1) := by decide +kernel
theorem dX1_hasMark_42 : decode cX1_hasMark 42 = .ok (.ireturn, 1) := by decide +kernel
set_option maxRecDepth 20000 in
theorem ggX1_pairsOf_X1_hasMark : GoodIn wsX1_pairsOf wsX1_hasMark := goodIn_r _ [6, 7, 8, 9, 10, 5, 11, 12, 13, 18, 19, 20, 21, 22, 23, 24, 25, 26, 27, 28, 29, 30, 31, 32, 33, 34, 35, 36, 37, 38, 39, 40] (by decide +kernel) (by decide +kernel)
set_option maxRecDepth 20000 in
theorem gX1_pairsOf_X1_hasMark : GoodIn wsX1_pairsOf (wsV RX1 88 RX1 yX1_hasMark wsX1_hasMark) := goodIn_app (goodIn_of _ (by decide +kernel)) ggX1_pairsOf_X1_hasMark
set_option maxRecDepth 20000 in
theorem ggX1_pairsOf_X1_beatsOf : GoodIn wsX1_pairsOf wsX1_beatsOf := goodIn_r _ [17, 7, 13, 8, 9, 10, 5, 11, 12, 18, 19, 20, 21, 22, 23, 24, 25, 26, 27, 28, 29, 30, 31, 32, 33, 34, 35, 36, 37, 38, 39, 40] (by decide +kernel) (by decide +kernel)
set_option maxRecDepth 20000 in
theorem gX1_pairsOf_X1_beatsOf : GoodIn wsX1_pairsOf (wsV RX1 92 RX1 yX1_beatsOf wsX1_beatsOf) := goodIn_app (goodIn_of _ (by decide +kernel)) ggX1_pairsOf_X1_beatsOf
theorem dX1_pairsOf_0 : decode cX1_pairsOf 0 = .ok (.iconst 0, 1) := by decide +kernel
theorem dX1_pairsOf_1 : decode cX1_pairsOf 1 = .ok (.istore_n 3, 1) := by decide +kernel
theorem dX1_pairsOf_2 : decode cX1_pairsOf 2 = .ok (.iconst 0, 1) := by decide +kernel
theorem dX1_pairsOf_3 : decode cX1_pairsOf 3 = .ok (.istore 4, 2) := by decide +kernel
theorem dX1_pairsOf_5 : decode cX1_pairsOf 5 = .ok (.iload 4, 2) := by decide +kernel
theorem dX1_pairsOf_7 : decode cX1_pairsOf 7 = .ok (.aload_n 0, 1) := by decide +kernel
theorem dX1_pairsOf_8 : decode cX1_pairsOf 8 = .ok (.getfield 7, 3) := by decide +kernel
theorem dX1_pairsOf_11 : decode cX1_pairsOf 11 = .ok (.if_icmp .ge 42, 3) := by decide +kernel
theorem dX1_pairsOf_14 : decode cX1_pairsOf 14 = .ok (.iload_n 3, 1) := by decide +kernel
theorem dX1_pairsOf_15 : decode cX1_pairsOf 15 = .ok (.iload 4, 2) := by decide +kernel
theorem dX1_pairsOf_17 : decode cX1_pairsOf 17 = .ok (.iload_n 2, 1) := by decide +kernel
theorem dX1_pairsOf_18 : decode cX1_pairsOf 18 = .ok (.if_icmp .eq 26, 3) := by decide +kernel
theorem dX1_pairsOf_21 : decode cX1_pairsOf 21 = .ok (.aload_n 0, 1) := by decide +kernel
theorem dX1_pairsOf_22 : decode cX1_pairsOf 22 = .ok (.iload_n 1, 1) := by decide +kernel
theorem dX1_pairsOf_23 : decode cX1_pairsOf 23 = .ok (.iload 4, 2) := by decide +kernel
theorem dX1_pairsOf_25 : decode cX1_pairsOf 25 = .ok (.invokevirtual 88, 3) := by decide +kernel
theorem dX1_pairsOf_28 : decode cX1_pairsOf 28 = .ok (.ifCond .eq 16, 3) := by decide +kernel
theorem dX1_pairsOf_31 : decode cX1_pairsOf 31 = .ok (.iconst 1, 1) := by decide +kernel
theorem dX1_pairsOf_32 : decode cX1_pairsOf 32 = .ok (.aload_n 0, 1) := by decide +kernel
theorem dX1_pairsOf_33 : decode cX1_pairsOf 33 = .ok (.iload_n 1, 1) := by decide +kernel
theorem dX1_pairsOf_34 : decode cX1_pairsOf 34 = .ok (.iload_n 2, 1) := by decide +kernel
theorem dX1_pairsOf_35 : decode cX1_pairsOf 35 = .ok (.iload 4, 2) := by decide +kernel
theorem dX1_pairsOf_37 : decode cX1_pairsOf 37 = .ok (.invokevirtual 92, 3) := by decide +kernel
theorem dX1_pairsOf_40 : decode cX1_pairsOf 40 = .ok (.iadd, 1) := by decide +kernel
theorem dX1_pairsOf_41 : decode cX1_pairsOf 41 = .ok (.goto 4, 3) := by decide +kernel
theorem dX1_pairsOf_44 : decode cX1_pairsOf 44 = .ok (.iconst 0, 1) := by decide +kernel
theorem dX1_pairsOf_45 : decode cX1_pairsOf 45 = .ok (.iadd, 1) := by decide +kernel
theorem dX1_pairsOf_46 : decode cX1_pairsOf 46 = .ok (.istore_n 3, 1) := by decide +kernel
theorem dX1_pairsOf_47 : decode cX1_pairsOf 47 = .ok (.iinc 4 1, 3) := by decide +kernel
theorem dX1_pairsOf_50 : decode cX1_pairsOf 50 = .ok (.goto (-45), 3) := by decide +kernel
theorem dX1_pairsOf_53 : decode cX1_pairsOf 53 = .ok (.iload_n 3, 1) := by decide +kernel
theorem dX1_pairsOf_54 : decode cX1_pairsOf 54 = .ok (.ireturn, 1) := by decide +kernel
theorem dX1_pulledOf_0 : decode cX1_pulledOf 0 = .ok (.iconst 0, 1) := by decide +kernel
theorem dX1_pulledOf_1 : decode cX1_pulledOf 1 = .ok (.istore_n 1, 1) := by decide +kernel
theorem dX1_pulledOf_2 : decode cX1_pulledOf 2 = .ok (.iconst 0, 1) := by decide +kernel
theorem dX1_pulledOf_3 : decode cX1_pulledOf 3 = .ok (.istore_n 2, 1) := by decide +kernel
theorem dX1_pulledOf_4 : decode cX1_pulledOf 4 = .ok (.iload_n 2, 1) := by decide +kernel
theorem dX1_pulledOf_5 : decode cX1_pulledOf 5 = .ok (.aload_n 0, 1) := by decide +kernel
theorem dX1_pulledOf_6 : decode cX1_pulledOf 6 = .ok (.getfield 78, 3) := by decide +kernel
theorem dX1_pulledOf_9 : decode cX1_pulledOf 9 = .ok (.if_icmp .ge 99, 3) := by decide +kernel
theorem dX1_pulledOf_12 : decode cX1_pulledOf 12 = .ok (.aload_n 0, 1) := by decide +kernel
theorem dX1_pulledOf_13 : decode cX1_pulledOf 13 = .ok (.getfield 51, 3) := by decide +kernel
theorem dX1_pulledOf_16 : decode cX1_pulledOf 16 = .ok (.iload_n 2, 1) := by decide +kernel
theorem dX1_pulledOf_17 : decode cX1_pulledOf 17 = .ok (.iaload, 1) := by decide +kernel
theorem dX1_pulledOf_18 : decode cX1_pulledOf 18 = .ok (.aload_n 0, 1) := by decide +kernel
theorem dX1_pulledOf_19 : decode cX1_pulledOf 19 = .ok (.getfield 78, 3) := by decide +kernel
theorem dX1_pulledOf_22 : decode cX1_pulledOf 22 = .ok (.imul, 1) := by decide +kernel
theorem dX1_pulledOf_23 : decode cX1_pulledOf 23 = .ok (.istore_n 3, 1) := by decide +kernel
theorem dX1_pulledOf_24 : decode cX1_pulledOf 24 = .ok (.iload_n 3, 1) := by decide +kernel
theorem dX1_pulledOf_25 : decode cX1_pulledOf 25 = .ok (.aload_n 0, 1) := by decide +kernel
theorem dX1_pulledOf_26 : decode cX1_pulledOf 26 = .ok (.getfield 81, 3) := by decide +kernel
theorem dX1_pulledOf_29 : decode cX1_pulledOf 29 = .ok (.aload_n 0, 1) := by decide +kernel
theorem dX1_pulledOf_30 : decode cX1_pulledOf 30 = .ok (.getfield 30, 3) := by decide +kernel
theorem dX1_pulledOf_33 : decode cX1_pulledOf 33 = .ok (.aload_n 0, 1) := by decide +kernel
theorem dX1_pulledOf_34 : decode cX1_pulledOf 34 = .ok (.getfield 78, 3) := by decide +kernel
theorem dX1_pulledOf_37 : decode cX1_pulledOf 37 = .ok (.imul, 1) := by decide +kernel
theorem dX1_pulledOf_38 : decode cX1_pulledOf 38 = .ok (.isub, 1) := by decide +kernel
theorem dX1_pulledOf_39 : decode cX1_pulledOf 39 = .ok (.if_icmp .ge 20, 3) := by decide +kernel
theorem dX1_pulledOf_42 : decode cX1_pulledOf 42 = .ok (.aload_n 0, 1) := by decide +kernel
theorem dX1_pulledOf_43 : decode cX1_pulledOf 43 = .ok (.getfield 81, 3) := by decide +kernel
theorem dX1_pulledOf_46 : decode cX1_pulledOf 46 = .ok (.aload_n 0, 1) := by decide +kernel
theorem dX1_pulledOf_47 : decode cX1_pulledOf 47 = .ok (.getfield 30, 3) := by decide +kernel
theorem dX1_pulledOf_50 : decode cX1_pulledOf 50 = .ok (.aload_n 0, 1) := by decide +kernel
theorem dX1_pulledOf_51 : decode cX1_pulledOf 51 = .ok (.getfield 78, 3) := by decide +kernel
theorem dX1_pulledOf_54 : decode cX1_pulledOf 54 = .ok (.imul, 1) := by decide +kernel
theorem dX1_pulledOf_55 : decode cX1_pulledOf 55 = .ok (.isub, 1) := by decide +kernel
theorem dX1_pulledOf_56 : decode cX1_pulledOf 56 = .ok (.goto 4, 3) := by decide +kernel
theorem dX1_pulledOf_59 : decode cX1_pulledOf 59 = .ok (.iload_n 3, 1) := by decide +kernel
theorem dX1_pulledOf_60 : decode cX1_pulledOf 60 = .ok (.istore_n 3, 1) := by decide +kernel
theorem dX1_pulledOf_61 : decode cX1_pulledOf 61 = .ok (.iload_n 3, 1) := by decide +kernel
theorem dX1_pulledOf_62 : decode cX1_pulledOf 62 = .ok (.aload_n 0, 1) := by decide +kernel
theorem dX1_pulledOf_63 : decode cX1_pulledOf 63 = .ok (.getfield 81, 3) := by decide +kernel
theorem dX1_pulledOf_66 : decode cX1_pulledOf 66 = .ok (.aload_n 0, 1) := by decide +kernel
theorem dX1_pulledOf_67 : decode cX1_pulledOf 67 = .ok (.getfield 30, 3) := by decide +kernel
theorem dX1_pulledOf_70 : decode cX1_pulledOf 70 = .ok (.aload_n 0, 1) := by decide +kernel
theorem dX1_pulledOf_71 : decode cX1_pulledOf 71 = .ok (.getfield 78, 3) := by decide +kernel
theorem dX1_pulledOf_74 : decode cX1_pulledOf 74 = .ok (.imul, 1) := by decide +kernel
theorem dX1_pulledOf_75 : decode cX1_pulledOf 75 = .ok (.iadd, 1) := by decide +kernel
theorem dX1_pulledOf_76 : decode cX1_pulledOf 76 = .ok (.if_icmp .le 20, 3) := by decide +kernel
theorem dX1_pulledOf_79 : decode cX1_pulledOf 79 = .ok (.aload_n 0, 1) := by decide +kernel
theorem dX1_pulledOf_80 : decode cX1_pulledOf 80 = .ok (.getfield 81, 3) := by decide +kernel
theorem dX1_pulledOf_83 : decode cX1_pulledOf 83 = .ok (.aload_n 0, 1) := by decide +kernel
theorem dX1_pulledOf_84 : decode cX1_pulledOf 84 = .ok (.getfield 30, 3) := by decide +kernel
theorem dX1_pulledOf_87 : decode cX1_pulledOf 87 = .ok (.aload_n 0, 1) := by decide +kernel
theorem dX1_pulledOf_88 : decode cX1_pulledOf 88 = .ok (.getfield 78, 3) := by decide +kernel
theorem dX1_pulledOf_91 : decode cX1_pulledOf 91 = .ok (.imul, 1) := by decide +kernel
theorem dX1_pulledOf_92 : decode cX1_pulledOf 92 = .ok (.iadd, 1) := by decide +kernel
theorem dX1_pulledOf_93 : decode cX1_pulledOf 93 = .ok (.goto 4, 3) := by decide +kernel
theorem dX1_pulledOf_96 : decode cX1_pulledOf 96 = .ok (.iload_n 3, 1) := by decide +kernel
theorem dX1_pulledOf_97 : decode cX1_pulledOf 97 = .ok (.istore_n 3, 1) := by decide +kernel
theorem dX1_pulledOf_98 : decode cX1_pulledOf 98 = .ok (.iload_n 1, 1) := by decide +kernel
theorem dX1_pulledOf_99 : decode cX1_pulledOf 99 = .ok (.iload_n 3, 1) := by decide +kernel
theorem dX1_pulledOf_100 : decode cX1_pulledOf 100 = .ok (.iadd, 1) := by decide +kernel
theorem dX1_pulledOf_101 : decode cX1_pulledOf 101 = .ok (.istore_n 1, 1) := by decide +kernel
theorem dX1_pulledOf_102 : decode cX1_pulledOf 102 = .ok (.iinc 2 1, 3) := by decide +kernel
theorem dX1_pulledOf_105 : decode cX1_pulledOf 105 = .ok (.goto (-101), 3) := by decide +kernel
theorem dX1_pulledOf_108 : decode cX1_pulledOf 108 = .ok (.ldc 87, 2) := by decide +kernel
theorem dX1_pulledOf_110 : decode cX1_pulledOf 110 = .ok (.aload_n 0, 1) := by decide +kernel
theorem dX1_pulledOf_111 : decode cX1_pulledOf 111 = .ok (.getfield 78, 3) := by decide +kernel
theorem dX1_pulledOf_114 : decode cX1_pulledOf 114 = .ok (.aload_n 0, 1) := by decide +kernel
theorem dX1_pulledOf_115 : decode cX1_pulledOf 115 = .ok (.getfield 78, 3) := by decide +kernel
theorem dX1_pulledOf_118 : decode cX1_pulledOf 118 = .ok (.imul, 1) := by decide +kernel
theorem dX1_pulledOf_119 : decode cX1_pulledOf 119 = .ok (.idiv, 1) := by decide +kernel
theorem dX1_pulledOf_120 : decode cX1_pulledOf 120 = .ok (.iload_n 1, 1) := by decide +kernel
theorem dX1_pulledOf_121 : decode cX1_pulledOf 121 = .ok (.imul, 1) := by decide +kernel
theorem dX1_pulledOf_122 : decode cX1_pulledOf 122 = .ok (.ireturn, 1) := by decide +kernel
set_option maxRecDepth 20000 in
theorem ggX1_scoreOf_X1_gather : GoodIn wsX1_scoreOf wsX1_gather := goodIn_r _ [10, 1, 3, 11, 12, 5, 13, 14, 15, 9, 16, 17, 46, 47, 48, 49, 50, 51, 52, 53, 54, 55, 56, 57, 58, 59, 60, 61, 62, 63, 64, 65, 66, 67, 68] (by decide +kernel) (by decide +kernel)
set_option maxRecDepth 20000 in
theorem gX1_scoreOf_X1_gather : GoodIn wsX1_scoreOf (wsV RX1 96 RX1 yX1_gather wsX1_gather) := goodIn_app (goodIn_of _ (by decide +kernel)) ggX1_scoreOf_X1_gather
set_option maxRecDepth 20000 in
theorem ggX1_scoreOf_X1_cutOf : GoodIn wsX1_scoreOf wsX1_cutOf := goodIn_r _ [21, 1, 22, 5, 2, 46, 47, 48, 49, 50, 51, 52, 53, 54, 55, 56, 57, 58, 59, 60, 61, 62, 63, 64, 65, 66, 67, 68] (by decide +kernel) (by decide +kernel)
set_option maxRecDepth 20000 in
theorem gX1_scoreOf_X1_cutOf : GoodIn wsX1_scoreOf (wsV RX1 100 RX1 yX1_cutOf wsX1_cutOf) := goodIn_app (goodIn_of _ (by decide +kernel)) ggX1_scoreOf_X1_cutOf
set_option maxRecDepth 20000 in
theorem ggX1_scoreOf_X1_yesOf : GoodIn wsX1_scoreOf wsX1_yesOf := goodIn_r _ [26, 11, 27, 2, 1, 13, 14, 15, 9, 16, 17, 12, 46, 47, 48, 49, 50, 51, 52, 53, 54, 55, 56, 57, 58, 59, 60, 61, 62, 63, 64, 65, 66, 67, 68] (by decide +kernel) (by decide +kernel)
set_option maxRecDepth 20000 in
theorem gX1_scoreOf_X1_yesOf : GoodIn wsX1_scoreOf (wsV RX1 105 RX1 yX1_yesOf wsX1_yesOf) := goodIn_app (goodIn_of _ (by decide +kernel)) ggX1_scoreOf_X1_yesOf
set_option maxRecDepth 20000 in
theorem ggX1_scoreOf_X1_pairsOf : GoodIn wsX1_scoreOf wsX1_pairsOf := goodIn_r _ [31, 32, 33, 34, 35, 9, 36, 11, 13, 14, 15, 16, 17, 12, 37, 38, 39, 40, 46, 47, 48, 49, 50, 51, 52, 53, 54, 55, 56, 57, 58, 59, 60, 61, 62, 63, 64, 65, 66, 67, 68] (by decide +kernel) (by decide +kernel)
set_option maxRecDepth 20000 in
theorem gX1_scoreOf_X1_pairsOf : GoodIn wsX1_scoreOf (wsV RX1 109 RX1 yX1_pairsOf wsX1_pairsOf) := goodIn_app (goodIn_of _ (by decide +kernel)) ggX1_scoreOf_X1_pairsOf
set_option maxRecDepth 20000 in
theorem ggX1_scoreOf_X1_pulledOf : GoodIn wsX1_scoreOf wsX1_pulledOf := goodIn_r _ [44, 1, 5, 3, 45, 2, 46, 47, 48, 49, 50, 51, 52, 53, 54, 55, 56, 57, 58, 59, 60, 61, 62, 63, 64, 65, 66, 67, 68] (by decide +kernel) (by decide +kernel)
set_option maxRecDepth 20000 in
theorem gX1_scoreOf_X1_pulledOf : GoodIn wsX1_scoreOf (wsV RX1 112 RX1 yX1_pulledOf wsX1_pulledOf) := goodIn_app (goodIn_of _ (by decide +kernel)) ggX1_scoreOf_X1_pulledOf
theorem dX1_scoreOf_0 : decode cX1_scoreOf 0 = .ok (.aload_n 0, 1) := by decide +kernel
theorem dX1_scoreOf_1 : decode cX1_scoreOf 1 = .ok (.iload_n 1, 1) := by decide +kernel
theorem dX1_scoreOf_2 : decode cX1_scoreOf 2 = .ok (.iload_n 3, 1) := by decide +kernel
theorem dX1_scoreOf_3 : decode cX1_scoreOf 3 = .ok (.invokevirtual 96, 3) := by decide +kernel
theorem dX1_scoreOf_6 : decode cX1_scoreOf 6 = .ok (.aload_n 0, 1) := by decide +kernel
theorem dX1_scoreOf_7 : decode cX1_scoreOf 7 = .ok (.getfield 78, 3) := by decide +kernel
theorem dX1_scoreOf_10 : decode cX1_scoreOf 10 = .ok (.ifCond .ne 5, 3) := by decide +kernel
theorem dX1_scoreOf_13 : decode cX1_scoreOf 13 = .ok (.iconst (-1), 1) := by decide +kernel
theorem dX1_scoreOf_14 : decode cX1_scoreOf 14 = .ok (.ireturn, 1) := by decide +kernel
theorem dX1_scoreOf_15 : decode cX1_scoreOf 15 = .ok (.iload_n 2, 1) := by decide +kernel
theorem dX1_scoreOf_16 : decode cX1_scoreOf 16 = .ok (.tableswitch 97 0 4 #[36, 49, 54, 83, 90], 36) := by decide +kernel
theorem dX1_scoreOf_52 : decode cX1_scoreOf 52 = .ok (.ldc 87, 2) := by decide +kernel
theorem dX1_scoreOf_54 : decode cX1_scoreOf 54 = .ok (.aload_n 0, 1) := by decide +kernel
theorem dX1_scoreOf_55 : decode cX1_scoreOf 55 = .ok (.getfield 78, 3) := by decide +kernel
theorem dX1_scoreOf_58 : decode cX1_scoreOf 58 = .ok (.idiv, 1) := by decide +kernel
theorem dX1_scoreOf_59 : decode cX1_scoreOf 59 = .ok (.aload_n 0, 1) := by decide +kernel
theorem dX1_scoreOf_60 : decode cX1_scoreOf 60 = .ok (.getfield 81, 3) := by decide +kernel
theorem dX1_scoreOf_63 : decode cX1_scoreOf 63 = .ok (.imul, 1) := by decide +kernel
theorem dX1_scoreOf_64 : decode cX1_scoreOf 64 = .ok (.ireturn, 1) := by decide +kernel
theorem dX1_scoreOf_65 : decode cX1_scoreOf 65 = .ok (.aload_n 0, 1) := by decide +kernel
theorem dX1_scoreOf_66 : decode cX1_scoreOf 66 = .ok (.invokevirtual 100, 3) := by decide +kernel
theorem dX1_scoreOf_69 : decode cX1_scoreOf 69 = .ok (.ireturn, 1) := by decide +kernel
theorem dX1_scoreOf_70 : decode cX1_scoreOf 70 = .ok (.ldc 104, 2) := by decide +kernel
theorem dX1_scoreOf_72 : decode cX1_scoreOf 72 = .ok (.aload_n 0, 1) := by decide +kernel
theorem dX1_scoreOf_73 : decode cX1_scoreOf 73 = .ok (.getfield 51, 3) := by decide +kernel
theorem dX1_scoreOf_76 : decode cX1_scoreOf 76 = .ok (.aload_n 0, 1) := by decide +kernel
theorem dX1_scoreOf_77 : decode cX1_scoreOf 77 = .ok (.getfield 78, 3) := by decide +kernel
theorem dX1_scoreOf_80 : decode cX1_scoreOf 80 = .ok (.iconst 1, 1) := by decide +kernel
theorem dX1_scoreOf_81 : decode cX1_scoreOf 81 = .ok (.isub, 1) := by decide +kernel
theorem dX1_scoreOf_82 : decode cX1_scoreOf 82 = .ok (.iconst 2, 1) := by decide +kernel
theorem dX1_scoreOf_83 : decode cX1_scoreOf 83 = .ok (.idiv, 1) := by decide +kernel
theorem dX1_scoreOf_84 : decode cX1_scoreOf 84 = .ok (.iaload, 1) := by decide +kernel
theorem dX1_scoreOf_85 : decode cX1_scoreOf 85 = .ok (.aload_n 0, 1) := by decide +kernel
theorem dX1_scoreOf_86 : decode cX1_scoreOf 86 = .ok (.getfield 51, 3) := by decide +kernel
theorem dX1_scoreOf_89 : decode cX1_scoreOf 89 = .ok (.aload_n 0, 1) := by decide +kernel
theorem dX1_scoreOf_90 : decode cX1_scoreOf 90 = .ok (.getfield 78, 3) := by decide +kernel
theorem dX1_scoreOf_93 : decode cX1_scoreOf 93 = .ok (.iconst 2, 1) := by decide +kernel
theorem dX1_scoreOf_94 : decode cX1_scoreOf 94 = .ok (.idiv, 1) := by decide +kernel
theorem dX1_scoreOf_95 : decode cX1_scoreOf 95 = .ok (.iaload, 1) := by decide +kernel
theorem dX1_scoreOf_96 : decode cX1_scoreOf 96 = .ok (.iadd, 1) := by decide +kernel
theorem dX1_scoreOf_97 : decode cX1_scoreOf 97 = .ok (.imul, 1) := by decide +kernel
theorem dX1_scoreOf_98 : decode cX1_scoreOf 98 = .ok (.ireturn, 1) := by decide +kernel
theorem dX1_scoreOf_99 : decode cX1_scoreOf 99 = .ok (.aload_n 0, 1) := by decide +kernel
theorem dX1_scoreOf_100 : decode cX1_scoreOf 100 = .ok (.iload_n 1, 1) := by decide +kernel
theorem dX1_scoreOf_101 : decode cX1_scoreOf 101 = .ok (.iload_n 3, 1) := by decide +kernel
theorem dX1_scoreOf_102 : decode cX1_scoreOf 102 = .ok (.invokevirtual 105, 3) := by decide +kernel
theorem dX1_scoreOf_105 : decode cX1_scoreOf 105 = .ok (.ireturn, 1) := by decide +kernel
theorem dX1_scoreOf_106 : decode cX1_scoreOf 106 = .ok (.aload_n 0, 1) := by decide +kernel
theorem dX1_scoreOf_107 : decode cX1_scoreOf 107 = .ok (.iload_n 1, 1) := by decide +kernel
theorem dX1_scoreOf_108 : decode cX1_scoreOf 108 = .ok (.iload_n 3, 1) := by decide +kernel
theorem dX1_scoreOf_109 : decode cX1_scoreOf 109 = .ok (.invokevirtual 109, 3) := by decide +kernel
theorem dX1_scoreOf_112 : decode cX1_scoreOf 112 = .ok (.ireturn, 1) := by decide +kernel
theorem dX1_scoreOf_113 : decode cX1_scoreOf 113 = .ok (.aload_n 0, 1) := by decide +kernel
theorem dX1_scoreOf_114 : decode cX1_scoreOf 114 = .ok (.invokevirtual 112, 3) := by decide +kernel
theorem dX1_scoreOf_117 : decode cX1_scoreOf 117 = .ok (.ireturn, 1) := by decide +kernel
set_option maxRecDepth 20000 in
theorem ggX1_score_X1_isRound : GoodIn wsX1_score wsX1_isRound := goodIn_r _ [4, 5, 6, 3, 7] (by decide +kernel) (by decide +kernel)
set_option maxRecDepth 20000 in
theorem gX1_score_X1_isRound : GoodIn wsX1_score (va_wsS RX1 68 yX1_isRound wsX1_isRound) := goodIn_app (goodIn_of _ (by decide +kernel)) ggX1_score_X1_isRound
set_option maxRecDepth 20000 in
theorem ggX1_score_X1_isPlayer : GoodIn wsX1_score wsX1_isPlayer := goodIn_r _ [11, 12, 5, 6, 3, 7, 60, 61, 62, 63, 64, 65, 66, 67, 68, 69, 70, 71, 72, 73, 74, 75, 76, 77, 78, 79, 80, 81, 82] (by decide +kernel) (by decide +kernel)
set_option maxRecDepth 20000 in
theorem gX1_score_X1_isPlayer : GoodIn wsX1_score (wsV RX1 75 RX1 yX1_isPlayer wsX1_isPlayer) := goodIn_app (goodIn_of _ (by decide +kernel)) ggX1_score_X1_isPlayer
set_option maxRecDepth 20000 in
theorem ggX1_score_X1_in : GoodIn wsX1_score wsX1_in := goodIn_r _ [7] (by decide +kernel) (by decide +kernel)
set_option maxRecDepth 20000 in
theorem gX1_score_X1_in : GoodIn wsX1_score (va_wsS RX1 64 yX1_in wsX1_in) := goodIn_app (goodIn_of _ (by decide +kernel)) ggX1_score_X1_in
set_option maxRecDepth 20000 in
theorem ggX1_score_X1_scoreOf : GoodIn wsX1_score wsX1_scoreOf := goodIn_r _ [16, 17, 18, 19, 20, 21, 22, 23, 24, 3, 25, 26, 27, 28, 29, 30, 31, 32, 33, 34, 35, 36, 37, 38, 39, 40, 41, 42, 43, 44, 45, 46, 12, 47, 48, 49, 50, 51, 52, 53, 54, 55, 56, 57, 58, 59, 60, 61, 62, 63, 64, 65, 66, 67, 68, 69, 70, 71, 72, 73, 74, 75, 76, 77, 78, 79, 80, 81, 82] (by decide +kernel) (by decide +kernel)
set_option maxRecDepth 20000 in
theorem gX1_score_X1_scoreOf : GoodIn wsX1_score (wsV RX1 115 RX1 yX1_scoreOf wsX1_scoreOf) := goodIn_app (goodIn_of _ (by decide +kernel)) ggX1_score_X1_scoreOf
theorem dX1_score_0 : decode cX1_score 0 = .ok (.iload_n 1, 1) := by decide +kernel
theorem dX1_score_1 : decode cX1_score 1 = .ok (.invokestatic 68, 3) := by decide +kernel
theorem dX1_score_4 : decode cX1_score 4 = .ok (.ifCond .eq 11, 3) := by decide +kernel
theorem dX1_score_7 : decode cX1_score 7 = .ok (.aload_n 0, 1) := by decide +kernel
theorem dX1_score_8 : decode cX1_score 8 = .ok (.iload_n 3, 1) := by decide +kernel
theorem dX1_score_9 : decode cX1_score 9 = .ok (.invokevirtual 75, 3) := by decide +kernel
theorem dX1_score_12 : decode cX1_score 12 = .ok (.ifCond .ne 6, 3) := by decide +kernel
theorem dX1_score_15 : decode cX1_score 15 = .ok (.bipush (-101), 2) := by decide +kernel
theorem dX1_score_17 : decode cX1_score 17 = .ok (.ireturn, 1) := by decide +kernel
theorem dX1_score_18 : decode cX1_score 18 = .ok (.iload_n 2, 1) := by decide +kernel
theorem dX1_score_19 : decode cX1_score 19 = .ok (.iconst 0, 1) := by decide +kernel
theorem dX1_score_20 : decode cX1_score 20 = .ok (.iconst 5, 1) := by decide +kernel
theorem dX1_score_21 : decode cX1_score 21 = .ok (.invokestatic 64, 3) := by decide +kernel
theorem dX1_score_24 : decode cX1_score 24 = .ok (.ifCond .eq 13, 3) := by decide +kernel
theorem dX1_score_27 : decode cX1_score 27 = .ok (.aload_n 0, 1) := by decide +kernel
theorem dX1_score_28 : decode cX1_score 28 = .ok (.iload_n 1, 1) := by decide +kernel
theorem dX1_score_29 : decode cX1_score 29 = .ok (.iload_n 2, 1) := by decide +kernel
theorem dX1_score_30 : decode cX1_score 30 = .ok (.iload_n 3, 1) := by decide +kernel
theorem dX1_score_31 : decode cX1_score 31 = .ok (.invokevirtual 115, 3) := by decide +kernel
theorem dX1_score_34 : decode cX1_score 34 = .ok (.goto 5, 3) := by decide +kernel
theorem dX1_score_37 : decode cX1_score 37 = .ok (.bipush (-102), 2) := by decide +kernel
theorem dX1_score_39 : decode cX1_score 39 = .ok (.ireturn, 1) := by decide +kernel
set_option maxRecDepth 20000 in
theorem ggX1_beats_X1_isRound : GoodIn wsX1_beats wsX1_isRound := goodIn_r _ [4, 5, 6, 3, 7] (by decide +kernel) (by decide +kernel)
set_option maxRecDepth 20000 in
theorem gX1_beats_X1_isRound : GoodIn wsX1_beats (va_wsS RX1 68 yX1_isRound wsX1_isRound) := goodIn_app (goodIn_of _ (by decide +kernel)) ggX1_beats_X1_isRound
set_option maxRecDepth 20000 in
theorem ggX1_beats_X1_isPlayer : GoodIn wsX1_beats wsX1_isPlayer := goodIn_r _ [11, 12, 5, 6, 3, 7, 24, 25, 26, 27, 28, 29, 30, 31, 32, 33, 34, 35, 36, 37, 38, 39, 40, 41, 42, 43, 44, 45, 46] (by decide +kernel) (by decide +kernel)
set_option maxRecDepth 20000 in
theorem gX1_beats_X1_isPlayer : GoodIn wsX1_beats (wsV RX1 75 RX1 yX1_isPlayer wsX1_isPlayer) := goodIn_app (goodIn_of _ (by decide +kernel)) ggX1_beats_X1_isPlayer
set_option maxRecDepth 20000 in
theorem ggX1_beats_X1_beatsOf : GoodIn wsX1_beats wsX1_beatsOf := goodIn_r _ [16, 17, 18, 19, 20, 21, 3, 22, 23, 24, 25, 26, 27, 28, 29, 30, 31, 32, 33, 34, 35, 36, 37, 38, 39, 40, 41, 42, 43, 44, 45, 46] (by decide +kernel) (by decide +kernel)
set_option maxRecDepth 20000 in
theorem gX1_beats_X1_beatsOf : GoodIn wsX1_beats (wsV RX1 92 RX1 yX1_beatsOf wsX1_beatsOf) := goodIn_app (goodIn_of _ (by decide +kernel)) ggX1_beats_X1_beatsOf
theorem dX1_beats_0 : decode cX1_beats 0 = .ok (.iload_n 1, 1) := by decide +kernel
theorem dX1_beats_1 : decode cX1_beats 1 = .ok (.invokestatic 68, 3) := by decide +kernel
theorem dX1_beats_4 : decode cX1_beats 4 = .ok (.ifCond .eq 19, 3) := by decide +kernel
theorem dX1_beats_7 : decode cX1_beats 7 = .ok (.aload_n 0, 1) := by decide +kernel
theorem dX1_beats_8 : decode cX1_beats 8 = .ok (.iload_n 2, 1) := by decide +kernel
theorem dX1_beats_9 : decode cX1_beats 9 = .ok (.invokevirtual 75, 3) := by decide +kernel
theorem dX1_beats_12 : decode cX1_beats 12 = .ok (.ifCond .eq 11, 3) := by decide +kernel
theorem dX1_beats_15 : decode cX1_beats 15 = .ok (.aload_n 0, 1) := by decide +kernel
theorem dX1_beats_16 : decode cX1_beats 16 = .ok (.iload_n 3, 1) := by decide +kernel
theorem dX1_beats_17 : decode cX1_beats 17 = .ok (.invokevirtual 75, 3) := by decide +kernel
theorem dX1_beats_20 : decode cX1_beats 20 = .ok (.ifCond .ne 6, 3) := by decide +kernel
theorem dX1_beats_23 : decode cX1_beats 23 = .ok (.bipush (-101), 2) := by decide +kernel
theorem dX1_beats_25 : decode cX1_beats 25 = .ok (.ireturn, 1) := by decide +kernel
theorem dX1_beats_26 : decode cX1_beats 26 = .ok (.aload_n 0, 1) := by decide +kernel
theorem dX1_beats_27 : decode cX1_beats 27 = .ok (.iload_n 1, 1) := by decide +kernel
theorem dX1_beats_28 : decode cX1_beats 28 = .ok (.iload_n 2, 1) := by decide +kernel
theorem dX1_beats_29 : decode cX1_beats 29 = .ok (.iload_n 3, 1) := by decide +kernel
theorem dX1_beats_30 : decode cX1_beats 30 = .ok (.invokevirtual 92, 3) := by decide +kernel
theorem dX1_beats_33 : decode cX1_beats 33 = .ok (.ireturn, 1) := by decide +kernel
set_option maxRecDepth 20000 in
theorem ggX1_placeOf_X1_scoreOf : GoodIn wsX1_placeOf wsX1_scoreOf := goodIn_r _ [6, 7, 8, 9, 10, 11, 12, 13, 14, 5, 15, 16, 17, 18, 19, 20, 21, 22, 23, 24, 25, 26, 27, 28, 29, 30, 31, 32, 33, 34, 35, 36, 1, 37, 38, 39, 40, 41, 42, 43, 44, 45, 46, 47, 48, 49, 50, 51, 52, 53, 54, 55, 56, 57, 58, 59, 60, 61, 62, 63, 64, 65, 66, 67, 68, 69, 70, 71, 72] (by decide +kernel) (by decide +kernel)
set_option maxRecDepth 20000 in
theorem gX1_placeOf_X1_scoreOf : GoodIn wsX1_placeOf (wsV RX1 115 RX1 yX1_scoreOf wsX1_scoreOf) := goodIn_app (goodIn_of _ (by decide +kernel)) ggX1_placeOf_X1_scoreOf
theorem dX1_placeOf_0 : decode cX1_placeOf 0 = .ok (.aload_n 0, 1) := by decide +kernel
theorem dX1_placeOf_1 : decode cX1_placeOf 1 = .ok (.iload_n 1, 1) := by decide +kernel
theorem dX1_placeOf_2 : decode cX1_placeOf 2 = .ok (.iload_n 2, 1) := by decide +kernel
theorem dX1_placeOf_3 : decode cX1_placeOf 3 = .ok (.iload_n 3, 1) := by decide +kernel
theorem dX1_placeOf_4 : decode cX1_placeOf 4 = .ok (.invokevirtual 115, 3) := by decide +kernel
theorem dX1_placeOf_7 : decode cX1_placeOf 7 = .ok (.istore 4, 2) := by decide +kernel
theorem dX1_placeOf_9 : decode cX1_placeOf 9 = .ok (.iconst 1, 1) := by decide +kernel
theorem dX1_placeOf_10 : decode cX1_placeOf 10 = .ok (.istore 5, 2) := by decide +kernel
theorem dX1_placeOf_12 : decode cX1_placeOf 12 = .ok (.iconst 0, 1) := by decide +kernel
theorem dX1_placeOf_13 : decode cX1_placeOf 13 = .ok (.istore 6, 2) := by decide +kernel
theorem dX1_placeOf_15 : decode cX1_placeOf 15 = .ok (.iload 6, 2) := by decide +kernel
theorem dX1_placeOf_17 : decode cX1_placeOf 17 = .ok (.aload_n 0, 1) := by decide +kernel
theorem dX1_placeOf_18 : decode cX1_placeOf 18 = .ok (.getfield 7, 3) := by decide +kernel
theorem dX1_placeOf_21 : decode cX1_placeOf 21 = .ok (.if_icmp .ge 38, 3) := by decide +kernel
theorem dX1_placeOf_24 : decode cX1_placeOf 24 = .ok (.iload 5, 2) := by decide +kernel
theorem dX1_placeOf_26 : decode cX1_placeOf 26 = .ok (.iload 6, 2) := by decide +kernel
theorem dX1_placeOf_28 : decode cX1_placeOf 28 = .ok (.iload_n 3, 1) := by decide +kernel
theorem dX1_placeOf_29 : decode cX1_placeOf 29 = .ok (.if_icmp .eq 20, 3) := by decide +kernel
theorem dX1_placeOf_32 : decode cX1_placeOf 32 = .ok (.aload_n 0, 1) := by decide +kernel
theorem dX1_placeOf_33 : decode cX1_placeOf 33 = .ok (.iload_n 1, 1) := by decide +kernel
theorem dX1_placeOf_34 : decode cX1_placeOf 34 = .ok (.iload_n 2, 1) := by decide +kernel
theorem dX1_placeOf_35 : decode cX1_placeOf 35 = .ok (.iload 6, 2) := by decide +kernel
theorem dX1_placeOf_37 : decode cX1_placeOf 37 = .ok (.invokevirtual 115, 3) := by decide +kernel
theorem dX1_placeOf_40 : decode cX1_placeOf 40 = .ok (.iload 4, 2) := by decide +kernel
theorem dX1_placeOf_42 : decode cX1_placeOf 42 = .ok (.if_icmp .le 7, 3) := by decide +kernel
theorem dX1_placeOf_45 : decode cX1_placeOf 45 = .ok (.iconst 1, 1) := by decide +kernel
theorem dX1_placeOf_46 : decode cX1_placeOf 46 = .ok (.goto 4, 3) := by decide +kernel
theorem dX1_placeOf_49 : decode cX1_placeOf 49 = .ok (.iconst 0, 1) := by decide +kernel
theorem dX1_placeOf_50 : decode cX1_placeOf 50 = .ok (.iadd, 1) := by decide +kernel
theorem dX1_placeOf_51 : decode cX1_placeOf 51 = .ok (.istore 5, 2) := by decide +kernel
theorem dX1_placeOf_53 : decode cX1_placeOf 53 = .ok (.iinc 6 1, 3) := by decide +kernel
theorem dX1_placeOf_56 : decode cX1_placeOf 56 = .ok (.goto (-41), 3) := by decide +kernel
theorem dX1_placeOf_59 : decode cX1_placeOf 59 = .ok (.iload 5, 2) := by decide +kernel
theorem dX1_placeOf_61 : decode cX1_placeOf 61 = .ok (.ireturn, 1) := by decide +kernel
set_option maxRecDepth 20000 in
theorem ggX1_place_X1_isRound : GoodIn wsX1_place wsX1_isRound := goodIn_r _ [4, 5, 6, 3, 7] (by decide +kernel) (by decide +kernel)
set_option maxRecDepth 20000 in
theorem gX1_place_X1_isRound : GoodIn wsX1_place (va_wsS RX1 68 yX1_isRound wsX1_isRound) := goodIn_app (goodIn_of _ (by decide +kernel)) ggX1_place_X1_isRound
set_option maxRecDepth 20000 in
theorem ggX1_place_X1_isPlayer : GoodIn wsX1_place wsX1_isPlayer := goodIn_r _ [11, 12, 5, 6, 3, 7, 64, 65, 66, 67, 68, 69, 70, 71, 72, 73, 74, 75, 76, 77, 78, 79, 80, 81, 82, 83, 84, 85, 86] (by decide +kernel) (by decide +kernel)
set_option maxRecDepth 20000 in
theorem gX1_place_X1_isPlayer : GoodIn wsX1_place (wsV RX1 75 RX1 yX1_isPlayer wsX1_isPlayer) := goodIn_app (goodIn_of _ (by decide +kernel)) ggX1_place_X1_isPlayer
set_option maxRecDepth 20000 in
theorem ggX1_place_X1_in : GoodIn wsX1_place wsX1_in := goodIn_r _ [7] (by decide +kernel) (by decide +kernel)
set_option maxRecDepth 20000 in
theorem gX1_place_X1_in : GoodIn wsX1_place (va_wsS RX1 64 yX1_in wsX1_in) := goodIn_app (goodIn_of _ (by decide +kernel)) ggX1_place_X1_in
set_option maxRecDepth 20000 in
theorem ggX1_place_X1_placeOf : GoodIn wsX1_place wsX1_placeOf := goodIn_r _ [16, 12, 17, 18, 19, 3, 20, 21, 22, 23, 24, 25, 26, 27, 28, 29, 30, 31, 32, 33, 34, 35, 36, 37, 38, 39, 40, 41, 42, 43, 44, 45, 46, 47, 48, 49, 50, 51, 52, 53, 54, 55, 56, 57, 58, 59, 60, 61, 62, 63, 64, 65, 66, 67, 68, 69, 70, 71, 72, 73, 74, 75, 76, 77, 78, 79, 80, 81, 82, 83, 84, 85, 86] (by decide +kernel) (by decide +kernel)
set_option maxRecDepth 20000 in
theorem gX1_place_X1_placeOf : GoodIn wsX1_place (wsV RX1 118 RX1 yX1_placeOf wsX1_placeOf) := goodIn_app (goodIn_of _ (by decide +kernel)) ggX1_place_X1_placeOf
theorem dX1_place_0 : decode cX1_place 0 = .ok (.iload_n 1, 1) := by decide +kernel
theorem dX1_place_1 : decode cX1_place 1 = .ok (.invokestatic 68, 3) := by decide +kernel
theorem dX1_place_4 : decode cX1_place 4 = .ok (.ifCond .eq 11, 3) := by decide +kernel
theorem dX1_place_7 : decode cX1_place 7 = .ok (.aload_n 0, 1) := by decide +kernel
theorem dX1_place_8 : decode cX1_place 8 = .ok (.iload_n 3, 1) := by decide +kernel
theorem dX1_place_9 : decode cX1_place 9 = .ok (.invokevirtual 75, 3) := by decide +kernel
theorem dX1_place_12 : decode cX1_place 12 = .ok (.ifCond .ne 6, 3) := by decide +kernel
theorem dX1_place_15 : decode cX1_place 15 = .ok (.bipush (-101), 2) := by decide +kernel
theorem dX1_place_17 : decode cX1_place 17 = .ok (.ireturn, 1) := by decide +kernel
theorem dX1_place_18 : decode cX1_place 18 = .ok (.iload_n 2, 1) := by decide +kernel
theorem dX1_place_19 : decode cX1_place 19 = .ok (.iconst 0, 1) := by decide +kernel
theorem dX1_place_20 : decode cX1_place 20 = .ok (.iconst 5, 1) := by decide +kernel
theorem dX1_place_21 : decode cX1_place 21 = .ok (.invokestatic 64, 3) := by decide +kernel
theorem dX1_place_24 : decode cX1_place 24 = .ok (.ifCond .eq 13, 3) := by decide +kernel
theorem dX1_place_27 : decode cX1_place 27 = .ok (.aload_n 0, 1) := by decide +kernel
theorem dX1_place_28 : decode cX1_place 28 = .ok (.iload_n 1, 1) := by decide +kernel
theorem dX1_place_29 : decode cX1_place 29 = .ok (.iload_n 2, 1) := by decide +kernel
theorem dX1_place_30 : decode cX1_place 30 = .ok (.iload_n 3, 1) := by decide +kernel
theorem dX1_place_31 : decode cX1_place 31 = .ok (.invokevirtual 118, 3) := by decide +kernel
theorem dX1_place_34 : decode cX1_place 34 = .ok (.goto 5, 3) := by decide +kernel
theorem dX1_place_37 : decode cX1_place 37 = .ok (.bipush (-102), 2) := by decide +kernel
theorem dX1_place_39 : decode cX1_place 39 = .ok (.ireturn, 1) := by decide +kernel
set_option maxRecDepth 20000 in
theorem ggX1_passes_X1_hasMark : GoodIn wsX1_passes wsX1_hasMark := goodIn_r _ [5, 6, 7, 8, 9, 4, 10, 11, 12, 54, 55, 56, 57, 58, 59, 60, 61, 62, 63, 64, 65, 66, 67, 68, 69, 70, 71, 72, 73, 74, 75, 76] (by decide +kernel) (by decide +kernel)
set_option maxRecDepth 20000 in
theorem gX1_passes_X1_hasMark : GoodIn wsX1_passes (wsV RX1 88 RX1 yX1_hasMark wsX1_hasMark) := goodIn_app (goodIn_of _ (by decide +kernel)) ggX1_passes_X1_hasMark
set_option maxRecDepth 20000 in
theorem ggX1_passes_X1_placeOf : GoodIn wsX1_passes wsX1_placeOf := goodIn_r _ [16, 17, 18, 19, 20, 4, 21, 22, 23, 24, 25, 26, 27, 28, 29, 30, 6, 12, 7, 8, 9, 10, 11, 31, 32, 33, 34, 35, 36, 37, 38, 39, 40, 41, 42, 43, 44, 1, 2, 3, 5, 45, 46, 47, 48, 49, 50, 51, 52, 53, 54, 55, 56, 57, 58, 59, 60, 61, 62, 63, 64, 65, 66, 67, 68, 69, 70, 71, 72, 73, 74, 75, 76] (by decide +kernel) (by decide +kernel)
set_option maxRecDepth 20000 in
theorem gX1_passes_X1_placeOf : GoodIn wsX1_passes (wsV RX1 118 RX1 yX1_placeOf wsX1_placeOf) := goodIn_app (goodIn_of _ (by decide +kernel)) ggX1_passes_X1_placeOf
theorem dX1_passes_0 : decode cX1_passes 0 = .ok (.aload_n 0, 1) := by decide +kernel
theorem dX1_passes_1 : decode cX1_passes 1 = .ok (.iload_n 1, 1) := by decide +kernel
theorem dX1_passes_2 : decode cX1_passes 2 = .ok (.iload_n 3, 1) := by decide +kernel
theorem dX1_passes_3 : decode cX1_passes 3 = .ok (.invokevirtual 88, 3) := by decide +kernel
theorem dX1_passes_6 : decode cX1_passes 6 = .ok (.ifCond .eq 19, 3) := by decide +kernel
theorem dX1_passes_9 : decode cX1_passes 9 = .ok (.aload_n 0, 1) := by decide +kernel
theorem dX1_passes_10 : decode cX1_passes 10 = .ok (.iload_n 1, 1) := by decide +kernel
theorem dX1_passes_11 : decode cX1_passes 11 = .ok (.iload_n 2, 1) := by decide +kernel
theorem dX1_passes_12 : decode cX1_passes 12 = .ok (.iload_n 3, 1) := by decide +kernel
theorem dX1_passes_13 : decode cX1_passes 13 = .ok (.invokevirtual 118, 3) := by decide +kernel
theorem dX1_passes_16 : decode cX1_passes 16 = .ok (.iload 4, 2) := by decide +kernel
theorem dX1_passes_18 : decode cX1_passes 18 = .ok (.if_icmp .gt 7, 3) := by decide +kernel
theorem dX1_passes_21 : decode cX1_passes 21 = .ok (.iconst 1, 1) := by decide +kernel
theorem dX1_passes_22 : decode cX1_passes 22 = .ok (.goto 4, 3) := by decide +kernel
theorem dX1_passes_25 : decode cX1_passes 25 = .ok (.iconst 0, 1) := by decide +kernel
theorem dX1_passes_26 : decode cX1_passes 26 = .ok (.ireturn, 1) := by decide +kernel
set_option maxRecDepth 20000 in
theorem ggX1_passedOf_X1_passes : GoodIn wsX1_passedOf wsX1_passes := goodIn_r _ [6, 7, 8, 9, 5, 10, 11, 12, 13, 14, 15, 16, 17, 18, 19, 20, 21, 1, 22, 23, 24, 25, 26, 27, 28, 29, 30, 31, 32, 33, 34, 35, 36, 37, 38, 39, 40, 41, 42, 43, 44, 45, 46, 47, 48, 49, 50, 51, 52, 53, 54, 55, 56, 57, 58, 59, 60, 61, 62, 63, 64, 65, 66, 67, 68, 69, 70, 71, 72, 73, 74, 75, 76, 77, 78, 79, 80] (by decide +kernel) (by decide +kernel)
set_option maxRecDepth 20000 in
theorem gX1_passedOf_X1_passes : GoodIn wsX1_passedOf (wsV RX1 121 RX1 yX1_passes wsX1_passes) := goodIn_app (goodIn_of _ (by decide +kernel)) ggX1_passedOf_X1_passes
theorem dX1_passedOf_0 : decode cX1_passedOf 0 = .ok (.iconst 0, 1) := by decide +kernel
theorem dX1_passedOf_1 : decode cX1_passedOf 1 = .ok (.istore 4, 2) := by decide +kernel
theorem dX1_passedOf_3 : decode cX1_passedOf 3 = .ok (.iconst 0, 1) := by decide +kernel
theorem dX1_passedOf_4 : decode cX1_passedOf 4 = .ok (.istore 5, 2) := by decide +kernel
theorem dX1_passedOf_6 : decode cX1_passedOf 6 = .ok (.iload 5, 2) := by decide +kernel
theorem dX1_passedOf_8 : decode cX1_passedOf 8 = .ok (.aload_n 0, 1) := by decide +kernel
theorem dX1_passedOf_9 : decode cX1_passedOf 9 = .ok (.getfield 7, 3) := by decide +kernel
theorem dX1_passedOf_12 : decode cX1_passedOf 12 = .ok (.if_icmp .ge 34, 3) := by decide +kernel
theorem dX1_passedOf_15 : decode cX1_passedOf 15 = .ok (.iload 4, 2) := by decide +kernel
theorem dX1_passedOf_17 : decode cX1_passedOf 17 = .ok (.aload_n 0, 1) := by decide +kernel
theorem dX1_passedOf_18 : decode cX1_passedOf 18 = .ok (.iload_n 1, 1) := by decide +kernel
theorem dX1_passedOf_19 : decode cX1_passedOf 19 = .ok (.iload_n 2, 1) := by decide +kernel
theorem dX1_passedOf_20 : decode cX1_passedOf 20 = .ok (.iload 5, 2) := by decide +kernel
theorem dX1_passedOf_22 : decode cX1_passedOf 22 = .ok (.iload_n 3, 1) := by decide +kernel
theorem dX1_passedOf_23 : decode cX1_passedOf 23 = .ok (.invokevirtual 121, 3) := by decide +kernel
theorem dX1_passedOf_26 : decode cX1_passedOf 26 = .ok (.ifCond .eq 10, 3) := by decide +kernel
theorem dX1_passedOf_29 : decode cX1_passedOf 29 = .ok (.iconst 1, 1) := by decide +kernel
theorem dX1_passedOf_30 : decode cX1_passedOf 30 = .ok (.iload 5, 2) := by decide +kernel
theorem dX1_passedOf_32 : decode cX1_passedOf 32 = .ok (.ishl, 1) := by decide +kernel
theorem dX1_passedOf_33 : decode cX1_passedOf 33 = .ok (.goto 4, 3) := by decide +kernel
theorem dX1_passedOf_36 : decode cX1_passedOf 36 = .ok (.iconst 0, 1) := by decide +kernel
theorem dX1_passedOf_37 : decode cX1_passedOf 37 = .ok (.ior, 1) := by decide +kernel
theorem dX1_passedOf_38 : decode cX1_passedOf 38 = .ok (.istore 4, 2) := by decide +kernel
theorem dX1_passedOf_40 : decode cX1_passedOf 40 = .ok (.iinc 5 1, 3) := by decide +kernel
theorem dX1_passedOf_43 : decode cX1_passedOf 43 = .ok (.goto (-37), 3) := by decide +kernel
theorem dX1_passedOf_46 : decode cX1_passedOf 46 = .ok (.iload 4, 2) := by decide +kernel
theorem dX1_passedOf_48 : decode cX1_passedOf 48 = .ok (.ireturn, 1) := by decide +kernel
set_option maxRecDepth 20000 in
theorem ggX1_passed_X1_isRound : GoodIn wsX1_passed wsX1_isRound := goodIn_r _ [4, 5, 6, 3, 7] (by decide +kernel) (by decide +kernel)
set_option maxRecDepth 20000 in
theorem gX1_passed_X1_isRound : GoodIn wsX1_passed (va_wsS RX1 68 yX1_isRound wsX1_isRound) := goodIn_app (goodIn_of _ (by decide +kernel)) ggX1_passed_X1_isRound
set_option maxRecDepth 20000 in
theorem ggX1_passed_X1_in : GoodIn wsX1_passed wsX1_in := goodIn_r _ [7] (by decide +kernel) (by decide +kernel)
set_option maxRecDepth 20000 in
theorem gX1_passed_X1_in : GoodIn wsX1_passed (va_wsS RX1 64 yX1_in wsX1_in) := goodIn_app (goodIn_of _ (by decide +kernel)) ggX1_passed_X1_in
set_option maxRecDepth 20000 in
theorem ggX1_passed_X1_passedOf : GoodIn wsX1_passed wsX1_passedOf := goodIn_r _ [11, 12, 13, 14, 15, 3, 16, 17, 18, 19, 20, 21, 22, 23, 24, 25, 26, 27, 28, 29, 30, 31, 32, 33, 34, 35, 36, 37, 38, 39, 40, 41, 42, 43, 44, 45, 46, 47, 48, 49, 50, 51, 52, 53, 54, 55, 56, 57, 58, 59, 60, 61, 62, 63, 64, 65, 66, 67, 68, 69, 70, 71, 72, 73, 74, 75, 76, 77, 78, 79, 80, 81, 82, 83, 84, 85, 86, 87, 88, 89, 90] (by decide +kernel) (by decide +kernel)
set_option maxRecDepth 20000 in
theorem gX1_passed_X1_passedOf : GoodIn wsX1_passed (wsV RX1 125 RX1 yX1_passedOf wsX1_passedOf) := goodIn_app (goodIn_of _ (by decide +kernel)) ggX1_passed_X1_passedOf
theorem dX1_passed_0 : decode cX1_passed 0 = .ok (.iload_n 1, 1) := by decide +kernel
theorem dX1_passed_1 : decode cX1_passed 1 = .ok (.invokestatic 68, 3) := by decide +kernel
theorem dX1_passed_4 : decode cX1_passed 4 = .ok (.ifCond .ne 6, 3) := by decide +kernel
theorem dX1_passed_7 : decode cX1_passed 7 = .ok (.bipush (-101), 2) := by decide +kernel
theorem dX1_passed_9 : decode cX1_passed 9 = .ok (.ireturn, 1) := by decide +kernel
theorem dX1_passed_10 : decode cX1_passed 10 = .ok (.iload_n 2, 1) := by decide +kernel
theorem dX1_passed_11 : decode cX1_passed 11 = .ok (.iconst 0, 1) := by decide +kernel
theorem dX1_passed_12 : decode cX1_passed 12 = .ok (.iconst 5, 1) := by decide +kernel
theorem dX1_passed_13 : decode cX1_passed 13 = .ok (.invokestatic 64, 3) := by decide +kernel
theorem dX1_passed_16 : decode cX1_passed 16 = .ok (.ifCond .eq 23, 3) := by decide +kernel
theorem dX1_passed_19 : decode cX1_passed 19 = .ok (.iload_n 3, 1) := by decide +kernel
theorem dX1_passed_20 : decode cX1_passed 20 = .ok (.iconst 1, 1) := by decide +kernel
theorem dX1_passed_21 : decode cX1_passed 21 = .ok (.bipush 10, 2) := by decide +kernel
theorem dX1_passed_23 : decode cX1_passed 23 = .ok (.invokestatic 64, 3) := by decide +kernel
theorem dX1_passed_26 : decode cX1_passed 26 = .ok (.ifCond .eq 13, 3) := by decide +kernel
theorem dX1_passed_29 : decode cX1_passed 29 = .ok (.aload_n 0, 1) := by decide +kernel
theorem dX1_passed_30 : decode cX1_passed 30 = .ok (.iload_n 1, 1) := by decide +kernel
theorem dX1_passed_31 : decode cX1_passed 31 = .ok (.iload_n 2, 1) := by decide +kernel
theorem dX1_passed_32 : decode cX1_passed 32 = .ok (.iload_n 3, 1) := by decide +kernel
theorem dX1_passed_33 : decode cX1_passed 33 = .ok (.invokevirtual 125, 3) := by decide +kernel
theorem dX1_passed_36 : decode cX1_passed 36 = .ok (.goto 5, 3) := by decide +kernel
theorem dX1_passed_39 : decode cX1_passed 39 = .ok (.bipush (-102), 2) := by decide +kernel
theorem dX1_passed_41 : decode cX1_passed 41 = .ok (.ireturn, 1) := by decide +kernel
set_option maxRecDepth 20000 in
theorem ggX1_differ_X1_isRound : GoodIn wsX1_differ wsX1_isRound := goodIn_r _ [5, 6, 7, 4, 8] (by decide +kernel) (by decide +kernel)
set_option maxRecDepth 20000 in
theorem gX1_differ_X1_isRound : GoodIn wsX1_differ (va_wsS RX1 68 yX1_isRound wsX1_isRound) := goodIn_app (goodIn_of _ (by decide +kernel)) ggX1_differ_X1_isRound
set_option maxRecDepth 20000 in
theorem ggX1_differ_X1_in : GoodIn wsX1_differ wsX1_in := goodIn_r _ [8] (by decide +kernel) (by decide +kernel)
set_option maxRecDepth 20000 in
theorem gX1_differ_X1_in : GoodIn wsX1_differ (va_wsS RX1 64 yX1_in wsX1_in) := goodIn_app (goodIn_of _ (by decide +kernel)) ggX1_differ_X1_in
set_option maxRecDepth 20000 in
theorem ggX1_differ_X1_passedOf : GoodIn wsX1_differ wsX1_passedOf := goodIn_r _ [12, 1, 13, 14, 15, 4, 16, 17, 18, 19, 20, 21, 22, 23, 24, 25, 26, 27, 28, 29, 30, 31, 32, 33, 34, 35, 36, 37, 38, 39, 40, 41, 42, 43, 44, 45, 46, 47, 48, 49, 50, 51, 52, 53, 54, 55, 56, 57, 58, 59, 60, 61, 62, 63, 64, 65, 66, 67, 68, 69, 70, 71, 72, 73, 74, 75, 76, 77, 78, 79, 80, 81, 82, 83, 84, 85, 86, 87, 88, 89, 90] (by decide +kernel) (by decide +kernel)
set_option maxRecDepth 20000 in
theorem gX1_differ_X1_passedOf : GoodIn wsX1_differ (wsV RX1 125 RX1 yX1_passedOf wsX1_passedOf) := goodIn_app (goodIn_of _ (by decide +kernel)) ggX1_differ_X1_passedOf
theorem dX1_differ_0 : decode cX1_differ 0 = .ok (.iload_n 1, 1) := by decide +kernel
theorem dX1_differ_1 : decode cX1_differ 1 = .ok (.invokestatic 68, 3) := by decide +kernel
theorem dX1_differ_4 : decode cX1_differ 4 = .ok (.ifCond .ne 6, 3) := by decide +kernel
theorem dX1_differ_7 : decode cX1_differ 7 = .ok (.bipush (-101), 2) := by decide +kernel
theorem dX1_differ_9 : decode cX1_differ 9 = .ok (.ireturn, 1) := by decide +kernel
theorem dX1_differ_10 : decode cX1_differ 10 = .ok (.iload_n 2, 1) := by decide +kernel
theorem dX1_differ_11 : decode cX1_differ 11 = .ok (.iconst 0, 1) := by decide +kernel
theorem dX1_differ_12 : decode cX1_differ 12 = .ok (.iconst 5, 1) := by decide +kernel
theorem dX1_differ_13 : decode cX1_differ 13 = .ok (.invokestatic 64, 3) := by decide +kernel
theorem dX1_differ_16 : decode cX1_differ 16 = .ok (.ifCond .eq 23, 3) := by decide +kernel
theorem dX1_differ_19 : decode cX1_differ 19 = .ok (.iload_n 3, 1) := by decide +kernel
theorem dX1_differ_20 : decode cX1_differ 20 = .ok (.iconst 0, 1) := by decide +kernel
theorem dX1_differ_21 : decode cX1_differ 21 = .ok (.iconst 5, 1) := by decide +kernel
theorem dX1_differ_22 : decode cX1_differ 22 = .ok (.invokestatic 64, 3) := by decide +kernel
theorem dX1_differ_25 : decode cX1_differ 25 = .ok (.ifCond .eq 14, 3) := by decide +kernel
theorem dX1_differ_28 : decode cX1_differ 28 = .ok (.iload 4, 2) := by decide +kernel
theorem dX1_differ_30 : decode cX1_differ 30 = .ok (.iconst 1, 1) := by decide +kernel
theorem dX1_differ_31 : decode cX1_differ 31 = .ok (.bipush 10, 2) := by decide +kernel
theorem dX1_differ_33 : decode cX1_differ 33 = .ok (.invokestatic 64, 3) := by decide +kernel
theorem dX1_differ_36 : decode cX1_differ 36 = .ok (.ifCond .ne 6, 3) := by decide +kernel
theorem dX1_differ_39 : decode cX1_differ 39 = .ok (.bipush (-102), 2) := by decide +kernel
theorem dX1_differ_41 : decode cX1_differ 41 = .ok (.ireturn, 1) := by decide +kernel
theorem dX1_differ_42 : decode cX1_differ 42 = .ok (.aload_n 0, 1) := by decide +kernel
theorem dX1_differ_43 : decode cX1_differ 43 = .ok (.iload_n 1, 1) := by decide +kernel
theorem dX1_differ_44 : decode cX1_differ 44 = .ok (.iload_n 2, 1) := by decide +kernel
theorem dX1_differ_45 : decode cX1_differ 45 = .ok (.iload 4, 2) := by decide +kernel
theorem dX1_differ_47 : decode cX1_differ 47 = .ok (.invokevirtual 125, 3) := by decide +kernel
theorem dX1_differ_50 : decode cX1_differ 50 = .ok (.aload_n 0, 1) := by decide +kernel
theorem dX1_differ_51 : decode cX1_differ 51 = .ok (.iload_n 1, 1) := by decide +kernel
theorem dX1_differ_52 : decode cX1_differ 52 = .ok (.iload_n 3, 1) := by decide +kernel
theorem dX1_differ_53 : decode cX1_differ 53 = .ok (.iload 4, 2) := by decide +kernel
theorem dX1_differ_55 : decode cX1_differ 55 = .ok (.invokevirtual 125, 3) := by decide +kernel
theorem dX1_differ_58 : decode cX1_differ 58 = .ok (.ixor, 1) := by decide +kernel
theorem dX1_differ_59 : decode cX1_differ 59 = .ok (.istore 5, 2) := by decide +kernel
theorem dX1_differ_61 : decode cX1_differ 61 = .ok (.iconst 0, 1) := by decide +kernel
theorem dX1_differ_62 : decode cX1_differ 62 = .ok (.istore 6, 2) := by decide +kernel
theorem dX1_differ_64 : decode cX1_differ 64 = .ok (.iconst 0, 1) := by decide +kernel
theorem dX1_differ_65 : decode cX1_differ 65 = .ok (.istore 7, 2) := by decide +kernel
theorem dX1_differ_67 : decode cX1_differ 67 = .ok (.iload 7, 2) := by decide +kernel
theorem dX1_differ_69 : decode cX1_differ 69 = .ok (.aload_n 0, 1) := by decide +kernel
theorem dX1_differ_70 : decode cX1_differ 70 = .ok (.getfield 7, 3) := by decide +kernel
theorem dX1_differ_73 : decode cX1_differ 73 = .ok (.if_icmp .ge 21, 3) := by decide +kernel
theorem dX1_differ_76 : decode cX1_differ 76 = .ok (.iload 6, 2) := by decide +kernel
theorem dX1_differ_78 : decode cX1_differ 78 = .ok (.iload 5, 2) := by decide +kernel
theorem dX1_differ_80 : decode cX1_differ 80 = .ok (.iload 7, 2) := by decide +kernel
theorem dX1_differ_82 : decode cX1_differ 82 = .ok (.ishr, 1) := by decide +kernel
theorem dX1_differ_83 : decode cX1_differ 83 = .ok (.iconst 1, 1) := by decide +kernel
theorem dX1_differ_84 : decode cX1_differ 84 = .ok (.iand, 1) := by decide +kernel
theorem dX1_differ_85 : decode cX1_differ 85 = .ok (.iadd, 1) := by decide +kernel
theorem dX1_differ_86 : decode cX1_differ 86 = .ok (.istore 6, 2) := by decide +kernel
theorem dX1_differ_88 : decode cX1_differ 88 = .ok (.iinc 7 1, 3) := by decide +kernel
theorem dX1_differ_91 : decode cX1_differ 91 = .ok (.goto (-24), 3) := by decide +kernel
theorem dX1_differ_94 : decode cX1_differ 94 = .ok (.iload 6, 2) := by decide +kernel
theorem dX1_differ_96 : decode cX1_differ 96 = .ok (.ireturn, 1) := by decide +kernel
set_option maxRecDepth 20000 in
theorem ggX1_note_X1_placeOf : GoodIn wsX1_note wsX1_placeOf := goodIn_r _ [9, 10, 11, 12, 13, 8, 14, 15, 16, 17, 18, 19, 20, 21, 22, 23, 24, 25, 26, 27, 28, 29, 30, 31, 32, 33, 34, 35, 36, 37, 38, 39, 40, 41, 42, 43, 44, 45, 46, 47, 48, 49, 50, 51, 52, 53, 54, 55, 56, 57, 62, 63, 64, 65, 66, 67, 68, 69, 70, 71, 72, 73, 74, 75, 76, 77, 78, 79, 80, 81, 82, 83, 84] (by decide +kernel) (by decide +kernel)
set_option maxRecDepth 20000 in
theorem gX1_note_X1_placeOf : GoodIn wsX1_note (wsV RX1 118 RX1 yX1_placeOf wsX1_placeOf) := goodIn_app (goodIn_of _ (by decide +kernel)) ggX1_note_X1_placeOf
set_option maxRecDepth 20000 in
theorem ggX1_note_X1_passes : GoodIn wsX1_note wsX1_passes := goodIn_r _ [61, 45, 46, 47, 8, 48, 24, 26, 27, 28, 29, 30, 25, 5, 6, 7, 9, 10, 11, 12, 13, 14, 15, 16, 17, 18, 19, 20, 21, 22, 23, 31, 32, 33, 34, 35, 36, 37, 38, 39, 40, 41, 42, 43, 44, 49, 50, 51, 52, 53, 54, 55, 56, 57, 62, 63, 64, 65, 66, 67, 68, 69, 70, 71, 72, 73, 74, 75, 76, 77, 78, 79, 80, 81, 82, 83, 84] (by decide +kernel) (by decide +kernel)
set_option maxRecDepth 20000 in
theorem gX1_note_X1_passes : GoodIn wsX1_note (wsV RX1 121 RX1 yX1_passes wsX1_passes) := goodIn_app (goodIn_of _ (by decide +kernel)) ggX1_note_X1_passes
theorem dX1_note_0 : decode cX1_note 0 = .ok (.aload_n 0, 1) := by decide +kernel
theorem dX1_note_1 : decode cX1_note 1 = .ok (.iload_n 1, 1) := by decide +kernel
theorem dX1_note_2 : decode cX1_note 2 = .ok (.iload_n 2, 1) := by decide +kernel
theorem dX1_note_3 : decode cX1_note 3 = .ok (.iload_n 3, 1) := by decide +kernel
theorem dX1_note_4 : decode cX1_note 4 = .ok (.invokevirtual 118, 3) := by decide +kernel
theorem dX1_note_7 : decode cX1_note 7 = .ok (.istore 5, 2) := by decide +kernel
theorem dX1_note_9 : decode cX1_note 9 = .ok (.aload_n 0, 1) := by decide +kernel
theorem dX1_note_10 : decode cX1_note 10 = .ok (.iload 5, 2) := by decide +kernel
theorem dX1_note_12 : decode cX1_note 12 = .ok (.aload_n 0, 1) := by decide +kernel
theorem dX1_note_13 : decode cX1_note 13 = .ok (.getfield 128, 3) := by decide +kernel
theorem dX1_note_16 : decode cX1_note 16 = .ok (.if_icmp .ge 8, 3) := by decide +kernel
theorem dX1_note_19 : decode cX1_note 19 = .ok (.iload 5, 2) := by decide +kernel
theorem dX1_note_21 : decode cX1_note 21 = .ok (.goto 7, 3) := by decide +kernel
theorem dX1_note_24 : decode cX1_note 24 = .ok (.aload_n 0, 1) := by decide +kernel
theorem dX1_note_25 : decode cX1_note 25 = .ok (.getfield 128, 3) := by decide +kernel
theorem dX1_note_28 : decode cX1_note 28 = .ok (.putfield 128, 3) := by decide +kernel
theorem dX1_note_31 : decode cX1_note 31 = .ok (.aload_n 0, 1) := by decide +kernel
theorem dX1_note_32 : decode cX1_note 32 = .ok (.iload 5, 2) := by decide +kernel
theorem dX1_note_34 : decode cX1_note 34 = .ok (.aload_n 0, 1) := by decide +kernel
theorem dX1_note_35 : decode cX1_note 35 = .ok (.getfield 131, 3) := by decide +kernel
theorem dX1_note_38 : decode cX1_note 38 = .ok (.if_icmp .le 8, 3) := by decide +kernel
theorem dX1_note_41 : decode cX1_note 41 = .ok (.iload 5, 2) := by decide +kernel
theorem dX1_note_43 : decode cX1_note 43 = .ok (.goto 7, 3) := by decide +kernel
theorem dX1_note_46 : decode cX1_note 46 = .ok (.aload_n 0, 1) := by decide +kernel
theorem dX1_note_47 : decode cX1_note 47 = .ok (.getfield 131, 3) := by decide +kernel
theorem dX1_note_50 : decode cX1_note 50 = .ok (.putfield 131, 3) := by decide +kernel
theorem dX1_note_53 : decode cX1_note 53 = .ok (.aload_n 0, 1) := by decide +kernel
theorem dX1_note_54 : decode cX1_note 54 = .ok (.iload_n 1, 1) := by decide +kernel
theorem dX1_note_55 : decode cX1_note 55 = .ok (.iload_n 2, 1) := by decide +kernel
theorem dX1_note_56 : decode cX1_note 56 = .ok (.iload_n 3, 1) := by decide +kernel
theorem dX1_note_57 : decode cX1_note 57 = .ok (.iload 4, 2) := by decide +kernel
theorem dX1_note_59 : decode cX1_note 59 = .ok (.invokevirtual 121, 3) := by decide +kernel
theorem dX1_note_62 : decode cX1_note 62 = .ok (.istore 6, 2) := by decide +kernel
theorem dX1_note_64 : decode cX1_note 64 = .ok (.aload_n 0, 1) := by decide +kernel
theorem dX1_note_65 : decode cX1_note 65 = .ok (.aload_n 0, 1) := by decide +kernel
theorem dX1_note_66 : decode cX1_note 66 = .ok (.getfield 134, 3) := by decide +kernel
theorem dX1_note_69 : decode cX1_note 69 = .ok (.ifCond .ne 8, 3) := by decide +kernel
theorem dX1_note_72 : decode cX1_note 72 = .ok (.iload 6, 2) := by decide +kernel
theorem dX1_note_74 : decode cX1_note 74 = .ok (.ifCond .eq 7, 3) := by decide +kernel
theorem dX1_note_77 : decode cX1_note 77 = .ok (.iconst 1, 1) := by decide +kernel
theorem dX1_note_78 : decode cX1_note 78 = .ok (.goto 4, 3) := by decide +kernel
theorem dX1_note_81 : decode cX1_note 81 = .ok (.iconst 0, 1) := by decide +kernel
theorem dX1_note_82 : decode cX1_note 82 = .ok (.putfield 134, 3) := by decide +kernel
theorem dX1_note_85 : decode cX1_note 85 = .ok (.aload_n 0, 1) := by decide +kernel
theorem dX1_note_86 : decode cX1_note 86 = .ok (.aload_n 0, 1) := by decide +kernel
theorem dX1_note_87 : decode cX1_note 87 = .ok (.getfield 137, 3) := by decide +kernel
theorem dX1_note_90 : decode cX1_note 90 = .ok (.ifCond .ne 8, 3) := by decide +kernel
theorem dX1_note_93 : decode cX1_note 93 = .ok (.iload 6, 2) := by decide +kernel
theorem dX1_note_95 : decode cX1_note 95 = .ok (.ifCond .ne 7, 3) := by decide +kernel
theorem dX1_note_98 : decode cX1_note 98 = .ok (.iconst 1, 1) := by decide +kernel
theorem dX1_note_99 : decode cX1_note 99 = .ok (.goto 4, 3) := by decide +kernel
theorem dX1_note_102 : decode cX1_note 102 = .ok (.iconst 0, 1) := by decide +kernel
theorem dX1_note_103 : decode cX1_note 103 = .ok (.putfield 137, 3) := by decide +kernel
theorem dX1_note_106 : decode cX1_note 106 = .ok (.return_, 1) := by decide +kernel
set_option maxRecDepth 20000 in
theorem ggX1_seek_X1_note : GoodIn wsX1_seek wsX1_note := goodIn_r _ [11, 1, 2, 3, 4, 12, 13, 14, 10, 15, 16, 17, 18, 19, 20, 21, 22, 23, 24, 25, 26, 27, 28, 29, 30, 6, 31, 32, 33, 34, 35, 36, 37, 38, 39, 40, 41, 42, 43, 44, 5, 45, 46, 47, 48, 49, 50, 51, 52, 53, 54, 55, 56, 57, 58, 59, 60, 61, 62, 63, 64, 65, 66, 67, 68, 69, 70, 71, 72, 73, 74, 75, 76, 77, 78, 79, 80, 81, 82, 83, 84, 85, 86, 87, 88] (by decide +kernel) (by decide +kernel)
set_option maxRecDepth 20000 in
theorem gX1_seek_X1_note : GoodIn wsX1_seek (wsV RX1 140 RX1 yX1_note wsX1_note) := goodIn_app (goodIn_of _ (by decide +kernel)) ggX1_seek_X1_note
theorem dX1_seek_0 : decode cX1_seek 0 = .ok (.aload_n 0, 1) := by decide +kernel
theorem dX1_seek_1 : decode cX1_seek 1 = .ok (.bipush 11, 2) := by decide +kernel
theorem dX1_seek_3 : decode cX1_seek 3 = .ok (.putfield 128, 3) := by decide +kernel
theorem dX1_seek_6 : decode cX1_seek 6 = .ok (.aload_n 0, 1) := by decide +kernel
theorem dX1_seek_7 : decode cX1_seek 7 = .ok (.iconst 0, 1) := by decide +kernel
theorem dX1_seek_8 : decode cX1_seek 8 = .ok (.putfield 131, 3) := by decide +kernel
theorem dX1_seek_11 : decode cX1_seek 11 = .ok (.aload_n 0, 1) := by decide +kernel
theorem dX1_seek_12 : decode cX1_seek 12 = .ok (.iconst 0, 1) := by decide +kernel
theorem dX1_seek_13 : decode cX1_seek 13 = .ok (.putfield 134, 3) := by decide +kernel
theorem dX1_seek_16 : decode cX1_seek 16 = .ok (.aload_n 0, 1) := by decide +kernel
theorem dX1_seek_17 : decode cX1_seek 17 = .ok (.iconst 0, 1) := by decide +kernel
theorem dX1_seek_18 : decode cX1_seek 18 = .ok (.putfield 137, 3) := by decide +kernel
theorem dX1_seek_21 : decode cX1_seek 21 = .ok (.bipush 70, 2) := by decide +kernel
theorem dX1_seek_23 : decode cX1_seek 23 = .ok (.iload_n 1, 1) := by decide +kernel
theorem dX1_seek_24 : decode cX1_seek 24 = .ok (.imul, 1) := by decide +kernel
theorem dX1_seek_25 : decode cX1_seek 25 = .ok (.bipush 10, 2) := by decide +kernel
theorem dX1_seek_27 : decode cX1_seek 27 = .ok (.iload_n 3, 1) := by decide +kernel
theorem dX1_seek_28 : decode cX1_seek 28 = .ok (.imul, 1) := by decide +kernel
theorem dX1_seek_29 : decode cX1_seek 29 = .ok (.iadd, 1) := by decide +kernel
theorem dX1_seek_30 : decode cX1_seek 30 = .ok (.iload 4, 2) := by decide +kernel
theorem dX1_seek_32 : decode cX1_seek 32 = .ok (.iadd, 1) := by decide +kernel
theorem dX1_seek_33 : decode cX1_seek 33 = .ok (.istore 6, 2) := by decide +kernel
theorem dX1_seek_35 : decode cX1_seek 35 = .ok (.iload_n 2, 1) := by decide +kernel
theorem dX1_seek_36 : decode cX1_seek 36 = .ok (.iconst 3, 1) := by decide +kernel
theorem dX1_seek_37 : decode cX1_seek 37 = .ok (.if_icmp .ne 60, 3) := by decide +kernel
theorem dX1_seek_40 : decode cX1_seek 40 = .ok (.aload_n 0, 1) := by decide +kernel
theorem dX1_seek_41 : decode cX1_seek 41 = .ok (.getfield 20, 3) := by decide +kernel
theorem dX1_seek_44 : decode cX1_seek 44 = .ok (.iload 6, 2) := by decide +kernel
theorem dX1_seek_46 : decode cX1_seek 46 = .ok (.baload, 1) := by decide +kernel
theorem dX1_seek_47 : decode cX1_seek 47 = .ok (.istore 7, 2) := by decide +kernel
theorem dX1_seek_49 : decode cX1_seek 49 = .ok (.aload_n 0, 1) := by decide +kernel
theorem dX1_seek_50 : decode cX1_seek 50 = .ok (.getfield 20, 3) := by decide +kernel
theorem dX1_seek_53 : decode cX1_seek 53 = .ok (.iload 6, 2) := by decide +kernel
theorem dX1_seek_55 : decode cX1_seek 55 = .ok (.iconst 1, 1) := by decide +kernel
theorem dX1_seek_56 : decode cX1_seek 56 = .ok (.bastore, 1) := by decide +kernel
theorem dX1_seek_57 : decode cX1_seek 57 = .ok (.aload_n 0, 1) := by decide +kernel
theorem dX1_seek_58 : decode cX1_seek 58 = .ok (.iload_n 1, 1) := by decide +kernel
theorem dX1_seek_59 : decode cX1_seek 59 = .ok (.iload_n 2, 1) := by decide +kernel
theorem dX1_seek_60 : decode cX1_seek 60 = .ok (.iload 4, 2) := by decide +kernel
theorem dX1_seek_62 : decode cX1_seek 62 = .ok (.iload 5, 2) := by decide +kernel
theorem dX1_seek_64 : decode cX1_seek 64 = .ok (.invokevirtual 140, 3) := by decide +kernel
theorem dX1_seek_67 : decode cX1_seek 67 = .ok (.aload_n 0, 1) := by decide +kernel
theorem dX1_seek_68 : decode cX1_seek 68 = .ok (.getfield 20, 3) := by decide +kernel
theorem dX1_seek_71 : decode cX1_seek 71 = .ok (.iload 6, 2) := by decide +kernel
theorem dX1_seek_73 : decode cX1_seek 73 = .ok (.iconst 0, 1) := by decide +kernel
theorem dX1_seek_74 : decode cX1_seek 74 = .ok (.bastore, 1) := by decide +kernel
theorem dX1_seek_75 : decode cX1_seek 75 = .ok (.aload_n 0, 1) := by decide +kernel
theorem dX1_seek_76 : decode cX1_seek 76 = .ok (.iload_n 1, 1) := by decide +kernel
theorem dX1_seek_77 : decode cX1_seek 77 = .ok (.iload_n 2, 1) := by decide +kernel
theorem dX1_seek_78 : decode cX1_seek 78 = .ok (.iload 4, 2) := by decide +kernel
theorem dX1_seek_80 : decode cX1_seek 80 = .ok (.iload 5, 2) := by decide +kernel
theorem dX1_seek_82 : decode cX1_seek 82 = .ok (.invokevirtual 140, 3) := by decide +kernel
theorem dX1_seek_85 : decode cX1_seek 85 = .ok (.aload_n 0, 1) := by decide +kernel
theorem dX1_seek_86 : decode cX1_seek 86 = .ok (.getfield 20, 3) := by decide +kernel
theorem dX1_seek_89 : decode cX1_seek 89 = .ok (.iload 6, 2) := by decide +kernel
theorem dX1_seek_91 : decode cX1_seek 91 = .ok (.iload 7, 2) := by decide +kernel
theorem dX1_seek_93 : decode cX1_seek 93 = .ok (.bastore, 1) := by decide +kernel
theorem dX1_seek_94 : decode cX1_seek 94 = .ok (.goto 56, 3) := by decide +kernel
theorem dX1_seek_97 : decode cX1_seek 97 = .ok (.aload_n 0, 1) := by decide +kernel
theorem dX1_seek_98 : decode cX1_seek 98 = .ok (.getfield 16, 3) := by decide +kernel
theorem dX1_seek_101 : decode cX1_seek 101 = .ok (.iload 6, 2) := by decide +kernel
theorem dX1_seek_103 : decode cX1_seek 103 = .ok (.iaload, 1) := by decide +kernel
theorem dX1_seek_104 : decode cX1_seek 104 = .ok (.istore 7, 2) := by decide +kernel
theorem dX1_seek_106 : decode cX1_seek 106 = .ok (.iconst 1, 1) := by decide +kernel
theorem dX1_seek_107 : decode cX1_seek 107 = .ok (.istore 8, 2) := by decide +kernel
theorem dX1_seek_109 : decode cX1_seek 109 = .ok (.iload 8, 2) := by decide +kernel
theorem dX1_seek_111 : decode cX1_seek 111 = .ok (.bipush 100, 2) := by decide +kernel
theorem dX1_seek_113 : decode cX1_seek 113 = .ok (.if_icmp .gt 28, 3) := by decide +kernel
theorem dX1_seek_116 : decode cX1_seek 116 = .ok (.aload_n 0, 1) := by decide +kernel
theorem dX1_seek_117 : decode cX1_seek 117 = .ok (.getfield 16, 3) := by decide +kernel
theorem dX1_seek_120 : decode cX1_seek 120 = .ok (.iload 6, 2) := by decide +kernel
theorem dX1_seek_122 : decode cX1_seek 122 = .ok (.iload 8, 2) := by decide +kernel
theorem dX1_seek_124 : decode cX1_seek 124 = .ok (.iastore, 1) := by decide +kernel
theorem dX1_seek_125 : decode cX1_seek 125 = .ok (.aload_n 0, 1) := by decide +kernel
theorem dX1_seek_126 : decode cX1_seek 126 = .ok (.iload_n 1, 1) := by decide +kernel
theorem dX1_seek_127 : decode cX1_seek 127 = .ok (.iload_n 2, 1) := by decide +kernel
theorem dX1_seek_128 : decode cX1_seek 128 = .ok (.iload 4, 2) := by decide +kernel
theorem dX1_seek_130 : decode cX1_seek 130 = .ok (.iload 5, 2) := by decide +kernel
theorem dX1_seek_132 : decode cX1_seek 132 = .ok (.invokevirtual 140, 3) := by decide +kernel
theorem dX1_seek_135 : decode cX1_seek 135 = .ok (.iinc 8 1, 3) := by decide +kernel
theorem dX1_seek_138 : decode cX1_seek 138 = .ok (.goto (-29), 3) := by decide +kernel
theorem dX1_seek_141 : decode cX1_seek 141 = .ok (.aload_n 0, 1) := by decide +kernel
theorem dX1_seek_142 : decode cX1_seek 142 = .ok (.getfield 16, 3) := by decide +kernel
theorem dX1_seek_145 : decode cX1_seek 145 = .ok (.iload 6, 2) := by decide +kernel
theorem dX1_seek_147 : decode cX1_seek 147 = .ok (.iload 7, 2) := by decide +kernel
theorem dX1_seek_149 : decode cX1_seek 149 = .ok (.iastore, 1) := by decide +kernel
theorem dX1_seek_150 : decode cX1_seek 150 = .ok (.return_, 1) := by decide +kernel
set_option maxRecDepth 20000 in
theorem ggX1_reach_X1_isRound : GoodIn wsX1_reach wsX1_isRound := goodIn_r _ [7, 8, 9, 6, 10] (by decide +kernel) (by decide +kernel)
set_option maxRecDepth 20000 in
theorem gX1_reach_X1_isRound : GoodIn wsX1_reach (va_wsS RX1 68 yX1_isRound wsX1_isRound) := goodIn_app (goodIn_of _ (by decide +kernel)) ggX1_reach_X1_isRound
set_option maxRecDepth 20000 in
theorem ggX1_reach_X1_isJuror : GoodIn wsX1_reach wsX1_isJuror := goodIn_r _ [14, 15, 8, 9, 6, 10, 84, 85, 86, 87, 88, 89, 90, 91, 92, 93, 94, 95, 96, 97, 98, 99, 100, 101, 102, 103, 104, 105, 106] (by decide +kernel) (by decide +kernel)
set_option maxRecDepth 20000 in
theorem gX1_reach_X1_isJuror : GoodIn wsX1_reach (wsV RX1 72 RX1 yX1_isJuror wsX1_isJuror) := goodIn_app (goodIn_of _ (by decide +kernel)) ggX1_reach_X1_isJuror
set_option maxRecDepth 20000 in
theorem ggX1_reach_X1_isPlayer : GoodIn wsX1_reach wsX1_isPlayer := goodIn_r _ [19, 20, 8, 9, 6, 10, 84, 85, 86, 87, 88, 89, 90, 91, 92, 93, 94, 95, 96, 97, 98, 99, 100, 101, 102, 103, 104, 105, 106] (by decide +kernel) (by decide +kernel)
set_option maxRecDepth 20000 in
theorem gX1_reach_X1_isPlayer : GoodIn wsX1_reach (wsV RX1 75 RX1 yX1_isPlayer wsX1_isPlayer) := goodIn_app (goodIn_of _ (by decide +kernel)) ggX1_reach_X1_isPlayer
set_option maxRecDepth 20000 in
theorem ggX1_reach_X1_in : GoodIn wsX1_reach wsX1_in := goodIn_r _ [10] (by decide +kernel) (by decide +kernel)
set_option maxRecDepth 20000 in
theorem gX1_reach_X1_in : GoodIn wsX1_reach (va_wsS RX1 64 yX1_in wsX1_in) := goodIn_app (goodIn_of _ (by decide +kernel)) ggX1_reach_X1_in
set_option maxRecDepth 20000 in
theorem ggX1_reach_X1_seek : GoodIn wsX1_reach wsX1_seek := goodIn_r _ [24, 2, 3, 25, 26, 27, 28, 29, 30, 31, 6, 32, 33, 34, 35, 36, 20, 37, 38, 39, 40, 41, 42, 43, 44, 45, 46, 47, 48, 49, 15, 50, 51, 52, 53, 1, 54, 55, 56, 57, 58, 59, 60, 61, 62, 63, 64, 65, 66, 67, 68, 69, 70, 71, 72, 73, 74, 75, 76, 77, 78, 79, 80, 81, 82, 83, 84, 85, 86, 87, 88, 89, 90, 91, 92, 93, 94, 95, 96, 97, 98, 99, 100, 101, 102, 103, 104, 105, 106] (by decide +kernel) (by decide +kernel)
set_option maxRecDepth 20000 in
theorem gX1_reach_X1_seek : GoodIn wsX1_reach (wsV RX1 144 RX1 yX1_seek wsX1_seek) := goodIn_app (goodIn_of _ (by decide +kernel)) ggX1_reach_X1_seek
theorem dX1_reach_0 : decode cX1_reach 0 = .ok (.iload_n 1, 1) := by decide +kernel
theorem dX1_reach_1 : decode cX1_reach 1 = .ok (.invokestatic 68, 3) := by decide +kernel
theorem dX1_reach_4 : decode cX1_reach 4 = .ok (.ifCond .eq 20, 3) := by decide +kernel
theorem dX1_reach_7 : decode cX1_reach 7 = .ok (.aload_n 0, 1) := by decide +kernel
theorem dX1_reach_8 : decode cX1_reach 8 = .ok (.iload_n 3, 1) := by decide +kernel
theorem dX1_reach_9 : decode cX1_reach 9 = .ok (.invokevirtual 72, 3) := by decide +kernel
theorem dX1_reach_12 : decode cX1_reach 12 = .ok (.ifCond .eq 12, 3) := by decide +kernel
theorem dX1_reach_15 : decode cX1_reach 15 = .ok (.aload_n 0, 1) := by decide +kernel
theorem dX1_reach_16 : decode cX1_reach 16 = .ok (.iload 4, 2) := by decide +kernel
theorem dX1_reach_18 : decode cX1_reach 18 = .ok (.invokevirtual 75, 3) := by decide +kernel
theorem dX1_reach_21 : decode cX1_reach 21 = .ok (.ifCond .ne 6, 3) := by decide +kernel
theorem dX1_reach_24 : decode cX1_reach 24 = .ok (.bipush (-101), 2) := by decide +kernel
theorem dX1_reach_26 : decode cX1_reach 26 = .ok (.ireturn, 1) := by decide +kernel
theorem dX1_reach_27 : decode cX1_reach 27 = .ok (.iload_n 2, 1) := by decide +kernel
theorem dX1_reach_28 : decode cX1_reach 28 = .ok (.iconst 0, 1) := by decide +kernel
theorem dX1_reach_29 : decode cX1_reach 29 = .ok (.iconst 5, 1) := by decide +kernel
theorem dX1_reach_30 : decode cX1_reach 30 = .ok (.invokestatic 64, 3) := by decide +kernel
theorem dX1_reach_33 : decode cX1_reach 33 = .ok (.ifCond .eq 13, 3) := by decide +kernel
theorem dX1_reach_36 : decode cX1_reach 36 = .ok (.iload 5, 2) := by decide +kernel
theorem dX1_reach_38 : decode cX1_reach 38 = .ok (.iconst 0, 1) := by decide +kernel
theorem dX1_reach_39 : decode cX1_reach 39 = .ok (.iconst 1, 1) := by decide +kernel
theorem dX1_reach_40 : decode cX1_reach 40 = .ok (.invokestatic 64, 3) := by decide +kernel
theorem dX1_reach_43 : decode cX1_reach 43 = .ok (.ifCond .ne 6, 3) := by decide +kernel
theorem dX1_reach_46 : decode cX1_reach 46 = .ok (.bipush (-102), 2) := by decide +kernel
theorem dX1_reach_48 : decode cX1_reach 48 = .ok (.ireturn, 1) := by decide +kernel
theorem dX1_reach_49 : decode cX1_reach 49 = .ok (.aload_n 0, 1) := by decide +kernel
theorem dX1_reach_50 : decode cX1_reach 50 = .ok (.getfield 24, 3) := by decide +kernel
theorem dX1_reach_53 : decode cX1_reach 53 = .ok (.bipush 10, 2) := by decide +kernel
theorem dX1_reach_55 : decode cX1_reach 55 = .ok (.iload_n 3, 1) := by decide +kernel
theorem dX1_reach_56 : decode cX1_reach 56 = .ok (.imul, 1) := by decide +kernel
theorem dX1_reach_57 : decode cX1_reach 57 = .ok (.iload 4, 2) := by decide +kernel
theorem dX1_reach_59 : decode cX1_reach 59 = .ok (.iadd, 1) := by decide +kernel
theorem dX1_reach_60 : decode cX1_reach 60 = .ok (.baload, 1) := by decide +kernel
theorem dX1_reach_61 : decode cX1_reach 61 = .ok (.ifCond .eq 6, 3) := by decide +kernel
theorem dX1_reach_64 : decode cX1_reach 64 = .ok (.bipush (-103), 2) := by decide +kernel
theorem dX1_reach_66 : decode cX1_reach 66 = .ok (.ireturn, 1) := by decide +kernel
theorem dX1_reach_67 : decode cX1_reach 67 = .ok (.aload_n 0, 1) := by decide +kernel
theorem dX1_reach_68 : decode cX1_reach 68 = .ok (.iload_n 1, 1) := by decide +kernel
theorem dX1_reach_69 : decode cX1_reach 69 = .ok (.iload_n 2, 1) := by decide +kernel
theorem dX1_reach_70 : decode cX1_reach 70 = .ok (.iload_n 3, 1) := by decide +kernel
theorem dX1_reach_71 : decode cX1_reach 71 = .ok (.iload 4, 2) := by decide +kernel
theorem dX1_reach_73 : decode cX1_reach 73 = .ok (.iconst 1, 1) := by decide +kernel
theorem dX1_reach_74 : decode cX1_reach 74 = .ok (.invokevirtual 144, 3) := by decide +kernel
theorem dX1_reach_77 : decode cX1_reach 77 = .ok (.iload 5, 2) := by decide +kernel
theorem dX1_reach_79 : decode cX1_reach 79 = .ok (.ifCond .ne 10, 3) := by decide +kernel
theorem dX1_reach_82 : decode cX1_reach 82 = .ok (.aload_n 0, 1) := by decide +kernel
theorem dX1_reach_83 : decode cX1_reach 83 = .ok (.getfield 128, 3) := by decide +kernel
theorem dX1_reach_86 : decode cX1_reach 86 = .ok (.goto 7, 3) := by decide +kernel
theorem dX1_reach_89 : decode cX1_reach 89 = .ok (.aload_n 0, 1) := by decide +kernel
theorem dX1_reach_90 : decode cX1_reach 90 = .ok (.getfield 131, 3) := by decide +kernel
theorem dX1_reach_93 : decode cX1_reach 93 = .ok (.ireturn, 1) := by decide +kernel
set_option maxRecDepth 20000 in
theorem ggX1_sway_X1_isRound : GoodIn wsX1_sway wsX1_isRound := goodIn_r _ [8, 9, 10, 7, 11] (by decide +kernel) (by decide +kernel)
set_option maxRecDepth 20000 in
theorem gX1_sway_X1_isRound : GoodIn wsX1_sway (va_wsS RX1 68 yX1_isRound wsX1_isRound) := goodIn_app (goodIn_of _ (by decide +kernel)) ggX1_sway_X1_isRound
set_option maxRecDepth 20000 in
theorem ggX1_sway_X1_isJuror : GoodIn wsX1_sway wsX1_isJuror := goodIn_r _ [15, 16, 9, 10, 7, 11, 80, 81, 82, 83, 84, 85, 86, 87, 88, 89, 90, 91, 92, 93, 94, 95, 96, 97, 98, 99, 100, 101, 102] (by decide +kernel) (by decide +kernel)
set_option maxRecDepth 20000 in
theorem gX1_sway_X1_isJuror : GoodIn wsX1_sway (wsV RX1 72 RX1 yX1_isJuror wsX1_isJuror) := goodIn_app (goodIn_of _ (by decide +kernel)) ggX1_sway_X1_isJuror
set_option maxRecDepth 20000 in
theorem ggX1_sway_X1_in : GoodIn wsX1_sway wsX1_in := goodIn_r _ [11] (by decide +kernel) (by decide +kernel)
set_option maxRecDepth 20000 in
theorem gX1_sway_X1_in : GoodIn wsX1_sway (va_wsS RX1 64 yX1_in wsX1_in) := goodIn_app (goodIn_of _ (by decide +kernel)) ggX1_sway_X1_in
set_option maxRecDepth 20000 in
theorem ggX1_sway_X1_passes : GoodIn wsX1_sway wsX1_passes := goodIn_r _ [20, 21, 22, 23, 7, 24, 16, 25, 26, 27, 28, 2, 29, 30, 31, 32, 33, 1, 34, 35, 36, 37, 38, 39, 40, 41, 42, 43, 44, 45, 46, 47, 48, 49, 50, 51, 52, 53, 54, 55, 56, 57, 58, 59, 60, 61, 62, 63, 64, 65, 66, 67, 68, 69, 80, 81, 82, 83, 84, 85, 86, 87, 88, 89, 90, 91, 92, 93, 94, 95, 96, 97, 98, 99, 100, 101, 102] (by decide +kernel) (by decide +kernel)
set_option maxRecDepth 20000 in
theorem gX1_sway_X1_passes : GoodIn wsX1_sway (wsV RX1 121 RX1 yX1_passes wsX1_passes) := goodIn_app (goodIn_of _ (by decide +kernel)) ggX1_sway_X1_passes
set_option maxRecDepth 20000 in
theorem ggX1_sway_X1_seek : GoodIn wsX1_sway wsX1_seek := goodIn_r _ [73, 74, 75, 4, 3, 56, 29, 76, 77, 78, 7, 79, 30, 31, 32, 33, 1, 34, 35, 36, 37, 38, 39, 40, 41, 42, 43, 44, 45, 46, 16, 25, 26, 27, 28, 2, 47, 48, 49, 50, 51, 52, 53, 54, 55, 57, 58, 59, 60, 21, 22, 23, 24, 61, 62, 63, 64, 65, 66, 67, 68, 69, 17, 18, 19, 20, 80, 81, 82, 83, 84, 85, 86, 87, 88, 89, 90, 91, 92, 93, 94, 95, 96, 97, 98, 99, 100, 101, 102] (by decide +kernel) (by decide +kernel)
set_option maxRecDepth 20000 in
theorem gX1_sway_X1_seek : GoodIn wsX1_sway (wsV RX1 144 RX1 yX1_seek wsX1_seek) := goodIn_app (goodIn_of _ (by decide +kernel)) ggX1_sway_X1_seek
theorem dX1_sway_0 : decode cX1_sway 0 = .ok (.iload_n 1, 1) := by decide +kernel
theorem dX1_sway_1 : decode cX1_sway 1 = .ok (.invokestatic 68, 3) := by decide +kernel
theorem dX1_sway_4 : decode cX1_sway 4 = .ok (.ifCond .eq 11, 3) := by decide +kernel
theorem dX1_sway_7 : decode cX1_sway 7 = .ok (.aload_n 0, 1) := by decide +kernel
theorem dX1_sway_8 : decode cX1_sway 8 = .ok (.iload_n 3, 1) := by decide +kernel
theorem dX1_sway_9 : decode cX1_sway 9 = .ok (.invokevirtual 72, 3) := by decide +kernel
theorem dX1_sway_12 : decode cX1_sway 12 = .ok (.ifCond .ne 6, 3) := by decide +kernel
theorem dX1_sway_15 : decode cX1_sway 15 = .ok (.bipush (-101), 2) := by decide +kernel
theorem dX1_sway_17 : decode cX1_sway 17 = .ok (.ireturn, 1) := by decide +kernel
theorem dX1_sway_18 : decode cX1_sway 18 = .ok (.iload_n 2, 1) := by decide +kernel
theorem dX1_sway_19 : decode cX1_sway 19 = .ok (.iconst 0, 1) := by decide +kernel
theorem dX1_sway_20 : decode cX1_sway 20 = .ok (.iconst 5, 1) := by decide +kernel
theorem dX1_sway_21 : decode cX1_sway 21 = .ok (.invokestatic 64, 3) := by decide +kernel
theorem dX1_sway_24 : decode cX1_sway 24 = .ok (.ifCond .eq 14, 3) := by decide +kernel
theorem dX1_sway_27 : decode cX1_sway 27 = .ok (.iload 4, 2) := by decide +kernel
theorem dX1_sway_29 : decode cX1_sway 29 = .ok (.iconst 1, 1) := by decide +kernel
theorem dX1_sway_30 : decode cX1_sway 30 = .ok (.bipush 10, 2) := by decide +kernel
theorem dX1_sway_32 : decode cX1_sway 32 = .ok (.invokestatic 64, 3) := by decide +kernel
theorem dX1_sway_35 : decode cX1_sway 35 = .ok (.ifCond .ne 6, 3) := by decide +kernel
theorem dX1_sway_38 : decode cX1_sway 38 = .ok (.bipush (-102), 2) := by decide +kernel
theorem dX1_sway_40 : decode cX1_sway 40 = .ok (.ireturn, 1) := by decide +kernel
theorem dX1_sway_41 : decode cX1_sway 41 = .ok (.iconst 0, 1) := by decide +kernel
theorem dX1_sway_42 : decode cX1_sway 42 = .ok (.istore 5, 2) := by decide +kernel
theorem dX1_sway_44 : decode cX1_sway 44 = .ok (.iconst 0, 1) := by decide +kernel
theorem dX1_sway_45 : decode cX1_sway 45 = .ok (.istore 6, 2) := by decide +kernel
theorem dX1_sway_47 : decode cX1_sway 47 = .ok (.iload 6, 2) := by decide +kernel
theorem dX1_sway_49 : decode cX1_sway 49 = .ok (.aload_n 0, 1) := by decide +kernel
theorem dX1_sway_50 : decode cX1_sway 50 = .ok (.getfield 7, 3) := by decide +kernel
theorem dX1_sway_53 : decode cX1_sway 53 = .ok (.if_icmp .ge 84, 3) := by decide +kernel
theorem dX1_sway_56 : decode cX1_sway 56 = .ok (.aload_n 0, 1) := by decide +kernel
theorem dX1_sway_57 : decode cX1_sway 57 = .ok (.getfield 24, 3) := by decide +kernel
theorem dX1_sway_60 : decode cX1_sway 60 = .ok (.bipush 10, 2) := by decide +kernel
theorem dX1_sway_62 : decode cX1_sway 62 = .ok (.iload_n 3, 1) := by decide +kernel
theorem dX1_sway_63 : decode cX1_sway 63 = .ok (.imul, 1) := by decide +kernel
theorem dX1_sway_64 : decode cX1_sway 64 = .ok (.iload 6, 2) := by decide +kernel
theorem dX1_sway_66 : decode cX1_sway 66 = .ok (.iadd, 1) := by decide +kernel
theorem dX1_sway_67 : decode cX1_sway 67 = .ok (.baload, 1) := by decide +kernel
theorem dX1_sway_68 : decode cX1_sway 68 = .ok (.ifCond .ne 63, 3) := by decide +kernel
theorem dX1_sway_71 : decode cX1_sway 71 = .ok (.aload_n 0, 1) := by decide +kernel
theorem dX1_sway_72 : decode cX1_sway 72 = .ok (.iload_n 1, 1) := by decide +kernel
theorem dX1_sway_73 : decode cX1_sway 73 = .ok (.iload_n 2, 1) := by decide +kernel
theorem dX1_sway_74 : decode cX1_sway 74 = .ok (.iload 6, 2) := by decide +kernel
theorem dX1_sway_76 : decode cX1_sway 76 = .ok (.iload 4, 2) := by decide +kernel
theorem dX1_sway_78 : decode cX1_sway 78 = .ok (.invokevirtual 121, 3) := by decide +kernel
theorem dX1_sway_81 : decode cX1_sway 81 = .ok (.istore 7, 2) := by decide +kernel
theorem dX1_sway_83 : decode cX1_sway 83 = .ok (.aload_n 0, 1) := by decide +kernel
theorem dX1_sway_84 : decode cX1_sway 84 = .ok (.iload_n 1, 1) := by decide +kernel
theorem dX1_sway_85 : decode cX1_sway 85 = .ok (.iload_n 2, 1) := by decide +kernel
theorem dX1_sway_86 : decode cX1_sway 86 = .ok (.iload_n 3, 1) := by decide +kernel
theorem dX1_sway_87 : decode cX1_sway 87 = .ok (.iload 6, 2) := by decide +kernel
theorem dX1_sway_89 : decode cX1_sway 89 = .ok (.iload 4, 2) := by decide +kernel
theorem dX1_sway_91 : decode cX1_sway 91 = .ok (.invokevirtual 144, 3) := by decide +kernel
theorem dX1_sway_94 : decode cX1_sway 94 = .ok (.iload 5, 2) := by decide +kernel
theorem dX1_sway_96 : decode cX1_sway 96 = .ok (.iload 7, 2) := by decide +kernel
theorem dX1_sway_98 : decode cX1_sway 98 = .ok (.ifCond .eq 18, 3) := by decide +kernel
theorem dX1_sway_101 : decode cX1_sway 101 = .ok (.aload_n 0, 1) := by decide +kernel
theorem dX1_sway_102 : decode cX1_sway 102 = .ok (.getfield 137, 3) := by decide +kernel
theorem dX1_sway_105 : decode cX1_sway 105 = .ok (.ifCond .eq 7, 3) := by decide +kernel
theorem dX1_sway_108 : decode cX1_sway 108 = .ok (.iconst 1, 1) := by decide +kernel
theorem dX1_sway_109 : decode cX1_sway 109 = .ok (.goto 19, 3) := by decide +kernel
theorem dX1_sway_112 : decode cX1_sway 112 = .ok (.iconst 0, 1) := by decide +kernel
theorem dX1_sway_113 : decode cX1_sway 113 = .ok (.goto 15, 3) := by decide +kernel
theorem dX1_sway_116 : decode cX1_sway 116 = .ok (.aload_n 0, 1) := by decide +kernel
theorem dX1_sway_117 : decode cX1_sway 117 = .ok (.getfield 134, 3) := by decide +kernel
theorem dX1_sway_120 : decode cX1_sway 120 = .ok (.ifCond .eq 7, 3) := by decide +kernel
theorem dX1_sway_123 : decode cX1_sway 123 = .ok (.iconst 1, 1) := by decide +kernel
theorem dX1_sway_124 : decode cX1_sway 124 = .ok (.goto 4, 3) := by decide +kernel
theorem dX1_sway_127 : decode cX1_sway 127 = .ok (.iconst 0, 1) := by decide +kernel
theorem dX1_sway_128 : decode cX1_sway 128 = .ok (.iadd, 1) := by decide +kernel
theorem dX1_sway_129 : decode cX1_sway 129 = .ok (.istore 5, 2) := by decide +kernel
theorem dX1_sway_131 : decode cX1_sway 131 = .ok (.iinc 6 1, 3) := by decide +kernel
theorem dX1_sway_134 : decode cX1_sway 134 = .ok (.goto (-87), 3) := by decide +kernel
theorem dX1_sway_137 : decode cX1_sway 137 = .ok (.iload 5, 2) := by decide +kernel
theorem dX1_sway_139 : decode cX1_sway 139 = .ok (.ireturn, 1) := by decide +kernel
set_option maxRecDepth 20000 in
theorem ggX1_weight_X1_isRound : GoodIn wsX1_weight wsX1_isRound := goodIn_r _ [5, 6, 7, 4, 8] (by decide +kernel) (by decide +kernel)
set_option maxRecDepth 20000 in
theorem gX1_weight_X1_isRound : GoodIn wsX1_weight (va_wsS RX1 68 yX1_isRound wsX1_isRound) := goodIn_app (goodIn_of _ (by decide +kernel)) ggX1_weight_X1_isRound
set_option maxRecDepth 20000 in
theorem ggX1_weight_X1_in : GoodIn wsX1_weight wsX1_in := goodIn_r _ [8] (by decide +kernel) (by decide +kernel)
set_option maxRecDepth 20000 in
theorem gX1_weight_X1_in : GoodIn wsX1_weight (va_wsS RX1 64 yX1_in wsX1_in) := goodIn_app (goodIn_of _ (by decide +kernel)) ggX1_weight_X1_in
theorem dX1_weight_0 : decode cX1_weight 0 = .ok (.iload_n 1, 1) := by decide +kernel
theorem dX1_weight_1 : decode cX1_weight 1 = .ok (.invokestatic 68, 3) := by decide +kernel
theorem dX1_weight_4 : decode cX1_weight 4 = .ok (.ifCond .ne 6, 3) := by decide +kernel
theorem dX1_weight_7 : decode cX1_weight 7 = .ok (.bipush (-101), 2) := by decide +kernel
theorem dX1_weight_9 : decode cX1_weight 9 = .ok (.ireturn, 1) := by decide +kernel
theorem dX1_weight_10 : decode cX1_weight 10 = .ok (.iload_n 2, 1) := by decide +kernel
theorem dX1_weight_11 : decode cX1_weight 11 = .ok (.iconst 0, 1) := by decide +kernel
theorem dX1_weight_12 : decode cX1_weight 12 = .ok (.bipush 10, 2) := by decide +kernel
theorem dX1_weight_14 : decode cX1_weight 14 = .ok (.invokestatic 64, 3) := by decide +kernel
theorem dX1_weight_17 : decode cX1_weight 17 = .ok (.ifCond .ne 6, 3) := by decide +kernel
theorem dX1_weight_20 : decode cX1_weight 20 = .ok (.bipush (-102), 2) := by decide +kernel
theorem dX1_weight_22 : decode cX1_weight 22 = .ok (.ireturn, 1) := by decide +kernel
theorem dX1_weight_23 : decode cX1_weight 23 = .ok (.aload_n 0, 1) := by decide +kernel
theorem dX1_weight_24 : decode cX1_weight 24 = .ok (.getfield 33, 3) := by decide +kernel
theorem dX1_weight_27 : decode cX1_weight 27 = .ok (.iload_n 1, 1) := by decide +kernel
theorem dX1_weight_28 : decode cX1_weight 28 = .ok (.iaload, 1) := by decide +kernel
theorem dX1_weight_29 : decode cX1_weight 29 = .ok (.istore_n 3, 1) := by decide +kernel
theorem dX1_weight_30 : decode cX1_weight 30 = .ok (.aload_n 0, 1) := by decide +kernel
theorem dX1_weight_31 : decode cX1_weight 31 = .ok (.getfield 33, 3) := by decide +kernel
theorem dX1_weight_34 : decode cX1_weight 34 = .ok (.iload_n 1, 1) := by decide +kernel
theorem dX1_weight_35 : decode cX1_weight 35 = .ok (.iload_n 2, 1) := by decide +kernel
theorem dX1_weight_36 : decode cX1_weight 36 = .ok (.iastore, 1) := by decide +kernel
theorem dX1_weight_37 : decode cX1_weight 37 = .ok (.iload_n 3, 1) := by decide +kernel
theorem dX1_weight_38 : decode cX1_weight 38 = .ok (.ireturn, 1) := by decide +kernel
set_option maxRecDepth 20000 in
theorem ggX1_totalOf_X1_scoreOf : GoodIn wsX1_totalOf wsX1_scoreOf := goodIn_r _ [6, 7, 8, 9, 10, 11, 12, 13, 14, 5, 15, 16, 17, 18, 19, 20, 21, 22, 23, 24, 25, 26, 27, 28, 29, 30, 31, 32, 33, 34, 35, 36, 37, 38, 39, 40, 41, 42, 43, 44, 45, 46, 47, 48, 49, 50, 51, 52, 53, 54, 55, 56, 57, 58, 59, 60, 61, 62, 63, 64, 65, 66, 67, 68, 69, 70, 71, 72, 73] (by decide +kernel) (by decide +kernel)
set_option maxRecDepth 20000 in
theorem gX1_totalOf_X1_scoreOf : GoodIn wsX1_totalOf (wsV RX1 115 RX1 yX1_scoreOf wsX1_scoreOf) := goodIn_app (goodIn_of _ (by decide +kernel)) ggX1_totalOf_X1_scoreOf
theorem dX1_totalOf_0 : decode cX1_totalOf 0 = .ok (.iconst 0, 1) := by decide +kernel
theorem dX1_totalOf_1 : decode cX1_totalOf 1 = .ok (.istore_n 2, 1) := by decide +kernel
theorem dX1_totalOf_2 : decode cX1_totalOf 2 = .ok (.iconst 0, 1) := by decide +kernel
theorem dX1_totalOf_3 : decode cX1_totalOf 3 = .ok (.istore_n 3, 1) := by decide +kernel
theorem dX1_totalOf_4 : decode cX1_totalOf 4 = .ok (.iload_n 3, 1) := by decide +kernel
theorem dX1_totalOf_5 : decode cX1_totalOf 5 = .ok (.iconst 3, 1) := by decide +kernel
theorem dX1_totalOf_6 : decode cX1_totalOf 6 = .ok (.if_icmp .ge 47, 3) := by decide +kernel
theorem dX1_totalOf_9 : decode cX1_totalOf 9 = .ok (.aload_n 0, 1) := by decide +kernel
theorem dX1_totalOf_10 : decode cX1_totalOf 10 = .ok (.getfield 33, 3) := by decide +kernel
theorem dX1_totalOf_13 : decode cX1_totalOf 13 = .ok (.iload_n 3, 1) := by decide +kernel
theorem dX1_totalOf_14 : decode cX1_totalOf 14 = .ok (.iaload, 1) := by decide +kernel
theorem dX1_totalOf_15 : decode cX1_totalOf 15 = .ok (.ifCond .le 32, 3) := by decide +kernel
theorem dX1_totalOf_18 : decode cX1_totalOf 18 = .ok (.aload_n 0, 1) := by decide +kernel
theorem dX1_totalOf_19 : decode cX1_totalOf 19 = .ok (.iload_n 3, 1) := by decide +kernel
theorem dX1_totalOf_20 : decode cX1_totalOf 20 = .ok (.iconst 0, 1) := by decide +kernel
theorem dX1_totalOf_21 : decode cX1_totalOf 21 = .ok (.iload_n 1, 1) := by decide +kernel
theorem dX1_totalOf_22 : decode cX1_totalOf 22 = .ok (.invokevirtual 115, 3) := by decide +kernel
theorem dX1_totalOf_25 : decode cX1_totalOf 25 = .ok (.istore 4, 2) := by decide +kernel
theorem dX1_totalOf_27 : decode cX1_totalOf 27 = .ok (.iload 4, 2) := by decide +kernel
theorem dX1_totalOf_29 : decode cX1_totalOf 29 = .ok (.iconst (-1), 1) := by decide +kernel
theorem dX1_totalOf_30 : decode cX1_totalOf 30 = .ok (.if_icmp .ne 5, 3) := by decide +kernel
theorem dX1_totalOf_33 : decode cX1_totalOf 33 = .ok (.iconst (-1), 1) := by decide +kernel
theorem dX1_totalOf_34 : decode cX1_totalOf 34 = .ok (.ireturn, 1) := by decide +kernel
theorem dX1_totalOf_35 : decode cX1_totalOf 35 = .ok (.iload_n 2, 1) := by decide +kernel
theorem dX1_totalOf_36 : decode cX1_totalOf 36 = .ok (.aload_n 0, 1) := by decide +kernel
theorem dX1_totalOf_37 : decode cX1_totalOf 37 = .ok (.getfield 33, 3) := by decide +kernel
theorem dX1_totalOf_40 : decode cX1_totalOf 40 = .ok (.iload_n 3, 1) := by decide +kernel
theorem dX1_totalOf_41 : decode cX1_totalOf 41 = .ok (.iaload, 1) := by decide +kernel
theorem dX1_totalOf_42 : decode cX1_totalOf 42 = .ok (.iload 4, 2) := by decide +kernel
theorem dX1_totalOf_44 : decode cX1_totalOf 44 = .ok (.imul, 1) := by decide +kernel
theorem dX1_totalOf_45 : decode cX1_totalOf 45 = .ok (.iadd, 1) := by decide +kernel
theorem dX1_totalOf_46 : decode cX1_totalOf 46 = .ok (.istore_n 2, 1) := by decide +kernel
theorem dX1_totalOf_47 : decode cX1_totalOf 47 = .ok (.iinc 3 1, 3) := by decide +kernel
theorem dX1_totalOf_50 : decode cX1_totalOf 50 = .ok (.goto (-46), 3) := by decide +kernel
theorem dX1_totalOf_53 : decode cX1_totalOf 53 = .ok (.iload_n 2, 1) := by decide +kernel
theorem dX1_totalOf_54 : decode cX1_totalOf 54 = .ok (.ireturn, 1) := by decide +kernel
set_option maxRecDepth 20000 in
theorem ggX1_total_X1_isPlayer : GoodIn wsX1_total wsX1_isPlayer := goodIn_r _ [5, 6, 7, 8, 4, 9, 62, 63, 64, 65, 66, 67, 68, 69, 70, 71, 72, 73, 74, 75, 76, 77, 78, 79, 80, 81, 82, 83, 84] (by decide +kernel) (by decide +kernel)
set_option maxRecDepth 20000 in
theorem gX1_total_X1_isPlayer : GoodIn wsX1_total (wsV RX1 75 RX1 yX1_isPlayer wsX1_isPlayer) := goodIn_app (goodIn_of _ (by decide +kernel)) ggX1_total_X1_isPlayer
set_option maxRecDepth 20000 in
theorem ggX1_total_X1_totalOf : GoodIn wsX1_total wsX1_totalOf := goodIn_r _ [13, 14, 15, 16, 17, 4, 18, 19, 20, 21, 22, 23, 24, 25, 26, 27, 28, 29, 30, 31, 32, 33, 34, 35, 36, 37, 38, 39, 40, 41, 42, 43, 44, 45, 46, 47, 48, 6, 49, 50, 51, 52, 53, 54, 55, 56, 57, 58, 59, 60, 61, 62, 63, 64, 65, 66, 67, 68, 69, 70, 71, 72, 73, 74, 75, 76, 77, 78, 79, 80, 81, 82, 83, 84] (by decide +kernel) (by decide +kernel)
set_option maxRecDepth 20000 in
theorem gX1_total_X1_totalOf : GoodIn wsX1_total (wsV RX1 148 RX1 yX1_totalOf wsX1_totalOf) := goodIn_app (goodIn_of _ (by decide +kernel)) ggX1_total_X1_totalOf
theorem dX1_total_0 : decode cX1_total 0 = .ok (.aload_n 0, 1) := by decide +kernel
theorem dX1_total_1 : decode cX1_total 1 = .ok (.iload_n 1, 1) := by decide +kernel
theorem dX1_total_2 : decode cX1_total 2 = .ok (.invokevirtual 75, 3) := by decide +kernel
theorem dX1_total_5 : decode cX1_total 5 = .ok (.ifCond .eq 11, 3) := by decide +kernel
theorem dX1_total_8 : decode cX1_total 8 = .ok (.aload_n 0, 1) := by decide +kernel
theorem dX1_total_9 : decode cX1_total 9 = .ok (.iload_n 1, 1) := by decide +kernel
theorem dX1_total_10 : decode cX1_total 10 = .ok (.invokevirtual 148, 3) := by decide +kernel
theorem dX1_total_13 : decode cX1_total 13 = .ok (.goto 5, 3) := by decide +kernel
theorem dX1_total_16 : decode cX1_total 16 = .ok (.bipush (-101), 2) := by decide +kernel
theorem dX1_total_18 : decode cX1_total 18 = .ok (.ireturn, 1) := by decide +kernel
set_option maxRecDepth 20000 in
theorem ggX1_lastOf_X1_totalOf : GoodIn wsX1_lastOf wsX1_totalOf := goodIn_r _ [6, 7, 8, 9, 10, 5, 11, 12, 13, 14, 15, 16, 17, 18, 19, 20, 21, 22, 23, 24, 25, 26, 27, 28, 29, 30, 31, 32, 33, 34, 35, 36, 37, 38, 39, 40, 41, 1, 42, 43, 44, 45, 46, 47, 48, 49, 50, 51, 52, 53, 54, 55, 56, 57, 58, 59, 60, 61, 62, 63, 64, 65, 66, 67, 68, 69, 70, 71, 72, 73, 74, 75, 76, 77] (by decide +kernel) (by decide +kernel)
set_option maxRecDepth 20000 in
theorem gX1_lastOf_X1_totalOf : GoodIn wsX1_lastOf (wsV RX1 148 RX1 yX1_totalOf wsX1_totalOf) := goodIn_app (goodIn_of _ (by decide +kernel)) ggX1_lastOf_X1_totalOf
theorem dX1_lastOf_0 : decode cX1_lastOf 0 = .ok (.aload_n 0, 1) := by decide +kernel
theorem dX1_lastOf_1 : decode cX1_lastOf 1 = .ok (.iload_n 1, 1) := by decide +kernel
theorem dX1_lastOf_2 : decode cX1_lastOf 2 = .ok (.invokevirtual 148, 3) := by decide +kernel
theorem dX1_lastOf_5 : decode cX1_lastOf 5 = .ok (.istore_n 2, 1) := by decide +kernel
theorem dX1_lastOf_6 : decode cX1_lastOf 6 = .ok (.iconst 1, 1) := by decide +kernel
theorem dX1_lastOf_7 : decode cX1_lastOf 7 = .ok (.istore_n 3, 1) := by decide +kernel
theorem dX1_lastOf_8 : decode cX1_lastOf 8 = .ok (.iconst 0, 1) := by decide +kernel
theorem dX1_lastOf_9 : decode cX1_lastOf 9 = .ok (.istore 4, 2) := by decide +kernel
theorem dX1_lastOf_11 : decode cX1_lastOf 11 = .ok (.iload 4, 2) := by decide +kernel
theorem dX1_lastOf_13 : decode cX1_lastOf 13 = .ok (.aload_n 0, 1) := by decide +kernel
theorem dX1_lastOf_14 : decode cX1_lastOf 14 = .ok (.getfield 7, 3) := by decide +kernel
theorem dX1_lastOf_17 : decode cX1_lastOf 17 = .ok (.if_icmp .ge 33, 3) := by decide +kernel
theorem dX1_lastOf_20 : decode cX1_lastOf 20 = .ok (.iload_n 3, 1) := by decide +kernel
theorem dX1_lastOf_21 : decode cX1_lastOf 21 = .ok (.iload 4, 2) := by decide +kernel
theorem dX1_lastOf_23 : decode cX1_lastOf 23 = .ok (.iload_n 1, 1) := by decide +kernel
theorem dX1_lastOf_24 : decode cX1_lastOf 24 = .ok (.if_icmp .eq 17, 3) := by decide +kernel
theorem dX1_lastOf_27 : decode cX1_lastOf 27 = .ok (.aload_n 0, 1) := by decide +kernel
theorem dX1_lastOf_28 : decode cX1_lastOf 28 = .ok (.iload 4, 2) := by decide +kernel
theorem dX1_lastOf_30 : decode cX1_lastOf 30 = .ok (.invokevirtual 148, 3) := by decide +kernel
theorem dX1_lastOf_33 : decode cX1_lastOf 33 = .ok (.iload_n 2, 1) := by decide +kernel
theorem dX1_lastOf_34 : decode cX1_lastOf 34 = .ok (.if_icmp .le 7, 3) := by decide +kernel
theorem dX1_lastOf_37 : decode cX1_lastOf 37 = .ok (.iconst 1, 1) := by decide +kernel
theorem dX1_lastOf_38 : decode cX1_lastOf 38 = .ok (.goto 4, 3) := by decide +kernel
theorem dX1_lastOf_41 : decode cX1_lastOf 41 = .ok (.iconst 0, 1) := by decide +kernel
theorem dX1_lastOf_42 : decode cX1_lastOf 42 = .ok (.iadd, 1) := by decide +kernel
theorem dX1_lastOf_43 : decode cX1_lastOf 43 = .ok (.istore_n 3, 1) := by decide +kernel
theorem dX1_lastOf_44 : decode cX1_lastOf 44 = .ok (.iinc 4 1, 3) := by decide +kernel
theorem dX1_lastOf_47 : decode cX1_lastOf 47 = .ok (.goto (-36), 3) := by decide +kernel
theorem dX1_lastOf_50 : decode cX1_lastOf 50 = .ok (.iload_n 3, 1) := by decide +kernel
theorem dX1_lastOf_51 : decode cX1_lastOf 51 = .ok (.ireturn, 1) := by decide +kernel
set_option maxRecDepth 20000 in
theorem ggX1_last_X1_isPlayer : GoodIn wsX1_last wsX1_isPlayer := goodIn_r _ [5, 6, 7, 8, 4, 9, 66, 67, 68, 69, 70, 71, 72, 73, 74, 75, 76, 77, 78, 79, 80, 81, 82, 83, 84, 85, 86, 87, 88] (by decide +kernel) (by decide +kernel)
set_option maxRecDepth 20000 in
theorem gX1_last_X1_isPlayer : GoodIn wsX1_last (wsV RX1 75 RX1 yX1_isPlayer wsX1_isPlayer) := goodIn_app (goodIn_of _ (by decide +kernel)) ggX1_last_X1_isPlayer
set_option maxRecDepth 20000 in
theorem ggX1_last_X1_lastOf : GoodIn wsX1_last wsX1_lastOf := goodIn_r _ [13, 6, 14, 15, 16, 4, 17, 18, 19, 20, 21, 22, 23, 24, 25, 26, 27, 28, 29, 30, 31, 32, 33, 34, 35, 36, 37, 38, 39, 40, 41, 42, 43, 44, 45, 46, 47, 48, 49, 50, 51, 52, 53, 54, 55, 56, 57, 58, 59, 60, 61, 62, 63, 64, 65, 66, 67, 68, 69, 70, 71, 72, 73, 74, 75, 76, 77, 78, 79, 80, 81, 82, 83, 84, 85, 86, 87, 88] (by decide +kernel) (by decide +kernel)
set_option maxRecDepth 20000 in
theorem gX1_last_X1_lastOf : GoodIn wsX1_last (wsV RX1 152 RX1 yX1_lastOf wsX1_lastOf) := goodIn_app (goodIn_of _ (by decide +kernel)) ggX1_last_X1_lastOf
theorem dX1_last_0 : decode cX1_last 0 = .ok (.aload_n 0, 1) := by decide +kernel
theorem dX1_last_1 : decode cX1_last 1 = .ok (.iload_n 1, 1) := by decide +kernel
theorem dX1_last_2 : decode cX1_last 2 = .ok (.invokevirtual 75, 3) := by decide +kernel
theorem dX1_last_5 : decode cX1_last 5 = .ok (.ifCond .eq 11, 3) := by decide +kernel
theorem dX1_last_8 : decode cX1_last 8 = .ok (.aload_n 0, 1) := by decide +kernel
theorem dX1_last_9 : decode cX1_last 9 = .ok (.iload_n 1, 1) := by decide +kernel
theorem dX1_last_10 : decode cX1_last 10 = .ok (.invokevirtual 152, 3) := by decide +kernel
theorem dX1_last_13 : decode cX1_last 13 = .ok (.goto 5, 3) := by decide +kernel
theorem dX1_last_16 : decode cX1_last 16 = .ok (.bipush (-101), 2) := by decide +kernel
theorem dX1_last_18 : decode cX1_last 18 = .ok (.ireturn, 1) := by decide +kernel
set_option maxRecDepth 20000 in
theorem ggX1_prize_X1_in : GoodIn wsX1_prize wsX1_in := goodIn_r _ [6] (by decide +kernel) (by decide +kernel)
set_option maxRecDepth 20000 in
theorem gX1_prize_X1_in : GoodIn wsX1_prize (va_wsS RX1 64 yX1_in wsX1_in) := goodIn_app (goodIn_of _ (by decide +kernel)) ggX1_prize_X1_in
theorem dX1_prize_0 : decode cX1_prize 0 = .ok (.iload_n 1, 1) := by decide +kernel
theorem dX1_prize_1 : decode cX1_prize 1 = .ok (.iconst 0, 1) := by decide +kernel
theorem dX1_prize_2 : decode cX1_prize 2 = .ok (.iconst 5, 1) := by decide +kernel
theorem dX1_prize_3 : decode cX1_prize 3 = .ok (.invokestatic 64, 3) := by decide +kernel
theorem dX1_prize_6 : decode cX1_prize 6 = .ok (.ifCond .ne 6, 3) := by decide +kernel
theorem dX1_prize_9 : decode cX1_prize 9 = .ok (.bipush (-101), 2) := by decide +kernel
theorem dX1_prize_11 : decode cX1_prize 11 = .ok (.ireturn, 1) := by decide +kernel
theorem dX1_prize_12 : decode cX1_prize 12 = .ok (.iload_n 2, 1) := by decide +kernel
theorem dX1_prize_13 : decode cX1_prize 13 = .ok (.iconst 0, 1) := by decide +kernel
theorem dX1_prize_14 : decode cX1_prize 14 = .ok (.ldc 155, 2) := by decide +kernel
theorem dX1_prize_16 : decode cX1_prize 16 = .ok (.invokestatic 64, 3) := by decide +kernel
theorem dX1_prize_19 : decode cX1_prize 19 = .ok (.ifCond .ne 6, 3) := by decide +kernel
theorem dX1_prize_22 : decode cX1_prize 22 = .ok (.bipush (-102), 2) := by decide +kernel
theorem dX1_prize_24 : decode cX1_prize 24 = .ok (.ireturn, 1) := by decide +kernel
theorem dX1_prize_25 : decode cX1_prize 25 = .ok (.aload_n 0, 1) := by decide +kernel
theorem dX1_prize_26 : decode cX1_prize 26 = .ok (.getfield 36, 3) := by decide +kernel
theorem dX1_prize_29 : decode cX1_prize 29 = .ok (.iload_n 1, 1) := by decide +kernel
theorem dX1_prize_30 : decode cX1_prize 30 = .ok (.iaload, 1) := by decide +kernel
theorem dX1_prize_31 : decode cX1_prize 31 = .ok (.istore_n 3, 1) := by decide +kernel
theorem dX1_prize_32 : decode cX1_prize 32 = .ok (.aload_n 0, 1) := by decide +kernel
theorem dX1_prize_33 : decode cX1_prize 33 = .ok (.getfield 36, 3) := by decide +kernel
theorem dX1_prize_36 : decode cX1_prize 36 = .ok (.iload_n 1, 1) := by decide +kernel
theorem dX1_prize_37 : decode cX1_prize 37 = .ok (.iload_n 2, 1) := by decide +kernel
theorem dX1_prize_38 : decode cX1_prize 38 = .ok (.iastore, 1) := by decide +kernel
theorem dX1_prize_39 : decode cX1_prize 39 = .ok (.iload_n 3, 1) := by decide +kernel
theorem dX1_prize_40 : decode cX1_prize 40 = .ok (.ireturn, 1) := by decide +kernel
set_option maxRecDepth 20000 in
theorem ggX1_winsOf_X1_totalOf : GoodIn wsX1_winsOf wsX1_totalOf := goodIn_r _ [7, 8, 9, 10, 11, 6, 12, 13, 14, 15, 16, 17, 18, 19, 20, 21, 22, 23, 24, 25, 26, 27, 28, 29, 30, 31, 32, 33, 34, 35, 36, 37, 38, 39, 40, 41, 42, 1, 43, 44, 45, 46, 47, 48, 49, 50, 51, 52, 53, 54, 55, 60, 61, 62, 63, 64, 65, 66, 67, 68, 69, 70, 71, 72, 73, 74, 75, 76, 77, 78, 79, 80, 81, 82] (by decide +kernel) (by decide +kernel)
set_option maxRecDepth 20000 in
theorem gX1_winsOf_X1_totalOf : GoodIn wsX1_winsOf (wsV RX1 148 RX1 yX1_totalOf wsX1_totalOf) := goodIn_app (goodIn_of _ (by decide +kernel)) ggX1_winsOf_X1_totalOf
set_option maxRecDepth 20000 in
theorem ggX1_winsOf_X1_lastOf : GoodIn wsX1_winsOf wsX1_lastOf := goodIn_r _ [59, 1, 3, 4, 5, 6, 7, 8, 9, 10, 11, 12, 13, 14, 15, 16, 17, 18, 19, 20, 21, 22, 23, 24, 25, 26, 27, 28, 29, 30, 31, 32, 33, 34, 35, 36, 37, 38, 39, 40, 41, 42, 43, 44, 45, 46, 47, 48, 49, 50, 51, 52, 53, 54, 55, 60, 61, 62, 63, 64, 65, 66, 67, 68, 69, 70, 71, 72, 73, 74, 75, 76, 77, 78, 79, 80, 81, 82] (by decide +kernel) (by decide +kernel)
set_option maxRecDepth 20000 in
theorem gX1_winsOf_X1_lastOf : GoodIn wsX1_winsOf (wsV RX1 152 RX1 yX1_lastOf wsX1_lastOf) := goodIn_app (goodIn_of _ (by decide +kernel)) ggX1_winsOf_X1_lastOf
theorem dX1_winsOf_0 : decode cX1_winsOf 0 = .ok (.aload_n 0, 1) := by decide +kernel
theorem dX1_winsOf_1 : decode cX1_winsOf 1 = .ok (.iload_n 1, 1) := by decide +kernel
theorem dX1_winsOf_2 : decode cX1_winsOf 2 = .ok (.invokevirtual 148, 3) := by decide +kernel
theorem dX1_winsOf_5 : decode cX1_winsOf 5 = .ok (.istore_n 2, 1) := by decide +kernel
theorem dX1_winsOf_6 : decode cX1_winsOf 6 = .ok (.iload_n 2, 1) := by decide +kernel
theorem dX1_winsOf_7 : decode cX1_winsOf 7 = .ok (.iconst (-1), 1) := by decide +kernel
theorem dX1_winsOf_8 : decode cX1_winsOf 8 = .ok (.if_icmp .ne 5, 3) := by decide +kernel
theorem dX1_winsOf_11 : decode cX1_winsOf 11 = .ok (.iconst 0, 1) := by decide +kernel
theorem dX1_winsOf_12 : decode cX1_winsOf 12 = .ok (.ireturn, 1) := by decide +kernel
theorem dX1_winsOf_13 : decode cX1_winsOf 13 = .ok (.aload_n 0, 1) := by decide +kernel
theorem dX1_winsOf_14 : decode cX1_winsOf 14 = .ok (.iload_n 1, 1) := by decide +kernel
theorem dX1_winsOf_15 : decode cX1_winsOf 15 = .ok (.invokevirtual 152, 3) := by decide +kernel
theorem dX1_winsOf_18 : decode cX1_winsOf 18 = .ok (.istore_n 3, 1) := by decide +kernel
theorem dX1_winsOf_19 : decode cX1_winsOf 19 = .ok (.iconst 0, 1) := by decide +kernel
theorem dX1_winsOf_20 : decode cX1_winsOf 20 = .ok (.istore 4, 2) := by decide +kernel
theorem dX1_winsOf_22 : decode cX1_winsOf 22 = .ok (.iconst 0, 1) := by decide +kernel
theorem dX1_winsOf_23 : decode cX1_winsOf 23 = .ok (.istore 5, 2) := by decide +kernel
theorem dX1_winsOf_25 : decode cX1_winsOf 25 = .ok (.iconst 0, 1) := by decide +kernel
theorem dX1_winsOf_26 : decode cX1_winsOf 26 = .ok (.istore 6, 2) := by decide +kernel
theorem dX1_winsOf_28 : decode cX1_winsOf 28 = .ok (.iload 6, 2) := by decide +kernel
theorem dX1_winsOf_30 : decode cX1_winsOf 30 = .ok (.aload_n 0, 1) := by decide +kernel
theorem dX1_winsOf_31 : decode cX1_winsOf 31 = .ok (.getfield 7, 3) := by decide +kernel
theorem dX1_winsOf_34 : decode cX1_winsOf 34 = .ok (.if_icmp .ge 53, 3) := by decide +kernel
theorem dX1_winsOf_37 : decode cX1_winsOf 37 = .ok (.aload_n 0, 1) := by decide +kernel
theorem dX1_winsOf_38 : decode cX1_winsOf 38 = .ok (.iload 6, 2) := by decide +kernel
theorem dX1_winsOf_40 : decode cX1_winsOf 40 = .ok (.invokevirtual 148, 3) := by decide +kernel
theorem dX1_winsOf_43 : decode cX1_winsOf 43 = .ok (.iload_n 2, 1) := by decide +kernel
theorem dX1_winsOf_44 : decode cX1_winsOf 44 = .ok (.if_icmp .ne 37, 3) := by decide +kernel
theorem dX1_winsOf_47 : decode cX1_winsOf 47 = .ok (.iload 5, 2) := by decide +kernel
theorem dX1_winsOf_49 : decode cX1_winsOf 49 = .ok (.iload_n 3, 1) := by decide +kernel
theorem dX1_winsOf_50 : decode cX1_winsOf 50 = .ok (.iconst 1, 1) := by decide +kernel
theorem dX1_winsOf_51 : decode cX1_winsOf 51 = .ok (.isub, 1) := by decide +kernel
theorem dX1_winsOf_52 : decode cX1_winsOf 52 = .ok (.iload 4, 2) := by decide +kernel
theorem dX1_winsOf_54 : decode cX1_winsOf 54 = .ok (.iadd, 1) := by decide +kernel
theorem dX1_winsOf_55 : decode cX1_winsOf 55 = .ok (.bipush 6, 2) := by decide +kernel
theorem dX1_winsOf_57 : decode cX1_winsOf 57 = .ok (.if_icmp .ge 17, 3) := by decide +kernel
theorem dX1_winsOf_60 : decode cX1_winsOf 60 = .ok (.aload_n 0, 1) := by decide +kernel
theorem dX1_winsOf_61 : decode cX1_winsOf 61 = .ok (.getfield 36, 3) := by decide +kernel
theorem dX1_winsOf_64 : decode cX1_winsOf 64 = .ok (.iload_n 3, 1) := by decide +kernel
theorem dX1_winsOf_65 : decode cX1_winsOf 65 = .ok (.iconst 1, 1) := by decide +kernel
theorem dX1_winsOf_66 : decode cX1_winsOf 66 = .ok (.isub, 1) := by decide +kernel
theorem dX1_winsOf_67 : decode cX1_winsOf 67 = .ok (.iload 4, 2) := by decide +kernel
theorem dX1_winsOf_69 : decode cX1_winsOf 69 = .ok (.iadd, 1) := by decide +kernel
theorem dX1_winsOf_70 : decode cX1_winsOf 70 = .ok (.iaload, 1) := by decide +kernel
theorem dX1_winsOf_71 : decode cX1_winsOf 71 = .ok (.goto 4, 3) := by decide +kernel
theorem dX1_winsOf_74 : decode cX1_winsOf 74 = .ok (.iconst 0, 1) := by decide +kernel
theorem dX1_winsOf_75 : decode cX1_winsOf 75 = .ok (.iadd, 1) := by decide +kernel
theorem dX1_winsOf_76 : decode cX1_winsOf 76 = .ok (.istore 5, 2) := by decide +kernel
theorem dX1_winsOf_78 : decode cX1_winsOf 78 = .ok (.iinc 4 1, 3) := by decide +kernel
theorem dX1_winsOf_81 : decode cX1_winsOf 81 = .ok (.iinc 6 1, 3) := by decide +kernel
theorem dX1_winsOf_84 : decode cX1_winsOf 84 = .ok (.goto (-56), 3) := by decide +kernel
theorem dX1_winsOf_87 : decode cX1_winsOf 87 = .ok (.iload 5, 2) := by decide +kernel
theorem dX1_winsOf_89 : decode cX1_winsOf 89 = .ok (.iload 4, 2) := by decide +kernel
theorem dX1_winsOf_91 : decode cX1_winsOf 91 = .ok (.idiv, 1) := by decide +kernel
theorem dX1_winsOf_92 : decode cX1_winsOf 92 = .ok (.ireturn, 1) := by decide +kernel
set_option maxRecDepth 20000 in
theorem ggX1_wins_X1_isPlayer : GoodIn wsX1_wins wsX1_isPlayer := goodIn_r _ [5, 6, 7, 8, 4, 9, 71, 72, 73, 74, 75, 76, 77, 78, 79, 80, 81, 82, 83, 84, 85, 86, 87, 88, 89, 90, 91, 92, 93] (by decide +kernel) (by decide +kernel)
set_option maxRecDepth 20000 in
theorem gX1_wins_X1_isPlayer : GoodIn wsX1_wins (wsV RX1 75 RX1 yX1_isPlayer wsX1_isPlayer) := goodIn_app (goodIn_of _ (by decide +kernel)) ggX1_wins_X1_isPlayer
set_option maxRecDepth 20000 in
theorem ggX1_wins_X1_winsOf : GoodIn wsX1_wins wsX1_winsOf := goodIn_r _ [13, 6, 14, 15, 16, 17, 4, 18, 19, 20, 21, 22, 23, 24, 25, 26, 27, 28, 29, 30, 31, 32, 33, 34, 35, 36, 37, 38, 39, 40, 41, 42, 43, 44, 45, 46, 47, 48, 49, 50, 51, 52, 53, 54, 55, 56, 57, 58, 59, 60, 61, 62, 63, 64, 65, 66, 67, 68, 69, 70, 71, 72, 73, 74, 75, 76, 77, 78, 79, 80, 81, 82, 83, 84, 85, 86, 87, 88, 89, 90, 91, 92, 93] (by decide +kernel) (by decide +kernel)
set_option maxRecDepth 20000 in
theorem gX1_wins_X1_winsOf : GoodIn wsX1_wins (wsV RX1 156 RX1 yX1_winsOf wsX1_winsOf) := goodIn_app (goodIn_of _ (by decide +kernel)) ggX1_wins_X1_winsOf
theorem dX1_wins_0 : decode cX1_wins 0 = .ok (.aload_n 0, 1) := by decide +kernel
theorem dX1_wins_1 : decode cX1_wins 1 = .ok (.iload_n 1, 1) := by decide +kernel
theorem dX1_wins_2 : decode cX1_wins 2 = .ok (.invokevirtual 75, 3) := by decide +kernel
theorem dX1_wins_5 : decode cX1_wins 5 = .ok (.ifCond .eq 11, 3) := by decide +kernel
theorem dX1_wins_8 : decode cX1_wins 8 = .ok (.aload_n 0, 1) := by decide +kernel
theorem dX1_wins_9 : decode cX1_wins 9 = .ok (.iload_n 1, 1) := by decide +kernel
theorem dX1_wins_10 : decode cX1_wins 10 = .ok (.invokevirtual 156, 3) := by decide +kernel
theorem dX1_wins_13 : decode cX1_wins 13 = .ok (.goto 5, 3) := by decide +kernel
theorem dX1_wins_16 : decode cX1_wins 16 = .ok (.bipush (-101), 2) := by decide +kernel
theorem dX1_wins_18 : decode cX1_wins 18 = .ok (.ireturn, 1) := by decide +kernel
set_option maxRecDepth 20000 in
theorem ggX1_rest_X1_winsOf : GoodIn wsX1_rest wsX1_winsOf := goodIn_r _ [7, 2, 1, 8, 9, 10, 6, 11, 12, 13, 14, 15, 16, 17, 18, 19, 20, 21, 22, 23, 24, 25, 26, 27, 28, 29, 30, 31, 32, 33, 34, 35, 36, 37, 38, 39, 40, 41, 42, 43, 44, 45, 46, 47, 48, 49, 50, 51, 52, 53, 54, 55, 56, 57, 58, 59, 60, 61, 62, 63, 64, 65, 66, 67, 68, 69, 70, 71, 72, 73, 74, 75, 76, 77, 78, 79, 80, 81, 82, 83, 84, 85, 86] (by decide +kernel) (by decide +kernel)
set_option maxRecDepth 20000 in
theorem gX1_rest_X1_winsOf : GoodIn wsX1_rest (wsV RX1 156 RX1 yX1_winsOf wsX1_winsOf) := goodIn_app (goodIn_of _ (by decide +kernel)) ggX1_rest_X1_winsOf
theorem dX1_rest_0 : decode cX1_rest 0 = .ok (.iconst 0, 1) := by decide +kernel
theorem dX1_rest_1 : decode cX1_rest 1 = .ok (.istore_n 1, 1) := by decide +kernel
theorem dX1_rest_2 : decode cX1_rest 2 = .ok (.iconst 0, 1) := by decide +kernel
theorem dX1_rest_3 : decode cX1_rest 3 = .ok (.istore_n 2, 1) := by decide +kernel
theorem dX1_rest_4 : decode cX1_rest 4 = .ok (.iload_n 2, 1) := by decide +kernel
theorem dX1_rest_5 : decode cX1_rest 5 = .ok (.bipush 6, 2) := by decide +kernel
theorem dX1_rest_7 : decode cX1_rest 7 = .ok (.if_icmp .ge 18, 3) := by decide +kernel
theorem dX1_rest_10 : decode cX1_rest 10 = .ok (.iload_n 1, 1) := by decide +kernel
theorem dX1_rest_11 : decode cX1_rest 11 = .ok (.aload_n 0, 1) := by decide +kernel
theorem dX1_rest_12 : decode cX1_rest 12 = .ok (.getfield 36, 3) := by decide +kernel
theorem dX1_rest_15 : decode cX1_rest 15 = .ok (.iload_n 2, 1) := by decide +kernel
theorem dX1_rest_16 : decode cX1_rest 16 = .ok (.iaload, 1) := by decide +kernel
theorem dX1_rest_17 : decode cX1_rest 17 = .ok (.iadd, 1) := by decide +kernel
theorem dX1_rest_18 : decode cX1_rest 18 = .ok (.istore_n 1, 1) := by decide +kernel
theorem dX1_rest_19 : decode cX1_rest 19 = .ok (.iinc 2 1, 3) := by decide +kernel
theorem dX1_rest_22 : decode cX1_rest 22 = .ok (.goto (-18), 3) := by decide +kernel
theorem dX1_rest_25 : decode cX1_rest 25 = .ok (.iconst 0, 1) := by decide +kernel
theorem dX1_rest_26 : decode cX1_rest 26 = .ok (.istore_n 2, 1) := by decide +kernel
theorem dX1_rest_27 : decode cX1_rest 27 = .ok (.iload_n 2, 1) := by decide +kernel
theorem dX1_rest_28 : decode cX1_rest 28 = .ok (.aload_n 0, 1) := by decide +kernel
theorem dX1_rest_29 : decode cX1_rest 29 = .ok (.getfield 7, 3) := by decide +kernel
theorem dX1_rest_32 : decode cX1_rest 32 = .ok (.if_icmp .ge 17, 3) := by decide +kernel
theorem dX1_rest_35 : decode cX1_rest 35 = .ok (.iload_n 1, 1) := by decide +kernel
theorem dX1_rest_36 : decode cX1_rest 36 = .ok (.aload_n 0, 1) := by decide +kernel
theorem dX1_rest_37 : decode cX1_rest 37 = .ok (.iload_n 2, 1) := by decide +kernel
theorem dX1_rest_38 : decode cX1_rest 38 = .ok (.invokevirtual 156, 3) := by decide +kernel
theorem dX1_rest_41 : decode cX1_rest 41 = .ok (.isub, 1) := by decide +kernel
theorem dX1_rest_42 : decode cX1_rest 42 = .ok (.istore_n 1, 1) := by decide +kernel
theorem dX1_rest_43 : decode cX1_rest 43 = .ok (.iinc 2 1, 3) := by decide +kernel
theorem dX1_rest_46 : decode cX1_rest 46 = .ok (.goto (-19), 3) := by decide +kernel
theorem dX1_rest_49 : decode cX1_rest 49 = .ok (.iload_n 1, 1) := by decide +kernel
theorem dX1_rest_50 : decode cX1_rest 50 = .ok (.ireturn, 1) := by decide +kernel
set_option maxRecDepth 20000 in
theorem ggX1_work_X1_in : GoodIn wsX1_work wsX1_in := goodIn_r _ [5] (by decide +kernel) (by decide +kernel)
set_option maxRecDepth 20000 in
theorem gX1_work_X1_in : GoodIn wsX1_work (va_wsS RX1 64 yX1_in wsX1_in) := goodIn_app (goodIn_of _ (by decide +kernel)) ggX1_work_X1_in
theorem dX1_work_0 : decode cX1_work 0 = .ok (.iload_n 1, 1) := by decide +kernel
theorem dX1_work_1 : decode cX1_work 1 = .ok (.iconst 0, 1) := by decide +kernel
theorem dX1_work_2 : decode cX1_work 2 = .ok (.bipush 11, 2) := by decide +kernel
theorem dX1_work_4 : decode cX1_work 4 = .ok (.invokestatic 64, 3) := by decide +kernel
theorem dX1_work_7 : decode cX1_work 7 = .ok (.ifCond .ne 6, 3) := by decide +kernel
theorem dX1_work_10 : decode cX1_work 10 = .ok (.bipush (-101), 2) := by decide +kernel
theorem dX1_work_12 : decode cX1_work 12 = .ok (.ireturn, 1) := by decide +kernel
theorem dX1_work_13 : decode cX1_work 13 = .ok (.iload_n 2, 1) := by decide +kernel
theorem dX1_work_14 : decode cX1_work 14 = .ok (.iconst 1, 1) := by decide +kernel
theorem dX1_work_15 : decode cX1_work 15 = .ok (.bipush 60, 2) := by decide +kernel
theorem dX1_work_17 : decode cX1_work 17 = .ok (.invokestatic 64, 3) := by decide +kernel
theorem dX1_work_20 : decode cX1_work 20 = .ok (.ifCond .ne 6, 3) := by decide +kernel
theorem dX1_work_23 : decode cX1_work 23 = .ok (.bipush (-102), 2) := by decide +kernel
theorem dX1_work_25 : decode cX1_work 25 = .ok (.ireturn, 1) := by decide +kernel
theorem dX1_work_26 : decode cX1_work 26 = .ok (.aload_n 0, 1) := by decide +kernel
theorem dX1_work_27 : decode cX1_work 27 = .ok (.getfield 39, 3) := by decide +kernel
theorem dX1_work_30 : decode cX1_work 30 = .ok (.iload_n 1, 1) := by decide +kernel
theorem dX1_work_31 : decode cX1_work 31 = .ok (.iaload, 1) := by decide +kernel
theorem dX1_work_32 : decode cX1_work 32 = .ok (.istore_n 3, 1) := by decide +kernel
theorem dX1_work_33 : decode cX1_work 33 = .ok (.aload_n 0, 1) := by decide +kernel
theorem dX1_work_34 : decode cX1_work 34 = .ok (.getfield 39, 3) := by decide +kernel
theorem dX1_work_37 : decode cX1_work 37 = .ok (.iload_n 1, 1) := by decide +kernel
theorem dX1_work_38 : decode cX1_work 38 = .ok (.iload_n 2, 1) := by decide +kernel
theorem dX1_work_39 : decode cX1_work 39 = .ok (.iastore, 1) := by decide +kernel
theorem dX1_work_40 : decode cX1_work 40 = .ok (.iload_n 3, 1) := by decide +kernel
theorem dX1_work_41 : decode cX1_work 41 = .ok (.ireturn, 1) := by decide +kernel
set_option maxRecDepth 20000 in
theorem ggX1_programme_X1_isPlayer : GoodIn wsX1_programme wsX1_isPlayer := goodIn_r _ [7, 8, 9, 10, 6, 11, 12, 13, 14, 15, 16, 17, 18, 19, 20, 21, 22, 23, 24, 25, 26, 27, 28, 29, 30, 31, 32, 33, 34] (by decide +kernel) (by decide +kernel)
set_option maxRecDepth 20000 in
theorem gX1_programme_X1_isPlayer : GoodIn wsX1_programme (wsV RX1 75 RX1 yX1_isPlayer wsX1_isPlayer) := goodIn_app (goodIn_of _ (by decide +kernel)) ggX1_programme_X1_isPlayer
set_option maxRecDepth 20000 in
theorem ggX1_programme_X1_in : GoodIn wsX1_programme wsX1_in := goodIn_r _ [11] (by decide +kernel) (by decide +kernel)
set_option maxRecDepth 20000 in
theorem gX1_programme_X1_in : GoodIn wsX1_programme (va_wsS RX1 64 yX1_in wsX1_in) := goodIn_app (goodIn_of _ (by decide +kernel)) ggX1_programme_X1_in
theorem dX1_programme_0 : decode cX1_programme 0 = .ok (.aload_n 0, 1) := by decide +kernel
theorem dX1_programme_1 : decode cX1_programme 1 = .ok (.iload_n 1, 1) := by decide +kernel
theorem dX1_programme_2 : decode cX1_programme 2 = .ok (.invokevirtual 75, 3) := by decide +kernel
theorem dX1_programme_5 : decode cX1_programme 5 = .ok (.ifCond .ne 6, 3) := by decide +kernel
theorem dX1_programme_8 : decode cX1_programme 8 = .ok (.bipush (-101), 2) := by decide +kernel
theorem dX1_programme_10 : decode cX1_programme 10 = .ok (.ireturn, 1) := by decide +kernel
theorem dX1_programme_11 : decode cX1_programme 11 = .ok (.iload_n 2, 1) := by decide +kernel
theorem dX1_programme_12 : decode cX1_programme 12 = .ok (.iconst 1, 1) := by decide +kernel
theorem dX1_programme_13 : decode cX1_programme 13 = .ok (.sipush 4095, 3) := by decide +kernel
theorem dX1_programme_16 : decode cX1_programme 16 = .ok (.invokestatic 64, 3) := by decide +kernel
theorem dX1_programme_19 : decode cX1_programme 19 = .ok (.ifCond .ne 6, 3) := by decide +kernel
theorem dX1_programme_22 : decode cX1_programme 22 = .ok (.bipush (-102), 2) := by decide +kernel
theorem dX1_programme_24 : decode cX1_programme 24 = .ok (.ireturn, 1) := by decide +kernel
theorem dX1_programme_25 : decode cX1_programme 25 = .ok (.aload_n 0, 1) := by decide +kernel
theorem dX1_programme_26 : decode cX1_programme 26 = .ok (.getfield 42, 3) := by decide +kernel
theorem dX1_programme_29 : decode cX1_programme 29 = .ok (.iload_n 1, 1) := by decide +kernel
theorem dX1_programme_30 : decode cX1_programme 30 = .ok (.iaload, 1) := by decide +kernel
theorem dX1_programme_31 : decode cX1_programme 31 = .ok (.iconst 3, 1) := by decide +kernel
theorem dX1_programme_32 : decode cX1_programme 32 = .ok (.if_icmp .ne 6, 3) := by decide +kernel
theorem dX1_programme_35 : decode cX1_programme 35 = .ok (.bipush (-104), 2) := by decide +kernel
theorem dX1_programme_37 : decode cX1_programme 37 = .ok (.ireturn, 1) := by decide +kernel
theorem dX1_programme_38 : decode cX1_programme 38 = .ok (.aload_n 0, 1) := by decide +kernel
theorem dX1_programme_39 : decode cX1_programme 39 = .ok (.getfield 45, 3) := by decide +kernel
theorem dX1_programme_42 : decode cX1_programme 42 = .ok (.iconst 3, 1) := by decide +kernel
theorem dX1_programme_43 : decode cX1_programme 43 = .ok (.iload_n 1, 1) := by decide +kernel
theorem dX1_programme_44 : decode cX1_programme 44 = .ok (.imul, 1) := by decide +kernel
theorem dX1_programme_45 : decode cX1_programme 45 = .ok (.aload_n 0, 1) := by decide +kernel
theorem dX1_programme_46 : decode cX1_programme 46 = .ok (.getfield 42, 3) := by decide +kernel
theorem dX1_programme_49 : decode cX1_programme 49 = .ok (.iload_n 1, 1) := by decide +kernel
theorem dX1_programme_50 : decode cX1_programme 50 = .ok (.iaload, 1) := by decide +kernel
theorem dX1_programme_51 : decode cX1_programme 51 = .ok (.iadd, 1) := by decide +kernel
theorem dX1_programme_52 : decode cX1_programme 52 = .ok (.iload_n 2, 1) := by decide +kernel
theorem dX1_programme_53 : decode cX1_programme 53 = .ok (.iastore, 1) := by decide +kernel
theorem dX1_programme_54 : decode cX1_programme 54 = .ok (.aload_n 0, 1) := by decide +kernel
theorem dX1_programme_55 : decode cX1_programme 55 = .ok (.getfield 42, 3) := by decide +kernel
theorem dX1_programme_58 : decode cX1_programme 58 = .ok (.iload_n 1, 1) := by decide +kernel
theorem dX1_programme_59 : decode cX1_programme 59 = .ok (.dup2, 1) := by decide +kernel
theorem dX1_programme_60 : decode cX1_programme 60 = .ok (.iaload, 1) := by decide +kernel
theorem dX1_programme_61 : decode cX1_programme 61 = .ok (.iconst 1, 1) := by decide +kernel
theorem dX1_programme_62 : decode cX1_programme 62 = .ok (.iadd, 1) := by decide +kernel
theorem dX1_programme_63 : decode cX1_programme 63 = .ok (.iastore, 1) := by decide +kernel
theorem dX1_programme_64 : decode cX1_programme 64 = .ok (.aload_n 0, 1) := by decide +kernel
theorem dX1_programme_65 : decode cX1_programme 65 = .ok (.getfield 42, 3) := by decide +kernel
theorem dX1_programme_68 : decode cX1_programme 68 = .ok (.iload_n 1, 1) := by decide +kernel
theorem dX1_programme_69 : decode cX1_programme 69 = .ok (.iaload, 1) := by decide +kernel
theorem dX1_programme_70 : decode cX1_programme 70 = .ok (.ireturn, 1) := by decide +kernel
theorem dX1_hear_0 : decode cX1_hear 0 = .ok (.iconst 0, 1) := by decide +kernel
theorem dX1_hear_1 : decode cX1_hear 1 = .ok (.istore_n 3, 1) := by decide +kernel
theorem dX1_hear_2 : decode cX1_hear 2 = .ok (.iload_n 3, 1) := by decide +kernel
theorem dX1_hear_3 : decode cX1_hear 3 = .ok (.bipush 12, 2) := by decide +kernel
theorem dX1_hear_5 : decode cX1_hear 5 = .ok (.if_icmp .ge 25, 3) := by decide +kernel
theorem dX1_hear_8 : decode cX1_hear 8 = .ok (.aload_n 0, 1) := by decide +kernel
theorem dX1_hear_9 : decode cX1_hear 9 = .ok (.getfield 54, 3) := by decide +kernel
theorem dX1_hear_12 : decode cX1_hear 12 = .ok (.iload_n 3, 1) := by decide +kernel
theorem dX1_hear_13 : decode cX1_hear 13 = .ok (.dup2, 1) := by decide +kernel
theorem dX1_hear_14 : decode cX1_hear 14 = .ok (.iaload, 1) := by decide +kernel
theorem dX1_hear_15 : decode cX1_hear 15 = .ok (.iload_n 1, 1) := by decide +kernel
theorem dX1_hear_16 : decode cX1_hear 16 = .ok (.iload_n 3, 1) := by decide +kernel
theorem dX1_hear_17 : decode cX1_hear 17 = .ok (.ishr, 1) := by decide +kernel
theorem dX1_hear_18 : decode cX1_hear 18 = .ok (.iconst 1, 1) := by decide +kernel
theorem dX1_hear_19 : decode cX1_hear 19 = .ok (.iand, 1) := by decide +kernel
theorem dX1_hear_20 : decode cX1_hear 20 = .ok (.iload_n 2, 1) := by decide +kernel
theorem dX1_hear_21 : decode cX1_hear 21 = .ok (.imul, 1) := by decide +kernel
theorem dX1_hear_22 : decode cX1_hear 22 = .ok (.iadd, 1) := by decide +kernel
theorem dX1_hear_23 : decode cX1_hear 23 = .ok (.iastore, 1) := by decide +kernel
theorem dX1_hear_24 : decode cX1_hear 24 = .ok (.iinc 3 1, 3) := by decide +kernel
theorem dX1_hear_27 : decode cX1_hear 27 = .ok (.goto (-25), 3) := by decide +kernel
theorem dX1_hear_30 : decode cX1_hear 30 = .ok (.return_, 1) := by decide +kernel
set_option maxRecDepth 20000 in
theorem ggX1_mayBe_X1_in : GoodIn wsX1_mayBe wsX1_in := goodIn_r _ [6] (by decide +kernel) (by decide +kernel)
set_option maxRecDepth 20000 in
theorem gX1_mayBe_X1_in : GoodIn wsX1_mayBe (va_wsS RX1 64 yX1_in wsX1_in) := goodIn_app (goodIn_of _ (by decide +kernel)) ggX1_mayBe_X1_in
theorem dX1_mayBe_0 : decode cX1_mayBe 0 = .ok (.iconst 0, 1) := by decide +kernel
theorem dX1_mayBe_1 : decode cX1_mayBe 1 = .ok (.istore 5, 2) := by decide +kernel
theorem dX1_mayBe_3 : decode cX1_mayBe 3 = .ok (.iconst 1, 1) := by decide +kernel
theorem dX1_mayBe_4 : decode cX1_mayBe 4 = .ok (.istore 6, 2) := by decide +kernel
theorem dX1_mayBe_6 : decode cX1_mayBe 6 = .ok (.iconst 0, 1) := by decide +kernel
theorem dX1_mayBe_7 : decode cX1_mayBe 7 = .ok (.istore 7, 2) := by decide +kernel
theorem dX1_mayBe_9 : decode cX1_mayBe 9 = .ok (.iload 7, 2) := by decide +kernel
theorem dX1_mayBe_11 : decode cX1_mayBe 11 = .ok (.bipush 12, 2) := by decide +kernel
theorem dX1_mayBe_13 : decode cX1_mayBe 13 = .ok (.if_icmp .ge 55, 3) := by decide +kernel
theorem dX1_mayBe_16 : decode cX1_mayBe 16 = .ok (.iload_n 1, 1) := by decide +kernel
theorem dX1_mayBe_17 : decode cX1_mayBe 17 = .ok (.iload 7, 2) := by decide +kernel
theorem dX1_mayBe_19 : decode cX1_mayBe 19 = .ok (.ishr, 1) := by decide +kernel
theorem dX1_mayBe_20 : decode cX1_mayBe 20 = .ok (.iconst 1, 1) := by decide +kernel
theorem dX1_mayBe_21 : decode cX1_mayBe 21 = .ok (.iand, 1) := by decide +kernel
theorem dX1_mayBe_22 : decode cX1_mayBe 22 = .ok (.iconst 1, 1) := by decide +kernel
theorem dX1_mayBe_23 : decode cX1_mayBe 23 = .ok (.if_icmp .ne 39, 3) := by decide +kernel
theorem dX1_mayBe_26 : decode cX1_mayBe 26 = .ok (.iload 5, 2) := by decide +kernel
theorem dX1_mayBe_28 : decode cX1_mayBe 28 = .ok (.aload_n 0, 1) := by decide +kernel
theorem dX1_mayBe_29 : decode cX1_mayBe 29 = .ok (.getfield 39, 3) := by decide +kernel
theorem dX1_mayBe_32 : decode cX1_mayBe 32 = .ok (.iload 7, 2) := by decide +kernel
theorem dX1_mayBe_34 : decode cX1_mayBe 34 = .ok (.iaload, 1) := by decide +kernel
theorem dX1_mayBe_35 : decode cX1_mayBe 35 = .ok (.iadd, 1) := by decide +kernel
theorem dX1_mayBe_36 : decode cX1_mayBe 36 = .ok (.istore 5, 2) := by decide +kernel
theorem dX1_mayBe_38 : decode cX1_mayBe 38 = .ok (.iload 6, 2) := by decide +kernel
theorem dX1_mayBe_40 : decode cX1_mayBe 40 = .ok (.ifCond .eq 19, 3) := by decide +kernel
theorem dX1_mayBe_43 : decode cX1_mayBe 43 = .ok (.aload_n 0, 1) := by decide +kernel
theorem dX1_mayBe_44 : decode cX1_mayBe 44 = .ok (.getfield 54, 3) := by decide +kernel
theorem dX1_mayBe_47 : decode cX1_mayBe 47 = .ok (.iload 7, 2) := by decide +kernel
theorem dX1_mayBe_49 : decode cX1_mayBe 49 = .ok (.iaload, 1) := by decide +kernel
theorem dX1_mayBe_50 : decode cX1_mayBe 50 = .ok (.iload 4, 2) := by decide +kernel
theorem dX1_mayBe_52 : decode cX1_mayBe 52 = .ok (.if_icmp .ge 7, 3) := by decide +kernel
theorem dX1_mayBe_55 : decode cX1_mayBe 55 = .ok (.iconst 1, 1) := by decide +kernel
theorem dX1_mayBe_56 : decode cX1_mayBe 56 = .ok (.goto 4, 3) := by decide +kernel
theorem dX1_mayBe_59 : decode cX1_mayBe 59 = .ok (.iconst 0, 1) := by decide +kernel
theorem dX1_mayBe_60 : decode cX1_mayBe 60 = .ok (.istore 6, 2) := by decide +kernel
theorem dX1_mayBe_62 : decode cX1_mayBe 62 = .ok (.iinc 7 1, 3) := by decide +kernel
theorem dX1_mayBe_65 : decode cX1_mayBe 65 = .ok (.goto (-56), 3) := by decide +kernel
theorem dX1_mayBe_68 : decode cX1_mayBe 68 = .ok (.iload 6, 2) := by decide +kernel
theorem dX1_mayBe_70 : decode cX1_mayBe 70 = .ok (.ifCond .eq 17, 3) := by decide +kernel
theorem dX1_mayBe_73 : decode cX1_mayBe 73 = .ok (.iload 5, 2) := by decide +kernel
theorem dX1_mayBe_75 : decode cX1_mayBe 75 = .ok (.iload_n 2, 1) := by decide +kernel
theorem dX1_mayBe_76 : decode cX1_mayBe 76 = .ok (.iload_n 3, 1) := by decide +kernel
theorem dX1_mayBe_77 : decode cX1_mayBe 77 = .ok (.invokestatic 64, 3) := by decide +kernel
theorem dX1_mayBe_80 : decode cX1_mayBe 80 = .ok (.ifCond .eq 7, 3) := by decide +kernel
theorem dX1_mayBe_83 : decode cX1_mayBe 83 = .ok (.iconst 1, 1) := by decide +kernel
theorem dX1_mayBe_84 : decode cX1_mayBe 84 = .ok (.goto 4, 3) := by decide +kernel
theorem dX1_mayBe_87 : decode cX1_mayBe 87 = .ok (.iconst 0, 1) := by decide +kernel
theorem dX1_mayBe_88 : decode cX1_mayBe 88 = .ok (.ireturn, 1) := by decide +kernel
set_option maxRecDepth 20000 in
theorem ggX1_plan_X1_in : GoodIn wsX1_plan wsX1_in := goodIn_r _ [10] (by decide +kernel) (by decide +kernel)
set_option maxRecDepth 20000 in
theorem gX1_plan_X1_in : GoodIn wsX1_plan (va_wsS RX1 64 yX1_in wsX1_in) := goodIn_app (goodIn_of _ (by decide +kernel)) ggX1_plan_X1_in
set_option maxRecDepth 20000 in
theorem ggX1_plan_X1_hear : GoodIn wsX1_plan wsX1_hear := goodIn_r _ [14, 1, 20, 21, 22, 23, 24, 25, 26, 27, 28, 29, 30, 31, 32, 33, 34, 35, 36, 37, 38, 39, 40, 41, 42] (by decide +kernel) (by decide +kernel)
set_option maxRecDepth 20000 in
theorem gX1_plan_X1_hear : GoodIn wsX1_plan (wsV RX1 159 RX1 yX1_hear wsX1_hear) := goodIn_app (goodIn_of _ (by decide +kernel)) ggX1_plan_X1_hear
set_option maxRecDepth 20000 in
theorem ggX1_plan_X1_mayBe : GoodIn wsX1_plan wsX1_mayBe := goodIn_r _ [18, 19, 1, 7, 8, 9, 10, 20, 21, 22, 23, 24, 25, 26, 27, 28, 29, 30, 31, 32, 33, 34, 35, 36, 37, 38, 39, 40, 41, 42] (by decide +kernel) (by decide +kernel)
set_option maxRecDepth 20000 in
theorem gX1_plan_X1_mayBe : GoodIn wsX1_plan (wsV RX1 162 RX1 yX1_mayBe wsX1_mayBe) := goodIn_app (goodIn_of _ (by decide +kernel)) ggX1_plan_X1_mayBe
theorem dX1_plan_0 : decode cX1_plan 0 = .ok (.iload_n 1, 1) := by decide +kernel
theorem dX1_plan_1 : decode cX1_plan 1 = .ok (.iconst 0, 1) := by decide +kernel
theorem dX1_plan_2 : decode cX1_plan 2 = .ok (.sipush 720, 3) := by decide +kernel
theorem dX1_plan_5 : decode cX1_plan 5 = .ok (.invokestatic 64, 3) := by decide +kernel
theorem dX1_plan_8 : decode cX1_plan 8 = .ok (.ifCond .eq 23, 3) := by decide +kernel
theorem dX1_plan_11 : decode cX1_plan 11 = .ok (.iload_n 2, 1) := by decide +kernel
theorem dX1_plan_12 : decode cX1_plan 12 = .ok (.iload_n 1, 1) := by decide +kernel
theorem dX1_plan_13 : decode cX1_plan 13 = .ok (.sipush 720, 3) := by decide +kernel
theorem dX1_plan_16 : decode cX1_plan 16 = .ok (.invokestatic 64, 3) := by decide +kernel
theorem dX1_plan_19 : decode cX1_plan 19 = .ok (.ifCond .eq 12, 3) := by decide +kernel
theorem dX1_plan_22 : decode cX1_plan 22 = .ok (.iload_n 3, 1) := by decide +kernel
theorem dX1_plan_23 : decode cX1_plan 23 = .ok (.iconst 1, 1) := by decide +kernel
theorem dX1_plan_24 : decode cX1_plan 24 = .ok (.iconst 3, 1) := by decide +kernel
theorem dX1_plan_25 : decode cX1_plan 25 = .ok (.invokestatic 64, 3) := by decide +kernel
theorem dX1_plan_28 : decode cX1_plan 28 = .ok (.ifCond .ne 6, 3) := by decide +kernel
theorem dX1_plan_31 : decode cX1_plan 31 = .ok (.bipush (-102), 2) := by decide +kernel
theorem dX1_plan_33 : decode cX1_plan 33 = .ok (.ireturn, 1) := by decide +kernel
theorem dX1_plan_34 : decode cX1_plan 34 = .ok (.iconst 0, 1) := by decide +kernel
theorem dX1_plan_35 : decode cX1_plan 35 = .ok (.istore 4, 2) := by decide +kernel
theorem dX1_plan_37 : decode cX1_plan 37 = .ok (.iload 4, 2) := by decide +kernel
theorem dX1_plan_39 : decode cX1_plan 39 = .ok (.bipush 12, 2) := by decide +kernel
theorem dX1_plan_41 : decode cX1_plan 41 = .ok (.if_icmp .ge 17, 3) := by decide +kernel
theorem dX1_plan_44 : decode cX1_plan 44 = .ok (.aload_n 0, 1) := by decide +kernel
theorem dX1_plan_45 : decode cX1_plan 45 = .ok (.getfield 54, 3) := by decide +kernel
theorem dX1_plan_48 : decode cX1_plan 48 = .ok (.iload 4, 2) := by decide +kernel
theorem dX1_plan_50 : decode cX1_plan 50 = .ok (.iconst 0, 1) := by decide +kernel
theorem dX1_plan_51 : decode cX1_plan 51 = .ok (.iastore, 1) := by decide +kernel
theorem dX1_plan_52 : decode cX1_plan 52 = .ok (.iinc 4 1, 3) := by decide +kernel
theorem dX1_plan_55 : decode cX1_plan 55 = .ok (.goto (-18), 3) := by decide +kernel
theorem dX1_plan_58 : decode cX1_plan 58 = .ok (.iconst 0, 1) := by decide +kernel
theorem dX1_plan_59 : decode cX1_plan 59 = .ok (.istore 4, 2) := by decide +kernel
theorem dX1_plan_61 : decode cX1_plan 61 = .ok (.aload_n 0, 1) := by decide +kernel
theorem dX1_plan_62 : decode cX1_plan 62 = .ok (.getfield 48, 3) := by decide +kernel
theorem dX1_plan_65 : decode cX1_plan 65 = .ok (.iconst 0, 1) := by decide +kernel
theorem dX1_plan_66 : decode cX1_plan 66 = .ok (.iconst (-1), 1) := by decide +kernel
theorem dX1_plan_67 : decode cX1_plan 67 = .ok (.iastore, 1) := by decide +kernel
theorem dX1_plan_68 : decode cX1_plan 68 = .ok (.iload 4, 2) := by decide +kernel
theorem dX1_plan_70 : decode cX1_plan 70 = .ok (.ifCond .lt 182, 3) := by decide +kernel
theorem dX1_plan_73 : decode cX1_plan 73 = .ok (.iload 4, 2) := by decide +kernel
theorem dX1_plan_75 : decode cX1_plan 75 = .ok (.aload_n 0, 1) := by decide +kernel
theorem dX1_plan_76 : decode cX1_plan 76 = .ok (.getfield 7, 3) := by decide +kernel
theorem dX1_plan_79 : decode cX1_plan 79 = .ok (.if_icmp .ge 173, 3) := by decide +kernel
theorem dX1_plan_82 : decode cX1_plan 82 = .ok (.aload_n 0, 1) := by decide +kernel
theorem dX1_plan_83 : decode cX1_plan 83 = .ok (.getfield 48, 3) := by decide +kernel
theorem dX1_plan_86 : decode cX1_plan 86 = .ok (.iload 4, 2) := by decide +kernel
theorem dX1_plan_88 : decode cX1_plan 88 = .ok (.iaload, 1) := by decide +kernel
theorem dX1_plan_89 : decode cX1_plan 89 = .ok (.iconst (-1), 1) := by decide +kernel
theorem dX1_plan_90 : decode cX1_plan 90 = .ok (.if_icmp .eq 25, 3) := by decide +kernel
theorem dX1_plan_93 : decode cX1_plan 93 = .ok (.aload_n 0, 1) := by decide +kernel
theorem dX1_plan_94 : decode cX1_plan 94 = .ok (.aload_n 0, 1) := by decide +kernel
theorem dX1_plan_95 : decode cX1_plan 95 = .ok (.getfield 45, 3) := by decide +kernel
theorem dX1_plan_98 : decode cX1_plan 98 = .ok (.iconst 3, 1) := by decide +kernel
theorem dX1_plan_99 : decode cX1_plan 99 = .ok (.iload 4, 2) := by decide +kernel
theorem dX1_plan_101 : decode cX1_plan 101 = .ok (.imul, 1) := by decide +kernel
theorem dX1_plan_102 : decode cX1_plan 102 = .ok (.aload_n 0, 1) := by decide +kernel
theorem dX1_plan_103 : decode cX1_plan 103 = .ok (.getfield 48, 3) := by decide +kernel
theorem dX1_plan_106 : decode cX1_plan 106 = .ok (.iload 4, 2) := by decide +kernel
theorem dX1_plan_108 : decode cX1_plan 108 = .ok (.iaload, 1) := by decide +kernel
theorem dX1_plan_109 : decode cX1_plan 109 = .ok (.iadd, 1) := by decide +kernel
theorem dX1_plan_110 : decode cX1_plan 110 = .ok (.iaload, 1) := by decide +kernel
theorem dX1_plan_111 : decode cX1_plan 111 = .ok (.iconst (-1), 1) := by decide +kernel
theorem dX1_plan_112 : decode cX1_plan 112 = .ok (.invokevirtual 159, 3) := by decide +kernel
theorem dX1_plan_115 : decode cX1_plan 115 = .ok (.aload_n 0, 1) := by decide +kernel
theorem dX1_plan_116 : decode cX1_plan 116 = .ok (.getfield 48, 3) := by decide +kernel
theorem dX1_plan_119 : decode cX1_plan 119 = .ok (.iload 4, 2) := by decide +kernel
theorem dX1_plan_121 : decode cX1_plan 121 = .ok (.dup2, 1) := by decide +kernel
theorem dX1_plan_122 : decode cX1_plan 122 = .ok (.iaload, 1) := by decide +kernel
theorem dX1_plan_123 : decode cX1_plan 123 = .ok (.iconst 1, 1) := by decide +kernel
theorem dX1_plan_124 : decode cX1_plan 124 = .ok (.iadd, 1) := by decide +kernel
theorem dX1_plan_125 : decode cX1_plan 125 = .ok (.iastore, 1) := by decide +kernel
theorem dX1_plan_126 : decode cX1_plan 126 = .ok (.aload_n 0, 1) := by decide +kernel
theorem dX1_plan_127 : decode cX1_plan 127 = .ok (.getfield 48, 3) := by decide +kernel
theorem dX1_plan_130 : decode cX1_plan 130 = .ok (.iload 4, 2) := by decide +kernel
theorem dX1_plan_132 : decode cX1_plan 132 = .ok (.iaload, 1) := by decide +kernel
theorem dX1_plan_133 : decode cX1_plan 133 = .ok (.aload_n 0, 1) := by decide +kernel
theorem dX1_plan_134 : decode cX1_plan 134 = .ok (.getfield 42, 3) := by decide +kernel
theorem dX1_plan_137 : decode cX1_plan 137 = .ok (.iload 4, 2) := by decide +kernel
theorem dX1_plan_139 : decode cX1_plan 139 = .ok (.iaload, 1) := by decide +kernel
theorem dX1_plan_140 : decode cX1_plan 140 = .ok (.if_icmp .ge 44, 3) := by decide +kernel
theorem dX1_plan_143 : decode cX1_plan 143 = .ok (.aload_n 0, 1) := by decide +kernel
theorem dX1_plan_144 : decode cX1_plan 144 = .ok (.aload_n 0, 1) := by decide +kernel
theorem dX1_plan_145 : decode cX1_plan 145 = .ok (.getfield 45, 3) := by decide +kernel
theorem dX1_plan_148 : decode cX1_plan 148 = .ok (.iconst 3, 1) := by decide +kernel
theorem dX1_plan_149 : decode cX1_plan 149 = .ok (.iload 4, 2) := by decide +kernel
theorem dX1_plan_151 : decode cX1_plan 151 = .ok (.imul, 1) := by decide +kernel
theorem dX1_plan_152 : decode cX1_plan 152 = .ok (.aload_n 0, 1) := by decide +kernel
theorem dX1_plan_153 : decode cX1_plan 153 = .ok (.getfield 48, 3) := by decide +kernel
theorem dX1_plan_156 : decode cX1_plan 156 = .ok (.iload 4, 2) := by decide +kernel
theorem dX1_plan_158 : decode cX1_plan 158 = .ok (.iaload, 1) := by decide +kernel
theorem dX1_plan_159 : decode cX1_plan 159 = .ok (.iadd, 1) := by decide +kernel
theorem dX1_plan_160 : decode cX1_plan 160 = .ok (.iaload, 1) := by decide +kernel
theorem dX1_plan_161 : decode cX1_plan 161 = .ok (.iload_n 1, 1) := by decide +kernel
theorem dX1_plan_162 : decode cX1_plan 162 = .ok (.iload_n 2, 1) := by decide +kernel
theorem dX1_plan_163 : decode cX1_plan 163 = .ok (.iload_n 3, 1) := by decide +kernel
theorem dX1_plan_164 : decode cX1_plan 164 = .ok (.invokevirtual 162, 3) := by decide +kernel
theorem dX1_plan_167 : decode cX1_plan 167 = .ok (.ifCond .ne 17, 3) := by decide +kernel
theorem dX1_plan_170 : decode cX1_plan 170 = .ok (.aload_n 0, 1) := by decide +kernel
theorem dX1_plan_171 : decode cX1_plan 171 = .ok (.getfield 48, 3) := by decide +kernel
theorem dX1_plan_174 : decode cX1_plan 174 = .ok (.iload 4, 2) := by decide +kernel
theorem dX1_plan_176 : decode cX1_plan 176 = .ok (.dup2, 1) := by decide +kernel
theorem dX1_plan_177 : decode cX1_plan 177 = .ok (.iaload, 1) := by decide +kernel
theorem dX1_plan_178 : decode cX1_plan 178 = .ok (.iconst 1, 1) := by decide +kernel
theorem dX1_plan_179 : decode cX1_plan 179 = .ok (.iadd, 1) := by decide +kernel
theorem dX1_plan_180 : decode cX1_plan 180 = .ok (.iastore, 1) := by decide +kernel
theorem dX1_plan_181 : decode cX1_plan 181 = .ok (.goto (-55), 3) := by decide +kernel
theorem dX1_plan_184 : decode cX1_plan 184 = .ok (.aload_n 0, 1) := by decide +kernel
theorem dX1_plan_185 : decode cX1_plan 185 = .ok (.getfield 48, 3) := by decide +kernel
theorem dX1_plan_188 : decode cX1_plan 188 = .ok (.iload 4, 2) := by decide +kernel
theorem dX1_plan_190 : decode cX1_plan 190 = .ok (.iaload, 1) := by decide +kernel
theorem dX1_plan_191 : decode cX1_plan 191 = .ok (.aload_n 0, 1) := by decide +kernel
theorem dX1_plan_192 : decode cX1_plan 192 = .ok (.getfield 42, 3) := by decide +kernel
theorem dX1_plan_195 : decode cX1_plan 195 = .ok (.iload 4, 2) := by decide +kernel
theorem dX1_plan_197 : decode cX1_plan 197 = .ok (.iaload, 1) := by decide +kernel
theorem dX1_plan_198 : decode cX1_plan 198 = .ok (.if_icmp .ge 48, 3) := by decide +kernel
theorem dX1_plan_201 : decode cX1_plan 201 = .ok (.aload_n 0, 1) := by decide +kernel
theorem dX1_plan_202 : decode cX1_plan 202 = .ok (.aload_n 0, 1) := by decide +kernel
theorem dX1_plan_203 : decode cX1_plan 203 = .ok (.getfield 45, 3) := by decide +kernel
theorem dX1_plan_206 : decode cX1_plan 206 = .ok (.iconst 3, 1) := by decide +kernel
theorem dX1_plan_207 : decode cX1_plan 207 = .ok (.iload 4, 2) := by decide +kernel
theorem dX1_plan_209 : decode cX1_plan 209 = .ok (.imul, 1) := by decide +kernel
theorem dX1_plan_210 : decode cX1_plan 210 = .ok (.aload_n 0, 1) := by decide +kernel
theorem dX1_plan_211 : decode cX1_plan 211 = .ok (.getfield 48, 3) := by decide +kernel
theorem dX1_plan_214 : decode cX1_plan 214 = .ok (.iload 4, 2) := by decide +kernel
theorem dX1_plan_216 : decode cX1_plan 216 = .ok (.iaload, 1) := by decide +kernel
theorem dX1_plan_217 : decode cX1_plan 217 = .ok (.iadd, 1) := by decide +kernel
theorem dX1_plan_218 : decode cX1_plan 218 = .ok (.iaload, 1) := by decide +kernel
theorem dX1_plan_219 : decode cX1_plan 219 = .ok (.iconst 1, 1) := by decide +kernel
theorem dX1_plan_220 : decode cX1_plan 220 = .ok (.invokevirtual 159, 3) := by decide +kernel
theorem dX1_plan_223 : decode cX1_plan 223 = .ok (.iinc 4 1, 3) := by decide +kernel
theorem dX1_plan_226 : decode cX1_plan 226 = .ok (.iload 4, 2) := by decide +kernel
theorem dX1_plan_228 : decode cX1_plan 228 = .ok (.aload_n 0, 1) := by decide +kernel
theorem dX1_plan_229 : decode cX1_plan 229 = .ok (.getfield 7, 3) := by decide +kernel
theorem dX1_plan_232 : decode cX1_plan 232 = .ok (.if_icmp .ge (-164), 3) := by decide +kernel
theorem dX1_plan_235 : decode cX1_plan 235 = .ok (.aload_n 0, 1) := by decide +kernel
theorem dX1_plan_236 : decode cX1_plan 236 = .ok (.getfield 48, 3) := by decide +kernel
theorem dX1_plan_239 : decode cX1_plan 239 = .ok (.iload 4, 2) := by decide +kernel
theorem dX1_plan_241 : decode cX1_plan 241 = .ok (.iconst (-1), 1) := by decide +kernel
theorem dX1_plan_242 : decode cX1_plan 242 = .ok (.iastore, 1) := by decide +kernel
theorem dX1_plan_243 : decode cX1_plan 243 = .ok (.goto (-175), 3) := by decide +kernel
theorem dX1_plan_246 : decode cX1_plan 246 = .ok (.iinc 4 (-1), 3) := by decide +kernel
theorem dX1_plan_249 : decode cX1_plan 249 = .ok (.goto (-181), 3) := by decide +kernel
theorem dX1_plan_252 : decode cX1_plan 252 = .ok (.aload_n 0, 1) := by decide +kernel
theorem dX1_plan_253 : decode cX1_plan 253 = .ok (.iload 4, 2) := by decide +kernel
theorem dX1_plan_255 : decode cX1_plan 255 = .ok (.aload_n 0, 1) := by decide +kernel
theorem dX1_plan_256 : decode cX1_plan 256 = .ok (.getfield 7, 3) := by decide +kernel
theorem dX1_plan_259 : decode cX1_plan 259 = .ok (.if_icmp .ne 7, 3) := by decide +kernel
theorem dX1_plan_262 : decode cX1_plan 262 = .ok (.iconst 1, 1) := by decide +kernel
theorem dX1_plan_263 : decode cX1_plan 263 = .ok (.goto 4, 3) := by decide +kernel
theorem dX1_plan_266 : decode cX1_plan 266 = .ok (.iconst 0, 1) := by decide +kernel
theorem dX1_plan_267 : decode cX1_plan 267 = .ok (.putfield 60, 3) := by decide +kernel
theorem dX1_plan_270 : decode cX1_plan 270 = .ok (.aload_n 0, 1) := by decide +kernel
theorem dX1_plan_271 : decode cX1_plan 271 = .ok (.getfield 60, 3) := by decide +kernel
theorem dX1_plan_274 : decode cX1_plan 274 = .ok (.ifCond .eq 7, 3) := by decide +kernel
theorem dX1_plan_277 : decode cX1_plan 277 = .ok (.iconst 1, 1) := by decide +kernel
theorem dX1_plan_278 : decode cX1_plan 278 = .ok (.goto 4, 3) := by decide +kernel
theorem dX1_plan_281 : decode cX1_plan 281 = .ok (.iconst 0, 1) := by decide +kernel
theorem dX1_plan_282 : decode cX1_plan 282 = .ok (.ireturn, 1) := by decide +kernel
theorem dX1_chosenOf_0 : decode cX1_chosenOf 0 = .ok (.aload_n 0, 1) := by decide +kernel
theorem dX1_chosenOf_1 : decode cX1_chosenOf 1 = .ok (.getfield 60, 3) := by decide +kernel
theorem dX1_chosenOf_4 : decode cX1_chosenOf 4 = .ok (.ifCond .eq 12, 3) := by decide +kernel
theorem dX1_chosenOf_7 : decode cX1_chosenOf 7 = .ok (.aload_n 0, 1) := by decide +kernel
theorem dX1_chosenOf_8 : decode cX1_chosenOf 8 = .ok (.getfield 48, 3) := by decide +kernel
theorem dX1_chosenOf_11 : decode cX1_chosenOf 11 = .ok (.iload_n 1, 1) := by decide +kernel
theorem dX1_chosenOf_12 : decode cX1_chosenOf 12 = .ok (.iaload, 1) := by decide +kernel
theorem dX1_chosenOf_13 : decode cX1_chosenOf 13 = .ok (.goto 4, 3) := by decide +kernel
theorem dX1_chosenOf_16 : decode cX1_chosenOf 16 = .ok (.iconst (-1), 1) := by decide +kernel
theorem dX1_chosenOf_17 : decode cX1_chosenOf 17 = .ok (.ireturn, 1) := by decide +kernel
set_option maxRecDepth 20000 in
theorem ggX1_chosen_X1_isPlayer : GoodIn wsX1_chosen wsX1_isPlayer := goodIn_r _ [5, 6, 7, 8, 4, 9, 16, 17, 18, 19, 20, 21, 22, 23, 24, 25, 26, 27, 28, 29, 30, 31, 32, 33, 34, 35, 36, 37, 38] (by decide +kernel) (by decide +kernel)
set_option maxRecDepth 20000 in
theorem gX1_chosen_X1_isPlayer : GoodIn wsX1_chosen (wsV RX1 75 RX1 yX1_isPlayer wsX1_isPlayer) := goodIn_app (goodIn_of _ (by decide +kernel)) ggX1_chosen_X1_isPlayer
set_option maxRecDepth 20000 in
theorem ggX1_chosen_X1_chosenOf : GoodIn wsX1_chosen wsX1_chosenOf := goodIn_r _ [13, 14, 15, 16, 17, 18, 19, 20, 21, 22, 23, 24, 25, 26, 27, 28, 29, 30, 31, 32, 33, 34, 35, 36, 37, 38] (by decide +kernel) (by decide +kernel)
set_option maxRecDepth 20000 in
theorem gX1_chosen_X1_chosenOf : GoodIn wsX1_chosen (wsV RX1 165 RX1 yX1_chosenOf wsX1_chosenOf) := goodIn_app (goodIn_of _ (by decide +kernel)) ggX1_chosen_X1_chosenOf
theorem dX1_chosen_0 : decode cX1_chosen 0 = .ok (.aload_n 0, 1) := by decide +kernel
theorem dX1_chosen_1 : decode cX1_chosen 1 = .ok (.iload_n 1, 1) := by decide +kernel
theorem dX1_chosen_2 : decode cX1_chosen 2 = .ok (.invokevirtual 75, 3) := by decide +kernel
theorem dX1_chosen_5 : decode cX1_chosen 5 = .ok (.ifCond .eq 11, 3) := by decide +kernel
theorem dX1_chosen_8 : decode cX1_chosen 8 = .ok (.aload_n 0, 1) := by decide +kernel
theorem dX1_chosen_9 : decode cX1_chosen 9 = .ok (.iload_n 1, 1) := by decide +kernel
theorem dX1_chosen_10 : decode cX1_chosen 10 = .ok (.invokevirtual 165, 3) := by decide +kernel
theorem dX1_chosen_13 : decode cX1_chosen 13 = .ok (.goto 5, 3) := by decide +kernel
theorem dX1_chosen_16 : decode cX1_chosen 16 = .ok (.bipush (-101), 2) := by decide +kernel
theorem dX1_chosen_18 : decode cX1_chosen 18 = .ok (.ireturn, 1) := by decide +kernel
set_option maxRecDepth 20000 in
theorem ggX1_heard_X1_in : GoodIn wsX1_heard wsX1_in := goodIn_r _ [6] (by decide +kernel) (by decide +kernel)
set_option maxRecDepth 20000 in
theorem gX1_heard_X1_in : GoodIn wsX1_heard (va_wsS RX1 64 yX1_in wsX1_in) := goodIn_app (goodIn_of _ (by decide +kernel)) ggX1_heard_X1_in
theorem dX1_heard_0 : decode cX1_heard 0 = .ok (.iload_n 1, 1) := by decide +kernel
theorem dX1_heard_1 : decode cX1_heard 1 = .ok (.iconst 0, 1) := by decide +kernel
theorem dX1_heard_2 : decode cX1_heard 2 = .ok (.bipush 11, 2) := by decide +kernel
theorem dX1_heard_4 : decode cX1_heard 4 = .ok (.invokestatic 64, 3) := by decide +kernel
theorem dX1_heard_7 : decode cX1_heard 7 = .ok (.ifCond .ne 6, 3) := by decide +kernel
theorem dX1_heard_10 : decode cX1_heard 10 = .ok (.bipush (-101), 2) := by decide +kernel
theorem dX1_heard_12 : decode cX1_heard 12 = .ok (.ireturn, 1) := by decide +kernel
theorem dX1_heard_13 : decode cX1_heard 13 = .ok (.aload_n 0, 1) := by decide +kernel
theorem dX1_heard_14 : decode cX1_heard 14 = .ok (.getfield 60, 3) := by decide +kernel
theorem dX1_heard_17 : decode cX1_heard 17 = .ok (.ifCond .eq 12, 3) := by decide +kernel
theorem dX1_heard_20 : decode cX1_heard 20 = .ok (.aload_n 0, 1) := by decide +kernel
theorem dX1_heard_21 : decode cX1_heard 21 = .ok (.getfield 54, 3) := by decide +kernel
theorem dX1_heard_24 : decode cX1_heard 24 = .ok (.iload_n 1, 1) := by decide +kernel
theorem dX1_heard_25 : decode cX1_heard 25 = .ok (.iaload, 1) := by decide +kernel
theorem dX1_heard_26 : decode cX1_heard 26 = .ok (.goto 4, 3) := by decide +kernel
theorem dX1_heard_29 : decode cX1_heard 29 = .ok (.iconst 0, 1) := by decide +kernel
theorem dX1_heard_30 : decode cX1_heard 30 = .ok (.ireturn, 1) := by decide +kernel
set_option maxRecDepth 20000 in
theorem ggX1_drawn_X1_in : GoodIn wsX1_drawn wsX1_in := goodIn_r _ [5] (by decide +kernel) (by decide +kernel)
set_option maxRecDepth 20000 in
theorem gX1_drawn_X1_in : GoodIn wsX1_drawn (va_wsS RX1 64 yX1_in wsX1_in) := goodIn_app (goodIn_of _ (by decide +kernel)) ggX1_drawn_X1_in
theorem dX1_drawn_0 : decode cX1_drawn 0 = .ok (.iload_n 2, 1) := by decide +kernel
theorem dX1_drawn_1 : decode cX1_drawn 1 = .ok (.iconst 0, 1) := by decide +kernel
theorem dX1_drawn_2 : decode cX1_drawn 2 = .ok (.aload_n 0, 1) := by decide +kernel
theorem dX1_drawn_3 : decode cX1_drawn 3 = .ok (.getfield 7, 3) := by decide +kernel
theorem dX1_drawn_6 : decode cX1_drawn 6 = .ok (.iconst 1, 1) := by decide +kernel
theorem dX1_drawn_7 : decode cX1_drawn 7 = .ok (.isub, 1) := by decide +kernel
theorem dX1_drawn_8 : decode cX1_drawn 8 = .ok (.invokestatic 64, 3) := by decide +kernel
theorem dX1_drawn_11 : decode cX1_drawn 11 = .ok (.ifCond .ne 6, 3) := by decide +kernel
theorem dX1_drawn_14 : decode cX1_drawn 14 = .ok (.bipush (-101), 2) := by decide +kernel
theorem dX1_drawn_16 : decode cX1_drawn 16 = .ok (.ireturn, 1) := by decide +kernel
theorem dX1_drawn_17 : decode cX1_drawn 17 = .ok (.iconst 1, 1) := by decide +kernel
theorem dX1_drawn_18 : decode cX1_drawn 18 = .ok (.istore_n 3, 1) := by decide +kernel
theorem dX1_drawn_19 : decode cX1_drawn 19 = .ok (.iconst 2, 1) := by decide +kernel
theorem dX1_drawn_20 : decode cX1_drawn 20 = .ok (.istore 4, 2) := by decide +kernel
theorem dX1_drawn_22 : decode cX1_drawn 22 = .ok (.iload 4, 2) := by decide +kernel
theorem dX1_drawn_24 : decode cX1_drawn 24 = .ok (.aload_n 0, 1) := by decide +kernel
theorem dX1_drawn_25 : decode cX1_drawn 25 = .ok (.getfield 7, 3) := by decide +kernel
theorem dX1_drawn_28 : decode cX1_drawn 28 = .ok (.if_icmp .gt 14, 3) := by decide +kernel
theorem dX1_drawn_31 : decode cX1_drawn 31 = .ok (.iload_n 3, 1) := by decide +kernel
theorem dX1_drawn_32 : decode cX1_drawn 32 = .ok (.iload 4, 2) := by decide +kernel
theorem dX1_drawn_34 : decode cX1_drawn 34 = .ok (.imul, 1) := by decide +kernel
theorem dX1_drawn_35 : decode cX1_drawn 35 = .ok (.istore_n 3, 1) := by decide +kernel
theorem dX1_drawn_36 : decode cX1_drawn 36 = .ok (.iinc 4 1, 3) := by decide +kernel
theorem dX1_drawn_39 : decode cX1_drawn 39 = .ok (.goto (-17), 3) := by decide +kernel
theorem dX1_drawn_42 : decode cX1_drawn 42 = .ok (.iload_n 1, 1) := by decide +kernel
theorem dX1_drawn_43 : decode cX1_drawn 43 = .ok (.iconst 0, 1) := by decide +kernel
theorem dX1_drawn_44 : decode cX1_drawn 44 = .ok (.iload_n 3, 1) := by decide +kernel
theorem dX1_drawn_45 : decode cX1_drawn 45 = .ok (.iconst 1, 1) := by decide +kernel
theorem dX1_drawn_46 : decode cX1_drawn 46 = .ok (.isub, 1) := by decide +kernel
theorem dX1_drawn_47 : decode cX1_drawn 47 = .ok (.invokestatic 64, 3) := by decide +kernel
theorem dX1_drawn_50 : decode cX1_drawn 50 = .ok (.ifCond .ne 6, 3) := by decide +kernel
theorem dX1_drawn_53 : decode cX1_drawn 53 = .ok (.bipush (-102), 2) := by decide +kernel
theorem dX1_drawn_55 : decode cX1_drawn 55 = .ok (.ireturn, 1) := by decide +kernel
theorem dX1_drawn_56 : decode cX1_drawn 56 = .ok (.iload_n 1, 1) := by decide +kernel
theorem dX1_drawn_57 : decode cX1_drawn 57 = .ok (.istore 4, 2) := by decide +kernel
theorem dX1_drawn_59 : decode cX1_drawn 59 = .ok (.iconst 0, 1) := by decide +kernel
theorem dX1_drawn_60 : decode cX1_drawn 60 = .ok (.istore 5, 2) := by decide +kernel
theorem dX1_drawn_62 : decode cX1_drawn 62 = .ok (.iconst (-1), 1) := by decide +kernel
theorem dX1_drawn_63 : decode cX1_drawn 63 = .ok (.istore 6, 2) := by decide +kernel
theorem dX1_drawn_65 : decode cX1_drawn 65 = .ok (.iconst 0, 1) := by decide +kernel
theorem dX1_drawn_66 : decode cX1_drawn 66 = .ok (.istore 7, 2) := by decide +kernel
theorem dX1_drawn_68 : decode cX1_drawn 68 = .ok (.iload 7, 2) := by decide +kernel
theorem dX1_drawn_70 : decode cX1_drawn 70 = .ok (.iload_n 2, 1) := by decide +kernel
theorem dX1_drawn_71 : decode cX1_drawn 71 = .ok (.if_icmp .gt 86, 3) := by decide +kernel
theorem dX1_drawn_74 : decode cX1_drawn 74 = .ok (.iload_n 3, 1) := by decide +kernel
theorem dX1_drawn_75 : decode cX1_drawn 75 = .ok (.aload_n 0, 1) := by decide +kernel
theorem dX1_drawn_76 : decode cX1_drawn 76 = .ok (.getfield 7, 3) := by decide +kernel
theorem dX1_drawn_79 : decode cX1_drawn 79 = .ok (.iload 7, 2) := by decide +kernel
theorem dX1_drawn_81 : decode cX1_drawn 81 = .ok (.isub, 1) := by decide +kernel
theorem dX1_drawn_82 : decode cX1_drawn 82 = .ok (.idiv, 1) := by decide +kernel
theorem dX1_drawn_83 : decode cX1_drawn 83 = .ok (.istore_n 3, 1) := by decide +kernel
theorem dX1_drawn_84 : decode cX1_drawn 84 = .ok (.iload 4, 2) := by decide +kernel
theorem dX1_drawn_86 : decode cX1_drawn 86 = .ok (.iload_n 3, 1) := by decide +kernel
theorem dX1_drawn_87 : decode cX1_drawn 87 = .ok (.idiv, 1) := by decide +kernel
theorem dX1_drawn_88 : decode cX1_drawn 88 = .ok (.istore 8, 2) := by decide +kernel
theorem dX1_drawn_90 : decode cX1_drawn 90 = .ok (.iload 4, 2) := by decide +kernel
theorem dX1_drawn_92 : decode cX1_drawn 92 = .ok (.iload_n 3, 1) := by decide +kernel
theorem dX1_drawn_93 : decode cX1_drawn 93 = .ok (.irem, 1) := by decide +kernel
theorem dX1_drawn_94 : decode cX1_drawn 94 = .ok (.istore 4, 2) := by decide +kernel
theorem dX1_drawn_96 : decode cX1_drawn 96 = .ok (.iconst 0, 1) := by decide +kernel
theorem dX1_drawn_97 : decode cX1_drawn 97 = .ok (.istore 6, 2) := by decide +kernel
theorem dX1_drawn_99 : decode cX1_drawn 99 = .ok (.iload 5, 2) := by decide +kernel
theorem dX1_drawn_101 : decode cX1_drawn 101 = .ok (.iload 6, 2) := by decide +kernel
theorem dX1_drawn_103 : decode cX1_drawn 103 = .ok (.ishr, 1) := by decide +kernel
theorem dX1_drawn_104 : decode cX1_drawn 104 = .ok (.iconst 1, 1) := by decide +kernel
theorem dX1_drawn_105 : decode cX1_drawn 105 = .ok (.iand, 1) := by decide +kernel
theorem dX1_drawn_106 : decode cX1_drawn 106 = .ok (.iconst 1, 1) := by decide +kernel
theorem dX1_drawn_107 : decode cX1_drawn 107 = .ok (.if_icmp .eq 8, 3) := by decide +kernel
theorem dX1_drawn_110 : decode cX1_drawn 110 = .ok (.iload 8, 2) := by decide +kernel
theorem dX1_drawn_112 : decode cX1_drawn 112 = .ok (.ifCond .le 30, 3) := by decide +kernel
theorem dX1_drawn_115 : decode cX1_drawn 115 = .ok (.iload 8, 2) := by decide +kernel
theorem dX1_drawn_117 : decode cX1_drawn 117 = .ok (.iload 5, 2) := by decide +kernel
theorem dX1_drawn_119 : decode cX1_drawn 119 = .ok (.iload 6, 2) := by decide +kernel
theorem dX1_drawn_121 : decode cX1_drawn 121 = .ok (.ishr, 1) := by decide +kernel
theorem dX1_drawn_122 : decode cX1_drawn 122 = .ok (.iconst 1, 1) := by decide +kernel
theorem dX1_drawn_123 : decode cX1_drawn 123 = .ok (.iand, 1) := by decide +kernel
theorem dX1_drawn_124 : decode cX1_drawn 124 = .ok (.iconst 1, 1) := by decide +kernel
theorem dX1_drawn_125 : decode cX1_drawn 125 = .ok (.if_icmp .ne 7, 3) := by decide +kernel
theorem dX1_drawn_128 : decode cX1_drawn 128 = .ok (.iconst 0, 1) := by decide +kernel
theorem dX1_drawn_129 : decode cX1_drawn 129 = .ok (.goto 4, 3) := by decide +kernel
theorem dX1_drawn_132 : decode cX1_drawn 132 = .ok (.iconst 1, 1) := by decide +kernel
theorem dX1_drawn_133 : decode cX1_drawn 133 = .ok (.isub, 1) := by decide +kernel
theorem dX1_drawn_134 : decode cX1_drawn 134 = .ok (.istore 8, 2) := by decide +kernel
theorem dX1_drawn_136 : decode cX1_drawn 136 = .ok (.iinc 6 1, 3) := by decide +kernel
theorem dX1_drawn_139 : decode cX1_drawn 139 = .ok (.goto (-40), 3) := by decide +kernel
theorem dX1_drawn_142 : decode cX1_drawn 142 = .ok (.iload 5, 2) := by decide +kernel
theorem dX1_drawn_144 : decode cX1_drawn 144 = .ok (.iconst 1, 1) := by decide +kernel
theorem dX1_drawn_145 : decode cX1_drawn 145 = .ok (.iload 6, 2) := by decide +kernel
theorem dX1_drawn_147 : decode cX1_drawn 147 = .ok (.ishl, 1) := by decide +kernel
theorem dX1_drawn_148 : decode cX1_drawn 148 = .ok (.ior, 1) := by decide +kernel
theorem dX1_drawn_149 : decode cX1_drawn 149 = .ok (.istore 5, 2) := by decide +kernel
theorem dX1_drawn_151 : decode cX1_drawn 151 = .ok (.iinc 7 1, 3) := by decide +kernel
theorem dX1_drawn_154 : decode cX1_drawn 154 = .ok (.goto (-86), 3) := by decide +kernel
theorem dX1_drawn_157 : decode cX1_drawn 157 = .ok (.iload 6, 2) := by decide +kernel
theorem dX1_drawn_159 : decode cX1_drawn 159 = .ok (.ireturn, 1) := by decide +kernel
theorem dX1_count_0 : decode cX1_count 0 = .ok (.iconst 0, 1) := by decide +kernel
theorem dX1_count_1 : decode cX1_count 1 = .ok (.istore_n 2, 1) := by decide +kernel
theorem dX1_count_2 : decode cX1_count 2 = .ok (.iload_n 1, 1) := by decide +kernel
theorem dX1_count_3 : decode cX1_count 3 = .ok (.tableswitch 176 0 5 #[37, 42, 47, 82, 116, 149], 37) := by decide +kernel
theorem dX1_count_40 : decode cX1_count 40 = .ok (.aload_n 0, 1) := by decide +kernel
theorem dX1_count_41 : decode cX1_count 41 = .ok (.getfield 7, 3) := by decide +kernel
theorem dX1_count_44 : decode cX1_count 44 = .ok (.ireturn, 1) := by decide +kernel
theorem dX1_count_45 : decode cX1_count 45 = .ok (.aload_n 0, 1) := by decide +kernel
theorem dX1_count_46 : decode cX1_count 46 = .ok (.getfield 13, 3) := by decide +kernel
theorem dX1_count_49 : decode cX1_count 49 = .ok (.ireturn, 1) := by decide +kernel
theorem dX1_count_50 : decode cX1_count 50 = .ok (.iconst 0, 1) := by decide +kernel
theorem dX1_count_51 : decode cX1_count 51 = .ok (.istore_n 3, 1) := by decide +kernel
theorem dX1_count_52 : decode cX1_count 52 = .ok (.iload_n 3, 1) := by decide +kernel
theorem dX1_count_53 : decode cX1_count 53 = .ok (.sipush 210, 3) := by decide +kernel
theorem dX1_count_56 : decode cX1_count 56 = .ok (.if_icmp .ge 27, 3) := by decide +kernel
theorem dX1_count_59 : decode cX1_count 59 = .ok (.iload_n 2, 1) := by decide +kernel
theorem dX1_count_60 : decode cX1_count 60 = .ok (.aload_n 0, 1) := by decide +kernel
theorem dX1_count_61 : decode cX1_count 61 = .ok (.getfield 16, 3) := by decide +kernel
theorem dX1_count_64 : decode cX1_count 64 = .ok (.iload_n 3, 1) := by decide +kernel
theorem dX1_count_65 : decode cX1_count 65 = .ok (.iaload, 1) := by decide +kernel
theorem dX1_count_66 : decode cX1_count 66 = .ok (.iconst (-1), 1) := by decide +kernel
theorem dX1_count_67 : decode cX1_count 67 = .ok (.if_icmp .ne 7, 3) := by decide +kernel
theorem dX1_count_70 : decode cX1_count 70 = .ok (.iconst 0, 1) := by decide +kernel
theorem dX1_count_71 : decode cX1_count 71 = .ok (.goto 4, 3) := by decide +kernel
theorem dX1_count_74 : decode cX1_count 74 = .ok (.iconst 1, 1) := by decide +kernel
theorem dX1_count_75 : decode cX1_count 75 = .ok (.iadd, 1) := by decide +kernel
theorem dX1_count_76 : decode cX1_count 76 = .ok (.istore_n 2, 1) := by decide +kernel
theorem dX1_count_77 : decode cX1_count 77 = .ok (.iinc 3 1, 3) := by decide +kernel
theorem dX1_count_80 : decode cX1_count 80 = .ok (.goto (-28), 3) := by decide +kernel
theorem dX1_count_83 : decode cX1_count 83 = .ok (.iload_n 2, 1) := by decide +kernel
theorem dX1_count_84 : decode cX1_count 84 = .ok (.ireturn, 1) := by decide +kernel
theorem dX1_count_85 : decode cX1_count 85 = .ok (.iconst 0, 1) := by decide +kernel
theorem dX1_count_86 : decode cX1_count 86 = .ok (.istore_n 3, 1) := by decide +kernel
theorem dX1_count_87 : decode cX1_count 87 = .ok (.iload_n 3, 1) := by decide +kernel
theorem dX1_count_88 : decode cX1_count 88 = .ok (.sipush 210, 3) := by decide +kernel
theorem dX1_count_91 : decode cX1_count 91 = .ok (.if_icmp .ge 26, 3) := by decide +kernel
theorem dX1_count_94 : decode cX1_count 94 = .ok (.iload_n 2, 1) := by decide +kernel
theorem dX1_count_95 : decode cX1_count 95 = .ok (.aload_n 0, 1) := by decide +kernel
theorem dX1_count_96 : decode cX1_count 96 = .ok (.getfield 20, 3) := by decide +kernel
theorem dX1_count_99 : decode cX1_count 99 = .ok (.iload_n 3, 1) := by decide +kernel
theorem dX1_count_100 : decode cX1_count 100 = .ok (.baload, 1) := by decide +kernel
theorem dX1_count_101 : decode cX1_count 101 = .ok (.ifCond .eq 7, 3) := by decide +kernel
theorem dX1_count_104 : decode cX1_count 104 = .ok (.iconst 1, 1) := by decide +kernel
theorem dX1_count_105 : decode cX1_count 105 = .ok (.goto 4, 3) := by decide +kernel
theorem dX1_count_108 : decode cX1_count 108 = .ok (.iconst 0, 1) := by decide +kernel
theorem dX1_count_109 : decode cX1_count 109 = .ok (.iadd, 1) := by decide +kernel
theorem dX1_count_110 : decode cX1_count 110 = .ok (.istore_n 2, 1) := by decide +kernel
theorem dX1_count_111 : decode cX1_count 111 = .ok (.iinc 3 1, 3) := by decide +kernel
theorem dX1_count_114 : decode cX1_count 114 = .ok (.goto (-27), 3) := by decide +kernel
theorem dX1_count_117 : decode cX1_count 117 = .ok (.iload_n 2, 1) := by decide +kernel
theorem dX1_count_118 : decode cX1_count 118 = .ok (.ireturn, 1) := by decide +kernel
theorem dX1_count_119 : decode cX1_count 119 = .ok (.iconst 0, 1) := by decide +kernel
theorem dX1_count_120 : decode cX1_count 120 = .ok (.istore_n 3, 1) := by decide +kernel
theorem dX1_count_121 : decode cX1_count 121 = .ok (.iload_n 3, 1) := by decide +kernel
theorem dX1_count_122 : decode cX1_count 122 = .ok (.bipush 70, 2) := by decide +kernel
theorem dX1_count_124 : decode cX1_count 124 = .ok (.if_icmp .ge 26, 3) := by decide +kernel
theorem dX1_count_127 : decode cX1_count 127 = .ok (.iload_n 2, 1) := by decide +kernel
theorem dX1_count_128 : decode cX1_count 128 = .ok (.aload_n 0, 1) := by decide +kernel
theorem dX1_count_129 : decode cX1_count 129 = .ok (.getfield 24, 3) := by decide +kernel
theorem dX1_count_132 : decode cX1_count 132 = .ok (.iload_n 3, 1) := by decide +kernel
theorem dX1_count_133 : decode cX1_count 133 = .ok (.baload, 1) := by decide +kernel
theorem dX1_count_134 : decode cX1_count 134 = .ok (.ifCond .eq 7, 3) := by decide +kernel
theorem dX1_count_137 : decode cX1_count 137 = .ok (.iconst 1, 1) := by decide +kernel
theorem dX1_count_138 : decode cX1_count 138 = .ok (.goto 4, 3) := by decide +kernel
theorem dX1_count_141 : decode cX1_count 141 = .ok (.iconst 0, 1) := by decide +kernel
theorem dX1_count_142 : decode cX1_count 142 = .ok (.iadd, 1) := by decide +kernel
theorem dX1_count_143 : decode cX1_count 143 = .ok (.istore_n 2, 1) := by decide +kernel
theorem dX1_count_144 : decode cX1_count 144 = .ok (.iinc 3 1, 3) := by decide +kernel
theorem dX1_count_147 : decode cX1_count 147 = .ok (.goto (-26), 3) := by decide +kernel
theorem dX1_count_150 : decode cX1_count 150 = .ok (.iload_n 2, 1) := by decide +kernel
theorem dX1_count_151 : decode cX1_count 151 = .ok (.ireturn, 1) := by decide +kernel
theorem dX1_count_152 : decode cX1_count 152 = .ok (.iconst 0, 1) := by decide +kernel
theorem dX1_count_153 : decode cX1_count 153 = .ok (.istore_n 3, 1) := by decide +kernel
theorem dX1_count_154 : decode cX1_count 154 = .ok (.iload_n 3, 1) := by decide +kernel
theorem dX1_count_155 : decode cX1_count 155 = .ok (.aload_n 0, 1) := by decide +kernel
theorem dX1_count_156 : decode cX1_count 156 = .ok (.getfield 7, 3) := by decide +kernel
theorem dX1_count_159 : decode cX1_count 159 = .ok (.if_icmp .ge 18, 3) := by decide +kernel
theorem dX1_count_162 : decode cX1_count 162 = .ok (.iload_n 2, 1) := by decide +kernel
theorem dX1_count_163 : decode cX1_count 163 = .ok (.aload_n 0, 1) := by decide +kernel
theorem dX1_count_164 : decode cX1_count 164 = .ok (.getfield 42, 3) := by decide +kernel
theorem dX1_count_167 : decode cX1_count 167 = .ok (.iload_n 3, 1) := by decide +kernel
theorem dX1_count_168 : decode cX1_count 168 = .ok (.iaload, 1) := by decide +kernel
theorem dX1_count_169 : decode cX1_count 169 = .ok (.iadd, 1) := by decide +kernel
theorem dX1_count_170 : decode cX1_count 170 = .ok (.istore_n 2, 1) := by decide +kernel
theorem dX1_count_171 : decode cX1_count 171 = .ok (.iinc 3 1, 3) := by decide +kernel
theorem dX1_count_174 : decode cX1_count 174 = .ok (.goto (-20), 3) := by decide +kernel
theorem dX1_count_177 : decode cX1_count 177 = .ok (.iload_n 2, 1) := by decide +kernel
theorem dX1_count_178 : decode cX1_count 178 = .ok (.ireturn, 1) := by decide +kernel
theorem dX1_count_179 : decode cX1_count 179 = .ok (.bipush (-102), 2) := by decide +kernel
theorem dX1_count_181 : decode cX1_count 181 = .ok (.ireturn, 1) := by decide +kernel
theorem dX1_mix_0 : decode cX1_mix 0 = .ok (.aload_n 0, 1) := by decide +kernel
theorem dX1_mix_1 : decode cX1_mix 1 = .ok (.ldc2_w 168, 3) := by decide +kernel
theorem dX1_mix_4 : decode cX1_mix 4 = .ok (.aload_n 0, 1) := by decide +kernel
theorem dX1_mix_5 : decode cX1_mix 5 = .ok (.getfield 170, 3) := by decide +kernel
theorem dX1_mix_8 : decode cX1_mix 8 = .ok (.lmul, 1) := by decide +kernel
theorem dX1_mix_9 : decode cX1_mix 9 = .ok (.lload_n 1, 1) := by decide +kernel
theorem dX1_mix_10 : decode cX1_mix 10 = .ok (.ladd, 1) := by decide +kernel
theorem dX1_mix_11 : decode cX1_mix 11 = .ok (.putfield 170, 3) := by decide +kernel
theorem dX1_mix_14 : decode cX1_mix 14 = .ok (.return_, 1) := by decide +kernel
set_option maxRecDepth 20000 in
theorem ggX1_digest_X1_mix : GoodIn wsX1_digest wsX1_mix := goodIn_r _ [19, 20, 2, 27, 28, 29, 30, 31, 32, 33, 34, 35, 36, 37, 38, 39, 40, 41, 42, 43, 44, 45, 46, 47, 48, 49] (by decide +kernel) (by decide +kernel)
set_option maxRecDepth 20000 in
theorem gX1_digest_X1_mix : GoodIn wsX1_digest (wsV RX1 176 RX1 yX1_mix wsX1_mix) := goodIn_app (goodIn_of _ (by decide +kernel)) ggX1_digest_X1_mix
set_option maxRecDepth 20000 in
theorem ggX1_digest_X1_chosenOf : GoodIn wsX1_digest wsX1_chosenOf := goodIn_r _ [24, 25, 26, 27, 28, 29, 30, 31, 32, 33, 34, 35, 36, 37, 38, 39, 40, 41, 42, 43, 44, 45, 46, 47, 48, 49] (by decide +kernel) (by decide +kernel)
set_option maxRecDepth 20000 in
theorem gX1_digest_X1_chosenOf : GoodIn wsX1_digest (wsV RX1 165 RX1 yX1_chosenOf wsX1_chosenOf) := goodIn_app (goodIn_of _ (by decide +kernel)) ggX1_digest_X1_chosenOf
theorem dX1_digest_0 : decode cX1_digest 0 = .ok (.aload_n 0, 1) := by decide +kernel
theorem dX1_digest_1 : decode cX1_digest 1 = .ok (.ldc2_w 174, 3) := by decide +kernel
theorem dX1_digest_4 : decode cX1_digest 4 = .ok (.putfield 170, 3) := by decide +kernel
theorem dX1_digest_7 : decode cX1_digest 7 = .ok (.aload_n 0, 1) := by decide +kernel
theorem dX1_digest_8 : decode cX1_digest 8 = .ok (.aload_n 0, 1) := by decide +kernel
theorem dX1_digest_9 : decode cX1_digest 9 = .ok (.getfield 7, 3) := by decide +kernel
theorem dX1_digest_12 : decode cX1_digest 12 = .ok (.i2l, 1) := by decide +kernel
theorem dX1_digest_13 : decode cX1_digest 13 = .ok (.invokevirtual 176, 3) := by decide +kernel
theorem dX1_digest_16 : decode cX1_digest 16 = .ok (.aload_n 0, 1) := by decide +kernel
theorem dX1_digest_17 : decode cX1_digest 17 = .ok (.aload_n 0, 1) := by decide +kernel
theorem dX1_digest_18 : decode cX1_digest 18 = .ok (.getfield 13, 3) := by decide +kernel
theorem dX1_digest_21 : decode cX1_digest 21 = .ok (.i2l, 1) := by decide +kernel
theorem dX1_digest_22 : decode cX1_digest 22 = .ok (.invokevirtual 176, 3) := by decide +kernel
theorem dX1_digest_25 : decode cX1_digest 25 = .ok (.iconst 0, 1) := by decide +kernel
theorem dX1_digest_26 : decode cX1_digest 26 = .ok (.istore_n 1, 1) := by decide +kernel
theorem dX1_digest_27 : decode cX1_digest 27 = .ok (.iload_n 1, 1) := by decide +kernel
theorem dX1_digest_28 : decode cX1_digest 28 = .ok (.iconst 3, 1) := by decide +kernel
theorem dX1_digest_29 : decode cX1_digest 29 = .ok (.if_icmp .ge 90, 3) := by decide +kernel
theorem dX1_digest_32 : decode cX1_digest 32 = .ok (.iconst 0, 1) := by decide +kernel
theorem dX1_digest_33 : decode cX1_digest 33 = .ok (.istore_n 2, 1) := by decide +kernel
theorem dX1_digest_34 : decode cX1_digest 34 = .ok (.iload_n 2, 1) := by decide +kernel
theorem dX1_digest_35 : decode cX1_digest 35 = .ok (.aload_n 0, 1) := by decide +kernel
theorem dX1_digest_36 : decode cX1_digest 36 = .ok (.getfield 13, 3) := by decide +kernel
theorem dX1_digest_39 : decode cX1_digest 39 = .ok (.if_icmp .ge 74, 3) := by decide +kernel
theorem dX1_digest_42 : decode cX1_digest 42 = .ok (.iconst 0, 1) := by decide +kernel
theorem dX1_digest_43 : decode cX1_digest 43 = .ok (.istore_n 3, 1) := by decide +kernel
theorem dX1_digest_44 : decode cX1_digest 44 = .ok (.iload_n 3, 1) := by decide +kernel
theorem dX1_digest_45 : decode cX1_digest 45 = .ok (.aload_n 0, 1) := by decide +kernel
theorem dX1_digest_46 : decode cX1_digest 46 = .ok (.getfield 7, 3) := by decide +kernel
theorem dX1_digest_49 : decode cX1_digest 49 = .ok (.if_icmp .ge 58, 3) := by decide +kernel
theorem dX1_digest_52 : decode cX1_digest 52 = .ok (.aload_n 0, 1) := by decide +kernel
theorem dX1_digest_53 : decode cX1_digest 53 = .ok (.aload_n 0, 1) := by decide +kernel
theorem dX1_digest_54 : decode cX1_digest 54 = .ok (.getfield 16, 3) := by decide +kernel
theorem dX1_digest_57 : decode cX1_digest 57 = .ok (.bipush 70, 2) := by decide +kernel
theorem dX1_digest_59 : decode cX1_digest 59 = .ok (.iload_n 1, 1) := by decide +kernel
theorem dX1_digest_60 : decode cX1_digest 60 = .ok (.imul, 1) := by decide +kernel
theorem dX1_digest_61 : decode cX1_digest 61 = .ok (.bipush 10, 2) := by decide +kernel
theorem dX1_digest_63 : decode cX1_digest 63 = .ok (.iload_n 2, 1) := by decide +kernel
theorem dX1_digest_64 : decode cX1_digest 64 = .ok (.imul, 1) := by decide +kernel
theorem dX1_digest_65 : decode cX1_digest 65 = .ok (.iadd, 1) := by decide +kernel
theorem dX1_digest_66 : decode cX1_digest 66 = .ok (.iload_n 3, 1) := by decide +kernel
theorem dX1_digest_67 : decode cX1_digest 67 = .ok (.iadd, 1) := by decide +kernel
theorem dX1_digest_68 : decode cX1_digest 68 = .ok (.iaload, 1) := by decide +kernel
theorem dX1_digest_69 : decode cX1_digest 69 = .ok (.i2l, 1) := by decide +kernel
theorem dX1_digest_70 : decode cX1_digest 70 = .ok (.invokevirtual 176, 3) := by decide +kernel
theorem dX1_digest_73 : decode cX1_digest 73 = .ok (.aload_n 0, 1) := by decide +kernel
theorem dX1_digest_74 : decode cX1_digest 74 = .ok (.aload_n 0, 1) := by decide +kernel
theorem dX1_digest_75 : decode cX1_digest 75 = .ok (.getfield 20, 3) := by decide +kernel
theorem dX1_digest_78 : decode cX1_digest 78 = .ok (.bipush 70, 2) := by decide +kernel
theorem dX1_digest_80 : decode cX1_digest 80 = .ok (.iload_n 1, 1) := by decide +kernel
theorem dX1_digest_81 : decode cX1_digest 81 = .ok (.imul, 1) := by decide +kernel
theorem dX1_digest_82 : decode cX1_digest 82 = .ok (.bipush 10, 2) := by decide +kernel
theorem dX1_digest_84 : decode cX1_digest 84 = .ok (.iload_n 2, 1) := by decide +kernel
theorem dX1_digest_85 : decode cX1_digest 85 = .ok (.imul, 1) := by decide +kernel
theorem dX1_digest_86 : decode cX1_digest 86 = .ok (.iadd, 1) := by decide +kernel
theorem dX1_digest_87 : decode cX1_digest 87 = .ok (.iload_n 3, 1) := by decide +kernel
theorem dX1_digest_88 : decode cX1_digest 88 = .ok (.iadd, 1) := by decide +kernel
theorem dX1_digest_89 : decode cX1_digest 89 = .ok (.baload, 1) := by decide +kernel
theorem dX1_digest_90 : decode cX1_digest 90 = .ok (.ifCond .eq 7, 3) := by decide +kernel
theorem dX1_digest_93 : decode cX1_digest 93 = .ok (.lconst 1, 1) := by decide +kernel
theorem dX1_digest_94 : decode cX1_digest 94 = .ok (.goto 4, 3) := by decide +kernel
theorem dX1_digest_97 : decode cX1_digest 97 = .ok (.lconst 0, 1) := by decide +kernel
theorem dX1_digest_98 : decode cX1_digest 98 = .ok (.invokevirtual 176, 3) := by decide +kernel
theorem dX1_digest_101 : decode cX1_digest 101 = .ok (.iinc 3 1, 3) := by decide +kernel
theorem dX1_digest_104 : decode cX1_digest 104 = .ok (.goto (-60), 3) := by decide +kernel
theorem dX1_digest_107 : decode cX1_digest 107 = .ok (.iinc 2 1, 3) := by decide +kernel
theorem dX1_digest_110 : decode cX1_digest 110 = .ok (.goto (-76), 3) := by decide +kernel
theorem dX1_digest_113 : decode cX1_digest 113 = .ok (.iinc 1 1, 3) := by decide +kernel
theorem dX1_digest_116 : decode cX1_digest 116 = .ok (.goto (-89), 3) := by decide +kernel
theorem dX1_digest_119 : decode cX1_digest 119 = .ok (.iconst 0, 1) := by decide +kernel
theorem dX1_digest_120 : decode cX1_digest 120 = .ok (.istore_n 1, 1) := by decide +kernel
theorem dX1_digest_121 : decode cX1_digest 121 = .ok (.iload_n 1, 1) := by decide +kernel
theorem dX1_digest_122 : decode cX1_digest 122 = .ok (.aload_n 0, 1) := by decide +kernel
theorem dX1_digest_123 : decode cX1_digest 123 = .ok (.getfield 13, 3) := by decide +kernel
theorem dX1_digest_126 : decode cX1_digest 126 = .ok (.if_icmp .ge 48, 3) := by decide +kernel
theorem dX1_digest_129 : decode cX1_digest 129 = .ok (.iconst 0, 1) := by decide +kernel
theorem dX1_digest_130 : decode cX1_digest 130 = .ok (.istore_n 2, 1) := by decide +kernel
theorem dX1_digest_131 : decode cX1_digest 131 = .ok (.iload_n 2, 1) := by decide +kernel
theorem dX1_digest_132 : decode cX1_digest 132 = .ok (.aload_n 0, 1) := by decide +kernel
theorem dX1_digest_133 : decode cX1_digest 133 = .ok (.getfield 7, 3) := by decide +kernel
theorem dX1_digest_136 : decode cX1_digest 136 = .ok (.if_icmp .ge 32, 3) := by decide +kernel
theorem dX1_digest_139 : decode cX1_digest 139 = .ok (.aload_n 0, 1) := by decide +kernel
theorem dX1_digest_140 : decode cX1_digest 140 = .ok (.aload_n 0, 1) := by decide +kernel
theorem dX1_digest_141 : decode cX1_digest 141 = .ok (.getfield 24, 3) := by decide +kernel
theorem dX1_digest_144 : decode cX1_digest 144 = .ok (.bipush 10, 2) := by decide +kernel
theorem dX1_digest_146 : decode cX1_digest 146 = .ok (.iload_n 1, 1) := by decide +kernel
theorem dX1_digest_147 : decode cX1_digest 147 = .ok (.imul, 1) := by decide +kernel
theorem dX1_digest_148 : decode cX1_digest 148 = .ok (.iload_n 2, 1) := by decide +kernel
theorem dX1_digest_149 : decode cX1_digest 149 = .ok (.iadd, 1) := by decide +kernel
theorem dX1_digest_150 : decode cX1_digest 150 = .ok (.baload, 1) := by decide +kernel
theorem dX1_digest_151 : decode cX1_digest 151 = .ok (.ifCond .eq 7, 3) := by decide +kernel
theorem dX1_digest_154 : decode cX1_digest 154 = .ok (.lconst 1, 1) := by decide +kernel
theorem dX1_digest_155 : decode cX1_digest 155 = .ok (.goto 4, 3) := by decide +kernel
theorem dX1_digest_158 : decode cX1_digest 158 = .ok (.lconst 0, 1) := by decide +kernel
theorem dX1_digest_159 : decode cX1_digest 159 = .ok (.invokevirtual 176, 3) := by decide +kernel
theorem dX1_digest_162 : decode cX1_digest 162 = .ok (.iinc 2 1, 3) := by decide +kernel
theorem dX1_digest_165 : decode cX1_digest 165 = .ok (.goto (-34), 3) := by decide +kernel
theorem dX1_digest_168 : decode cX1_digest 168 = .ok (.iinc 1 1, 3) := by decide +kernel
theorem dX1_digest_171 : decode cX1_digest 171 = .ok (.goto (-50), 3) := by decide +kernel
theorem dX1_digest_174 : decode cX1_digest 174 = .ok (.aload_n 0, 1) := by decide +kernel
theorem dX1_digest_175 : decode cX1_digest 175 = .ok (.aload_n 0, 1) := by decide +kernel
theorem dX1_digest_176 : decode cX1_digest 176 = .ok (.getfield 27, 3) := by decide +kernel
theorem dX1_digest_179 : decode cX1_digest 179 = .ok (.i2l, 1) := by decide +kernel
theorem dX1_digest_180 : decode cX1_digest 180 = .ok (.invokevirtual 176, 3) := by decide +kernel
theorem dX1_digest_183 : decode cX1_digest 183 = .ok (.aload_n 0, 1) := by decide +kernel
theorem dX1_digest_184 : decode cX1_digest 184 = .ok (.aload_n 0, 1) := by decide +kernel
theorem dX1_digest_185 : decode cX1_digest 185 = .ok (.getfield 30, 3) := by decide +kernel
theorem dX1_digest_188 : decode cX1_digest 188 = .ok (.i2l, 1) := by decide +kernel
theorem dX1_digest_189 : decode cX1_digest 189 = .ok (.invokevirtual 176, 3) := by decide +kernel
theorem dX1_digest_192 : decode cX1_digest 192 = .ok (.iconst 0, 1) := by decide +kernel
theorem dX1_digest_193 : decode cX1_digest 193 = .ok (.istore_n 1, 1) := by decide +kernel
theorem dX1_digest_194 : decode cX1_digest 194 = .ok (.iload_n 1, 1) := by decide +kernel
theorem dX1_digest_195 : decode cX1_digest 195 = .ok (.iconst 3, 1) := by decide +kernel
theorem dX1_digest_196 : decode cX1_digest 196 = .ok (.if_icmp .ge 20, 3) := by decide +kernel
theorem dX1_digest_199 : decode cX1_digest 199 = .ok (.aload_n 0, 1) := by decide +kernel
theorem dX1_digest_200 : decode cX1_digest 200 = .ok (.aload_n 0, 1) := by decide +kernel
theorem dX1_digest_201 : decode cX1_digest 201 = .ok (.getfield 33, 3) := by decide +kernel
theorem dX1_digest_204 : decode cX1_digest 204 = .ok (.iload_n 1, 1) := by decide +kernel
theorem dX1_digest_205 : decode cX1_digest 205 = .ok (.iaload, 1) := by decide +kernel
theorem dX1_digest_206 : decode cX1_digest 206 = .ok (.i2l, 1) := by decide +kernel
theorem dX1_digest_207 : decode cX1_digest 207 = .ok (.invokevirtual 176, 3) := by decide +kernel
theorem dX1_digest_210 : decode cX1_digest 210 = .ok (.iinc 1 1, 3) := by decide +kernel
theorem dX1_digest_213 : decode cX1_digest 213 = .ok (.goto (-19), 3) := by decide +kernel
theorem dX1_digest_216 : decode cX1_digest 216 = .ok (.iconst 0, 1) := by decide +kernel
theorem dX1_digest_217 : decode cX1_digest 217 = .ok (.istore_n 1, 1) := by decide +kernel
theorem dX1_digest_218 : decode cX1_digest 218 = .ok (.iload_n 1, 1) := by decide +kernel
theorem dX1_digest_219 : decode cX1_digest 219 = .ok (.bipush 6, 2) := by decide +kernel
theorem dX1_digest_221 : decode cX1_digest 221 = .ok (.if_icmp .ge 20, 3) := by decide +kernel
theorem dX1_digest_224 : decode cX1_digest 224 = .ok (.aload_n 0, 1) := by decide +kernel
theorem dX1_digest_225 : decode cX1_digest 225 = .ok (.aload_n 0, 1) := by decide +kernel
theorem dX1_digest_226 : decode cX1_digest 226 = .ok (.getfield 36, 3) := by decide +kernel
theorem dX1_digest_229 : decode cX1_digest 229 = .ok (.iload_n 1, 1) := by decide +kernel
theorem dX1_digest_230 : decode cX1_digest 230 = .ok (.iaload, 1) := by decide +kernel
theorem dX1_digest_231 : decode cX1_digest 231 = .ok (.i2l, 1) := by decide +kernel
theorem dX1_digest_232 : decode cX1_digest 232 = .ok (.invokevirtual 176, 3) := by decide +kernel
theorem dX1_digest_235 : decode cX1_digest 235 = .ok (.iinc 1 1, 3) := by decide +kernel
theorem dX1_digest_238 : decode cX1_digest 238 = .ok (.goto (-20), 3) := by decide +kernel
theorem dX1_digest_241 : decode cX1_digest 241 = .ok (.iconst 0, 1) := by decide +kernel
theorem dX1_digest_242 : decode cX1_digest 242 = .ok (.istore_n 1, 1) := by decide +kernel
theorem dX1_digest_243 : decode cX1_digest 243 = .ok (.iload_n 1, 1) := by decide +kernel
theorem dX1_digest_244 : decode cX1_digest 244 = .ok (.bipush 12, 2) := by decide +kernel
theorem dX1_digest_246 : decode cX1_digest 246 = .ok (.if_icmp .ge 20, 3) := by decide +kernel
theorem dX1_digest_249 : decode cX1_digest 249 = .ok (.aload_n 0, 1) := by decide +kernel
theorem dX1_digest_250 : decode cX1_digest 250 = .ok (.aload_n 0, 1) := by decide +kernel
theorem dX1_digest_251 : decode cX1_digest 251 = .ok (.getfield 39, 3) := by decide +kernel
theorem dX1_digest_254 : decode cX1_digest 254 = .ok (.iload_n 1, 1) := by decide +kernel
theorem dX1_digest_255 : decode cX1_digest 255 = .ok (.iaload, 1) := by decide +kernel
theorem dX1_digest_256 : decode cX1_digest 256 = .ok (.i2l, 1) := by decide +kernel
theorem dX1_digest_257 : decode cX1_digest 257 = .ok (.invokevirtual 176, 3) := by decide +kernel
theorem dX1_digest_260 : decode cX1_digest 260 = .ok (.iinc 1 1, 3) := by decide +kernel
theorem dX1_digest_263 : decode cX1_digest 263 = .ok (.goto (-20), 3) := by decide +kernel
theorem dX1_digest_266 : decode cX1_digest 266 = .ok (.iconst 0, 1) := by decide +kernel
theorem dX1_digest_267 : decode cX1_digest 267 = .ok (.istore_n 1, 1) := by decide +kernel
theorem dX1_digest_268 : decode cX1_digest 268 = .ok (.iload_n 1, 1) := by decide +kernel
theorem dX1_digest_269 : decode cX1_digest 269 = .ok (.aload_n 0, 1) := by decide +kernel
theorem dX1_digest_270 : decode cX1_digest 270 = .ok (.getfield 7, 3) := by decide +kernel
theorem dX1_digest_273 : decode cX1_digest 273 = .ok (.if_icmp .ge 52, 3) := by decide +kernel
theorem dX1_digest_276 : decode cX1_digest 276 = .ok (.iconst 0, 1) := by decide +kernel
theorem dX1_digest_277 : decode cX1_digest 277 = .ok (.istore_n 2, 1) := by decide +kernel
theorem dX1_digest_278 : decode cX1_digest 278 = .ok (.iload_n 2, 1) := by decide +kernel
theorem dX1_digest_279 : decode cX1_digest 279 = .ok (.aload_n 0, 1) := by decide +kernel
theorem dX1_digest_280 : decode cX1_digest 280 = .ok (.getfield 42, 3) := by decide +kernel
theorem dX1_digest_283 : decode cX1_digest 283 = .ok (.iload_n 1, 1) := by decide +kernel
theorem dX1_digest_284 : decode cX1_digest 284 = .ok (.iaload, 1) := by decide +kernel
theorem dX1_digest_285 : decode cX1_digest 285 = .ok (.if_icmp .ge 24, 3) := by decide +kernel
theorem dX1_digest_288 : decode cX1_digest 288 = .ok (.aload_n 0, 1) := by decide +kernel
theorem dX1_digest_289 : decode cX1_digest 289 = .ok (.aload_n 0, 1) := by decide +kernel
theorem dX1_digest_290 : decode cX1_digest 290 = .ok (.getfield 45, 3) := by decide +kernel
theorem dX1_digest_293 : decode cX1_digest 293 = .ok (.iconst 3, 1) := by decide +kernel
theorem dX1_digest_294 : decode cX1_digest 294 = .ok (.iload_n 1, 1) := by decide +kernel
theorem dX1_digest_295 : decode cX1_digest 295 = .ok (.imul, 1) := by decide +kernel
theorem dX1_digest_296 : decode cX1_digest 296 = .ok (.iload_n 2, 1) := by decide +kernel
theorem dX1_digest_297 : decode cX1_digest 297 = .ok (.iadd, 1) := by decide +kernel
theorem dX1_digest_298 : decode cX1_digest 298 = .ok (.iaload, 1) := by decide +kernel
theorem dX1_digest_299 : decode cX1_digest 299 = .ok (.i2l, 1) := by decide +kernel
theorem dX1_digest_300 : decode cX1_digest 300 = .ok (.invokevirtual 176, 3) := by decide +kernel
theorem dX1_digest_303 : decode cX1_digest 303 = .ok (.iinc 2 1, 3) := by decide +kernel
theorem dX1_digest_306 : decode cX1_digest 306 = .ok (.goto (-28), 3) := by decide +kernel
theorem dX1_digest_309 : decode cX1_digest 309 = .ok (.aload_n 0, 1) := by decide +kernel
theorem dX1_digest_310 : decode cX1_digest 310 = .ok (.aload_n 0, 1) := by decide +kernel
theorem dX1_digest_311 : decode cX1_digest 311 = .ok (.iload_n 1, 1) := by decide +kernel
theorem dX1_digest_312 : decode cX1_digest 312 = .ok (.invokevirtual 165, 3) := by decide +kernel
theorem dX1_digest_315 : decode cX1_digest 315 = .ok (.i2l, 1) := by decide +kernel
theorem dX1_digest_316 : decode cX1_digest 316 = .ok (.invokevirtual 176, 3) := by decide +kernel
theorem dX1_digest_319 : decode cX1_digest 319 = .ok (.iinc 1 1, 3) := by decide +kernel
theorem dX1_digest_322 : decode cX1_digest 322 = .ok (.goto (-54), 3) := by decide +kernel
theorem dX1_digest_325 : decode cX1_digest 325 = .ok (.aload_n 0, 1) := by decide +kernel
theorem dX1_digest_326 : decode cX1_digest 326 = .ok (.getfield 170, 3) := by decide +kernel
theorem dX1_digest_329 : decode cX1_digest 329 = .ok (.lreturn, 1) := by decide +kernel
end
section
theorem dJ6_compare_7cf53_0 : decode cJ6_compare_7cf53 0 = .ok (.iload_n 0, 1) := by decide +kernel
theorem dJ6_compare_7cf53_1 : decode cJ6_compare_7cf53 1 = .ok (.iload_n 1, 1) := by decide +kernel
theorem dJ6_compare_7cf53_2 : decode cJ6_compare_7cf53 2 = .ok (.if_icmp .ge 7, 3) := by decide +kernel
theorem dJ6_compare_7cf53_5 : decode cJ6_compare_7cf53 5 = .ok (.iconst (-1), 1) := by decide +kernel
theorem dJ6_compare_7cf53_6 : decode cJ6_compare_7cf53 6 = .ok (.goto 13, 3) := by decide +kernel
theorem dJ6_compare_7cf53_9 : decode cJ6_compare_7cf53 9 = .ok (.iload_n 0, 1) := by decide +kernel
theorem dJ6_compare_7cf53_10 : decode cJ6_compare_7cf53 10 = .ok (.iload_n 1, 1) := by decide +kernel
theorem dJ6_compare_7cf53_11 : decode cJ6_compare_7cf53 11 = .ok (.if_icmp .ne 7, 3) := by decide +kernel
theorem dJ6_compare_7cf53_14 : decode cJ6_compare_7cf53 14 = .ok (.iconst 0, 1) := by decide +kernel
theorem dJ6_compare_7cf53_15 : decode cJ6_compare_7cf53 15 = .ok (.goto 4, 3) := by decide +kernel
theorem dJ6_compare_7cf53_18 : decode cJ6_compare_7cf53 18 = .ok (.iconst 1, 1) := by decide +kernel
theorem dJ6_compare_7cf53_19 : decode cJ6_compare_7cf53 19 = .ok (.ireturn, 1) := by decide +kernel
theorem dJ6_bitCount_0f7a4_0 : decode cJ6_bitCount_0f7a4 0 = .ok (.iload_n 0, 1) := by decide +kernel
theorem dJ6_bitCount_0f7a4_1 : decode cJ6_bitCount_0f7a4 1 = .ok (.iload_n 0, 1) := by decide +kernel
theorem dJ6_bitCount_0f7a4_2 : decode cJ6_bitCount_0f7a4 2 = .ok (.iconst 1, 1) := by decide +kernel
theorem dJ6_bitCount_0f7a4_3 : decode cJ6_bitCount_0f7a4 3 = .ok (.iushr, 1) := by decide +kernel
theorem dJ6_bitCount_0f7a4_4 : decode cJ6_bitCount_0f7a4 4 = .ok (.ldc_w 265, 3) := by decide +kernel
theorem dJ6_bitCount_0f7a4_7 : decode cJ6_bitCount_0f7a4 7 = .ok (.iand, 1) := by decide +kernel
theorem dJ6_bitCount_0f7a4_8 : decode cJ6_bitCount_0f7a4 8 = .ok (.isub, 1) := by decide +kernel
theorem dJ6_bitCount_0f7a4_9 : decode cJ6_bitCount_0f7a4 9 = .ok (.istore_n 0, 1) := by decide +kernel
theorem dJ6_bitCount_0f7a4_10 : decode cJ6_bitCount_0f7a4 10 = .ok (.iload_n 0, 1) := by decide +kernel
theorem dJ6_bitCount_0f7a4_11 : decode cJ6_bitCount_0f7a4 11 = .ok (.ldc_w 266, 3) := by decide +kernel
theorem dJ6_bitCount_0f7a4_14 : decode cJ6_bitCount_0f7a4 14 = .ok (.iand, 1) := by decide +kernel
theorem dJ6_bitCount_0f7a4_15 : decode cJ6_bitCount_0f7a4 15 = .ok (.iload_n 0, 1) := by decide +kernel
theorem dJ6_bitCount_0f7a4_16 : decode cJ6_bitCount_0f7a4 16 = .ok (.iconst 2, 1) := by decide +kernel
theorem dJ6_bitCount_0f7a4_17 : decode cJ6_bitCount_0f7a4 17 = .ok (.iushr, 1) := by decide +kernel
theorem dJ6_bitCount_0f7a4_18 : decode cJ6_bitCount_0f7a4 18 = .ok (.ldc_w 266, 3) := by decide +kernel
theorem dJ6_bitCount_0f7a4_21 : decode cJ6_bitCount_0f7a4 21 = .ok (.iand, 1) := by decide +kernel
theorem dJ6_bitCount_0f7a4_22 : decode cJ6_bitCount_0f7a4 22 = .ok (.iadd, 1) := by decide +kernel
theorem dJ6_bitCount_0f7a4_23 : decode cJ6_bitCount_0f7a4 23 = .ok (.istore_n 0, 1) := by decide +kernel
theorem dJ6_bitCount_0f7a4_24 : decode cJ6_bitCount_0f7a4 24 = .ok (.iload_n 0, 1) := by decide +kernel
theorem dJ6_bitCount_0f7a4_25 : decode cJ6_bitCount_0f7a4 25 = .ok (.iload_n 0, 1) := by decide +kernel
theorem dJ6_bitCount_0f7a4_26 : decode cJ6_bitCount_0f7a4 26 = .ok (.iconst 4, 1) := by decide +kernel
theorem dJ6_bitCount_0f7a4_27 : decode cJ6_bitCount_0f7a4 27 = .ok (.iushr, 1) := by decide +kernel
theorem dJ6_bitCount_0f7a4_28 : decode cJ6_bitCount_0f7a4 28 = .ok (.iadd, 1) := by decide +kernel
theorem dJ6_bitCount_0f7a4_29 : decode cJ6_bitCount_0f7a4 29 = .ok (.ldc_w 267, 3) := by decide +kernel
theorem dJ6_bitCount_0f7a4_32 : decode cJ6_bitCount_0f7a4 32 = .ok (.iand, 1) := by decide +kernel
theorem dJ6_bitCount_0f7a4_33 : decode cJ6_bitCount_0f7a4 33 = .ok (.istore_n 0, 1) := by decide +kernel
theorem dJ6_bitCount_0f7a4_34 : decode cJ6_bitCount_0f7a4 34 = .ok (.iload_n 0, 1) := by decide +kernel
theorem dJ6_bitCount_0f7a4_35 : decode cJ6_bitCount_0f7a4 35 = .ok (.iload_n 0, 1) := by decide +kernel
theorem dJ6_bitCount_0f7a4_36 : decode cJ6_bitCount_0f7a4 36 = .ok (.bipush 8, 2) := by decide +kernel
theorem dJ6_bitCount_0f7a4_38 : decode cJ6_bitCount_0f7a4 38 = .ok (.iushr, 1) := by decide +kernel
theorem dJ6_bitCount_0f7a4_39 : decode cJ6_bitCount_0f7a4 39 = .ok (.iadd, 1) := by decide +kernel
theorem dJ6_bitCount_0f7a4_40 : decode cJ6_bitCount_0f7a4 40 = .ok (.istore_n 0, 1) := by decide +kernel
theorem dJ6_bitCount_0f7a4_41 : decode cJ6_bitCount_0f7a4 41 = .ok (.iload_n 0, 1) := by decide +kernel
theorem dJ6_bitCount_0f7a4_42 : decode cJ6_bitCount_0f7a4 42 = .ok (.iload_n 0, 1) := by decide +kernel
theorem dJ6_bitCount_0f7a4_43 : decode cJ6_bitCount_0f7a4 43 = .ok (.bipush 16, 2) := by decide +kernel
theorem dJ6_bitCount_0f7a4_45 : decode cJ6_bitCount_0f7a4 45 = .ok (.iushr, 1) := by decide +kernel
theorem dJ6_bitCount_0f7a4_46 : decode cJ6_bitCount_0f7a4 46 = .ok (.iadd, 1) := by decide +kernel
theorem dJ6_bitCount_0f7a4_47 : decode cJ6_bitCount_0f7a4 47 = .ok (.istore_n 0, 1) := by decide +kernel
theorem dJ6_bitCount_0f7a4_48 : decode cJ6_bitCount_0f7a4 48 = .ok (.iload_n 0, 1) := by decide +kernel
theorem dJ6_bitCount_0f7a4_49 : decode cJ6_bitCount_0f7a4 49 = .ok (.bipush 63, 2) := by decide +kernel
theorem dJ6_bitCount_0f7a4_51 : decode cJ6_bitCount_0f7a4 51 = .ok (.iand, 1) := by decide +kernel
theorem dJ6_bitCount_0f7a4_52 : decode cJ6_bitCount_0f7a4 52 = .ok (.ireturn, 1) := by decide +kernel
theorem dJ9_max_7cf53_0 : decode cJ9_max_7cf53 0 = .ok (.iload_n 0, 1) := by decide +kernel
theorem dJ9_max_7cf53_1 : decode cJ9_max_7cf53 1 = .ok (.iload_n 1, 1) := by decide +kernel
theorem dJ9_max_7cf53_2 : decode cJ9_max_7cf53 2 = .ok (.if_icmp .lt 7, 3) := by decide +kernel
theorem dJ9_max_7cf53_5 : decode cJ9_max_7cf53 5 = .ok (.iload_n 0, 1) := by decide +kernel
theorem dJ9_max_7cf53_6 : decode cJ9_max_7cf53 6 = .ok (.goto 4, 3) := by decide +kernel
theorem dJ9_max_7cf53_9 : decode cJ9_max_7cf53 9 = .ok (.iload_n 1, 1) := by decide +kernel
theorem dJ9_max_7cf53_10 : decode cJ9_max_7cf53 10 = .ok (.ireturn, 1) := by decide +kernel
theorem dJ9_min_7cf53_0 : decode cJ9_min_7cf53 0 = .ok (.iload_n 0, 1) := by decide +kernel
theorem dJ9_min_7cf53_1 : decode cJ9_min_7cf53 1 = .ok (.iload_n 1, 1) := by decide +kernel
theorem dJ9_min_7cf53_2 : decode cJ9_min_7cf53 2 = .ok (.if_icmp .gt 7, 3) := by decide +kernel
theorem dJ9_min_7cf53_5 : decode cJ9_min_7cf53 5 = .ok (.iload_n 0, 1) := by decide +kernel
theorem dJ9_min_7cf53_6 : decode cJ9_min_7cf53 6 = .ok (.goto 4, 3) := by decide +kernel
theorem dJ9_min_7cf53_9 : decode cJ9_min_7cf53 9 = .ok (.iload_n 1, 1) := by decide +kernel
theorem dJ9_min_7cf53_10 : decode cJ9_min_7cf53 10 = .ok (.ireturn, 1) := by decide +kernel
theorem dJ7_fill_53178_0 : decode cJ7_fill_53178 0 = .ok (.iconst 0, 1) := by decide +kernel
theorem dJ7_fill_53178_1 : decode cJ7_fill_53178 1 = .ok (.istore_n 2, 1) := by decide +kernel
theorem dJ7_fill_53178_2 : decode cJ7_fill_53178 2 = .ok (.aload_n 0, 1) := by decide +kernel
theorem dJ7_fill_53178_3 : decode cJ7_fill_53178 3 = .ok (.arraylength, 1) := by decide +kernel
theorem dJ7_fill_53178_4 : decode cJ7_fill_53178 4 = .ok (.istore_n 3, 1) := by decide +kernel
theorem dJ7_fill_53178_5 : decode cJ7_fill_53178 5 = .ok (.iload_n 2, 1) := by decide +kernel
theorem dJ7_fill_53178_6 : decode cJ7_fill_53178 6 = .ok (.iload_n 3, 1) := by decide +kernel
theorem dJ7_fill_53178_7 : decode cJ7_fill_53178 7 = .ok (.if_icmp .ge 13, 3) := by decide +kernel
theorem dJ7_fill_53178_10 : decode cJ7_fill_53178 10 = .ok (.aload_n 0, 1) := by decide +kernel
theorem dJ7_fill_53178_11 : decode cJ7_fill_53178 11 = .ok (.iload_n 2, 1) := by decide +kernel
theorem dJ7_fill_53178_12 : decode cJ7_fill_53178 12 = .ok (.iload_n 1, 1) := by decide +kernel
theorem dJ7_fill_53178_13 : decode cJ7_fill_53178 13 = .ok (.iastore, 1) := by decide +kernel
theorem dJ7_fill_53178_14 : decode cJ7_fill_53178 14 = .ok (.iinc 2 1, 3) := by decide +kernel
theorem dJ7_fill_53178_17 : decode cJ7_fill_53178 17 = .ok (.goto (-12), 3) := by decide +kernel
theorem dJ7_fill_53178_20 : decode cJ7_fill_53178 20 = .ok (.return_, 1) := by decide +kernel
set_option maxRecDepth 20000 in
theorem ggL_law_X0_init : GoodIn wsL_law wsX0_init := goodIn_r _ [8, 9, 10, 11, 12, 13, 14, 15, 16, 17, 18, 19, 20, 21, 22, 23, 24, 25, 26, 27, 28, 29, 30, 31, 32, 33, 34, 35, 2, 36, 556, 557, 558, 559, 560, 561, 562, 563, 564, 565, 566, 567, 568, 569, 570, 571] (by decide +kernel) (by decide +kernel)
set_option maxRecDepth 20000 in
theorem gL_law_X0_init : GoodIn wsL_law (wsX0_init) := ggL_law_X0_init
set_option maxRecDepth 20000 in
theorem ggL_law_X1_init : GoodIn wsL_law wsX1_init := goodIn_r _ [39, 40, 10, 11, 41, 42, 14, 43, 44, 45, 46, 47, 48, 49, 50, 51, 52, 53, 54, 55, 56, 57, 58, 59, 5, 60, 61, 572, 573, 574, 575, 576, 577, 578, 579, 580, 581, 582, 583, 584, 585, 586, 587, 588, 589, 590, 591, 592, 593, 594] (by decide +kernel) (by decide +kernel)
set_option maxRecDepth 20000 in
theorem gL_law_X1_init : GoodIn wsL_law (wsX1_init) := ggL_law_X1_init
set_option maxRecDepth 20000 in
theorem ggL_law_X0_contest : GoodIn wsL_law wsX0_contest := goodIn_r _ [65, 12, 13, 66, 67, 2, 68, 33, 34, 35, 36, 15, 16, 17, 23, 24, 29, 30, 31, 32, 556, 557, 558, 559, 560, 561, 562, 563, 564, 565, 566, 567, 568, 569, 570, 571] (by decide +kernel) (by decide +kernel)
set_option maxRecDepth 20000 in
theorem gL_law_X0_contest : GoodIn wsL_law (wsV RL 13 RX0 yX0_contest wsX0_contest) := goodIn_app (goodIn_of _ (by decide +kernel)) ggL_law_X0_contest
set_option maxRecDepth 20000 in
theorem ggL_law_X1_contest : GoodIn wsL_law wsX1_contest := goodIn_r _ [72, 41, 42, 73, 74, 5, 75, 57, 58, 59, 60, 43, 45, 46, 52, 61, 572, 573, 574, 575, 576, 577, 578, 579, 580, 581, 582, 583, 584, 585, 586, 587, 588, 589, 590, 591, 592, 593, 594] (by decide +kernel) (by decide +kernel)
set_option maxRecDepth 20000 in
theorem gL_law_X1_contest : GoodIn wsL_law (wsV RL 17 RX1 yX1_contest wsX1_contest) := goodIn_app (goodIn_of _ (by decide +kernel)) ggL_law_X1_contest
set_option maxRecDepth 20000 in
theorem ggL_law_X0_mark : GoodIn wsL_law wsX0_mark := goodIn_r _ [79, 15, 80, 81, 2, 82, 66, 67, 68, 83, 84, 85, 86, 13, 87, 88, 89, 90, 12, 91, 92, 93, 94, 95, 96, 556, 557, 558, 559, 560, 561, 562, 563, 564, 565, 566, 567, 568, 569, 570, 571] (by decide +kernel) (by decide +kernel)
set_option maxRecDepth 20000 in
theorem gL_law_X0_mark : GoodIn wsL_law (wsV RL 18 RX0 yX0_mark wsX0_mark) := goodIn_app (goodIn_of _ (by decide +kernel)) ggL_law_X0_mark
set_option maxRecDepth 20000 in
theorem ggL_law_X1_mark : GoodIn wsL_law wsX1_mark := goodIn_r _ [100, 43, 101, 102, 5, 103, 73, 74, 75, 104, 105, 106, 107, 42, 108, 109, 110, 111, 41, 572, 573, 574, 575, 576, 577, 578, 579, 580, 581, 582, 583, 584, 585, 586, 587, 588, 589, 590, 591, 592, 593, 594] (by decide +kernel) (by decide +kernel)
set_option maxRecDepth 20000 in
theorem gL_law_X1_mark : GoodIn wsL_law (wsV RL 22 RX1 yX1_mark wsX1_mark) := goodIn_app (goodIn_of _ (by decide +kernel)) ggL_law_X1_mark
set_option maxRecDepth 20000 in
theorem ggL_law_X0_yes : GoodIn wsL_law wsX0_yes := goodIn_r _ [115, 16, 80, 81, 2, 82, 66, 67, 68, 83, 84, 85, 86, 13, 87, 88, 89, 90, 12, 91, 92, 93, 94, 95, 96, 556, 557, 558, 559, 560, 561, 562, 563, 564, 565, 566, 567, 568, 569, 570, 571] (by decide +kernel) (by decide +kernel)
set_option maxRecDepth 20000 in
theorem gL_law_X0_yes : GoodIn wsL_law (wsV RL 23 RX0 yX0_yes wsX0_yes) := goodIn_app (goodIn_of _ (by decide +kernel)) ggL_law_X0_yes
set_option maxRecDepth 20000 in
theorem ggL_law_X1_yes : GoodIn wsL_law wsX1_yes := goodIn_r _ [119, 45, 101, 102, 5, 103, 73, 74, 75, 104, 105, 106, 107, 42, 108, 109, 110, 111, 41, 572, 573, 574, 575, 576, 577, 578, 579, 580, 581, 582, 583, 584, 585, 586, 587, 588, 589, 590, 591, 592, 593, 594] (by decide +kernel) (by decide +kernel)
set_option maxRecDepth 20000 in
theorem gL_law_X1_yes : GoodIn wsL_law (wsV RL 27 RX1 yX1_yes wsX1_yes) := goodIn_app (goodIn_of _ (by decide +kernel)) ggL_law_X1_yes
set_option maxRecDepth 20000 in
theorem ggL_law_X0_pupil : GoodIn wsL_law wsX0_pupil := goodIn_r _ [123, 17, 83, 84, 85, 2, 86, 13, 66, 67, 68, 87, 88, 89, 90, 12, 124, 125, 126, 94, 95, 96, 556, 557, 558, 559, 560, 561, 562, 563, 564, 565, 566, 567, 568, 569, 570, 571] (by decide +kernel) (by decide +kernel)
set_option maxRecDepth 20000 in
theorem gL_law_X0_pupil : GoodIn wsL_law (wsV RL 28 RX0 yX0_pupil wsX0_pupil) := goodIn_app (goodIn_of _ (by decide +kernel)) ggL_law_X0_pupil
set_option maxRecDepth 20000 in
theorem ggL_law_X1_pupil : GoodIn wsL_law wsX1_pupil := goodIn_r _ [130, 46, 104, 105, 106, 5, 107, 42, 73, 74, 75, 108, 109, 110, 111, 41, 572, 573, 574, 575, 576, 577, 578, 579, 580, 581, 582, 583, 584, 585, 586, 587, 588, 589, 590, 591, 592, 593, 594] (by decide +kernel) (by decide +kernel)
set_option maxRecDepth 20000 in
theorem gL_law_X1_pupil : GoodIn wsL_law (wsV RL 32 RX1 yX1_pupil wsX1_pupil) := goodIn_app (goodIn_of _ (by decide +kernel)) ggL_law_X1_pupil
set_option maxRecDepth 20000 in
theorem ggL_law_X0_rule : GoodIn wsL_law wsX0_rule := goodIn_r _ [134, 18, 66, 67, 2, 68, 94, 95, 96, 556, 557, 558, 559, 560, 561, 562, 563, 564, 565, 566, 567, 568, 569, 570, 571] (by decide +kernel) (by decide +kernel)
set_option maxRecDepth 20000 in
theorem gL_law_X0_rule : GoodIn wsL_law (wsV RL 33 RX0 yX0_rule wsX0_rule) := goodIn_app (goodIn_of _ (by decide +kernel)) ggL_law_X0_rule
set_option maxRecDepth 20000 in
theorem ggL_law_X1_rule : GoodIn wsL_law wsX1_rule := goodIn_r _ [138, 47, 48, 73, 74, 5, 75, 572, 573, 574, 575, 576, 577, 578, 579, 580, 581, 582, 583, 584, 585, 586, 587, 588, 589, 590, 591, 592, 593, 594] (by decide +kernel) (by decide +kernel)
set_option maxRecDepth 20000 in
theorem gL_law_X1_rule : GoodIn wsL_law (wsV RL 36 RX1 yX1_rule wsX1_rule) := goodIn_app (goodIn_of _ (by decide +kernel)) ggL_law_X1_rule
set_option maxRecDepth 20000 in
theorem ggL_law_X0_score : GoodIn wsL_law wsX0_score := goodIn_r _ [142, 80, 81, 2, 82, 66, 67, 68, 87, 88, 89, 90, 12, 143, 144, 145, 146, 147, 148, 149, 150, 25, 151, 152, 153, 154, 155, 13, 156, 157, 158, 159, 17, 15, 124, 125, 126, 91, 92, 93, 160, 161, 162, 163, 164, 165, 166, 167, 18, 168, 169, 170, 171, 172, 173, 174, 175, 176, 177, 178, 179, 16, 180, 181, 182, 183, 184, 185, 186, 187, 188, 189, 190, 191, 192, 193, 194, 195, 196, 197, 198, 199, 200, 201, 202, 203, 204, 205, 206, 556, 557, 558, 559, 560, 561, 562, 563, 564, 565, 566, 567, 568, 569, 570, 571] (by decide +kernel) (by decide +kernel)
set_option maxRecDepth 20000 in
theorem gL_law_X0_score : GoodIn wsL_law (wsV RL 37 RX0 yX0_score wsX0_score) := goodIn_app (goodIn_of _ (by decide +kernel)) ggL_law_X0_score
set_option maxRecDepth 20000 in
theorem ggL_law_X1_score : GoodIn wsL_law wsX1_score := goodIn_r _ [210, 101, 102, 5, 103, 73, 74, 75, 108, 109, 110, 111, 41, 211, 212, 213, 214, 215, 216, 217, 218, 55, 219, 220, 221, 222, 42, 43, 223, 224, 225, 226, 46, 227, 228, 229, 230, 47, 231, 232, 233, 234, 45, 235, 236, 237, 238, 239, 240, 241, 242, 243, 244, 245, 246, 247, 248, 249, 250, 48, 572, 573, 574, 575, 576, 577, 578, 579, 580, 581, 582, 583, 584, 585, 586, 587, 588, 589, 590, 591, 592, 593, 594] (by decide +kernel) (by decide +kernel)
set_option maxRecDepth 20000 in
theorem gL_law_X1_score : GoodIn wsL_law (wsV RL 41 RX1 yX1_score wsX1_score) := goodIn_app (goodIn_of _ (by decide +kernel)) ggL_law_X1_score
set_option maxRecDepth 20000 in
theorem ggL_law_X0_beats : GoodIn wsL_law wsX0_beats := goodIn_r _ [254, 80, 81, 2, 82, 66, 67, 68, 87, 88, 89, 90, 12, 188, 189, 190, 191, 13, 156, 157, 158, 159, 17, 15, 124, 125, 126, 91, 92, 93, 192, 193, 194, 195, 556, 557, 558, 559, 560, 561, 562, 563, 564, 565, 566, 567, 568, 569, 570, 571] (by decide +kernel) (by decide +kernel)
set_option maxRecDepth 20000 in
theorem gL_law_X0_beats : GoodIn wsL_law (wsV RL 42 RX0 yX0_beats wsX0_beats) := goodIn_app (goodIn_of _ (by decide +kernel)) ggL_law_X0_beats
set_option maxRecDepth 20000 in
theorem ggL_law_X1_beats : GoodIn wsL_law wsX1_beats := goodIn_r _ [258, 101, 102, 5, 103, 73, 74, 75, 108, 109, 110, 111, 41, 243, 244, 245, 246, 42, 43, 223, 224, 225, 226, 46, 572, 573, 574, 575, 576, 577, 578, 579, 580, 581, 582, 583, 584, 585, 586, 587, 588, 589, 590, 591, 592, 593, 594] (by decide +kernel) (by decide +kernel)
set_option maxRecDepth 20000 in
theorem gL_law_X1_beats : GoodIn wsL_law (wsV RL 45 RX1 yX1_beats wsX1_beats) := goodIn_app (goodIn_of _ (by decide +kernel)) ggL_law_X1_beats
set_option maxRecDepth 20000 in
theorem ggL_law_X0_place : GoodIn wsL_law wsX0_place := goodIn_r _ [262, 26, 80, 81, 2, 82, 66, 67, 68, 87, 88, 89, 90, 12, 143, 144, 145, 263, 264, 265, 266, 146, 147, 148, 149, 150, 25, 151, 152, 153, 154, 155, 13, 156, 157, 158, 159, 17, 15, 124, 125, 126, 91, 92, 93, 160, 161, 162, 163, 164, 165, 166, 167, 18, 168, 169, 170, 171, 172, 173, 174, 175, 176, 177, 178, 179, 16, 180, 181, 182, 183, 184, 185, 186, 187, 188, 189, 190, 191, 192, 193, 194, 195, 196, 197, 198, 199, 200, 201, 202, 203, 204, 205, 206, 267, 268, 269, 270, 556, 557, 558, 559, 560, 561, 562, 563, 564, 565, 566, 567, 568, 569, 570, 571] (by decide +kernel) (by decide +kernel)
set_option maxRecDepth 20000 in
theorem gL_law_X0_place : GoodIn wsL_law (wsV RL 46 RX0 yX0_place wsX0_place) := goodIn_app (goodIn_of _ (by decide +kernel)) ggL_law_X0_place
set_option maxRecDepth 20000 in
theorem ggL_law_X1_place : GoodIn wsL_law wsX1_place := goodIn_r _ [274, 101, 102, 5, 103, 73, 74, 75, 108, 109, 110, 111, 41, 275, 276, 277, 278, 211, 212, 213, 214, 215, 216, 217, 218, 55, 219, 220, 221, 222, 42, 43, 223, 224, 225, 226, 46, 227, 228, 229, 230, 47, 231, 232, 233, 234, 45, 235, 236, 237, 238, 239, 240, 241, 242, 243, 244, 245, 246, 247, 248, 249, 250, 48, 572, 573, 574, 575, 576, 577, 578, 579, 580, 581, 582, 583, 584, 585, 586, 587, 588, 589, 590, 591, 592, 593, 594] (by decide +kernel) (by decide +kernel)
set_option maxRecDepth 20000 in
theorem gL_law_X1_place : GoodIn wsL_law (wsV RL 49 RX1 yX1_place wsX1_place) := goodIn_app (goodIn_of _ (by decide +kernel)) ggL_law_X1_place
set_option maxRecDepth 20000 in
theorem ggL_law_X0_passed : GoodIn wsL_law wsX0_passed := goodIn_r _ [282, 80, 81, 2, 82, 66, 67, 68, 143, 144, 145, 283, 284, 285, 286, 287, 288, 289, 12, 26, 263, 264, 265, 266, 146, 147, 148, 149, 150, 25, 151, 152, 153, 154, 155, 13, 156, 157, 158, 159, 17, 15, 124, 125, 126, 91, 92, 93, 160, 161, 162, 163, 164, 165, 166, 167, 18, 168, 169, 170, 171, 172, 173, 174, 175, 176, 177, 178, 179, 16, 180, 181, 182, 183, 184, 185, 186, 187, 188, 189, 190, 191, 192, 193, 194, 195, 196, 197, 198, 199, 200, 201, 202, 203, 204, 205, 206, 290, 291, 292, 293, 267, 268, 269, 270, 556, 557, 558, 559, 560, 561, 562, 563, 564, 565, 566, 567, 568, 569, 570, 571] (by decide +kernel) (by decide +kernel)
set_option maxRecDepth 20000 in
theorem gL_law_X0_passed : GoodIn wsL_law (wsV RL 50 RX0 yX0_passed wsX0_passed) := goodIn_app (goodIn_of _ (by decide +kernel)) ggL_law_X0_passed
set_option maxRecDepth 20000 in
theorem ggL_law_X1_passed : GoodIn wsL_law wsX1_passed := goodIn_r _ [297, 101, 102, 5, 103, 73, 74, 75, 298, 299, 300, 301, 41, 302, 303, 304, 305, 239, 240, 241, 242, 42, 223, 224, 225, 226, 46, 43, 275, 276, 277, 278, 211, 212, 213, 214, 215, 216, 217, 218, 55, 219, 220, 221, 222, 227, 228, 229, 230, 47, 231, 232, 233, 234, 45, 235, 236, 237, 238, 243, 244, 245, 246, 247, 248, 249, 250, 48, 572, 573, 574, 575, 576, 577, 578, 579, 580, 581, 582, 583, 584, 585, 586, 587, 588, 589, 590, 591, 592, 593, 594] (by decide +kernel) (by decide +kernel)
set_option maxRecDepth 20000 in
theorem gL_law_X1_passed : GoodIn wsL_law (wsV RL 53 RX1 yX1_passed wsX1_passed) := goodIn_app (goodIn_of _ (by decide +kernel)) ggL_law_X1_passed
set_option maxRecDepth 20000 in
theorem ggL_law_X0_differ : GoodIn wsL_law wsX0_differ := goodIn_r _ [309, 80, 81, 2, 82, 66, 67, 68, 143, 144, 145, 283, 284, 285, 286, 287, 288, 289, 12, 26, 263, 264, 265, 266, 146, 147, 148, 149, 150, 25, 151, 152, 153, 154, 155, 13, 156, 157, 158, 159, 17, 15, 124, 125, 126, 91, 92, 93, 160, 161, 162, 163, 164, 165, 166, 167, 18, 168, 169, 170, 171, 172, 173, 174, 175, 176, 177, 178, 179, 16, 180, 181, 182, 183, 184, 185, 186, 187, 188, 189, 190, 191, 192, 193, 194, 195, 196, 197, 198, 199, 200, 201, 202, 203, 204, 205, 206, 290, 291, 292, 293, 267, 268, 269, 270, 310, 311, 312, 313, 314, 315, 556, 557, 558, 559, 560, 561, 562, 563, 564, 565, 566, 567, 568, 569, 570, 571] (by decide +kernel) (by decide +kernel)
set_option maxRecDepth 20000 in
theorem gL_law_X0_differ : GoodIn wsL_law (wsV RL 54 RX0 yX0_differ wsX0_differ) := goodIn_app (goodIn_of _ (by decide +kernel)) ggL_law_X0_differ
set_option maxRecDepth 20000 in
theorem ggL_law_X1_differ : GoodIn wsL_law wsX1_differ := goodIn_r _ [319, 41, 101, 102, 5, 103, 73, 74, 75, 298, 299, 300, 301, 302, 303, 304, 305, 239, 240, 241, 242, 42, 223, 224, 225, 226, 46, 43, 275, 276, 277, 278, 211, 212, 213, 214, 215, 216, 217, 218, 55, 219, 220, 221, 222, 227, 228, 229, 230, 47, 231, 232, 233, 234, 45, 235, 236, 237, 238, 243, 244, 245, 246, 247, 248, 249, 250, 48, 572, 573, 574, 575, 576, 577, 578, 579, 580, 581, 582, 583, 584, 585, 586, 587, 588, 589, 590, 591, 592, 593, 594] (by decide +kernel) (by decide +kernel)
set_option maxRecDepth 20000 in
theorem gL_law_X1_differ : GoodIn wsL_law (wsV RL 57 RX1 yX1_differ wsX1_differ) := goodIn_app (goodIn_of _ (by decide +kernel)) ggL_law_X1_differ
set_option maxRecDepth 20000 in
theorem ggL_law_X0_reach : GoodIn wsL_law wsX0_reach := goodIn_r _ [323, 26, 80, 81, 2, 82, 66, 67, 68, 83, 84, 85, 86, 13, 87, 88, 89, 90, 12, 143, 144, 145, 324, 325, 326, 327, 17, 124, 125, 126, 328, 329, 330, 331, 15, 16, 91, 92, 93, 263, 264, 265, 266, 146, 147, 148, 149, 150, 25, 151, 152, 153, 154, 155, 156, 157, 158, 159, 160, 161, 162, 163, 164, 165, 166, 167, 18, 168, 169, 170, 171, 172, 173, 174, 175, 176, 177, 178, 179, 180, 181, 182, 183, 184, 185, 186, 187, 188, 189, 190, 191, 192, 193, 194, 195, 196, 197, 198, 199, 200, 201, 202, 203, 204, 205, 206, 267, 268, 269, 270, 556, 557, 558, 559, 560, 561, 562, 563, 564, 565, 566, 567, 568, 569, 570, 571] (by decide +kernel) (by decide +kernel)
set_option maxRecDepth 20000 in
theorem gL_law_X0_reach : GoodIn wsL_law (wsV RL 58 RX0 yX0_reach wsX0_reach) := goodIn_app (goodIn_of _ (by decide +kernel)) ggL_law_X0_reach
set_option maxRecDepth 20000 in
theorem ggL_law_X1_reach : GoodIn wsL_law wsX1_reach := goodIn_r _ [335, 46, 336, 337, 101, 102, 5, 103, 73, 74, 75, 104, 105, 106, 107, 42, 108, 109, 110, 111, 41, 338, 339, 340, 341, 342, 343, 45, 43, 344, 345, 346, 347, 275, 276, 277, 278, 211, 212, 213, 214, 215, 216, 217, 218, 55, 219, 220, 221, 222, 223, 224, 225, 226, 227, 228, 229, 230, 47, 231, 232, 233, 234, 235, 236, 237, 238, 239, 240, 241, 242, 243, 244, 245, 246, 247, 248, 249, 250, 48, 302, 303, 304, 305, 572, 573, 574, 575, 576, 577, 578, 579, 580, 581, 582, 583, 584, 585, 586, 587, 588, 589, 590, 591, 592, 593, 594] (by decide +kernel) (by decide +kernel)
set_option maxRecDepth 20000 in
theorem gL_law_X1_reach : GoodIn wsL_law (wsV RL 62 RX1 yX1_reach wsX1_reach) := goodIn_app (goodIn_of _ (by decide +kernel)) ggL_law_X1_reach
set_option maxRecDepth 20000 in
theorem ggL_law_X0_sway : GoodIn wsL_law wsX0_sway := goodIn_r _ [351, 12, 26, 80, 81, 2, 82, 66, 67, 68, 83, 84, 85, 86, 13, 143, 144, 145, 283, 284, 285, 286, 287, 288, 289, 263, 264, 265, 266, 146, 147, 148, 149, 150, 25, 151, 152, 153, 154, 155, 156, 157, 158, 159, 17, 15, 124, 125, 126, 91, 92, 93, 160, 161, 162, 163, 164, 165, 166, 167, 18, 168, 169, 170, 171, 172, 173, 174, 175, 176, 177, 178, 179, 16, 180, 181, 182, 183, 184, 185, 186, 187, 188, 189, 190, 191, 192, 193, 194, 195, 196, 197, 198, 199, 200, 201, 202, 203, 204, 205, 206, 290, 291, 292, 293, 267, 268, 269, 270, 324, 325, 326, 327, 328, 329, 330, 331, 556, 557, 558, 559, 560, 561, 562, 563, 564, 565, 566, 567, 568, 569, 570, 571] (by decide +kernel) (by decide +kernel)
set_option maxRecDepth 20000 in
theorem gL_law_X0_sway : GoodIn wsL_law (wsV RL 63 RX0 yX0_sway wsX0_sway) := goodIn_app (goodIn_of _ (by decide +kernel)) ggL_law_X0_sway
set_option maxRecDepth 20000 in
theorem ggL_law_X1_sway : GoodIn wsL_law wsX1_sway := goodIn_r _ [355, 41, 46, 343, 342, 101, 102, 5, 103, 73, 74, 75, 104, 105, 106, 107, 42, 302, 303, 304, 305, 239, 240, 241, 242, 223, 224, 225, 226, 43, 275, 276, 277, 278, 211, 212, 213, 214, 215, 216, 217, 218, 55, 219, 220, 221, 222, 227, 228, 229, 230, 47, 231, 232, 233, 234, 45, 235, 236, 237, 238, 243, 244, 245, 246, 247, 248, 249, 250, 48, 338, 339, 340, 341, 336, 337, 344, 345, 346, 347, 572, 573, 574, 575, 576, 577, 578, 579, 580, 581, 582, 583, 584, 585, 586, 587, 588, 589, 590, 591, 592, 593, 594] (by decide +kernel) (by decide +kernel)
set_option maxRecDepth 20000 in
theorem gL_law_X1_sway : GoodIn wsL_law (wsV RL 66 RX1 yX1_sway wsX1_sway) := goodIn_app (goodIn_of _ (by decide +kernel)) ggL_law_X1_sway
set_option maxRecDepth 20000 in
theorem ggL_law_X0_weight : GoodIn wsL_law wsX0_weight := goodIn_r _ [359, 19, 80, 81, 2, 82, 66, 67, 68, 94, 95, 96, 556, 557, 558, 559, 560, 561, 562, 563, 564, 565, 566, 567, 568, 569, 570, 571] (by decide +kernel) (by decide +kernel)
set_option maxRecDepth 20000 in
theorem gL_law_X0_weight : GoodIn wsL_law (wsV RL 67 RX0 yX0_weight wsX0_weight) := goodIn_app (goodIn_of _ (by decide +kernel)) ggL_law_X0_weight
set_option maxRecDepth 20000 in
theorem ggL_law_X1_weight : GoodIn wsL_law wsX1_weight := goodIn_r _ [363, 49, 101, 102, 5, 103, 73, 74, 75, 572, 573, 574, 575, 576, 577, 578, 579, 580, 581, 582, 583, 584, 585, 586, 587, 588, 589, 590, 591, 592, 593, 594] (by decide +kernel) (by decide +kernel)
set_option maxRecDepth 20000 in
theorem gL_law_X1_weight : GoodIn wsL_law (wsV RL 70 RX1 yX1_weight wsX1_weight) := goodIn_app (goodIn_of _ (by decide +kernel)) ggL_law_X1_weight
set_option maxRecDepth 20000 in
theorem ggL_law_X0_total : GoodIn wsL_law wsX0_total := goodIn_r _ [367, 87, 88, 89, 2, 90, 12, 66, 67, 68, 368, 369, 370, 371, 19, 146, 147, 148, 149, 150, 25, 151, 152, 153, 154, 155, 13, 156, 157, 158, 159, 17, 15, 124, 125, 126, 91, 92, 93, 160, 161, 162, 163, 164, 165, 166, 167, 18, 168, 169, 170, 171, 172, 173, 174, 175, 176, 177, 178, 179, 16, 180, 181, 182, 183, 184, 185, 186, 187, 188, 189, 190, 191, 192, 193, 194, 195, 196, 197, 198, 199, 200, 201, 202, 203, 204, 205, 206, 556, 557, 558, 559, 560, 561, 562, 563, 564, 565, 566, 567, 568, 569, 570, 571] (by decide +kernel) (by decide +kernel)
set_option maxRecDepth 20000 in
theorem gL_law_X0_total : GoodIn wsL_law (wsV RL 71 RX0 yX0_total wsX0_total) := goodIn_app (goodIn_of _ (by decide +kernel)) ggL_law_X0_total
set_option maxRecDepth 20000 in
theorem ggL_law_X1_total : GoodIn wsL_law wsX1_total := goodIn_r _ [375, 108, 109, 110, 5, 111, 41, 73, 74, 75, 376, 377, 378, 379, 49, 211, 212, 213, 214, 215, 216, 217, 218, 55, 219, 220, 221, 222, 42, 43, 223, 224, 225, 226, 46, 227, 228, 229, 230, 47, 231, 232, 233, 234, 45, 235, 236, 237, 238, 239, 240, 241, 242, 243, 244, 245, 246, 247, 248, 249, 250, 48, 572, 573, 574, 575, 576, 577, 578, 579, 580, 581, 582, 583, 584, 585, 586, 587, 588, 589, 590, 591, 592, 593, 594] (by decide +kernel) (by decide +kernel)
set_option maxRecDepth 20000 in
theorem gL_law_X1_total : GoodIn wsL_law (wsV RL 75 RX1 yX1_total wsX1_total) := goodIn_app (goodIn_of _ (by decide +kernel)) ggL_law_X1_total
set_option maxRecDepth 20000 in
theorem ggL_law_X0_last : GoodIn wsL_law wsX0_last := goodIn_r _ [383, 27, 87, 88, 89, 2, 90, 12, 66, 67, 68, 384, 385, 386, 387, 368, 369, 370, 371, 19, 146, 147, 148, 149, 150, 25, 151, 152, 153, 154, 155, 13, 156, 157, 158, 159, 17, 15, 124, 125, 126, 91, 92, 93, 160, 161, 162, 163, 164, 165, 166, 167, 18, 168, 169, 170, 171, 172, 173, 174, 175, 176, 177, 178, 179, 16, 180, 181, 182, 183, 184, 185, 186, 187, 188, 189, 190, 191, 192, 193, 194, 195, 196, 197, 198, 199, 200, 201, 202, 203, 204, 205, 206, 267, 268, 269, 270, 556, 557, 558, 559, 560, 561, 562, 563, 564, 565, 566, 567, 568, 569, 570, 571] (by decide +kernel) (by decide +kernel)
set_option maxRecDepth 20000 in
theorem gL_law_X0_last : GoodIn wsL_law (wsV RL 76 RX0 yX0_last wsX0_last) := goodIn_app (goodIn_of _ (by decide +kernel)) ggL_law_X0_last
set_option maxRecDepth 20000 in
theorem ggL_law_X1_last : GoodIn wsL_law wsX1_last := goodIn_r _ [391, 108, 109, 110, 5, 111, 41, 73, 74, 75, 392, 393, 394, 395, 376, 377, 378, 379, 49, 211, 212, 213, 214, 215, 216, 217, 218, 55, 219, 220, 221, 222, 42, 43, 223, 224, 225, 226, 46, 227, 228, 229, 230, 47, 231, 232, 233, 234, 45, 235, 236, 237, 238, 239, 240, 241, 242, 243, 244, 245, 246, 247, 248, 249, 250, 48, 572, 573, 574, 575, 576, 577, 578, 579, 580, 581, 582, 583, 584, 585, 586, 587, 588, 589, 590, 591, 592, 593, 594] (by decide +kernel) (by decide +kernel)
set_option maxRecDepth 20000 in
theorem gL_law_X1_last : GoodIn wsL_law (wsV RL 79 RX1 yX1_last wsX1_last) := goodIn_app (goodIn_of _ (by decide +kernel)) ggL_law_X1_last
set_option maxRecDepth 20000 in
theorem ggL_law_X0_prize : GoodIn wsL_law wsX0_prize := goodIn_r _ [399, 400, 20, 66, 67, 2, 68, 94, 95, 96, 556, 557, 558, 559, 560, 561, 562, 563, 564, 565, 566, 567, 568, 569, 570, 571] (by decide +kernel) (by decide +kernel)
set_option maxRecDepth 20000 in
theorem gL_law_X0_prize : GoodIn wsL_law (wsV RL 80 RX0 yX0_prize wsX0_prize) := goodIn_app (goodIn_of _ (by decide +kernel)) ggL_law_X0_prize
set_option maxRecDepth 20000 in
theorem ggL_law_X1_prize : GoodIn wsL_law wsX1_prize := goodIn_r _ [404, 405, 50, 73, 74, 5, 75, 572, 573, 574, 575, 576, 577, 578, 579, 580, 581, 582, 583, 584, 585, 586, 587, 588, 589, 590, 591, 592, 593, 594] (by decide +kernel) (by decide +kernel)
set_option maxRecDepth 20000 in
theorem gL_law_X1_prize : GoodIn wsL_law (wsV RL 83 RX1 yX1_prize wsX1_prize) := goodIn_app (goodIn_of _ (by decide +kernel)) ggL_law_X1_prize
set_option maxRecDepth 20000 in
theorem ggL_law_X0_wins : GoodIn wsL_law wsX0_wins := goodIn_r _ [409, 87, 88, 89, 2, 90, 12, 66, 67, 68, 384, 385, 386, 387, 27, 368, 369, 370, 371, 19, 146, 147, 148, 149, 150, 25, 151, 152, 153, 154, 155, 13, 156, 157, 158, 159, 17, 15, 124, 125, 126, 91, 92, 93, 160, 161, 162, 163, 164, 165, 166, 167, 18, 168, 169, 170, 171, 172, 173, 174, 175, 176, 177, 178, 179, 16, 180, 181, 182, 183, 184, 185, 186, 187, 188, 189, 190, 191, 192, 193, 194, 195, 196, 197, 198, 199, 200, 201, 202, 203, 204, 205, 206, 410, 411, 412, 413, 20, 267, 268, 269, 270, 556, 557, 558, 559, 560, 561, 562, 563, 564, 565, 566, 567, 568, 569, 570, 571] (by decide +kernel) (by decide +kernel)
set_option maxRecDepth 20000 in
theorem gL_law_X0_wins : GoodIn wsL_law (wsV RL 84 RX0 yX0_wins wsX0_wins) := goodIn_app (goodIn_of _ (by decide +kernel)) ggL_law_X0_wins
set_option maxRecDepth 20000 in
theorem ggL_law_X1_wins : GoodIn wsL_law wsX1_wins := goodIn_r _ [417, 108, 109, 110, 5, 111, 41, 73, 74, 75, 418, 419, 420, 421, 50, 376, 377, 378, 379, 49, 211, 212, 213, 214, 215, 216, 217, 218, 55, 219, 220, 221, 222, 42, 43, 223, 224, 225, 226, 46, 227, 228, 229, 230, 47, 231, 232, 233, 234, 45, 235, 236, 237, 238, 239, 240, 241, 242, 243, 244, 245, 246, 247, 248, 249, 250, 48, 392, 393, 394, 395, 572, 573, 574, 575, 576, 577, 578, 579, 580, 581, 582, 583, 584, 585, 586, 587, 588, 589, 590, 591, 592, 593, 594] (by decide +kernel) (by decide +kernel)
set_option maxRecDepth 20000 in
theorem gL_law_X1_wins : GoodIn wsL_law (wsV RL 87 RX1 yX1_wins wsX1_wins) := goodIn_app (goodIn_of _ (by decide +kernel)) ggL_law_X1_wins
set_option maxRecDepth 20000 in
theorem ggL_law_X0_rest : GoodIn wsL_law wsX0_rest := goodIn_r _ [425, 20, 12, 384, 385, 386, 2, 387, 27, 368, 369, 370, 371, 19, 146, 147, 148, 149, 150, 25, 151, 152, 153, 154, 155, 13, 156, 157, 158, 159, 17, 15, 124, 125, 126, 91, 92, 93, 160, 161, 162, 163, 164, 165, 166, 167, 18, 168, 169, 170, 171, 172, 173, 174, 175, 176, 177, 178, 179, 16, 180, 181, 182, 183, 184, 185, 186, 187, 188, 189, 190, 191, 192, 193, 194, 195, 196, 197, 198, 199, 200, 201, 202, 203, 204, 205, 206, 426, 427, 428, 410, 411, 412, 413, 267, 268, 269, 270, 556, 557, 558, 559, 560, 561, 562, 563, 564, 565, 566, 567, 568, 569, 570, 571] (by decide +kernel) (by decide +kernel)
set_option maxRecDepth 20000 in
theorem gL_law_X0_rest : GoodIn wsL_law (wsV RL 88 RX0 yX0_rest wsX0_rest) := goodIn_app (goodIn_of _ (by decide +kernel)) ggL_law_X0_rest
set_option maxRecDepth 20000 in
theorem ggL_law_X1_rest : GoodIn wsL_law wsX1_rest := goodIn_r _ [432, 50, 41, 418, 419, 420, 5, 421, 376, 377, 378, 379, 49, 211, 212, 213, 214, 215, 216, 217, 218, 55, 219, 220, 221, 222, 42, 43, 223, 224, 225, 226, 46, 227, 228, 229, 230, 47, 231, 232, 233, 234, 45, 235, 236, 237, 238, 239, 240, 241, 242, 243, 244, 245, 246, 247, 248, 249, 250, 48, 392, 393, 394, 395, 572, 573, 574, 575, 576, 577, 578, 579, 580, 581, 582, 583, 584, 585, 586, 587, 588, 589, 590, 591, 592, 593, 594] (by decide +kernel) (by decide +kernel)
set_option maxRecDepth 20000 in
theorem gL_law_X1_rest : GoodIn wsL_law (wsV RL 92 RX1 yX1_rest wsX1_rest) := goodIn_app (goodIn_of _ (by decide +kernel)) ggL_law_X1_rest
set_option maxRecDepth 20000 in
theorem ggL_law_X0_work : GoodIn wsL_law wsX0_work := goodIn_r _ [436, 21, 437, 438, 2, 439, 66, 67, 68, 94, 95, 96, 556, 557, 558, 559, 560, 561, 562, 563, 564, 565, 566, 567, 568, 569, 570, 571] (by decide +kernel) (by decide +kernel)
set_option maxRecDepth 20000 in
theorem gL_law_X0_work : GoodIn wsL_law (wsV RL 93 RX0 yX0_work wsX0_work) := goodIn_app (goodIn_of _ (by decide +kernel)) ggL_law_X0_work
set_option maxRecDepth 20000 in
theorem ggL_law_X1_work : GoodIn wsL_law wsX1_work := goodIn_r _ [443, 51, 73, 74, 5, 75, 572, 573, 574, 575, 576, 577, 578, 579, 580, 581, 582, 583, 584, 585, 586, 587, 588, 589, 590, 591, 592, 593, 594] (by decide +kernel) (by decide +kernel)
set_option maxRecDepth 20000 in
theorem gL_law_X1_work : GoodIn wsL_law (wsV RL 96 RX1 yX1_work wsX1_work) := goodIn_app (goodIn_of _ (by decide +kernel)) ggL_law_X1_work
set_option maxRecDepth 20000 in
theorem ggL_law_X0_programme : GoodIn wsL_law wsX0_programme := goodIn_r _ [447, 23, 22, 87, 88, 89, 2, 90, 12, 66, 67, 68, 448, 449, 450, 556, 557, 558, 559, 560, 561, 562, 563, 564, 565, 566, 567, 568, 569, 570, 571] (by decide +kernel) (by decide +kernel)
set_option maxRecDepth 20000 in
theorem gL_law_X0_programme : GoodIn wsL_law (wsV RL 97 RX0 yX0_programme wsX0_programme) := goodIn_app (goodIn_of _ (by decide +kernel)) ggL_law_X0_programme
set_option maxRecDepth 20000 in
theorem ggL_law_X1_programme : GoodIn wsL_law wsX1_programme := goodIn_r _ [454, 52, 53, 108, 109, 110, 5, 111, 41, 73, 74, 75, 572, 573, 574, 575, 576, 577, 578, 579, 580, 581, 582, 583, 584, 585, 586, 587, 588, 589, 590, 591, 592, 593, 594] (by decide +kernel) (by decide +kernel)
set_option maxRecDepth 20000 in
theorem gL_law_X1_programme : GoodIn wsL_law (wsV RL 100 RX1 yX1_programme wsX1_programme) := goodIn_app (goodIn_of _ (by decide +kernel)) ggL_law_X1_programme
set_option maxRecDepth 20000 in
theorem ggL_law_X0_plan : GoodIn wsL_law wsX0_plan := goodIn_r _ [458, 24, 66, 67, 2, 68, 29, 30, 31, 32, 459, 460, 461, 462, 12, 23, 22, 28, 448, 449, 450, 463, 464, 465, 466, 21, 467, 468, 469, 470, 556, 557, 558, 559, 560, 561, 562, 563, 564, 565, 566, 567, 568, 569, 570, 571] (by decide +kernel) (by decide +kernel)
set_option maxRecDepth 20000 in
theorem gL_law_X0_plan : GoodIn wsL_law (wsV RL 101 RX0 yX0_plan wsX0_plan) := goodIn_app (goodIn_of _ (by decide +kernel)) ggL_law_X0_plan
set_option maxRecDepth 20000 in
theorem ggL_law_X1_plan : GoodIn wsL_law wsX1_plan := goodIn_r _ [474, 56, 54, 41, 53, 52, 61, 73, 74, 5, 75, 475, 476, 477, 478, 479, 480, 481, 482, 51, 572, 573, 574, 575, 576, 577, 578, 579, 580, 581, 582, 583, 584, 585, 586, 587, 588, 589, 590, 591, 592, 593, 594] (by decide +kernel) (by decide +kernel)
set_option maxRecDepth 20000 in
theorem gL_law_X1_plan : GoodIn wsL_law (wsV RL 104 RX1 yX1_plan wsX1_plan) := goodIn_app (goodIn_of _ (by decide +kernel)) ggL_law_X1_plan
set_option maxRecDepth 20000 in
theorem ggL_law_X0_chosen : GoodIn wsL_law wsX0_chosen := goodIn_r _ [486, 24, 87, 88, 89, 2, 90, 12, 66, 67, 68, 556, 557, 558, 559, 560, 561, 562, 563, 564, 565, 566, 567, 568, 569, 570, 571] (by decide +kernel) (by decide +kernel)
set_option maxRecDepth 20000 in
theorem gL_law_X0_chosen : GoodIn wsL_law (wsV RL 105 RX0 yX0_chosen wsX0_chosen) := goodIn_app (goodIn_of _ (by decide +kernel)) ggL_law_X0_chosen
set_option maxRecDepth 20000 in
theorem ggL_law_X1_chosen : GoodIn wsL_law wsX1_chosen := goodIn_r _ [490, 108, 109, 110, 5, 111, 41, 73, 74, 75, 491, 492, 493, 494, 61, 54, 572, 573, 574, 575, 576, 577, 578, 579, 580, 581, 582, 583, 584, 585, 586, 587, 588, 589, 590, 591, 592, 593, 594] (by decide +kernel) (by decide +kernel)
set_option maxRecDepth 20000 in
theorem gL_law_X1_chosen : GoodIn wsL_law (wsV RL 108 RX1 yX1_chosen wsX1_chosen) := goodIn_app (goodIn_of _ (by decide +kernel)) ggL_law_X1_chosen
set_option maxRecDepth 20000 in
theorem ggL_law_X0_heard : GoodIn wsL_law wsX0_heard := goodIn_r _ [498, 12, 24, 22, 437, 438, 2, 439, 66, 67, 68, 448, 449, 450, 556, 557, 558, 559, 560, 561, 562, 563, 564, 565, 566, 567, 568, 569, 570, 571] (by decide +kernel) (by decide +kernel)
set_option maxRecDepth 20000 in
theorem gL_law_X0_heard : GoodIn wsL_law (wsV RL 109 RX0 yX0_heard wsX0_heard) := goodIn_app (goodIn_of _ (by decide +kernel)) ggL_law_X0_heard
set_option maxRecDepth 20000 in
theorem ggL_law_X1_heard : GoodIn wsL_law wsX1_heard := goodIn_r _ [502, 61, 56, 73, 74, 5, 75, 572, 573, 574, 575, 576, 577, 578, 579, 580, 581, 582, 583, 584, 585, 586, 587, 588, 589, 590, 591, 592, 593, 594] (by decide +kernel) (by decide +kernel)
set_option maxRecDepth 20000 in
theorem gL_law_X1_heard : GoodIn wsL_law (wsV RL 112 RX1 yX1_heard wsX1_heard) := goodIn_app (goodIn_of _ (by decide +kernel)) ggL_law_X1_heard
set_option maxRecDepth 20000 in
theorem ggL_law_X0_drawn : GoodIn wsL_law wsX0_drawn := goodIn_r _ [506, 12, 87, 88, 89, 2, 90, 66, 67, 68, 507, 508, 509, 510, 511, 512, 556, 557, 558, 559, 560, 561, 562, 563, 564, 565, 566, 567, 568, 569, 570, 571] (by decide +kernel) (by decide +kernel)
set_option maxRecDepth 20000 in
theorem gL_law_X0_drawn : GoodIn wsL_law (wsV RL 113 RX0 yX0_drawn wsX0_drawn) := goodIn_app (goodIn_of _ (by decide +kernel)) ggL_law_X0_drawn
set_option maxRecDepth 20000 in
theorem ggL_law_X1_drawn : GoodIn wsL_law wsX1_drawn := goodIn_r _ [516, 41, 73, 74, 5, 75, 572, 573, 574, 575, 576, 577, 578, 579, 580, 581, 582, 583, 584, 585, 586, 587, 588, 589, 590, 591, 592, 593, 594] (by decide +kernel) (by decide +kernel)
set_option maxRecDepth 20000 in
theorem gL_law_X1_drawn : GoodIn wsL_law (wsV RL 116 RX1 yX1_drawn wsX1_drawn) := goodIn_app (goodIn_of _ (by decide +kernel)) ggL_law_X1_drawn
set_option maxRecDepth 20000 in
theorem ggL_law_X0_count : GoodIn wsL_law wsX0_count := goodIn_r _ [520, 12, 13, 16, 17, 23, 521, 522, 523, 2, 524, 15, 426, 427, 428, 556, 557, 558, 559, 560, 561, 562, 563, 564, 565, 566, 567, 568, 569, 570, 571] (by decide +kernel) (by decide +kernel)
set_option maxRecDepth 20000 in
theorem gL_law_X0_count : GoodIn wsL_law (wsV RL 117 RX0 yX0_count wsX0_count) := goodIn_app (goodIn_of _ (by decide +kernel)) ggL_law_X0_count
set_option maxRecDepth 20000 in
theorem ggL_law_X1_count : GoodIn wsL_law wsX1_count := goodIn_r _ [528, 41, 42, 43, 45, 46, 52, 572, 573, 574, 575, 576, 577, 578, 579, 580, 581, 582, 583, 584, 585, 586, 587, 588, 589, 590, 591, 592, 593, 594] (by decide +kernel) (by decide +kernel)
set_option maxRecDepth 20000 in
theorem gL_law_X1_count : GoodIn wsL_law (wsV RL 120 RX1 yX1_count wsX1_count) := goodIn_app (goodIn_of _ (by decide +kernel)) ggL_law_X1_count
set_option maxRecDepth 20000 in
theorem ggL_law_X0_digest : GoodIn wsL_law wsX0_digest := goodIn_r _ [532, 533, 12, 13, 17, 18, 19, 20, 21, 23, 22, 24, 534, 535, 2, 536, 537, 538, 539, 540, 541, 15, 16, 91, 92, 93, 124, 125, 126, 542, 543, 544, 448, 449, 450, 556, 557, 558, 559, 560, 561, 562, 563, 564, 565, 566, 567, 568, 569, 570, 571] (by decide +kernel) (by decide +kernel)
set_option maxRecDepth 20000 in
theorem gL_law_X0_digest : GoodIn wsL_law (wsV RL 121 RX0 yX0_digest wsX0_digest) := goodIn_app (goodIn_of _ (by decide +kernel)) ggL_law_X0_digest
set_option maxRecDepth 20000 in
theorem ggL_law_X1_digest : GoodIn wsL_law wsX1_digest := goodIn_r _ [548, 549, 550, 41, 42, 43, 45, 46, 47, 48, 49, 50, 51, 52, 53, 551, 552, 553, 5, 554, 555, 491, 492, 493, 494, 61, 54, 572, 573, 574, 575, 576, 577, 578, 579, 580, 581, 582, 583, 584, 585, 586, 587, 588, 589, 590, 591, 592, 593, 594] (by decide +kernel) (by decide +kernel)
set_option maxRecDepth 20000 in
theorem gL_law_X1_digest : GoodIn wsL_law (wsV RL 125 RX1 yX1_digest wsX1_digest) := goodIn_app (goodIn_of _ (by decide +kernel)) ggL_law_X1_digest
theorem dL_law_0 : decode cL_law 0 = .ok (.new 7, 3) := by decide +kernel
theorem dL_law_3 : decode cL_law 3 = .ok (.dup, 1) := by decide +kernel
theorem dL_law_4 : decode cL_law 4 = .ok (.invokespecial 9, 3) := by decide +kernel
theorem dL_law_7 : decode cL_law 7 = .ok (.astore_n 1, 1) := by decide +kernel
theorem dL_law_8 : decode cL_law 8 = .ok (.new 10, 3) := by decide +kernel
theorem dL_law_11 : decode cL_law 11 = .ok (.dup, 1) := by decide +kernel
theorem dL_law_12 : decode cL_law 12 = .ok (.invokespecial 12, 3) := by decide +kernel
theorem dL_law_15 : decode cL_law 15 = .ok (.astore_n 2, 1) := by decide +kernel
theorem dL_law_16 : decode cL_law 16 = .ok (.iconst 0, 1) := by decide +kernel
theorem dL_law_17 : decode cL_law 17 = .ok (.istore_n 3, 1) := by decide +kernel
theorem dL_law_18 : decode cL_law 18 = .ok (.iload_n 3, 1) := by decide +kernel
theorem dL_law_19 : decode cL_law 19 = .ok (.aload_n 0, 1) := by decide +kernel
theorem dL_law_20 : decode cL_law 20 = .ok (.arraylength, 1) := by decide +kernel
theorem dL_law_21 : decode cL_law 21 = .ok (.bipush 6, 2) := by decide +kernel
theorem dL_law_23 : decode cL_law 23 = .ok (.isub, 1) := by decide +kernel
theorem dL_law_24 : decode cL_law 24 = .ok (.if_icmp .gt 1095, 3) := by decide +kernel
theorem dL_law_27 : decode cL_law 27 = .ok (.aload_n 0, 1) := by decide +kernel
theorem dL_law_28 : decode cL_law 28 = .ok (.iload_n 3, 1) := by decide +kernel
theorem dL_law_29 : decode cL_law 29 = .ok (.iaload, 1) := by decide +kernel
theorem dL_law_30 : decode cL_law 30 = .ok (.bipush 31, 2) := by decide +kernel
theorem dL_law_32 : decode cL_law 32 = .ok (.iand, 1) := by decide +kernel
theorem dL_law_33 : decode cL_law 33 = .ok (.tableswitch 1080 0 25 #[119, 152, 205, 274, 333, 366, 409, 452, 495, 538, 591, 654, 707, 740, 763, 786, 819, 842, 855, 888, 921, 964, 987, 1010, 1043, 1066], 119) := by decide +kernel
theorem dL_law_152 : decode cL_law 152 = .ok (.aload_n 1, 1) := by decide +kernel
theorem dL_law_153 : decode cL_law 153 = .ok (.aload_n 0, 1) := by decide +kernel
theorem dL_law_154 : decode cL_law 154 = .ok (.iload_n 3, 1) := by decide +kernel
theorem dL_law_155 : decode cL_law 155 = .ok (.iconst 1, 1) := by decide +kernel
theorem dL_law_156 : decode cL_law 156 = .ok (.iadd, 1) := by decide +kernel
theorem dL_law_157 : decode cL_law 157 = .ok (.iaload, 1) := by decide +kernel
theorem dL_law_158 : decode cL_law 158 = .ok (.aload_n 0, 1) := by decide +kernel
theorem dL_law_159 : decode cL_law 159 = .ok (.iload_n 3, 1) := by decide +kernel
theorem dL_law_160 : decode cL_law 160 = .ok (.iconst 2, 1) := by decide +kernel
theorem dL_law_161 : decode cL_law 161 = .ok (.iadd, 1) := by decide +kernel
theorem dL_law_162 : decode cL_law 162 = .ok (.iaload, 1) := by decide +kernel
theorem dL_law_163 : decode cL_law 163 = .ok (.invokevirtual 13, 3) := by decide +kernel
theorem dL_law_166 : decode cL_law 166 = .ok (.aload_n 2, 1) := by decide +kernel
theorem dL_law_167 : decode cL_law 167 = .ok (.aload_n 0, 1) := by decide +kernel
theorem dL_law_168 : decode cL_law 168 = .ok (.iload_n 3, 1) := by decide +kernel
theorem dL_law_169 : decode cL_law 169 = .ok (.iconst 1, 1) := by decide +kernel
theorem dL_law_170 : decode cL_law 170 = .ok (.iadd, 1) := by decide +kernel
theorem dL_law_171 : decode cL_law 171 = .ok (.iaload, 1) := by decide +kernel
theorem dL_law_172 : decode cL_law 172 = .ok (.aload_n 0, 1) := by decide +kernel
theorem dL_law_173 : decode cL_law 173 = .ok (.iload_n 3, 1) := by decide +kernel
theorem dL_law_174 : decode cL_law 174 = .ok (.iconst 2, 1) := by decide +kernel
theorem dL_law_175 : decode cL_law 175 = .ok (.iadd, 1) := by decide +kernel
theorem dL_law_176 : decode cL_law 176 = .ok (.iaload, 1) := by decide +kernel
theorem dL_law_177 : decode cL_law 177 = .ok (.invokevirtual 17, 3) := by decide +kernel
theorem dL_law_180 : decode cL_law 180 = .ok (.if_icmp .eq 933, 3) := by decide +kernel
theorem dL_law_183 : decode cL_law 183 = .ok (.iconst 0, 1) := by decide +kernel
theorem dL_law_184 : decode cL_law 184 = .ok (.ireturn, 1) := by decide +kernel
theorem dL_law_185 : decode cL_law 185 = .ok (.aload_n 1, 1) := by decide +kernel
theorem dL_law_186 : decode cL_law 186 = .ok (.aload_n 0, 1) := by decide +kernel
theorem dL_law_187 : decode cL_law 187 = .ok (.iload_n 3, 1) := by decide +kernel
theorem dL_law_188 : decode cL_law 188 = .ok (.iconst 1, 1) := by decide +kernel
theorem dL_law_189 : decode cL_law 189 = .ok (.iadd, 1) := by decide +kernel
theorem dL_law_190 : decode cL_law 190 = .ok (.iaload, 1) := by decide +kernel
theorem dL_law_191 : decode cL_law 191 = .ok (.aload_n 0, 1) := by decide +kernel
theorem dL_law_192 : decode cL_law 192 = .ok (.iload_n 3, 1) := by decide +kernel
theorem dL_law_193 : decode cL_law 193 = .ok (.iconst 2, 1) := by decide +kernel
theorem dL_law_194 : decode cL_law 194 = .ok (.iadd, 1) := by decide +kernel
theorem dL_law_195 : decode cL_law 195 = .ok (.iaload, 1) := by decide +kernel
theorem dL_law_196 : decode cL_law 196 = .ok (.aload_n 0, 1) := by decide +kernel
theorem dL_law_197 : decode cL_law 197 = .ok (.iload_n 3, 1) := by decide +kernel
theorem dL_law_198 : decode cL_law 198 = .ok (.iconst 3, 1) := by decide +kernel
theorem dL_law_199 : decode cL_law 199 = .ok (.iadd, 1) := by decide +kernel
theorem dL_law_200 : decode cL_law 200 = .ok (.iaload, 1) := by decide +kernel
theorem dL_law_201 : decode cL_law 201 = .ok (.aload_n 0, 1) := by decide +kernel
theorem dL_law_202 : decode cL_law 202 = .ok (.iload_n 3, 1) := by decide +kernel
theorem dL_law_203 : decode cL_law 203 = .ok (.iconst 4, 1) := by decide +kernel
theorem dL_law_204 : decode cL_law 204 = .ok (.iadd, 1) := by decide +kernel
theorem dL_law_205 : decode cL_law 205 = .ok (.iaload, 1) := by decide +kernel
theorem dL_law_206 : decode cL_law 206 = .ok (.invokevirtual 18, 3) := by decide +kernel
theorem dL_law_209 : decode cL_law 209 = .ok (.aload_n 2, 1) := by decide +kernel
theorem dL_law_210 : decode cL_law 210 = .ok (.aload_n 0, 1) := by decide +kernel
theorem dL_law_211 : decode cL_law 211 = .ok (.iload_n 3, 1) := by decide +kernel
theorem dL_law_212 : decode cL_law 212 = .ok (.iconst 1, 1) := by decide +kernel
theorem dL_law_213 : decode cL_law 213 = .ok (.iadd, 1) := by decide +kernel
theorem dL_law_214 : decode cL_law 214 = .ok (.iaload, 1) := by decide +kernel
theorem dL_law_215 : decode cL_law 215 = .ok (.aload_n 0, 1) := by decide +kernel
theorem dL_law_216 : decode cL_law 216 = .ok (.iload_n 3, 1) := by decide +kernel
theorem dL_law_217 : decode cL_law 217 = .ok (.iconst 2, 1) := by decide +kernel
theorem dL_law_218 : decode cL_law 218 = .ok (.iadd, 1) := by decide +kernel
theorem dL_law_219 : decode cL_law 219 = .ok (.iaload, 1) := by decide +kernel
theorem dL_law_220 : decode cL_law 220 = .ok (.aload_n 0, 1) := by decide +kernel
theorem dL_law_221 : decode cL_law 221 = .ok (.iload_n 3, 1) := by decide +kernel
theorem dL_law_222 : decode cL_law 222 = .ok (.iconst 3, 1) := by decide +kernel
theorem dL_law_223 : decode cL_law 223 = .ok (.iadd, 1) := by decide +kernel
theorem dL_law_224 : decode cL_law 224 = .ok (.iaload, 1) := by decide +kernel
theorem dL_law_225 : decode cL_law 225 = .ok (.aload_n 0, 1) := by decide +kernel
theorem dL_law_226 : decode cL_law 226 = .ok (.iload_n 3, 1) := by decide +kernel
theorem dL_law_227 : decode cL_law 227 = .ok (.iconst 4, 1) := by decide +kernel
theorem dL_law_228 : decode cL_law 228 = .ok (.iadd, 1) := by decide +kernel
theorem dL_law_229 : decode cL_law 229 = .ok (.iaload, 1) := by decide +kernel
theorem dL_law_230 : decode cL_law 230 = .ok (.invokevirtual 22, 3) := by decide +kernel
theorem dL_law_233 : decode cL_law 233 = .ok (.if_icmp .eq 880, 3) := by decide +kernel
theorem dL_law_236 : decode cL_law 236 = .ok (.iconst 0, 1) := by decide +kernel
theorem dL_law_237 : decode cL_law 237 = .ok (.ireturn, 1) := by decide +kernel
theorem dL_law_238 : decode cL_law 238 = .ok (.aload_n 1, 1) := by decide +kernel
theorem dL_law_239 : decode cL_law 239 = .ok (.aload_n 0, 1) := by decide +kernel
theorem dL_law_240 : decode cL_law 240 = .ok (.iload_n 3, 1) := by decide +kernel
theorem dL_law_241 : decode cL_law 241 = .ok (.iconst 1, 1) := by decide +kernel
theorem dL_law_242 : decode cL_law 242 = .ok (.iadd, 1) := by decide +kernel
theorem dL_law_243 : decode cL_law 243 = .ok (.iaload, 1) := by decide +kernel
theorem dL_law_244 : decode cL_law 244 = .ok (.aload_n 0, 1) := by decide +kernel
theorem dL_law_245 : decode cL_law 245 = .ok (.iload_n 3, 1) := by decide +kernel
theorem dL_law_246 : decode cL_law 246 = .ok (.iconst 2, 1) := by decide +kernel
theorem dL_law_247 : decode cL_law 247 = .ok (.iadd, 1) := by decide +kernel
theorem dL_law_248 : decode cL_law 248 = .ok (.iaload, 1) := by decide +kernel
theorem dL_law_249 : decode cL_law 249 = .ok (.aload_n 0, 1) := by decide +kernel
theorem dL_law_250 : decode cL_law 250 = .ok (.iload_n 3, 1) := by decide +kernel
theorem dL_law_251 : decode cL_law 251 = .ok (.iconst 3, 1) := by decide +kernel
theorem dL_law_252 : decode cL_law 252 = .ok (.iadd, 1) := by decide +kernel
theorem dL_law_253 : decode cL_law 253 = .ok (.iaload, 1) := by decide +kernel
theorem dL_law_254 : decode cL_law 254 = .ok (.aload_n 0, 1) := by decide +kernel
theorem dL_law_255 : decode cL_law 255 = .ok (.iload_n 3, 1) := by decide +kernel
theorem dL_law_256 : decode cL_law 256 = .ok (.iconst 4, 1) := by decide +kernel
theorem dL_law_257 : decode cL_law 257 = .ok (.iadd, 1) := by decide +kernel
theorem dL_law_258 : decode cL_law 258 = .ok (.iaload, 1) := by decide +kernel
theorem dL_law_259 : decode cL_law 259 = .ok (.ifCond .eq 7, 3) := by decide +kernel
theorem dL_law_262 : decode cL_law 262 = .ok (.iconst 1, 1) := by decide +kernel
theorem dL_law_263 : decode cL_law 263 = .ok (.goto 4, 3) := by decide +kernel
theorem dL_law_266 : decode cL_law 266 = .ok (.iconst 0, 1) := by decide +kernel
theorem dL_law_267 : decode cL_law 267 = .ok (.invokevirtual 23, 3) := by decide +kernel
theorem dL_law_270 : decode cL_law 270 = .ok (.aload_n 2, 1) := by decide +kernel
theorem dL_law_271 : decode cL_law 271 = .ok (.aload_n 0, 1) := by decide +kernel
theorem dL_law_272 : decode cL_law 272 = .ok (.iload_n 3, 1) := by decide +kernel
theorem dL_law_273 : decode cL_law 273 = .ok (.iconst 1, 1) := by decide +kernel
theorem dL_law_274 : decode cL_law 274 = .ok (.iadd, 1) := by decide +kernel
theorem dL_law_275 : decode cL_law 275 = .ok (.iaload, 1) := by decide +kernel
theorem dL_law_276 : decode cL_law 276 = .ok (.aload_n 0, 1) := by decide +kernel
theorem dL_law_277 : decode cL_law 277 = .ok (.iload_n 3, 1) := by decide +kernel
theorem dL_law_278 : decode cL_law 278 = .ok (.iconst 2, 1) := by decide +kernel
theorem dL_law_279 : decode cL_law 279 = .ok (.iadd, 1) := by decide +kernel
theorem dL_law_280 : decode cL_law 280 = .ok (.iaload, 1) := by decide +kernel
theorem dL_law_281 : decode cL_law 281 = .ok (.aload_n 0, 1) := by decide +kernel
theorem dL_law_282 : decode cL_law 282 = .ok (.iload_n 3, 1) := by decide +kernel
theorem dL_law_283 : decode cL_law 283 = .ok (.iconst 3, 1) := by decide +kernel
theorem dL_law_284 : decode cL_law 284 = .ok (.iadd, 1) := by decide +kernel
theorem dL_law_285 : decode cL_law 285 = .ok (.iaload, 1) := by decide +kernel
theorem dL_law_286 : decode cL_law 286 = .ok (.aload_n 0, 1) := by decide +kernel
theorem dL_law_287 : decode cL_law 287 = .ok (.iload_n 3, 1) := by decide +kernel
theorem dL_law_288 : decode cL_law 288 = .ok (.iconst 4, 1) := by decide +kernel
theorem dL_law_289 : decode cL_law 289 = .ok (.iadd, 1) := by decide +kernel
theorem dL_law_290 : decode cL_law 290 = .ok (.iaload, 1) := by decide +kernel
theorem dL_law_291 : decode cL_law 291 = .ok (.ifCond .eq 7, 3) := by decide +kernel
theorem dL_law_294 : decode cL_law 294 = .ok (.iconst 1, 1) := by decide +kernel
theorem dL_law_295 : decode cL_law 295 = .ok (.goto 4, 3) := by decide +kernel
theorem dL_law_298 : decode cL_law 298 = .ok (.iconst 0, 1) := by decide +kernel
theorem dL_law_299 : decode cL_law 299 = .ok (.invokevirtual 27, 3) := by decide +kernel
theorem dL_law_302 : decode cL_law 302 = .ok (.if_icmp .eq 811, 3) := by decide +kernel
theorem dL_law_305 : decode cL_law 305 = .ok (.iconst 0, 1) := by decide +kernel
theorem dL_law_306 : decode cL_law 306 = .ok (.ireturn, 1) := by decide +kernel
theorem dL_law_307 : decode cL_law 307 = .ok (.aload_n 1, 1) := by decide +kernel
theorem dL_law_308 : decode cL_law 308 = .ok (.aload_n 0, 1) := by decide +kernel
theorem dL_law_309 : decode cL_law 309 = .ok (.iload_n 3, 1) := by decide +kernel
theorem dL_law_310 : decode cL_law 310 = .ok (.iconst 1, 1) := by decide +kernel
theorem dL_law_311 : decode cL_law 311 = .ok (.iadd, 1) := by decide +kernel
theorem dL_law_312 : decode cL_law 312 = .ok (.iaload, 1) := by decide +kernel
theorem dL_law_313 : decode cL_law 313 = .ok (.aload_n 0, 1) := by decide +kernel
theorem dL_law_314 : decode cL_law 314 = .ok (.iload_n 3, 1) := by decide +kernel
theorem dL_law_315 : decode cL_law 315 = .ok (.iconst 2, 1) := by decide +kernel
theorem dL_law_316 : decode cL_law 316 = .ok (.iadd, 1) := by decide +kernel
theorem dL_law_317 : decode cL_law 317 = .ok (.iaload, 1) := by decide +kernel
theorem dL_law_318 : decode cL_law 318 = .ok (.aload_n 0, 1) := by decide +kernel
theorem dL_law_319 : decode cL_law 319 = .ok (.iload_n 3, 1) := by decide +kernel
theorem dL_law_320 : decode cL_law 320 = .ok (.iconst 3, 1) := by decide +kernel
theorem dL_law_321 : decode cL_law 321 = .ok (.iadd, 1) := by decide +kernel
theorem dL_law_322 : decode cL_law 322 = .ok (.iaload, 1) := by decide +kernel
theorem dL_law_323 : decode cL_law 323 = .ok (.ifCond .eq 7, 3) := by decide +kernel
theorem dL_law_326 : decode cL_law 326 = .ok (.iconst 1, 1) := by decide +kernel
theorem dL_law_327 : decode cL_law 327 = .ok (.goto 4, 3) := by decide +kernel
theorem dL_law_330 : decode cL_law 330 = .ok (.iconst 0, 1) := by decide +kernel
theorem dL_law_331 : decode cL_law 331 = .ok (.invokevirtual 28, 3) := by decide +kernel
theorem dL_law_334 : decode cL_law 334 = .ok (.aload_n 2, 1) := by decide +kernel
theorem dL_law_335 : decode cL_law 335 = .ok (.aload_n 0, 1) := by decide +kernel
theorem dL_law_336 : decode cL_law 336 = .ok (.iload_n 3, 1) := by decide +kernel
theorem dL_law_337 : decode cL_law 337 = .ok (.iconst 1, 1) := by decide +kernel
theorem dL_law_338 : decode cL_law 338 = .ok (.iadd, 1) := by decide +kernel
theorem dL_law_339 : decode cL_law 339 = .ok (.iaload, 1) := by decide +kernel
theorem dL_law_340 : decode cL_law 340 = .ok (.aload_n 0, 1) := by decide +kernel
theorem dL_law_341 : decode cL_law 341 = .ok (.iload_n 3, 1) := by decide +kernel
theorem dL_law_342 : decode cL_law 342 = .ok (.iconst 2, 1) := by decide +kernel
theorem dL_law_343 : decode cL_law 343 = .ok (.iadd, 1) := by decide +kernel
theorem dL_law_344 : decode cL_law 344 = .ok (.iaload, 1) := by decide +kernel
theorem dL_law_345 : decode cL_law 345 = .ok (.aload_n 0, 1) := by decide +kernel
theorem dL_law_346 : decode cL_law 346 = .ok (.iload_n 3, 1) := by decide +kernel
theorem dL_law_347 : decode cL_law 347 = .ok (.iconst 3, 1) := by decide +kernel
theorem dL_law_348 : decode cL_law 348 = .ok (.iadd, 1) := by decide +kernel
theorem dL_law_349 : decode cL_law 349 = .ok (.iaload, 1) := by decide +kernel
theorem dL_law_350 : decode cL_law 350 = .ok (.ifCond .eq 7, 3) := by decide +kernel
theorem dL_law_353 : decode cL_law 353 = .ok (.iconst 1, 1) := by decide +kernel
theorem dL_law_354 : decode cL_law 354 = .ok (.goto 4, 3) := by decide +kernel
theorem dL_law_357 : decode cL_law 357 = .ok (.iconst 0, 1) := by decide +kernel
theorem dL_law_358 : decode cL_law 358 = .ok (.invokevirtual 32, 3) := by decide +kernel
theorem dL_law_361 : decode cL_law 361 = .ok (.if_icmp .eq 752, 3) := by decide +kernel
theorem dL_law_364 : decode cL_law 364 = .ok (.iconst 0, 1) := by decide +kernel
theorem dL_law_365 : decode cL_law 365 = .ok (.ireturn, 1) := by decide +kernel
theorem dL_law_366 : decode cL_law 366 = .ok (.aload_n 1, 1) := by decide +kernel
theorem dL_law_367 : decode cL_law 367 = .ok (.aload_n 0, 1) := by decide +kernel
theorem dL_law_368 : decode cL_law 368 = .ok (.iload_n 3, 1) := by decide +kernel
theorem dL_law_369 : decode cL_law 369 = .ok (.iconst 1, 1) := by decide +kernel
theorem dL_law_370 : decode cL_law 370 = .ok (.iadd, 1) := by decide +kernel
theorem dL_law_371 : decode cL_law 371 = .ok (.iaload, 1) := by decide +kernel
theorem dL_law_372 : decode cL_law 372 = .ok (.aload_n 0, 1) := by decide +kernel
theorem dL_law_373 : decode cL_law 373 = .ok (.iload_n 3, 1) := by decide +kernel
theorem dL_law_374 : decode cL_law 374 = .ok (.iconst 2, 1) := by decide +kernel
theorem dL_law_375 : decode cL_law 375 = .ok (.iadd, 1) := by decide +kernel
theorem dL_law_376 : decode cL_law 376 = .ok (.iaload, 1) := by decide +kernel
theorem dL_law_377 : decode cL_law 377 = .ok (.invokevirtual 33, 3) := by decide +kernel
theorem dL_law_380 : decode cL_law 380 = .ok (.aload_n 2, 1) := by decide +kernel
theorem dL_law_381 : decode cL_law 381 = .ok (.aload_n 0, 1) := by decide +kernel
theorem dL_law_382 : decode cL_law 382 = .ok (.iload_n 3, 1) := by decide +kernel
theorem dL_law_383 : decode cL_law 383 = .ok (.iconst 1, 1) := by decide +kernel
theorem dL_law_384 : decode cL_law 384 = .ok (.iadd, 1) := by decide +kernel
theorem dL_law_385 : decode cL_law 385 = .ok (.iaload, 1) := by decide +kernel
theorem dL_law_386 : decode cL_law 386 = .ok (.aload_n 0, 1) := by decide +kernel
theorem dL_law_387 : decode cL_law 387 = .ok (.iload_n 3, 1) := by decide +kernel
theorem dL_law_388 : decode cL_law 388 = .ok (.iconst 2, 1) := by decide +kernel
theorem dL_law_389 : decode cL_law 389 = .ok (.iadd, 1) := by decide +kernel
theorem dL_law_390 : decode cL_law 390 = .ok (.iaload, 1) := by decide +kernel
theorem dL_law_391 : decode cL_law 391 = .ok (.invokevirtual 36, 3) := by decide +kernel
theorem dL_law_394 : decode cL_law 394 = .ok (.if_icmp .eq 719, 3) := by decide +kernel
theorem dL_law_397 : decode cL_law 397 = .ok (.iconst 0, 1) := by decide +kernel
theorem dL_law_398 : decode cL_law 398 = .ok (.ireturn, 1) := by decide +kernel
theorem dL_law_399 : decode cL_law 399 = .ok (.aload_n 1, 1) := by decide +kernel
theorem dL_law_400 : decode cL_law 400 = .ok (.aload_n 0, 1) := by decide +kernel
theorem dL_law_401 : decode cL_law 401 = .ok (.iload_n 3, 1) := by decide +kernel
theorem dL_law_402 : decode cL_law 402 = .ok (.iconst 1, 1) := by decide +kernel
theorem dL_law_403 : decode cL_law 403 = .ok (.iadd, 1) := by decide +kernel
theorem dL_law_404 : decode cL_law 404 = .ok (.iaload, 1) := by decide +kernel
theorem dL_law_405 : decode cL_law 405 = .ok (.aload_n 0, 1) := by decide +kernel
theorem dL_law_406 : decode cL_law 406 = .ok (.iload_n 3, 1) := by decide +kernel
theorem dL_law_407 : decode cL_law 407 = .ok (.iconst 2, 1) := by decide +kernel
theorem dL_law_408 : decode cL_law 408 = .ok (.iadd, 1) := by decide +kernel
theorem dL_law_409 : decode cL_law 409 = .ok (.iaload, 1) := by decide +kernel
theorem dL_law_410 : decode cL_law 410 = .ok (.aload_n 0, 1) := by decide +kernel
theorem dL_law_411 : decode cL_law 411 = .ok (.iload_n 3, 1) := by decide +kernel
theorem dL_law_412 : decode cL_law 412 = .ok (.iconst 3, 1) := by decide +kernel
theorem dL_law_413 : decode cL_law 413 = .ok (.iadd, 1) := by decide +kernel
theorem dL_law_414 : decode cL_law 414 = .ok (.iaload, 1) := by decide +kernel
theorem dL_law_415 : decode cL_law 415 = .ok (.invokevirtual 37, 3) := by decide +kernel
theorem dL_law_418 : decode cL_law 418 = .ok (.aload_n 2, 1) := by decide +kernel
theorem dL_law_419 : decode cL_law 419 = .ok (.aload_n 0, 1) := by decide +kernel
theorem dL_law_420 : decode cL_law 420 = .ok (.iload_n 3, 1) := by decide +kernel
theorem dL_law_421 : decode cL_law 421 = .ok (.iconst 1, 1) := by decide +kernel
theorem dL_law_422 : decode cL_law 422 = .ok (.iadd, 1) := by decide +kernel
theorem dL_law_423 : decode cL_law 423 = .ok (.iaload, 1) := by decide +kernel
theorem dL_law_424 : decode cL_law 424 = .ok (.aload_n 0, 1) := by decide +kernel
theorem dL_law_425 : decode cL_law 425 = .ok (.iload_n 3, 1) := by decide +kernel
theorem dL_law_426 : decode cL_law 426 = .ok (.iconst 2, 1) := by decide +kernel
theorem dL_law_427 : decode cL_law 427 = .ok (.iadd, 1) := by decide +kernel
theorem dL_law_428 : decode cL_law 428 = .ok (.iaload, 1) := by decide +kernel
theorem dL_law_429 : decode cL_law 429 = .ok (.aload_n 0, 1) := by decide +kernel
theorem dL_law_430 : decode cL_law 430 = .ok (.iload_n 3, 1) := by decide +kernel
theorem dL_law_431 : decode cL_law 431 = .ok (.iconst 3, 1) := by decide +kernel
theorem dL_law_432 : decode cL_law 432 = .ok (.iadd, 1) := by decide +kernel
theorem dL_law_433 : decode cL_law 433 = .ok (.iaload, 1) := by decide +kernel
theorem dL_law_434 : decode cL_law 434 = .ok (.invokevirtual 41, 3) := by decide +kernel
theorem dL_law_437 : decode cL_law 437 = .ok (.if_icmp .eq 676, 3) := by decide +kernel
theorem dL_law_440 : decode cL_law 440 = .ok (.iconst 0, 1) := by decide +kernel
theorem dL_law_441 : decode cL_law 441 = .ok (.ireturn, 1) := by decide +kernel
theorem dL_law_442 : decode cL_law 442 = .ok (.aload_n 1, 1) := by decide +kernel
theorem dL_law_443 : decode cL_law 443 = .ok (.aload_n 0, 1) := by decide +kernel
theorem dL_law_444 : decode cL_law 444 = .ok (.iload_n 3, 1) := by decide +kernel
theorem dL_law_445 : decode cL_law 445 = .ok (.iconst 1, 1) := by decide +kernel
theorem dL_law_446 : decode cL_law 446 = .ok (.iadd, 1) := by decide +kernel
theorem dL_law_447 : decode cL_law 447 = .ok (.iaload, 1) := by decide +kernel
theorem dL_law_448 : decode cL_law 448 = .ok (.aload_n 0, 1) := by decide +kernel
theorem dL_law_449 : decode cL_law 449 = .ok (.iload_n 3, 1) := by decide +kernel
theorem dL_law_450 : decode cL_law 450 = .ok (.iconst 2, 1) := by decide +kernel
theorem dL_law_451 : decode cL_law 451 = .ok (.iadd, 1) := by decide +kernel
theorem dL_law_452 : decode cL_law 452 = .ok (.iaload, 1) := by decide +kernel
theorem dL_law_453 : decode cL_law 453 = .ok (.aload_n 0, 1) := by decide +kernel
theorem dL_law_454 : decode cL_law 454 = .ok (.iload_n 3, 1) := by decide +kernel
theorem dL_law_455 : decode cL_law 455 = .ok (.iconst 3, 1) := by decide +kernel
theorem dL_law_456 : decode cL_law 456 = .ok (.iadd, 1) := by decide +kernel
theorem dL_law_457 : decode cL_law 457 = .ok (.iaload, 1) := by decide +kernel
theorem dL_law_458 : decode cL_law 458 = .ok (.invokevirtual 42, 3) := by decide +kernel
theorem dL_law_461 : decode cL_law 461 = .ok (.aload_n 2, 1) := by decide +kernel
theorem dL_law_462 : decode cL_law 462 = .ok (.aload_n 0, 1) := by decide +kernel
theorem dL_law_463 : decode cL_law 463 = .ok (.iload_n 3, 1) := by decide +kernel
theorem dL_law_464 : decode cL_law 464 = .ok (.iconst 1, 1) := by decide +kernel
theorem dL_law_465 : decode cL_law 465 = .ok (.iadd, 1) := by decide +kernel
theorem dL_law_466 : decode cL_law 466 = .ok (.iaload, 1) := by decide +kernel
theorem dL_law_467 : decode cL_law 467 = .ok (.aload_n 0, 1) := by decide +kernel
theorem dL_law_468 : decode cL_law 468 = .ok (.iload_n 3, 1) := by decide +kernel
theorem dL_law_469 : decode cL_law 469 = .ok (.iconst 2, 1) := by decide +kernel
theorem dL_law_470 : decode cL_law 470 = .ok (.iadd, 1) := by decide +kernel
theorem dL_law_471 : decode cL_law 471 = .ok (.iaload, 1) := by decide +kernel
theorem dL_law_472 : decode cL_law 472 = .ok (.aload_n 0, 1) := by decide +kernel
theorem dL_law_473 : decode cL_law 473 = .ok (.iload_n 3, 1) := by decide +kernel
theorem dL_law_474 : decode cL_law 474 = .ok (.iconst 3, 1) := by decide +kernel
theorem dL_law_475 : decode cL_law 475 = .ok (.iadd, 1) := by decide +kernel
theorem dL_law_476 : decode cL_law 476 = .ok (.iaload, 1) := by decide +kernel
theorem dL_law_477 : decode cL_law 477 = .ok (.invokevirtual 45, 3) := by decide +kernel
theorem dL_law_480 : decode cL_law 480 = .ok (.if_icmp .eq 633, 3) := by decide +kernel
theorem dL_law_483 : decode cL_law 483 = .ok (.iconst 0, 1) := by decide +kernel
theorem dL_law_484 : decode cL_law 484 = .ok (.ireturn, 1) := by decide +kernel
theorem dL_law_485 : decode cL_law 485 = .ok (.aload_n 1, 1) := by decide +kernel
theorem dL_law_486 : decode cL_law 486 = .ok (.aload_n 0, 1) := by decide +kernel
theorem dL_law_487 : decode cL_law 487 = .ok (.iload_n 3, 1) := by decide +kernel
theorem dL_law_488 : decode cL_law 488 = .ok (.iconst 1, 1) := by decide +kernel
theorem dL_law_489 : decode cL_law 489 = .ok (.iadd, 1) := by decide +kernel
theorem dL_law_490 : decode cL_law 490 = .ok (.iaload, 1) := by decide +kernel
theorem dL_law_491 : decode cL_law 491 = .ok (.aload_n 0, 1) := by decide +kernel
theorem dL_law_492 : decode cL_law 492 = .ok (.iload_n 3, 1) := by decide +kernel
theorem dL_law_493 : decode cL_law 493 = .ok (.iconst 2, 1) := by decide +kernel
theorem dL_law_494 : decode cL_law 494 = .ok (.iadd, 1) := by decide +kernel
theorem dL_law_495 : decode cL_law 495 = .ok (.iaload, 1) := by decide +kernel
theorem dL_law_496 : decode cL_law 496 = .ok (.aload_n 0, 1) := by decide +kernel
theorem dL_law_497 : decode cL_law 497 = .ok (.iload_n 3, 1) := by decide +kernel
theorem dL_law_498 : decode cL_law 498 = .ok (.iconst 3, 1) := by decide +kernel
theorem dL_law_499 : decode cL_law 499 = .ok (.iadd, 1) := by decide +kernel
theorem dL_law_500 : decode cL_law 500 = .ok (.iaload, 1) := by decide +kernel
theorem dL_law_501 : decode cL_law 501 = .ok (.invokevirtual 46, 3) := by decide +kernel
theorem dL_law_504 : decode cL_law 504 = .ok (.aload_n 2, 1) := by decide +kernel
theorem dL_law_505 : decode cL_law 505 = .ok (.aload_n 0, 1) := by decide +kernel
theorem dL_law_506 : decode cL_law 506 = .ok (.iload_n 3, 1) := by decide +kernel
theorem dL_law_507 : decode cL_law 507 = .ok (.iconst 1, 1) := by decide +kernel
theorem dL_law_508 : decode cL_law 508 = .ok (.iadd, 1) := by decide +kernel
theorem dL_law_509 : decode cL_law 509 = .ok (.iaload, 1) := by decide +kernel
theorem dL_law_510 : decode cL_law 510 = .ok (.aload_n 0, 1) := by decide +kernel
theorem dL_law_511 : decode cL_law 511 = .ok (.iload_n 3, 1) := by decide +kernel
theorem dL_law_512 : decode cL_law 512 = .ok (.iconst 2, 1) := by decide +kernel
theorem dL_law_513 : decode cL_law 513 = .ok (.iadd, 1) := by decide +kernel
theorem dL_law_514 : decode cL_law 514 = .ok (.iaload, 1) := by decide +kernel
theorem dL_law_515 : decode cL_law 515 = .ok (.aload_n 0, 1) := by decide +kernel
theorem dL_law_516 : decode cL_law 516 = .ok (.iload_n 3, 1) := by decide +kernel
theorem dL_law_517 : decode cL_law 517 = .ok (.iconst 3, 1) := by decide +kernel
theorem dL_law_518 : decode cL_law 518 = .ok (.iadd, 1) := by decide +kernel
theorem dL_law_519 : decode cL_law 519 = .ok (.iaload, 1) := by decide +kernel
theorem dL_law_520 : decode cL_law 520 = .ok (.invokevirtual 49, 3) := by decide +kernel
theorem dL_law_523 : decode cL_law 523 = .ok (.if_icmp .eq 590, 3) := by decide +kernel
theorem dL_law_526 : decode cL_law 526 = .ok (.iconst 0, 1) := by decide +kernel
theorem dL_law_527 : decode cL_law 527 = .ok (.ireturn, 1) := by decide +kernel
theorem dL_law_528 : decode cL_law 528 = .ok (.aload_n 1, 1) := by decide +kernel
theorem dL_law_529 : decode cL_law 529 = .ok (.aload_n 0, 1) := by decide +kernel
theorem dL_law_530 : decode cL_law 530 = .ok (.iload_n 3, 1) := by decide +kernel
theorem dL_law_531 : decode cL_law 531 = .ok (.iconst 1, 1) := by decide +kernel
theorem dL_law_532 : decode cL_law 532 = .ok (.iadd, 1) := by decide +kernel
theorem dL_law_533 : decode cL_law 533 = .ok (.iaload, 1) := by decide +kernel
theorem dL_law_534 : decode cL_law 534 = .ok (.aload_n 0, 1) := by decide +kernel
theorem dL_law_535 : decode cL_law 535 = .ok (.iload_n 3, 1) := by decide +kernel
theorem dL_law_536 : decode cL_law 536 = .ok (.iconst 2, 1) := by decide +kernel
theorem dL_law_537 : decode cL_law 537 = .ok (.iadd, 1) := by decide +kernel
theorem dL_law_538 : decode cL_law 538 = .ok (.iaload, 1) := by decide +kernel
theorem dL_law_539 : decode cL_law 539 = .ok (.aload_n 0, 1) := by decide +kernel
theorem dL_law_540 : decode cL_law 540 = .ok (.iload_n 3, 1) := by decide +kernel
theorem dL_law_541 : decode cL_law 541 = .ok (.iconst 3, 1) := by decide +kernel
theorem dL_law_542 : decode cL_law 542 = .ok (.iadd, 1) := by decide +kernel
theorem dL_law_543 : decode cL_law 543 = .ok (.iaload, 1) := by decide +kernel
theorem dL_law_544 : decode cL_law 544 = .ok (.invokevirtual 50, 3) := by decide +kernel
theorem dL_law_547 : decode cL_law 547 = .ok (.aload_n 2, 1) := by decide +kernel
theorem dL_law_548 : decode cL_law 548 = .ok (.aload_n 0, 1) := by decide +kernel
theorem dL_law_549 : decode cL_law 549 = .ok (.iload_n 3, 1) := by decide +kernel
theorem dL_law_550 : decode cL_law 550 = .ok (.iconst 1, 1) := by decide +kernel
theorem dL_law_551 : decode cL_law 551 = .ok (.iadd, 1) := by decide +kernel
theorem dL_law_552 : decode cL_law 552 = .ok (.iaload, 1) := by decide +kernel
theorem dL_law_553 : decode cL_law 553 = .ok (.aload_n 0, 1) := by decide +kernel
theorem dL_law_554 : decode cL_law 554 = .ok (.iload_n 3, 1) := by decide +kernel
theorem dL_law_555 : decode cL_law 555 = .ok (.iconst 2, 1) := by decide +kernel
theorem dL_law_556 : decode cL_law 556 = .ok (.iadd, 1) := by decide +kernel
theorem dL_law_557 : decode cL_law 557 = .ok (.iaload, 1) := by decide +kernel
theorem dL_law_558 : decode cL_law 558 = .ok (.aload_n 0, 1) := by decide +kernel
theorem dL_law_559 : decode cL_law 559 = .ok (.iload_n 3, 1) := by decide +kernel
theorem dL_law_560 : decode cL_law 560 = .ok (.iconst 3, 1) := by decide +kernel
theorem dL_law_561 : decode cL_law 561 = .ok (.iadd, 1) := by decide +kernel
theorem dL_law_562 : decode cL_law 562 = .ok (.iaload, 1) := by decide +kernel
theorem dL_law_563 : decode cL_law 563 = .ok (.invokevirtual 53, 3) := by decide +kernel
theorem dL_law_566 : decode cL_law 566 = .ok (.if_icmp .eq 547, 3) := by decide +kernel
theorem dL_law_569 : decode cL_law 569 = .ok (.iconst 0, 1) := by decide +kernel
theorem dL_law_570 : decode cL_law 570 = .ok (.ireturn, 1) := by decide +kernel
theorem dL_law_571 : decode cL_law 571 = .ok (.aload_n 1, 1) := by decide +kernel
theorem dL_law_572 : decode cL_law 572 = .ok (.aload_n 0, 1) := by decide +kernel
theorem dL_law_573 : decode cL_law 573 = .ok (.iload_n 3, 1) := by decide +kernel
theorem dL_law_574 : decode cL_law 574 = .ok (.iconst 1, 1) := by decide +kernel
theorem dL_law_575 : decode cL_law 575 = .ok (.iadd, 1) := by decide +kernel
theorem dL_law_576 : decode cL_law 576 = .ok (.iaload, 1) := by decide +kernel
theorem dL_law_577 : decode cL_law 577 = .ok (.aload_n 0, 1) := by decide +kernel
theorem dL_law_578 : decode cL_law 578 = .ok (.iload_n 3, 1) := by decide +kernel
theorem dL_law_579 : decode cL_law 579 = .ok (.iconst 2, 1) := by decide +kernel
theorem dL_law_580 : decode cL_law 580 = .ok (.iadd, 1) := by decide +kernel
theorem dL_law_581 : decode cL_law 581 = .ok (.iaload, 1) := by decide +kernel
theorem dL_law_582 : decode cL_law 582 = .ok (.aload_n 0, 1) := by decide +kernel
theorem dL_law_583 : decode cL_law 583 = .ok (.iload_n 3, 1) := by decide +kernel
theorem dL_law_584 : decode cL_law 584 = .ok (.iconst 3, 1) := by decide +kernel
theorem dL_law_585 : decode cL_law 585 = .ok (.iadd, 1) := by decide +kernel
theorem dL_law_586 : decode cL_law 586 = .ok (.iaload, 1) := by decide +kernel
theorem dL_law_587 : decode cL_law 587 = .ok (.aload_n 0, 1) := by decide +kernel
theorem dL_law_588 : decode cL_law 588 = .ok (.iload_n 3, 1) := by decide +kernel
theorem dL_law_589 : decode cL_law 589 = .ok (.iconst 4, 1) := by decide +kernel
theorem dL_law_590 : decode cL_law 590 = .ok (.iadd, 1) := by decide +kernel
theorem dL_law_591 : decode cL_law 591 = .ok (.iaload, 1) := by decide +kernel
theorem dL_law_592 : decode cL_law 592 = .ok (.invokevirtual 54, 3) := by decide +kernel
theorem dL_law_595 : decode cL_law 595 = .ok (.aload_n 2, 1) := by decide +kernel
theorem dL_law_596 : decode cL_law 596 = .ok (.aload_n 0, 1) := by decide +kernel
theorem dL_law_597 : decode cL_law 597 = .ok (.iload_n 3, 1) := by decide +kernel
theorem dL_law_598 : decode cL_law 598 = .ok (.iconst 1, 1) := by decide +kernel
theorem dL_law_599 : decode cL_law 599 = .ok (.iadd, 1) := by decide +kernel
theorem dL_law_600 : decode cL_law 600 = .ok (.iaload, 1) := by decide +kernel
theorem dL_law_601 : decode cL_law 601 = .ok (.aload_n 0, 1) := by decide +kernel
theorem dL_law_602 : decode cL_law 602 = .ok (.iload_n 3, 1) := by decide +kernel
theorem dL_law_603 : decode cL_law 603 = .ok (.iconst 2, 1) := by decide +kernel
theorem dL_law_604 : decode cL_law 604 = .ok (.iadd, 1) := by decide +kernel
theorem dL_law_605 : decode cL_law 605 = .ok (.iaload, 1) := by decide +kernel
theorem dL_law_606 : decode cL_law 606 = .ok (.aload_n 0, 1) := by decide +kernel
theorem dL_law_607 : decode cL_law 607 = .ok (.iload_n 3, 1) := by decide +kernel
theorem dL_law_608 : decode cL_law 608 = .ok (.iconst 3, 1) := by decide +kernel
theorem dL_law_609 : decode cL_law 609 = .ok (.iadd, 1) := by decide +kernel
theorem dL_law_610 : decode cL_law 610 = .ok (.iaload, 1) := by decide +kernel
theorem dL_law_611 : decode cL_law 611 = .ok (.aload_n 0, 1) := by decide +kernel
theorem dL_law_612 : decode cL_law 612 = .ok (.iload_n 3, 1) := by decide +kernel
theorem dL_law_613 : decode cL_law 613 = .ok (.iconst 4, 1) := by decide +kernel
theorem dL_law_614 : decode cL_law 614 = .ok (.iadd, 1) := by decide +kernel
theorem dL_law_615 : decode cL_law 615 = .ok (.iaload, 1) := by decide +kernel
theorem dL_law_616 : decode cL_law 616 = .ok (.invokevirtual 57, 3) := by decide +kernel
theorem dL_law_619 : decode cL_law 619 = .ok (.if_icmp .eq 494, 3) := by decide +kernel
theorem dL_law_622 : decode cL_law 622 = .ok (.iconst 0, 1) := by decide +kernel
theorem dL_law_623 : decode cL_law 623 = .ok (.ireturn, 1) := by decide +kernel
theorem dL_law_624 : decode cL_law 624 = .ok (.aload_n 1, 1) := by decide +kernel
theorem dL_law_625 : decode cL_law 625 = .ok (.aload_n 0, 1) := by decide +kernel
theorem dL_law_626 : decode cL_law 626 = .ok (.iload_n 3, 1) := by decide +kernel
theorem dL_law_627 : decode cL_law 627 = .ok (.iconst 1, 1) := by decide +kernel
theorem dL_law_628 : decode cL_law 628 = .ok (.iadd, 1) := by decide +kernel
theorem dL_law_629 : decode cL_law 629 = .ok (.iaload, 1) := by decide +kernel
theorem dL_law_630 : decode cL_law 630 = .ok (.aload_n 0, 1) := by decide +kernel
theorem dL_law_631 : decode cL_law 631 = .ok (.iload_n 3, 1) := by decide +kernel
theorem dL_law_632 : decode cL_law 632 = .ok (.iconst 2, 1) := by decide +kernel
theorem dL_law_633 : decode cL_law 633 = .ok (.iadd, 1) := by decide +kernel
theorem dL_law_634 : decode cL_law 634 = .ok (.iaload, 1) := by decide +kernel
theorem dL_law_635 : decode cL_law 635 = .ok (.aload_n 0, 1) := by decide +kernel
theorem dL_law_636 : decode cL_law 636 = .ok (.iload_n 3, 1) := by decide +kernel
theorem dL_law_637 : decode cL_law 637 = .ok (.iconst 3, 1) := by decide +kernel
theorem dL_law_638 : decode cL_law 638 = .ok (.iadd, 1) := by decide +kernel
theorem dL_law_639 : decode cL_law 639 = .ok (.iaload, 1) := by decide +kernel
theorem dL_law_640 : decode cL_law 640 = .ok (.aload_n 0, 1) := by decide +kernel
theorem dL_law_641 : decode cL_law 641 = .ok (.iload_n 3, 1) := by decide +kernel
theorem dL_law_642 : decode cL_law 642 = .ok (.iconst 4, 1) := by decide +kernel
theorem dL_law_643 : decode cL_law 643 = .ok (.iadd, 1) := by decide +kernel
theorem dL_law_644 : decode cL_law 644 = .ok (.iaload, 1) := by decide +kernel
theorem dL_law_645 : decode cL_law 645 = .ok (.aload_n 0, 1) := by decide +kernel
theorem dL_law_646 : decode cL_law 646 = .ok (.iload_n 3, 1) := by decide +kernel
theorem dL_law_647 : decode cL_law 647 = .ok (.iconst 5, 1) := by decide +kernel
theorem dL_law_648 : decode cL_law 648 = .ok (.iadd, 1) := by decide +kernel
theorem dL_law_649 : decode cL_law 649 = .ok (.iaload, 1) := by decide +kernel
theorem dL_law_650 : decode cL_law 650 = .ok (.invokevirtual 58, 3) := by decide +kernel
theorem dL_law_653 : decode cL_law 653 = .ok (.aload_n 2, 1) := by decide +kernel
theorem dL_law_654 : decode cL_law 654 = .ok (.aload_n 0, 1) := by decide +kernel
theorem dL_law_655 : decode cL_law 655 = .ok (.iload_n 3, 1) := by decide +kernel
theorem dL_law_656 : decode cL_law 656 = .ok (.iconst 1, 1) := by decide +kernel
theorem dL_law_657 : decode cL_law 657 = .ok (.iadd, 1) := by decide +kernel
theorem dL_law_658 : decode cL_law 658 = .ok (.iaload, 1) := by decide +kernel
theorem dL_law_659 : decode cL_law 659 = .ok (.aload_n 0, 1) := by decide +kernel
theorem dL_law_660 : decode cL_law 660 = .ok (.iload_n 3, 1) := by decide +kernel
theorem dL_law_661 : decode cL_law 661 = .ok (.iconst 2, 1) := by decide +kernel
theorem dL_law_662 : decode cL_law 662 = .ok (.iadd, 1) := by decide +kernel
theorem dL_law_663 : decode cL_law 663 = .ok (.iaload, 1) := by decide +kernel
theorem dL_law_664 : decode cL_law 664 = .ok (.aload_n 0, 1) := by decide +kernel
theorem dL_law_665 : decode cL_law 665 = .ok (.iload_n 3, 1) := by decide +kernel
theorem dL_law_666 : decode cL_law 666 = .ok (.iconst 3, 1) := by decide +kernel
theorem dL_law_667 : decode cL_law 667 = .ok (.iadd, 1) := by decide +kernel
theorem dL_law_668 : decode cL_law 668 = .ok (.iaload, 1) := by decide +kernel
theorem dL_law_669 : decode cL_law 669 = .ok (.aload_n 0, 1) := by decide +kernel
theorem dL_law_670 : decode cL_law 670 = .ok (.iload_n 3, 1) := by decide +kernel
theorem dL_law_671 : decode cL_law 671 = .ok (.iconst 4, 1) := by decide +kernel
theorem dL_law_672 : decode cL_law 672 = .ok (.iadd, 1) := by decide +kernel
theorem dL_law_673 : decode cL_law 673 = .ok (.iaload, 1) := by decide +kernel
theorem dL_law_674 : decode cL_law 674 = .ok (.aload_n 0, 1) := by decide +kernel
theorem dL_law_675 : decode cL_law 675 = .ok (.iload_n 3, 1) := by decide +kernel
theorem dL_law_676 : decode cL_law 676 = .ok (.iconst 5, 1) := by decide +kernel
theorem dL_law_677 : decode cL_law 677 = .ok (.iadd, 1) := by decide +kernel
theorem dL_law_678 : decode cL_law 678 = .ok (.iaload, 1) := by decide +kernel
theorem dL_law_679 : decode cL_law 679 = .ok (.invokevirtual 62, 3) := by decide +kernel
theorem dL_law_682 : decode cL_law 682 = .ok (.if_icmp .eq 431, 3) := by decide +kernel
theorem dL_law_685 : decode cL_law 685 = .ok (.iconst 0, 1) := by decide +kernel
theorem dL_law_686 : decode cL_law 686 = .ok (.ireturn, 1) := by decide +kernel
theorem dL_law_687 : decode cL_law 687 = .ok (.aload_n 1, 1) := by decide +kernel
theorem dL_law_688 : decode cL_law 688 = .ok (.aload_n 0, 1) := by decide +kernel
theorem dL_law_689 : decode cL_law 689 = .ok (.iload_n 3, 1) := by decide +kernel
theorem dL_law_690 : decode cL_law 690 = .ok (.iconst 1, 1) := by decide +kernel
theorem dL_law_691 : decode cL_law 691 = .ok (.iadd, 1) := by decide +kernel
theorem dL_law_692 : decode cL_law 692 = .ok (.iaload, 1) := by decide +kernel
theorem dL_law_693 : decode cL_law 693 = .ok (.aload_n 0, 1) := by decide +kernel
theorem dL_law_694 : decode cL_law 694 = .ok (.iload_n 3, 1) := by decide +kernel
theorem dL_law_695 : decode cL_law 695 = .ok (.iconst 2, 1) := by decide +kernel
theorem dL_law_696 : decode cL_law 696 = .ok (.iadd, 1) := by decide +kernel
theorem dL_law_697 : decode cL_law 697 = .ok (.iaload, 1) := by decide +kernel
theorem dL_law_698 : decode cL_law 698 = .ok (.aload_n 0, 1) := by decide +kernel
theorem dL_law_699 : decode cL_law 699 = .ok (.iload_n 3, 1) := by decide +kernel
theorem dL_law_700 : decode cL_law 700 = .ok (.iconst 3, 1) := by decide +kernel
theorem dL_law_701 : decode cL_law 701 = .ok (.iadd, 1) := by decide +kernel
theorem dL_law_702 : decode cL_law 702 = .ok (.iaload, 1) := by decide +kernel
theorem dL_law_703 : decode cL_law 703 = .ok (.aload_n 0, 1) := by decide +kernel
theorem dL_law_704 : decode cL_law 704 = .ok (.iload_n 3, 1) := by decide +kernel
theorem dL_law_705 : decode cL_law 705 = .ok (.iconst 4, 1) := by decide +kernel
theorem dL_law_706 : decode cL_law 706 = .ok (.iadd, 1) := by decide +kernel
theorem dL_law_707 : decode cL_law 707 = .ok (.iaload, 1) := by decide +kernel
theorem dL_law_708 : decode cL_law 708 = .ok (.invokevirtual 63, 3) := by decide +kernel
theorem dL_law_711 : decode cL_law 711 = .ok (.aload_n 2, 1) := by decide +kernel
theorem dL_law_712 : decode cL_law 712 = .ok (.aload_n 0, 1) := by decide +kernel
theorem dL_law_713 : decode cL_law 713 = .ok (.iload_n 3, 1) := by decide +kernel
theorem dL_law_714 : decode cL_law 714 = .ok (.iconst 1, 1) := by decide +kernel
theorem dL_law_715 : decode cL_law 715 = .ok (.iadd, 1) := by decide +kernel
theorem dL_law_716 : decode cL_law 716 = .ok (.iaload, 1) := by decide +kernel
theorem dL_law_717 : decode cL_law 717 = .ok (.aload_n 0, 1) := by decide +kernel
theorem dL_law_718 : decode cL_law 718 = .ok (.iload_n 3, 1) := by decide +kernel
theorem dL_law_719 : decode cL_law 719 = .ok (.iconst 2, 1) := by decide +kernel
theorem dL_law_720 : decode cL_law 720 = .ok (.iadd, 1) := by decide +kernel
theorem dL_law_721 : decode cL_law 721 = .ok (.iaload, 1) := by decide +kernel
theorem dL_law_722 : decode cL_law 722 = .ok (.aload_n 0, 1) := by decide +kernel
theorem dL_law_723 : decode cL_law 723 = .ok (.iload_n 3, 1) := by decide +kernel
theorem dL_law_724 : decode cL_law 724 = .ok (.iconst 3, 1) := by decide +kernel
theorem dL_law_725 : decode cL_law 725 = .ok (.iadd, 1) := by decide +kernel
theorem dL_law_726 : decode cL_law 726 = .ok (.iaload, 1) := by decide +kernel
theorem dL_law_727 : decode cL_law 727 = .ok (.aload_n 0, 1) := by decide +kernel
theorem dL_law_728 : decode cL_law 728 = .ok (.iload_n 3, 1) := by decide +kernel
theorem dL_law_729 : decode cL_law 729 = .ok (.iconst 4, 1) := by decide +kernel
theorem dL_law_730 : decode cL_law 730 = .ok (.iadd, 1) := by decide +kernel
theorem dL_law_731 : decode cL_law 731 = .ok (.iaload, 1) := by decide +kernel
theorem dL_law_732 : decode cL_law 732 = .ok (.invokevirtual 66, 3) := by decide +kernel
theorem dL_law_735 : decode cL_law 735 = .ok (.if_icmp .eq 378, 3) := by decide +kernel
theorem dL_law_738 : decode cL_law 738 = .ok (.iconst 0, 1) := by decide +kernel
theorem dL_law_739 : decode cL_law 739 = .ok (.ireturn, 1) := by decide +kernel
theorem dL_law_740 : decode cL_law 740 = .ok (.aload_n 1, 1) := by decide +kernel
theorem dL_law_741 : decode cL_law 741 = .ok (.aload_n 0, 1) := by decide +kernel
theorem dL_law_742 : decode cL_law 742 = .ok (.iload_n 3, 1) := by decide +kernel
theorem dL_law_743 : decode cL_law 743 = .ok (.iconst 1, 1) := by decide +kernel
theorem dL_law_744 : decode cL_law 744 = .ok (.iadd, 1) := by decide +kernel
theorem dL_law_745 : decode cL_law 745 = .ok (.iaload, 1) := by decide +kernel
theorem dL_law_746 : decode cL_law 746 = .ok (.aload_n 0, 1) := by decide +kernel
theorem dL_law_747 : decode cL_law 747 = .ok (.iload_n 3, 1) := by decide +kernel
theorem dL_law_748 : decode cL_law 748 = .ok (.iconst 2, 1) := by decide +kernel
theorem dL_law_749 : decode cL_law 749 = .ok (.iadd, 1) := by decide +kernel
theorem dL_law_750 : decode cL_law 750 = .ok (.iaload, 1) := by decide +kernel
theorem dL_law_751 : decode cL_law 751 = .ok (.invokevirtual 67, 3) := by decide +kernel
theorem dL_law_754 : decode cL_law 754 = .ok (.aload_n 2, 1) := by decide +kernel
theorem dL_law_755 : decode cL_law 755 = .ok (.aload_n 0, 1) := by decide +kernel
theorem dL_law_756 : decode cL_law 756 = .ok (.iload_n 3, 1) := by decide +kernel
theorem dL_law_757 : decode cL_law 757 = .ok (.iconst 1, 1) := by decide +kernel
theorem dL_law_758 : decode cL_law 758 = .ok (.iadd, 1) := by decide +kernel
theorem dL_law_759 : decode cL_law 759 = .ok (.iaload, 1) := by decide +kernel
theorem dL_law_760 : decode cL_law 760 = .ok (.aload_n 0, 1) := by decide +kernel
theorem dL_law_761 : decode cL_law 761 = .ok (.iload_n 3, 1) := by decide +kernel
theorem dL_law_762 : decode cL_law 762 = .ok (.iconst 2, 1) := by decide +kernel
theorem dL_law_763 : decode cL_law 763 = .ok (.iadd, 1) := by decide +kernel
theorem dL_law_764 : decode cL_law 764 = .ok (.iaload, 1) := by decide +kernel
theorem dL_law_765 : decode cL_law 765 = .ok (.invokevirtual 70, 3) := by decide +kernel
theorem dL_law_768 : decode cL_law 768 = .ok (.if_icmp .eq 345, 3) := by decide +kernel
theorem dL_law_771 : decode cL_law 771 = .ok (.iconst 0, 1) := by decide +kernel
theorem dL_law_772 : decode cL_law 772 = .ok (.ireturn, 1) := by decide +kernel
theorem dL_law_773 : decode cL_law 773 = .ok (.aload_n 1, 1) := by decide +kernel
theorem dL_law_774 : decode cL_law 774 = .ok (.aload_n 0, 1) := by decide +kernel
theorem dL_law_775 : decode cL_law 775 = .ok (.iload_n 3, 1) := by decide +kernel
theorem dL_law_776 : decode cL_law 776 = .ok (.iconst 1, 1) := by decide +kernel
theorem dL_law_777 : decode cL_law 777 = .ok (.iadd, 1) := by decide +kernel
theorem dL_law_778 : decode cL_law 778 = .ok (.iaload, 1) := by decide +kernel
theorem dL_law_779 : decode cL_law 779 = .ok (.invokevirtual 71, 3) := by decide +kernel
theorem dL_law_782 : decode cL_law 782 = .ok (.aload_n 2, 1) := by decide +kernel
theorem dL_law_783 : decode cL_law 783 = .ok (.aload_n 0, 1) := by decide +kernel
theorem dL_law_784 : decode cL_law 784 = .ok (.iload_n 3, 1) := by decide +kernel
theorem dL_law_785 : decode cL_law 785 = .ok (.iconst 1, 1) := by decide +kernel
theorem dL_law_786 : decode cL_law 786 = .ok (.iadd, 1) := by decide +kernel
theorem dL_law_787 : decode cL_law 787 = .ok (.iaload, 1) := by decide +kernel
theorem dL_law_788 : decode cL_law 788 = .ok (.invokevirtual 75, 3) := by decide +kernel
theorem dL_law_791 : decode cL_law 791 = .ok (.if_icmp .eq 322, 3) := by decide +kernel
theorem dL_law_794 : decode cL_law 794 = .ok (.iconst 0, 1) := by decide +kernel
theorem dL_law_795 : decode cL_law 795 = .ok (.ireturn, 1) := by decide +kernel
theorem dL_law_796 : decode cL_law 796 = .ok (.aload_n 1, 1) := by decide +kernel
theorem dL_law_797 : decode cL_law 797 = .ok (.aload_n 0, 1) := by decide +kernel
theorem dL_law_798 : decode cL_law 798 = .ok (.iload_n 3, 1) := by decide +kernel
theorem dL_law_799 : decode cL_law 799 = .ok (.iconst 1, 1) := by decide +kernel
theorem dL_law_800 : decode cL_law 800 = .ok (.iadd, 1) := by decide +kernel
theorem dL_law_801 : decode cL_law 801 = .ok (.iaload, 1) := by decide +kernel
theorem dL_law_802 : decode cL_law 802 = .ok (.invokevirtual 76, 3) := by decide +kernel
theorem dL_law_805 : decode cL_law 805 = .ok (.aload_n 2, 1) := by decide +kernel
theorem dL_law_806 : decode cL_law 806 = .ok (.aload_n 0, 1) := by decide +kernel
theorem dL_law_807 : decode cL_law 807 = .ok (.iload_n 3, 1) := by decide +kernel
theorem dL_law_808 : decode cL_law 808 = .ok (.iconst 1, 1) := by decide +kernel
theorem dL_law_809 : decode cL_law 809 = .ok (.iadd, 1) := by decide +kernel
theorem dL_law_810 : decode cL_law 810 = .ok (.iaload, 1) := by decide +kernel
theorem dL_law_811 : decode cL_law 811 = .ok (.invokevirtual 79, 3) := by decide +kernel
theorem dL_law_814 : decode cL_law 814 = .ok (.if_icmp .eq 299, 3) := by decide +kernel
theorem dL_law_817 : decode cL_law 817 = .ok (.iconst 0, 1) := by decide +kernel
theorem dL_law_818 : decode cL_law 818 = .ok (.ireturn, 1) := by decide +kernel
theorem dL_law_819 : decode cL_law 819 = .ok (.aload_n 1, 1) := by decide +kernel
theorem dL_law_820 : decode cL_law 820 = .ok (.aload_n 0, 1) := by decide +kernel
theorem dL_law_821 : decode cL_law 821 = .ok (.iload_n 3, 1) := by decide +kernel
theorem dL_law_822 : decode cL_law 822 = .ok (.iconst 1, 1) := by decide +kernel
theorem dL_law_823 : decode cL_law 823 = .ok (.iadd, 1) := by decide +kernel
theorem dL_law_824 : decode cL_law 824 = .ok (.iaload, 1) := by decide +kernel
theorem dL_law_825 : decode cL_law 825 = .ok (.aload_n 0, 1) := by decide +kernel
theorem dL_law_826 : decode cL_law 826 = .ok (.iload_n 3, 1) := by decide +kernel
theorem dL_law_827 : decode cL_law 827 = .ok (.iconst 2, 1) := by decide +kernel
theorem dL_law_828 : decode cL_law 828 = .ok (.iadd, 1) := by decide +kernel
theorem dL_law_829 : decode cL_law 829 = .ok (.iaload, 1) := by decide +kernel
theorem dL_law_830 : decode cL_law 830 = .ok (.invokevirtual 80, 3) := by decide +kernel
theorem dL_law_833 : decode cL_law 833 = .ok (.aload_n 2, 1) := by decide +kernel
theorem dL_law_834 : decode cL_law 834 = .ok (.aload_n 0, 1) := by decide +kernel
theorem dL_law_835 : decode cL_law 835 = .ok (.iload_n 3, 1) := by decide +kernel
theorem dL_law_836 : decode cL_law 836 = .ok (.iconst 1, 1) := by decide +kernel
theorem dL_law_837 : decode cL_law 837 = .ok (.iadd, 1) := by decide +kernel
theorem dL_law_838 : decode cL_law 838 = .ok (.iaload, 1) := by decide +kernel
theorem dL_law_839 : decode cL_law 839 = .ok (.aload_n 0, 1) := by decide +kernel
theorem dL_law_840 : decode cL_law 840 = .ok (.iload_n 3, 1) := by decide +kernel
theorem dL_law_841 : decode cL_law 841 = .ok (.iconst 2, 1) := by decide +kernel
theorem dL_law_842 : decode cL_law 842 = .ok (.iadd, 1) := by decide +kernel
theorem dL_law_843 : decode cL_law 843 = .ok (.iaload, 1) := by decide +kernel
theorem dL_law_844 : decode cL_law 844 = .ok (.invokevirtual 83, 3) := by decide +kernel
theorem dL_law_847 : decode cL_law 847 = .ok (.if_icmp .eq 266, 3) := by decide +kernel
theorem dL_law_850 : decode cL_law 850 = .ok (.iconst 0, 1) := by decide +kernel
theorem dL_law_851 : decode cL_law 851 = .ok (.ireturn, 1) := by decide +kernel
theorem dL_law_852 : decode cL_law 852 = .ok (.aload_n 1, 1) := by decide +kernel
theorem dL_law_853 : decode cL_law 853 = .ok (.aload_n 0, 1) := by decide +kernel
theorem dL_law_854 : decode cL_law 854 = .ok (.iload_n 3, 1) := by decide +kernel
theorem dL_law_855 : decode cL_law 855 = .ok (.iconst 1, 1) := by decide +kernel
theorem dL_law_856 : decode cL_law 856 = .ok (.iadd, 1) := by decide +kernel
theorem dL_law_857 : decode cL_law 857 = .ok (.iaload, 1) := by decide +kernel
theorem dL_law_858 : decode cL_law 858 = .ok (.invokevirtual 84, 3) := by decide +kernel
theorem dL_law_861 : decode cL_law 861 = .ok (.aload_n 2, 1) := by decide +kernel
theorem dL_law_862 : decode cL_law 862 = .ok (.aload_n 0, 1) := by decide +kernel
theorem dL_law_863 : decode cL_law 863 = .ok (.iload_n 3, 1) := by decide +kernel
theorem dL_law_864 : decode cL_law 864 = .ok (.iconst 1, 1) := by decide +kernel
theorem dL_law_865 : decode cL_law 865 = .ok (.iadd, 1) := by decide +kernel
theorem dL_law_866 : decode cL_law 866 = .ok (.iaload, 1) := by decide +kernel
theorem dL_law_867 : decode cL_law 867 = .ok (.invokevirtual 87, 3) := by decide +kernel
theorem dL_law_870 : decode cL_law 870 = .ok (.if_icmp .eq 243, 3) := by decide +kernel
theorem dL_law_873 : decode cL_law 873 = .ok (.iconst 0, 1) := by decide +kernel
theorem dL_law_874 : decode cL_law 874 = .ok (.ireturn, 1) := by decide +kernel
theorem dL_law_875 : decode cL_law 875 = .ok (.aload_n 1, 1) := by decide +kernel
theorem dL_law_876 : decode cL_law 876 = .ok (.invokevirtual 88, 3) := by decide +kernel
theorem dL_law_879 : decode cL_law 879 = .ok (.aload_n 2, 1) := by decide +kernel
theorem dL_law_880 : decode cL_law 880 = .ok (.invokevirtual 92, 3) := by decide +kernel
theorem dL_law_883 : decode cL_law 883 = .ok (.if_icmp .eq 230, 3) := by decide +kernel
theorem dL_law_886 : decode cL_law 886 = .ok (.iconst 0, 1) := by decide +kernel
theorem dL_law_887 : decode cL_law 887 = .ok (.ireturn, 1) := by decide +kernel
theorem dL_law_888 : decode cL_law 888 = .ok (.aload_n 1, 1) := by decide +kernel
theorem dL_law_889 : decode cL_law 889 = .ok (.aload_n 0, 1) := by decide +kernel
theorem dL_law_890 : decode cL_law 890 = .ok (.iload_n 3, 1) := by decide +kernel
theorem dL_law_891 : decode cL_law 891 = .ok (.iconst 1, 1) := by decide +kernel
theorem dL_law_892 : decode cL_law 892 = .ok (.iadd, 1) := by decide +kernel
theorem dL_law_893 : decode cL_law 893 = .ok (.iaload, 1) := by decide +kernel
theorem dL_law_894 : decode cL_law 894 = .ok (.aload_n 0, 1) := by decide +kernel
theorem dL_law_895 : decode cL_law 895 = .ok (.iload_n 3, 1) := by decide +kernel
theorem dL_law_896 : decode cL_law 896 = .ok (.iconst 2, 1) := by decide +kernel
theorem dL_law_897 : decode cL_law 897 = .ok (.iadd, 1) := by decide +kernel
theorem dL_law_898 : decode cL_law 898 = .ok (.iaload, 1) := by decide +kernel
theorem dL_law_899 : decode cL_law 899 = .ok (.invokevirtual 93, 3) := by decide +kernel
theorem dL_law_902 : decode cL_law 902 = .ok (.aload_n 2, 1) := by decide +kernel
theorem dL_law_903 : decode cL_law 903 = .ok (.aload_n 0, 1) := by decide +kernel
theorem dL_law_904 : decode cL_law 904 = .ok (.iload_n 3, 1) := by decide +kernel
theorem dL_law_905 : decode cL_law 905 = .ok (.iconst 1, 1) := by decide +kernel
theorem dL_law_906 : decode cL_law 906 = .ok (.iadd, 1) := by decide +kernel
theorem dL_law_907 : decode cL_law 907 = .ok (.iaload, 1) := by decide +kernel
theorem dL_law_908 : decode cL_law 908 = .ok (.aload_n 0, 1) := by decide +kernel
theorem dL_law_909 : decode cL_law 909 = .ok (.iload_n 3, 1) := by decide +kernel
theorem dL_law_910 : decode cL_law 910 = .ok (.iconst 2, 1) := by decide +kernel
theorem dL_law_911 : decode cL_law 911 = .ok (.iadd, 1) := by decide +kernel
theorem dL_law_912 : decode cL_law 912 = .ok (.iaload, 1) := by decide +kernel
theorem dL_law_913 : decode cL_law 913 = .ok (.invokevirtual 96, 3) := by decide +kernel
theorem dL_law_916 : decode cL_law 916 = .ok (.if_icmp .eq 197, 3) := by decide +kernel
theorem dL_law_919 : decode cL_law 919 = .ok (.iconst 0, 1) := by decide +kernel
theorem dL_law_920 : decode cL_law 920 = .ok (.ireturn, 1) := by decide +kernel
theorem dL_law_921 : decode cL_law 921 = .ok (.aload_n 1, 1) := by decide +kernel
theorem dL_law_922 : decode cL_law 922 = .ok (.aload_n 0, 1) := by decide +kernel
theorem dL_law_923 : decode cL_law 923 = .ok (.iload_n 3, 1) := by decide +kernel
theorem dL_law_924 : decode cL_law 924 = .ok (.iconst 1, 1) := by decide +kernel
theorem dL_law_925 : decode cL_law 925 = .ok (.iadd, 1) := by decide +kernel
theorem dL_law_926 : decode cL_law 926 = .ok (.iaload, 1) := by decide +kernel
theorem dL_law_927 : decode cL_law 927 = .ok (.aload_n 0, 1) := by decide +kernel
theorem dL_law_928 : decode cL_law 928 = .ok (.iload_n 3, 1) := by decide +kernel
theorem dL_law_929 : decode cL_law 929 = .ok (.iconst 2, 1) := by decide +kernel
theorem dL_law_930 : decode cL_law 930 = .ok (.iadd, 1) := by decide +kernel
theorem dL_law_931 : decode cL_law 931 = .ok (.iaload, 1) := by decide +kernel
theorem dL_law_932 : decode cL_law 932 = .ok (.invokevirtual 97, 3) := by decide +kernel
theorem dL_law_935 : decode cL_law 935 = .ok (.aload_n 2, 1) := by decide +kernel
theorem dL_law_936 : decode cL_law 936 = .ok (.aload_n 0, 1) := by decide +kernel
theorem dL_law_937 : decode cL_law 937 = .ok (.iload_n 3, 1) := by decide +kernel
theorem dL_law_938 : decode cL_law 938 = .ok (.iconst 1, 1) := by decide +kernel
theorem dL_law_939 : decode cL_law 939 = .ok (.iadd, 1) := by decide +kernel
theorem dL_law_940 : decode cL_law 940 = .ok (.iaload, 1) := by decide +kernel
theorem dL_law_941 : decode cL_law 941 = .ok (.aload_n 0, 1) := by decide +kernel
theorem dL_law_942 : decode cL_law 942 = .ok (.iload_n 3, 1) := by decide +kernel
theorem dL_law_943 : decode cL_law 943 = .ok (.iconst 2, 1) := by decide +kernel
theorem dL_law_944 : decode cL_law 944 = .ok (.iadd, 1) := by decide +kernel
theorem dL_law_945 : decode cL_law 945 = .ok (.iaload, 1) := by decide +kernel
theorem dL_law_946 : decode cL_law 946 = .ok (.invokevirtual 100, 3) := by decide +kernel
theorem dL_law_949 : decode cL_law 949 = .ok (.if_icmp .eq 164, 3) := by decide +kernel
theorem dL_law_952 : decode cL_law 952 = .ok (.iconst 0, 1) := by decide +kernel
theorem dL_law_953 : decode cL_law 953 = .ok (.ireturn, 1) := by decide +kernel
theorem dL_law_954 : decode cL_law 954 = .ok (.aload_n 1, 1) := by decide +kernel
theorem dL_law_955 : decode cL_law 955 = .ok (.aload_n 0, 1) := by decide +kernel
theorem dL_law_956 : decode cL_law 956 = .ok (.iload_n 3, 1) := by decide +kernel
theorem dL_law_957 : decode cL_law 957 = .ok (.iconst 1, 1) := by decide +kernel
theorem dL_law_958 : decode cL_law 958 = .ok (.iadd, 1) := by decide +kernel
theorem dL_law_959 : decode cL_law 959 = .ok (.iaload, 1) := by decide +kernel
theorem dL_law_960 : decode cL_law 960 = .ok (.aload_n 0, 1) := by decide +kernel
theorem dL_law_961 : decode cL_law 961 = .ok (.iload_n 3, 1) := by decide +kernel
theorem dL_law_962 : decode cL_law 962 = .ok (.iconst 2, 1) := by decide +kernel
theorem dL_law_963 : decode cL_law 963 = .ok (.iadd, 1) := by decide +kernel
theorem dL_law_964 : decode cL_law 964 = .ok (.iaload, 1) := by decide +kernel
theorem dL_law_965 : decode cL_law 965 = .ok (.aload_n 0, 1) := by decide +kernel
theorem dL_law_966 : decode cL_law 966 = .ok (.iload_n 3, 1) := by decide +kernel
theorem dL_law_967 : decode cL_law 967 = .ok (.iconst 3, 1) := by decide +kernel
theorem dL_law_968 : decode cL_law 968 = .ok (.iadd, 1) := by decide +kernel
theorem dL_law_969 : decode cL_law 969 = .ok (.iaload, 1) := by decide +kernel
theorem dL_law_970 : decode cL_law 970 = .ok (.invokevirtual 101, 3) := by decide +kernel
theorem dL_law_973 : decode cL_law 973 = .ok (.aload_n 2, 1) := by decide +kernel
theorem dL_law_974 : decode cL_law 974 = .ok (.aload_n 0, 1) := by decide +kernel
theorem dL_law_975 : decode cL_law 975 = .ok (.iload_n 3, 1) := by decide +kernel
theorem dL_law_976 : decode cL_law 976 = .ok (.iconst 1, 1) := by decide +kernel
theorem dL_law_977 : decode cL_law 977 = .ok (.iadd, 1) := by decide +kernel
theorem dL_law_978 : decode cL_law 978 = .ok (.iaload, 1) := by decide +kernel
theorem dL_law_979 : decode cL_law 979 = .ok (.aload_n 0, 1) := by decide +kernel
theorem dL_law_980 : decode cL_law 980 = .ok (.iload_n 3, 1) := by decide +kernel
theorem dL_law_981 : decode cL_law 981 = .ok (.iconst 2, 1) := by decide +kernel
theorem dL_law_982 : decode cL_law 982 = .ok (.iadd, 1) := by decide +kernel
theorem dL_law_983 : decode cL_law 983 = .ok (.iaload, 1) := by decide +kernel
theorem dL_law_984 : decode cL_law 984 = .ok (.aload_n 0, 1) := by decide +kernel
theorem dL_law_985 : decode cL_law 985 = .ok (.iload_n 3, 1) := by decide +kernel
theorem dL_law_986 : decode cL_law 986 = .ok (.iconst 3, 1) := by decide +kernel
theorem dL_law_987 : decode cL_law 987 = .ok (.iadd, 1) := by decide +kernel
theorem dL_law_988 : decode cL_law 988 = .ok (.iaload, 1) := by decide +kernel
theorem dL_law_989 : decode cL_law 989 = .ok (.invokevirtual 104, 3) := by decide +kernel
theorem dL_law_992 : decode cL_law 992 = .ok (.if_icmp .eq 121, 3) := by decide +kernel
theorem dL_law_995 : decode cL_law 995 = .ok (.iconst 0, 1) := by decide +kernel
theorem dL_law_996 : decode cL_law 996 = .ok (.ireturn, 1) := by decide +kernel
theorem dL_law_997 : decode cL_law 997 = .ok (.aload_n 1, 1) := by decide +kernel
theorem dL_law_998 : decode cL_law 998 = .ok (.aload_n 0, 1) := by decide +kernel
theorem dL_law_999 : decode cL_law 999 = .ok (.iload_n 3, 1) := by decide +kernel
theorem dL_law_1000 : decode cL_law 1000 = .ok (.iconst 1, 1) := by decide +kernel
theorem dL_law_1001 : decode cL_law 1001 = .ok (.iadd, 1) := by decide +kernel
theorem dL_law_1002 : decode cL_law 1002 = .ok (.iaload, 1) := by decide +kernel
theorem dL_law_1003 : decode cL_law 1003 = .ok (.invokevirtual 105, 3) := by decide +kernel
theorem dL_law_1006 : decode cL_law 1006 = .ok (.aload_n 2, 1) := by decide +kernel
theorem dL_law_1007 : decode cL_law 1007 = .ok (.aload_n 0, 1) := by decide +kernel
theorem dL_law_1008 : decode cL_law 1008 = .ok (.iload_n 3, 1) := by decide +kernel
theorem dL_law_1009 : decode cL_law 1009 = .ok (.iconst 1, 1) := by decide +kernel
theorem dL_law_1010 : decode cL_law 1010 = .ok (.iadd, 1) := by decide +kernel
theorem dL_law_1011 : decode cL_law 1011 = .ok (.iaload, 1) := by decide +kernel
theorem dL_law_1012 : decode cL_law 1012 = .ok (.invokevirtual 108, 3) := by decide +kernel
theorem dL_law_1015 : decode cL_law 1015 = .ok (.if_icmp .eq 98, 3) := by decide +kernel
theorem dL_law_1018 : decode cL_law 1018 = .ok (.iconst 0, 1) := by decide +kernel
theorem dL_law_1019 : decode cL_law 1019 = .ok (.ireturn, 1) := by decide +kernel
theorem dL_law_1020 : decode cL_law 1020 = .ok (.aload_n 1, 1) := by decide +kernel
theorem dL_law_1021 : decode cL_law 1021 = .ok (.aload_n 0, 1) := by decide +kernel
theorem dL_law_1022 : decode cL_law 1022 = .ok (.iload_n 3, 1) := by decide +kernel
theorem dL_law_1023 : decode cL_law 1023 = .ok (.iconst 1, 1) := by decide +kernel
theorem dL_law_1024 : decode cL_law 1024 = .ok (.iadd, 1) := by decide +kernel
theorem dL_law_1025 : decode cL_law 1025 = .ok (.iaload, 1) := by decide +kernel
theorem dL_law_1026 : decode cL_law 1026 = .ok (.invokevirtual 109, 3) := by decide +kernel
theorem dL_law_1029 : decode cL_law 1029 = .ok (.aload_n 2, 1) := by decide +kernel
theorem dL_law_1030 : decode cL_law 1030 = .ok (.aload_n 0, 1) := by decide +kernel
theorem dL_law_1031 : decode cL_law 1031 = .ok (.iload_n 3, 1) := by decide +kernel
theorem dL_law_1032 : decode cL_law 1032 = .ok (.iconst 1, 1) := by decide +kernel
theorem dL_law_1033 : decode cL_law 1033 = .ok (.iadd, 1) := by decide +kernel
theorem dL_law_1034 : decode cL_law 1034 = .ok (.iaload, 1) := by decide +kernel
theorem dL_law_1035 : decode cL_law 1035 = .ok (.invokevirtual 112, 3) := by decide +kernel
theorem dL_law_1038 : decode cL_law 1038 = .ok (.if_icmp .eq 75, 3) := by decide +kernel
theorem dL_law_1041 : decode cL_law 1041 = .ok (.iconst 0, 1) := by decide +kernel
theorem dL_law_1042 : decode cL_law 1042 = .ok (.ireturn, 1) := by decide +kernel
theorem dL_law_1043 : decode cL_law 1043 = .ok (.aload_n 1, 1) := by decide +kernel
theorem dL_law_1044 : decode cL_law 1044 = .ok (.aload_n 0, 1) := by decide +kernel
theorem dL_law_1045 : decode cL_law 1045 = .ok (.iload_n 3, 1) := by decide +kernel
theorem dL_law_1046 : decode cL_law 1046 = .ok (.iconst 1, 1) := by decide +kernel
theorem dL_law_1047 : decode cL_law 1047 = .ok (.iadd, 1) := by decide +kernel
theorem dL_law_1048 : decode cL_law 1048 = .ok (.iaload, 1) := by decide +kernel
theorem dL_law_1049 : decode cL_law 1049 = .ok (.aload_n 0, 1) := by decide +kernel
theorem dL_law_1050 : decode cL_law 1050 = .ok (.iload_n 3, 1) := by decide +kernel
theorem dL_law_1051 : decode cL_law 1051 = .ok (.iconst 2, 1) := by decide +kernel
theorem dL_law_1052 : decode cL_law 1052 = .ok (.iadd, 1) := by decide +kernel
theorem dL_law_1053 : decode cL_law 1053 = .ok (.iaload, 1) := by decide +kernel
theorem dL_law_1054 : decode cL_law 1054 = .ok (.invokevirtual 113, 3) := by decide +kernel
theorem dL_law_1057 : decode cL_law 1057 = .ok (.aload_n 2, 1) := by decide +kernel
theorem dL_law_1058 : decode cL_law 1058 = .ok (.aload_n 0, 1) := by decide +kernel
theorem dL_law_1059 : decode cL_law 1059 = .ok (.iload_n 3, 1) := by decide +kernel
theorem dL_law_1060 : decode cL_law 1060 = .ok (.iconst 1, 1) := by decide +kernel
theorem dL_law_1061 : decode cL_law 1061 = .ok (.iadd, 1) := by decide +kernel
theorem dL_law_1062 : decode cL_law 1062 = .ok (.iaload, 1) := by decide +kernel
theorem dL_law_1063 : decode cL_law 1063 = .ok (.aload_n 0, 1) := by decide +kernel
theorem dL_law_1064 : decode cL_law 1064 = .ok (.iload_n 3, 1) := by decide +kernel
theorem dL_law_1065 : decode cL_law 1065 = .ok (.iconst 2, 1) := by decide +kernel
theorem dL_law_1066 : decode cL_law 1066 = .ok (.iadd, 1) := by decide +kernel
theorem dL_law_1067 : decode cL_law 1067 = .ok (.iaload, 1) := by decide +kernel
theorem dL_law_1068 : decode cL_law 1068 = .ok (.invokevirtual 116, 3) := by decide +kernel
theorem dL_law_1071 : decode cL_law 1071 = .ok (.if_icmp .eq 42, 3) := by decide +kernel
theorem dL_law_1074 : decode cL_law 1074 = .ok (.iconst 0, 1) := by decide +kernel
theorem dL_law_1075 : decode cL_law 1075 = .ok (.ireturn, 1) := by decide +kernel
theorem dL_law_1076 : decode cL_law 1076 = .ok (.aload_n 1, 1) := by decide +kernel
theorem dL_law_1077 : decode cL_law 1077 = .ok (.aload_n 0, 1) := by decide +kernel
theorem dL_law_1078 : decode cL_law 1078 = .ok (.iload_n 3, 1) := by decide +kernel
theorem dL_law_1079 : decode cL_law 1079 = .ok (.iconst 1, 1) := by decide +kernel
theorem dL_law_1080 : decode cL_law 1080 = .ok (.iadd, 1) := by decide +kernel
theorem dL_law_1081 : decode cL_law 1081 = .ok (.iaload, 1) := by decide +kernel
theorem dL_law_1082 : decode cL_law 1082 = .ok (.invokevirtual 117, 3) := by decide +kernel
theorem dL_law_1085 : decode cL_law 1085 = .ok (.aload_n 2, 1) := by decide +kernel
theorem dL_law_1086 : decode cL_law 1086 = .ok (.aload_n 0, 1) := by decide +kernel
theorem dL_law_1087 : decode cL_law 1087 = .ok (.iload_n 3, 1) := by decide +kernel
theorem dL_law_1088 : decode cL_law 1088 = .ok (.iconst 1, 1) := by decide +kernel
theorem dL_law_1089 : decode cL_law 1089 = .ok (.iadd, 1) := by decide +kernel
theorem dL_law_1090 : decode cL_law 1090 = .ok (.iaload, 1) := by decide +kernel
theorem dL_law_1091 : decode cL_law 1091 = .ok (.invokevirtual 120, 3) := by decide +kernel
theorem dL_law_1094 : decode cL_law 1094 = .ok (.if_icmp .eq 19, 3) := by decide +kernel
theorem dL_law_1097 : decode cL_law 1097 = .ok (.iconst 0, 1) := by decide +kernel
theorem dL_law_1098 : decode cL_law 1098 = .ok (.ireturn, 1) := by decide +kernel
theorem dL_law_1099 : decode cL_law 1099 = .ok (.aload_n 1, 1) := by decide +kernel
theorem dL_law_1100 : decode cL_law 1100 = .ok (.invokevirtual 121, 3) := by decide +kernel
theorem dL_law_1103 : decode cL_law 1103 = .ok (.aload_n 2, 1) := by decide +kernel
theorem dL_law_1104 : decode cL_law 1104 = .ok (.invokevirtual 125, 3) := by decide +kernel
theorem dL_law_1107 : decode cL_law 1107 = .ok (.lcmp, 1) := by decide +kernel
theorem dL_law_1108 : decode cL_law 1108 = .ok (.ifCond .eq 5, 3) := by decide +kernel
theorem dL_law_1111 : decode cL_law 1111 = .ok (.iconst 0, 1) := by decide +kernel
theorem dL_law_1112 : decode cL_law 1112 = .ok (.ireturn, 1) := by decide +kernel
theorem dL_law_1113 : decode cL_law 1113 = .ok (.iinc 3 6, 3) := by decide +kernel
theorem dL_law_1116 : decode cL_law 1116 = .ok (.goto (-1098), 3) := by decide +kernel
theorem dL_law_1119 : decode cL_law 1119 = .ok (.iconst 1, 1) := by decide +kernel
theorem dL_law_1120 : decode cL_law 1120 = .ok (.ireturn, 1) := by decide +kernel
abbrev vwCl : List vw_C := [(RX0, TX0, 16), (RX1, TX1, 23)]
end
section
/-! WHOLE NUMBERS AS THE MACHINE'S -/
def zI (z : Int) : Int32 := Int32.ofInt z
def zL (z : Int) : Int64 := Int64.ofInt z
theorem zI_add (a b : Int) : zI a + zI b = zI (a + b) := (Int32.ofInt_add a b).symm
theorem zI_sub (a b : Int) : zI a - zI b = zI (a - b) := (Int32.ofInt_sub a b).symm
theorem zI_mul (a b : Int) : zI a * zI b = zI (a * b) := (Int32.ofInt_mul a b).symm
theorem zL_add (a b : Int) : zL a + zL b = zL (a + b) := (Int64.ofInt_add a b).symm
theorem zL_mul (a b : Int) : zL a * zL b = zL (a * b) := (Int64.ofInt_mul a b).symm
theorem zI_toInt {a : Int} (h : -2147483648 ≤ a ∧ a < 2147483648) : (zI a).toInt = a := Int32.toInt_ofInt_of_le (by omega) (by omega)
theorem zI_le {a b : Int} (h : (-2147483648 ≤ a ∧ a < 2147483648) ∧ (-2147483648 ≤ b ∧ b < 2147483648)) : zI a ≤ zI b ↔ a ≤ b := by
  rw [Int32.le_iff_toInt_le, zI_toInt h.1, zI_toInt h.2]
theorem zI_lt {a b : Int} (h : (-2147483648 ≤ a ∧ a < 2147483648) ∧ (-2147483648 ≤ b ∧ b < 2147483648)) : zI a < zI b ↔ a < b := by
  rw [Int32.lt_iff_toInt_lt, zI_toInt h.1, zI_toInt h.2]
theorem zI_eq {a b : Int} (h : (-2147483648 ≤ a ∧ a < 2147483648) ∧ (-2147483648 ≤ b ∧ b < 2147483648)) : zI a = zI b ↔ a = b := by
  refine ⟨fun e => ?_, fun e => e ▸ rfl⟩
  have := congrArg Int32.toInt e
  rwa [zI_toInt h.1, zI_toInt h.2] at this
theorem zI_0 : (0 : Int32) = zI 0 := rfl
theorem zI_of (x : Int32) : ∃ z : Int, (-2147483648 ≤ z ∧ z < 2147483648) ∧ x = zI z := by
  refine ⟨x.toInt, ⟨?_, ?_⟩, (Int32.ofInt_toInt x).symm⟩
  · have := Int32.le_toInt x
    omega
  · have := Int32.toInt_lt x
    omega
theorem zI_min : Int32.minValue.toInt = -2147483648 := by decide +kernel
theorem zI_max : Int32.maxValue.toInt = 2147483647 := by decide +kernel
theorem zI_div {a b : Int} (h : (0 ≤ a ∧ a < 2147483648) ∧ (0 < b ∧ b < 2147483648)) : zI a / zI b = zI (a / b) := by
  unfold zI
  rw [← Int32.ofInt_tdiv (by rw [zI_min]; omega) (by rw [zI_max]; omega) (by rw [zI_min]; omega) (by rw [zI_max]; omega), Int.tdiv_eq_ediv_of_nonneg h.1.1]
theorem zI_rem {a b : Int} (h : (0 ≤ a ∧ a < 2147483648) ∧ (0 < b ∧ b < 2147483648)) : zI a - zI a / zI b * zI b = zI (a % b) := by
  rw [zI_div h, zI_mul, zI_sub]
  congr 1
  rw [Int.emod_def, Int.mul_comm]
theorem zI_toL {a : Int} (h : -2147483648 ≤ a ∧ a < 2147483648) : (zI a).toInt64 = zL a := Int32.toInt64_ofInt (by rw [zI_min]; omega) (by rw [zI_max]; omega)
theorem zI_in {z : Int} {n : Nat} (h : 0 ≤ z ∧ z < n) (hn : n < 2147483648) : vp_in (zI z) n := by
  rw [vp_in_iff, zI_toInt (by omega)]
  exact h
theorem zI_cl {z : Int} (h : 0 ≤ z ∧ z < 2147483648) : ((zI z).toNatClampNeg : Int) = z := by
  have h1 : (zI z).toNatClampNeg = (zI z).toInt.toNat := rfl
  rw [h1, zI_toInt (by omega), Int.toNat_of_nonneg h.1]
/-! THE WORLD OF ONE OBJECT AND ITS ROWS -/
abbrev Sf : Type := Nat → Int → Int
abbrev Sh : Type := (Nat × List Nat) ⊕ (Nat × Nat)
def fvl (ad : Nat → Nat) (f : Sf) (j c : Nat) : Value := match c with
  | 0 => .int (zI (f (20 + j) 0))
  | 1 => .long (zL (f (20 + j) 0))
  | n + 2 => .ref (ad n)
def cel (ad : Nat → Nat) (ty : Nat → ClassId) (f : Sf) (k : Nat) (s : Sh) : va_E := match s with
  | .inl o => .inr (o.1, o.2.mapIdx (fun j c => fvl ad f j c))
  | .inr a => .inl (ty a.1, a.2, .inl (fun i => zI (f k (i : Int))))
def wd (ad : Nat → Nat) (ty : Nat → ClassId) (f : Sf) (sh : List Sh) : va_W := sh.mapIdx (fun k s => (ad k, cel ad ty f k s))
theorem wd_get {ad : Nat → Nat} {ty : Nat → ClassId} {f : Sf} {sh : List Sh} {k : Nat} {s : Sh} (h : sh[k]? = some s) : (wd ad ty f sh)[k]? = some (ad k, cel ad ty f k s) := by
  unfold wd
  rw [List.getElem?_mapIdx, h]
  rfl
theorem wd_none {ad : Nat → Nat} {ty : Nat → ClassId} {f : Sf} {sh : List Sh} {k : Nat} (h : sh[k]? = none) : (wd ad ty f sh)[k]? = none := by
  unfold wd
  rw [List.getElem?_mapIdx, h]
  rfl
theorem wd_set {ad : Nat → Nat} {ty : Nat → ClassId} {f g : Sf} {sh : List Sh} {k : Nat} {s : Sh} (h : sh[k]? = some s) (hg : ∀ (j : Nat) (t : Sh), sh[j]? = some t → j ≠ k → cel ad ty g j t = cel ad ty f j t) : (wd ad ty f sh).set k (ad k, cel ad ty g k s) = wd ad ty g sh := by
  apply List.ext_getElem?
  intro j
  by_cases hj : k = j
  · subst hj
    have hlt : k < (wd ad ty f sh).length := (List.getElem?_eq_some_iff.mp (wd_get (f := f) (ad := ad) (ty := ty) h)).1
    rw [List.getElem?_set_self hlt, wd_get h]
  · rw [List.getElem?_set_ne hj]
    cases ht : sh[j]? with
    | none => rw [wd_none ht, wd_none ht]
    | some t => rw [wd_get ht, wd_get ht, hg j t ht (fun e => hj e.symm)]
def up (f : Sf) (k : Nat) (z v : Int) : Sf := fun k' => if k' = k then (fun z' => if z' = z then v else f k z') else f k'
theorem up_ne {f : Sf} {k j : Nat} {z v : Int} (h : j ≠ k) : up f k z v j = f j := by
  unfold up
  rw [if_neg h]
theorem up_eq (f : Sf) (k : Nat) (z v : Int) : up f k z v k = fun z' => if z' = z then v else f k z' := by
  unfold up
  rw [if_pos rfl]
theorem up_at (f : Sf) (k : Nat) (z v i : Int) : up f k z v k i = if i = z then v else f k i := by
  rw [up_eq]
theorem cel_up {ad : Nat → Nat} {ty : Nat → ClassId} {f : Sf} {k0 j : Nat} {z v : Int} {s : Sh} (hj : j ≠ k0) (h20 : j < 20) (ho : k0 < 20 ∨ ∀ o, s ≠ .inl o) : cel ad ty (up f k0 z v) j s = cel ad ty f j s := by
  cases s with
  | inl o =>
    have hk : k0 < 20 := ho.elim id (fun h => absurd rfl (h o))
    show Sum.inr (o.1, o.2.mapIdx (fun j c => fvl ad (up f k0 z v) j c)) = Sum.inr (o.1, o.2.mapIdx (fun j c => fvl ad f j c))
    have e : (fun j c => fvl ad (up f k0 z v) j c) = (fun j c => fvl ad f j c) := by
     funext i c
     match c with
     | 0 => show Value.int (zI (up f k0 z v (20 + i) 0)) = Value.int (zI (f (20 + i) 0)); rw [up_ne (by omega)]
     | 1 => show Value.long (zL (up f k0 z v (20 + i) 0)) = Value.long (zL (f (20 + i) 0)); rw [up_ne (by omega)]
     | n + 2 => rfl
    rw [e]
  | inr a =>
    show Sum.inl (ty a.1, a.2, Sum.inl (fun i : Nat => zI (up f k0 z v j (i : Int)))) = Sum.inl (ty a.1, a.2, Sum.inl (fun i : Nat => zI (f j (i : Int))))
    rw [up_ne hj]
theorem fvl_set {ad : Nat → Nat} {f : Sf} {fs : List Nat} {j c : Nat} {v : Int} {x : Value} (h : fs[j]? = some c) (hx : fvl ad (up f (20 + j) 0 v) j c = x) : (fs.mapIdx (fun j c => fvl ad f j c)).set j x = fs.mapIdx (fun i c => fvl ad (up f (20 + j) 0 v) i c) := by
  apply List.ext_getElem?
  intro i
  have hl : j < fs.length := (List.getElem?_eq_some_iff.mp h).1
  by_cases hi : j = i
  · subst hi
    rw [List.getElem?_set_self (by simpa using hl), List.getElem?_mapIdx, h, ← hx]
    rfl
  · rw [List.getElem?_set_ne hi, List.getElem?_mapIdx, List.getElem?_mapIdx]
    cases hc : fs[i]? with
    | none => rfl
    | some c' =>
      show some (fvl ad f i c') = some (fvl ad (up f (20 + j) 0 v) i c')
      match c' with
      | 0 => show some (Value.int (zI (f (20 + i) 0))) = some (Value.int (zI (up f (20 + j) 0 v (20 + i) 0))); rw [up_ne (by omega)]
      | 1 => show some (Value.long (zL (f (20 + i) 0))) = some (Value.long (zL (up f (20 + j) 0 v (20 + i) 0))); rw [up_ne (by omega)]
      | n + 2 => rfl
def cmb (per : Nat → Bool) (τ ζ : Sf) : Sf := fun k => if per k = true then τ k else ζ k
theorem cmb_P {per : Nat → Bool} {τ ζ : Sf} {k : Nat} (h : per k = true) : cmb per τ ζ k = τ k := by
  unfold cmb
  rw [if_pos h]
theorem cmb_S {per : Nat → Bool} {τ ζ : Sf} {k : Nat} (h : per k = false) : cmb per τ ζ k = ζ k := by
  unfold cmb
  rw [if_neg (by rw [h]; decide)]
theorem cmb_upP {per : Nat → Bool} {τ ζ : Sf} {k : Nat} {z v : Int} (h : per k = true) : cmb per (up τ k z v) ζ = up (cmb per τ ζ) k z v := by
  funext j
  by_cases hj : j = k
  · subst hj
    rw [cmb_P h, up_eq, up_eq, cmb_P h]
  · rw [up_ne hj]
    unfold cmb
    rw [up_ne hj]
theorem cmb_upS {per : Nat → Bool} {τ ζ : Sf} {k : Nat} {z v : Int} (h : per k = false) : cmb per τ (up ζ k z v) = up (cmb per τ ζ) k z v := by
  funext j
  by_cases hj : j = k
  · subst hj
    rw [cmb_S h, up_eq, up_eq, cmb_S h]
  · rw [up_ne hj]
    unfold cmb
    rw [up_ne hj]
/-- the launch, the kinds of cells, the places -/
abbrev Ev : Type := Launch × (Nat → ClassId) × (Nat → Nat → Nat) × ClassId × ClassId × (Nat → Nat)
/-- which cells persist, the shapes, are there boolean rows, the kind of the object, its fields, how many, its number -/
abbrev Gd : Type := (Nat → Bool) × List Sh × Bool × String × u_T × Nat × Nat
abbrev Mt : Type := MethodName × List Cond × ByteArray × Nat × Option FieldType
def eAd (E : Ev) : Nat → Nat := E.2.2.2.2.2
def eTy (E : Ev) : Nat → ClassId := fun t => match t with
  | 0 => E.2.2.2.1
  | _ => E.2.2.2.2.1
def eTs (E : Ev) (G : Gd) : List (ClassId × FieldType) := if G.2.2.1 = true then [(E.2.2.2.1, .int), (E.2.2.2.2.1, .boolean)] else [(E.2.2.2.1, .int)]
def eD (E : Ev) : va_G := (E.2.1, E.2.2.1)
def WD (E : Ev) (G : Gd) (τ ζ : Sf) : va_W := wd (eAd E) (eTy E) (cmb G.1 τ ζ) G.2.1
def AA (E : Ev) (G : Gd) : Nat → Prop := fun q => ∃ k : Nat, k < G.2.1.length ∧ q = eAd E k
def HW (E : Ev) (G : Gd) (τ ζ : Sf) (s : State) (H : Heap) : Prop := va_K (eD E) vwCl (eTs E G) s ∧ va_P (eD E) vwCl (WD E G τ ζ) H ∧ va_D (AA E G) (WD E G τ ζ)
def rmd (d : Nat) : Room := { frames := d, cells := 0, slots := 0, locals := 64 * d }
def QQ (E : Ev) (G : Gd) (Q : Option Value → Sf → Sf → Prop) : Array Value → State → Outcome → State → Prop := fun _ st oc t => (∃ (v : Option Value) (τ ζ : Sf), oc = .returned v ∧ Q v τ ζ ∧ HW E G τ ζ t t.heap) ∧ va_F (AA E G) st t
def Lh (ls : Array Slot) (nL : Nat) (L : List (Option Value)) : Prop := ls.size = nL ∧ lv_wf ls ∧ ∀ (i : Nat) (v : Value), L[i]? = some (some v) → ls[i]? = some (.val v)
def asL (L : List (Option Value)) : List (Nat × Value) := L.zipIdx.filterMap (fun q => q.1.map (fun v => (q.2, v)))
theorem asL_mem {L : List (Option Value)} {i : Nat} {v : Value} : (i, v) ∈ asL L ↔ L[i]? = some (some v) := by
  unfold asL
  rw [List.mem_filterMap]
  constructor
  · rintro ⟨⟨o, j⟩, h1, h2⟩
    cases o with
    | none => cases h2
    | some w =>
      cases h2
      exact List.mem_zipIdx_iff_getElem?.mp h1
  · intro h
    exact ⟨(some v, i), List.mem_zipIdx_iff_getElem?.mpr h, rfl⟩
theorem Lh.has {ls : Array Slot} {nL : Nat} {L : List (Option Value)} (h : Lh ls nL L) : lv_has ls nL (asL L) := ⟨h.1, h.2.1, fun q hq => h.2.2 q.1 q.2 (asL_mem.mp hq)⟩
def okS (i : Nat) (L : List (Option Value)) : Bool := match i with
  | 0 => true
  | j + 1 => match L[j]? with
    | some (some w) => w.category == 1
    | _ => true
theorem Lh.set1 {ls : Array Slot} {nL i : Nat} {L : List (Option Value)} {v : Value} (h : lv_has ls nL ((i, v) :: (asL L).filter (fun q => !(q.1 == i) && !(q.1 + 1 == i && q.2.category == 2)))) (ho : okS i L = true) : Lh ls nL (L.set i (some v)) := by
  refine ⟨h.1, h.2.1, fun j w hj => ?_⟩
  by_cases e : i = j
  · subst e
    have hlt : i < L.length := by
      have := (List.getElem?_eq_some_iff.mp hj).1
      simpa using this
    rw [List.getElem?_set_self hlt] at hj
    cases hj
    exact h.2.2 (i, v) List.mem_cons_self
  · rw [List.getElem?_set_ne e] at hj
    refine h.2.2 (j, w) (List.mem_cons_of_mem _ (List.mem_filter.mpr ⟨asL_mem.mpr hj, ?_⟩))
    have h1 : (j == i) = false := by simpa using fun q => e q.symm
    by_cases h2 : j + 1 = i
    · subst h2
      have h3 : (w.category == 1) = true := by
        unfold okS at ho
        simpa [hj] using ho
      have h4 : w.category = 1 := by simpa using h3
      simp [h4]
    · have h3 : (j + 1 == i) = false := by simpa using h2
      simp [h1, h3]
theorem Lh.set2 {ls : Array Slot} {nL i : Nat} {L : List (Option Value)} {v : Value} (h : lv_has ls nL ((i, v) :: (asL L).filter (fun q => !(q.1 == i) && (!(q.1 == i + 1) && !(q.1 + 1 == i && q.2.category == 2))))) (ho : okS i L = true) : Lh ls nL ((L.set i (some v)).set (i + 1) none) := by
  refine ⟨h.1, h.2.1, fun j w hj => ?_⟩
  by_cases e1 : i + 1 = j
  · subst e1
    by_cases hlt : i + 1 < (L.set i (some v)).length
    · rw [List.getElem?_set_self hlt] at hj
      cases hj
    · have := (List.getElem?_eq_some_iff.mp hj).1
      simp at this hlt
      omega
  · rw [List.getElem?_set_ne e1] at hj
    by_cases e : i = j
    · subst e
      have hlt : i < L.length := by
        have := (List.getElem?_eq_some_iff.mp hj).1
        simpa using this
      rw [List.getElem?_set_self hlt] at hj
      cases hj
      exact h.2.2 (i, v) List.mem_cons_self
    · rw [List.getElem?_set_ne e] at hj
      refine h.2.2 (j, w) (List.mem_cons_of_mem _ (List.mem_filter.mpr ⟨asL_mem.mpr hj, ?_⟩))
      have h1 : (j == i) = false := by simpa using fun q => e q.symm
      have h1' : (j == i + 1) = false := by simpa using fun q => e1 q.symm
      by_cases h2 : j + 1 = i
      · subst h2
        have h3 : (w.category == 1) = true := by
          unfold okS at ho
          simpa [hj] using ho
        have h4 : w.category = 1 := by simpa using h3
        simp [h4]
        omega
      · have h3 : (j + 1 == i) = false := by simpa using h2
        simp [h1, h1', h3]
def Cx (E : Ev) (G : Gd) (k : Mt) (L : List (Option Value)) (τ ζ : Sf) (p : Program) (s : State) (m : MethodId) (args : Array Value) (meth : Method) (c : Code) (H : Heap) (locs : List Loc) (ls : Array Slot) : Prop :=
  p.tables.exec = Jvm.exec ∧ c.code = k.2.2.1 ∧ c.maxLocals = k.2.2.2.1 ∧ meth.sig.returnType = k.2.2.2.2 ∧ meth.locks = false ∧ (∀ w ∈ k.2.1, w.before args s = true) ∧ s.vm.findClass k.1.cls = some m.cls ∧ HW E G τ ζ s H ∧ va_S (AA E G) s.heap H locs ∧ Lh ls k.2.2.2.1 L
/-- THE JUDGEMENT: from this place of the method, with these locals, this stack and these cells, the method comes to its end with Q -/
def R (E : Ev) (G : Gd) (k : Mt) (d pc : Nat) (L : List (Option Value)) (st : List Value) (τ ζ : Sf) (Q : Option Value → Sf → Sf → Prop) : Prop :=
  ∀ (p : Program) (e : Env) (s : State) (m : MethodId) (args : Array Value) (below : List Frame) (meth : Method) (c : Code) (H : Heap) (locs : List Loc) (ls : Array Slot), Cx E G k L τ ζ p s m args meth c H locs ls →
    W p E.1 e (rmd d) s m args below meth c H locs 0 0 (MQ below (QQ E G Q) args s 0 0 (AA E G)) (F0 m pc ls st)
/-- THE CONTRACT of a method, for these arguments and cells -/
def C (E : Ev) (G : Gd) (k : Mt) (d : Nat) (as : List Value) (τ ζ : Sf) (Q : Option Value → Sf → Sf → Prop) : Prop :=
  Met E.1 k.1 k.2.1 (rmd d) (va_Pc as (fun U => HW E G τ ζ U U.heap)) (QQ E G Q) 0 0 (AA E G)
/-- what kind the object is -/
def Gok (G : Gd) : Prop := vwCl[G.2.2.2.2.2.2]? = some (G.2.2.2.1, G.2.2.2.2.1, G.2.2.2.2.2.1) ∧ G.2.1.length ≤ 20 ∧ (∀ a, a < G.2.2.2.2.2.1 → ∀ b, b < G.2.2.2.2.2.1 → a ≠ b → (G.2.2.2.2.1 a).2.1 ≠ (G.2.2.2.2.1 b).2.1) ∧ (∀ j, j < G.2.2.2.2.2.1 → ∃ ty, parseFieldDescriptor (G.2.2.2.2.1 j).2.2.1 = some ty)
theorem Cx.ls' {E : Ev} {G : Gd} {k : Mt} {L L' : List (Option Value)} {τ ζ : Sf} {p : Program} {s : State} {m : MethodId} {args : Array Value} {meth : Method} {c : Code} {H : Heap} {locs : List Loc} {ls ls' : Array Slot} (X : Cx E G k L τ ζ p s m args meth c H locs ls) (h : Lh ls' k.2.2.2.1 L') : Cx E G k L' τ ζ p s m args meth c H locs ls' := by
  obtain ⟨x1, x2, x3, x4, x5, x6, x7, x8, x9, -⟩ := X
  exact ⟨x1, x2, x3, x4, x5, x6, x7, x8, x9, h⟩
theorem Cx.H' {E : Ev} {G : Gd} {k : Mt} {L : List (Option Value)} {τ ζ τ' ζ' : Sf} {p : Program} {s : State} {m : MethodId} {args : Array Value} {meth : Method} {c : Code} {H H' : Heap} {locs locs' : List Loc} {ls : Array Slot} (X : Cx E G k L τ ζ p s m args meth c H locs ls) (h : HW E G τ' ζ' s H') (hS : va_S (AA E G) s.heap H' locs') : Cx E G k L τ' ζ' p s m args meth c H' locs' ls := by
  obtain ⟨x1, x2, x3, x4, x5, x6, x7, x8, x9, x10⟩ := X
  exact ⟨x1, x2, x3, x4, x5, x6, x7, h, hS, x10⟩
theorem HW.moved {E : Ev} {G : Gd} {τ ζ : Sf} {u U : State} {H : Heap} (hvm : u.vm.Alike U.vm) (h : HW E G τ ζ u H) : HW E G τ ζ U H := ⟨va_K.moved hvm h.1, h.2⟩
end
section
section RR
variable {E : Ev} {G : Gd} {k : Mt} {d pc : Nat} {L : List (Option Value)} {st : List Value} {τ ζ : Sf} {Q : Option Value → Sf → Sf → Prop}

theorem R_iload {i : Nat} {x : Int32} (hd : decode k.2.2.1 pc = .ok (.iload i, 2)) (hl : L[i]? = some (some (.int x))) (K : R E G k d (pc + 2) L (.int x :: st) τ ζ Q) : R E G k d pc L st τ ζ Q := by
  intro p e s m args below meth c H locs ls X
  exact lv_iload X.1 X.2.1 hd (X.2.2.2.2.2.2.2.2.2.2.2 i _ hl) (K p e s m args below meth c H locs ls X)
theorem R_iload_n {i : Fin 4} {x : Int32} (hd : decode k.2.2.1 pc = .ok (.iload_n i, 1)) (hl : L[(i : Nat)]? = some (some (.int x))) (K : R E G k d (pc + 1) L (.int x :: st) τ ζ Q) : R E G k d pc L st τ ζ Q := by
  intro p e s m args below meth c H locs ls X
  exact lv_iload_n X.1 X.2.1 hd rfl (X.2.2.2.2.2.2.2.2.2.2.2 i _ hl) (K p e s m args below meth c H locs ls X)
theorem R_lload {i : Nat} {x : Int64} (hd : decode k.2.2.1 pc = .ok (.lload i, 2)) (hl : L[i]? = some (some (.long x))) (K : R E G k d (pc + 2) L (.long x :: st) τ ζ Q) : R E G k d pc L st τ ζ Q := by
  intro p e s m args below meth c H locs ls X
  exact lv_lload X.1 X.2.1 hd (X.2.2.2.2.2.2.2.2.2.2.2 i _ hl) (K p e s m args below meth c H locs ls X)
theorem R_lload_n {i : Fin 4} {x : Int64} (hd : decode k.2.2.1 pc = .ok (.lload_n i, 1)) (hl : L[(i : Nat)]? = some (some (.long x))) (K : R E G k d (pc + 1) L (.long x :: st) τ ζ Q) : R E G k d pc L st τ ζ Q := by
  intro p e s m args below meth c H locs ls X
  exact lv_lload_n X.1 X.2.1 hd rfl (X.2.2.2.2.2.2.2.2.2.2.2 i _ hl) (K p e s m args below meth c H locs ls X)
theorem R_aload {i : Nat} {x : Nat} (hd : decode k.2.2.1 pc = .ok (.aload i, 2)) (hl : L[i]? = some (some (.ref x))) (K : R E G k d (pc + 2) L (.ref x :: st) τ ζ Q) : R E G k d pc L st τ ζ Q := by
  intro p e s m args below meth c H locs ls X
  exact lv_aload X.1 X.2.1 hd (X.2.2.2.2.2.2.2.2.2.2.2 i _ hl) (K p e s m args below meth c H locs ls X)
theorem R_aload_n {i : Fin 4} {x : Nat} (hd : decode k.2.2.1 pc = .ok (.aload_n i, 1)) (hl : L[(i : Nat)]? = some (some (.ref x))) (K : R E G k d (pc + 1) L (.ref x :: st) τ ζ Q) : R E G k d pc L st τ ζ Q := by
  intro p e s m args below meth c H locs ls X
  exact lv_aload_n X.1 X.2.1 hd rfl (X.2.2.2.2.2.2.2.2.2.2.2 i _ hl) (K p e s m args below meth c H locs ls X)
theorem R_istore {i : Nat} {x : Int32} (hd : decode k.2.2.1 pc = .ok (.istore i, 2)) (hn : Nat.blt i k.2.2.2.1 = true) (ho : okS i L = true) (K : R E G k d (pc + 2) (L.set i (some (.int x))) st τ ζ Q) : R E G k d pc L (.int x :: st) τ ζ Q := by
  intro p e s m args below meth c H locs ls X
  exact lv_istore X.1 X.2.1 hd (X.2.2.2.2.2.2.2.2.2.has) (Nat.blt_eq.mp hn) rfl (fun ls' h => K p e s m args below meth c H locs ls' (X.ls' (Lh.set1 h ho)))
theorem R_istore_n {i : Fin 4} {x : Int32} (hd : decode k.2.2.1 pc = .ok (.istore_n i, 1)) (hn : Nat.blt (i : Nat) k.2.2.2.1 = true) (ho : okS (i : Nat) L = true) (K : R E G k d (pc + 1) (L.set (i : Nat) (some (.int x))) st τ ζ Q) : R E G k d pc L (.int x :: st) τ ζ Q := by
  intro p e s m args below meth c H locs ls X
  exact lv_istore_n X.1 X.2.1 hd rfl (X.2.2.2.2.2.2.2.2.2.has) (Nat.blt_eq.mp hn) rfl (fun ls' h => K p e s m args below meth c H locs ls' (X.ls' (Lh.set1 h ho)))
theorem R_lstore {i : Nat} {x : Int64} (hd : decode k.2.2.1 pc = .ok (.lstore i, 2)) (hn : Nat.blt (i + 1) k.2.2.2.1 = true) (ho : okS i L = true) (K : R E G k d (pc + 2) ((L.set i (some (.long x))).set (i + 1) none) st τ ζ Q) : R E G k d pc L (.long x :: st) τ ζ Q := by
  intro p e s m args below meth c H locs ls X
  exact lv_lstore X.1 X.2.1 hd (X.2.2.2.2.2.2.2.2.2.has) (Nat.blt_eq.mp hn) rfl (fun ls' h => K p e s m args below meth c H locs ls' (X.ls' (Lh.set2 h ho)))
theorem R_lstore_n {i : Fin 4} {x : Int64} (hd : decode k.2.2.1 pc = .ok (.lstore_n i, 1)) (hn : Nat.blt ((i : Nat) + 1) k.2.2.2.1 = true) (ho : okS (i : Nat) L = true) (K : R E G k d (pc + 1) ((L.set (i : Nat) (some (.long x))).set ((i : Nat) + 1) none) st τ ζ Q) : R E G k d pc L (.long x :: st) τ ζ Q := by
  intro p e s m args below meth c H locs ls X
  exact lv_lstore_n X.1 X.2.1 hd rfl (X.2.2.2.2.2.2.2.2.2.has) (Nat.blt_eq.mp hn) rfl (fun ls' h => K p e s m args below meth c H locs ls' (X.ls' (Lh.set2 h ho)))
theorem R_iinc {i : Nat} {n z : Int} (hd : decode k.2.2.1 pc = .ok (.iinc i n, 3)) (hl : L[i]? = some (some (.int (zI z)))) (hn : Nat.blt i k.2.2.2.1 = true) (ho : okS i L = true) (K : R E G k d (pc + 3) (L.set i (some (.int (zI (z + n))))) st τ ζ Q) : R E G k d pc L st τ ζ Q := by
  intro p e s m args below meth c H locs ls X
  obtain ⟨q, hq⟩ := List.getElem?_of_mem (asL_mem.mpr hl)
  exact lv_iinc (v := zI (z + n)) X.1 X.2.1 hd (X.2.2.2.2.2.2.2.2.2.has) hq (zI_add z n) (Nat.blt_eq.mp hn) rfl (fun ls' h => K p e s m args below meth c H locs ls' (X.ls' (Lh.set1 h ho)))
theorem R_iconst {n : Int} (hd : decode k.2.2.1 pc = .ok (.iconst n, 1)) (K : R E G k d (pc + 1) L (.int (zI n) :: st) τ ζ Q) : R E G k d pc L st τ ζ Q := by
  intro p e s m args below meth c H locs ls X
  exact lv_iconst X.1 X.2.1 hd rfl (K p e s m args below meth c H locs ls X)
theorem R_bipush {n : Int} (hd : decode k.2.2.1 pc = .ok (.bipush n, 2)) (hv : (Int8.ofInt n).toInt32 = zI n) (K : R E G k d (pc + 2) L (.int (zI n) :: st) τ ζ Q) : R E G k d pc L st τ ζ Q := by
  intro p e s m args below meth c H locs ls X
  exact lv_bipush X.1 X.2.1 hd hv (K p e s m args below meth c H locs ls X)
theorem R_sipush {n : Int} (hd : decode k.2.2.1 pc = .ok (.sipush n, 3)) (hv : (Int16.ofInt n).toInt32 = zI n) (K : R E G k d (pc + 3) L (.int (zI n) :: st) τ ζ Q) : R E G k d pc L st τ ζ Q := by
  intro p e s m args below meth c H locs ls X
  exact lv_sipush X.1 X.2.1 hd hv (K p e s m args below meth c H locs ls X)
theorem R_ldc {i : Nat} {v : Int32} (z : Int) (hd : decode k.2.2.1 pc = .ok (.ldc i, 2)) (hc : Jvm.Cond.constant k.1.cls i v ∈ k.2.1) (hv : v = zI z) (K : R E G k d (pc + 2) L (.int (zI z) :: st) τ ζ Q) : R E G k d pc L st τ ζ Q := by
  subst hv
  intro p e s m args below meth c H locs ls X
  exact lv_ldc X.1 X.2.1 X.2.2.2.2.2.2.1 (X.2.2.2.2.2.1 _ hc) hd (K p e s m args below meth c H locs ls X)
theorem R_lconst {n : Fin 2} (z : Int) (hd : decode k.2.2.1 pc = .ok (.lconst n, 1)) (hv : Int64.ofNat (n : Nat) = zL z) (K : R E G k d (pc + 1) L (.long (zL z) :: st) τ ζ Q) : R E G k d pc L st τ ζ Q := by
  intro p e s m args below meth c H locs ls X
  exact lv_lconst X.1 X.2.1 hd hv (K p e s m args below meth c H locs ls X)
theorem R_ldc2 {i : Nat} {v : Int64} (z : Int) (hd : decode k.2.2.1 pc = .ok (.ldc2_w i, 3)) (hc : Jvm.Cond.constantLong k.1.cls i v ∈ k.2.1) (hv : v = zL z) (K : R E G k d (pc + 3) L (.long (zL z) :: st) τ ζ Q) : R E G k d pc L st τ ζ Q := by
  subst hv
  intro p e s m args below meth c H locs ls X
  exact lv_ldc2 X.1 X.2.1 X.2.2.2.2.2.2.1 (X.2.2.2.2.2.1 _ hc) hd (K p e s m args below meth c H locs ls X)
theorem R_iadd {a b : Int} (hd : decode k.2.2.1 pc = .ok (.iadd, 1)) (K : R E G k d (pc + 1) L (.int (zI (a + b)) :: st) τ ζ Q) : R E G k d pc L (.int (zI b) :: .int (zI a) :: st) τ ζ Q := by
  intro p e s m args below meth c H locs ls X
  refine lv_iadd X.1 X.2.1 hd ?_
  rw [zI_add]
  exact K p e s m args below meth c H locs ls X
theorem R_isub {a b : Int} (hd : decode k.2.2.1 pc = .ok (.isub, 1)) (K : R E G k d (pc + 1) L (.int (zI (a - b)) :: st) τ ζ Q) : R E G k d pc L (.int (zI b) :: .int (zI a) :: st) τ ζ Q := by
  intro p e s m args below meth c H locs ls X
  refine lv_isub X.1 X.2.1 hd ?_
  rw [zI_sub]
  exact K p e s m args below meth c H locs ls X
theorem R_imul {a b : Int} (hd : decode k.2.2.1 pc = .ok (.imul, 1)) (K : R E G k d (pc + 1) L (.int (zI (a * b)) :: st) τ ζ Q) : R E G k d pc L (.int (zI b) :: .int (zI a) :: st) τ ζ Q := by
  intro p e s m args below meth c H locs ls X
  refine lv_imul X.1 X.2.1 hd ?_
  rw [zI_mul]
  exact K p e s m args below meth c H locs ls X
theorem R_idiv {a b : Int} (hr : (0 ≤ a ∧ a < 2147483648) ∧ (0 < b ∧ b < 2147483648)) (hd : decode k.2.2.1 pc = .ok (.idiv, 1)) (K : R E G k d (pc + 1) L (.int (zI (a / b)) :: st) τ ζ Q) : R E G k d pc L (.int (zI b) :: .int (zI a) :: st) τ ζ Q := by
  intro p e s m args below meth c H locs ls X
  refine lv_idiv X.1 X.2.1 hd (fun h => ?_) ?_
  · rw [zI_0, zI_eq (by omega)] at h
    omega
  rw [zI_div hr]
  exact K p e s m args below meth c H locs ls X
theorem R_irem {a b : Int} (hr : (0 ≤ a ∧ a < 2147483648) ∧ (0 < b ∧ b < 2147483648)) (hd : decode k.2.2.1 pc = .ok (.irem, 1)) (K : R E G k d (pc + 1) L (.int (zI (a % b)) :: st) τ ζ Q) : R E G k d pc L (.int (zI b) :: .int (zI a) :: st) τ ζ Q := by
  intro p e s m args below meth c H locs ls X
  refine lv_irem X.1 X.2.1 hd (fun h => ?_) ?_
  · rw [zI_0, zI_eq (by omega)] at h
    omega
  rw [zI_rem hr]
  exact K p e s m args below meth c H locs ls X
theorem R_iand {x y : Int32} (z : Int) (hv : x &&& y = zI z) (hd : decode k.2.2.1 pc = .ok (.iand, 1)) (K : R E G k d (pc + 1) L (.int (zI z) :: st) τ ζ Q) : R E G k d pc L (.int y :: .int x :: st) τ ζ Q := by
  intro p e s m args below meth c H locs ls X
  refine lv_iand X.1 X.2.1 hd ?_
  rw [hv]
  exact K p e s m args below meth c H locs ls X
theorem R_ior {x y : Int32} (z : Int) (hv : x ||| y = zI z) (hd : decode k.2.2.1 pc = .ok (.ior, 1)) (K : R E G k d (pc + 1) L (.int (zI z) :: st) τ ζ Q) : R E G k d pc L (.int y :: .int x :: st) τ ζ Q := by
  intro p e s m args below meth c H locs ls X
  refine lv_ior X.1 X.2.1 hd ?_
  rw [hv]
  exact K p e s m args below meth c H locs ls X
theorem R_ixor {x y : Int32} (z : Int) (hv : x ^^^ y = zI z) (hd : decode k.2.2.1 pc = .ok (.ixor, 1)) (K : R E G k d (pc + 1) L (.int (zI z) :: st) τ ζ Q) : R E G k d pc L (.int y :: .int x :: st) τ ζ Q := by
  intro p e s m args below meth c H locs ls X
  refine lv_ixor X.1 X.2.1 hd ?_
  rw [hv]
  exact K p e s m args below meth c H locs ls X
theorem R_ishl {x y : Int32} (z : Int) (hv : x <<< (y &&& 31) = zI z) (hd : decode k.2.2.1 pc = .ok (.ishl, 1)) (K : R E G k d (pc + 1) L (.int (zI z) :: st) τ ζ Q) : R E G k d pc L (.int y :: .int x :: st) τ ζ Q := by
  intro p e s m args below meth c H locs ls X
  refine lv_ishl X.1 X.2.1 hd ?_
  rw [hv]
  exact K p e s m args below meth c H locs ls X
theorem R_ishr {x y : Int32} (z : Int) (hv : x >>> (y &&& 31) = zI z) (hd : decode k.2.2.1 pc = .ok (.ishr, 1)) (K : R E G k d (pc + 1) L (.int (zI z) :: st) τ ζ Q) : R E G k d pc L (.int y :: .int x :: st) τ ζ Q := by
  intro p e s m args below meth c H locs ls X
  refine lv_ishr X.1 X.2.1 hd ?_
  rw [hv]
  exact K p e s m args below meth c H locs ls X
theorem R_iushr {x y : Int32} (z : Int) (hv : (x.toUInt32 >>> (y.toUInt32 &&& Int32.toUInt32 31)).toInt32 = zI z) (hd : decode k.2.2.1 pc = .ok (.iushr, 1)) (K : R E G k d (pc + 1) L (.int (zI z) :: st) τ ζ Q) : R E G k d pc L (.int y :: .int x :: st) τ ζ Q := by
  intro p e s m args below meth c H locs ls X
  exact lv_iushr X.1 X.2.1 hd hv (K p e s m args below meth c H locs ls X)
theorem R_ladd {a b : Int} (hd : decode k.2.2.1 pc = .ok (.ladd, 1)) (K : R E G k d (pc + 1) L (.long (zL (a + b)) :: st) τ ζ Q) : R E G k d pc L (.long (zL b) :: .long (zL a) :: st) τ ζ Q := by
  intro p e s m args below meth c H locs ls X
  refine lv_ladd X.1 X.2.1 hd ?_
  rw [zL_add]
  exact K p e s m args below meth c H locs ls X
theorem R_lmul {a b : Int} (hd : decode k.2.2.1 pc = .ok (.lmul, 1)) (K : R E G k d (pc + 1) L (.long (zL (a * b)) :: st) τ ζ Q) : R E G k d pc L (.long (zL b) :: .long (zL a) :: st) τ ζ Q := by
  intro p e s m args below meth c H locs ls X
  refine lv_lmul X.1 X.2.1 hd ?_
  rw [zL_mul]
  exact K p e s m args below meth c H locs ls X
theorem R_i2l {a : Int} (hr : -2147483648 ≤ a ∧ a < 2147483648) (hd : decode k.2.2.1 pc = .ok (.i2l, 1)) (K : R E G k d (pc + 1) L (.long (zL a) :: st) τ ζ Q) : R E G k d pc L (.int (zI a) :: st) τ ζ Q := by
  intro p e s m args below meth c H locs ls X
  exact lv_i2l X.1 X.2.1 hd (zI_toL hr) (K p e s m args below meth c H locs ls X)
theorem R_dup {v : Value} (hv : v.category = 1) (hd : decode k.2.2.1 pc = .ok (.dup, 1)) (K : R E G k d (pc + 1) L (v :: v :: st) τ ζ Q) : R E G k d pc L (v :: st) τ ζ Q := by
  intro p e s m args below meth c H locs ls X
  exact lv_dup X.1 X.2.1 hd hv (K p e s m args below meth c H locs ls X)
theorem R_dup2 {v w : Value} (hv : v.category = 1) (hw : w.category = 1) (hd : decode k.2.2.1 pc = .ok (.dup2, 1)) (K : R E G k d (pc + 1) L (v :: w :: v :: w :: st) τ ζ Q) : R E G k d pc L (v :: w :: st) τ ζ Q := by
  intro p e s m args below meth c H locs ls X
  exact lv_dup2_11 X.1 X.2.1 hd hv hw (K p e s m args below meth c H locs ls X)
theorem R_icmp_ge {a b off : Int} {tgt : Nat} (hr : (-2147483648 ≤ a ∧ a < 2147483648) ∧ (-2147483648 ≤ b ∧ b < 2147483648)) (hd : decode k.2.2.1 pc = .ok (.if_icmp .ge off, 3)) (ht : (pc : Int) + off = (tgt : Int)) (kt : b ≤ a → R E G k d tgt L st τ ζ Q) (kf : a < b → R E G k d (pc + 3) L st τ ζ Q) : R E G k d pc L (.int (zI b) :: .int (zI a) :: st) τ ζ Q := by
  intro p e s m args below meth c H locs ls X
  exact lv_icmp_ge X.1 X.2.1 hd ht (fun h => kt ((zI_le ⟨hr.2, hr.1⟩).mp h) p e s m args below meth c H locs ls X) (fun h => kf (Int.not_le.mp (fun q => h ((zI_le ⟨hr.2, hr.1⟩).mpr q))) p e s m args below meth c H locs ls X)
theorem R_icmp_lt {a b off : Int} {tgt : Nat} (hr : (-2147483648 ≤ a ∧ a < 2147483648) ∧ (-2147483648 ≤ b ∧ b < 2147483648)) (hd : decode k.2.2.1 pc = .ok (.if_icmp .lt off, 3)) (ht : (pc : Int) + off = (tgt : Int)) (kt : a < b → R E G k d tgt L st τ ζ Q) (kf : b ≤ a → R E G k d (pc + 3) L st τ ζ Q) : R E G k d pc L (.int (zI b) :: .int (zI a) :: st) τ ζ Q := by
  intro p e s m args below meth c H locs ls X
  exact lv_icmp_lt X.1 X.2.1 hd ht (fun h => kt ((zI_lt hr).mp h) p e s m args below meth c H locs ls X) (fun h => kf (Int.not_lt.mp (fun q => h ((zI_lt hr).mpr q))) p e s m args below meth c H locs ls X)
theorem R_icmp_eq {a b off : Int} {tgt : Nat} (hr : (-2147483648 ≤ a ∧ a < 2147483648) ∧ (-2147483648 ≤ b ∧ b < 2147483648)) (hd : decode k.2.2.1 pc = .ok (.if_icmp .eq off, 3)) (ht : (pc : Int) + off = (tgt : Int)) (kt : a = b → R E G k d tgt L st τ ζ Q) (kf : a ≠ b → R E G k d (pc + 3) L st τ ζ Q) : R E G k d pc L (.int (zI b) :: .int (zI a) :: st) τ ζ Q := by
  intro p e s m args below meth c H locs ls X
  exact lv_icmp_eq X.1 X.2.1 hd ht (fun h => kt ((zI_eq hr).mp h) p e s m args below meth c H locs ls X) (fun h => kf (fun q => h ((zI_eq hr).mpr q)) p e s m args below meth c H locs ls X)
theorem R_icmp_ne {a b off : Int} {tgt : Nat} (hr : (-2147483648 ≤ a ∧ a < 2147483648) ∧ (-2147483648 ≤ b ∧ b < 2147483648)) (hd : decode k.2.2.1 pc = .ok (.if_icmp .ne off, 3)) (ht : (pc : Int) + off = (tgt : Int)) (kt : a ≠ b → R E G k d tgt L st τ ζ Q) (kf : a = b → R E G k d (pc + 3) L st τ ζ Q) : R E G k d pc L (.int (zI b) :: .int (zI a) :: st) τ ζ Q := by
  intro p e s m args below meth c H locs ls X
  exact lv_icmp_ne X.1 X.2.1 hd ht (fun h => kt (fun q => h ((zI_eq hr).mpr q)) p e s m args below meth c H locs ls X) (fun h => kf ((zI_eq hr).mp h) p e s m args below meth c H locs ls X)
theorem R_icmp_gt {a b off : Int} {tgt : Nat} (hr : (-2147483648 ≤ a ∧ a < 2147483648) ∧ (-2147483648 ≤ b ∧ b < 2147483648)) (hd : decode k.2.2.1 pc = .ok (.if_icmp .gt off, 3)) (ht : (pc : Int) + off = (tgt : Int)) (kt : b < a → R E G k d tgt L st τ ζ Q) (kf : a ≤ b → R E G k d (pc + 3) L st τ ζ Q) : R E G k d pc L (.int (zI b) :: .int (zI a) :: st) τ ζ Q := by
  intro p e s m args below meth c H locs ls X
  exact lv_icmp_gt X.1 X.2.1 hd ht (fun h => kt ((zI_lt ⟨hr.2, hr.1⟩).mp h) p e s m args below meth c H locs ls X) (fun h => kf (Int.not_lt.mp (fun q => h ((zI_lt ⟨hr.2, hr.1⟩).mpr q))) p e s m args below meth c H locs ls X)
theorem R_icmp_le {a b off : Int} {tgt : Nat} (hr : (-2147483648 ≤ a ∧ a < 2147483648) ∧ (-2147483648 ≤ b ∧ b < 2147483648)) (hd : decode k.2.2.1 pc = .ok (.if_icmp .le off, 3)) (ht : (pc : Int) + off = (tgt : Int)) (kt : a ≤ b → R E G k d tgt L st τ ζ Q) (kf : b < a → R E G k d (pc + 3) L st τ ζ Q) : R E G k d pc L (.int (zI b) :: .int (zI a) :: st) τ ζ Q := by
  intro p e s m args below meth c H locs ls X
  exact lv_icmp_le X.1 X.2.1 hd ht (fun h => kt ((zI_le hr).mp h) p e s m args below meth c H locs ls X) (fun h => kf (Int.not_le.mp (fun q => h ((zI_le hr).mpr q))) p e s m args below meth c H locs ls X)
theorem R_if_ge {a off : Int} {tgt : Nat} (hr : -2147483648 ≤ a ∧ a < 2147483648) (hd : decode k.2.2.1 pc = .ok (.ifCond .ge off, 3)) (ht : (pc : Int) + off = (tgt : Int)) (kt : 0 ≤ a → R E G k d tgt L st τ ζ Q) (kf : a < 0 → R E G k d (pc + 3) L st τ ζ Q) : R E G k d pc L (.int (zI a) :: st) τ ζ Q := by
  intro p e s m args below meth c H locs ls X
  exact lv_if_ge X.1 X.2.1 hd ht (fun h => kt ((zI_le ⟨(show (-2147483648 ≤ (0:Int) ∧ (0:Int) < 2147483648) by omega), hr⟩).mp h) p e s m args below meth c H locs ls X) (fun h => kf (Int.not_le.mp (fun q => h ((zI_le ⟨(show (-2147483648 ≤ (0:Int) ∧ (0:Int) < 2147483648) by omega), hr⟩).mpr q))) p e s m args below meth c H locs ls X)
theorem R_if_lt {a off : Int} {tgt : Nat} (hr : -2147483648 ≤ a ∧ a < 2147483648) (hd : decode k.2.2.1 pc = .ok (.ifCond .lt off, 3)) (ht : (pc : Int) + off = (tgt : Int)) (kt : a < 0 → R E G k d tgt L st τ ζ Q) (kf : 0 ≤ a → R E G k d (pc + 3) L st τ ζ Q) : R E G k d pc L (.int (zI a) :: st) τ ζ Q := by
  intro p e s m args below meth c H locs ls X
  exact lv_if_lt X.1 X.2.1 hd ht (fun h => kt ((zI_lt ⟨hr, (show (-2147483648 ≤ (0:Int) ∧ (0:Int) < 2147483648) by omega)⟩).mp h) p e s m args below meth c H locs ls X) (fun h => kf (Int.not_lt.mp (fun q => h ((zI_lt ⟨hr, (show (-2147483648 ≤ (0:Int) ∧ (0:Int) < 2147483648) by omega)⟩).mpr q))) p e s m args below meth c H locs ls X)
theorem R_if_eq {a off : Int} {tgt : Nat} (hr : -2147483648 ≤ a ∧ a < 2147483648) (hd : decode k.2.2.1 pc = .ok (.ifCond .eq off, 3)) (ht : (pc : Int) + off = (tgt : Int)) (kt : a = 0 → R E G k d tgt L st τ ζ Q) (kf : a ≠ 0 → R E G k d (pc + 3) L st τ ζ Q) : R E G k d pc L (.int (zI a) :: st) τ ζ Q := by
  intro p e s m args below meth c H locs ls X
  exact lv_if_eq X.1 X.2.1 hd ht (fun h => kt ((zI_eq ⟨hr, (show (-2147483648 ≤ (0:Int) ∧ (0:Int) < 2147483648) by omega)⟩).mp h) p e s m args below meth c H locs ls X) (fun h => kf (fun q => h ((zI_eq ⟨hr, (show (-2147483648 ≤ (0:Int) ∧ (0:Int) < 2147483648) by omega)⟩).mpr q)) p e s m args below meth c H locs ls X)
theorem R_if_ne {a off : Int} {tgt : Nat} (hr : -2147483648 ≤ a ∧ a < 2147483648) (hd : decode k.2.2.1 pc = .ok (.ifCond .ne off, 3)) (ht : (pc : Int) + off = (tgt : Int)) (kt : a ≠ 0 → R E G k d tgt L st τ ζ Q) (kf : a = 0 → R E G k d (pc + 3) L st τ ζ Q) : R E G k d pc L (.int (zI a) :: st) τ ζ Q := by
  intro p e s m args below meth c H locs ls X
  exact lv_if_ne X.1 X.2.1 hd ht (fun h => kt (fun q => h ((zI_eq ⟨hr, (show (-2147483648 ≤ (0:Int) ∧ (0:Int) < 2147483648) by omega)⟩).mpr q)) p e s m args below meth c H locs ls X) (fun h => kf ((zI_eq ⟨hr, (show (-2147483648 ≤ (0:Int) ∧ (0:Int) < 2147483648) by omega)⟩).mp h) p e s m args below meth c H locs ls X)
theorem R_if_gt {a off : Int} {tgt : Nat} (hr : -2147483648 ≤ a ∧ a < 2147483648) (hd : decode k.2.2.1 pc = .ok (.ifCond .gt off, 3)) (ht : (pc : Int) + off = (tgt : Int)) (kt : 0 < a → R E G k d tgt L st τ ζ Q) (kf : a ≤ 0 → R E G k d (pc + 3) L st τ ζ Q) : R E G k d pc L (.int (zI a) :: st) τ ζ Q := by
  intro p e s m args below meth c H locs ls X
  exact lv_if_gt X.1 X.2.1 hd ht (fun h => kt ((zI_lt ⟨(show (-2147483648 ≤ (0:Int) ∧ (0:Int) < 2147483648) by omega), hr⟩).mp h) p e s m args below meth c H locs ls X) (fun h => kf (Int.not_lt.mp (fun q => h ((zI_lt ⟨(show (-2147483648 ≤ (0:Int) ∧ (0:Int) < 2147483648) by omega), hr⟩).mpr q))) p e s m args below meth c H locs ls X)
theorem R_if_le {a off : Int} {tgt : Nat} (hr : -2147483648 ≤ a ∧ a < 2147483648) (hd : decode k.2.2.1 pc = .ok (.ifCond .le off, 3)) (ht : (pc : Int) + off = (tgt : Int)) (kt : a ≤ 0 → R E G k d tgt L st τ ζ Q) (kf : 0 < a → R E G k d (pc + 3) L st τ ζ Q) : R E G k d pc L (.int (zI a) :: st) τ ζ Q := by
  intro p e s m args below meth c H locs ls X
  exact lv_if_le X.1 X.2.1 hd ht (fun h => kt ((zI_le ⟨hr, (show (-2147483648 ≤ (0:Int) ∧ (0:Int) < 2147483648) by omega)⟩).mp h) p e s m args below meth c H locs ls X) (fun h => kf (Int.not_le.mp (fun q => h ((zI_le ⟨hr, (show (-2147483648 ≤ (0:Int) ∧ (0:Int) < 2147483648) by omega)⟩).mpr q))) p e s m args below meth c H locs ls X)
theorem R_goto {off : Int} {tgt : Nat} (hd : decode k.2.2.1 pc = .ok (.goto off, 3)) (ht : (pc : Int) + off = (tgt : Int)) (K : R E G k d tgt L st τ ζ Q) : R E G k d pc L st τ ζ Q := by
  intro p e s m args below meth c H locs ls X
  exact lv_goto X.1 X.2.1 hd ht (K p e s m args below meth c H locs ls X)
theorem R_tabOut {a : Int} {tgt len : Nat} {dflt lo hi : Int} {offs : Array Int} (hr : -2147483648 ≤ a ∧ a < 2147483648) (hd : decode k.2.2.1 pc = .ok (.tableswitch dflt lo hi offs, len)) (h : a < lo ∨ hi < a) (ht : (pc : Int) + dflt = (tgt : Int)) (K : R E G k d tgt L st τ ζ Q) : R E G k d pc L (.int (zI a) :: st) τ ζ Q := by
  intro p e s m args below meth c H locs ls X
  exact lv_tableOut X.1 X.2.1 hd (by rw [zI_toInt hr]; exact h) ht (K p e s m args below meth c H locs ls X)
theorem R_tabIn {a : Int} {tgt len : Nat} {dflt lo hi off : Int} {offs : Array Int} (hr : -2147483648 ≤ a ∧ a < 2147483648) (hd : decode k.2.2.1 pc = .ok (.tableswitch dflt lo hi offs, len)) (h : lo ≤ a ∧ a ≤ hi) (ho : offs[(a - lo).toNat]? = some off) (ht : (pc : Int) + off = (tgt : Int)) (K : R E G k d tgt L st τ ζ Q) : R E G k d pc L (.int (zI a) :: st) τ ζ Q := by
  intro p e s m args below meth c H locs ls X
  exact lv_tableIn X.1 X.2.1 hd (by rw [zI_toInt hr]; omega) (by rw [zI_toInt hr]; omega) (by rw [zI_toInt hr]; exact ho) ht (K p e s m args below meth c H locs ls X)
theorem Ts0 (E : Ev) (G : Gd) : (eTs E G)[0]? = some (eTy E 0, .int) := by
  unfold eTs
  split <;> rfl
theorem Ts1 {E : Ev} {G : Gd} (h : G.2.2.1 = true) : (eTs E G)[1]? = some (eTy E 1, .boolean) := by
  unfold eTs
  rw [if_pos h]
  rfl
theorem WD_fld {τ' ζ' : Sf} {fs : List Nat} {j c : Nat} {z : Int} {x : Value} (hG : Gok G) (h1 : ∀ (i : Nat) (o : Nat × List Nat), G.2.1[i]? = some (.inl o) → i = 0) (h0 : G.2.1[0]? = some (.inl (G.2.2.2.2.2.2, fs))) (hf : fs[j]? = some c) (hx : fvl (eAd E) (up (cmb G.1 τ ζ) (20 + j) 0 z) j c = x) (g : cmb G.1 τ' ζ' = up (cmb G.1 τ ζ) (20 + j) 0 z) :
    (WD E G τ ζ).set 0 (eAd E 0, .inr (G.2.2.2.2.2.2, (fs.mapIdx (fun j c => fvl (eAd E) (cmb G.1 τ ζ) j c)).set j x)) = WD E G τ' ζ' := by
  unfold WD
  rw [g, fvl_set hf hx]
  refine wd_set (g := up (cmb G.1 τ ζ) (20 + j) 0 z) h0 (fun i t ht hi => ?_)
  have hlt : i < G.2.1.length := (List.getElem?_eq_some_iff.mp ht).1
  have := hG.2.1
  exact cel_up (by omega) (by omega) (Or.inr (fun o ho => hi (h1 i o (ho ▸ ht))))
theorem WD_row {τ' ζ' : Sf} {q n t : Nat} {z v : Int} (hG : Gok G) (hq : G.2.1[q]? = some (.inr (t, n))) (hz : 0 ≤ z ∧ z < n) (hn : n < 2147483648) (g : cmb G.1 τ' ζ' = up (cmb G.1 τ ζ) q z v) :
    (WD E G τ ζ).set q (eAd E q, .inl (eTy E t, n, .inl (upd (fun i : Nat => zI (cmb G.1 τ ζ q (i : Int))) (zI z).toNatClampNeg (zI v)))) = WD E G τ' ζ' := by
  unfold WD
  have hlt : q < G.2.1.length := (List.getElem?_eq_some_iff.mp hq).1
  have h20 := hG.2.1
  have e : cel (eAd E) (eTy E) (up (cmb G.1 τ ζ) q z v) q (.inr (t, n)) = .inl (eTy E t, n, .inl (upd (fun i : Nat => zI (cmb G.1 τ ζ q (i : Int))) (zI z).toNatClampNeg (zI v))) := by
    show Sum.inl (eTy E t, n, Sum.inl (fun i : Nat => zI (up (cmb G.1 τ ζ) q z v q (i : Int)))) = _
    congr 4
    funext i
    rw [up_at]
    show zI (if (i : Int) = z then v else cmb G.1 τ ζ q (i : Int)) = upd (fun i : Nat => zI (cmb G.1 τ ζ q (i : Int))) (zI z).toNatClampNeg (zI v) i
    unfold upd
    have h1 := zI_cl (z := z) (by omega)
    by_cases h : i = (zI z).toNatClampNeg
    · rw [if_pos h, if_pos (by rw [h]; exact h1)]
    · rw [if_neg h, if_neg (fun h2 => h (by omega))]
  rw [g, ← e]
  refine wd_set (g := up (cmb G.1 τ ζ) q z v) hq (fun i t ht hi => ?_)
  have hlt' : i < G.2.1.length := (List.getElem?_eq_some_iff.mp ht).1
  exact cel_up hi (by omega) (Or.inl (by omega))
/-- what a rule on a field asks of the world's description: its number j, its code c -/
def Fok (G : Gd) (k : Mt) (idx j c : Nat) : Prop := Gok G ∧ (∀ w ∈ u_ws G.2.2.2.1 G.2.2.2.2.1 G.2.2.2.2.2.1, w ∈ k.2.1) ∧ (∀ (i : Nat) (o : Nat × List Nat), G.2.1[i]? = some (.inl o) → i = 0) ∧ (∃ fs : List Nat, G.2.1[0]? = some (.inl (G.2.2.2.2.2.2, fs)) ∧ fs[j]? = some c) ∧ (G.2.2.2.2.1 j).1 = G.2.2.2.1 ∧ j < G.2.2.2.2.2.1 ∧ Cond.fieldLink k.1.cls idx G.2.2.2.1 (G.2.2.2.2.1 j).2.1 (G.2.2.2.2.1 j).2.2.1 ∈ k.2.1

theorem R_getF {j c idx : Nat} {v : Value} (F : Fok G k idx j c) (hv : fvl (eAd E) (cmb G.1 τ ζ) j c = v) (hd : decode k.2.2.1 pc = .ok (.getfield idx, 3)) (K : R E G k d (pc + 3) L (v :: st) τ ζ Q) : R E G k d pc L (.ref (eAd E 0) :: st) τ ζ Q := by
  intro p e s m args below meth c H locs ls X
  obtain ⟨hG, hw, h1, ⟨fs, h0, hf⟩, hT, hj, hl⟩ := F
  obtain ⟨x1, x2, x3, x4, x5, x6, x7, x8, x9, x10⟩ := id X
  exact va_get (D := eD E) (cl := vwCl) (ci := G.2.2.2.2.2.2) (C := G.2.2.2.1) (T := G.2.2.2.2.1) (N := G.2.2.2.2.2.1) x1 x2 x6 hw x7 x8.1 x8.2.1 0 (wd_get h0) hG.1 j hj (x6 _ hl) (fun x hx => by rw [hT] at hx; exact hx) (v := v) (by rw [List.getElem?_mapIdx, hf, ← hv]; rfl) hd (K p e s m args below meth c H locs ls X)
theorem R_getI {j idx : Nat} (jj : Nat) (F : Fok G k idx j 0) (hj : 20 + j = jj) (hp : G.1 jj = true) (hd : decode k.2.2.1 pc = .ok (.getfield idx, 3)) (K : R E G k d (pc + 3) L (.int (zI (τ jj 0)) :: st) τ ζ Q) : R E G k d pc L (.ref (eAd E 0) :: st) τ ζ Q := by
  subst hj
  exact R_getF F (by show Value.int (zI (cmb G.1 τ ζ (20 + j) 0)) = _; rw [cmb_P hp]) hd K
theorem R_getIs {j idx : Nat} (jj : Nat) (F : Fok G k idx j 0) (hj : 20 + j = jj) (hp : G.1 jj = false) (hd : decode k.2.2.1 pc = .ok (.getfield idx, 3)) (K : R E G k d (pc + 3) L (.int (zI (ζ jj 0)) :: st) τ ζ Q) : R E G k d pc L (.ref (eAd E 0) :: st) τ ζ Q := by
  subst hj
  exact R_getF F (by show Value.int (zI (cmb G.1 τ ζ (20 + j) 0)) = _; rw [cmb_S hp]) hd K
theorem R_getLs {j idx : Nat} (jj : Nat) (F : Fok G k idx j 1) (hj : 20 + j = jj) (hp : G.1 jj = false) (hd : decode k.2.2.1 pc = .ok (.getfield idx, 3)) (K : R E G k d (pc + 3) L (.long (zL (ζ jj 0)) :: st) τ ζ Q) : R E G k d pc L (.ref (eAd E 0) :: st) τ ζ Q := by
  subst hj
  exact R_getF F (by show Value.long (zL (cmb G.1 τ ζ (20 + j) 0)) = _; rw [cmb_S hp]) hd K
theorem R_getR {j q idx : Nat} (F : Fok G k idx j (q + 2)) (hd : decode k.2.2.1 pc = .ok (.getfield idx, 3)) (K : R E G k d (pc + 3) L (.ref (eAd E q) :: st) τ ζ Q) : R E G k d pc L (.ref (eAd E 0) :: st) τ ζ Q :=
  R_getF F rfl hd K
theorem R_putF {j c idx : Nat} {x : Value} {z : Int} {τ' ζ' : Sf} {ty : FieldType} (F : Fok G k idx j c) (hx : fvl (eAd E) (up (cmb G.1 τ ζ) (20 + j) 0 z) j c = x) (g : cmb G.1 τ' ζ' = up (cmb G.1 τ ζ) (20 + j) 0 z) (hfin : (G.2.2.2.2.1 j).2.2.2 = false) (hty : parseFieldDescriptor (G.2.2.2.2.1 j).2.2.1 = some ty) (hn : narrow ty x = x) (hfit : fits ty x = true) (hd : decode k.2.2.1 pc = .ok (.putfield idx, 3)) (K : R E G k d (pc + 3) L st τ' ζ' Q) : R E G k d pc L (x :: .ref (eAd E 0) :: st) τ ζ Q := by
  intro p e s m args below meth c H locs ls X
  obtain ⟨hG, hw, h1, ⟨fs, h0, hf⟩, hT, hj, hl⟩ := F
  obtain ⟨x1, x2, x3, x4, x5, x6, x7, x8, x9, x10⟩ := id X
  have hty0 : ∃ ty0 : Nat → FieldType, ∀ j, j < G.2.2.2.2.2.1 → parseFieldDescriptor (G.2.2.2.2.1 j).2.2.1 = some (ty0 j) := by
    refine ⟨fun j => if h : j < G.2.2.2.2.2.1 then Classical.choose (hG.2.2.2 j h) else .int, fun j h => ?_⟩
    show _ = some (dite _ _ _)
    rw [dif_pos h]
    exact Classical.choose_spec (hG.2.2.2 j h)
  obtain ⟨ty0, hty0⟩ := hty0
  have hlen : j < (fs.mapIdx (fun j c => fvl (eAd E) (cmb G.1 τ ζ) j c)).length := by
    have := (List.getElem?_eq_some_iff.mp hf).1
    simpa using this
  refine va_put (D := eD E) (cl := vwCl) (ci := G.2.2.2.2.2.2) (C := G.2.2.2.1) (T := G.2.2.2.2.1) (N := G.2.2.2.2.2.1) x1 x2 x6 hw ty0 hty0 hG.2.2.1 x7 x8.1 x8.2.1 x8.2.2 x9 0 (wd_get h0) hG.1 j hj (x6 _ hl) (fun y hy => by rw [hT] at hy; exact hy) hfin hty hn hfit hlen hd (fun H1 locs1 hP hD hS => ?_)
  have ee := WD_fld (E := E) (ζ' := ζ') (τ' := τ') hG h1 h0 hf hx g
  exact K p e s m args below meth c H1 locs1 ls (X.H' ⟨x8.1, ee ▸ hP, ee ▸ hD⟩ hS)
theorem R_putI {j idx : Nat} {z : Int} (jj : Nat) (F : Fok G k idx j 0) (hj : 20 + j = jj) (hp : G.1 jj = true) (hfin : (G.2.2.2.2.1 j).2.2.2 = false) (hty : parseFieldDescriptor (G.2.2.2.2.1 j).2.2.1 = some .int) (hd : decode k.2.2.1 pc = .ok (.putfield idx, 3)) (K : R E G k d (pc + 3) L st (up τ jj 0 z) ζ Q) : R E G k d pc L (.int (zI z) :: .ref (eAd E 0) :: st) τ ζ Q := by
  subst hj
  exact R_putF F (by show Value.int (zI (up (cmb G.1 τ ζ) (20 + j) 0 z (20 + j) 0)) = _; rw [up_at, if_pos rfl]) (cmb_upP hp) hfin hty rfl rfl hd K
theorem R_putIs {j idx : Nat} {z : Int} (jj : Nat) (F : Fok G k idx j 0) (hj : 20 + j = jj) (hp : G.1 jj = false) (hfin : (G.2.2.2.2.1 j).2.2.2 = false) (hty : parseFieldDescriptor (G.2.2.2.2.1 j).2.2.1 = some .int) (hd : decode k.2.2.1 pc = .ok (.putfield idx, 3)) (K : R E G k d (pc + 3) L st τ (up ζ jj 0 z) Q) : R E G k d pc L (.int (zI z) :: .ref (eAd E 0) :: st) τ ζ Q := by
  subst hj
  exact R_putF F (by show Value.int (zI (up (cmb G.1 τ ζ) (20 + j) 0 z (20 + j) 0)) = _; rw [up_at, if_pos rfl]) (cmb_upS hp) hfin hty rfl rfl hd K
theorem zI_bool {z : Int} (h : z = 0 ∨ z = 1) : narrow .boolean (.int (zI z)) = .int (zI z) ∧ fits .boolean (.int (zI z)) = true := by
  rcases h with rfl | rfl <;> exact ⟨by decide +kernel, by decide +kernel⟩
theorem R_putZ {j idx : Nat} {z : Int} (jj : Nat) (F : Fok G k idx j 0) (hz : z = 0 ∨ z = 1) (hj : 20 + j = jj) (hp : G.1 jj = true) (hfin : (G.2.2.2.2.1 j).2.2.2 = false) (hty : parseFieldDescriptor (G.2.2.2.2.1 j).2.2.1 = some .boolean) (hd : decode k.2.2.1 pc = .ok (.putfield idx, 3)) (K : R E G k d (pc + 3) L st (up τ jj 0 z) ζ Q) : R E G k d pc L (.int (zI z) :: .ref (eAd E 0) :: st) τ ζ Q := by
  subst hj
  exact R_putF F (by show Value.int (zI (up (cmb G.1 τ ζ) (20 + j) 0 z (20 + j) 0)) = _; rw [up_at, if_pos rfl]) (cmb_upP hp) hfin hty (zI_bool hz).1 (zI_bool hz).2 hd K
theorem R_putZs {j idx : Nat} {z : Int} (jj : Nat) (F : Fok G k idx j 0) (hz : z = 0 ∨ z = 1) (hj : 20 + j = jj) (hp : G.1 jj = false) (hfin : (G.2.2.2.2.1 j).2.2.2 = false) (hty : parseFieldDescriptor (G.2.2.2.2.1 j).2.2.1 = some .boolean) (hd : decode k.2.2.1 pc = .ok (.putfield idx, 3)) (K : R E G k d (pc + 3) L st τ (up ζ jj 0 z) Q) : R E G k d pc L (.int (zI z) :: .ref (eAd E 0) :: st) τ ζ Q := by
  subst hj
  exact R_putF F (by show Value.int (zI (up (cmb G.1 τ ζ) (20 + j) 0 z (20 + j) 0)) = _; rw [up_at, if_pos rfl]) (cmb_upS hp) hfin hty (zI_bool hz).1 (zI_bool hz).2 hd K
theorem R_putLs {j idx : Nat} {z : Int} (jj : Nat) (F : Fok G k idx j 1) (hj : 20 + j = jj) (hp : G.1 jj = false) (hfin : (G.2.2.2.2.1 j).2.2.2 = false) (hty : parseFieldDescriptor (G.2.2.2.2.1 j).2.2.1 = some .long) (hd : decode k.2.2.1 pc = .ok (.putfield idx, 3)) (K : R E G k d (pc + 3) L st τ (up ζ jj 0 z) Q) : R E G k d pc L (.long (zL z) :: .ref (eAd E 0) :: st) τ ζ Q := by
  subst hj
  exact R_putF F (by show Value.long (zL (up (cmb G.1 τ ζ) (20 + j) 0 z (20 + j) 0)) = _; rw [up_at, if_pos rfl]) (cmb_upS hp) hfin hty rfl rfl hd K

theorem R_iald {q n : Nat} {z : Int} (hq : G.2.1[q]? = some (.inr (0, n))) (hp : G.1 q = true) (hz : 0 ≤ z ∧ z < n) (hn : Nat.blt n 2147483648 = true) (hd : decode k.2.2.1 pc = .ok (.iaload, 1)) (K : R E G k d (pc + 1) L (.int (zI (τ q z)) :: st) τ ζ Q) : R E G k d pc L (.int (zI z) :: .ref (eAd E q) :: st) τ ζ Q := by
  intro p e s m args below meth c H locs ls X
  obtain ⟨x1, x2, x3, x4, x5, x6, x7, x8, x9, x10⟩ := id X
  have hn := Nat.blt_eq.mp hn
  refine va_iald (D := eD E) (cl := vwCl) x1 x2 x8.1 x8.2.1 q 0 (wd_get hq) (Ts0 E G) (zI_in hz hn) hd ?_
  have ee : zI (cmb G.1 τ ζ q ((zI z).toNatClampNeg : Int)) = zI (τ q z) := by rw [zI_cl (by omega), cmb_P hp]
  show W p E.1 e _ s m args below meth c H locs 0 0 _ (F0 m (pc + 1) ls (.int (zI (cmb G.1 τ ζ q ((zI z).toNatClampNeg : Int))) :: st))
  rw [ee]
  exact K p e s m args below meth c H locs ls X
theorem R_ialds {q n : Nat} {z : Int} (hq : G.2.1[q]? = some (.inr (0, n))) (hp : G.1 q = false) (hz : 0 ≤ z ∧ z < n) (hn : Nat.blt n 2147483648 = true) (hd : decode k.2.2.1 pc = .ok (.iaload, 1)) (K : R E G k d (pc + 1) L (.int (zI (ζ q z)) :: st) τ ζ Q) : R E G k d pc L (.int (zI z) :: .ref (eAd E q) :: st) τ ζ Q := by
  intro p e s m args below meth c H locs ls X
  obtain ⟨x1, x2, x3, x4, x5, x6, x7, x8, x9, x10⟩ := id X
  have hn := Nat.blt_eq.mp hn
  refine va_iald (D := eD E) (cl := vwCl) x1 x2 x8.1 x8.2.1 q 0 (wd_get hq) (Ts0 E G) (zI_in hz hn) hd ?_
  have ee : zI (cmb G.1 τ ζ q ((zI z).toNatClampNeg : Int)) = zI (ζ q z) := by rw [zI_cl (by omega), cmb_S hp]
  show W p E.1 e _ s m args below meth c H locs 0 0 _ (F0 m (pc + 1) ls (.int (zI (cmb G.1 τ ζ q ((zI z).toNatClampNeg : Int))) :: st))
  rw [ee]
  exact K p e s m args below meth c H locs ls X
theorem R_bald {q n : Nat} {z : Int} (hq : G.2.1[q]? = some (.inr (1, n))) (hb : G.2.2.1 = true) (hp : G.1 q = true) (hz : 0 ≤ z ∧ z < n) (hn : Nat.blt n 2147483648 = true) (hd : decode k.2.2.1 pc = .ok (.baload, 1)) (K : R E G k d (pc + 1) L (.int (zI (τ q z)) :: st) τ ζ Q) : R E G k d pc L (.int (zI z) :: .ref (eAd E q) :: st) τ ζ Q := by
  intro p e s m args below meth c H locs ls X
  obtain ⟨x1, x2, x3, x4, x5, x6, x7, x8, x9, x10⟩ := id X
  have hn := Nat.blt_eq.mp hn
  refine va_zald (D := eD E) (cl := vwCl) x1 x2 x8.1 x8.2.1 q 1 (wd_get hq) (Ts1 hb) (zI_in hz hn) hd ?_
  have ee : zI (cmb G.1 τ ζ q ((zI z).toNatClampNeg : Int)) = zI (τ q z) := by rw [zI_cl (by omega), cmb_P hp]
  show W p E.1 e _ s m args below meth c H locs 0 0 _ (F0 m (pc + 1) ls (.int (zI (cmb G.1 τ ζ q ((zI z).toNatClampNeg : Int))) :: st))
  rw [ee]
  exact K p e s m args below meth c H locs ls X
theorem R_balds {q n : Nat} {z : Int} (hq : G.2.1[q]? = some (.inr (1, n))) (hb : G.2.2.1 = true) (hp : G.1 q = false) (hz : 0 ≤ z ∧ z < n) (hn : Nat.blt n 2147483648 = true) (hd : decode k.2.2.1 pc = .ok (.baload, 1)) (K : R E G k d (pc + 1) L (.int (zI (ζ q z)) :: st) τ ζ Q) : R E G k d pc L (.int (zI z) :: .ref (eAd E q) :: st) τ ζ Q := by
  intro p e s m args below meth c H locs ls X
  obtain ⟨x1, x2, x3, x4, x5, x6, x7, x8, x9, x10⟩ := id X
  have hn := Nat.blt_eq.mp hn
  refine va_zald (D := eD E) (cl := vwCl) x1 x2 x8.1 x8.2.1 q 1 (wd_get hq) (Ts1 hb) (zI_in hz hn) hd ?_
  have ee : zI (cmb G.1 τ ζ q ((zI z).toNatClampNeg : Int)) = zI (ζ q z) := by rw [zI_cl (by omega), cmb_S hp]
  show W p E.1 e _ s m args below meth c H locs 0 0 _ (F0 m (pc + 1) ls (.int (zI (cmb G.1 τ ζ q ((zI z).toNatClampNeg : Int))) :: st))
  rw [ee]
  exact K p e s m args below meth c H locs ls X
theorem R_iast {q n : Nat} {z v : Int} (hG : Gok G) (hq : G.2.1[q]? = some (.inr (0, n))) (hp : G.1 q = true) (hz : 0 ≤ z ∧ z < n) (hn : Nat.blt n 2147483648 = true) (hd : decode k.2.2.1 pc = .ok (.iastore, 1)) (K : R E G k d (pc + 1) L st (up τ q z v) ζ Q) : R E G k d pc L (.int (zI v) :: .int (zI z) :: .ref (eAd E q) :: st) τ ζ Q := by
  intro p e s m args below meth c H locs ls X
  obtain ⟨x1, x2, x3, x4, x5, x6, x7, x8, x9, x10⟩ := id X
  have hn := Nat.blt_eq.mp hn
  refine va_iast (D := eD E) (cl := vwCl) x1 x2 x8.1 x8.2.1 x8.2.2 x9 q 0 (wd_get hq) (Ts0 E G) (zI_in hz hn) hd (fun H1 locs1 hP hD hS => ?_)
  have ee := WD_row (E := E) (v := v) (τ' := (up τ q z v)) (ζ' := ζ) hG hq hz hn (cmb_upP hp)
  exact K p e s m args below meth c H1 locs1 ls (X.H' ⟨x8.1, ee ▸ hP, ee ▸ hD⟩ hS)
theorem R_iasts {q n : Nat} {z v : Int} (hG : Gok G) (hq : G.2.1[q]? = some (.inr (0, n))) (hp : G.1 q = false) (hz : 0 ≤ z ∧ z < n) (hn : Nat.blt n 2147483648 = true) (hd : decode k.2.2.1 pc = .ok (.iastore, 1)) (K : R E G k d (pc + 1) L st τ (up ζ q z v) Q) : R E G k d pc L (.int (zI v) :: .int (zI z) :: .ref (eAd E q) :: st) τ ζ Q := by
  intro p e s m args below meth c H locs ls X
  obtain ⟨x1, x2, x3, x4, x5, x6, x7, x8, x9, x10⟩ := id X
  have hn := Nat.blt_eq.mp hn
  refine va_iast (D := eD E) (cl := vwCl) x1 x2 x8.1 x8.2.1 x8.2.2 x9 q 0 (wd_get hq) (Ts0 E G) (zI_in hz hn) hd (fun H1 locs1 hP hD hS => ?_)
  have ee := WD_row (E := E) (v := v) (τ' := τ) (ζ' := (up ζ q z v)) hG hq hz hn (cmb_upS hp)
  exact K p e s m args below meth c H1 locs1 ls (X.H' ⟨x8.1, ee ▸ hP, ee ▸ hD⟩ hS)
theorem R_bast {q n : Nat} {z v : Int} (hG : Gok G) (hq : G.2.1[q]? = some (.inr (1, n))) (hb : G.2.2.1 = true) (hv : v = 0 ∨ v = 1) (hp : G.1 q = true) (hz : 0 ≤ z ∧ z < n) (hn : Nat.blt n 2147483648 = true) (hd : decode k.2.2.1 pc = .ok (.bastore, 1)) (K : R E G k d (pc + 1) L st (up τ q z v) ζ Q) : R E G k d pc L (.int (zI v) :: .int (zI z) :: .ref (eAd E q) :: st) τ ζ Q := by
  intro p e s m args below meth c H locs ls X
  obtain ⟨x1, x2, x3, x4, x5, x6, x7, x8, x9, x10⟩ := id X
  have hn := Nat.blt_eq.mp hn
  refine va_zast (D := eD E) (cl := vwCl) x1 x2 x8.1 x8.2.1 x8.2.2 x9 q 1 (wd_get hq) (Ts1 hb) (zI_in hz hn) hd (fun H1 locs1 hP hD hS => ?_)
  have hnr : vp_nar .boolean (zI v) = zI v := by
    rcases hv with rfl | rfl <;> decide +kernel
  rw [hnr] at hP hD
  have ee := WD_row (E := E) (v := v) (τ' := (up τ q z v)) (ζ' := ζ) hG hq hz hn (cmb_upP hp)
  exact K p e s m args below meth c H1 locs1 ls (X.H' ⟨x8.1, ee ▸ hP, ee ▸ hD⟩ hS)
theorem R_basts {q n : Nat} {z v : Int} (hG : Gok G) (hq : G.2.1[q]? = some (.inr (1, n))) (hb : G.2.2.1 = true) (hv : v = 0 ∨ v = 1) (hp : G.1 q = false) (hz : 0 ≤ z ∧ z < n) (hn : Nat.blt n 2147483648 = true) (hd : decode k.2.2.1 pc = .ok (.bastore, 1)) (K : R E G k d (pc + 1) L st τ (up ζ q z v) Q) : R E G k d pc L (.int (zI v) :: .int (zI z) :: .ref (eAd E q) :: st) τ ζ Q := by
  intro p e s m args below meth c H locs ls X
  obtain ⟨x1, x2, x3, x4, x5, x6, x7, x8, x9, x10⟩ := id X
  have hn := Nat.blt_eq.mp hn
  refine va_zast (D := eD E) (cl := vwCl) x1 x2 x8.1 x8.2.1 x8.2.2 x9 q 1 (wd_get hq) (Ts1 hb) (zI_in hz hn) hd (fun H1 locs1 hP hD hS => ?_)
  have hnr : vp_nar .boolean (zI v) = zI v := by
    rcases hv with rfl | rfl <;> decide +kernel
  rw [hnr] at hP hD
  have ee := WD_row (E := E) (v := v) (τ' := τ) (ζ' := (up ζ q z v)) hG hq hz hn (cmb_upS hp)
  exact K p e s m args below meth c H1 locs1 ls (X.H' ⟨x8.1, ee ▸ hP, ee ▸ hD⟩ hS)
theorem R_alen {q n : Nat} (hq : G.2.1[q]? = some (.inr (0, n))) (hd : decode k.2.2.1 pc = .ok (.arraylength, 1)) (K : R E G k d (pc + 1) L (.int (zI (n : Int)) :: st) τ ζ Q) : R E G k d pc L (.ref (eAd E q) :: st) τ ζ Q := by
  intro p e s m args below meth c H locs ls X
  obtain ⟨x1, x2, x3, x4, x5, x6, x7, x8, x9, x10⟩ := id X
  exact va_alen (D := eD E) (cl := vwCl) (v := zI (n : Int)) x1 x2 x8.1 x8.2.1 q 0 (wd_get hq) (Ts0 E G) (Int32.ofInt_eq_ofNat).symm hd (K p e s m args below meth c H locs ls X)

theorem R_iret {z : Int} (hr : k.2.2.2.2 = some .int) (hd : decode k.2.2.1 pc = .ok (.ireturn, 1)) (K : Q (some (.int (zI z))) τ ζ) : R E G k d pc L [.int (zI z)] τ ζ Q := by
  intro p e s m args below meth c H locs ls X
  obtain ⟨x1, x2, x3, x4, x5, x6, x7, x8, x9, x10⟩ := id X
  exact W.iret x1 x2 (x4.trans hr) (fun t ht hW => ⟨⟨_, τ, ζ, rfl, K, va_K.moved hW.alike x8.1, by rw [ht]; exact x8.2.1, x8.2.2⟩, x9.F ht⟩) x9.2.2 hd
theorem R_zret {z : Int} (hr : k.2.2.2.2 = some .boolean) (hz : z = 0 ∨ z = 1) (hd : decode k.2.2.1 pc = .ok (.ireturn, 1)) (K : Q (some (.int (zI z))) τ ζ) : R E G k d pc L [.int (zI z)] τ ζ Q := by
  intro p e s m args below meth c H locs ls X
  obtain ⟨x1, x2, x3, x4, x5, x6, x7, x8, x9, x10⟩ := id X
  exact W.zret x1 x2 (x4.trans hr) (zI_bool hz).1 (fun t ht hW => ⟨⟨_, τ, ζ, rfl, K, va_K.moved hW.alike x8.1, by rw [ht]; exact x8.2.1, x8.2.2⟩, x9.F ht⟩) x9.2.2 hd
theorem R_lret {z : Int} (hr : k.2.2.2.2 = some .long) (hd : decode k.2.2.1 pc = .ok (.lreturn, 1)) (K : Q (some (.long (zL z))) τ ζ) : R E G k d pc L [.long (zL z)] τ ζ Q := by
  intro p e s m args below meth c H locs ls X
  obtain ⟨x1, x2, x3, x4, x5, x6, x7, x8, x9, x10⟩ := id X
  exact W.lret x1 x2 (x4.trans hr) (fun t ht hW => ⟨⟨_, τ, ζ, rfl, K, va_K.moved hW.alike x8.1, by rw [ht]; exact x8.2.1, x8.2.2⟩, x9.F ht⟩) x9.2.2 hd
theorem R_vret (hr : k.2.2.2.2 = none) (hd : decode k.2.2.1 pc = .ok (.return_, 1)) (K : Q none τ ζ) : R E G k d pc L [] τ ζ Q := by
  intro p e s m args below meth c H locs ls X
  obtain ⟨x1, x2, x3, x4, x5, x6, x7, x8, x9, x10⟩ := id X
  exact W.vret x1 x2 (x4.trans hr) (fun t ht hW => ⟨⟨_, τ, ζ, rfl, K, va_K.moved hW.alike x8.1, by rw [ht]; exact x8.2.1, x8.2.2⟩, x9.F ht⟩) x9.2.2 hd

/-- the locals at a method's entry -/
def ent : List Value → Nat → List (Option Value)
  | [], n => List.replicate n none
  | v :: vs, n => if v.category = 2 then some v :: none :: ent vs (n - 2) else some v :: ent vs (n - 1)
theorem ent_args : ∀ (as : List Value) (n i j : Nat) (v : Value), (ent as n)[i]? = some (some v) → (j + i, v) ∈ lv_args j as
  | [], n, i, j, v, h => by
    rw [ent, List.getElem?_replicate] at h
    split at h <;> cases h
  | a :: as, n, i, j, v, h => by
    by_cases hc : a.category = 2
    · rw [ent, if_pos hc] at h
      rw [lv_args, if_pos hc]
      match i, h with
      | 0, h => cases h; exact List.mem_cons_self
      | 1, h => cases h
      | i + 2, h =>
        have := ent_args as (n - 2) i (j + 2) v h
        rw [show j + (i + 2) = j + 2 + i by omega]
        exact List.mem_cons_of_mem _ this
    · rw [ent, if_neg hc] at h
      rw [lv_args, if_neg hc]
      match i, h with
      | 0, h => cases h; exact List.mem_cons_self
      | i + 1, h =>
        have := ent_args as (n - 1) i (j + 1) v h
        rw [show j + (i + 1) = j + 1 + i by omega]
        exact List.mem_cons_of_mem _ this
theorem C_of {as : List Value} {ws' : List Cond} (hy : plainName k.1.cls = true) (hw : k.2.1 = Cond.code k.1 k.2.2.1 k.2.2.2.1 k.2.2.2.2 :: ws') (hn : Nat.ble (lg_sl as).length k.2.2.2.1 = true) (K : R E G k d 0 (ent as k.2.2.2.1) [] τ ζ Q) : C E G k d as τ ζ Q := by
  refine Met.ofW (cc := k.2.2.1) (maxL := k.2.2.2.1) (ret := k.2.2.2.2) hy hw ?_
  intro p e s m args below meth c s₁ B hml hv
  obtain ⟨rfl, hH⟩ := hv
  have hts := atoms_spec (ws := k.2.1) B.pre
  have hown : s.vm.findClass k.1.cls = some m.cls := findClass_of_methodNamed B.named
  have hl := lv_entry as (n := k.2.2.2.1) (Nat.le_of_ble_eq_true hn)
  rw [lg_entry_eq]
  exact K p e s m _ below meth c s.heap [] _ ⟨B.exec, B.bytes, hml, B.returns, B.notSynchronized, hts, hown, hH, va_S.rf, hl.1, hl.2.1, fun i v h => by
    have := ent_args as k.2.2.2.1 i 0 v h
    rw [Nat.zero_add] at this
    exact hl.2.2 (i, v) this⟩
theorem C_blind {as : List Value} : FrameBlind (va_Pc as (fun U => HW E G τ ζ U U.heap)) := fun a U g mk q => by
  obtain ⟨q0, qH⟩ := q
  exact ⟨q0, HW.moved (u := U) (U := U.calling g mk a) (Vm.Alike.refl U.vm) qH⟩

theorem R_back {k2 : Mt} {as : List Value} {Q2 : Option Value → Sf → Sf → Prop} {p : Program} {e : Env} {s : State} {m : MethodId} {args : Array Value} {below : List Frame} {meth : Method} {c : Code} {H : Heap} {locs : List Loc} {ls : Array Slot} {st0 : List Value}
    (X : Cx E G k L τ ζ p s m args meth c H locs ls) (hr : va_Run p E.1 e (rmd d) s m args below meth c H locs 0 0 0 0 (F0 m pc ls st0) st (QQ E G Q2 as.toArray) (AA E G))
    (kk : ∀ (v : Option Value) (τ' ζ' : Sf), Q2 v τ' ζ' → R E G k d (pc + 3) L (v.toList ++ st) τ' ζ' Q) : W p E.1 e (rmd d) s m args below meth c H locs 0 0 (MQ below (QQ E G Q) args s 0 0 (AA E G)) (F0 m pc ls st0) := by
  intro T hT XT
  obtain ⟨x1, x2, x3, x4, x5, x6, x7, x8, x9, x10⟩ := id X
  obtain ⟨v, st₀, t, T', L', h0, X', hL, e1, e2, ⟨⟨v', τ', ζ', hv, hq, hb⟩, hz, hk⟩, hst⟩ := hr T hT XT
  cases hv
  rw [h0] at hz hk
  have hal : s.vm.Alike t.vm := by rw [← e2]; exact X'.warmed.alike
  have hH' : HW E G τ' ζ' s T'.heap := by
    rw [e1]
    exact ⟨va_K.moved hal.symm hb.1, hb.2⟩
  have hS' : va_S (AA E G) s.heap T'.heap (locs ++ L') := ⟨Nat.le_trans x9.1 (by rw [e1]; exact hz), fun q h1 h2 => by rw [e1, hk q (Nat.lt_of_lt_of_le h1 x9.1) h2]; exact x9.2.1 q h1 h2, fun q hq => by
      rcases List.mem_append.mp hq with h | h
      · exact x9.2.2 q h
      · exact hL q h⟩
  obtain ⟨t2, a1, b1⟩ := kk v τ' ζ' hq p e s m args below meth c T'.heap (locs ++ L') ls (X.H' hH' hS') T' rfl X'
  exact ⟨t2, hst t2 a1, b1⟩
/-- what a call asks of the callee's description: its name, its words, how many arguments -/
def Kok (k2 : Mt) (n : Nat) : Prop := (∃ ws', k2.2.1 = Cond.code k2.1 k2.2.2.1 k2.2.2.2.1 k2.2.2.2.2 :: ws') ∧ (k2.1.cls ≠ "java/lang/invoke/MethodHandle" ∧ k2.1.cls ≠ "java/lang/invoke/VarHandle" ∧ (parseMethodDescriptor k2.1.desc).map (fun d => d.parameters.length) = some n) ∧ k2.2.2.2.1 ≤ 45
theorem R_callV {k2 : Mt} {own : String} {idx n : Nat} {as : List Value} (hd : decode k.2.2.1 pc = .ok (.invokevirtual idx, 3)) (ho : k.1.cls = own) (g : GoodIn k.2.1 (wsV own idx k2.1.cls k2.1 k2.2.1)) (hk : Kok k2 n) (hn : as.length = n) (hci : vwCl[G.2.2.2.2.2.2]? = some (k2.1.cls, G.2.2.2.2.1, G.2.2.2.2.2.1)) {fs : List Nat} (h0 : G.2.1[0]? = some (.inl (G.2.2.2.2.2.2, fs)))
    (hst : (st.map fun v => v.category).sum ≤ 8) (K : C E G k2 d (.ref (eAd E 0) :: as) τ ζ (fun v τ' ζ' => R E G k (d + 1) (pc + 3) L (v.toList ++ st) τ' ζ' Q)) : R E G k (d + 1) pc L (as.reverse ++ .ref (eAd E 0) :: st) τ ζ Q := by
  intro p e s m args below meth c H locs ls X
  obtain ⟨x1, x2, x3, x4, x5, x6, x7, x8, x9, x10⟩ := id X
  obtain ⟨⟨ws', hw⟩, hdn, h45⟩ := hk
  subst ho
  refine R_back (k2 := k2) (as := .ref (eAd E 0) :: as) X (va_runV (As := as) (rest := st) ⟨x1, x2, x3, x7, x6⟩ K (cwV n x6 g hw rfl rfl ⟨rfl, hdn⟩ ⟨Nat.le_refl _, by show 8 + (k2.2.2.2.1 + 11) + 64 * d ≤ 64 * (d + 1); omega⟩) ⟨C_blind, va_recv x8.1 x8.2.1 hci (wd_get h0), fun U hU hW => ⟨rfl, va_K.moved hW.alike x8.1, by rw [hU]; exact x8.2.1, x8.2.2⟩⟩ rfl hn x10.1 rfl (lv_room hst) hd ⟨Nat.zero_le _, Nat.zero_le _⟩) (fun v τ' ζ' h => h)
theorem R_callS {k2 : Mt} {own : String} {idx n : Nat} {as : List Value} (hd : decode k.2.2.1 pc = .ok (.invokestatic idx, 3)) (ho : k.1.cls = own) (g : GoodIn k.2.1 (va_wsS own idx k2.1 k2.2.1)) (hk : Kok k2 n) (hn : as.length = n)
    (hst : (st.map fun v => v.category).sum ≤ 8) (K : C E G k2 d as τ ζ (fun v τ' ζ' => R E G k (d + 1) (pc + 3) L (v.toList ++ st) τ' ζ' Q)) : R E G k (d + 1) pc L (as.reverse ++ st) τ ζ Q := by
  intro p e s m args below meth c H locs ls X
  obtain ⟨x1, x2, x3, x4, x5, x6, x7, x8, x9, x10⟩ := id X
  obtain ⟨⟨ws', hw⟩, hdn, h45⟩ := hk
  subst ho
  refine R_back (k2 := k2) (as := as) X (va_runS (As := as) (rest := st) ⟨x1, x2, x3, x7, x6⟩ K (va_cwS n x6 g hw rfl rfl hdn ⟨Nat.le_refl _, by show 8 + (k2.2.2.2.1 + 11) + 64 * d ≤ 64 * (d + 1); omega⟩) ⟨C_blind, fun U hU hW => ⟨rfl, va_K.moved hW.alike x8.1, by rw [hU]; exact x8.2.1, x8.2.2⟩⟩ rfl hn x10.1 rfl (lv_room hst) hd ⟨Nat.zero_le _, Nat.zero_le _⟩) (fun v τ' ζ' h => h)

theorem R_mmax {idx : Nat} {a b : Int} (hr : (-2147483648 ≤ a ∧ a < 2147483648) ∧ (-2147483648 ≤ b ∧ b < 2147483648)) (hd : decode k.2.2.1 pc = .ok (.invokestatic idx, 3)) (h1 : Cond.methodLink k.1.cls idx Lib.Math.max.name ∈ k.2.1) (h2 : Cond.static Lib.Math.max.name ∈ k.2.1) (h3 : Cond.initialized "java/lang/Math" ∈ k.2.1) (h4 : Cond.code Lib.Math.max.name Lib.Math.max.code 2 (some .int) ∈ k.2.1)
    (hst : (st.map fun v => v.category).sum ≤ 8) (K : R E G k (d + 1) (pc + 3) L (.int (zI (max a b)) :: st) τ ζ Q) : R E G k (d + 1) pc L (.int (zI b) :: .int (zI a) :: st) τ ζ Q := by
  intro p e s m args below meth c H locs ls X
  obtain ⟨x1, x2, x3, x4, x5, x6, x7, x8, x9, x10⟩ := id X
  refine va_mmax x1 x2 (x3.trans x10.1.symm) x7 (x6 _ h1) (x6 _ h2) (x6 _ h3) (x6 _ h4) (Nat.le_add_left 1 d) (by show _ + 13 ≤ 64 * (d + 1); omega) (Nat.zero_le _) (Nat.zero_le _) hd ?_
  have ee : (if zI a < zI b then zI b else zI a) = zI (max a b) := by
    by_cases h : a < b
    · rw [if_pos ((zI_lt hr).mpr h)]
      congr 1
      omega
    · rw [if_neg (fun q => h ((zI_lt hr).mp q))]
      congr 1
      omega
  rw [ee]
  exact K p e s m args below meth c H locs ls X
theorem R_mmin {idx : Nat} {a b : Int} (hr : (-2147483648 ≤ a ∧ a < 2147483648) ∧ (-2147483648 ≤ b ∧ b < 2147483648)) (hd : decode k.2.2.1 pc = .ok (.invokestatic idx, 3)) (h1 : Cond.methodLink k.1.cls idx Lib.Math.min.name ∈ k.2.1) (h2 : Cond.static Lib.Math.min.name ∈ k.2.1) (h3 : Cond.initialized "java/lang/Math" ∈ k.2.1) (h4 : Cond.code Lib.Math.min.name Lib.Math.min.code 2 (some .int) ∈ k.2.1)
    (hst : (st.map fun v => v.category).sum ≤ 8) (K : R E G k (d + 1) (pc + 3) L (.int (zI (min a b)) :: st) τ ζ Q) : R E G k (d + 1) pc L (.int (zI b) :: .int (zI a) :: st) τ ζ Q := by
  intro p e s m args below meth c H locs ls X
  obtain ⟨x1, x2, x3, x4, x5, x6, x7, x8, x9, x10⟩ := id X
  refine va_mmin x1 x2 (x3.trans x10.1.symm) x7 (x6 _ h1) (x6 _ h2) (x6 _ h3) (x6 _ h4) (Nat.le_add_left 1 d) (by show _ + 13 ≤ 64 * (d + 1); omega) (Nat.zero_le _) (Nat.zero_le _) hd ?_
  have ee : (if zI b < zI a then zI b else zI a) = zI (min a b) := by
    by_cases h : b < a
    · rw [if_pos ((zI_lt ⟨hr.2, hr.1⟩).mpr h)]
      congr 1
      omega
    · rw [if_neg (fun q => h ((zI_lt ⟨hr.2, hr.1⟩).mp q))]
      congr 1
      omega
  rw [ee]
  exact K p e s m args below meth c H locs ls X
theorem R_callV0 {k2 : Mt} {own : String} {idx : Nat} (hd : decode k.2.2.1 pc = .ok (.invokevirtual idx, 3)) (ho : k.1.cls = own) (g : GoodIn k.2.1 (wsV own idx k2.1.cls k2.1 k2.2.1)) (hk : Kok k2 0) (hci : vwCl[G.2.2.2.2.2.2]? = some (k2.1.cls, G.2.2.2.2.1, G.2.2.2.2.2.1)) {fs : List Nat} (h0 : G.2.1[0]? = some (.inl (G.2.2.2.2.2.2, fs)))
    (hst : (st.map fun v => v.category).sum ≤ 8) (K : C E G k2 d (.ref (eAd E 0) :: []) τ ζ (fun v τ' ζ' => R E G k (d + 1) (pc + 3) L (v.toList ++ st) τ' ζ' Q)) : R E G k (d + 1) pc L (.ref (eAd E 0) :: st) τ ζ Q :=
  R_callV (as := []) hd ho g hk rfl hci h0 hst K
theorem R_callS0 {k2 : Mt} {own : String} {idx : Nat} (hd : decode k.2.2.1 pc = .ok (.invokestatic idx, 3)) (ho : k.1.cls = own) (g : GoodIn k.2.1 (va_wsS own idx k2.1 k2.2.1)) (hk : Kok k2 0)
    (hst : (st.map fun v => v.category).sum ≤ 8) (K : C E G k2 d [] τ ζ (fun v τ' ζ' => R E G k (d + 1) (pc + 3) L (v.toList ++ st) τ' ζ' Q)) : R E G k (d + 1) pc L (st) τ ζ Q :=
  R_callS (as := []) hd ho g hk rfl hst K
theorem R_callV1 {k2 : Mt} {own : String} {idx : Nat} {v1 : Value} (hd : decode k.2.2.1 pc = .ok (.invokevirtual idx, 3)) (ho : k.1.cls = own) (g : GoodIn k.2.1 (wsV own idx k2.1.cls k2.1 k2.2.1)) (hk : Kok k2 1) (hci : vwCl[G.2.2.2.2.2.2]? = some (k2.1.cls, G.2.2.2.2.1, G.2.2.2.2.2.1)) {fs : List Nat} (h0 : G.2.1[0]? = some (.inl (G.2.2.2.2.2.2, fs)))
    (hst : (st.map fun v => v.category).sum ≤ 8) (K : C E G k2 d (.ref (eAd E 0) :: [v1]) τ ζ (fun v τ' ζ' => R E G k (d + 1) (pc + 3) L (v.toList ++ st) τ' ζ' Q)) : R E G k (d + 1) pc L (v1 :: .ref (eAd E 0) :: st) τ ζ Q :=
  R_callV (as := [v1]) hd ho g hk rfl hci h0 hst K
theorem R_callS1 {k2 : Mt} {own : String} {idx : Nat} {v1 : Value} (hd : decode k.2.2.1 pc = .ok (.invokestatic idx, 3)) (ho : k.1.cls = own) (g : GoodIn k.2.1 (va_wsS own idx k2.1 k2.2.1)) (hk : Kok k2 1)
    (hst : (st.map fun v => v.category).sum ≤ 8) (K : C E G k2 d [v1] τ ζ (fun v τ' ζ' => R E G k (d + 1) (pc + 3) L (v.toList ++ st) τ' ζ' Q)) : R E G k (d + 1) pc L (v1 :: st) τ ζ Q :=
  R_callS (as := [v1]) hd ho g hk rfl hst K
theorem R_callV2 {k2 : Mt} {own : String} {idx : Nat} {v1 v2 : Value} (hd : decode k.2.2.1 pc = .ok (.invokevirtual idx, 3)) (ho : k.1.cls = own) (g : GoodIn k.2.1 (wsV own idx k2.1.cls k2.1 k2.2.1)) (hk : Kok k2 2) (hci : vwCl[G.2.2.2.2.2.2]? = some (k2.1.cls, G.2.2.2.2.1, G.2.2.2.2.2.1)) {fs : List Nat} (h0 : G.2.1[0]? = some (.inl (G.2.2.2.2.2.2, fs)))
    (hst : (st.map fun v => v.category).sum ≤ 8) (K : C E G k2 d (.ref (eAd E 0) :: [v1, v2]) τ ζ (fun v τ' ζ' => R E G k (d + 1) (pc + 3) L (v.toList ++ st) τ' ζ' Q)) : R E G k (d + 1) pc L (v2 :: v1 :: .ref (eAd E 0) :: st) τ ζ Q :=
  R_callV (as := [v1, v2]) hd ho g hk rfl hci h0 hst K
theorem R_callS2 {k2 : Mt} {own : String} {idx : Nat} {v1 v2 : Value} (hd : decode k.2.2.1 pc = .ok (.invokestatic idx, 3)) (ho : k.1.cls = own) (g : GoodIn k.2.1 (va_wsS own idx k2.1 k2.2.1)) (hk : Kok k2 2)
    (hst : (st.map fun v => v.category).sum ≤ 8) (K : C E G k2 d [v1, v2] τ ζ (fun v τ' ζ' => R E G k (d + 1) (pc + 3) L (v.toList ++ st) τ' ζ' Q)) : R E G k (d + 1) pc L (v2 :: v1 :: st) τ ζ Q :=
  R_callS (as := [v1, v2]) hd ho g hk rfl hst K
theorem R_callV3 {k2 : Mt} {own : String} {idx : Nat} {v1 v2 v3 : Value} (hd : decode k.2.2.1 pc = .ok (.invokevirtual idx, 3)) (ho : k.1.cls = own) (g : GoodIn k.2.1 (wsV own idx k2.1.cls k2.1 k2.2.1)) (hk : Kok k2 3) (hci : vwCl[G.2.2.2.2.2.2]? = some (k2.1.cls, G.2.2.2.2.1, G.2.2.2.2.2.1)) {fs : List Nat} (h0 : G.2.1[0]? = some (.inl (G.2.2.2.2.2.2, fs)))
    (hst : (st.map fun v => v.category).sum ≤ 8) (K : C E G k2 d (.ref (eAd E 0) :: [v1, v2, v3]) τ ζ (fun v τ' ζ' => R E G k (d + 1) (pc + 3) L (v.toList ++ st) τ' ζ' Q)) : R E G k (d + 1) pc L (v3 :: v2 :: v1 :: .ref (eAd E 0) :: st) τ ζ Q :=
  R_callV (as := [v1, v2, v3]) hd ho g hk rfl hci h0 hst K
theorem R_callS3 {k2 : Mt} {own : String} {idx : Nat} {v1 v2 v3 : Value} (hd : decode k.2.2.1 pc = .ok (.invokestatic idx, 3)) (ho : k.1.cls = own) (g : GoodIn k.2.1 (va_wsS own idx k2.1 k2.2.1)) (hk : Kok k2 3)
    (hst : (st.map fun v => v.category).sum ≤ 8) (K : C E G k2 d [v1, v2, v3] τ ζ (fun v τ' ζ' => R E G k (d + 1) (pc + 3) L (v.toList ++ st) τ' ζ' Q)) : R E G k (d + 1) pc L (v3 :: v2 :: v1 :: st) τ ζ Q :=
  R_callS (as := [v1, v2, v3]) hd ho g hk rfl hst K
theorem R_callV4 {k2 : Mt} {own : String} {idx : Nat} {v1 v2 v3 v4 : Value} (hd : decode k.2.2.1 pc = .ok (.invokevirtual idx, 3)) (ho : k.1.cls = own) (g : GoodIn k.2.1 (wsV own idx k2.1.cls k2.1 k2.2.1)) (hk : Kok k2 4) (hci : vwCl[G.2.2.2.2.2.2]? = some (k2.1.cls, G.2.2.2.2.1, G.2.2.2.2.2.1)) {fs : List Nat} (h0 : G.2.1[0]? = some (.inl (G.2.2.2.2.2.2, fs)))
    (hst : (st.map fun v => v.category).sum ≤ 8) (K : C E G k2 d (.ref (eAd E 0) :: [v1, v2, v3, v4]) τ ζ (fun v τ' ζ' => R E G k (d + 1) (pc + 3) L (v.toList ++ st) τ' ζ' Q)) : R E G k (d + 1) pc L (v4 :: v3 :: v2 :: v1 :: .ref (eAd E 0) :: st) τ ζ Q :=
  R_callV (as := [v1, v2, v3, v4]) hd ho g hk rfl hci h0 hst K
theorem R_callS4 {k2 : Mt} {own : String} {idx : Nat} {v1 v2 v3 v4 : Value} (hd : decode k.2.2.1 pc = .ok (.invokestatic idx, 3)) (ho : k.1.cls = own) (g : GoodIn k.2.1 (va_wsS own idx k2.1 k2.2.1)) (hk : Kok k2 4)
    (hst : (st.map fun v => v.category).sum ≤ 8) (K : C E G k2 d [v1, v2, v3, v4] τ ζ (fun v τ' ζ' => R E G k (d + 1) (pc + 3) L (v.toList ++ st) τ' ζ' Q)) : R E G k (d + 1) pc L (v4 :: v3 :: v2 :: v1 :: st) τ ζ Q :=
  R_callS (as := [v1, v2, v3, v4]) hd ho g hk rfl hst K
theorem R_callV5 {k2 : Mt} {own : String} {idx : Nat} {v1 v2 v3 v4 v5 : Value} (hd : decode k.2.2.1 pc = .ok (.invokevirtual idx, 3)) (ho : k.1.cls = own) (g : GoodIn k.2.1 (wsV own idx k2.1.cls k2.1 k2.2.1)) (hk : Kok k2 5) (hci : vwCl[G.2.2.2.2.2.2]? = some (k2.1.cls, G.2.2.2.2.1, G.2.2.2.2.2.1)) {fs : List Nat} (h0 : G.2.1[0]? = some (.inl (G.2.2.2.2.2.2, fs)))
    (hst : (st.map fun v => v.category).sum ≤ 8) (K : C E G k2 d (.ref (eAd E 0) :: [v1, v2, v3, v4, v5]) τ ζ (fun v τ' ζ' => R E G k (d + 1) (pc + 3) L (v.toList ++ st) τ' ζ' Q)) : R E G k (d + 1) pc L (v5 :: v4 :: v3 :: v2 :: v1 :: .ref (eAd E 0) :: st) τ ζ Q :=
  R_callV (as := [v1, v2, v3, v4, v5]) hd ho g hk rfl hci h0 hst K
theorem R_callS5 {k2 : Mt} {own : String} {idx : Nat} {v1 v2 v3 v4 v5 : Value} (hd : decode k.2.2.1 pc = .ok (.invokestatic idx, 3)) (ho : k.1.cls = own) (g : GoodIn k.2.1 (va_wsS own idx k2.1 k2.2.1)) (hk : Kok k2 5)
    (hst : (st.map fun v => v.category).sum ≤ 8) (K : C E G k2 d [v1, v2, v3, v4, v5] τ ζ (fun v τ' ζ' => R E G k (d + 1) (pc + 3) L (v.toList ++ st) τ' ζ' Q)) : R E G k (d + 1) pc L (v5 :: v4 :: v3 :: v2 :: v1 :: st) τ ζ Q :=
  R_callS (as := [v1, v2, v3, v4, v5]) hd ho g hk rfl hst K
end RR
end
section
def perX : Nat → Bool := fun k => Nat.ble k 10 || Nat.ble 20 k
def shX : List Sh := [.inl (0, [0, 0, 3, 4, 5, 6, 7, 8, 9, 10, 11, 12, 13, 14, 15, 16]), .inr (0, 210), .inr (0, 210), .inr (0, 70), .inr (0, 2), .inr (0, 3), .inr (0, 6), .inr (0, 12), .inr (0, 30), .inr (0, 10), .inr (0, 10), .inr (0, 7), .inr (0, 10), .inr (0, 10), .inr (0, 30)]
def GX : Gd := (perX, shX, false, RX0, TX0, 16, 0)
def perM : Nat → Bool := fun k => Nat.ble k 9 || Nat.beq k 11 || Nat.beq k 20 || Nat.beq k 21 || Nat.beq k 25 || Nat.beq k 26 || Nat.beq k 32
def shM : List Sh := [.inl (1, [0, 0, 3, 4, 5, 0, 0, 6, 7, 8, 9, 10, 0, 11, 0, 0, 12, 0, 0, 0, 0, 13, 1]), .inr (0, 210), .inr (1, 210), .inr (1, 70), .inr (0, 3), .inr (0, 6), .inr (0, 12), .inr (0, 10), .inr (0, 30), .inr (0, 10), .inr (0, 7), .inr (0, 12)]
def GM : Gd := (perM, shM, true, RX1, TX1, 23, 1)
theorem GXok : Gok GX := ⟨rfl, by decide, nmX0, fun j hj => ⟨tyX0 j, tyX0_ok j hj⟩⟩
theorem GX1 : ∀ (i : Nat) (o : Nat × List Nat), GX.2.1[i]? = some (.inl o) → i = 0 := by
  intro i o h
  have hl : i < 15 := (List.getElem?_eq_some_iff.mp h).1
  match i, h with
  | 0, _ => rfl
  | 1, h => cases h
  | 2, h => cases h
  | 3, h => cases h
  | 4, h => cases h
  | 5, h => cases h
  | 6, h => cases h
  | 7, h => cases h
  | 8, h => cases h
  | 9, h => cases h
  | 10, h => cases h
  | 11, h => cases h
  | 12, h => cases h
  | 13, h => cases h
  | 14, h => cases h
  | i + 15, h => omega
theorem GMok : Gok GM := ⟨rfl, by decide, nmX1, fun j hj => ⟨tyX1 j, tyX1_ok j hj⟩⟩
theorem GM1 : ∀ (i : Nat) (o : Nat × List Nat), GM.2.1[i]? = some (.inl o) → i = 0 := by
  intro i o h
  have hl : i < 12 := (List.getElem?_eq_some_iff.mp h).1
  match i, h with
  | 0, _ => rfl
  | 1, h => cases h
  | 2, h => cases h
  | 3, h => cases h
  | 4, h => cases h
  | 5, h => cases h
  | 6, h => cases h
  | 7, h => cases h
  | 8, h => cases h
  | 9, h => cases h
  | 10, h => cases h
  | 11, h => cases h
  | i + 12, h => omega
def kJ6_bitCount_0f7a4 : Mt := (yJ6_bitCount_0f7a4, wsJ6_bitCount_0f7a4, cJ6_bitCount_0f7a4, 1, (some .int))
def kJ6_compare_7cf53 : Mt := (yJ6_compare_7cf53, wsJ6_compare_7cf53, cJ6_compare_7cf53, 2, (some .int))
def kJ7_fill_53178 : Mt := (yJ7_fill_53178, wsJ7_fill_53178, cJ7_fill_53178, 4, none)
def kJ9_max_7cf53 : Mt := (yJ9_max_7cf53, wsJ9_max_7cf53, cJ9_max_7cf53, 2, (some .int))
def kJ9_min_7cf53 : Mt := (yJ9_min_7cf53, wsJ9_min_7cf53, cJ9_min_7cf53, 2, (some .int))
def kX0_beats : Mt := (yX0_beats, wsX0_beats, cX0_beats, 4, (some .int))
def kX0_bitOf : Mt := (yX0_bitOf, wsX0_bitOf, cX0_bitOf, 4, (some .int))
def kX0_cellOf : Mt := (yX0_cellOf, wsX0_cellOf, cX0_cellOf, 3, (some .int))
def kX0_choosesFrom : Mt := (yX0_choosesFrom, wsX0_choosesFrom, cX0_choosesFrom, 8, (some .boolean))
def kX0_chosen : Mt := (yX0_chosen, wsX0_chosen, cX0_chosen, 2, (some .int))
def kX0_clearAll : Mt := (yX0_clearAll, wsX0_clearAll, cX0_clearAll, 1, none)
def kX0_contest : Mt := (yX0_contest, wsX0_contest, cX0_contest, 3, (some .int))
def kX0_count : Mt := (yX0_count, wsX0_count, cX0_count, 2, (some .int))
def kX0_countMarks : Mt := (yX0_countMarks, wsX0_countMarks, cX0_countMarks, 3, (some .int))
def kX0_countYeses : Mt := (yX0_countYeses, wsX0_countYeses, cX0_countYeses, 5, (some .int))
def kX0_countedMark : Mt := (yX0_countedMark, wsX0_countedMark, cX0_countedMark, 4, (some .int))
def kX0_cutMean : Mt := (yX0_cutMean, wsX0_cutMean, cX0_cutMean, 3, (some .int))
def kX0_differ : Mt := (yX0_differ, wsX0_differ, cX0_differ, 5, (some .int))
def kX0_digest : Mt := (yX0_digest, wsX0_digest, cX0_digest, 5, (some .long))
def kX0_drawn : Mt := (yX0_drawn, wsX0_drawn, cX0_drawn, 8, (some .int))
def kX0_duel : Mt := (yX0_duel, wsX0_duel, cX0_duel, 8, (some .int))
def kX0_factorial : Mt := (yX0_factorial, wsX0_factorial, cX0_factorial, 3, (some .int))
def kX0_fillFitting : Mt := (yX0_fillFitting, wsX0_fillFitting, cX0_fillFitting, 7, none)
def kX0_fillScores : Mt := (yX0_fillScores, wsX0_fillScores, cX0_fillScores, 4, none)
def kX0_fillScoresIf : Mt := (yX0_fillScoresIf, wsX0_fillScoresIf, cX0_fillScoresIf, 9, none)
def kX0_fillTotals : Mt := (yX0_fillTotals, wsX0_fillTotals, cX0_fillTotals, 2, none)
def kX0_heard : Mt := (yX0_heard, wsX0_heard, cX0_heard, 4, (some .int))
def kX0_insertMark : Mt := (yX0_insertMark, wsX0_insertMark, cX0_insertMark, 4, none)
def kX0_isJuror : Mt := (yX0_isJuror, wsX0_isJuror, cX0_isJuror, 2, (some .boolean))
def kX0_isLimit : Mt := (yX0_isLimit, wsX0_isLimit, cX0_isLimit, 1, (some .boolean))
def kX0_isMarked : Mt := (yX0_isMarked, wsX0_isMarked, cX0_isMarked, 4, (some .boolean))
def kX0_isPlayer : Mt := (yX0_isPlayer, wsX0_isPlayer, cX0_isPlayer, 2, (some .boolean))
def kX0_isPupil : Mt := (yX0_isPupil, wsX0_isPupil, cX0_isPupil, 3, (some .boolean))
def kX0_isRound : Mt := (yX0_isRound, wsX0_isRound, cX0_isRound, 1, (some .boolean))
def kX0_isWay : Mt := (yX0_isWay, wsX0_isWay, cX0_isWay, 1, (some .boolean))
def kX0_isWithin : Mt := (yX0_isWithin, wsX0_isWithin, cX0_isWithin, 3, (some .boolean))
def kX0_isWork : Mt := (yX0_isWork, wsX0_isWork, cX0_isWork, 1, (some .boolean))
def kX0_last : Mt := (yX0_last, wsX0_last, cX0_last, 2, (some .int))
def kX0_mark : Mt := (yX0_mark, wsX0_mark, cX0_mark, 5, (some .int))
def kX0_meanBetween : Mt := (yX0_meanBetween, wsX0_meanBetween, cX0_meanBetween, 3, (some .int))
def kX0_minutesOf : Mt := (yX0_minutesOf, wsX0_minutesOf, cX0_minutesOf, 4, (some .int))
def kX0_mixed : Mt := (yX0_mixed, wsX0_mixed, cX0_mixed, 4, (some .long))
def kX0_mixedRound : Mt := (yX0_mixedRound, wsX0_mixedRound, cX0_mixedRound, 9, (some .long))
def kX0_mixedRow : Mt := (yX0_mixedRow, wsX0_mixedRow, cX0_mixedRow, 6, (some .long))
def kX0_pairScore : Mt := (yX0_pairScore, wsX0_pairScore, cX0_pairScore, 5, (some .int))
def kX0_passed : Mt := (yX0_passed, wsX0_passed, cX0_passed, 4, (some .int))
def kX0_passedBits : Mt := (yX0_passedBits, wsX0_passedBits, cX0_passedBits, 6, (some .int))
def kX0_passesIn : Mt := (yX0_passesIn, wsX0_passesIn, cX0_passesIn, 4, (some .boolean))
def kX0_place : Mt := (yX0_place, wsX0_place, cX0_place, 4, (some .int))
def kX0_placeIn : Mt := (yX0_placeIn, wsX0_placeIn, cX0_placeIn, 5, (some .int))
def kX0_plan : Mt := (yX0_plan, wsX0_plan, cX0_plan, 6, (some .int))
def kX0_prize : Mt := (yX0_prize, wsX0_prize, cX0_prize, 3, (some .int))
def kX0_programme : Mt := (yX0_programme, wsX0_programme, cX0_programme, 3, (some .int))
def kX0_programmeCellOf : Mt := (yX0_programmeCellOf, wsX0_programmeCellOf, cX0_programmeCellOf, 2, (some .int))
def kX0_pulledMean : Mt := (yX0_pulledMean, wsX0_pulledMean, cX0_pulledMean, 7, (some .int))
def kX0_pupil : Mt := (yX0_pupil, wsX0_pupil, cX0_pupil, 4, (some .int))
def kX0_pupilCellOf : Mt := (yX0_pupilCellOf, wsX0_pupilCellOf, cX0_pupilCellOf, 2, (some .int))
def kX0_reach : Mt := (yX0_reach, wsX0_reach, cX0_reach, 6, (some .int))
def kX0_replace : Mt := (yX0_replace, wsX0_replace, cX0_replace, 4, (some .int))
def kX0_rest : Mt := (yX0_rest, wsX0_rest, cX0_rest, 3, (some .int))
def kX0_rule : Mt := (yX0_rule, wsX0_rule, cX0_rule, 4, (some .int))
def kX0_score : Mt := (yX0_score, wsX0_score, cX0_score, 4, (some .int))
def kX0_scoreOf : Mt := (yX0_scoreOf, wsX0_scoreOf, cX0_scoreOf, 5, (some .int))
def kX0_shareOf : Mt := (yX0_shareOf, wsX0_shareOf, cX0_shareOf, 6, (some .int))
def kX0_sortMarks : Mt := (yX0_sortMarks, wsX0_sortMarks, cX0_sortMarks, 6, (some .int))
def kX0_sumBetween : Mt := (yX0_sumBetween, wsX0_sumBetween, cX0_sumBetween, 5, (some .int))
def kX0_sumOf : Mt := (yX0_sumOf, wsX0_sumOf, cX0_sumOf, 3, (some .int))
def kX0_sway : Mt := (yX0_sway, wsX0_sway, cX0_sway, 11, (some .int))
def kX0_total : Mt := (yX0_total, wsX0_total, cX0_total, 2, (some .int))
def kX0_totalOf : Mt := (yX0_totalOf, wsX0_totalOf, cX0_totalOf, 5, (some .int))
def kX0_weight : Mt := (yX0_weight, wsX0_weight, cX0_weight, 3, (some .int))
def kX0_wins : Mt := (yX0_wins, wsX0_wins, cX0_wins, 2, (some .int))
def kX0_work : Mt := (yX0_work, wsX0_work, cX0_work, 3, (some .int))
def kX0_yes : Mt := (yX0_yes, wsX0_yes, cX0_yes, 5, (some .int))
def kX1_beats : Mt := (yX1_beats, wsX1_beats, cX1_beats, 4, (some .int))
def kX1_beatsOf : Mt := (yX1_beatsOf, wsX1_beatsOf, cX1_beatsOf, 7, (some .int))
def kX1_begin : Mt := (yX1_begin, wsX1_begin, cX1_begin, 2, none)
def kX1_chosen : Mt := (yX1_chosen, wsX1_chosen, cX1_chosen, 2, (some .int))
def kX1_chosenOf : Mt := (yX1_chosenOf, wsX1_chosenOf, cX1_chosenOf, 2, (some .int))
def kX1_contest : Mt := (yX1_contest, wsX1_contest, cX1_contest, 3, (some .int))
def kX1_count : Mt := (yX1_count, wsX1_count, cX1_count, 4, (some .int))
def kX1_counts : Mt := (yX1_counts, wsX1_counts, cX1_counts, 4, (some .boolean))
def kX1_cutOf : Mt := (yX1_cutOf, wsX1_cutOf, cX1_cutOf, 4, (some .int))
def kX1_differ : Mt := (yX1_differ, wsX1_differ, cX1_differ, 8, (some .int))
def kX1_digest : Mt := (yX1_digest, wsX1_digest, cX1_digest, 4, (some .long))
def kX1_drawn : Mt := (yX1_drawn, wsX1_drawn, cX1_drawn, 9, (some .int))
def kX1_gather : Mt := (yX1_gather, wsX1_gather, cX1_gather, 6, none)
def kX1_hasMark : Mt := (yX1_hasMark, wsX1_hasMark, cX1_hasMark, 5, (some .boolean))
def kX1_hear : Mt := (yX1_hear, wsX1_hear, cX1_hear, 4, none)
def kX1_heard : Mt := (yX1_heard, wsX1_heard, cX1_heard, 2, (some .int))
def kX1_in : Mt := (yX1_in, wsX1_in, cX1_in, 3, (some .boolean))
def kX1_isJuror : Mt := (yX1_isJuror, wsX1_isJuror, cX1_isJuror, 2, (some .boolean))
def kX1_isPlayer : Mt := (yX1_isPlayer, wsX1_isPlayer, cX1_isPlayer, 2, (some .boolean))
def kX1_isRound : Mt := (yX1_isRound, wsX1_isRound, cX1_isRound, 1, (some .boolean))
def kX1_last : Mt := (yX1_last, wsX1_last, cX1_last, 2, (some .int))
def kX1_lastOf : Mt := (yX1_lastOf, wsX1_lastOf, cX1_lastOf, 5, (some .int))
def kX1_mark : Mt := (yX1_mark, wsX1_mark, cX1_mark, 7, (some .int))
def kX1_mayBe : Mt := (yX1_mayBe, wsX1_mayBe, cX1_mayBe, 8, (some .boolean))
def kX1_mix : Mt := (yX1_mix, wsX1_mix, cX1_mix, 3, none)
def kX1_note : Mt := (yX1_note, wsX1_note, cX1_note, 7, none)
def kX1_pairsOf : Mt := (yX1_pairsOf, wsX1_pairsOf, cX1_pairsOf, 5, (some .int))
def kX1_passed : Mt := (yX1_passed, wsX1_passed, cX1_passed, 4, (some .int))
def kX1_passedOf : Mt := (yX1_passedOf, wsX1_passedOf, cX1_passedOf, 6, (some .int))
def kX1_passes : Mt := (yX1_passes, wsX1_passes, cX1_passes, 5, (some .boolean))
def kX1_place : Mt := (yX1_place, wsX1_place, cX1_place, 4, (some .int))
def kX1_placeOf : Mt := (yX1_placeOf, wsX1_placeOf, cX1_placeOf, 7, (some .int))
def kX1_plan : Mt := (yX1_plan, wsX1_plan, cX1_plan, 5, (some .int))
def kX1_prize : Mt := (yX1_prize, wsX1_prize, cX1_prize, 4, (some .int))
def kX1_programme : Mt := (yX1_programme, wsX1_programme, cX1_programme, 3, (some .int))
def kX1_pulledOf : Mt := (yX1_pulledOf, wsX1_pulledOf, cX1_pulledOf, 4, (some .int))
def kX1_pupil : Mt := (yX1_pupil, wsX1_pupil, cX1_pupil, 5, (some .int))
def kX1_reach : Mt := (yX1_reach, wsX1_reach, cX1_reach, 6, (some .int))
def kX1_rest : Mt := (yX1_rest, wsX1_rest, cX1_rest, 3, (some .int))
def kX1_rule : Mt := (yX1_rule, wsX1_rule, cX1_rule, 4, (some .int))
def kX1_score : Mt := (yX1_score, wsX1_score, cX1_score, 4, (some .int))
def kX1_scoreOf : Mt := (yX1_scoreOf, wsX1_scoreOf, cX1_scoreOf, 4, (some .int))
def kX1_seek : Mt := (yX1_seek, wsX1_seek, cX1_seek, 9, none)
def kX1_sway : Mt := (yX1_sway, wsX1_sway, cX1_sway, 8, (some .int))
def kX1_total : Mt := (yX1_total, wsX1_total, cX1_total, 2, (some .int))
def kX1_totalOf : Mt := (yX1_totalOf, wsX1_totalOf, cX1_totalOf, 5, (some .int))
def kX1_weight : Mt := (yX1_weight, wsX1_weight, cX1_weight, 4, (some .int))
def kX1_wins : Mt := (yX1_wins, wsX1_wins, cX1_wins, 2, (some .int))
def kX1_winsOf : Mt := (yX1_winsOf, wsX1_winsOf, cX1_winsOf, 7, (some .int))
def kX1_work : Mt := (yX1_work, wsX1_work, cX1_work, 4, (some .int))
def kX1_yes : Mt := (yX1_yes, wsX1_yes, cX1_yes, 7, (some .int))
def kX1_yesOf : Mt := (yX1_yesOf, wsX1_yesOf, cX1_yesOf, 5, (some .int))
theorem kkJ6_bitCount_0f7a4 : Kok kJ6_bitCount_0f7a4 1 := ⟨⟨_, rfl⟩, by decide +kernel, by decide⟩
theorem kkJ6_compare_7cf53 : Kok kJ6_compare_7cf53 2 := ⟨⟨_, rfl⟩, by decide +kernel, by decide⟩
theorem kkJ7_fill_53178 : Kok kJ7_fill_53178 2 := ⟨⟨_, rfl⟩, by decide +kernel, by decide⟩
theorem kkJ9_max_7cf53 : Kok kJ9_max_7cf53 2 := ⟨⟨_, rfl⟩, by decide +kernel, by decide⟩
theorem kkJ9_min_7cf53 : Kok kJ9_min_7cf53 2 := ⟨⟨_, rfl⟩, by decide +kernel, by decide⟩
theorem kkX0_beats : Kok kX0_beats 3 := ⟨⟨_, rfl⟩, by decide +kernel, by decide⟩
theorem kkX0_bitOf : Kok kX0_bitOf 2 := ⟨⟨_, rfl⟩, by decide +kernel, by decide⟩
theorem kkX0_cellOf : Kok kX0_cellOf 3 := ⟨⟨_, rfl⟩, by decide +kernel, by decide⟩
theorem kkX0_choosesFrom : Kok kX0_choosesFrom 4 := ⟨⟨_, rfl⟩, by decide +kernel, by decide⟩
theorem kkX0_chosen : Kok kX0_chosen 1 := ⟨⟨_, rfl⟩, by decide +kernel, by decide⟩
theorem kkX0_clearAll : Kok kX0_clearAll 0 := ⟨⟨_, rfl⟩, by decide +kernel, by decide⟩
theorem kkX0_contest : Kok kX0_contest 2 := ⟨⟨_, rfl⟩, by decide +kernel, by decide⟩
theorem kkX0_count : Kok kX0_count 1 := ⟨⟨_, rfl⟩, by decide +kernel, by decide⟩
theorem kkX0_countMarks : Kok kX0_countMarks 0 := ⟨⟨_, rfl⟩, by decide +kernel, by decide⟩
theorem kkX0_countYeses : Kok kX0_countYeses 2 := ⟨⟨_, rfl⟩, by decide +kernel, by decide⟩
theorem kkX0_countedMark : Kok kX0_countedMark 3 := ⟨⟨_, rfl⟩, by decide +kernel, by decide⟩
theorem kkX0_cutMean : Kok kX0_cutMean 1 := ⟨⟨_, rfl⟩, by decide +kernel, by decide⟩
theorem kkX0_differ : Kok kX0_differ 4 := ⟨⟨_, rfl⟩, by decide +kernel, by decide⟩
theorem kkX0_digest : Kok kX0_digest 0 := ⟨⟨_, rfl⟩, by decide +kernel, by decide⟩
theorem kkX0_drawn : Kok kX0_drawn 2 := ⟨⟨_, rfl⟩, by decide +kernel, by decide⟩
theorem kkX0_duel : Kok kX0_duel 3 := ⟨⟨_, rfl⟩, by decide +kernel, by decide⟩
theorem kkX0_factorial : Kok kX0_factorial 1 := ⟨⟨_, rfl⟩, by decide +kernel, by decide⟩
theorem kkX0_fillFitting : Kok kX0_fillFitting 2 := ⟨⟨_, rfl⟩, by decide +kernel, by decide⟩
theorem kkX0_fillScores : Kok kX0_fillScores 2 := ⟨⟨_, rfl⟩, by decide +kernel, by decide⟩
theorem kkX0_fillScoresIf : Kok kX0_fillScoresIf 5 := ⟨⟨_, rfl⟩, by decide +kernel, by decide⟩
theorem kkX0_fillTotals : Kok kX0_fillTotals 0 := ⟨⟨_, rfl⟩, by decide +kernel, by decide⟩
theorem kkX0_heard : Kok kX0_heard 1 := ⟨⟨_, rfl⟩, by decide +kernel, by decide⟩
theorem kkX0_insertMark : Kok kX0_insertMark 2 := ⟨⟨_, rfl⟩, by decide +kernel, by decide⟩
theorem kkX0_isJuror : Kok kX0_isJuror 1 := ⟨⟨_, rfl⟩, by decide +kernel, by decide⟩
theorem kkX0_isLimit : Kok kX0_isLimit 1 := ⟨⟨_, rfl⟩, by decide +kernel, by decide⟩
theorem kkX0_isMarked : Kok kX0_isMarked 2 := ⟨⟨_, rfl⟩, by decide +kernel, by decide⟩
theorem kkX0_isPlayer : Kok kX0_isPlayer 1 := ⟨⟨_, rfl⟩, by decide +kernel, by decide⟩
theorem kkX0_isPupil : Kok kX0_isPupil 2 := ⟨⟨_, rfl⟩, by decide +kernel, by decide⟩
theorem kkX0_isRound : Kok kX0_isRound 1 := ⟨⟨_, rfl⟩, by decide +kernel, by decide⟩
theorem kkX0_isWay : Kok kX0_isWay 1 := ⟨⟨_, rfl⟩, by decide +kernel, by decide⟩
theorem kkX0_isWithin : Kok kX0_isWithin 3 := ⟨⟨_, rfl⟩, by decide +kernel, by decide⟩
theorem kkX0_isWork : Kok kX0_isWork 1 := ⟨⟨_, rfl⟩, by decide +kernel, by decide⟩
theorem kkX0_last : Kok kX0_last 1 := ⟨⟨_, rfl⟩, by decide +kernel, by decide⟩
theorem kkX0_mark : Kok kX0_mark 4 := ⟨⟨_, rfl⟩, by decide +kernel, by decide⟩
theorem kkX0_meanBetween : Kok kX0_meanBetween 2 := ⟨⟨_, rfl⟩, by decide +kernel, by decide⟩
theorem kkX0_minutesOf : Kok kX0_minutesOf 1 := ⟨⟨_, rfl⟩, by decide +kernel, by decide⟩
theorem kkX0_mixed : Kok kX0_mixed 2 := ⟨⟨_, rfl⟩, by decide +kernel, by decide⟩
theorem kkX0_mixedRound : Kok kX0_mixedRound 2 := ⟨⟨_, rfl⟩, by decide +kernel, by decide⟩
theorem kkX0_mixedRow : Kok kX0_mixedRow 2 := ⟨⟨_, rfl⟩, by decide +kernel, by decide⟩
theorem kkX0_pairScore : Kok kX0_pairScore 2 := ⟨⟨_, rfl⟩, by decide +kernel, by decide⟩
theorem kkX0_passed : Kok kX0_passed 3 := ⟨⟨_, rfl⟩, by decide +kernel, by decide⟩
theorem kkX0_passedBits : Kok kX0_passedBits 3 := ⟨⟨_, rfl⟩, by decide +kernel, by decide⟩
theorem kkX0_passesIn : Kok kX0_passesIn 3 := ⟨⟨_, rfl⟩, by decide +kernel, by decide⟩
theorem kkX0_place : Kok kX0_place 3 := ⟨⟨_, rfl⟩, by decide +kernel, by decide⟩
theorem kkX0_placeIn : Kok kX0_placeIn 2 := ⟨⟨_, rfl⟩, by decide +kernel, by decide⟩
theorem kkX0_plan : Kok kX0_plan 3 := ⟨⟨_, rfl⟩, by decide +kernel, by decide⟩
theorem kkX0_prize : Kok kX0_prize 2 := ⟨⟨_, rfl⟩, by decide +kernel, by decide⟩
theorem kkX0_programme : Kok kX0_programme 2 := ⟨⟨_, rfl⟩, by decide +kernel, by decide⟩
theorem kkX0_programmeCellOf : Kok kX0_programmeCellOf 2 := ⟨⟨_, rfl⟩, by decide +kernel, by decide⟩
theorem kkX0_pulledMean : Kok kX0_pulledMean 1 := ⟨⟨_, rfl⟩, by decide +kernel, by decide⟩
theorem kkX0_pupil : Kok kX0_pupil 3 := ⟨⟨_, rfl⟩, by decide +kernel, by decide⟩
theorem kkX0_pupilCellOf : Kok kX0_pupilCellOf 2 := ⟨⟨_, rfl⟩, by decide +kernel, by decide⟩
theorem kkX0_reach : Kok kX0_reach 5 := ⟨⟨_, rfl⟩, by decide +kernel, by decide⟩
theorem kkX0_replace : Kok kX0_replace 3 := ⟨⟨_, rfl⟩, by decide +kernel, by decide⟩
theorem kkX0_rest : Kok kX0_rest 0 := ⟨⟨_, rfl⟩, by decide +kernel, by decide⟩
theorem kkX0_rule : Kok kX0_rule 2 := ⟨⟨_, rfl⟩, by decide +kernel, by decide⟩
theorem kkX0_score : Kok kX0_score 3 := ⟨⟨_, rfl⟩, by decide +kernel, by decide⟩
theorem kkX0_scoreOf : Kok kX0_scoreOf 3 := ⟨⟨_, rfl⟩, by decide +kernel, by decide⟩
theorem kkX0_shareOf : Kok kX0_shareOf 1 := ⟨⟨_, rfl⟩, by decide +kernel, by decide⟩
theorem kkX0_sortMarks : Kok kX0_sortMarks 2 := ⟨⟨_, rfl⟩, by decide +kernel, by decide⟩
theorem kkX0_sumBetween : Kok kX0_sumBetween 2 := ⟨⟨_, rfl⟩, by decide +kernel, by decide⟩
theorem kkX0_sumOf : Kok kX0_sumOf 1 := ⟨⟨_, rfl⟩, by decide +kernel, by decide⟩
theorem kkX0_sway : Kok kX0_sway 4 := ⟨⟨_, rfl⟩, by decide +kernel, by decide⟩
theorem kkX0_total : Kok kX0_total 1 := ⟨⟨_, rfl⟩, by decide +kernel, by decide⟩
theorem kkX0_totalOf : Kok kX0_totalOf 1 := ⟨⟨_, rfl⟩, by decide +kernel, by decide⟩
theorem kkX0_weight : Kok kX0_weight 2 := ⟨⟨_, rfl⟩, by decide +kernel, by decide⟩
theorem kkX0_wins : Kok kX0_wins 1 := ⟨⟨_, rfl⟩, by decide +kernel, by decide⟩
theorem kkX0_work : Kok kX0_work 2 := ⟨⟨_, rfl⟩, by decide +kernel, by decide⟩
theorem kkX0_yes : Kok kX0_yes 4 := ⟨⟨_, rfl⟩, by decide +kernel, by decide⟩
theorem kkX1_beats : Kok kX1_beats 3 := ⟨⟨_, rfl⟩, by decide +kernel, by decide⟩
theorem kkX1_beatsOf : Kok kX1_beatsOf 3 := ⟨⟨_, rfl⟩, by decide +kernel, by decide⟩
theorem kkX1_begin : Kok kX1_begin 0 := ⟨⟨_, rfl⟩, by decide +kernel, by decide⟩
theorem kkX1_chosen : Kok kX1_chosen 1 := ⟨⟨_, rfl⟩, by decide +kernel, by decide⟩
theorem kkX1_chosenOf : Kok kX1_chosenOf 1 := ⟨⟨_, rfl⟩, by decide +kernel, by decide⟩
theorem kkX1_contest : Kok kX1_contest 2 := ⟨⟨_, rfl⟩, by decide +kernel, by decide⟩
theorem kkX1_count : Kok kX1_count 1 := ⟨⟨_, rfl⟩, by decide +kernel, by decide⟩
theorem kkX1_counts : Kok kX1_counts 3 := ⟨⟨_, rfl⟩, by decide +kernel, by decide⟩
theorem kkX1_cutOf : Kok kX1_cutOf 0 := ⟨⟨_, rfl⟩, by decide +kernel, by decide⟩
theorem kkX1_differ : Kok kX1_differ 4 := ⟨⟨_, rfl⟩, by decide +kernel, by decide⟩
theorem kkX1_digest : Kok kX1_digest 0 := ⟨⟨_, rfl⟩, by decide +kernel, by decide⟩
theorem kkX1_drawn : Kok kX1_drawn 2 := ⟨⟨_, rfl⟩, by decide +kernel, by decide⟩
theorem kkX1_gather : Kok kX1_gather 2 := ⟨⟨_, rfl⟩, by decide +kernel, by decide⟩
theorem kkX1_hasMark : Kok kX1_hasMark 2 := ⟨⟨_, rfl⟩, by decide +kernel, by decide⟩
theorem kkX1_hear : Kok kX1_hear 2 := ⟨⟨_, rfl⟩, by decide +kernel, by decide⟩
theorem kkX1_heard : Kok kX1_heard 1 := ⟨⟨_, rfl⟩, by decide +kernel, by decide⟩
theorem kkX1_in : Kok kX1_in 3 := ⟨⟨_, rfl⟩, by decide +kernel, by decide⟩
theorem kkX1_isJuror : Kok kX1_isJuror 1 := ⟨⟨_, rfl⟩, by decide +kernel, by decide⟩
theorem kkX1_isPlayer : Kok kX1_isPlayer 1 := ⟨⟨_, rfl⟩, by decide +kernel, by decide⟩
theorem kkX1_isRound : Kok kX1_isRound 1 := ⟨⟨_, rfl⟩, by decide +kernel, by decide⟩
theorem kkX1_last : Kok kX1_last 1 := ⟨⟨_, rfl⟩, by decide +kernel, by decide⟩
theorem kkX1_lastOf : Kok kX1_lastOf 1 := ⟨⟨_, rfl⟩, by decide +kernel, by decide⟩
theorem kkX1_mark : Kok kX1_mark 4 := ⟨⟨_, rfl⟩, by decide +kernel, by decide⟩
theorem kkX1_mayBe : Kok kX1_mayBe 4 := ⟨⟨_, rfl⟩, by decide +kernel, by decide⟩
theorem kkX1_mix : Kok kX1_mix 1 := ⟨⟨_, rfl⟩, by decide +kernel, by decide⟩
theorem kkX1_note : Kok kX1_note 4 := ⟨⟨_, rfl⟩, by decide +kernel, by decide⟩
theorem kkX1_pairsOf : Kok kX1_pairsOf 2 := ⟨⟨_, rfl⟩, by decide +kernel, by decide⟩
theorem kkX1_passed : Kok kX1_passed 3 := ⟨⟨_, rfl⟩, by decide +kernel, by decide⟩
theorem kkX1_passedOf : Kok kX1_passedOf 3 := ⟨⟨_, rfl⟩, by decide +kernel, by decide⟩
theorem kkX1_passes : Kok kX1_passes 4 := ⟨⟨_, rfl⟩, by decide +kernel, by decide⟩
theorem kkX1_place : Kok kX1_place 3 := ⟨⟨_, rfl⟩, by decide +kernel, by decide⟩
theorem kkX1_placeOf : Kok kX1_placeOf 3 := ⟨⟨_, rfl⟩, by decide +kernel, by decide⟩
theorem kkX1_plan : Kok kX1_plan 3 := ⟨⟨_, rfl⟩, by decide +kernel, by decide⟩
theorem kkX1_prize : Kok kX1_prize 2 := ⟨⟨_, rfl⟩, by decide +kernel, by decide⟩
theorem kkX1_programme : Kok kX1_programme 2 := ⟨⟨_, rfl⟩, by decide +kernel, by decide⟩
theorem kkX1_pulledOf : Kok kX1_pulledOf 0 := ⟨⟨_, rfl⟩, by decide +kernel, by decide⟩
theorem kkX1_pupil : Kok kX1_pupil 3 := ⟨⟨_, rfl⟩, by decide +kernel, by decide⟩
theorem kkX1_reach : Kok kX1_reach 5 := ⟨⟨_, rfl⟩, by decide +kernel, by decide⟩
theorem kkX1_rest : Kok kX1_rest 0 := ⟨⟨_, rfl⟩, by decide +kernel, by decide⟩
theorem kkX1_rule : Kok kX1_rule 2 := ⟨⟨_, rfl⟩, by decide +kernel, by decide⟩
theorem kkX1_score : Kok kX1_score 3 := ⟨⟨_, rfl⟩, by decide +kernel, by decide⟩
theorem kkX1_scoreOf : Kok kX1_scoreOf 3 := ⟨⟨_, rfl⟩, by decide +kernel, by decide⟩
theorem kkX1_seek : Kok kX1_seek 5 := ⟨⟨_, rfl⟩, by decide +kernel, by decide⟩
theorem kkX1_sway : Kok kX1_sway 4 := ⟨⟨_, rfl⟩, by decide +kernel, by decide⟩
theorem kkX1_total : Kok kX1_total 1 := ⟨⟨_, rfl⟩, by decide +kernel, by decide⟩
theorem kkX1_totalOf : Kok kX1_totalOf 1 := ⟨⟨_, rfl⟩, by decide +kernel, by decide⟩
theorem kkX1_weight : Kok kX1_weight 2 := ⟨⟨_, rfl⟩, by decide +kernel, by decide⟩
theorem kkX1_wins : Kok kX1_wins 1 := ⟨⟨_, rfl⟩, by decide +kernel, by decide⟩
theorem kkX1_winsOf : Kok kX1_winsOf 1 := ⟨⟨_, rfl⟩, by decide +kernel, by decide⟩
theorem kkX1_work : Kok kX1_work 2 := ⟨⟨_, rfl⟩, by decide +kernel, by decide⟩
theorem kkX1_yes : Kok kX1_yes 4 := ⟨⟨_, rfl⟩, by decide +kernel, by decide⟩
theorem kkX1_yesOf : Kok kX1_yesOf 2 := ⟨⟨_, rfl⟩, by decide +kernel, by decide⟩
theorem inX0_choosesFrom : ∀ w ∈ wsX00, w ∈ wsX0_choosesFrom := fun _ h => List.mem_cons_of_mem _ (List.mem_append_right _ h)
theorem inX0_chosen : ∀ w ∈ wsX00, w ∈ wsX0_chosen := fun _ h => List.mem_cons_of_mem _ (List.mem_append_right _ h)
theorem inX0_clearAll : ∀ w ∈ wsX00, w ∈ wsX0_clearAll := fun _ h => List.mem_cons_of_mem _ (List.mem_append_right _ h)
theorem inX0_contest : ∀ w ∈ wsX00, w ∈ wsX0_contest := fun _ h => List.mem_cons_of_mem _ (List.mem_append_right _ h)
theorem inX0_count : ∀ w ∈ wsX00, w ∈ wsX0_count := fun _ h => List.mem_cons_of_mem _ (List.mem_append_right _ h)
theorem inX0_countMarks : ∀ w ∈ wsX00, w ∈ wsX0_countMarks := fun _ h => List.mem_cons_of_mem _ (List.mem_append_right _ h)
theorem inX0_countYeses : ∀ w ∈ wsX00, w ∈ wsX0_countYeses := fun _ h => List.mem_cons_of_mem _ (List.mem_append_right _ h)
theorem inX0_countedMark : ∀ w ∈ wsX00, w ∈ wsX0_countedMark := fun _ h => List.mem_cons_of_mem _ (List.mem_append_right _ h)
theorem inX0_cutMean : ∀ w ∈ wsX00, w ∈ wsX0_cutMean := fun _ h => List.mem_cons_of_mem _ (List.mem_append_right _ h)
theorem inX0_digest : ∀ w ∈ wsX00, w ∈ wsX0_digest := fun _ h => List.mem_cons_of_mem _ (List.mem_append_right _ h)
theorem inX0_drawn : ∀ w ∈ wsX00, w ∈ wsX0_drawn := fun _ h => List.mem_cons_of_mem _ (List.mem_append_right _ h)
theorem inX0_duel : ∀ w ∈ wsX00, w ∈ wsX0_duel := fun _ h => List.mem_cons_of_mem _ (List.mem_append_right _ h)
theorem inX0_fillFitting : ∀ w ∈ wsX00, w ∈ wsX0_fillFitting := fun _ h => List.mem_cons_of_mem _ (List.mem_append_right _ h)
theorem inX0_fillScores : ∀ w ∈ wsX00, w ∈ wsX0_fillScores := fun _ h => List.mem_cons_of_mem _ (List.mem_append_right _ h)
theorem inX0_fillScoresIf : ∀ w ∈ wsX00, w ∈ wsX0_fillScoresIf := fun _ h => List.mem_cons_of_mem _ (List.mem_append_right _ h)
theorem inX0_fillTotals : ∀ w ∈ wsX00, w ∈ wsX0_fillTotals := fun _ h => List.mem_cons_of_mem _ (List.mem_append_right _ h)
theorem inX0_heard : ∀ w ∈ wsX00, w ∈ wsX0_heard := fun _ h => List.mem_cons_of_mem _ (List.mem_append_right _ h)
theorem inX0_insertMark : ∀ w ∈ wsX00, w ∈ wsX0_insertMark := fun _ h => List.mem_cons_of_mem _ (List.mem_append_right _ h)
theorem inX0_isJuror : ∀ w ∈ wsX00, w ∈ wsX0_isJuror := fun _ h => List.mem_cons_of_mem _ (List.mem_append_right _ h)
theorem inX0_isMarked : ∀ w ∈ wsX00, w ∈ wsX0_isMarked := fun _ h => List.mem_cons_of_mem _ (List.mem_append_right _ h)
theorem inX0_isPlayer : ∀ w ∈ wsX00, w ∈ wsX0_isPlayer := fun _ h => List.mem_cons_of_mem _ (List.mem_append_right _ h)
theorem inX0_isPupil : ∀ w ∈ wsX00, w ∈ wsX0_isPupil := fun _ h => List.mem_cons_of_mem _ (List.mem_append_right _ h)
theorem inX0_last : ∀ w ∈ wsX00, w ∈ wsX0_last := fun _ h => List.mem_cons_of_mem _ (List.mem_append_right _ h)
theorem inX0_mark : ∀ w ∈ wsX00, w ∈ wsX0_mark := fun _ h => List.mem_cons_of_mem _ (List.mem_append_right _ h)
theorem inX0_minutesOf : ∀ w ∈ wsX00, w ∈ wsX0_minutesOf := fun _ h => List.mem_cons_of_mem _ (List.mem_append_right _ h)
theorem inX0_mixedRound : ∀ w ∈ wsX00, w ∈ wsX0_mixedRound := fun _ h => List.mem_cons_of_mem _ (List.mem_append_right _ h)
theorem inX0_pairScore : ∀ w ∈ wsX00, w ∈ wsX0_pairScore := fun _ h => List.mem_cons_of_mem _ (List.mem_append_right _ h)
theorem inX0_passedBits : ∀ w ∈ wsX00, w ∈ wsX0_passedBits := fun _ h => List.mem_cons_of_mem _ (List.mem_append_right _ h)
theorem inX0_place : ∀ w ∈ wsX00, w ∈ wsX0_place := fun _ h => List.mem_cons_of_mem _ (List.mem_append_right _ h)
theorem inX0_placeIn : ∀ w ∈ wsX00, w ∈ wsX0_placeIn := fun _ h => List.mem_cons_of_mem _ (List.mem_append_right _ h)
theorem inX0_plan : ∀ w ∈ wsX00, w ∈ wsX0_plan := fun _ h => List.mem_cons_of_mem _ (List.mem_append_right _ h)
theorem inX0_prize : ∀ w ∈ wsX00, w ∈ wsX0_prize := fun _ h => List.mem_cons_of_mem _ (List.mem_append_right _ h)
theorem inX0_programme : ∀ w ∈ wsX00, w ∈ wsX0_programme := fun _ h => List.mem_cons_of_mem _ (List.mem_append_right _ h)
theorem inX0_pulledMean : ∀ w ∈ wsX00, w ∈ wsX0_pulledMean := fun _ h => List.mem_cons_of_mem _ (List.mem_append_right _ h)
theorem inX0_pupil : ∀ w ∈ wsX00, w ∈ wsX0_pupil := fun _ h => List.mem_cons_of_mem _ (List.mem_append_right _ h)
theorem inX0_reach : ∀ w ∈ wsX00, w ∈ wsX0_reach := fun _ h => List.mem_cons_of_mem _ (List.mem_append_right _ h)
theorem inX0_rest : ∀ w ∈ wsX00, w ∈ wsX0_rest := fun _ h => List.mem_cons_of_mem _ (List.mem_append_right _ h)
theorem inX0_rule : ∀ w ∈ wsX00, w ∈ wsX0_rule := fun _ h => List.mem_cons_of_mem _ (List.mem_append_right _ h)
theorem inX0_scoreOf : ∀ w ∈ wsX00, w ∈ wsX0_scoreOf := fun _ h => List.mem_cons_of_mem _ (List.mem_append_right _ h)
theorem inX0_shareOf : ∀ w ∈ wsX00, w ∈ wsX0_shareOf := fun _ h => List.mem_cons_of_mem _ (List.mem_append_right _ h)
theorem inX0_sortMarks : ∀ w ∈ wsX00, w ∈ wsX0_sortMarks := fun _ h => List.mem_cons_of_mem _ (List.mem_append_right _ h)
theorem inX0_sumBetween : ∀ w ∈ wsX00, w ∈ wsX0_sumBetween := fun _ h => List.mem_cons_of_mem _ (List.mem_append_right _ h)
theorem inX0_sway : ∀ w ∈ wsX00, w ∈ wsX0_sway := fun _ h => List.mem_cons_of_mem _ (List.mem_append_right _ h)
theorem inX0_totalOf : ∀ w ∈ wsX00, w ∈ wsX0_totalOf := fun _ h => List.mem_cons_of_mem _ (List.mem_append_right _ h)
theorem inX0_weight : ∀ w ∈ wsX00, w ∈ wsX0_weight := fun _ h => List.mem_cons_of_mem _ (List.mem_append_right _ h)
theorem inX0_work : ∀ w ∈ wsX00, w ∈ wsX0_work := fun _ h => List.mem_cons_of_mem _ (List.mem_append_right _ h)
theorem inX0_yes : ∀ w ∈ wsX00, w ∈ wsX0_yes := fun _ h => List.mem_cons_of_mem _ (List.mem_append_right _ h)
theorem inX1_beatsOf : ∀ w ∈ wsX10, w ∈ wsX1_beatsOf := fun _ h => List.mem_cons_of_mem _ (List.mem_append_right _ h)
theorem inX1_begin : ∀ w ∈ wsX10, w ∈ wsX1_begin := fun _ h => List.mem_cons_of_mem _ (List.mem_append_right _ h)
theorem inX1_chosenOf : ∀ w ∈ wsX10, w ∈ wsX1_chosenOf := fun _ h => List.mem_cons_of_mem _ (List.mem_append_right _ h)
theorem inX1_contest : ∀ w ∈ wsX10, w ∈ wsX1_contest := fun _ h => List.mem_cons_of_mem _ (List.mem_append_right _ h)
theorem inX1_count : ∀ w ∈ wsX10, w ∈ wsX1_count := fun _ h => List.mem_cons_of_mem _ (List.mem_append_right _ h)
theorem inX1_counts : ∀ w ∈ wsX10, w ∈ wsX1_counts := fun _ h => List.mem_cons_of_mem _ (List.mem_append_right _ h)
theorem inX1_cutOf : ∀ w ∈ wsX10, w ∈ wsX1_cutOf := fun _ h => List.mem_cons_of_mem _ (List.mem_append_right _ h)
theorem inX1_differ : ∀ w ∈ wsX10, w ∈ wsX1_differ := fun _ h => List.mem_cons_of_mem _ (List.mem_append_right _ h)
theorem inX1_digest : ∀ w ∈ wsX10, w ∈ wsX1_digest := fun _ h => List.mem_cons_of_mem _ (List.mem_append_right _ h)
theorem inX1_drawn : ∀ w ∈ wsX10, w ∈ wsX1_drawn := fun _ h => List.mem_cons_of_mem _ (List.mem_append_right _ h)
theorem inX1_gather : ∀ w ∈ wsX10, w ∈ wsX1_gather := fun _ h => List.mem_cons_of_mem _ (List.mem_append_right _ h)
theorem inX1_hasMark : ∀ w ∈ wsX10, w ∈ wsX1_hasMark := fun _ h => List.mem_cons_of_mem _ (List.mem_append_right _ h)
theorem inX1_hear : ∀ w ∈ wsX10, w ∈ wsX1_hear := fun _ h => List.mem_cons_of_mem _ (List.mem_append_right _ h)
theorem inX1_heard : ∀ w ∈ wsX10, w ∈ wsX1_heard := fun _ h => List.mem_cons_of_mem _ (List.mem_append_right _ h)
theorem inX1_isJuror : ∀ w ∈ wsX10, w ∈ wsX1_isJuror := fun _ h => List.mem_cons_of_mem _ (List.mem_append_right _ h)
theorem inX1_isPlayer : ∀ w ∈ wsX10, w ∈ wsX1_isPlayer := fun _ h => List.mem_cons_of_mem _ (List.mem_append_right _ h)
theorem inX1_lastOf : ∀ w ∈ wsX10, w ∈ wsX1_lastOf := fun _ h => List.mem_cons_of_mem _ (List.mem_append_right _ h)
theorem inX1_mark : ∀ w ∈ wsX10, w ∈ wsX1_mark := fun _ h => List.mem_cons_of_mem _ (List.mem_append_right _ h)
theorem inX1_mayBe : ∀ w ∈ wsX10, w ∈ wsX1_mayBe := fun _ h => List.mem_cons_of_mem _ (List.mem_append_right _ h)
theorem inX1_mix : ∀ w ∈ wsX10, w ∈ wsX1_mix := fun _ h => List.mem_cons_of_mem _ (List.mem_append_right _ h)
theorem inX1_note : ∀ w ∈ wsX10, w ∈ wsX1_note := fun _ h => List.mem_cons_of_mem _ (List.mem_append_right _ h)
theorem inX1_pairsOf : ∀ w ∈ wsX10, w ∈ wsX1_pairsOf := fun _ h => List.mem_cons_of_mem _ (List.mem_append_right _ h)
theorem inX1_passedOf : ∀ w ∈ wsX10, w ∈ wsX1_passedOf := fun _ h => List.mem_cons_of_mem _ (List.mem_append_right _ h)
theorem inX1_placeOf : ∀ w ∈ wsX10, w ∈ wsX1_placeOf := fun _ h => List.mem_cons_of_mem _ (List.mem_append_right _ h)
theorem inX1_plan : ∀ w ∈ wsX10, w ∈ wsX1_plan := fun _ h => List.mem_cons_of_mem _ (List.mem_append_right _ h)
theorem inX1_prize : ∀ w ∈ wsX10, w ∈ wsX1_prize := fun _ h => List.mem_cons_of_mem _ (List.mem_append_right _ h)
theorem inX1_programme : ∀ w ∈ wsX10, w ∈ wsX1_programme := fun _ h => List.mem_cons_of_mem _ (List.mem_append_right _ h)
theorem inX1_pulledOf : ∀ w ∈ wsX10, w ∈ wsX1_pulledOf := fun _ h => List.mem_cons_of_mem _ (List.mem_append_right _ h)
theorem inX1_pupil : ∀ w ∈ wsX10, w ∈ wsX1_pupil := fun _ h => List.mem_cons_of_mem _ (List.mem_append_right _ h)
theorem inX1_reach : ∀ w ∈ wsX10, w ∈ wsX1_reach := fun _ h => List.mem_cons_of_mem _ (List.mem_append_right _ h)
theorem inX1_rest : ∀ w ∈ wsX10, w ∈ wsX1_rest := fun _ h => List.mem_cons_of_mem _ (List.mem_append_right _ h)
theorem inX1_rule : ∀ w ∈ wsX10, w ∈ wsX1_rule := fun _ h => List.mem_cons_of_mem _ (List.mem_append_right _ h)
theorem inX1_scoreOf : ∀ w ∈ wsX10, w ∈ wsX1_scoreOf := fun _ h => List.mem_cons_of_mem _ (List.mem_append_right _ h)
theorem inX1_seek : ∀ w ∈ wsX10, w ∈ wsX1_seek := fun _ h => List.mem_cons_of_mem _ (List.mem_append_right _ h)
theorem inX1_sway : ∀ w ∈ wsX10, w ∈ wsX1_sway := fun _ h => List.mem_cons_of_mem _ (List.mem_append_right _ h)
theorem inX1_totalOf : ∀ w ∈ wsX10, w ∈ wsX1_totalOf := fun _ h => List.mem_cons_of_mem _ (List.mem_append_right _ h)
theorem inX1_weight : ∀ w ∈ wsX10, w ∈ wsX1_weight := fun _ h => List.mem_cons_of_mem _ (List.mem_append_right _ h)
theorem inX1_winsOf : ∀ w ∈ wsX10, w ∈ wsX1_winsOf := fun _ h => List.mem_cons_of_mem _ (List.mem_append_right _ h)
theorem inX1_work : ∀ w ∈ wsX10, w ∈ wsX1_work := fun _ h => List.mem_cons_of_mem _ (List.mem_append_right _ h)
theorem inX1_yes : ∀ w ∈ wsX10, w ∈ wsX1_yes := fun _ h => List.mem_cons_of_mem _ (List.mem_append_right _ h)
theorem inX1_yesOf : ∀ w ∈ wsX10, w ∈ wsX1_yesOf := fun _ h => List.mem_cons_of_mem _ (List.mem_append_right _ h)
theorem fX0_choosesFrom_7 : Fok GX kX0_choosesFrom 7 0 0 := ⟨GXok, inX0_choosesFrom, GX1, ⟨_, rfl, rfl⟩, rfl, by decide, by decide +kernel⟩
theorem fX0_choosesFrom_41 : Fok GX kX0_choosesFrom 41 10 11 := ⟨GXok, inX0_choosesFrom, GX1, ⟨_, rfl, rfl⟩, rfl, by decide, by decide +kernel⟩
theorem fX0_choosesFrom_44 : Fok GX kX0_choosesFrom 44 11 12 := ⟨GXok, inX0_choosesFrom, GX1, ⟨_, rfl, rfl⟩, rfl, by decide, by decide +kernel⟩
theorem fX0_choosesFrom_56 : Fok GX kX0_choosesFrom 56 15 16 := ⟨GXok, inX0_choosesFrom, GX1, ⟨_, rfl, rfl⟩, rfl, by decide, by decide +kernel⟩
theorem fX0_chosen_44 : Fok GX kX0_chosen 44 11 12 := ⟨GXok, inX0_chosen, GX1, ⟨_, rfl, rfl⟩, rfl, by decide, by decide +kernel⟩
theorem fX0_clearAll_16 : Fok GX kX0_clearAll 16 2 3 := ⟨GXok, inX0_clearAll, GX1, ⟨_, rfl, rfl⟩, rfl, by decide, by decide +kernel⟩
theorem fX0_clearAll_20 : Fok GX kX0_clearAll 20 3 4 := ⟨GXok, inX0_clearAll, GX1, ⟨_, rfl, rfl⟩, rfl, by decide, by decide +kernel⟩
theorem fX0_clearAll_23 : Fok GX kX0_clearAll 23 4 5 := ⟨GXok, inX0_clearAll, GX1, ⟨_, rfl, rfl⟩, rfl, by decide, by decide +kernel⟩
theorem fX0_clearAll_41 : Fok GX kX0_clearAll 41 10 11 := ⟨GXok, inX0_clearAll, GX1, ⟨_, rfl, rfl⟩, rfl, by decide, by decide +kernel⟩
theorem fX0_clearAll_44 : Fok GX kX0_clearAll 44 11 12 := ⟨GXok, inX0_clearAll, GX1, ⟨_, rfl, rfl⟩, rfl, by decide, by decide +kernel⟩
theorem fX0_contest_7 : Fok GX kX0_contest 7 0 0 := ⟨GXok, inX0_contest, GX1, ⟨_, rfl, rfl⟩, rfl, by decide, by decide +kernel⟩
theorem fX0_contest_13 : Fok GX kX0_contest 13 1 0 := ⟨GXok, inX0_contest, GX1, ⟨_, rfl, rfl⟩, rfl, by decide, by decide +kernel⟩
theorem fX0_count_7 : Fok GX kX0_count 7 0 0 := ⟨GXok, inX0_count, GX1, ⟨_, rfl, rfl⟩, rfl, by decide, by decide +kernel⟩
theorem fX0_count_13 : Fok GX kX0_count 13 1 0 := ⟨GXok, inX0_count, GX1, ⟨_, rfl, rfl⟩, rfl, by decide, by decide +kernel⟩
theorem fX0_count_20 : Fok GX kX0_count 20 3 4 := ⟨GXok, inX0_count, GX1, ⟨_, rfl, rfl⟩, rfl, by decide, by decide +kernel⟩
theorem fX0_count_23 : Fok GX kX0_count 23 4 5 := ⟨GXok, inX0_count, GX1, ⟨_, rfl, rfl⟩, rfl, by decide, by decide +kernel⟩
theorem fX0_count_41 : Fok GX kX0_count 41 10 11 := ⟨GXok, inX0_count, GX1, ⟨_, rfl, rfl⟩, rfl, by decide, by decide +kernel⟩
theorem fX0_countMarks_16 : Fok GX kX0_countMarks 16 2 3 := ⟨GXok, inX0_countMarks, GX1, ⟨_, rfl, rfl⟩, rfl, by decide, by decide +kernel⟩
theorem fX0_countYeses_13 : Fok GX kX0_countYeses 13 1 0 := ⟨GXok, inX0_countYeses, GX1, ⟨_, rfl, rfl⟩, rfl, by decide, by decide +kernel⟩
theorem fX0_countYeses_20 : Fok GX kX0_countYeses 20 3 4 := ⟨GXok, inX0_countYeses, GX1, ⟨_, rfl, rfl⟩, rfl, by decide, by decide +kernel⟩
theorem fX0_countedMark_16 : Fok GX kX0_countedMark 16 2 3 := ⟨GXok, inX0_countedMark, GX1, ⟨_, rfl, rfl⟩, rfl, by decide, by decide +kernel⟩
theorem fX0_countedMark_23 : Fok GX kX0_countedMark 23 4 5 := ⟨GXok, inX0_countedMark, GX1, ⟨_, rfl, rfl⟩, rfl, by decide, by decide +kernel⟩
theorem fX0_cutMean_26 : Fok GX kX0_cutMean 26 5 6 := ⟨GXok, inX0_cutMean, GX1, ⟨_, rfl, rfl⟩, rfl, by decide, by decide +kernel⟩
theorem fX0_digest_7 : Fok GX kX0_digest 7 0 0 := ⟨GXok, inX0_digest, GX1, ⟨_, rfl, rfl⟩, rfl, by decide, by decide +kernel⟩
theorem fX0_digest_13 : Fok GX kX0_digest 13 1 0 := ⟨GXok, inX0_digest, GX1, ⟨_, rfl, rfl⟩, rfl, by decide, by decide +kernel⟩
theorem fX0_digest_23 : Fok GX kX0_digest 23 4 5 := ⟨GXok, inX0_digest, GX1, ⟨_, rfl, rfl⟩, rfl, by decide, by decide +kernel⟩
theorem fX0_digest_26 : Fok GX kX0_digest 26 5 6 := ⟨GXok, inX0_digest, GX1, ⟨_, rfl, rfl⟩, rfl, by decide, by decide +kernel⟩
theorem fX0_digest_29 : Fok GX kX0_digest 29 6 7 := ⟨GXok, inX0_digest, GX1, ⟨_, rfl, rfl⟩, rfl, by decide, by decide +kernel⟩
theorem fX0_digest_32 : Fok GX kX0_digest 32 7 8 := ⟨GXok, inX0_digest, GX1, ⟨_, rfl, rfl⟩, rfl, by decide, by decide +kernel⟩
theorem fX0_digest_35 : Fok GX kX0_digest 35 8 9 := ⟨GXok, inX0_digest, GX1, ⟨_, rfl, rfl⟩, rfl, by decide, by decide +kernel⟩
theorem fX0_digest_38 : Fok GX kX0_digest 38 9 10 := ⟨GXok, inX0_digest, GX1, ⟨_, rfl, rfl⟩, rfl, by decide, by decide +kernel⟩
theorem fX0_digest_41 : Fok GX kX0_digest 41 10 11 := ⟨GXok, inX0_digest, GX1, ⟨_, rfl, rfl⟩, rfl, by decide, by decide +kernel⟩
theorem fX0_digest_44 : Fok GX kX0_digest 44 11 12 := ⟨GXok, inX0_digest, GX1, ⟨_, rfl, rfl⟩, rfl, by decide, by decide +kernel⟩
theorem fX0_drawn_7 : Fok GX kX0_drawn 7 0 0 := ⟨GXok, inX0_drawn, GX1, ⟨_, rfl, rfl⟩, rfl, by decide, by decide +kernel⟩
theorem fX0_duel_13 : Fok GX kX0_duel 13 1 0 := ⟨GXok, inX0_duel, GX1, ⟨_, rfl, rfl⟩, rfl, by decide, by decide +kernel⟩
theorem fX0_fillFitting_7 : Fok GX kX0_fillFitting 7 0 0 := ⟨GXok, inX0_fillFitting, GX1, ⟨_, rfl, rfl⟩, rfl, by decide, by decide +kernel⟩
theorem fX0_fillFitting_38 : Fok GX kX0_fillFitting 38 9 10 := ⟨GXok, inX0_fillFitting, GX1, ⟨_, rfl, rfl⟩, rfl, by decide, by decide +kernel⟩
theorem fX0_fillFitting_41 : Fok GX kX0_fillFitting 41 10 11 := ⟨GXok, inX0_fillFitting, GX1, ⟨_, rfl, rfl⟩, rfl, by decide, by decide +kernel⟩
theorem fX0_fillFitting_56 : Fok GX kX0_fillFitting 56 15 16 := ⟨GXok, inX0_fillFitting, GX1, ⟨_, rfl, rfl⟩, rfl, by decide, by decide +kernel⟩
theorem fX0_fillScores_7 : Fok GX kX0_fillScores 7 0 0 := ⟨GXok, inX0_fillScores, GX1, ⟨_, rfl, rfl⟩, rfl, by decide, by decide +kernel⟩
theorem fX0_fillScores_50 : Fok GX kX0_fillScores 50 13 14 := ⟨GXok, inX0_fillScores, GX1, ⟨_, rfl, rfl⟩, rfl, by decide, by decide +kernel⟩
theorem fX0_fillScoresIf_16 : Fok GX kX0_fillScoresIf 16 2 3 := ⟨GXok, inX0_fillScoresIf, GX1, ⟨_, rfl, rfl⟩, rfl, by decide, by decide +kernel⟩
theorem fX0_fillScoresIf_20 : Fok GX kX0_fillScoresIf 20 3 4 := ⟨GXok, inX0_fillScoresIf, GX1, ⟨_, rfl, rfl⟩, rfl, by decide, by decide +kernel⟩
theorem fX0_fillTotals_7 : Fok GX kX0_fillTotals 7 0 0 := ⟨GXok, inX0_fillTotals, GX1, ⟨_, rfl, rfl⟩, rfl, by decide, by decide +kernel⟩
theorem fX0_fillTotals_53 : Fok GX kX0_fillTotals 53 14 15 := ⟨GXok, inX0_fillTotals, GX1, ⟨_, rfl, rfl⟩, rfl, by decide, by decide +kernel⟩
theorem fX0_heard_7 : Fok GX kX0_heard 7 0 0 := ⟨GXok, inX0_heard, GX1, ⟨_, rfl, rfl⟩, rfl, by decide, by decide +kernel⟩
theorem fX0_heard_38 : Fok GX kX0_heard 38 9 10 := ⟨GXok, inX0_heard, GX1, ⟨_, rfl, rfl⟩, rfl, by decide, by decide +kernel⟩
theorem fX0_heard_44 : Fok GX kX0_heard 44 11 12 := ⟨GXok, inX0_heard, GX1, ⟨_, rfl, rfl⟩, rfl, by decide, by decide +kernel⟩
theorem fX0_insertMark_47 : Fok GX kX0_insertMark 47 12 13 := ⟨GXok, inX0_insertMark, GX1, ⟨_, rfl, rfl⟩, rfl, by decide, by decide +kernel⟩
theorem fX0_isJuror_13 : Fok GX kX0_isJuror 13 1 0 := ⟨GXok, inX0_isJuror, GX1, ⟨_, rfl, rfl⟩, rfl, by decide, by decide +kernel⟩
theorem fX0_isMarked_13 : Fok GX kX0_isMarked 13 1 0 := ⟨GXok, inX0_isMarked, GX1, ⟨_, rfl, rfl⟩, rfl, by decide, by decide +kernel⟩
theorem fX0_isPlayer_7 : Fok GX kX0_isPlayer 7 0 0 := ⟨GXok, inX0_isPlayer, GX1, ⟨_, rfl, rfl⟩, rfl, by decide, by decide +kernel⟩
theorem fX0_isPupil_23 : Fok GX kX0_isPupil 23 4 5 := ⟨GXok, inX0_isPupil, GX1, ⟨_, rfl, rfl⟩, rfl, by decide, by decide +kernel⟩
theorem fX0_last_53 : Fok GX kX0_last 53 14 15 := ⟨GXok, inX0_last, GX1, ⟨_, rfl, rfl⟩, rfl, by decide, by decide +kernel⟩
theorem fX0_mark_16 : Fok GX kX0_mark 16 2 3 := ⟨GXok, inX0_mark, GX1, ⟨_, rfl, rfl⟩, rfl, by decide, by decide +kernel⟩
theorem fX0_minutesOf_35 : Fok GX kX0_minutesOf 35 8 9 := ⟨GXok, inX0_minutesOf, GX1, ⟨_, rfl, rfl⟩, rfl, by decide, by decide +kernel⟩
theorem fX0_mixedRound_7 : Fok GX kX0_mixedRound 7 0 0 := ⟨GXok, inX0_mixedRound, GX1, ⟨_, rfl, rfl⟩, rfl, by decide, by decide +kernel⟩
theorem fX0_mixedRound_13 : Fok GX kX0_mixedRound 13 1 0 := ⟨GXok, inX0_mixedRound, GX1, ⟨_, rfl, rfl⟩, rfl, by decide, by decide +kernel⟩
theorem fX0_mixedRound_16 : Fok GX kX0_mixedRound 16 2 3 := ⟨GXok, inX0_mixedRound, GX1, ⟨_, rfl, rfl⟩, rfl, by decide, by decide +kernel⟩
theorem fX0_mixedRound_20 : Fok GX kX0_mixedRound 20 3 4 := ⟨GXok, inX0_mixedRound, GX1, ⟨_, rfl, rfl⟩, rfl, by decide, by decide +kernel⟩
theorem fX0_pairScore_7 : Fok GX kX0_pairScore 7 0 0 := ⟨GXok, inX0_pairScore, GX1, ⟨_, rfl, rfl⟩, rfl, by decide, by decide +kernel⟩
theorem fX0_passedBits_7 : Fok GX kX0_passedBits 7 0 0 := ⟨GXok, inX0_passedBits, GX1, ⟨_, rfl, rfl⟩, rfl, by decide, by decide +kernel⟩
theorem fX0_passedBits_50 : Fok GX kX0_passedBits 50 13 14 := ⟨GXok, inX0_passedBits, GX1, ⟨_, rfl, rfl⟩, rfl, by decide, by decide +kernel⟩
theorem fX0_place_50 : Fok GX kX0_place 50 13 14 := ⟨GXok, inX0_place, GX1, ⟨_, rfl, rfl⟩, rfl, by decide, by decide +kernel⟩
theorem fX0_placeIn_7 : Fok GX kX0_placeIn 7 0 0 := ⟨GXok, inX0_placeIn, GX1, ⟨_, rfl, rfl⟩, rfl, by decide, by decide +kernel⟩
theorem fX0_plan_44 : Fok GX kX0_plan 44 11 12 := ⟨GXok, inX0_plan, GX1, ⟨_, rfl, rfl⟩, rfl, by decide, by decide +kernel⟩
theorem fX0_prize_32 : Fok GX kX0_prize 32 7 8 := ⟨GXok, inX0_prize, GX1, ⟨_, rfl, rfl⟩, rfl, by decide, by decide +kernel⟩
theorem fX0_programme_38 : Fok GX kX0_programme 38 9 10 := ⟨GXok, inX0_programme, GX1, ⟨_, rfl, rfl⟩, rfl, by decide, by decide +kernel⟩
theorem fX0_programme_41 : Fok GX kX0_programme 41 10 11 := ⟨GXok, inX0_programme, GX1, ⟨_, rfl, rfl⟩, rfl, by decide, by decide +kernel⟩
theorem fX0_pulledMean_26 : Fok GX kX0_pulledMean 26 5 6 := ⟨GXok, inX0_pulledMean, GX1, ⟨_, rfl, rfl⟩, rfl, by decide, by decide +kernel⟩
theorem fX0_pulledMean_47 : Fok GX kX0_pulledMean 47 12 13 := ⟨GXok, inX0_pulledMean, GX1, ⟨_, rfl, rfl⟩, rfl, by decide, by decide +kernel⟩
theorem fX0_pupil_23 : Fok GX kX0_pupil 23 4 5 := ⟨GXok, inX0_pupil, GX1, ⟨_, rfl, rfl⟩, rfl, by decide, by decide +kernel⟩
theorem fX0_reach_50 : Fok GX kX0_reach 50 13 14 := ⟨GXok, inX0_reach, GX1, ⟨_, rfl, rfl⟩, rfl, by decide, by decide +kernel⟩
theorem fX0_rest_7 : Fok GX kX0_rest 7 0 0 := ⟨GXok, inX0_rest, GX1, ⟨_, rfl, rfl⟩, rfl, by decide, by decide +kernel⟩
theorem fX0_rest_32 : Fok GX kX0_rest 32 7 8 := ⟨GXok, inX0_rest, GX1, ⟨_, rfl, rfl⟩, rfl, by decide, by decide +kernel⟩
theorem fX0_rule_26 : Fok GX kX0_rule 26 5 6 := ⟨GXok, inX0_rule, GX1, ⟨_, rfl, rfl⟩, rfl, by decide, by decide +kernel⟩
theorem fX0_scoreOf_47 : Fok GX kX0_scoreOf 47 12 13 := ⟨GXok, inX0_scoreOf, GX1, ⟨_, rfl, rfl⟩, rfl, by decide, by decide +kernel⟩
theorem fX0_shareOf_7 : Fok GX kX0_shareOf 7 0 0 := ⟨GXok, inX0_shareOf, GX1, ⟨_, rfl, rfl⟩, rfl, by decide, by decide +kernel⟩
theorem fX0_shareOf_32 : Fok GX kX0_shareOf 32 7 8 := ⟨GXok, inX0_shareOf, GX1, ⟨_, rfl, rfl⟩, rfl, by decide, by decide +kernel⟩
theorem fX0_shareOf_53 : Fok GX kX0_shareOf 53 14 15 := ⟨GXok, inX0_shareOf, GX1, ⟨_, rfl, rfl⟩, rfl, by decide, by decide +kernel⟩
theorem fX0_sortMarks_13 : Fok GX kX0_sortMarks 13 1 0 := ⟨GXok, inX0_sortMarks, GX1, ⟨_, rfl, rfl⟩, rfl, by decide, by decide +kernel⟩
theorem fX0_sumBetween_47 : Fok GX kX0_sumBetween 47 12 13 := ⟨GXok, inX0_sumBetween, GX1, ⟨_, rfl, rfl⟩, rfl, by decide, by decide +kernel⟩
theorem fX0_sway_7 : Fok GX kX0_sway 7 0 0 := ⟨GXok, inX0_sway, GX1, ⟨_, rfl, rfl⟩, rfl, by decide, by decide +kernel⟩
theorem fX0_sway_50 : Fok GX kX0_sway 50 13 14 := ⟨GXok, inX0_sway, GX1, ⟨_, rfl, rfl⟩, rfl, by decide, by decide +kernel⟩
theorem fX0_totalOf_29 : Fok GX kX0_totalOf 29 6 7 := ⟨GXok, inX0_totalOf, GX1, ⟨_, rfl, rfl⟩, rfl, by decide, by decide +kernel⟩
theorem fX0_weight_29 : Fok GX kX0_weight 29 6 7 := ⟨GXok, inX0_weight, GX1, ⟨_, rfl, rfl⟩, rfl, by decide, by decide +kernel⟩
theorem fX0_work_35 : Fok GX kX0_work 35 8 9 := ⟨GXok, inX0_work, GX1, ⟨_, rfl, rfl⟩, rfl, by decide, by decide +kernel⟩
theorem fX0_yes_20 : Fok GX kX0_yes 20 3 4 := ⟨GXok, inX0_yes, GX1, ⟨_, rfl, rfl⟩, rfl, by decide, by decide +kernel⟩
theorem fX1_beatsOf_13 : Fok GM kX1_beatsOf 13 1 0 := ⟨GMok, inX1_beatsOf, GM1, ⟨_, rfl, rfl⟩, rfl, by decide, by decide +kernel⟩
theorem fX1_beatsOf_16 : Fok GM kX1_beatsOf 16 2 3 := ⟨GMok, inX1_beatsOf, GM1, ⟨_, rfl, rfl⟩, rfl, by decide, by decide +kernel⟩
theorem fX1_begin_16 : Fok GM kX1_begin 16 2 3 := ⟨GMok, inX1_begin, GM1, ⟨_, rfl, rfl⟩, rfl, by decide, by decide +kernel⟩
theorem fX1_begin_20 : Fok GM kX1_begin 20 3 4 := ⟨GMok, inX1_begin, GM1, ⟨_, rfl, rfl⟩, rfl, by decide, by decide +kernel⟩
theorem fX1_begin_24 : Fok GM kX1_begin 24 4 5 := ⟨GMok, inX1_begin, GM1, ⟨_, rfl, rfl⟩, rfl, by decide, by decide +kernel⟩
theorem fX1_begin_42 : Fok GM kX1_begin 42 10 9 := ⟨GMok, inX1_begin, GM1, ⟨_, rfl, rfl⟩, rfl, by decide, by decide +kernel⟩
theorem fX1_begin_60 : Fok GM kX1_begin 60 12 0 := ⟨GMok, inX1_begin, GM1, ⟨_, rfl, rfl⟩, rfl, by decide, by decide +kernel⟩
theorem fX1_chosenOf_48 : Fok GM kX1_chosenOf 48 13 11 := ⟨GMok, inX1_chosenOf, GM1, ⟨_, rfl, rfl⟩, rfl, by decide, by decide +kernel⟩
theorem fX1_chosenOf_60 : Fok GM kX1_chosenOf 60 12 0 := ⟨GMok, inX1_chosenOf, GM1, ⟨_, rfl, rfl⟩, rfl, by decide, by decide +kernel⟩
theorem fX1_contest_7 : Fok GM kX1_contest 7 0 0 := ⟨GMok, inX1_contest, GM1, ⟨_, rfl, rfl⟩, rfl, by decide, by decide +kernel⟩
theorem fX1_contest_13 : Fok GM kX1_contest 13 1 0 := ⟨GMok, inX1_contest, GM1, ⟨_, rfl, rfl⟩, rfl, by decide, by decide +kernel⟩
theorem fX1_count_7 : Fok GM kX1_count 7 0 0 := ⟨GMok, inX1_count, GM1, ⟨_, rfl, rfl⟩, rfl, by decide, by decide +kernel⟩
theorem fX1_count_13 : Fok GM kX1_count 13 1 0 := ⟨GMok, inX1_count, GM1, ⟨_, rfl, rfl⟩, rfl, by decide, by decide +kernel⟩
theorem fX1_count_16 : Fok GM kX1_count 16 2 3 := ⟨GMok, inX1_count, GM1, ⟨_, rfl, rfl⟩, rfl, by decide, by decide +kernel⟩
theorem fX1_count_20 : Fok GM kX1_count 20 3 4 := ⟨GMok, inX1_count, GM1, ⟨_, rfl, rfl⟩, rfl, by decide, by decide +kernel⟩
theorem fX1_count_24 : Fok GM kX1_count 24 4 5 := ⟨GMok, inX1_count, GM1, ⟨_, rfl, rfl⟩, rfl, by decide, by decide +kernel⟩
theorem fX1_count_42 : Fok GM kX1_count 42 10 9 := ⟨GMok, inX1_count, GM1, ⟨_, rfl, rfl⟩, rfl, by decide, by decide +kernel⟩
theorem fX1_counts_16 : Fok GM kX1_counts 16 2 3 := ⟨GMok, inX1_counts, GM1, ⟨_, rfl, rfl⟩, rfl, by decide, by decide +kernel⟩
theorem fX1_counts_24 : Fok GM kX1_counts 24 4 5 := ⟨GMok, inX1_counts, GM1, ⟨_, rfl, rfl⟩, rfl, by decide, by decide +kernel⟩
theorem fX1_cutOf_27 : Fok GM kX1_cutOf 27 5 0 := ⟨GMok, inX1_cutOf, GM1, ⟨_, rfl, rfl⟩, rfl, by decide, by decide +kernel⟩
theorem fX1_cutOf_51 : Fok GM kX1_cutOf 51 16 12 := ⟨GMok, inX1_cutOf, GM1, ⟨_, rfl, rfl⟩, rfl, by decide, by decide +kernel⟩
theorem fX1_cutOf_78 : Fok GM kX1_cutOf 78 14 0 := ⟨GMok, inX1_cutOf, GM1, ⟨_, rfl, rfl⟩, rfl, by decide, by decide +kernel⟩
theorem fX1_differ_7 : Fok GM kX1_differ 7 0 0 := ⟨GMok, inX1_differ, GM1, ⟨_, rfl, rfl⟩, rfl, by decide, by decide +kernel⟩
theorem fX1_digest_7 : Fok GM kX1_digest 7 0 0 := ⟨GMok, inX1_digest, GM1, ⟨_, rfl, rfl⟩, rfl, by decide, by decide +kernel⟩
theorem fX1_digest_13 : Fok GM kX1_digest 13 1 0 := ⟨GMok, inX1_digest, GM1, ⟨_, rfl, rfl⟩, rfl, by decide, by decide +kernel⟩
theorem fX1_digest_16 : Fok GM kX1_digest 16 2 3 := ⟨GMok, inX1_digest, GM1, ⟨_, rfl, rfl⟩, rfl, by decide, by decide +kernel⟩
theorem fX1_digest_20 : Fok GM kX1_digest 20 3 4 := ⟨GMok, inX1_digest, GM1, ⟨_, rfl, rfl⟩, rfl, by decide, by decide +kernel⟩
theorem fX1_digest_24 : Fok GM kX1_digest 24 4 5 := ⟨GMok, inX1_digest, GM1, ⟨_, rfl, rfl⟩, rfl, by decide, by decide +kernel⟩
theorem fX1_digest_27 : Fok GM kX1_digest 27 5 0 := ⟨GMok, inX1_digest, GM1, ⟨_, rfl, rfl⟩, rfl, by decide, by decide +kernel⟩
theorem fX1_digest_30 : Fok GM kX1_digest 30 6 0 := ⟨GMok, inX1_digest, GM1, ⟨_, rfl, rfl⟩, rfl, by decide, by decide +kernel⟩
theorem fX1_digest_33 : Fok GM kX1_digest 33 7 6 := ⟨GMok, inX1_digest, GM1, ⟨_, rfl, rfl⟩, rfl, by decide, by decide +kernel⟩
theorem fX1_digest_36 : Fok GM kX1_digest 36 8 7 := ⟨GMok, inX1_digest, GM1, ⟨_, rfl, rfl⟩, rfl, by decide, by decide +kernel⟩
theorem fX1_digest_39 : Fok GM kX1_digest 39 9 8 := ⟨GMok, inX1_digest, GM1, ⟨_, rfl, rfl⟩, rfl, by decide, by decide +kernel⟩
theorem fX1_digest_42 : Fok GM kX1_digest 42 10 9 := ⟨GMok, inX1_digest, GM1, ⟨_, rfl, rfl⟩, rfl, by decide, by decide +kernel⟩
theorem fX1_digest_45 : Fok GM kX1_digest 45 11 10 := ⟨GMok, inX1_digest, GM1, ⟨_, rfl, rfl⟩, rfl, by decide, by decide +kernel⟩
theorem fX1_digest_170 : Fok GM kX1_digest 170 22 1 := ⟨GMok, inX1_digest, GM1, ⟨_, rfl, rfl⟩, rfl, by decide, by decide +kernel⟩
theorem fX1_drawn_7 : Fok GM kX1_drawn 7 0 0 := ⟨GMok, inX1_drawn, GM1, ⟨_, rfl, rfl⟩, rfl, by decide, by decide +kernel⟩
theorem fX1_gather_13 : Fok GM kX1_gather 13 1 0 := ⟨GMok, inX1_gather, GM1, ⟨_, rfl, rfl⟩, rfl, by decide, by decide +kernel⟩
theorem fX1_gather_16 : Fok GM kX1_gather 16 2 3 := ⟨GMok, inX1_gather, GM1, ⟨_, rfl, rfl⟩, rfl, by decide, by decide +kernel⟩
theorem fX1_gather_51 : Fok GM kX1_gather 51 16 12 := ⟨GMok, inX1_gather, GM1, ⟨_, rfl, rfl⟩, rfl, by decide, by decide +kernel⟩
theorem fX1_gather_78 : Fok GM kX1_gather 78 14 0 := ⟨GMok, inX1_gather, GM1, ⟨_, rfl, rfl⟩, rfl, by decide, by decide +kernel⟩
theorem fX1_gather_81 : Fok GM kX1_gather 81 15 0 := ⟨GMok, inX1_gather, GM1, ⟨_, rfl, rfl⟩, rfl, by decide, by decide +kernel⟩
theorem fX1_hasMark_13 : Fok GM kX1_hasMark 13 1 0 := ⟨GMok, inX1_hasMark, GM1, ⟨_, rfl, rfl⟩, rfl, by decide, by decide +kernel⟩
theorem fX1_hear_54 : Fok GM kX1_hear 54 21 13 := ⟨GMok, inX1_hear, GM1, ⟨_, rfl, rfl⟩, rfl, by decide, by decide +kernel⟩
theorem fX1_heard_54 : Fok GM kX1_heard 54 21 13 := ⟨GMok, inX1_heard, GM1, ⟨_, rfl, rfl⟩, rfl, by decide, by decide +kernel⟩
theorem fX1_heard_60 : Fok GM kX1_heard 60 12 0 := ⟨GMok, inX1_heard, GM1, ⟨_, rfl, rfl⟩, rfl, by decide, by decide +kernel⟩
theorem fX1_isJuror_13 : Fok GM kX1_isJuror 13 1 0 := ⟨GMok, inX1_isJuror, GM1, ⟨_, rfl, rfl⟩, rfl, by decide, by decide +kernel⟩
theorem fX1_isPlayer_7 : Fok GM kX1_isPlayer 7 0 0 := ⟨GMok, inX1_isPlayer, GM1, ⟨_, rfl, rfl⟩, rfl, by decide, by decide +kernel⟩
theorem fX1_lastOf_7 : Fok GM kX1_lastOf 7 0 0 := ⟨GMok, inX1_lastOf, GM1, ⟨_, rfl, rfl⟩, rfl, by decide, by decide +kernel⟩
theorem fX1_mark_16 : Fok GM kX1_mark 16 2 3 := ⟨GMok, inX1_mark, GM1, ⟨_, rfl, rfl⟩, rfl, by decide, by decide +kernel⟩
theorem fX1_mayBe_39 : Fok GM kX1_mayBe 39 9 8 := ⟨GMok, inX1_mayBe, GM1, ⟨_, rfl, rfl⟩, rfl, by decide, by decide +kernel⟩
theorem fX1_mayBe_54 : Fok GM kX1_mayBe 54 21 13 := ⟨GMok, inX1_mayBe, GM1, ⟨_, rfl, rfl⟩, rfl, by decide, by decide +kernel⟩
theorem fX1_mix_170 : Fok GM kX1_mix 170 22 1 := ⟨GMok, inX1_mix, GM1, ⟨_, rfl, rfl⟩, rfl, by decide, by decide +kernel⟩
theorem fX1_note_128 : Fok GM kX1_note 128 17 0 := ⟨GMok, inX1_note, GM1, ⟨_, rfl, rfl⟩, rfl, by decide, by decide +kernel⟩
theorem fX1_note_131 : Fok GM kX1_note 131 18 0 := ⟨GMok, inX1_note, GM1, ⟨_, rfl, rfl⟩, rfl, by decide, by decide +kernel⟩
theorem fX1_note_134 : Fok GM kX1_note 134 19 0 := ⟨GMok, inX1_note, GM1, ⟨_, rfl, rfl⟩, rfl, by decide, by decide +kernel⟩
theorem fX1_note_137 : Fok GM kX1_note 137 20 0 := ⟨GMok, inX1_note, GM1, ⟨_, rfl, rfl⟩, rfl, by decide, by decide +kernel⟩
theorem fX1_pairsOf_7 : Fok GM kX1_pairsOf 7 0 0 := ⟨GMok, inX1_pairsOf, GM1, ⟨_, rfl, rfl⟩, rfl, by decide, by decide +kernel⟩
theorem fX1_passedOf_7 : Fok GM kX1_passedOf 7 0 0 := ⟨GMok, inX1_passedOf, GM1, ⟨_, rfl, rfl⟩, rfl, by decide, by decide +kernel⟩
theorem fX1_placeOf_7 : Fok GM kX1_placeOf 7 0 0 := ⟨GMok, inX1_placeOf, GM1, ⟨_, rfl, rfl⟩, rfl, by decide, by decide +kernel⟩
theorem fX1_plan_7 : Fok GM kX1_plan 7 0 0 := ⟨GMok, inX1_plan, GM1, ⟨_, rfl, rfl⟩, rfl, by decide, by decide +kernel⟩
theorem fX1_plan_42 : Fok GM kX1_plan 42 10 9 := ⟨GMok, inX1_plan, GM1, ⟨_, rfl, rfl⟩, rfl, by decide, by decide +kernel⟩
theorem fX1_plan_45 : Fok GM kX1_plan 45 11 10 := ⟨GMok, inX1_plan, GM1, ⟨_, rfl, rfl⟩, rfl, by decide, by decide +kernel⟩
theorem fX1_plan_48 : Fok GM kX1_plan 48 13 11 := ⟨GMok, inX1_plan, GM1, ⟨_, rfl, rfl⟩, rfl, by decide, by decide +kernel⟩
theorem fX1_plan_54 : Fok GM kX1_plan 54 21 13 := ⟨GMok, inX1_plan, GM1, ⟨_, rfl, rfl⟩, rfl, by decide, by decide +kernel⟩
theorem fX1_plan_60 : Fok GM kX1_plan 60 12 0 := ⟨GMok, inX1_plan, GM1, ⟨_, rfl, rfl⟩, rfl, by decide, by decide +kernel⟩
theorem fX1_prize_36 : Fok GM kX1_prize 36 8 7 := ⟨GMok, inX1_prize, GM1, ⟨_, rfl, rfl⟩, rfl, by decide, by decide +kernel⟩
theorem fX1_programme_42 : Fok GM kX1_programme 42 10 9 := ⟨GMok, inX1_programme, GM1, ⟨_, rfl, rfl⟩, rfl, by decide, by decide +kernel⟩
theorem fX1_programme_45 : Fok GM kX1_programme 45 11 10 := ⟨GMok, inX1_programme, GM1, ⟨_, rfl, rfl⟩, rfl, by decide, by decide +kernel⟩
theorem fX1_pulledOf_30 : Fok GM kX1_pulledOf 30 6 0 := ⟨GMok, inX1_pulledOf, GM1, ⟨_, rfl, rfl⟩, rfl, by decide, by decide +kernel⟩
theorem fX1_pulledOf_51 : Fok GM kX1_pulledOf 51 16 12 := ⟨GMok, inX1_pulledOf, GM1, ⟨_, rfl, rfl⟩, rfl, by decide, by decide +kernel⟩
theorem fX1_pulledOf_78 : Fok GM kX1_pulledOf 78 14 0 := ⟨GMok, inX1_pulledOf, GM1, ⟨_, rfl, rfl⟩, rfl, by decide, by decide +kernel⟩
theorem fX1_pulledOf_81 : Fok GM kX1_pulledOf 81 15 0 := ⟨GMok, inX1_pulledOf, GM1, ⟨_, rfl, rfl⟩, rfl, by decide, by decide +kernel⟩
theorem fX1_pupil_24 : Fok GM kX1_pupil 24 4 5 := ⟨GMok, inX1_pupil, GM1, ⟨_, rfl, rfl⟩, rfl, by decide, by decide +kernel⟩
theorem fX1_reach_24 : Fok GM kX1_reach 24 4 5 := ⟨GMok, inX1_reach, GM1, ⟨_, rfl, rfl⟩, rfl, by decide, by decide +kernel⟩
theorem fX1_reach_128 : Fok GM kX1_reach 128 17 0 := ⟨GMok, inX1_reach, GM1, ⟨_, rfl, rfl⟩, rfl, by decide, by decide +kernel⟩
theorem fX1_reach_131 : Fok GM kX1_reach 131 18 0 := ⟨GMok, inX1_reach, GM1, ⟨_, rfl, rfl⟩, rfl, by decide, by decide +kernel⟩
theorem fX1_rest_7 : Fok GM kX1_rest 7 0 0 := ⟨GMok, inX1_rest, GM1, ⟨_, rfl, rfl⟩, rfl, by decide, by decide +kernel⟩
theorem fX1_rest_36 : Fok GM kX1_rest 36 8 7 := ⟨GMok, inX1_rest, GM1, ⟨_, rfl, rfl⟩, rfl, by decide, by decide +kernel⟩
theorem fX1_rule_27 : Fok GM kX1_rule 27 5 0 := ⟨GMok, inX1_rule, GM1, ⟨_, rfl, rfl⟩, rfl, by decide, by decide +kernel⟩
theorem fX1_rule_30 : Fok GM kX1_rule 30 6 0 := ⟨GMok, inX1_rule, GM1, ⟨_, rfl, rfl⟩, rfl, by decide, by decide +kernel⟩
theorem fX1_scoreOf_51 : Fok GM kX1_scoreOf 51 16 12 := ⟨GMok, inX1_scoreOf, GM1, ⟨_, rfl, rfl⟩, rfl, by decide, by decide +kernel⟩
theorem fX1_scoreOf_78 : Fok GM kX1_scoreOf 78 14 0 := ⟨GMok, inX1_scoreOf, GM1, ⟨_, rfl, rfl⟩, rfl, by decide, by decide +kernel⟩
theorem fX1_scoreOf_81 : Fok GM kX1_scoreOf 81 15 0 := ⟨GMok, inX1_scoreOf, GM1, ⟨_, rfl, rfl⟩, rfl, by decide, by decide +kernel⟩
theorem fX1_seek_16 : Fok GM kX1_seek 16 2 3 := ⟨GMok, inX1_seek, GM1, ⟨_, rfl, rfl⟩, rfl, by decide, by decide +kernel⟩
theorem fX1_seek_20 : Fok GM kX1_seek 20 3 4 := ⟨GMok, inX1_seek, GM1, ⟨_, rfl, rfl⟩, rfl, by decide, by decide +kernel⟩
theorem fX1_seek_128 : Fok GM kX1_seek 128 17 0 := ⟨GMok, inX1_seek, GM1, ⟨_, rfl, rfl⟩, rfl, by decide, by decide +kernel⟩
theorem fX1_seek_131 : Fok GM kX1_seek 131 18 0 := ⟨GMok, inX1_seek, GM1, ⟨_, rfl, rfl⟩, rfl, by decide, by decide +kernel⟩
theorem fX1_seek_134 : Fok GM kX1_seek 134 19 0 := ⟨GMok, inX1_seek, GM1, ⟨_, rfl, rfl⟩, rfl, by decide, by decide +kernel⟩
theorem fX1_seek_137 : Fok GM kX1_seek 137 20 0 := ⟨GMok, inX1_seek, GM1, ⟨_, rfl, rfl⟩, rfl, by decide, by decide +kernel⟩
theorem fX1_sway_7 : Fok GM kX1_sway 7 0 0 := ⟨GMok, inX1_sway, GM1, ⟨_, rfl, rfl⟩, rfl, by decide, by decide +kernel⟩
theorem fX1_sway_24 : Fok GM kX1_sway 24 4 5 := ⟨GMok, inX1_sway, GM1, ⟨_, rfl, rfl⟩, rfl, by decide, by decide +kernel⟩
theorem fX1_sway_134 : Fok GM kX1_sway 134 19 0 := ⟨GMok, inX1_sway, GM1, ⟨_, rfl, rfl⟩, rfl, by decide, by decide +kernel⟩
theorem fX1_sway_137 : Fok GM kX1_sway 137 20 0 := ⟨GMok, inX1_sway, GM1, ⟨_, rfl, rfl⟩, rfl, by decide, by decide +kernel⟩
theorem fX1_totalOf_33 : Fok GM kX1_totalOf 33 7 6 := ⟨GMok, inX1_totalOf, GM1, ⟨_, rfl, rfl⟩, rfl, by decide, by decide +kernel⟩
theorem fX1_weight_33 : Fok GM kX1_weight 33 7 6 := ⟨GMok, inX1_weight, GM1, ⟨_, rfl, rfl⟩, rfl, by decide, by decide +kernel⟩
theorem fX1_winsOf_7 : Fok GM kX1_winsOf 7 0 0 := ⟨GMok, inX1_winsOf, GM1, ⟨_, rfl, rfl⟩, rfl, by decide, by decide +kernel⟩
theorem fX1_winsOf_36 : Fok GM kX1_winsOf 36 8 7 := ⟨GMok, inX1_winsOf, GM1, ⟨_, rfl, rfl⟩, rfl, by decide, by decide +kernel⟩
theorem fX1_work_39 : Fok GM kX1_work 39 9 8 := ⟨GMok, inX1_work, GM1, ⟨_, rfl, rfl⟩, rfl, by decide, by decide +kernel⟩
theorem fX1_yes_20 : Fok GM kX1_yes 20 3 4 := ⟨GMok, inX1_yes, GM1, ⟨_, rfl, rfl⟩, rfl, by decide, by decide +kernel⟩
theorem fX1_yesOf_13 : Fok GM kX1_yesOf 13 1 0 := ⟨GMok, inX1_yesOf, GM1, ⟨_, rfl, rfl⟩, rfl, by decide, by decide +kernel⟩
theorem fX1_yesOf_20 : Fok GM kX1_yesOf 20 3 4 := ⟨GMok, inX1_yesOf, GM1, ⟨_, rfl, rfl⟩, rfl, by decide, by decide +kernel⟩
theorem fX1_yesOf_78 : Fok GM kX1_yesOf 78 14 0 := ⟨GMok, inX1_yesOf, GM1, ⟨_, rfl, rfl⟩, rfl, by decide, by decide +kernel⟩
theorem cnX0_digest_172 : Jvm.Cond.constantLong RX0 172 (193) ∈ wsX0_digest := by decide +kernel
theorem cnX0_meanBetween_196 : Jvm.Cond.constant RX0 196 (176400) ∈ wsX0_meanBetween := by decide +kernel
theorem cnX0_mixed_232 : Jvm.Cond.constantLong RX0 232 (31) ∈ wsX0_mixed := by decide +kernel
theorem cnX0_prize_141 : Jvm.Cond.constant RX0 141 (1000000) ∈ wsX0_prize := by decide +kernel
theorem cnX0_pulledMean_196 : Jvm.Cond.constant RX0 196 (176400) ∈ wsX0_pulledMean := by decide +kernel
theorem cnX0_scoreOf_195 : Jvm.Cond.constant RX0 195 (88200) ∈ wsX0_scoreOf := by decide +kernel
theorem cnX0_scoreOf_196 : Jvm.Cond.constant RX0 196 (176400) ∈ wsX0_scoreOf := by decide +kernel
theorem cnX1_cutOf_87 : Jvm.Cond.constant RX1 87 (176400) ∈ wsX1_cutOf := by decide +kernel
theorem cnX1_digest_174 : Jvm.Cond.constantLong RX1 174 (193) ∈ wsX1_digest := by decide +kernel
theorem cnX1_mix_168 : Jvm.Cond.constantLong RX1 168 (31) ∈ wsX1_mix := by decide +kernel
theorem cnX1_prize_155 : Jvm.Cond.constant RX1 155 (1000000) ∈ wsX1_prize := by decide +kernel
theorem cnX1_pulledOf_87 : Jvm.Cond.constant RX1 87 (176400) ∈ wsX1_pulledOf := by decide +kernel
theorem cnX1_scoreOf_87 : Jvm.Cond.constant RX1 87 (176400) ∈ wsX1_scoreOf := by decide +kernel
theorem cnX1_scoreOf_104 : Jvm.Cond.constant RX1 104 (88200) ∈ wsX1_scoreOf := by decide +kernel
theorem cnX1_yesOf_87 : Jvm.Cond.constant RX1 87 (176400) ∈ wsX1_yesOf := by decide +kernel
end
section
/-! PURE NUMBERS: sums, folds, sorted marks, scores, places -/
theorem st_ind {P : Nat → Prop} (h : ∀ n, (∀ m, m < n → P m) → P n) (n : Nat) : P n := Nat.strongRecOn n h
def smN (f : Int → Int) : Int → Nat → Int
  | _, 0 => 0
  | a, n + 1 => f a + smN f (a + 1) n
def sm (f : Int → Int) (a b : Int) : Int := smN f a (b - a).toNat
theorem sm_ge {f : Int → Int} {a b : Int} (h : b ≤ a) : sm f a b = 0 := by
  unfold sm
  rw [show (b - a).toNat = 0 by omega]
  rfl
theorem sm_lt {f : Int → Int} {a b : Int} (h : a < b) : sm f a b = f a + sm f (a + 1) b := by
  unfold sm
  rw [show (b - a).toNat = (b - (a + 1)).toNat + 1 by omega]
  rfl
theorem sm_ind {P : Int → Prop} (b : Int) (h0 : ∀ a, b ≤ a → P a) (hs : ∀ a, a < b → P (a + 1) → P a) : ∀ a, P a := by
  have h : ∀ (n : Nat) (a : Int), (b - a).toNat = n → P a := by
    refine st_ind (fun n ih => ?_)
    intro a ha
    by_cases hab : b ≤ a
    · exact h0 a hab
    · exact hs a (by omega) (ih (b - (a + 1)).toNat (by omega) (a + 1) rfl)
  intro a
  exact h _ a rfl
theorem sm_last {f : Int → Int} {b : Int} : ∀ a, a ≤ b → sm f a (b + 1) = sm f a b + f b := by
  refine sm_ind b (fun a h h2 => ?_) (fun a h ih h2 => ?_)
  · have : a = b := by omega
    subst this
    rw [sm_lt (by omega), sm_ge (show a + 1 ≤ a + 1 by omega), sm_ge (show a ≤ a by omega)]
    omega
  · rw [sm_lt (show a < b + 1 by omega), sm_lt h, ih (by omega)]
    omega
theorem sm_congr {f g : Int → Int} {b : Int} : ∀ a, (∀ i, a ≤ i → i < b → f i = g i) → sm f a b = sm g a b := by
  refine sm_ind b (fun a h _ => ?_) (fun a h ih h2 => ?_)
  · rw [sm_ge h, sm_ge h]
  · rw [sm_lt h, sm_lt h, h2 a (by omega) h, ih (fun i h3 h4 => h2 i (by omega) h4)]
theorem sm_le {f g : Int → Int} {b : Int} : ∀ a, (∀ i, a ≤ i → i < b → f i ≤ g i) → sm f a b ≤ sm g a b := by
  refine sm_ind b (fun a h _ => ?_) (fun a h ih h2 => ?_)
  · rw [sm_ge h, sm_ge h]
    omega
  · have h3 := h2 a (by omega) h
    have h4 := ih (fun i h3 h4 => h2 i (by omega) h4)
    rw [sm_lt h, sm_lt h]
    omega
theorem sm_bd {f : Int → Int} {lo hi b : Int} : ∀ a, (∀ i, a ≤ i → i < b → lo ≤ f i ∧ f i ≤ hi) → a ≤ b → lo * (b - a) ≤ sm f a b ∧ sm f a b ≤ hi * (b - a) := by
  refine sm_ind b (fun a h _ h2 => ?_) (fun a h ih h2 _ => ?_)
  · have : a = b := by omega
    subst this
    rw [sm_ge (by omega)]
    simp
  · have h3 := h2 a (by omega) h
    have h4 := ih (fun i h3 h4 => h2 i (by omega) h4) (by omega)
    rw [sm_lt h]
    have e : ∀ c : Int, c * (b - a) = c + c * (b - (a + 1)) := by
      intro c
      rw [show b - a = 1 + (b - (a + 1)) by omega, Int.mul_add, Int.mul_one]
    rw [e, e]
    omega
theorem sm_zero {f : Int → Int} {b : Int} : ∀ a, (∀ i, a ≤ i → i < b → f i = 0) → sm f a b = 0 := by
  refine sm_ind b (fun a h _ => sm_ge h) (fun a h ih h2 => ?_)
  rw [sm_lt h, h2 a (by omega) h, ih (fun i h3 h4 => h2 i (by omega) h4)]
  omega
theorem sm_nonneg {f : Int → Int} {b : Int} : ∀ a, (∀ i, a ≤ i → i < b → 0 ≤ f i) → 0 ≤ sm f a b := by
  refine sm_ind b (fun a h _ => by rw [sm_ge h]; omega) (fun a h ih h2 => ?_)
  have h3 := h2 a (by omega) h
  have h4 := ih (fun i h3 h4 => h2 i (by omega) h4)
  rw [sm_lt h]
  omega
/-- one summand of sums of nothing below 0 -/
theorem sm_one {f : Int → Int} {b j : Int} : ∀ a, (∀ i, a ≤ i → i < b → 0 ≤ f i) → a ≤ j → j < b → f j ≤ sm f a b := by
  refine sm_ind b (fun a h _ h2 h3 => by omega) (fun a h ih h2 h3 h4 => ?_)
  rw [sm_lt h]
  by_cases hj : j = a
  · subst hj
    have := sm_nonneg (f := f) (b := b) (j + 1) (fun i h5 h6 => h2 i (by omega) h6)
    omega
  · have h5 := ih (fun i h5 h6 => h2 i (by omega) h6) (by omega) h4
    have h6 := h2 a (by omega) h
    omega
def foN (g : Int → Int → Int) : Int → Nat → Int → Int
  | _, 0, h => h
  | a, n + 1, h => foN g (a + 1) n (g a h)
def fo (g : Int → Int → Int) (a b h : Int) : Int := foN g a (b - a).toNat h
theorem fo_ge {g : Int → Int → Int} {a b h : Int} (hb : b ≤ a) : fo g a b h = h := by
  unfold fo
  rw [show (b - a).toNat = 0 by omega]
  rfl
theorem fo_lt {g : Int → Int → Int} {a b h : Int} (hb : a < b) : fo g a b h = fo g (a + 1) b (g a h) := by
  unfold fo
  rw [show (b - a).toNat = (b - (a + 1)).toNat + 1 by omega]
  rfl
/-- the sign -/
def sg (z : Int) : Int := if 0 < z then 1 else if z < 0 then -1 else 0
theorem sg_bd (z : Int) : -1 ≤ sg z ∧ sg z ≤ 1 := by
  unfold sg
  split
  · omega
  · split <;> omega
theorem sg_mono {a b : Int} (h : a ≤ b) : sg a ≤ sg b := by
  unfold sg
  split <;> split <;> (try split) <;> (try split) <;> omega
theorem sg_neg (a : Int) : sg (-a) = - sg a := by
  unfold sg
  split <;> split <;> (try split) <;> (try split) <;> omega
/-! the MARKS of one PLAYER that COUNT, by jurors: v j, or -1 -/
def cn (v : Int → Int) (J : Int) : Int := sm (fun j => if v j = -1 then 0 else 1) 0 J
def su (v : Int → Int) (J : Int) : Int := sm (fun j => if v j = -1 then 0 else v j) 0 J
def yn (v y : Int → Int) (J : Int) : Int := sm (fun j => if v j = -1 then 0 else y j) 0 J
/-- the sorted row when a mark came to it -/
def ins (a : Int → Int) (x : Int) : Int → Int := fun i => max (a (i - 1)) (min (a i) x)
def soN (v : Int → Int) : Nat → Int → Int
  | 0 => fun i => if i < 0 then 0 else 1000
  | n + 1 => if v (n : Int) = -1 then soN v n else ins (soN v n) (v (n : Int))
def so (v : Int → Int) (J : Int) : Int → Int := soN v J.toNat
theorem so_0 (v : Int → Int) : so v 0 = fun i => if i < 0 then 0 else 1000 := rfl
theorem so_S {v : Int → Int} {J : Int} (h : 0 ≤ J) : so v (J + 1) = if v J = -1 then so v J else ins (so v J) (v J) := by
  unfold so
  rw [show (J + 1).toNat = J.toNat + 1 by omega]
  show (if v (J.toNat : Int) = -1 then soN v J.toNat else ins (soN v J.toNat) (v (J.toNat : Int))) = _
  rw [show ((J.toNat : Nat) : Int) = J by omega]
/-- sorted, from 0 below the row on, 1000 behind it -/
def Srt (a : Int → Int) (c : Int) : Prop := (∀ i, a i ≤ a (i + 1)) ∧ (∀ i, i < 0 → a i = 0) ∧ (∀ i, c ≤ i → a i = 1000) ∧ ∀ i, 0 ≤ i → i < c → 1 ≤ a i ∧ a i ≤ 100
theorem Srt.mono {a : Int → Int} {c : Int} (h : Srt a c) : ∀ {i j : Int}, i ≤ j → a i ≤ a j := by
  have h1 : ∀ (n : Nat) (i : Int), a i ≤ a (i + n) := by
    intro n
    induction n with
    | zero => intro i; simp
    | succ n ih =>
      intro i
      have h2 := ih i
      have h3 := h.1 (i + n)
      rw [show i + ((n + 1 : Nat) : Int) = i + n + 1 by omega]
      omega
  intro i j hij
  have := h1 (j - i).toNat i
  rwa [show i + (((j - i).toNat : Nat) : Int) = j by omega] at this
theorem Srt.put {a : Int → Int} {c x : Int} (h : Srt a c) (hc : 0 ≤ c) (hx : 1 ≤ x ∧ x ≤ 100) : Srt (ins a x) (c + 1) := by
  obtain ⟨h1, h2, h3, h4⟩ := id h
  refine ⟨fun i => ?_, fun i hi => ?_, fun i hi => ?_, fun i hi hi2 => ?_⟩
  · have e1 := h1 (i - 1)
    have e2 := h1 i
    rw [show i - 1 + 1 = i by omega] at e1
    unfold ins
    rw [show i + 1 - 1 = i by omega]
    omega
  · have e1 := h2 i hi
    have e2 := h2 (i - 1) (by omega)
    unfold ins
    omega
  · have e1 := h3 (i - 1) (by omega)
    have e2 := h3 i (by omega)
    unfold ins
    omega
  · unfold ins
    have e0 : i - 1 < 0 → a (i - 1) = 0 := h2 (i - 1)
    have e1 : 0 ≤ i - 1 → 1 ≤ a (i - 1) ∧ a (i - 1) ≤ 100 := fun q => h4 (i - 1) q (by omega)
    have e2 : i < c → 1 ≤ a i ∧ a i ≤ 100 := h4 i hi
    have e3 : c ≤ i → a i = 1000 := h3 i
    omega
/-- a mark counts or it is none -/
def Mk (v : Int → Int) : Prop := ∀ j, v j = -1 ∨ (1 ≤ v j ∧ v j ≤ 100)
theorem cn_S {v : Int → Int} {J : Int} (h : 0 ≤ J) : cn v (J + 1) = cn v J + (if v J = -1 then 0 else 1) := sm_last 0 h
theorem su_S {v : Int → Int} {J : Int} (h : 0 ≤ J) : su v (J + 1) = su v J + (if v J = -1 then 0 else v J) := sm_last 0 h
theorem cn_bd {v : Int → Int} {J : Int} (h : 0 ≤ J) : 0 ≤ cn v J ∧ cn v J ≤ J := by
  have := sm_bd (f := fun j => if v j = -1 then 0 else 1) (lo := 0) (hi := 1) (b := J) 0 (fun i _ _ => by show 0 ≤ ite _ _ _ ∧ ite _ _ _ ≤ 1; split <;> omega) h
  unfold cn
  omega
theorem su_bd {v : Int → Int} {J : Int} (hv : Mk v) (h : 0 ≤ J) : 0 ≤ su v J ∧ su v J ≤ 100 * J := by
  have := sm_bd (f := fun j => if v j = -1 then 0 else v j) (lo := 0) (hi := 100) (b := J) 0 (fun i _ _ => by
    have := hv i
    show 0 ≤ ite _ _ _ ∧ ite _ _ _ ≤ 100
    split <;> omega) h
  unfold su
  omega
theorem so_srt {v : Int → Int} (hv : Mk v) : ∀ (n : Nat), Srt (so v n) (cn v n) := by
  intro n
  induction n with
  | zero =>
    refine ⟨fun i => ?_, fun i hi => ?_, fun i hi => ?_, fun i h1 h2 => ?_⟩
    · show (if i < 0 then (0:Int) else 1000) ≤ if i + 1 < 0 then 0 else 1000
      split <;> split <;> omega
    · show (if i < 0 then (0:Int) else 1000) = 0
      rw [if_pos hi]
    · have h0 : cn v ((0 : Nat) : Int) = 0 := sm_ge (by simp)
      rw [h0] at hi
      show (if i < 0 then (0:Int) else 1000) = 1000
      rw [if_neg (by omega)]
    · have h0 : cn v ((0 : Nat) : Int) = 0 := sm_ge (by simp)
      rw [h0] at h2
      omega
  | succ n ih =>
    rw [show (((n + 1 : Nat)) : Int) = (n : Int) + 1 by omega, so_S (by omega), cn_S (by omega)]
    by_cases h : v n = -1
    · rw [if_pos h, if_pos h]
      simpa using ih
    · rw [if_neg h, if_neg h]
      have := hv n
      exact ih.put (cn_bd (by omega)).1 (by omega)
theorem so_srt' {v : Int → Int} (hv : Mk v) {J : Int} (h : 0 ≤ J) : Srt (so v J) (cn v J) := by
  have := so_srt hv J.toNat
  rwa [show ((J.toNat : Nat) : Int) = J by omega] at this
/-! the six ways -/
def dl (v w : Int → Int) (J : Int) : Int := sg (sm (fun j => if v j = -1 ∨ w j = -1 then 0 else sg (v j - w j)) 0 J)
def prs (V : Int → Int → Int) (n J p : Int) : Int := sm (fun q => if q = p ∨ cn (V q) J = 0 then 0 else 1 + dl (V p) (V q) J) 0 n
def ctf (v : Int → Int) (cu J : Int) : Int := if 2 * cu < cn v J then cu else 0
def plf (v : Int → Int) (pl J : Int) (i : Int) : Int := min (su v J + cn v J * pl) (max (su v J - cn v J * pl) (cn v J * so v J i))
/-- the score: V the marks that count by players, jurors; Y the yeses likewise -/
def sc (V Y : Int → Int → Int) (cu pl n J w p : Int) : Int :=
  if cn (V p) J = 0 then -1
  else if w = 1 then 176400 / (cn (V p) J - 2 * ctf (V p) cu J) * sm (so (V p) J) (ctf (V p) cu J) (cn (V p) J - ctf (V p) cu J)
  else if w = 2 then 88200 * (so (V p) J ((cn (V p) J - 1) / 2) + so (V p) J (cn (V p) J / 2))
  else if w = 3 then 176400 / cn (V p) J * yn (V p) (Y p) J
  else if w = 4 then prs V n J p
  else if w = 5 then 176400 / (cn (V p) J * cn (V p) J) * sm (plf (V p) pl J) 0 (cn (V p) J)
  else 176400 / cn (V p) J * su (V p) J
def plc (f : Int → Int) (n p : Int) : Int := 1 + sm (fun q => if f p < f q then 1 else 0) 0 n
def pss (f : Int → Int) (n k p : Int) : Prop := f p ≠ -1 ∧ plc f n p ≤ k
theorem plc_bd {f : Int → Int} {n p : Int} (h : 0 ≤ n) : 1 ≤ plc f n p ∧ plc f n p ≤ n + 1 := by
  have := sm_bd (f := fun q => if f p < f q then 1 else 0) (lo := 0) (hi := 1) (b := n) 0 (fun i _ _ => by show 0 ≤ ite _ _ _ ∧ ite _ _ _ ≤ 1; split <;> omega) h
  unfold plc
  omega
theorem div_sum {c S : Int} (h : 1 ≤ c ∧ c ≤ 7) : 176400 * S / c = 176400 / c * S := by
  obtain ⟨h1, h2⟩ := h
  have : c = 1 ∨ c = 2 ∨ c = 3 ∨ c = 4 ∨ c = 5 ∨ c = 6 ∨ c = 7 := by omega
  rcases this with rfl | rfl | rfl | rfl | rfl | rfl | rfl <;> omega
end
section
/-- what every PianoJury keeps -/
def InvX (τ : Sf) : Prop := (1 ≤ τ 20 0 ∧ τ 20 0 ≤ 10) ∧ (1 ≤ τ 21 0 ∧ τ 21 0 ≤ 7) ∧ (∀ i, τ 1 i = -1 ∨ (1 ≤ τ 1 i ∧ τ 1 i ≤ 100)) ∧ (∀ i, τ 2 i = 0 ∨ τ 2 i = 1) ∧ (∀ i, τ 3 i = 0 ∨ τ 3 i = 1) ∧ (0 ≤ τ 4 0 ∧ τ 4 0 ≤ 2) ∧ (1 ≤ τ 4 1 ∧ τ 4 1 ≤ 50) ∧ (∀ i, 0 ≤ τ 5 i ∧ τ 5 i ≤ 10) ∧ (∀ i, 0 ≤ τ 6 i ∧ τ 6 i ≤ 1000000) ∧ (∀ i, 1 ≤ τ 7 i ∧ τ 7 i ≤ 60) ∧ (∀ i, 0 ≤ τ 8 i ∧ τ 8 i ≤ 4095) ∧ (∀ i, 0 ≤ τ 9 i ∧ τ 9 i ≤ 3) ∧ (∀ i, -1 ≤ τ 10 i ∧ τ 10 i ≤ 2)
def VV (τ : Sf) (r p j : Int) : Int := if τ 3 (j * 10 + p) = 1 then -1 else τ 1 ((r * 7 + j) * 10 + p)
def YY (τ : Sf) (r p j : Int) : Int := τ 2 ((r * 7 + j) * 10 + p)
theorem VV_mk {τ : Sf} (hI : InvX τ) (r p : Int) : Mk (VV τ r p) := by
  intro j
  unfold VV
  split
  · exact Or.inl rfl
  · exact hI.2.2.1 _

set_option maxHeartbeats 4000000 in
set_option maxRecDepth 100000 in
theorem c_X0_isWithin {E : Ev} {d : Nat} {τ ζ : Sf} {Q : Option Value → Sf → Sf → Prop} {v a b : Int} (hr : (-2147483648 ≤ v ∧ v < 2147483648) ∧ (-2147483648 ≤ a ∧ a < 2147483648) ∧ (-2147483648 ≤ b ∧ b < 2147483648)) (h1 : (a ≤ v ∧ v ≤ b) → Q (some (.int (zI 1))) τ ζ) (h0 : (v < a ∨ b < v) → Q (some (.int (zI 0))) τ ζ) : C E GX kX0_isWithin d [.int (zI v), .int (zI a), .int (zI b)] τ ζ Q := by
  refine C_of (by decide) rfl rfl ?_
  show R E GX kX0_isWithin d 0 [some (.int (zI v)), some (.int (zI a)), some (.int (zI b))] [] τ ζ Q
  refine R_iload_n dX0_isWithin_0 rfl ?_
  refine R_iload_n dX0_isWithin_1 rfl ?_
  refine R_icmp_lt (tgt := 14) (by omega) dX0_isWithin_2 (by decide) (fun c2 => ?_) (fun c2 => ?_)
  · refine R_iconst dX0_isWithin_14 ?_
    refine R_zret rfl (by decide) dX0_isWithin_15 ?_
    exact h0 (by omega)
  · refine R_iload_n dX0_isWithin_5 rfl ?_
    refine R_iload_n dX0_isWithin_6 rfl ?_
    refine R_icmp_gt (tgt := 14) (by omega) dX0_isWithin_7 (by decide) (fun c7 => ?_) (fun c7 => ?_)
    · refine R_iconst dX0_isWithin_14 ?_
      refine R_zret rfl (by decide) dX0_isWithin_15 ?_
      exact h0 (by omega)
    · refine R_iconst dX0_isWithin_10 ?_
      refine R_goto (tgt := 15) dX0_isWithin_11 (by decide) ?_
      refine R_zret rfl (by decide) dX0_isWithin_15 ?_
      exact h1 (by omega)

set_option maxHeartbeats 4000000 in
set_option maxRecDepth 100000 in
theorem c_X0_isRound {E : Ev} {d : Nat} {τ ζ : Sf} {Q : Option Value → Sf → Sf → Prop} {v : Int} (hr : (-2147483648 ≤ v ∧ v < 2147483648)) (h1 : (0 ≤ v ∧ v ≤ 2) → Q (some (.int (zI 1))) τ ζ) (h0 : (v < 0 ∨ 2 < v) → Q (some (.int (zI 0))) τ ζ) : C E GX kX0_isRound (d + 1) [.int (zI v)] τ ζ Q := by
  refine C_of (by decide) rfl rfl ?_
  show R E GX kX0_isRound (d + 1) 0 [some (.int (zI v))] [] τ ζ Q
  refine R_iload_n dX0_isRound_0 rfl ?_
  refine R_iconst dX0_isRound_1 ?_
  refine R_iconst dX0_isRound_2 ?_
  refine R_callS3 (k2 := kX0_isWithin) dX0_isRound_3 rfl gX0_isRound_X0_isWithin kkX0_isWithin (Nat.le_of_ble_eq_true rfl) (c_X0_isWithin (by omega) (fun b3 => ?_) (fun b3 => ?_))
  · show R _ _ _ _ 6 _ [_] _ _ _
    refine R_zret rfl (by decide) dX0_isRound_6 ?_
    exact h1 (by omega)
  · show R _ _ _ _ 6 _ [_] _ _ _
    refine R_zret rfl (by decide) dX0_isRound_6 ?_
    exact h0 (by omega)

set_option maxHeartbeats 4000000 in
set_option maxRecDepth 100000 in
theorem c_X0_isWay {E : Ev} {d : Nat} {τ ζ : Sf} {Q : Option Value → Sf → Sf → Prop} {v : Int} (hr : (-2147483648 ≤ v ∧ v < 2147483648)) (h1 : (0 ≤ v ∧ v ≤ 5) → Q (some (.int (zI 1))) τ ζ) (h0 : (v < 0 ∨ 5 < v) → Q (some (.int (zI 0))) τ ζ) : C E GX kX0_isWay (d + 1) [.int (zI v)] τ ζ Q := by
  refine C_of (by decide) rfl rfl ?_
  show R E GX kX0_isWay (d + 1) 0 [some (.int (zI v))] [] τ ζ Q
  refine R_iload_n dX0_isWay_0 rfl ?_
  refine R_iconst dX0_isWay_1 ?_
  refine R_iconst dX0_isWay_2 ?_
  refine R_callS3 (k2 := kX0_isWithin) dX0_isWay_3 rfl gX0_isWay_X0_isWithin kkX0_isWithin (Nat.le_of_ble_eq_true rfl) (c_X0_isWithin (by omega) (fun b3 => ?_) (fun b3 => ?_))
  · show R _ _ _ _ 6 _ [_] _ _ _
    refine R_zret rfl (by decide) dX0_isWay_6 ?_
    exact h1 (by omega)
  · show R _ _ _ _ 6 _ [_] _ _ _
    refine R_zret rfl (by decide) dX0_isWay_6 ?_
    exact h0 (by omega)

set_option maxHeartbeats 4000000 in
set_option maxRecDepth 100000 in
theorem c_X0_isLimit {E : Ev} {d : Nat} {τ ζ : Sf} {Q : Option Value → Sf → Sf → Prop} {v : Int} (hr : (-2147483648 ≤ v ∧ v < 2147483648)) (h1 : (1 ≤ v ∧ v ≤ 10) → Q (some (.int (zI 1))) τ ζ) (h0 : (v < 1 ∨ 10 < v) → Q (some (.int (zI 0))) τ ζ) : C E GX kX0_isLimit (d + 1) [.int (zI v)] τ ζ Q := by
  refine C_of (by decide) rfl rfl ?_
  show R E GX kX0_isLimit (d + 1) 0 [some (.int (zI v))] [] τ ζ Q
  refine R_iload_n dX0_isLimit_0 rfl ?_
  refine R_iconst dX0_isLimit_1 ?_
  refine R_bipush dX0_isLimit_2 (by decide) ?_
  refine R_callS3 (k2 := kX0_isWithin) dX0_isLimit_4 rfl gX0_isLimit_X0_isWithin kkX0_isWithin (Nat.le_of_ble_eq_true rfl) (c_X0_isWithin (by omega) (fun b4 => ?_) (fun b4 => ?_))
  · show R _ _ _ _ 7 _ [_] _ _ _
    refine R_zret rfl (by decide) dX0_isLimit_7 ?_
    exact h1 (by omega)
  · show R _ _ _ _ 7 _ [_] _ _ _
    refine R_zret rfl (by decide) dX0_isLimit_7 ?_
    exact h0 (by omega)

set_option maxHeartbeats 4000000 in
set_option maxRecDepth 100000 in
theorem c_X0_isWork {E : Ev} {d : Nat} {τ ζ : Sf} {Q : Option Value → Sf → Sf → Prop} {v : Int} (hr : (-2147483648 ≤ v ∧ v < 2147483648)) (h1 : (0 ≤ v ∧ v ≤ 11) → Q (some (.int (zI 1))) τ ζ) (h0 : (v < 0 ∨ 11 < v) → Q (some (.int (zI 0))) τ ζ) : C E GX kX0_isWork (d + 1) [.int (zI v)] τ ζ Q := by
  refine C_of (by decide) rfl rfl ?_
  show R E GX kX0_isWork (d + 1) 0 [some (.int (zI v))] [] τ ζ Q
  refine R_iload_n dX0_isWork_0 rfl ?_
  refine R_iconst dX0_isWork_1 ?_
  refine R_bipush dX0_isWork_2 (by decide) ?_
  refine R_callS3 (k2 := kX0_isWithin) dX0_isWork_4 rfl gX0_isWork_X0_isWithin kkX0_isWithin (Nat.le_of_ble_eq_true rfl) (c_X0_isWithin (by omega) (fun b4 => ?_) (fun b4 => ?_))
  · show R _ _ _ _ 7 _ [_] _ _ _
    refine R_zret rfl (by decide) dX0_isWork_7 ?_
    exact h1 (by omega)
  · show R _ _ _ _ 7 _ [_] _ _ _
    refine R_zret rfl (by decide) dX0_isWork_7 ?_
    exact h0 (by omega)

set_option maxHeartbeats 4000000 in
set_option maxRecDepth 100000 in
theorem c_X0_isJuror {E : Ev} {d : Nat} {τ ζ : Sf} {Q : Option Value → Sf → Sf → Prop} {v : Int} (hI : InvX τ) (hr : (-2147483648 ≤ v ∧ v < 2147483648)) (h1 : (0 ≤ v ∧ v < τ 21 0) → Q (some (.int (zI 1))) τ ζ) (h0 : (v < 0 ∨ τ 21 0 ≤ v) → Q (some (.int (zI 0))) τ ζ) : C E GX kX0_isJuror (d + 1) [.ref (eAd E 0), .int (zI v)] τ ζ Q := by
  refine C_of (by decide) rfl rfl ?_
  show R E GX kX0_isJuror (d + 1) 0 [some (.ref (eAd E 0)), some (.int (zI v))] [] τ ζ Q
  obtain ⟨hn, hm, hmk, hys, hpu, hcu, hpl, hwe, hpr, hmi, hwo, hco, hch⟩ := id hI
  refine R_iload_n dX0_isJuror_0 rfl ?_
  refine R_iconst dX0_isJuror_1 ?_
  refine R_aload_n dX0_isJuror_2 rfl ?_
  refine R_getI 21 fX0_isJuror_13 rfl rfl dX0_isJuror_3 ?_
  refine R_iconst dX0_isJuror_6 ?_
  refine R_isub dX0_isJuror_7 ?_
  refine R_callS3 (k2 := kX0_isWithin) dX0_isJuror_8 rfl gX0_isJuror_X0_isWithin kkX0_isWithin (Nat.le_of_ble_eq_true rfl) (c_X0_isWithin (by omega) (fun b8 => ?_) (fun b8 => ?_))
  · show R _ _ _ _ 11 _ [_] _ _ _
    refine R_zret rfl (by decide) dX0_isJuror_11 ?_
    exact h1 (by omega)
  · show R _ _ _ _ 11 _ [_] _ _ _
    refine R_zret rfl (by decide) dX0_isJuror_11 ?_
    exact h0 (by omega)

set_option maxHeartbeats 4000000 in
set_option maxRecDepth 100000 in
theorem c_X0_isPlayer {E : Ev} {d : Nat} {τ ζ : Sf} {Q : Option Value → Sf → Sf → Prop} {v : Int} (hI : InvX τ) (hr : (-2147483648 ≤ v ∧ v < 2147483648)) (h1 : (0 ≤ v ∧ v < τ 20 0) → Q (some (.int (zI 1))) τ ζ) (h0 : (v < 0 ∨ τ 20 0 ≤ v) → Q (some (.int (zI 0))) τ ζ) : C E GX kX0_isPlayer (d + 1) [.ref (eAd E 0), .int (zI v)] τ ζ Q := by
  refine C_of (by decide) rfl rfl ?_
  show R E GX kX0_isPlayer (d + 1) 0 [some (.ref (eAd E 0)), some (.int (zI v))] [] τ ζ Q
  obtain ⟨hn, hm, hmk, hys, hpu, hcu, hpl, hwe, hpr, hmi, hwo, hco, hch⟩ := id hI
  refine R_iload_n dX0_isPlayer_0 rfl ?_
  refine R_iconst dX0_isPlayer_1 ?_
  refine R_aload_n dX0_isPlayer_2 rfl ?_
  refine R_getI 20 fX0_isPlayer_7 rfl rfl dX0_isPlayer_3 ?_
  refine R_iconst dX0_isPlayer_6 ?_
  refine R_isub dX0_isPlayer_7 ?_
  refine R_callS3 (k2 := kX0_isWithin) dX0_isPlayer_8 rfl gX0_isPlayer_X0_isWithin kkX0_isWithin (Nat.le_of_ble_eq_true rfl) (c_X0_isWithin (by omega) (fun b8 => ?_) (fun b8 => ?_))
  · show R _ _ _ _ 11 _ [_] _ _ _
    refine R_zret rfl (by decide) dX0_isPlayer_11 ?_
    exact h1 (by omega)
  · show R _ _ _ _ 11 _ [_] _ _ _
    refine R_zret rfl (by decide) dX0_isPlayer_11 ?_
    exact h0 (by omega)

set_option maxHeartbeats 4000000 in
set_option maxRecDepth 100000 in
theorem c_X0_cellOf {E : Ev} {d : Nat} {τ ζ : Sf} {Q : Option Value → Sf → Sf → Prop} {r j p : Int} (hQ : ∀ z : Int, z = (r * 7 + j) * 10 + p → Q (some (.int (zI z))) τ ζ) : C E GX kX0_cellOf d [.int (zI r), .int (zI j), .int (zI p)] τ ζ Q := by
  refine C_of (by decide) rfl rfl ?_
  show R E GX kX0_cellOf d 0 [some (.int (zI r)), some (.int (zI j)), some (.int (zI p))] [] τ ζ Q
  refine R_iload_n dX0_cellOf_0 rfl ?_
  refine R_bipush dX0_cellOf_1 (by decide) ?_
  refine R_imul dX0_cellOf_3 ?_
  refine R_iload_n dX0_cellOf_4 rfl ?_
  refine R_iadd dX0_cellOf_5 ?_
  refine R_bipush dX0_cellOf_6 (by decide) ?_
  refine R_imul dX0_cellOf_8 ?_
  refine R_iload_n dX0_cellOf_9 rfl ?_
  refine R_iadd dX0_cellOf_10 ?_
  refine R_iret rfl dX0_cellOf_11 ?_
  exact hQ _ rfl

set_option maxHeartbeats 4000000 in
set_option maxRecDepth 100000 in
theorem c_X0_pupilCellOf {E : Ev} {d : Nat} {τ ζ : Sf} {Q : Option Value → Sf → Sf → Prop} {j p : Int} (hQ : ∀ z : Int, z = j * 10 + p → Q (some (.int (zI z))) τ ζ) : C E GX kX0_pupilCellOf d [.int (zI j), .int (zI p)] τ ζ Q := by
  refine C_of (by decide) rfl rfl ?_
  show R E GX kX0_pupilCellOf d 0 [some (.int (zI j)), some (.int (zI p))] [] τ ζ Q
  refine R_iload_n dX0_pupilCellOf_0 rfl ?_
  refine R_bipush dX0_pupilCellOf_1 (by decide) ?_
  refine R_imul dX0_pupilCellOf_3 ?_
  refine R_iload_n dX0_pupilCellOf_4 rfl ?_
  refine R_iadd dX0_pupilCellOf_5 ?_
  refine R_iret rfl dX0_pupilCellOf_6 ?_
  exact hQ _ rfl

set_option maxHeartbeats 4000000 in
set_option maxRecDepth 100000 in
theorem c_X0_programmeCellOf {E : Ev} {d : Nat} {τ ζ : Sf} {Q : Option Value → Sf → Sf → Prop} {p i : Int} (hQ : ∀ z : Int, z = p * 3 + i → Q (some (.int (zI z))) τ ζ) : C E GX kX0_programmeCellOf d [.int (zI p), .int (zI i)] τ ζ Q := by
  refine C_of (by decide) rfl rfl ?_
  show R E GX kX0_programmeCellOf d 0 [some (.int (zI p)), some (.int (zI i))] [] τ ζ Q
  refine R_iload_n dX0_programmeCellOf_0 rfl ?_
  refine R_iconst dX0_programmeCellOf_1 ?_
  refine R_imul dX0_programmeCellOf_2 ?_
  refine R_iload_n dX0_programmeCellOf_3 rfl ?_
  refine R_iadd dX0_programmeCellOf_4 ?_
  refine R_iret rfl dX0_programmeCellOf_5 ?_
  exact hQ _ rfl

set_option maxHeartbeats 4000000 in
set_option maxRecDepth 100000 in
theorem c_X0_replace {E : Ev} {d : Nat} {τ ζ : Sf} {Q : Option Value → Sf → Sf → Prop} {q n : Nat} (hq : GX.2.1[q]? = some (.inr (0, n))) (hp : GX.1 q = true) (hn : Nat.blt n 2147483648 = true) {z v : Int} (hz : 0 ≤ z ∧ z < n) (hQ : Q (some (.int (zI (τ q z)))) (up τ q z v) ζ) : C E GX kX0_replace d [.ref (eAd E q), .int (zI z), .int (zI v)] τ ζ Q := by
  refine C_of (by decide) rfl rfl ?_
  show R E GX kX0_replace d 0 [some (.ref (eAd E q)), some (.int (zI z)), some (.int (zI v)), none] [] τ ζ Q
  refine R_aload_n dX0_replace_0 rfl ?_
  refine R_iload_n dX0_replace_1 rfl ?_
  refine R_iald (q := q) hq hp (by omega) hn dX0_replace_2 ?_
  refine R_istore_n dX0_replace_3 rfl rfl ?_
  refine R_aload_n dX0_replace_4 rfl ?_
  refine R_iload_n dX0_replace_5 rfl ?_
  refine R_iload_n dX0_replace_6 rfl ?_
  refine R_iast (q := q) GXok hq hp (by omega) hn dX0_replace_7 ?_
  refine R_iload_n dX0_replace_8 rfl ?_
  refine R_iret rfl dX0_replace_9 ?_
  exact hQ

def fil (τ : Sf) (q : Nat) (a b v : Int) : Sf := fun k => if k = q then (fun i => if a ≤ i ∧ i < b then v else τ q i) else τ k
theorem fil_ge {τ : Sf} {q : Nat} {a b v : Int} (h : b ≤ a) : fil τ q a b v = τ := by
  funext k i
  unfold fil
  by_cases hk : k = q
  · subst hk
    rw [if_pos rfl]
    show (if a ≤ i ∧ i < b then v else τ k i) = τ k i
    rw [if_neg (by omega)]
  · rw [if_neg hk]
theorem fil_lt {τ : Sf} {q : Nat} {a b v : Int} (h : a < b) : fil (up τ q a v) q (a + 1) b v = fil τ q a b v := by
  funext k i
  unfold fil
  by_cases hk : k = q
  · subst hk
    rw [if_pos rfl, if_pos rfl]
    show (if a + 1 ≤ i ∧ i < b then v else up τ k a v k i) = if a ≤ i ∧ i < b then v else τ k i
    rw [up_eq]
    show (if a + 1 ≤ i ∧ i < b then v else if i = a then v else τ k i) = if a ≤ i ∧ i < b then v else τ k i
    by_cases h1 : a + 1 ≤ i ∧ i < b
    · rw [if_pos h1, if_pos (by omega)]
    · rw [if_neg h1]
      by_cases h2 : i = a
      · rw [if_pos h2, if_pos (by omega)]
      · rw [if_neg h2, if_neg (by omega)]
  · rw [if_neg hk, if_neg hk, up_ne hk]

set_option maxHeartbeats 4000000 in
set_option maxRecDepth 100000 in
theorem c_J7_fill_53178 {E : Ev} {d : Nat} {τ ζ : Sf} {Q : Option Value → Sf → Sf → Prop} {q n : Nat} (hq : GX.2.1[q]? = some (.inr (0, n))) (hp : GX.1 q = true) (hn : Nat.blt n 2147483648 = true) {v : Int} (hQ : Q none (fil τ q 0 n v) ζ) : C E GX kJ7_fill_53178 d [.ref (eAd E q), .int (zI v)] τ ζ Q := by
  refine C_of (by decide) rfl rfl ?_
  show R E GX kJ7_fill_53178 d 0 [some (.ref (eAd E q)), some (.int (zI v)), none, none] [] τ ζ Q
  have hN := Nat.blt_eq.mp hn
  have loop : ∀ (N : Nat) (i : Int) (τ' : Sf), ((n : Int) - i).toNat = N → 0 ≤ i → i ≤ n → fil τ' q i n v = fil τ q 0 n v → R E GX kJ7_fill_53178 d 5 [some (.ref (eAd E q)), some (.int (zI v)), some (.int (zI i)), some (.int (zI n))] [] τ' ζ Q := by
    refine st_ind (fun N ih => ?_)
    intro i τ' hN' hi hi2 hf
    refine R_iload_n dJ7_fill_53178_5 rfl ?_
    refine R_iload_n dJ7_fill_53178_6 rfl ?_
    refine R_icmp_ge (tgt := 20) (by omega) dJ7_fill_53178_7 (by decide) (fun c7 => ?_) (fun c7 => ?_)
    · refine R_vret rfl dJ7_fill_53178_20 ?_
      exact (by rw [← hf, fil_ge (by omega)] at hQ; exact hQ)
    · refine R_aload_n dJ7_fill_53178_10 rfl ?_
      refine R_iload_n dJ7_fill_53178_11 rfl ?_
      refine R_iload_n dJ7_fill_53178_12 rfl ?_
      refine R_iast (q := q) GXok hq hp (by omega) hn dJ7_fill_53178_13 ?_
      refine R_iinc dJ7_fill_53178_14 rfl rfl rfl ?_
      refine R_goto (tgt := 5) dJ7_fill_53178_17 (by decide) ?_
      exact ih ((n : Int) - (i + 1)).toNat (by omega) (i + 1) _ rfl (by omega) (by omega) (by rw [fil_lt (by omega)]; exact hf)
  refine R_iconst dJ7_fill_53178_0 ?_
  refine R_istore_n dJ7_fill_53178_1 rfl rfl ?_
  refine R_aload_n dJ7_fill_53178_2 rfl ?_
  refine R_alen (q := q) hq dJ7_fill_53178_3 ?_
  refine R_istore_n dJ7_fill_53178_4 rfl rfl ?_
  exact loop _ 0 τ rfl (by omega) (by omega) rfl

set_option maxHeartbeats 4000000 in
set_option maxRecDepth 100000 in
theorem c_X0_clearAll {E : Ev} {d : Nat} {τ ζ : Sf} {Q : Option Value → Sf → Sf → Prop} (hQ : Q none (fil (fil (fil (fil (fil τ 1 0 210 (-1)) 2 0 210 0) 3 0 70 0) 9 0 10 0) 10 0 10 (-1)) ζ) : C E GX kX0_clearAll (d + 1) [.ref (eAd E 0)] τ ζ Q := by
  refine C_of (by decide) rfl rfl ?_
  show R E GX kX0_clearAll (d + 1) 0 [some (.ref (eAd E 0))] [] τ ζ Q
  refine R_aload_n dX0_clearAll_0 rfl ?_
  refine R_getR fX0_clearAll_16 dX0_clearAll_1 ?_
  refine R_iconst dX0_clearAll_4 ?_
  refine R_callS2 (k2 := kJ7_fill_53178) dX0_clearAll_5 rfl gX0_clearAll_J7_fill_53178 kkJ7_fill_53178 (Nat.le_of_ble_eq_true rfl) (c_J7_fill_53178 rfl rfl rfl ?_)
  show R _ _ _ _ 8 _ [] _ _ _
  refine R_aload_n dX0_clearAll_8 rfl ?_
  refine R_getR fX0_clearAll_20 dX0_clearAll_9 ?_
  refine R_iconst dX0_clearAll_12 ?_
  refine R_callS2 (k2 := kJ7_fill_53178) dX0_clearAll_13 rfl gX0_clearAll_J7_fill_53178 kkJ7_fill_53178 (Nat.le_of_ble_eq_true rfl) (c_J7_fill_53178 rfl rfl rfl ?_)
  show R _ _ _ _ 16 _ [] _ _ _
  refine R_aload_n dX0_clearAll_16 rfl ?_
  refine R_getR fX0_clearAll_23 dX0_clearAll_17 ?_
  refine R_iconst dX0_clearAll_20 ?_
  refine R_callS2 (k2 := kJ7_fill_53178) dX0_clearAll_21 rfl gX0_clearAll_J7_fill_53178 kkJ7_fill_53178 (Nat.le_of_ble_eq_true rfl) (c_J7_fill_53178 rfl rfl rfl ?_)
  show R _ _ _ _ 24 _ [] _ _ _
  refine R_aload_n dX0_clearAll_24 rfl ?_
  refine R_getR fX0_clearAll_41 dX0_clearAll_25 ?_
  refine R_iconst dX0_clearAll_28 ?_
  refine R_callS2 (k2 := kJ7_fill_53178) dX0_clearAll_29 rfl gX0_clearAll_J7_fill_53178 kkJ7_fill_53178 (Nat.le_of_ble_eq_true rfl) (c_J7_fill_53178 rfl rfl rfl ?_)
  show R _ _ _ _ 32 _ [] _ _ _
  refine R_aload_n dX0_clearAll_32 rfl ?_
  refine R_getR fX0_clearAll_44 dX0_clearAll_33 ?_
  refine R_iconst dX0_clearAll_36 ?_
  refine R_callS2 (k2 := kJ7_fill_53178) dX0_clearAll_37 rfl gX0_clearAll_J7_fill_53178 kkJ7_fill_53178 (Nat.le_of_ble_eq_true rfl) (c_J7_fill_53178 rfl rfl rfl ?_)
  show R _ _ _ _ 40 _ [] _ _ _
  refine R_vret rfl dX0_clearAll_40 ?_
  exact hQ

set_option maxHeartbeats 4000000 in
set_option maxRecDepth 100000 in
theorem c_X0_isPupil {E : Ev} {d : Nat} {τ ζ : Sf} {Q : Option Value → Sf → Sf → Prop} {j p : Int} (hI : InvX τ) (hj : 0 ≤ j ∧ j < 7) (hp : 0 ≤ p ∧ p < 10) (h1 : τ 3 (j * 10 + p) = 1 → Q (some (.int (zI 1))) τ ζ) (h0 : τ 3 (j * 10 + p) ≠ 1 → Q (some (.int (zI 0))) τ ζ) : C E GX kX0_isPupil (d + 1) [.ref (eAd E 0), .int (zI j), .int (zI p)] τ ζ Q := by
  refine C_of (by decide) rfl rfl ?_
  show R E GX kX0_isPupil (d + 1) 0 [some (.ref (eAd E 0)), some (.int (zI j)), some (.int (zI p))] [] τ ζ Q
  obtain ⟨hn, hm, hmk, hys, hpu, hcu, hpl, hwe, hpr, hmi, hwo, hco, hch⟩ := id hI
  have hh := hpu (j * 10 + p)
  refine R_aload_n dX0_isPupil_0 rfl ?_
  refine R_getR fX0_isPupil_23 dX0_isPupil_1 ?_
  refine R_iload_n dX0_isPupil_4 rfl ?_
  refine R_iload_n dX0_isPupil_5 rfl ?_
  refine R_callS2 (k2 := kX0_pupilCellOf) dX0_isPupil_6 rfl gX0_isPupil_X0_pupilCellOf kkX0_pupilCellOf (Nat.le_of_ble_eq_true rfl) (c_X0_pupilCellOf (fun r6 h6 => ?_))
  subst h6
  show R _ _ _ _ 9 _ [_, _] _ _ _
  refine R_iald (q := 3) rfl rfl (by omega) rfl dX0_isPupil_9 ?_
  refine R_iconst dX0_isPupil_10 ?_
  refine R_icmp_ne (tgt := 18) (by omega) dX0_isPupil_11 (by decide) (fun c11 => ?_) (fun c11 => ?_)
  · refine R_iconst dX0_isPupil_18 ?_
    refine R_zret rfl (by decide) dX0_isPupil_19 ?_
    exact h0 (by omega)
  · refine R_iconst dX0_isPupil_14 ?_
    refine R_goto (tgt := 19) dX0_isPupil_15 (by decide) ?_
    refine R_zret rfl (by decide) dX0_isPupil_19 ?_
    exact h1 (by omega)

set_option maxHeartbeats 4000000 in
set_option maxRecDepth 100000 in
theorem c_X0_countedMark {E : Ev} {d : Nat} {τ ζ : Sf} {Q : Option Value → Sf → Sf → Prop} {r j p : Int} (hI : InvX τ) (hr : 0 ≤ r ∧ r < 3) (hj : 0 ≤ j ∧ j < 7) (hp : 0 ≤ p ∧ p < 10) (hQ : ∀ z : Int, z = VV τ r p j → Q (some (.int (zI z))) τ ζ) : C E GX kX0_countedMark (d + 1) [.ref (eAd E 0), .int (zI r), .int (zI j), .int (zI p)] τ ζ Q := by
  refine C_of (by decide) rfl rfl ?_
  show R E GX kX0_countedMark (d + 1) 0 [some (.ref (eAd E 0)), some (.int (zI r)), some (.int (zI j)), some (.int (zI p))] [] τ ζ Q
  obtain ⟨hn, hm, hmk, hys, hpu, hcu, hpl, hwe, hpr, hmi, hwo, hco, hch⟩ := id hI
  have hh := hpu (j * 10 + p)
  refine R_aload_n dX0_countedMark_0 rfl ?_
  refine R_getR fX0_countedMark_23 dX0_countedMark_1 ?_
  refine R_iload_n dX0_countedMark_4 rfl ?_
  refine R_iload_n dX0_countedMark_5 rfl ?_
  refine R_callS2 (k2 := kX0_pupilCellOf) dX0_countedMark_6 rfl gX0_countedMark_X0_pupilCellOf kkX0_pupilCellOf (Nat.le_of_ble_eq_true rfl) (c_X0_pupilCellOf (fun r6 h6 => ?_))
  subst h6
  show R _ _ _ _ 9 _ [_, _] _ _ _
  refine R_iald (q := 3) rfl rfl (by omega) rfl dX0_countedMark_9 ?_
  refine R_iconst dX0_countedMark_10 ?_
  refine R_icmp_ne (tgt := 18) (by omega) dX0_countedMark_11 (by decide) (fun c11 => ?_) (fun c11 => ?_)
  · refine R_aload_n dX0_countedMark_18 rfl ?_
    refine R_getR fX0_countedMark_16 dX0_countedMark_19 ?_
    refine R_iload_n dX0_countedMark_22 rfl ?_
    refine R_iload_n dX0_countedMark_23 rfl ?_
    refine R_iload_n dX0_countedMark_24 rfl ?_
    refine R_callS3 (k2 := kX0_cellOf) dX0_countedMark_25 rfl gX0_countedMark_X0_cellOf kkX0_cellOf (Nat.le_of_ble_eq_true rfl) (c_X0_cellOf (fun r25 h25 => ?_))
    subst h25
    show R _ _ _ _ 28 _ [_, _] _ _ _
    refine R_iald (q := 1) rfl rfl (by omega) rfl dX0_countedMark_28 ?_
    refine R_iret rfl dX0_countedMark_29 ?_
    exact hQ _ (by unfold VV; split <;> first | rfl | omega)
  · refine R_iconst dX0_countedMark_14 ?_
    refine R_goto (tgt := 29) dX0_countedMark_15 (by decide) ?_
    refine R_iret rfl dX0_countedMark_29 ?_
    exact hQ _ (by unfold VV; split <;> first | rfl | omega)
end
section
theorem cn_mono {v : Int → Int} {j J : Int} (h0 : 0 ≤ j) (h : j ≤ J) : cn v j ≤ cn v J := by
  have h1 : ∀ n : Nat, cn v j ≤ cn v (j + n) := by
    intro n
    induction n with
    | zero => simp
    | succ n ih =>
      rw [show j + ((n + 1 : Nat) : Int) = j + n + 1 by omega, cn_S (by omega)]
      split <;> omega
  have := h1 (J - j).toNat
  rwa [show j + (((J - j).toNat : Nat) : Int) = J by omega] at this
theorem cn_0 (v : Int → Int) : cn v 0 = 0 := sm_ge (by omega)
theorem mul_bd {a b A B : Int} (h1 : 0 ≤ a ∧ a ≤ A) (h2 : 0 ≤ b ∧ b ≤ B) : 0 ≤ a * b ∧ a * b ≤ A * B := ⟨Int.mul_nonneg h1.1 h2.1, Int.le_trans (Int.mul_le_mul_of_nonneg_right h1.2 h2.1) (Int.mul_le_mul_of_nonneg_left h2.2 (by omega))⟩

set_option maxHeartbeats 4000000 in
set_option maxRecDepth 100000 in
theorem c_X0_isMarked {E : Ev} {d : Nat} {τ ζ : Sf} {Q : Option Value → Sf → Sf → Prop} {r p : Int} (hI : InvX τ) (hr : 0 ≤ r ∧ r < 3) (hp : 0 ≤ p ∧ p < τ 20 0) (h1 : cn (VV τ r p) (τ 21 0) ≠ 0 → Q (some (.int (zI 1))) τ ζ) (h0 : cn (VV τ r p) (τ 21 0) = 0 → Q (some (.int (zI 0))) τ ζ) : C E GX kX0_isMarked (d + 3) [.ref (eAd E 0), .int (zI r), .int (zI p)] τ ζ Q := by
  refine C_of (by decide) rfl rfl ?_
  show R E GX kX0_isMarked (d + 3) 0 [some (.ref (eAd E 0)), some (.int (zI r)), some (.int (zI p)), none] [] τ ζ Q
  obtain ⟨hn, hm, hmk, hys, hpu, hcu, hpl, hwe, hpr, hmi, hwo, hco, hch⟩ := id hI
  have loop : ∀ (N : Nat) (j : Int), (τ 21 0 - j).toNat = N → 0 ≤ j → j ≤ τ 21 0 → cn (VV τ r p) j = 0 → R E GX kX0_isMarked (d + 3) 2 [some (.ref (eAd E 0)), some (.int (zI r)), some (.int (zI p)), some (.int (zI j))] [] τ ζ Q := by
    refine st_ind (fun N ih => ?_)
    intro j hN hj hj2 hc
    have hb := VV_mk hI r p j
    have hS := cn_S (v := VV τ r p) hj
    refine R_iload_n dX0_isMarked_2 rfl ?_
    refine R_aload_n dX0_isMarked_3 rfl ?_
    refine R_getI 21 fX0_isMarked_13 rfl rfl dX0_isMarked_4 ?_
    refine R_icmp_ge (tgt := 29) (by omega) dX0_isMarked_7 (by decide) (fun c7 => ?_) (fun c7 => ?_)
    · refine R_iconst dX0_isMarked_29 ?_
      refine R_zret rfl (by decide) dX0_isMarked_30 ?_
      have e : j = τ 21 0 := by omega
      subst e
      exact h0 hc
    · refine R_aload_n dX0_isMarked_10 rfl ?_
      refine R_iload_n dX0_isMarked_11 rfl ?_
      refine R_iload_n dX0_isMarked_12 rfl ?_
      refine R_iload_n dX0_isMarked_13 rfl ?_
      refine R_callV3 (k2 := kX0_countedMark) dX0_isMarked_14 rfl gX0_isMarked_X0_countedMark kkX0_countedMark rfl rfl (Nat.le_of_ble_eq_true rfl) (c_X0_countedMark hI (by omega) (by omega) (by omega) (fun r14 h14 => ?_))
      subst h14
      show R _ _ _ _ 17 _ [_] _ _ _
      refine R_iconst dX0_isMarked_17 ?_
      refine R_icmp_eq (tgt := 23) (by omega) dX0_isMarked_18 (by decide) (fun c18 => ?_) (fun c18 => ?_)
      · refine R_iinc dX0_isMarked_23 rfl rfl rfl ?_
        refine R_goto (tgt := 2) dX0_isMarked_26 (by decide) ?_
        exact ih (τ 21 0 - (j + 1)).toNat (by omega) (j + 1) rfl (by omega) (by omega) (by rw [hS, if_pos (by omega)]; omega)
      · refine R_iconst dX0_isMarked_21 ?_
        refine R_zret rfl (by decide) dX0_isMarked_22 ?_
        have hm2 := cn_mono (v := VV τ r p) (j := j + 1) (J := τ 21 0) (by omega) (by omega)
        rw [hS, if_neg (by omega)] at hm2
        exact h1 (by omega)
  refine R_iconst dX0_isMarked_0 ?_
  refine R_istore_n dX0_isMarked_1 rfl rfl ?_
  exact loop _ 0 rfl (by omega) (by omega) (cn_0 _)

set_option maxHeartbeats 4000000 in
set_option maxRecDepth 100000 in
theorem c_X0_insertMark {E : Ev} {d : Nat} {τ ζ : Sf} {Q : Option Value → Sf → Sf → Prop} {c v : Int} {a : Int → Int} (hc : 0 ≤ c ∧ c ≤ 6) (hv : 1 ≤ v ∧ v ≤ 100) (hs : Srt a c) (hz : ∀ x : Int, 0 ≤ x → x < c → ζ 11 x = a x) (hQ : ∀ ζ' : Sf, (∀ x : Int, 0 ≤ x → x ≤ c → ζ' 11 x = ins a v x) → (∀ k : Nat, k ≠ 11 → ζ' k = ζ k) → Q none τ ζ') : C E GX kX0_insertMark d [.ref (eAd E 0), .int (zI c), .int (zI v)] τ ζ Q := by
  refine C_of (by decide) rfl rfl ?_
  show R E GX kX0_insertMark d 0 [some (.ref (eAd E 0)), some (.int (zI c)), some (.int (zI v)), none] [] τ ζ Q
  have fin : ∀ (i : Int) (ζ' : Sf), 0 ≤ i → i ≤ c → (∀ x : Int, 0 ≤ x → x < i → ζ' 11 x = a x) → (∀ x : Int, i < x → x ≤ c → ζ' 11 x = a (x - 1)) → (∀ x : Int, i ≤ x → x < c → v < a x) → (∀ k : Nat, k ≠ 11 → ζ' k = ζ k) → (i = 0 ∨ a (i - 1) ≤ v) → R E GX kX0_insertMark d 38 [some (.ref (eAd E 0)), some (.int (zI c)), some (.int (zI v)), some (.int (zI i))] [] τ ζ' Q := by
    intro i ζ' h1 h2 hA hB hC hK hE
    refine R_aload_n dX0_insertMark_38 rfl ?_
    refine R_getR fX0_insertMark_47 dX0_insertMark_39 ?_
    refine R_iload_n dX0_insertMark_42 rfl ?_
    refine R_iload_n dX0_insertMark_43 rfl ?_
    refine R_iasts (q := 11) GXok rfl rfl (by omega) rfl dX0_insertMark_44 ?_
    refine R_vret rfl dX0_insertMark_45 ?_
    refine hQ _ (fun x hx1 hx2 => ?_) (fun k hk => by rw [up_ne hk]; exact hK k hk)
    rw [up_at]
    unfold ins
    have m1 := hs.mono (show x - 1 ≤ x by omega)
    by_cases hx : x = i
    · subst hx
      rw [if_pos rfl]
      have g1 : x < c → v < a x := hC x (by omega)
      have g2 : c ≤ x → a x = 1000 := hs.2.2.1 x
      have g3 : x - 1 < 0 → a (x - 1) = 0 := hs.2.1 (x - 1)
      omega
    · rw [if_neg hx]
      by_cases hx3 : x < i
      · rw [hA x hx1 hx3]
        have m2 := hs.mono (show x ≤ i - 1 by omega)
        omega
      · rw [hB x (by omega) hx2]
        have g1 := hC (x - 1) (by omega) (by omega)
        omega
  have loop : ∀ (N : Nat) (i : Int) (ζ' : Sf), i.toNat = N → 0 ≤ i → i ≤ c → (∀ x : Int, 0 ≤ x → x < i → ζ' 11 x = a x) → (∀ x : Int, i < x → x ≤ c → ζ' 11 x = a (x - 1)) → (∀ x : Int, i ≤ x → x < c → v < a x) → (∀ k : Nat, k ≠ 11 → ζ' k = ζ k) → R E GX kX0_insertMark d 2 [some (.ref (eAd E 0)), some (.int (zI c)), some (.int (zI v)), some (.int (zI i))] [] τ ζ' Q := by
    refine st_ind (fun N ih => ?_)
    intro i ζ' hN h1 h2 hA hB hC hK
    refine R_iload_n dX0_insertMark_2 rfl ?_
    refine R_if_le (tgt := 38) (by omega) dX0_insertMark_3 (by decide) (fun c3 => ?_) (fun c3 => ?_)
    · exact fin i ζ' h1 h2 hA hB hC hK (by omega)
    · have hi1 := hA (i - 1) (by omega) (by omega)
      have hi2 := hs.2.2.2 (i - 1) (by omega) (by omega)
      refine R_aload_n dX0_insertMark_6 rfl ?_
      refine R_getR fX0_insertMark_47 dX0_insertMark_7 ?_
      refine R_iload_n dX0_insertMark_10 rfl ?_
      refine R_iconst dX0_insertMark_11 ?_
      refine R_isub dX0_insertMark_12 ?_
      refine R_ialds (q := 11) rfl rfl (by omega) rfl dX0_insertMark_13 ?_
      refine R_iload_n dX0_insertMark_14 rfl ?_
      refine R_icmp_le (tgt := 38) (by omega) dX0_insertMark_15 (by decide) (fun c15 => ?_) (fun c15 => ?_)
      · exact fin i ζ' h1 h2 hA hB hC hK (by omega)
      · refine R_aload_n dX0_insertMark_18 rfl ?_
        refine R_getR fX0_insertMark_47 dX0_insertMark_19 ?_
        refine R_iload_n dX0_insertMark_22 rfl ?_
        refine R_aload_n dX0_insertMark_23 rfl ?_
        refine R_getR fX0_insertMark_47 dX0_insertMark_24 ?_
        refine R_iload_n dX0_insertMark_27 rfl ?_
        refine R_iconst dX0_insertMark_28 ?_
        refine R_isub dX0_insertMark_29 ?_
        refine R_ialds (q := 11) rfl rfl (by omega) rfl dX0_insertMark_30 ?_
        refine R_iasts (q := 11) GXok rfl rfl (by omega) rfl dX0_insertMark_31 ?_
        refine R_iinc dX0_insertMark_32 rfl rfl rfl ?_
        refine R_goto (tgt := 2) dX0_insertMark_35 (by decide) ?_
        refine ih (i - 1).toNat (by omega) (i - 1) _ rfl (by omega) (by omega) (fun x g1 g2 => ?_) (fun x g1 g2 => ?_) (fun x g1 g2 => ?_) (fun k hk => by rw [up_ne hk]; exact hK k hk)
        · rw [up_at, if_neg (by omega)]
          exact hA x g1 (by omega)
        · rw [up_at]
          by_cases hx : x = i
          · subst hx
            rw [if_pos rfl]
            exact hi1
          · rw [if_neg hx]
            exact hB x (by omega) g2
        · by_cases hx : x = i - 1
          · subst hx
            omega
          · exact hC x (by omega) g2
  refine R_iload_n dX0_insertMark_0 rfl ?_
  refine R_istore_n dX0_insertMark_1 rfl rfl ?_
  exact loop _ c ζ rfl (by omega) (by omega) hz (fun x h1 h2 => by omega) (fun x h1 h2 => by omega) (fun k _ => rfl)

set_option maxHeartbeats 4000000 in
set_option maxRecDepth 100000 in
theorem c_X0_sortMarks {E : Ev} {d : Nat} {τ ζ : Sf} {Q : Option Value → Sf → Sf → Prop} {r p : Int} (hI : InvX τ) (hr : 0 ≤ r ∧ r < 3) (hp : 0 ≤ p ∧ p < τ 20 0) (hQ : ∀ (z : Int) (ζ' : Sf), z = cn (VV τ r p) (τ 21 0) → (∀ x : Int, 0 ≤ x → x < cn (VV τ r p) (τ 21 0) → ζ' 11 x = so (VV τ r p) (τ 21 0) x) → (∀ k : Nat, k ≠ 11 → ζ' k = ζ k) → Q (some (.int (zI z))) τ ζ') : C E GX kX0_sortMarks (d + 3) [.ref (eAd E 0), .int (zI r), .int (zI p)] τ ζ Q := by
  refine C_of (by decide) rfl rfl ?_
  show R E GX kX0_sortMarks (d + 3) 0 [some (.ref (eAd E 0)), some (.int (zI r)), some (.int (zI p)), none, none, none] [] τ ζ Q
  obtain ⟨hn, hm, hmk, hys, hpu, hcu, hpl, hwe, hpr, hmi, hwo, hco, hch⟩ := id hI
  have loop : ∀ (N : Nat) (j c : Int) (o : Option Value) (ζ' : Sf), (τ 21 0 - j).toNat = N → 0 ≤ j → j ≤ τ 21 0 → c = cn (VV τ r p) j → (∀ x : Int, 0 ≤ x → x < c → ζ' 11 x = so (VV τ r p) j x) → (∀ k : Nat, k ≠ 11 → ζ' k = ζ k) → R E GX kX0_sortMarks (d + 3) 5 [some (.ref (eAd E 0)), some (.int (zI r)), some (.int (zI p)), some (.int (zI c)), some (.int (zI j)), o] [] τ ζ' Q := by
    refine st_ind (fun N ih => ?_)
    intro j c o ζ' hN hj hj2 hc hz hK
    have hb := VV_mk hI r p j
    have hS := cn_S (v := VV τ r p) hj
    have hT := so_S (v := VV τ r p) hj
    have hcb := cn_bd (v := VV τ r p) hj
    have hst := so_srt' (VV_mk hI r p) hj
    rw [← hc] at hst
    refine R_iload dX0_sortMarks_5 rfl ?_
    refine R_aload_n dX0_sortMarks_7 rfl ?_
    refine R_getI 21 fX0_sortMarks_13 rfl rfl dX0_sortMarks_8 ?_
    refine R_icmp_ge (tgt := 46) (by omega) dX0_sortMarks_11 (by decide) (fun c11 => ?_) (fun c11 => ?_)
    · refine R_iload_n dX0_sortMarks_46 rfl ?_
      refine R_iret rfl dX0_sortMarks_47 ?_
      have e : j = τ 21 0 := by omega
      subst e
      exact hQ _ _ hc (fun x h1 h2 => hz x h1 (by omega)) hK
    · refine R_aload_n dX0_sortMarks_14 rfl ?_
      refine R_iload_n dX0_sortMarks_15 rfl ?_
      refine R_iload dX0_sortMarks_16 rfl ?_
      refine R_iload_n dX0_sortMarks_18 rfl ?_
      refine R_callV3 (k2 := kX0_countedMark) dX0_sortMarks_19 rfl gX0_sortMarks_X0_countedMark kkX0_countedMark rfl rfl (Nat.le_of_ble_eq_true rfl) (c_X0_countedMark hI (by omega) (by omega) (by omega) (fun r19 h19 => ?_))
      subst h19
      show R _ _ _ _ 22 _ [_] _ _ _
      refine R_istore dX0_sortMarks_22 rfl rfl ?_
      refine R_iload dX0_sortMarks_24 rfl ?_
      refine R_iconst dX0_sortMarks_26 ?_
      refine R_icmp_eq (tgt := 40) (by omega) dX0_sortMarks_27 (by decide) (fun c27 => ?_) (fun c27 => ?_)
      · refine R_iinc dX0_sortMarks_40 rfl rfl rfl ?_
        refine R_goto (tgt := 5) dX0_sortMarks_43 (by decide) ?_
        first
        | (have hv : VV τ r p j = -1 := c27
           rw [if_pos hv] at hS hT
           refine ih (τ 21 0 - (j + 1)).toNat (by omega) (j + 1) _ _ _ rfl (by omega) (by omega) ?_ ?_ ?_
           · omega
           · rw [hT]
             exact hz
           · exact hK)
        | (have hv : VV τ r p j ≠ -1 := c27
           rw [if_neg hv] at hS hT
           refine ih (τ 21 0 - (j + 1)).toNat (by omega) (j + 1) _ _ _ rfl (by omega) (by omega) ?_ ?_ ?_
           · omega
           · rw [hT]
             exact fun x h1 h2 => hz2 x h1 (by omega)
           · exact fun k hk => (hK2 k hk).trans (hK k hk))
      · refine R_aload_n dX0_sortMarks_30 rfl ?_
        refine R_iload_n dX0_sortMarks_31 rfl ?_
        refine R_iload dX0_sortMarks_32 rfl ?_
        refine R_callV2 (k2 := kX0_insertMark) dX0_sortMarks_34 rfl gX0_sortMarks_X0_insertMark kkX0_insertMark rfl rfl (Nat.le_of_ble_eq_true rfl) (c_X0_insertMark (by omega) (by omega) hst hz (fun ζ2 hz2 hK2 => ?_))
        show R _ _ _ _ 37 _ [] _ _ _
        refine R_iinc dX0_sortMarks_37 rfl rfl rfl ?_
        refine R_iinc dX0_sortMarks_40 rfl rfl rfl ?_
        refine R_goto (tgt := 5) dX0_sortMarks_43 (by decide) ?_
        first
        | (have hv : VV τ r p j = -1 := c27
           rw [if_pos hv] at hS hT
           refine ih (τ 21 0 - (j + 1)).toNat (by omega) (j + 1) _ _ _ rfl (by omega) (by omega) ?_ ?_ ?_
           · omega
           · rw [hT]
             exact hz
           · exact hK)
        | (have hv : VV τ r p j ≠ -1 := c27
           rw [if_neg hv] at hS hT
           refine ih (τ 21 0 - (j + 1)).toNat (by omega) (j + 1) _ _ _ rfl (by omega) (by omega) ?_ ?_ ?_
           · omega
           · rw [hT]
             exact fun x h1 h2 => hz2 x h1 (by omega)
           · exact fun k hk => (hK2 k hk).trans (hK k hk))
  refine R_iconst dX0_sortMarks_0 ?_
  refine R_istore_n dX0_sortMarks_1 rfl rfl ?_
  refine R_iconst dX0_sortMarks_2 ?_
  refine R_istore dX0_sortMarks_3 rfl rfl ?_
  exact loop _ 0 0 _ ζ rfl (by omega) (by omega) (cn_0 _).symm (fun x h1 h2 => by omega) (fun k _ => rfl)

set_option maxHeartbeats 4000000 in
set_option maxRecDepth 100000 in
theorem c_X0_sumBetween {E : Ev} {d : Nat} {τ ζ : Sf} {Q : Option Value → Sf → Sf → Prop} {a b : Int} (h : 0 ≤ a ∧ a ≤ 7 ∧ 0 ≤ b ∧ b ≤ 7) (hQ : ∀ z : Int, z = sm (ζ 11) a b → Q (some (.int (zI z))) τ ζ) : C E GX kX0_sumBetween d [.ref (eAd E 0), .int (zI a), .int (zI b)] τ ζ Q := by
  refine C_of (by decide) rfl rfl ?_
  show R E GX kX0_sumBetween d 0 [some (.ref (eAd E 0)), some (.int (zI a)), some (.int (zI b)), none, none] [] τ ζ Q
  have loop : ∀ (N : Nat) (i s : Int), (b - i).toNat = N → 0 ≤ i → i ≤ 7 → s + sm (ζ 11) i b = sm (ζ 11) a b → R E GX kX0_sumBetween d 5 [some (.ref (eAd E 0)), some (.int (zI a)), some (.int (zI b)), some (.int (zI s)), some (.int (zI i))] [] τ ζ Q := by
    refine st_ind (fun N ih => ?_)
    intro i s hN hi hi2 hs
    refine R_iload dX0_sumBetween_5 rfl ?_
    refine R_iload_n dX0_sumBetween_7 rfl ?_
    refine R_icmp_ge (tgt := 27) (by omega) dX0_sumBetween_8 (by decide) (fun c8 => ?_) (fun c8 => ?_)
    · refine R_iload_n dX0_sumBetween_27 rfl ?_
      refine R_iret rfl dX0_sumBetween_28 ?_
      rw [sm_ge (by omega)] at hs
      exact hQ _ (by omega)
    · refine R_iload_n dX0_sumBetween_11 rfl ?_
      refine R_aload_n dX0_sumBetween_12 rfl ?_
      refine R_getR fX0_sumBetween_47 dX0_sumBetween_13 ?_
      refine R_iload dX0_sumBetween_16 rfl ?_
      refine R_ialds (q := 11) rfl rfl (by omega) rfl dX0_sumBetween_18 ?_
      refine R_iadd dX0_sumBetween_19 ?_
      refine R_istore_n dX0_sumBetween_20 rfl rfl ?_
      refine R_iinc dX0_sumBetween_21 rfl rfl rfl ?_
      refine R_goto (tgt := 5) dX0_sumBetween_24 (by decide) ?_
      exact ih (b - (i + 1)).toNat (by omega) (i + 1) _ rfl (by omega) (by omega) (by rw [sm_lt (by omega)] at hs; omega)
  refine R_iconst dX0_sumBetween_0 ?_
  refine R_istore_n dX0_sumBetween_1 rfl rfl ?_
  refine R_iload_n dX0_sumBetween_2 rfl ?_
  refine R_istore dX0_sumBetween_3 rfl rfl ?_
  exact loop _ a 0 rfl (by omega) (by omega) (by omega)

set_option maxHeartbeats 4000000 in
set_option maxRecDepth 100000 in
theorem c_X0_meanBetween {E : Ev} {d : Nat} {τ ζ : Sf} {Q : Option Value → Sf → Sf → Prop} {a b : Int} (h : 0 ≤ a ∧ a ≤ 7 ∧ 0 ≤ b ∧ b ≤ 7) (hz : ∀ x : Int, a ≤ x → x < b → 0 ≤ ζ 11 x ∧ ζ 11 x ≤ 100) (hQ : ∀ z : Int, z = (if b ≤ a then -1 else 176400 * sm (ζ 11) a b / (b - a)) → Q (some (.int (zI z))) τ ζ) : C E GX kX0_meanBetween (d + 1) [.ref (eAd E 0), .int (zI a), .int (zI b)] τ ζ Q := by
  refine C_of (by decide) rfl rfl ?_
  show R E GX kX0_meanBetween (d + 1) 0 [some (.ref (eAd E 0)), some (.int (zI a)), some (.int (zI b))] [] τ ζ Q
  refine R_iload_n dX0_meanBetween_0 rfl ?_
  refine R_iload_n dX0_meanBetween_1 rfl ?_
  refine R_icmp_gt (tgt := 7) (by omega) dX0_meanBetween_2 (by decide) (fun c2 => ?_) (fun c2 => ?_)
  · have hsb := sm_bd (f := ζ 11) (lo := 0) (hi := 100) (b := b) a hz (by omega)
    refine R_ldc 176400 dX0_meanBetween_7 cnX0_meanBetween_196 rfl ?_
    refine R_aload_n dX0_meanBetween_9 rfl ?_
    refine R_iload_n dX0_meanBetween_10 rfl ?_
    refine R_iload_n dX0_meanBetween_11 rfl ?_
    refine R_callV2 (k2 := kX0_sumBetween) dX0_meanBetween_12 rfl gX0_meanBetween_X0_sumBetween kkX0_sumBetween rfl rfl (Nat.le_of_ble_eq_true rfl) (c_X0_sumBetween (by omega) (fun r12 h12 => ?_))
    subst h12
    show R _ _ _ _ 15 _ [_, _] _ _ _
    refine R_imul dX0_meanBetween_15 ?_
    refine R_iload_n dX0_meanBetween_16 rfl ?_
    refine R_iload_n dX0_meanBetween_17 rfl ?_
    refine R_isub dX0_meanBetween_18 ?_
    refine R_idiv (by omega) dX0_meanBetween_19 ?_
    refine R_iret rfl dX0_meanBetween_20 ?_
    exact hQ _ (by rw [if_neg (by omega)])
  · refine R_iconst dX0_meanBetween_5 ?_
    refine R_iret rfl dX0_meanBetween_6 ?_
    exact hQ _ (by rw [if_pos (by omega)])

set_option maxHeartbeats 4000000 in
set_option maxRecDepth 100000 in
theorem c_X0_cutMean {E : Ev} {d : Nat} {τ ζ : Sf} {Q : Option Value → Sf → Sf → Prop} {c : Int} (hI : InvX τ) (hc : 1 ≤ c ∧ c ≤ 7) (hz : ∀ x : Int, 0 ≤ x → x < c → 1 ≤ ζ 11 x ∧ ζ 11 x ≤ 100) (hQ : ∀ z : Int, z = 176400 * sm (ζ 11) (if 2 * τ 4 0 < c then τ 4 0 else 0) (c - (if 2 * τ 4 0 < c then τ 4 0 else 0)) / (c - 2 * (if 2 * τ 4 0 < c then τ 4 0 else 0)) → Q (some (.int (zI z))) τ ζ) : C E GX kX0_cutMean (d + 2) [.ref (eAd E 0), .int (zI c)] τ ζ Q := by
  refine C_of (by decide) rfl rfl ?_
  show R E GX kX0_cutMean (d + 2) 0 [some (.ref (eAd E 0)), some (.int (zI c)), none] [] τ ζ Q
  obtain ⟨hn, hm, hmk, hys, hpu, hcu, hpl, hwe, hpr, hmi, hwo, hco, hch⟩ := id hI
  refine R_iload_n dX0_cutMean_0 rfl ?_
  refine R_iconst dX0_cutMean_1 ?_
  refine R_aload_n dX0_cutMean_2 rfl ?_
  refine R_getR fX0_cutMean_26 dX0_cutMean_3 ?_
  refine R_iconst dX0_cutMean_6 ?_
  refine R_iald (q := 4) rfl rfl (by omega) rfl dX0_cutMean_7 ?_
  refine R_imul dX0_cutMean_8 ?_
  refine R_icmp_le (tgt := 21) (by omega) dX0_cutMean_9 (by decide) (fun c9 => ?_) (fun c9 => ?_)
  · refine R_iconst dX0_cutMean_21 ?_
    refine R_istore_n dX0_cutMean_22 rfl rfl ?_
    refine R_aload_n dX0_cutMean_23 rfl ?_
    refine R_iload_n dX0_cutMean_24 rfl ?_
    refine R_iload_n dX0_cutMean_25 rfl ?_
    refine R_iload_n dX0_cutMean_26 rfl ?_
    refine R_isub dX0_cutMean_27 ?_
    refine R_callV2 (k2 := kX0_meanBetween) dX0_cutMean_28 rfl gX0_cutMean_X0_meanBetween kkX0_meanBetween rfl rfl (Nat.le_of_ble_eq_true rfl) (c_X0_meanBetween (by omega) (fun x g1 g2 => by have := hz x (by omega) (by omega); omega) (fun r28 h28 => ?_))
    subst h28
    show R _ _ _ _ 31 _ [_] _ _ _
    refine R_iret rfl dX0_cutMean_31 ?_
    rw [if_neg (by omega)]
    refine hQ _ ?_
    first
    | rw [if_pos (show 2 * τ 4 0 < c by omega)]
    | rw [if_neg (show ¬ 2 * τ 4 0 < c by omega)]
    congr 1
    omega
  · refine R_aload_n dX0_cutMean_12 rfl ?_
    refine R_getR fX0_cutMean_26 dX0_cutMean_13 ?_
    refine R_iconst dX0_cutMean_16 ?_
    refine R_iald (q := 4) rfl rfl (by omega) rfl dX0_cutMean_17 ?_
    refine R_goto (tgt := 22) dX0_cutMean_18 (by decide) ?_
    refine R_istore_n dX0_cutMean_22 rfl rfl ?_
    refine R_aload_n dX0_cutMean_23 rfl ?_
    refine R_iload_n dX0_cutMean_24 rfl ?_
    refine R_iload_n dX0_cutMean_25 rfl ?_
    refine R_iload_n dX0_cutMean_26 rfl ?_
    refine R_isub dX0_cutMean_27 ?_
    refine R_callV2 (k2 := kX0_meanBetween) dX0_cutMean_28 rfl gX0_cutMean_X0_meanBetween kkX0_meanBetween rfl rfl (Nat.le_of_ble_eq_true rfl) (c_X0_meanBetween (by omega) (fun x g1 g2 => by have := hz x (by omega) (by omega); omega) (fun r28 h28 => ?_))
    subst h28
    show R _ _ _ _ 31 _ [_] _ _ _
    refine R_iret rfl dX0_cutMean_31 ?_
    rw [if_neg (by omega)]
    refine hQ _ ?_
    first
    | rw [if_pos (show 2 * τ 4 0 < c by omega)]
    | rw [if_neg (show ¬ 2 * τ 4 0 < c by omega)]
    congr 1
    omega
end
