-- ===== PART A: goes FIRST, ahead of the names: the tables' words, and 'selects' of the private methods out of them =====
/-- a private method of a class that the tables say can be made, by its rows of tables_1 -/
def lw_okq (q : MethodName × Nat) : Prop := (q.1.cls ≠ "java/lang/invoke/MethodHandle" ∧ q.1.cls ≠ "java/lang/invoke/VarHandle") ∧ Cond.instantiable q.1.cls q.2 ∈ tables_1 ∧ Cond.privateMethod q.1 ∈ tables_1 ∧ Cond.instanceMethod q.1 ∈ tables_1
theorem lw_p0 : lw_okq (⟨"BannedRows$Arcs", "setEnds", "(LBannedRows$Ban;)V"⟩, 8) := ⟨⟨by decide +kernel, by decide +kernel⟩, List.mem_of_getElem? (i := 121) (by decide +kernel), List.mem_of_getElem? (i := 182) (by decide +kernel), List.mem_of_getElem? (i := 183) (by decide +kernel)⟩
theorem lw_p1 : lw_okq (⟨"BannedRows$Ban", "leadOfRuns", "(II)I"⟩, 5) := ⟨⟨by decide +kernel, by decide +kernel⟩, List.mem_of_getElem? (i := 45) (by decide +kernel), List.mem_of_getElem? (i := 197) (by decide +kernel), List.mem_of_getElem? (i := 198) (by decide +kernel)⟩
theorem lw_p2 : lw_okq (⟨"BannedRows$Ban", "leadOfCharge", "(II)I"⟩, 5) := ⟨⟨by decide +kernel, by decide +kernel⟩, List.mem_of_getElem? (i := 45) (by decide +kernel), List.mem_of_getElem? (i := 201) (by decide +kernel), List.mem_of_getElem? (i := 202) (by decide +kernel)⟩
theorem lw_p3 : lw_okq (⟨"BannedRows$Ban", "leadOfWord", "(II)I"⟩, 5) := ⟨⟨by decide +kernel, by decide +kernel⟩, List.mem_of_getElem? (i := 45) (by decide +kernel), List.mem_of_getElem? (i := 205) (by decide +kernel), List.mem_of_getElem? (i := 206) (by decide +kernel)⟩
theorem lw_p4 : lw_okq (⟨"BannedRows$Ban", "firstBits", "(I)I"⟩, 5) := ⟨⟨by decide +kernel, by decide +kernel⟩, List.mem_of_getElem? (i := 45) (by decide +kernel), List.mem_of_getElem? (i := 209) (by decide +kernel), List.mem_of_getElem? (i := 210) (by decide +kernel)⟩
theorem lw_p5 : lw_okq (⟨"BannedRows$Arcs", "setGood", "(I)V"⟩, 8) := ⟨⟨by decide +kernel, by decide +kernel⟩, List.mem_of_getElem? (i := 121) (by decide +kernel), List.mem_of_getElem? (i := 217) (by decide +kernel), List.mem_of_getElem? (i := 218) (by decide +kernel)⟩
theorem lw_p6 : lw_okq (⟨"BannedRows$Arcs", "arcsToGood", "(I)I"⟩, 8) := ⟨⟨by decide +kernel, by decide +kernel⟩, List.mem_of_getElem? (i := 121) (by decide +kernel), List.mem_of_getElem? (i := 224) (by decide +kernel), List.mem_of_getElem? (i := 225) (by decide +kernel)⟩
theorem lw_p7 : lw_okq (⟨"BannedRows$Arcs", "setTags", "(I)V"⟩, 8) := ⟨⟨by decide +kernel, by decide +kernel⟩, List.mem_of_getElem? (i := 121) (by decide +kernel), List.mem_of_getElem? (i := 232) (by decide +kernel), List.mem_of_getElem? (i := 233) (by decide +kernel)⟩
theorem lw_p8 : lw_okq (⟨"BannedRows$Arcs", "lowestGood", "()I"⟩, 8) := ⟨⟨by decide +kernel, by decide +kernel⟩, List.mem_of_getElem? (i := 121) (by decide +kernel), List.mem_of_getElem? (i := 236) (by decide +kernel), List.mem_of_getElem? (i := 237) (by decide +kernel)⟩
theorem lw_p9 : lw_okq (⟨"BannedRows$Arcs", "narrowestWindow", "()I"⟩, 8) := ⟨⟨by decide +kernel, by decide +kernel⟩, List.mem_of_getElem? (i := 121) (by decide +kernel), List.mem_of_getElem? (i := 240) (by decide +kernel), List.mem_of_getElem? (i := 241) (by decide +kernel)⟩
theorem lw_p10 : lw_okq (⟨"BannedRows$Arcs", "isDoubtful", "()Z"⟩, 8) := ⟨⟨by decide +kernel, by decide +kernel⟩, List.mem_of_getElem? (i := 121) (by decide +kernel), List.mem_of_getElem? (i := 244) (by decide +kernel), List.mem_of_getElem? (i := 245) (by decide +kernel)⟩
theorem lw_p11 : lw_okq (⟨"BannedRows$Arcs", "goOnAlike", "(III)Z"⟩, 8) := ⟨⟨by decide +kernel, by decide +kernel⟩, List.mem_of_getElem? (i := 121) (by decide +kernel), List.mem_of_getElem? (i := 248) (by decide +kernel), List.mem_of_getElem? (i := 249) (by decide +kernel)⟩
theorem lw_p12 : lw_okq (⟨"BannedRows$Arcs", "lengthenMates", "()V"⟩, 8) := ⟨⟨by decide +kernel, by decide +kernel⟩, List.mem_of_getElem? (i := 121) (by decide +kernel), List.mem_of_getElem? (i := 256) (by decide +kernel), List.mem_of_getElem? (i := 257) (by decide +kernel)⟩
theorem lw_p13 : lw_okq (⟨"BannedRows$Text", "isTokenStart", "(I)Z"⟩, 5) := ⟨⟨by decide +kernel, by decide +kernel⟩, List.mem_of_getElem? (i := 21) (by decide +kernel), List.mem_of_getElem? (i := 323) (by decide +kernel), List.mem_of_getElem? (i := 324) (by decide +kernel)⟩
theorem lw_p14 : lw_okq (⟨"BannedRows$Text", "letterAt", "(I)I"⟩, 5) := ⟨⟨by decide +kernel, by decide +kernel⟩, List.mem_of_getElem? (i := 21) (by decide +kernel), List.mem_of_getElem? (i := 327) (by decide +kernel), List.mem_of_getElem? (i := 328) (by decide +kernel)⟩
theorem lw_p15 : lw_okq (⟨"BannedRows$Text", "isFigure", "(I)Z"⟩, 5) := ⟨⟨by decide +kernel, by decide +kernel⟩, List.mem_of_getElem? (i := 21) (by decide +kernel), List.mem_of_getElem? (i := 331) (by decide +kernel), List.mem_of_getElem? (i := 332) (by decide +kernel)⟩
def lw_privs_1 : List (MethodName × Nat) := [(⟨"BannedRows$Arcs", "setEnds", "(LBannedRows$Ban;)V"⟩, 8), (⟨"BannedRows$Ban", "leadOfRuns", "(II)I"⟩, 5), (⟨"BannedRows$Ban", "leadOfCharge", "(II)I"⟩, 5), (⟨"BannedRows$Ban", "leadOfWord", "(II)I"⟩, 5), (⟨"BannedRows$Ban", "firstBits", "(I)I"⟩, 5), (⟨"BannedRows$Arcs", "setGood", "(I)V"⟩, 8), (⟨"BannedRows$Arcs", "arcsToGood", "(I)I"⟩, 8), (⟨"BannedRows$Arcs", "setTags", "(I)V"⟩, 8), (⟨"BannedRows$Arcs", "lowestGood", "()I"⟩, 8), (⟨"BannedRows$Arcs", "narrowestWindow", "()I"⟩, 8), (⟨"BannedRows$Arcs", "isDoubtful", "()Z"⟩, 8), (⟨"BannedRows$Arcs", "goOnAlike", "(III)Z"⟩, 8), (⟨"BannedRows$Arcs", "lengthenMates", "()V"⟩, 8), (⟨"BannedRows$Text", "isTokenStart", "(I)Z"⟩, 5), (⟨"BannedRows$Text", "letterAt", "(I)I"⟩, 5), (⟨"BannedRows$Text", "isFigure", "(I)Z"⟩, 5)]
theorem lw_r1 : ∀ q ∈ lw_privs_1, lw_okq q := List.forall_mem_cons.mpr ⟨lw_p0, List.forall_mem_cons.mpr ⟨lw_p1, List.forall_mem_cons.mpr ⟨lw_p2, List.forall_mem_cons.mpr ⟨lw_p3, List.forall_mem_cons.mpr ⟨lw_p4, List.forall_mem_cons.mpr ⟨lw_p5, List.forall_mem_cons.mpr ⟨lw_p6, List.forall_mem_cons.mpr ⟨lw_p7, List.forall_mem_cons.mpr ⟨lw_p8, List.forall_mem_cons.mpr ⟨lw_p9, List.forall_mem_cons.mpr ⟨lw_p10, List.forall_mem_cons.mpr ⟨lw_p11, List.forall_mem_cons.mpr ⟨lw_p12, List.forall_mem_cons.mpr ⟨lw_p13, List.forall_mem_cons.mpr ⟨lw_p14, List.forall_mem_cons.mpr ⟨lw_p15, fun _ h => absurd h List.not_mem_nil⟩⟩⟩⟩⟩⟩⟩⟩⟩⟩⟩⟩⟩⟩⟩⟩
theorem lw_p16 : lw_okq (⟨"BannedRows$Text", "takes", "(ILBannedRows$Ban;)Z"⟩, 5) := ⟨⟨by decide +kernel, by decide +kernel⟩, List.mem_of_getElem? (i := 21) (by decide +kernel), List.mem_of_getElem? (i := 335) (by decide +kernel), List.mem_of_getElem? (i := 336) (by decide +kernel)⟩
theorem lw_p17 : lw_okq (⟨"BannedRows$Text", "takesSort", "(ILBannedRows$Ban;)Z"⟩, 5) := ⟨⟨by decide +kernel, by decide +kernel⟩, List.mem_of_getElem? (i := 21) (by decide +kernel), List.mem_of_getElem? (i := 339) (by decide +kernel), List.mem_of_getElem? (i := 340) (by decide +kernel)⟩
theorem lw_p18 : lw_okq (⟨"BannedRows$Text", "figureAt", "(III)I"⟩, 5) := ⟨⟨by decide +kernel, by decide +kernel⟩, List.mem_of_getElem? (i := 21) (by decide +kernel), List.mem_of_getElem? (i := 343) (by decide +kernel), List.mem_of_getElem? (i := 344) (by decide +kernel)⟩
theorem lw_p19 : lw_okq (⟨"BannedRows$Text", "tokenLength", "(I)I"⟩, 5) := ⟨⟨by decide +kernel, by decide +kernel⟩, List.mem_of_getElem? (i := 21) (by decide +kernel), List.mem_of_getElem? (i := 347) (by decide +kernel), List.mem_of_getElem? (i := 348) (by decide +kernel)⟩
theorem lw_p20 : lw_okq (⟨"BannedRows$Text", "bitsAt", "(II)I"⟩, 5) := ⟨⟨by decide +kernel, by decide +kernel⟩, List.mem_of_getElem? (i := 21) (by decide +kernel), List.mem_of_getElem? (i := 354) (by decide +kernel), List.mem_of_getElem? (i := 355) (by decide +kernel)⟩
theorem lw_p21 : lw_okq (⟨"BannedRows$Text", "takesRate", "(I)Z"⟩, 5) := ⟨⟨by decide +kernel, by decide +kernel⟩, List.mem_of_getElem? (i := 21) (by decide +kernel), List.mem_of_getElem? (i := 358) (by decide +kernel), List.mem_of_getElem? (i := 359) (by decide +kernel)⟩
theorem lw_p22 : lw_okq (⟨"BannedRows", "remember", "()V"⟩, 11) := ⟨⟨by decide +kernel, by decide +kernel⟩, List.mem_of_getElem? (i := 13) (by decide +kernel), List.mem_of_getElem? (i := 362) (by decide +kernel), List.mem_of_getElem? (i := 363) (by decide +kernel)⟩
theorem lw_p23 : lw_okq (⟨"BannedRows", "become", "(LBannedRows$Held;)V"⟩, 11) := ⟨⟨by decide +kernel, by decide +kernel⟩, List.mem_of_getElem? (i := 13) (by decide +kernel), List.mem_of_getElem? (i := 406) (by decide +kernel), List.mem_of_getElem? (i := 407) (by decide +kernel)⟩
theorem lw_p24 : lw_okq (⟨"BannedRows", "isNoState", "(I)Z"⟩, 11) := ⟨⟨by decide +kernel, by decide +kernel⟩, List.mem_of_getElem? (i := 13) (by decide +kernel), List.mem_of_getElem? (i := 414) (by decide +kernel), List.mem_of_getElem? (i := 415) (by decide +kernel)⟩
theorem lw_p25 : lw_okq (⟨"BannedRows", "isNoWord", "(I)Z"⟩, 11) := ⟨⟨by decide +kernel, by decide +kernel⟩, List.mem_of_getElem? (i := 13) (by decide +kernel), List.mem_of_getElem? (i := 423) (by decide +kernel), List.mem_of_getElem? (i := 424) (by decide +kernel)⟩
theorem lw_p26 : lw_okq (⟨"BannedRows$Sums", "setAll", "(II)V"⟩, 2) := ⟨⟨by decide +kernel, by decide +kernel⟩, List.mem_of_getElem? (i := 157) (by decide +kernel), List.mem_of_getElem? (i := 449) (by decide +kernel), List.mem_of_getElem? (i := 450) (by decide +kernel)⟩
theorem lw_p27 : lw_okq (⟨"BannedRows$Sums", "lessen", "(LBannedRows$Arcs;I)Z"⟩, 2) := ⟨⟨by decide +kernel, by decide +kernel⟩, List.mem_of_getElem? (i := 157) (by decide +kernel), List.mem_of_getElem? (i := 453) (by decide +kernel), List.mem_of_getElem? (i := 454) (by decide +kernel)⟩
theorem lw_p28 : lw_okq (⟨"BannedRows$Sums", "sumOver", "(LBannedRows$Arcs;I)I"⟩, 2) := ⟨⟨by decide +kernel, by decide +kernel⟩, List.mem_of_getElem? (i := 157) (by decide +kernel), List.mem_of_getElem? (i := 457) (by decide +kernel), List.mem_of_getElem? (i := 458) (by decide +kernel)⟩
theorem lw_p29 : lw_okq (⟨"BannedRows$Sums", "total", "()I"⟩, 2) := ⟨⟨by decide +kernel, by decide +kernel⟩, List.mem_of_getElem? (i := 157) (by decide +kernel), List.mem_of_getElem? (i := 473) (by decide +kernel), List.mem_of_getElem? (i := 474) (by decide +kernel)⟩
theorem lw_p30 : lw_okq (⟨"BannedRows$Sums", "lengthenRows", "(LBannedRows$Ban;)V"⟩, 2) := ⟨⟨by decide +kernel, by decide +kernel⟩, List.mem_of_getElem? (i := 157) (by decide +kernel), List.mem_of_getElem? (i := 489) (by decide +kernel), List.mem_of_getElem? (i := 490) (by decide +kernel)⟩
theorem lw_p31 : lw_okq (⟨"BannedRows", "readByStates", "(I)I"⟩, 11) := ⟨⟨by decide +kernel, by decide +kernel⟩, List.mem_of_getElem? (i := 13) (by decide +kernel), List.mem_of_getElem? (i := 507) (by decide +kernel), List.mem_of_getElem? (i := 508) (by decide +kernel)⟩
def lw_privs_2 : List (MethodName × Nat) := [(⟨"BannedRows$Text", "takes", "(ILBannedRows$Ban;)Z"⟩, 5), (⟨"BannedRows$Text", "takesSort", "(ILBannedRows$Ban;)Z"⟩, 5), (⟨"BannedRows$Text", "figureAt", "(III)I"⟩, 5), (⟨"BannedRows$Text", "tokenLength", "(I)I"⟩, 5), (⟨"BannedRows$Text", "bitsAt", "(II)I"⟩, 5), (⟨"BannedRows$Text", "takesRate", "(I)Z"⟩, 5), (⟨"BannedRows", "remember", "()V"⟩, 11), (⟨"BannedRows", "become", "(LBannedRows$Held;)V"⟩, 11), (⟨"BannedRows", "isNoState", "(I)Z"⟩, 11), (⟨"BannedRows", "isNoWord", "(I)Z"⟩, 11), (⟨"BannedRows$Sums", "setAll", "(II)V"⟩, 2), (⟨"BannedRows$Sums", "lessen", "(LBannedRows$Arcs;I)Z"⟩, 2), (⟨"BannedRows$Sums", "sumOver", "(LBannedRows$Arcs;I)I"⟩, 2), (⟨"BannedRows$Sums", "total", "()I"⟩, 2), (⟨"BannedRows$Sums", "lengthenRows", "(LBannedRows$Ban;)V"⟩, 2), (⟨"BannedRows", "readByStates", "(I)I"⟩, 11)]
theorem lw_r2 : ∀ q ∈ lw_privs_2, lw_okq q := List.forall_mem_cons.mpr ⟨lw_p16, List.forall_mem_cons.mpr ⟨lw_p17, List.forall_mem_cons.mpr ⟨lw_p18, List.forall_mem_cons.mpr ⟨lw_p19, List.forall_mem_cons.mpr ⟨lw_p20, List.forall_mem_cons.mpr ⟨lw_p21, List.forall_mem_cons.mpr ⟨lw_p22, List.forall_mem_cons.mpr ⟨lw_p23, List.forall_mem_cons.mpr ⟨lw_p24, List.forall_mem_cons.mpr ⟨lw_p25, List.forall_mem_cons.mpr ⟨lw_p26, List.forall_mem_cons.mpr ⟨lw_p27, List.forall_mem_cons.mpr ⟨lw_p28, List.forall_mem_cons.mpr ⟨lw_p29, List.forall_mem_cons.mpr ⟨lw_p30, List.forall_mem_cons.mpr ⟨lw_p31, fun _ h => absurd h List.not_mem_nil⟩⟩⟩⟩⟩⟩⟩⟩⟩⟩⟩⟩⟩⟩⟩⟩
theorem lw_p32 : lw_okq (⟨"BannedRows", "readByWindow", "(I)I"⟩, 11) := ⟨⟨by decide +kernel, by decide +kernel⟩, List.mem_of_getElem? (i := 13) (by decide +kernel), List.mem_of_getElem? (i := 511) (by decide +kernel), List.mem_of_getElem? (i := 512) (by decide +kernel)⟩
theorem lw_p33 : lw_okq (⟨"BannedRows", "origins", "()I"⟩, 11) := ⟨⟨by decide +kernel, by decide +kernel⟩, List.mem_of_getElem? (i := 13) (by decide +kernel), List.mem_of_getElem? (i := 535) (by decide +kernel), List.mem_of_getElem? (i := 536) (by decide +kernel)⟩
theorem lw_p34 : lw_okq (⟨"BannedRows", "endOfSeen", "(I)I"⟩, 11) := ⟨⟨by decide +kernel, by decide +kernel⟩, List.mem_of_getElem? (i := 13) (by decide +kernel), List.mem_of_getElem? (i := 539) (by decide +kernel), List.mem_of_getElem? (i := 540) (by decide +kernel)⟩
theorem lw_p35 : lw_okq (⟨"BannedRows", "presentStates", "()I"⟩, 11) := ⟨⟨by decide +kernel, by decide +kernel⟩, List.mem_of_getElem? (i := 13) (by decide +kernel), List.mem_of_getElem? (i := 543) (by decide +kernel), List.mem_of_getElem? (i := 544) (by decide +kernel)⟩
theorem lw_p36 : lw_okq (⟨"BannedRows$Arcs", "withWord", "(III)I"⟩, 8) := ⟨⟨by decide +kernel, by decide +kernel⟩, List.mem_of_getElem? (i := 121) (by decide +kernel), List.mem_of_getElem? (i := 562) (by decide +kernel), List.mem_of_getElem? (i := 563) (by decide +kernel)⟩
theorem lw_p37 : lw_okq (⟨"BannedRowsModel", "begins", "()V"⟩, 22) := ⟨⟨by decide +kernel, by decide +kernel⟩, List.mem_of_getElem? (i := 588) (by decide +kernel), List.mem_of_getElem? (i := 594) (by decide +kernel), List.mem_of_getElem? (i := 595) (by decide +kernel)⟩
theorem lw_p38 : lw_okq (⟨"BannedRowsModel", "finds", "()V"⟩, 22) := ⟨⟨by decide +kernel, by decide +kernel⟩, List.mem_of_getElem? (i := 588) (by decide +kernel), List.mem_of_getElem? (i := 598) (by decide +kernel), List.mem_of_getElem? (i := 599) (by decide +kernel)⟩
theorem lw_p39 : lw_okq (⟨"BannedRowsModel", "layArcs", "()V"⟩, 22) := ⟨⟨by decide +kernel, by decide +kernel⟩, List.mem_of_getElem? (i := 588) (by decide +kernel), List.mem_of_getElem? (i := 602) (by decide +kernel), List.mem_of_getElem? (i := 603) (by decide +kernel)⟩
theorem lw_p40 : lw_okq (⟨"BannedRowsModel", "states", "()I"⟩, 22) := ⟨⟨by decide +kernel, by decide +kernel⟩, List.mem_of_getElem? (i := 588) (by decide +kernel), List.mem_of_getElem? (i := 606) (by decide +kernel), List.mem_of_getElem? (i := 607) (by decide +kernel)⟩
theorem lw_p41 : lw_okq (⟨"BannedRowsModel", "words", "()I"⟩, 22) := ⟨⟨by decide +kernel, by decide +kernel⟩, List.mem_of_getElem? (i := 588) (by decide +kernel), List.mem_of_getElem? (i := 610) (by decide +kernel), List.mem_of_getElem? (i := 611) (by decide +kernel)⟩
theorem lw_p42 : lw_okq (⟨"BannedRowsModel", "stepOf", "(II)I"⟩, 22) := ⟨⟨by decide +kernel, by decide +kernel⟩, List.mem_of_getElem? (i := 588) (by decide +kernel), List.mem_of_getElem? (i := 614) (by decide +kernel), List.mem_of_getElem? (i := 615) (by decide +kernel)⟩
theorem lw_p43 : lw_okq (⟨"BannedRowsModel", "border", "(III)I"⟩, 22) := ⟨⟨by decide +kernel, by decide +kernel⟩, List.mem_of_getElem? (i := 588) (by decide +kernel), List.mem_of_getElem? (i := 621) (by decide +kernel), List.mem_of_getElem? (i := 622) (by decide +kernel)⟩
theorem lw_p44 : lw_okq (⟨"BannedRowsModel", "banned", "(I)I"⟩, 22) := ⟨⟨by decide +kernel, by decide +kernel⟩, List.mem_of_getElem? (i := 588) (by decide +kernel), List.mem_of_getElem? (i := 625) (by decide +kernel), List.mem_of_getElem? (i := 626) (by decide +kernel)⟩
theorem lw_p45 : lw_okq (⟨"BannedRowsModel", "goodArcs", "(I)I"⟩, 22) := ⟨⟨by decide +kernel, by decide +kernel⟩, List.mem_of_getElem? (i := 588) (by decide +kernel), List.mem_of_getElem? (i := 629) (by decide +kernel), List.mem_of_getElem? (i := 630) (by decide +kernel)⟩
theorem lw_p46 : lw_okq (⟨"BannedRowsModel", "lead", "(II)I"⟩, 22) := ⟨⟨by decide +kernel, by decide +kernel⟩, List.mem_of_getElem? (i := 588) (by decide +kernel), List.mem_of_getElem? (i := 633) (by decide +kernel), List.mem_of_getElem? (i := 634) (by decide +kernel)⟩
theorem lw_p47 : lw_okq (⟨"BannedRowsModel", "takesAll", "()Z"⟩, 22) := ⟨⟨by decide +kernel, by decide +kernel⟩, List.mem_of_getElem? (i := 588) (by decide +kernel), List.mem_of_getElem? (i := 716) (by decide +kernel), List.mem_of_getElem? (i := 717) (by decide +kernel)⟩
def lw_privs_3 : List (MethodName × Nat) := [(⟨"BannedRows", "readByWindow", "(I)I"⟩, 11), (⟨"BannedRows", "origins", "()I"⟩, 11), (⟨"BannedRows", "endOfSeen", "(I)I"⟩, 11), (⟨"BannedRows", "presentStates", "()I"⟩, 11), (⟨"BannedRows$Arcs", "withWord", "(III)I"⟩, 8), (⟨"BannedRowsModel", "begins", "()V"⟩, 22), (⟨"BannedRowsModel", "finds", "()V"⟩, 22), (⟨"BannedRowsModel", "layArcs", "()V"⟩, 22), (⟨"BannedRowsModel", "states", "()I"⟩, 22), (⟨"BannedRowsModel", "words", "()I"⟩, 22), (⟨"BannedRowsModel", "stepOf", "(II)I"⟩, 22), (⟨"BannedRowsModel", "border", "(III)I"⟩, 22), (⟨"BannedRowsModel", "banned", "(I)I"⟩, 22), (⟨"BannedRowsModel", "goodArcs", "(I)I"⟩, 22), (⟨"BannedRowsModel", "lead", "(II)I"⟩, 22), (⟨"BannedRowsModel", "takesAll", "()Z"⟩, 22)]
theorem lw_r3 : ∀ q ∈ lw_privs_3, lw_okq q := List.forall_mem_cons.mpr ⟨lw_p32, List.forall_mem_cons.mpr ⟨lw_p33, List.forall_mem_cons.mpr ⟨lw_p34, List.forall_mem_cons.mpr ⟨lw_p35, List.forall_mem_cons.mpr ⟨lw_p36, List.forall_mem_cons.mpr ⟨lw_p37, List.forall_mem_cons.mpr ⟨lw_p38, List.forall_mem_cons.mpr ⟨lw_p39, List.forall_mem_cons.mpr ⟨lw_p40, List.forall_mem_cons.mpr ⟨lw_p41, List.forall_mem_cons.mpr ⟨lw_p42, List.forall_mem_cons.mpr ⟨lw_p43, List.forall_mem_cons.mpr ⟨lw_p44, List.forall_mem_cons.mpr ⟨lw_p45, List.forall_mem_cons.mpr ⟨lw_p46, List.forall_mem_cons.mpr ⟨lw_p47, fun _ h => absurd h List.not_mem_nil⟩⟩⟩⟩⟩⟩⟩⟩⟩⟩⟩⟩⟩⟩⟩⟩
theorem lw_p48 : lw_okq (⟨"BannedRowsModel", "takesBan", "()Z"⟩, 22) := ⟨⟨by decide +kernel, by decide +kernel⟩, List.mem_of_getElem? (i := 588) (by decide +kernel), List.mem_of_getElem? (i := 720) (by decide +kernel), List.mem_of_getElem? (i := 721) (by decide +kernel)⟩
theorem lw_p49 : lw_okq (⟨"BannedRowsModel", "takes", "(I)Z"⟩, 22) := ⟨⟨by decide +kernel, by decide +kernel⟩, List.mem_of_getElem? (i := 588) (by decide +kernel), List.mem_of_getElem? (i := 724) (by decide +kernel), List.mem_of_getElem? (i := 725) (by decide +kernel)⟩
theorem lw_p50 : lw_okq (⟨"BannedRowsModel", "here", "()I"⟩, 22) := ⟨⟨by decide +kernel, by decide +kernel⟩, List.mem_of_getElem? (i := 588) (by decide +kernel), List.mem_of_getElem? (i := 728) (by decide +kernel), List.mem_of_getElem? (i := 729) (by decide +kernel)⟩
theorem lw_p51 : lw_okq (⟨"BannedRowsModel", "takesNumber", "(II)Z"⟩, 22) := ⟨⟨by decide +kernel, by decide +kernel⟩, List.mem_of_getElem? (i := 588) (by decide +kernel), List.mem_of_getElem? (i := 732) (by decide +kernel), List.mem_of_getElem? (i := 733) (by decide +kernel)⟩
theorem lw_p52 : lw_okq (⟨"BannedRowsModel", "isFigure", "(I)Z"⟩, 22) := ⟨⟨by decide +kernel, by decide +kernel⟩, List.mem_of_getElem? (i := 588) (by decide +kernel), List.mem_of_getElem? (i := 736) (by decide +kernel), List.mem_of_getElem? (i := 737) (by decide +kernel)⟩
theorem lw_p53 : lw_okq (⟨"BannedRowsModel", "takesBits", "()Z"⟩, 22) := ⟨⟨by decide +kernel, by decide +kernel⟩, List.mem_of_getElem? (i := 588) (by decide +kernel), List.mem_of_getElem? (i := 742) (by decide +kernel), List.mem_of_getElem? (i := 743) (by decide +kernel)⟩
theorem lw_p54 : lw_okq (⟨"BannedRowsModel", "keepPast", "()V"⟩, 22) := ⟨⟨by decide +kernel, by decide +kernel⟩, List.mem_of_getElem? (i := 588) (by decide +kernel), List.mem_of_getElem? (i := 746) (by decide +kernel), List.mem_of_getElem? (i := 747) (by decide +kernel)⟩
theorem lw_p55 : lw_okq (⟨"BannedRowsModel", "wordFor", "(II)I"⟩, 22) := ⟨⟨by decide +kernel, by decide +kernel⟩, List.mem_of_getElem? (i := 588) (by decide +kernel), List.mem_of_getElem? (i := 754) (by decide +kernel), List.mem_of_getElem? (i := 755) (by decide +kernel)⟩
theorem lw_p56 : lw_okq (⟨"BannedRowsModel", "tag", "(II)I"⟩, 22) := ⟨⟨by decide +kernel, by decide +kernel⟩, List.mem_of_getElem? (i := 588) (by decide +kernel), List.mem_of_getElem? (i := 758) (by decide +kernel), List.mem_of_getElem? (i := 759) (by decide +kernel)⟩
theorem lw_p57 : lw_okq (⟨"BannedRowsModel", "isState", "(I)Z"⟩, 22) := ⟨⟨by decide +kernel, by decide +kernel⟩, List.mem_of_getElem? (i := 588) (by decide +kernel), List.mem_of_getElem? (i := 774) (by decide +kernel), List.mem_of_getElem? (i := 775) (by decide +kernel)⟩
theorem lw_p58 : lw_okq (⟨"BannedRowsModel", "weighs", "(I)V"⟩, 22) := ⟨⟨by decide +kernel, by decide +kernel⟩, List.mem_of_getElem? (i := 588) (by decide +kernel), List.mem_of_getElem? (i := 791) (by decide +kernel), List.mem_of_getElem? (i := 792) (by decide +kernel)⟩
theorem lw_p59 : lw_okq (⟨"BannedRowsModel", "start", "()I"⟩, 22) := ⟨⟨by decide +kernel, by decide +kernel⟩, List.mem_of_getElem? (i := 588) (by decide +kernel), List.mem_of_getElem? (i := 800) (by decide +kernel), List.mem_of_getElem? (i := 801) (by decide +kernel)⟩
theorem lw_p60 : lw_okq (⟨"BannedRowsModel", "byStates", "(I)I"⟩, 22) := ⟨⟨by decide +kernel, by decide +kernel⟩, List.mem_of_getElem? (i := 588) (by decide +kernel), List.mem_of_getElem? (i := 809) (by decide +kernel), List.mem_of_getElem? (i := 810) (by decide +kernel)⟩
theorem lw_p61 : lw_okq (⟨"BannedRowsModel", "byWindow", "(I)I"⟩, 22) := ⟨⟨by decide +kernel, by decide +kernel⟩, List.mem_of_getElem? (i := 588) (by decide +kernel), List.mem_of_getElem? (i := 813) (by decide +kernel), List.mem_of_getElem? (i := 814) (by decide +kernel)⟩
theorem lw_p62 : lw_okq (⟨"BannedRowsModel", "window", "()I"⟩, 22) := ⟨⟨by decide +kernel, by decide +kernel⟩, List.mem_of_getElem? (i := 588) (by decide +kernel), List.mem_of_getElem? (i := 817) (by decide +kernel), List.mem_of_getElem? (i := 818) (by decide +kernel)⟩
theorem lw_p63 : lw_okq (⟨"BannedRowsModel", "layAlike", "()V"⟩, 22) := ⟨⟨by decide +kernel, by decide +kernel⟩, List.mem_of_getElem? (i := 588) (by decide +kernel), List.mem_of_getElem? (i := 821) (by decide +kernel), List.mem_of_getElem? (i := 822) (by decide +kernel)⟩
def lw_privs_4 : List (MethodName × Nat) := [(⟨"BannedRowsModel", "takesBan", "()Z"⟩, 22), (⟨"BannedRowsModel", "takes", "(I)Z"⟩, 22), (⟨"BannedRowsModel", "here", "()I"⟩, 22), (⟨"BannedRowsModel", "takesNumber", "(II)Z"⟩, 22), (⟨"BannedRowsModel", "isFigure", "(I)Z"⟩, 22), (⟨"BannedRowsModel", "takesBits", "()Z"⟩, 22), (⟨"BannedRowsModel", "keepPast", "()V"⟩, 22), (⟨"BannedRowsModel", "wordFor", "(II)I"⟩, 22), (⟨"BannedRowsModel", "tag", "(II)I"⟩, 22), (⟨"BannedRowsModel", "isState", "(I)Z"⟩, 22), (⟨"BannedRowsModel", "weighs", "(I)V"⟩, 22), (⟨"BannedRowsModel", "start", "()I"⟩, 22), (⟨"BannedRowsModel", "byStates", "(I)I"⟩, 22), (⟨"BannedRowsModel", "byWindow", "(I)I"⟩, 22), (⟨"BannedRowsModel", "window", "()I"⟩, 22), (⟨"BannedRowsModel", "layAlike", "()V"⟩, 22)]
theorem lw_r4 : ∀ q ∈ lw_privs_4, lw_okq q := List.forall_mem_cons.mpr ⟨lw_p48, List.forall_mem_cons.mpr ⟨lw_p49, List.forall_mem_cons.mpr ⟨lw_p50, List.forall_mem_cons.mpr ⟨lw_p51, List.forall_mem_cons.mpr ⟨lw_p52, List.forall_mem_cons.mpr ⟨lw_p53, List.forall_mem_cons.mpr ⟨lw_p54, List.forall_mem_cons.mpr ⟨lw_p55, List.forall_mem_cons.mpr ⟨lw_p56, List.forall_mem_cons.mpr ⟨lw_p57, List.forall_mem_cons.mpr ⟨lw_p58, List.forall_mem_cons.mpr ⟨lw_p59, List.forall_mem_cons.mpr ⟨lw_p60, List.forall_mem_cons.mpr ⟨lw_p61, List.forall_mem_cons.mpr ⟨lw_p62, List.forall_mem_cons.mpr ⟨lw_p63, fun _ h => absurd h List.not_mem_nil⟩⟩⟩⟩⟩⟩⟩⟩⟩⟩⟩⟩⟩⟩⟩⟩
theorem lw_p64 : lw_okq (⟨"BannedRowsModel", "goOn", "(IIII)Z"⟩, 22) := ⟨⟨by decide +kernel, by decide +kernel⟩, List.mem_of_getElem? (i := 588) (by decide +kernel), List.mem_of_getElem? (i := 825) (by decide +kernel), List.mem_of_getElem? (i := 826) (by decide +kernel)⟩
theorem lw_p65 : lw_okq (⟨"BannedRowsModel", "isWide", "(I)Z"⟩, 22) := ⟨⟨by decide +kernel, by decide +kernel⟩, List.mem_of_getElem? (i := 588) (by decide +kernel), List.mem_of_getElem? (i := 829) (by decide +kernel), List.mem_of_getElem? (i := 830) (by decide +kernel)⟩
theorem lw_p66 : lw_okq (⟨"BannedRowsModel", "statesBySeen", "(Z)I"⟩, 22) := ⟨⟨by decide +kernel, by decide +kernel⟩, List.mem_of_getElem? (i := 588) (by decide +kernel), List.mem_of_getElem? (i := 849) (by decide +kernel), List.mem_of_getElem? (i := 850) (by decide +kernel)⟩
theorem lw_p67 : lw_okq (⟨"BannedRowsModel", "otherBits", "()I"⟩, 22) := ⟨⟨by decide +kernel, by decide +kernel⟩, List.mem_of_getElem? (i := 588) (by decide +kernel), List.mem_of_getElem? (i := 870) (by decide +kernel), List.mem_of_getElem? (i := 871) (by decide +kernel)⟩
def lw_privs_5 : List (MethodName × Nat) := [(⟨"BannedRowsModel", "goOn", "(IIII)Z"⟩, 22), (⟨"BannedRowsModel", "isWide", "(I)Z"⟩, 22), (⟨"BannedRowsModel", "statesBySeen", "(Z)I"⟩, 22), (⟨"BannedRowsModel", "otherBits", "()I"⟩, 22)]
theorem lw_r5 : ∀ q ∈ lw_privs_5, lw_okq q := List.forall_mem_cons.mpr ⟨lw_p64, List.forall_mem_cons.mpr ⟨lw_p65, List.forall_mem_cons.mpr ⟨lw_p66, List.forall_mem_cons.mpr ⟨lw_p67, fun _ h => absurd h List.not_mem_nil⟩⟩⟩⟩
def lw_privs : List (MethodName × Nat) := lw_privs_1 ++ (lw_privs_2 ++ (lw_privs_3 ++ (lw_privs_4 ++ (lw_privs_5))))
def lw_tbl : List Cond := k2_sels lw_privs ++ tables_1
theorem lw_privs_ok : ∀ q ∈ lw_privs, lw_okq q := by
  show ∀ q ∈ lw_privs_1 ++ (lw_privs_2 ++ (lw_privs_3 ++ (lw_privs_4 ++ (lw_privs_5)))), lw_okq q
  exact List.forall_mem_append.mpr ⟨lw_r1, List.forall_mem_append.mpr ⟨lw_r2, List.forall_mem_append.mpr ⟨lw_r3, List.forall_mem_append.mpr ⟨lw_r4, lw_r5⟩⟩⟩⟩

def RX0 : String := "BannedRows$Arcs"
def TX0 : u_T := fun k => match k with
  | 0 => ("BannedRows$Arcs", "states", "I", false)
  | 1 => ("BannedRows$Arcs", "good", "I", false)
  | 2 => ("BannedRows$Arcs", "begin", "I", false)
  | 3 => ("BannedRows$Arcs", "window", "I", false)
  | 4 => ("BannedRows$Arcs", "ends", "[I", true)
  | 5 => ("BannedRows$Arcs", "tags", "[I", true)
  | 6 => ("BannedRows$Arcs", "mates", "[I", true)
  | _ => ("BannedRows$Arcs", "nextMates", "[I", true)
def tyX0 : Nat → FieldType := fun k => match k with
  | 0 => .int
  | 1 => .int
  | 2 => .int
  | 3 => .int
  | 4 => .array .int
  | 5 => .array .int
  | 6 => .array .int
  | _ => .array .int
theorem nmX0 : ∀ a, a < 8 → ∀ b, b < 8 → a ≠ b → (TX0 a).2.1 ≠ (TX0 b).2.1 := by decide +kernel
theorem tyX0_ok : ∀ k, k < 8 → parseFieldDescriptor (TX0 k).2.2.1 = some (tyX0 k) := by decide +kernel
abbrev cX0_init : ByteArray := prog_2_method_1_code
def yX0_init : MethodName := ⟨RX0, "<init>", "()V"⟩
abbrev cX0_build : ByteArray := prog_2_method_2_code
def yX0_build : MethodName := ⟨RX0, "build", "(LBannedRows$Ban;)V"⟩
abbrev cX0_endOf : ByteArray := prog_2_method_3_code
def yX0_endOf : MethodName := ⟨RX0, "endOf", "(II)I"⟩
abbrev cX0_tagOf : ByteArray := prog_2_method_4_code
def yX0_tagOf : MethodName := ⟨RX0, "tagOf", "(II)I"⟩
abbrev cX0_isGood : ByteArray := prog_2_method_5_code
def yX0_isGood : MethodName := ⟨RX0, "isGood", "(I)Z"⟩
abbrev cX0_arcsFrom : ByteArray := prog_2_method_6_code
def yX0_arcsFrom : MethodName := ⟨RX0, "arcsFrom", "(I)I"⟩
abbrev cX0_wordWith : ByteArray := prog_2_method_7_code
def yX0_wordWith : MethodName := ⟨RX0, "wordWith", "(II)I"⟩
abbrev cX0_follow : ByteArray := prog_2_method_8_code
def yX0_follow : MethodName := ⟨RX0, "follow", "(I[III)I"⟩
abbrev cX0_mostAlike : ByteArray := prog_2_method_9_code
def yX0_mostAlike : MethodName := ⟨RX0, "mostAlike", "(II)I"⟩
abbrev cX0_withWord : ByteArray := prog_2_method_10_code
def yX0_withWord : MethodName := ⟨RX0, "withWord", "(III)I"⟩
abbrev cX0_has : ByteArray := prog_2_method_11_code
def yX0_has : MethodName := ⟨RX0, "has", "(II)Z"⟩
abbrev cX0_setEnds : ByteArray := prog_2_method_12_code
def yX0_setEnds : MethodName := ⟨RX0, "setEnds", "(LBannedRows$Ban;)V"⟩
abbrev cX0_leadOver : ByteArray := prog_2_method_13_code
def yX0_leadOver : MethodName := ⟨RX0, "leadOver", "(LBannedRows$Ban;II)I"⟩
abbrev cX0_setGood : ByteArray := prog_2_method_14_code
def yX0_setGood : MethodName := ⟨RX0, "setGood", "(I)V"⟩
abbrev cX0_lowestGood : ByteArray := prog_2_method_15_code
def yX0_lowestGood : MethodName := ⟨RX0, "lowestGood", "()I"⟩
abbrev cX0_arcsToGood : ByteArray := prog_2_method_16_code
def yX0_arcsToGood : MethodName := ⟨RX0, "arcsToGood", "(I)I"⟩
abbrev cX0_setTags : ByteArray := prog_2_method_17_code
def yX0_setTags : MethodName := ⟨RX0, "setTags", "(I)V"⟩
abbrev cX0_narrowestWindow : ByteArray := prog_2_method_18_code
def yX0_narrowestWindow : MethodName := ⟨RX0, "narrowestWindow", "()I"⟩
abbrev cX0_isDoubtful : ByteArray := prog_2_method_19_code
def yX0_isDoubtful : MethodName := ⟨RX0, "isDoubtful", "()Z"⟩
abbrev cX0_goOnAlike : ByteArray := prog_2_method_20_code
def yX0_goOnAlike : MethodName := ⟨RX0, "goOnAlike", "(III)Z"⟩
abbrev cX0_lengthenMates : ByteArray := prog_2_method_21_code
def yX0_lengthenMates : MethodName := ⟨RX0, "lengthenMates", "()V"⟩
def RX1 : String := "BannedRows$Ban"
def TX1 : u_T := fun k => match k with
  | 0 => ("BannedRows$Ban", "sort", "I", false)
  | 1 => ("BannedRows$Ban", "low", "I", false)
  | 2 => ("BannedRows$Ban", "high", "I", false)
  | 3 => ("BannedRows$Ban", "p", "I", false)
  | _ => ("BannedRows$Ban", "q", "I", false)
def tyX1 : Nat → FieldType := fun k => match k with
  | 0 => .int
  | 1 => .int
  | 2 => .int
  | 3 => .int
  | _ => .int
theorem nmX1 : ∀ a, a < 5 → ∀ b, b < 5 → a ≠ b → (TX1 a).2.1 ≠ (TX1 b).2.1 := by decide +kernel
theorem tyX1_ok : ∀ k, k < 5 → parseFieldDescriptor (TX1 k).2.2.1 = some (tyX1 k) := by decide +kernel
abbrev cX1_init : ByteArray := prog_3_method_1_code
def yX1_init : MethodName := ⟨RX1, "<init>", "()V"⟩
abbrev cX1_setFirst : ByteArray := prog_3_method_2_code
def yX1_setFirst : MethodName := ⟨RX1, "setFirst", "()V"⟩
abbrev cX1_copy : ByteArray := prog_3_method_3_code
def yX1_copy : MethodName := ⟨RX1, "copy", "(LBannedRows$Ban;)V"⟩
abbrev cX1_tagCount : ByteArray := prog_3_method_4_code
def yX1_tagCount : MethodName := ⟨RX1, "tagCount", "()I"⟩
abbrev cX1_wordCount : ByteArray := prog_3_method_5_code
def yX1_wordCount : MethodName := ⟨RX1, "wordCount", "()I"⟩
abbrev cX1_stateCount : ByteArray := prog_3_method_6_code
def yX1_stateCount : MethodName := ⟨RX1, "stateCount", "()I"⟩
abbrev cX1_start : ByteArray := prog_3_method_7_code
def yX1_start : MethodName := ⟨RX1, "start", "()I"⟩
abbrev cX1_lead : ByteArray := prog_3_method_8_code
def yX1_lead : MethodName := ⟨RX1, "lead", "(II)I"⟩
abbrev cX1_leadOfRuns : ByteArray := prog_3_method_9_code
def yX1_leadOfRuns : MethodName := ⟨RX1, "leadOfRuns", "(II)I"⟩
abbrev cX1_leadOfCharge : ByteArray := prog_3_method_10_code
def yX1_leadOfCharge : MethodName := ⟨RX1, "leadOfCharge", "(II)I"⟩
abbrev cX1_leadOfWord : ByteArray := prog_3_method_11_code
def yX1_leadOfWord : MethodName := ⟨RX1, "leadOfWord", "(II)I"⟩
abbrev cX1_firstBits : ByteArray := prog_3_method_12_code
def yX1_firstBits : MethodName := ⟨RX1, "firstBits", "(I)I"⟩
def RX2 : String := "BannedRows$Held"
def TX2 : u_T := fun k => match k with
  | 0 => ("BannedRows$Held", "ban", "LBannedRows$Ban;", true)
  | _ => ("BannedRows$Held", "line", "LBannedRows$Line;", true)
def tyX2 : Nat → FieldType := fun k => match k with
  | 0 => .object "BannedRows$Ban"
  | _ => .object "BannedRows$Line"
theorem nmX2 : ∀ a, a < 2 → ∀ b, b < 2 → a ≠ b → (TX2 a).2.1 ≠ (TX2 b).2.1 := by decide +kernel
theorem tyX2_ok : ∀ k, k < 2 → parseFieldDescriptor (TX2 k).2.2.1 = some (tyX2 k) := by decide +kernel
abbrev cX2_init : ByteArray := prog_4_method_1_code
def yX2_init : MethodName := ⟨RX2, "<init>", "()V"⟩
abbrev cX2_copy : ByteArray := prog_4_method_2_code
def yX2_copy : MethodName := ⟨RX2, "copy", "(LBannedRows$Held;)V"⟩
def RX3 : String := "BannedRows$Line"
def TX3 : u_T := fun k => match k with
  | 0 => ("BannedRows$Line", "words", "[I", true)
  | 1 => ("BannedRows$Line", "sentWords", "[I", true)
  | 2 => ("BannedRows$Line", "sentTags", "[I", true)
  | 3 => ("BannedRows$Line", "size", "I", false)
  | _ => ("BannedRows$Line", "send", "I", false)
def tyX3 : Nat → FieldType := fun k => match k with
  | 0 => .array .int
  | 1 => .array .int
  | 2 => .array .int
  | 3 => .int
  | _ => .int
theorem nmX3 : ∀ a, a < 5 → ∀ b, b < 5 → a ≠ b → (TX3 a).2.1 ≠ (TX3 b).2.1 := by decide +kernel
theorem tyX3_ok : ∀ k, k < 5 → parseFieldDescriptor (TX3 k).2.2.1 = some (tyX3 k) := by decide +kernel
abbrev cX3_init : ByteArray := prog_5_method_1_code
def yX3_init : MethodName := ⟨RX3, "<init>", "()V"⟩
abbrev cX3_empty : ByteArray := prog_5_method_2_code
def yX3_empty : MethodName := ⟨RX3, "empty", "(I)V"⟩
abbrev cX3_copy : ByteArray := prog_5_method_3_code
def yX3_copy : MethodName := ⟨RX3, "copy", "(LBannedRows$Line;)V"⟩
abbrev cX3_append : ByteArray := prog_5_method_4_code
def yX3_append : MethodName := ⟨RX3, "append", "(III)V"⟩
abbrev cX3_turn : ByteArray := prog_5_method_5_code
def yX3_turn : MethodName := ⟨RX3, "turn", "(II)I"⟩
abbrev cX3_wordAt : ByteArray := prog_5_method_6_code
def yX3_wordAt : MethodName := ⟨RX3, "wordAt", "(I)I"⟩
abbrev cX3_tagAt : ByteArray := prog_5_method_7_code
def yX3_tagAt : MethodName := ⟨RX3, "tagAt", "(I)I"⟩
abbrev cX3_turnedBits : ByteArray := prog_5_method_8_code
def yX3_turnedBits : MethodName := ⟨RX3, "turnedBits", "()I"⟩
def RX4 : String := "BannedRows$Sums"
def TX4 : u_T := fun k => match k with
  | 0 => ("BannedRows$Sums", "values", "[I", true)
  | _ => ("BannedRows$Sums", "next", "[I", true)
def tyX4 : Nat → FieldType := fun k => match k with
  | 0 => .array .int
  | _ => .array .int
theorem nmX4 : ∀ a, a < 2 → ∀ b, b < 2 → a ≠ b → (TX4 a).2.1 ≠ (TX4 b).2.1 := by decide +kernel
theorem tyX4_ok : ∀ k, k < 2 → parseFieldDescriptor (TX4 k).2.2.1 = some (tyX4 k) := by decide +kernel
abbrev cX4_init : ByteArray := prog_6_method_1_code
def yX4_init : MethodName := ⟨RX4, "<init>", "()V"⟩
abbrev cX4_at : ByteArray := prog_6_method_2_code
def yX4_at : MethodName := ⟨RX4, "at", "(I)I"⟩
abbrev cX4_countRows : ByteArray := prog_6_method_3_code
def yX4_countRows : MethodName := ⟨RX4, "countRows", "(LBannedRows$Ban;I)I"⟩
abbrev cX4_settle : ByteArray := prog_6_method_4_code
def yX4_settle : MethodName := ⟨RX4, "settle", "(LBannedRows$Arcs;II)V"⟩
abbrev cX4_shareOf : ByteArray := prog_6_method_5_code
def yX4_shareOf : MethodName := ⟨RX4, "shareOf", "(I)I"⟩
abbrev cX4_setAll : ByteArray := prog_6_method_6_code
def yX4_setAll : MethodName := ⟨RX4, "setAll", "(II)V"⟩
abbrev cX4_total : ByteArray := prog_6_method_7_code
def yX4_total : MethodName := ⟨RX4, "total", "()I"⟩
abbrev cX4_lengthenRows : ByteArray := prog_6_method_8_code
def yX4_lengthenRows : MethodName := ⟨RX4, "lengthenRows", "(LBannedRows$Ban;)V"⟩
abbrev cX4_lessen : ByteArray := prog_6_method_9_code
def yX4_lessen : MethodName := ⟨RX4, "lessen", "(LBannedRows$Arcs;I)Z"⟩
abbrev cX4_sumOver : ByteArray := prog_6_method_10_code
def yX4_sumOver : MethodName := ⟨RX4, "sumOver", "(LBannedRows$Arcs;I)I"⟩
def RX5 : String := "BannedRows$Text"
def TX5 : u_T := fun k => match k with
  | 0 => ("BannedRows$Text", "letters", "[I", true)
  | 1 => ("BannedRows$Text", "size", "I", false)
  | 2 => ("BannedRows$Text", "awaited", "I", false)
  | 3 => ("BannedRows$Text", "isPTold", "Z", false)
  | _ => ("BannedRows$Text", "isQTold", "Z", false)
def tyX5 : Nat → FieldType := fun k => match k with
  | 0 => .array .int
  | 1 => .int
  | 2 => .int
  | 3 => .boolean
  | _ => .boolean
theorem nmX5 : ∀ a, a < 5 → ∀ b, b < 5 → a ≠ b → (TX5 a).2.1 ≠ (TX5 b).2.1 := by decide +kernel
theorem tyX5_ok : ∀ k, k < 5 → parseFieldDescriptor (TX5 k).2.2.1 = some (tyX5 k) := by decide +kernel
abbrev cX5_init : ByteArray := prog_7_method_1_code
def yX5_init : MethodName := ⟨RX5, "<init>", "()V"⟩
abbrev cX5_append : ByteArray := prog_7_method_2_code
def yX5_append : MethodName := ⟨RX5, "append", "(I)V"⟩
abbrev cX5_readTo : ByteArray := prog_7_method_3_code
def yX5_readTo : MethodName := ⟨RX5, "readTo", "(LBannedRows$Ban;)I"⟩
abbrev cX5_letterAt : ByteArray := prog_7_method_4_code
def yX5_letterAt : MethodName := ⟨RX5, "letterAt", "(I)I"⟩
abbrev cX5_isFigure : ByteArray := prog_7_method_5_code
def yX5_isFigure : MethodName := ⟨RX5, "isFigure", "(I)Z"⟩
abbrev cX5_isTokenStart : ByteArray := prog_7_method_6_code
def yX5_isTokenStart : MethodName := ⟨RX5, "isTokenStart", "(I)Z"⟩
abbrev cX5_tokenLength : ByteArray := prog_7_method_7_code
def yX5_tokenLength : MethodName := ⟨RX5, "tokenLength", "(I)I"⟩
abbrev cX5_takes : ByteArray := prog_7_method_8_code
def yX5_takes : MethodName := ⟨RX5, "takes", "(ILBannedRows$Ban;)Z"⟩
abbrev cX5_takesSort : ByteArray := prog_7_method_9_code
def yX5_takesSort : MethodName := ⟨RX5, "takesSort", "(ILBannedRows$Ban;)Z"⟩
abbrev cX5_takesRate : ByteArray := prog_7_method_10_code
def yX5_takesRate : MethodName := ⟨RX5, "takesRate", "(I)Z"⟩
abbrev cX5_figureAt : ByteArray := prog_7_method_11_code
def yX5_figureAt : MethodName := ⟨RX5, "figureAt", "(III)I"⟩
abbrev cX5_bitsAt : ByteArray := prog_7_method_12_code
def yX5_bitsAt : MethodName := ⟨RX5, "bitsAt", "(II)I"⟩
def RX6 : String := "BannedRows"
def TX6 : u_T := fun k => match k with
  | 0 => ("BannedRows", "text", "LBannedRows$Text;", true)
  | 1 => ("BannedRows", "told", "LBannedRows$Ban;", true)
  | 2 => ("BannedRows", "now", "LBannedRows$Held;", true)
  | 3 => ("BannedRows", "arcs", "LBannedRows$Arcs;", true)
  | 4 => ("BannedRows", "sums", "LBannedRows$Sums;", true)
  | 5 => ("BannedRows", "past", "[LBannedRows$Held;", true)
  | 6 => ("BannedRows", "pastSize", "I", false)
  | 7 => ("BannedRows", "images", "[LBannedRows$Held;", true)
  | 8 => ("BannedRows", "kept", "[Z", true)
  | 9 => ("BannedRows", "seen", "[I", true)
  | _ => ("BannedRows", "seenSize", "I", false)
def tyX6 : Nat → FieldType := fun k => match k with
  | 0 => .object "BannedRows$Text"
  | 1 => .object "BannedRows$Ban"
  | 2 => .object "BannedRows$Held"
  | 3 => .object "BannedRows$Arcs"
  | 4 => .object "BannedRows$Sums"
  | 5 => .array (.object "BannedRows$Held")
  | 6 => .int
  | 7 => .array (.object "BannedRows$Held")
  | 8 => .array .boolean
  | 9 => .array .int
  | _ => .int
theorem nmX6 : ∀ a, a < 11 → ∀ b, b < 11 → a ≠ b → (TX6 a).2.1 ≠ (TX6 b).2.1 := by decide +kernel
theorem tyX6_ok : ∀ k, k < 11 → parseFieldDescriptor (TX6 k).2.2.1 = some (tyX6 k) := by decide +kernel
abbrev cX6_init : ByteArray := prog_1_method_1_code
def yX6_init : MethodName := ⟨RX6, "<init>", "()V"⟩
abbrev cX6_type : ByteArray := prog_1_method_2_code
def yX6_type : MethodName := ⟨RX6, "type", "(I)I"⟩
abbrev cX6_clear : ByteArray := prog_1_method_3_code
def yX6_clear : MethodName := ⟨RX6, "clear", "()I"⟩
abbrev cX6_tells : ByteArray := prog_1_method_4_code
def yX6_tells : MethodName := ⟨RX6, "tells", "()I"⟩
abbrev cX6_sends : ByteArray := prog_1_method_5_code
def yX6_sends : MethodName := ⟨RX6, "sends", "(I)I"⟩
abbrev cX6_flips : ByteArray := prog_1_method_6_code
def yX6_flips : MethodName := ⟨RX6, "flips", "(I)I"⟩
abbrev cX6_undo : ByteArray := prog_1_method_7_code
def yX6_undo : MethodName := ⟨RX6, "undo", "()I"⟩
abbrev cX6_step : ByteArray := prog_1_method_8_code
def yX6_step : MethodName := ⟨RX6, "step", "(II)I"⟩
abbrev cX6_arc : ByteArray := prog_1_method_9_code
def yX6_arc : MethodName := ⟨RX6, "arc", "(III)I"⟩
abbrev cX6_state : ByteArray := prog_1_method_10_code
def yX6_state : MethodName := ⟨RX6, "state", "(II)I"⟩
abbrev cX6_weight : ByteArray := prog_1_method_11_code
def yX6_weight : MethodName := ⟨RX6, "weight", "(III)I"⟩
abbrev cX6_rows : ByteArray := prog_1_method_12_code
def yX6_rows : MethodName := ⟨RX6, "rows", "(I)I"⟩
abbrev cX6_word : ByteArray := prog_1_method_13_code
def yX6_word : MethodName := ⟨RX6, "word", "(II)I"⟩
abbrev cX6_wrong : ByteArray := prog_1_method_14_code
def yX6_wrong : MethodName := ⟨RX6, "wrong", "(I)I"⟩
abbrev cX6_sees : ByteArray := prog_1_method_15_code
def yX6_sees : MethodName := ⟨RX6, "sees", "(I)I"⟩
abbrev cX6_forget : ByteArray := prog_1_method_16_code
def yX6_forget : MethodName := ⟨RX6, "forget", "()I"⟩
abbrev cX6_which : ByteArray := prog_1_method_17_code
def yX6_which : MethodName := ⟨RX6, "which", "(I)I"⟩
abbrev cX6_ask : ByteArray := prog_1_method_18_code
def yX6_ask : MethodName := ⟨RX6, "ask", "()I"⟩
abbrev cX6_keep : ByteArray := prog_1_method_19_code
def yX6_keep : MethodName := ⟨RX6, "keep", "(I)I"⟩
abbrev cX6_back : ByteArray := prog_1_method_20_code
def yX6_back : MethodName := ⟨RX6, "back", "(I)I"⟩
abbrev cX6_count : ByteArray := prog_1_method_21_code
def yX6_count : MethodName := ⟨RX6, "count", "(I)I"⟩
abbrev cX6_isNoState : ByteArray := prog_1_method_22_code
def yX6_isNoState : MethodName := ⟨RX6, "isNoState", "(I)Z"⟩
abbrev cX6_isNoWord : ByteArray := prog_1_method_23_code
def yX6_isNoWord : MethodName := ⟨RX6, "isNoWord", "(I)Z"⟩
abbrev cX6_isNoImage : ByteArray := prog_1_method_24_code
def yX6_isNoImage : MethodName := ⟨RX6, "isNoImage", "(I)Z"⟩
abbrev cX6_remember : ByteArray := prog_1_method_25_code
def yX6_remember : MethodName := ⟨RX6, "remember", "()V"⟩
abbrev cX6_become : ByteArray := prog_1_method_26_code
def yX6_become : MethodName := ⟨RX6, "become", "(LBannedRows$Held;)V"⟩
abbrev cX6_readByStates : ByteArray := prog_1_method_27_code
def yX6_readByStates : MethodName := ⟨RX6, "readByStates", "(I)I"⟩
abbrev cX6_readByWindow : ByteArray := prog_1_method_28_code
def yX6_readByWindow : MethodName := ⟨RX6, "readByWindow", "(I)I"⟩
abbrev cX6_origins : ByteArray := prog_1_method_29_code
def yX6_origins : MethodName := ⟨RX6, "origins", "()I"⟩
abbrev cX6_presentStates : ByteArray := prog_1_method_30_code
def yX6_presentStates : MethodName := ⟨RX6, "presentStates", "()I"⟩
abbrev cX6_endOfSeen : ByteArray := prog_1_method_31_code
def yX6_endOfSeen : MethodName := ⟨RX6, "endOfSeen", "(I)I"⟩
def RX7 : String := "BannedRowsModel"
def TX7 : u_T := fun k => match k with
  | 0 => ("BannedRowsModel", "all", "[I", true)
  | 1 => ("BannedRowsModel", "past", "[I", true)
  | 2 => ("BannedRowsModel", "undone", "I", false)
  | 3 => ("BannedRowsModel", "images", "[I", true)
  | 4 => ("BannedRowsModel", "kept", "[Z", true)
  | 5 => ("BannedRowsModel", "seen", "[I", true)
  | 6 => ("BannedRowsModel", "seenMany", "I", false)
  | 7 => ("BannedRowsModel", "text", "[I", true)
  | 8 => ("BannedRowsModel", "textLong", "I", false)
  | 9 => ("BannedRowsModel", "leads", "[I", true)
  | 10 => ("BannedRowsModel", "tags", "[I", true)
  | 11 => ("BannedRowsModel", "good", "I", false)
  | 12 => ("BannedRowsModel", "begin", "I", false)
  | 13 => ("BannedRowsModel", "spot", "I", false)
  | 14 => ("BannedRowsModel", "tokenLong", "I", false)
  | 15 => ("BannedRowsModel", "taken", "I", false)
  | 16 => ("BannedRowsModel", "next", "[I", true)
  | 17 => ("BannedRowsModel", "weights", "[I", true)
  | 18 => ("BannedRowsModel", "lighter", "[I", true)
  | 19 => ("BannedRowsModel", "ways", "[I", true)
  | 20 => ("BannedRowsModel", "nextWays", "[I", true)
  | _ => ("BannedRowsModel", "alike", "[Z", true)
def tyX7 : Nat → FieldType := fun k => match k with
  | 0 => .array .int
  | 1 => .array .int
  | 2 => .int
  | 3 => .array .int
  | 4 => .array .boolean
  | 5 => .array .int
  | 6 => .int
  | 7 => .array .int
  | 8 => .int
  | 9 => .array .int
  | 10 => .array .int
  | 11 => .int
  | 12 => .int
  | 13 => .int
  | 14 => .int
  | 15 => .int
  | 16 => .array .int
  | 17 => .array .int
  | 18 => .array .int
  | 19 => .array .int
  | 20 => .array .int
  | _ => .array .boolean
theorem nmX7 : ∀ a, a < 22 → ∀ b, b < 22 → a ≠ b → (TX7 a).2.1 ≠ (TX7 b).2.1 := by decide +kernel
theorem tyX7_ok : ∀ k, k < 22 → parseFieldDescriptor (TX7 k).2.2.1 = some (tyX7 k) := by decide +kernel
abbrev cX7_init : ByteArray := prog_9_method_1_code
def yX7_init : MethodName := ⟨RX7, "<init>", "()V"⟩
abbrev cX7_in : ByteArray := prog_9_method_3_code
def yX7_in : MethodName := ⟨RX7, "in", "(JJJ)Z"⟩
abbrev cX7_begins : ByteArray := prog_9_method_4_code
def yX7_begins : MethodName := ⟨RX7, "begins", "()V"⟩
abbrev cX7_keepPast : ByteArray := prog_9_method_5_code
def yX7_keepPast : MethodName := ⟨RX7, "keepPast", "()V"⟩
abbrev cX7_states : ByteArray := prog_9_method_6_code
def yX7_states : MethodName := ⟨RX7, "states", "()I"⟩
abbrev cX7_start : ByteArray := prog_9_method_7_code
def yX7_start : MethodName := ⟨RX7, "start", "()I"⟩
abbrev cX7_banned : ByteArray := prog_9_method_8_code
def yX7_banned : MethodName := ⟨RX7, "banned", "(I)I"⟩
abbrev cX7_border : ByteArray := prog_9_method_9_code
def yX7_border : MethodName := ⟨RX7, "border", "(III)I"⟩
abbrev cX7_stepOf : ByteArray := prog_9_method_10_code
def yX7_stepOf : MethodName := ⟨RX7, "stepOf", "(II)I"⟩
abbrev cX7_words : ByteArray := prog_9_method_11_code
def yX7_words : MethodName := ⟨RX7, "words", "()I"⟩
abbrev cX7_lead : ByteArray := prog_9_method_12_code
def yX7_lead : MethodName := ⟨RX7, "lead", "(II)I"⟩
abbrev cX7_tag : ByteArray := prog_9_method_13_code
def yX7_tag : MethodName := ⟨RX7, "tag", "(II)I"⟩
abbrev cX7_layArcs : ByteArray := prog_9_method_14_code
def yX7_layArcs : MethodName := ⟨RX7, "layArcs", "()V"⟩
abbrev cX7_goodArcs : ByteArray := prog_9_method_15_code
def yX7_goodArcs : MethodName := ⟨RX7, "goodArcs", "(I)I"⟩
abbrev cX7_finds : ByteArray := prog_9_method_16_code
def yX7_finds : MethodName := ⟨RX7, "finds", "()V"⟩
abbrev cX7_type : ByteArray := prog_9_method_17_code
def yX7_type : MethodName := ⟨RX7, "type", "(I)I"⟩
abbrev cX7_clear : ByteArray := prog_9_method_18_code
def yX7_clear : MethodName := ⟨RX7, "clear", "()I"⟩
abbrev cX7_here : ByteArray := prog_9_method_19_code
def yX7_here : MethodName := ⟨RX7, "here", "()I"⟩
abbrev cX7_isFigure : ByteArray := prog_9_method_20_code
def yX7_isFigure : MethodName := ⟨RX7, "isFigure", "(I)Z"⟩
abbrev cX7_takes : ByteArray := prog_9_method_21_code
def yX7_takes : MethodName := ⟨RX7, "takes", "(I)Z"⟩
abbrev cX7_takesNumber : ByteArray := prog_9_method_22_code
def yX7_takesNumber : MethodName := ⟨RX7, "takesNumber", "(II)Z"⟩
abbrev cX7_takesBits : ByteArray := prog_9_method_23_code
def yX7_takesBits : MethodName := ⟨RX7, "takesBits", "()Z"⟩
abbrev cX7_takesBan : ByteArray := prog_9_method_24_code
def yX7_takesBan : MethodName := ⟨RX7, "takesBan", "()Z"⟩
abbrev cX7_takesAll : ByteArray := prog_9_method_25_code
def yX7_takesAll : MethodName := ⟨RX7, "takesAll", "()Z"⟩
abbrev cX7_tells : ByteArray := prog_9_method_26_code
def yX7_tells : MethodName := ⟨RX7, "tells", "()I"⟩
abbrev cX7_sends : ByteArray := prog_9_method_27_code
def yX7_sends : MethodName := ⟨RX7, "sends", "(I)I"⟩
abbrev cX7_wordFor : ByteArray := prog_9_method_28_code
def yX7_wordFor : MethodName := ⟨RX7, "wordFor", "(II)I"⟩
abbrev cX7_flips : ByteArray := prog_9_method_29_code
def yX7_flips : MethodName := ⟨RX7, "flips", "(I)I"⟩
abbrev cX7_undo : ByteArray := prog_9_method_30_code
def yX7_undo : MethodName := ⟨RX7, "undo", "()I"⟩
abbrev cX7_isState : ByteArray := prog_9_method_31_code
def yX7_isState : MethodName := ⟨RX7, "isState", "(I)Z"⟩
abbrev cX7_step : ByteArray := prog_9_method_32_code
def yX7_step : MethodName := ⟨RX7, "step", "(II)I"⟩
abbrev cX7_arc : ByteArray := prog_9_method_33_code
def yX7_arc : MethodName := ⟨RX7, "arc", "(III)I"⟩
abbrev cX7_state : ByteArray := prog_9_method_34_code
def yX7_state : MethodName := ⟨RX7, "state", "(II)I"⟩
abbrev cX7_weighs : ByteArray := prog_9_method_35_code
def yX7_weighs : MethodName := ⟨RX7, "weighs", "(I)V"⟩
abbrev cX7_weight : ByteArray := prog_9_method_36_code
def yX7_weight : MethodName := ⟨RX7, "weight", "(III)I"⟩
abbrev cX7_rows : ByteArray := prog_9_method_37_code
def yX7_rows : MethodName := ⟨RX7, "rows", "(I)I"⟩
abbrev cX7_goOn : ByteArray := prog_9_method_38_code
def yX7_goOn : MethodName := ⟨RX7, "goOn", "(IIII)Z"⟩
abbrev cX7_layAlike : ByteArray := prog_9_method_39_code
def yX7_layAlike : MethodName := ⟨RX7, "layAlike", "()V"⟩
abbrev cX7_isWide : ByteArray := prog_9_method_40_code
def yX7_isWide : MethodName := ⟨RX7, "isWide", "(I)Z"⟩
abbrev cX7_window : ByteArray := prog_9_method_41_code
def yX7_window : MethodName := ⟨RX7, "window", "()I"⟩
abbrev cX7_byStates : ByteArray := prog_9_method_42_code
def yX7_byStates : MethodName := ⟨RX7, "byStates", "(I)I"⟩
abbrev cX7_byWindow : ByteArray := prog_9_method_43_code
def yX7_byWindow : MethodName := ⟨RX7, "byWindow", "(I)I"⟩
abbrev cX7_word : ByteArray := prog_9_method_44_code
def yX7_word : MethodName := ⟨RX7, "word", "(II)I"⟩
abbrev cX7_wrong : ByteArray := prog_9_method_45_code
def yX7_wrong : MethodName := ⟨RX7, "wrong", "(I)I"⟩
abbrev cX7_sees : ByteArray := prog_9_method_46_code
def yX7_sees : MethodName := ⟨RX7, "sees", "(I)I"⟩
abbrev cX7_forget : ByteArray := prog_9_method_47_code
def yX7_forget : MethodName := ⟨RX7, "forget", "()I"⟩
abbrev cX7_statesBySeen : ByteArray := prog_9_method_48_code
def yX7_statesBySeen : MethodName := ⟨RX7, "statesBySeen", "(Z)I"⟩
abbrev cX7_which : ByteArray := prog_9_method_49_code
def yX7_which : MethodName := ⟨RX7, "which", "(I)I"⟩
abbrev cX7_ask : ByteArray := prog_9_method_50_code
def yX7_ask : MethodName := ⟨RX7, "ask", "()I"⟩
abbrev cX7_keep : ByteArray := prog_9_method_51_code
def yX7_keep : MethodName := ⟨RX7, "keep", "(I)I"⟩
abbrev cX7_back : ByteArray := prog_9_method_52_code
def yX7_back : MethodName := ⟨RX7, "back", "(I)I"⟩
abbrev cX7_otherBits : ByteArray := prog_9_method_53_code
def yX7_otherBits : MethodName := ⟨RX7, "otherBits", "()I"⟩
abbrev cX7_count : ByteArray := prog_9_method_54_code
def yX7_count : MethodName := ⟨RX7, "count", "(I)I"⟩
def RJ6 : String := "java/lang/Integer"
def TJ6 : u_T := fun k => match k with
  | _ => ("", "", "", false)
def tyJ6 : Nat → FieldType := fun k => match k with
  | _ => .int
abbrev cJ6_bitCount_0f7a4 : ByteArray := prog_10_method_49_code
def yJ6_bitCount_0f7a4 : MethodName := ⟨RJ6, "bitCount", "(I)I"⟩
def RJ9 : String := "java/lang/Math"
def TJ9 : u_T := fun k => match k with
  | _ => ("", "", "", false)
def tyJ9 : Nat → FieldType := fun k => match k with
  | _ => .int
abbrev cJ9_max_7cf53 : ByteArray := prog_11_method_65_code
def yJ9_max_7cf53 : MethodName := ⟨RJ9, "max", "(II)I"⟩
abbrev cJ9_min_7cf53 : ByteArray := prog_11_method_69_code
def yJ9_min_7cf53 : MethodName := ⟨RJ9, "min", "(II)I"⟩
def RJ10 : String := "java/lang/System"
def TJ10 : u_T := fun k => match k with
  | _ => ("", "", "", false)
def tyJ10 : Nat → FieldType := fun k => match k with
  | _ => .int
def RL : String := "BannedRowsLaw"
abbrev cL_law : ByteArray := code
def yL_law : MethodName := ⟨RL, "law", "([I)Z"⟩
abbrev vwCl : List vw_C := [(RX0, TX0, 8), (RX1, TX1, 5), (RX2, TX2, 2), (RX3, TX3, 5), (RX4, TX4, 2), (RX5, TX5, 5), (RX6, TX6, 11), (RX7, TX7, 22)]
