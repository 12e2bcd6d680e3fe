section
-- ===== PART A: goes FIRST, ahead of the names: the tables' words, and 'selects' of the private methods out of them =====
/-- a private method of a class that the tables say can be made, by its rows of tables_1 -/
def lw_okq (q : MethodName × Nat) : Prop := (q.1.cls ≠ "java/lang/invoke/MethodHandle" ∧ q.1.cls ≠ "java/lang/invoke/VarHandle") ∧ Cond.instantiable q.1.cls q.2 ∈ tables_1 ∧ Cond.privateMethod q.1 ∈ tables_1 ∧ Cond.instanceMethod q.1 ∈ tables_1
theorem lw_p0 : lw_okq (⟨"BannedRows$Arcs", "setEnds", "(LBannedRows$Ban;)V"⟩, 8) := ⟨⟨by decide +kernel, by decide +kernel⟩, List.mem_of_getElem? (i := 121) (by decide +kernel), List.mem_of_getElem? (i := 182) (by decide +kernel), List.mem_of_getElem? (i := 183) (by decide +kernel)⟩
theorem lw_p1 : lw_okq (⟨"BannedRows$Ban", "leadOfRuns", "(II)I"⟩, 5) := ⟨⟨by decide +kernel, by decide +kernel⟩, List.mem_of_getElem? (i := 45) (by decide +kernel), List.mem_of_getElem? (i := 197) (by decide +kernel), List.mem_of_getElem? (i := 198) (by decide +kernel)⟩
theorem lw_p2 : lw_okq (⟨"BannedRows$Ban", "leadOfCharge", "(II)I"⟩, 5) := ⟨⟨by decide +kernel, by decide +kernel⟩, List.mem_of_getElem? (i := 45) (by decide +kernel), List.mem_of_getElem? (i := 201) (by decide +kernel), List.mem_of_getElem? (i := 202) (by decide +kernel)⟩
theorem lw_p3 : lw_okq (⟨"BannedRows$Ban", "leadOfWord", "(II)I"⟩, 5) := ⟨⟨by decide +kernel, by decide +kernel⟩, List.mem_of_getElem? (i := 45) (by decide +kernel), List.mem_of_getElem? (i := 205) (by decide +kernel), List.mem_of_getElem? (i := 206) (by decide +kernel)⟩
theorem lw_p4 : lw_okq (⟨"BannedRows$Ban", "firstBits", "(I)I"⟩, 5) := ⟨⟨by decide +kernel, by decide +kernel⟩, List.mem_of_getElem? (i := 45) (by decide +kernel), List.mem_of_getElem? (i := 209) (by decide +kernel), List.mem_of_getElem? (i := 210) (by decide +kernel)⟩
theorem lw_p5 : lw_okq (⟨"BannedRows$Arcs", "setGood", "(I)V"⟩, 8) := ⟨⟨by decide +kernel, by decide +kernel⟩, List.mem_of_getElem? (i := 121) (by decide +kernel), List.mem_of_getElem? (i := 217) (by decide +kernel), List.mem_of_getElem? (i := 218) (by decide +kernel)⟩
theorem lw_p6 : lw_okq (⟨"BannedRows$Arcs", "arcsToGood", "(I)I"⟩, 8) := ⟨⟨by decide +kernel, by decide +kernel⟩, List.mem_of_getElem? (i := 121) (by decide +kernel), List.mem_of_getElem? (i := 224) (by decide +kernel), List.mem_of_getElem? (i := 225) (by decide +kernel)⟩
theorem lw_p7 : lw_okq (⟨"BannedRows$Arcs", "setTags", "(I)V"⟩, 8) := ⟨⟨by decide +kernel, by decide +kernel⟩, List.mem_of_getElem? (i := 121) (by decide +kernel), List.mem_of_getElem? (i := 232) (by decide +kernel), List.mem_of_getElem? (i := 233) (by decide +kernel)⟩
theorem lw_p8 : lw_okq (⟨"BannedRows$Arcs", "lowestGood", "()I"⟩, 8) := ⟨⟨by decide +kernel, by decide +kernel⟩, List.mem_of_getElem? (i := 121) (by decide +kernel), List.mem_of_getElem? (i := 236) (by decide +kernel), List.mem_of_getElem? (i := 237) (by decide +kernel)⟩
theorem lw_p9 : lw_okq (⟨"BannedRows$Arcs", "narrowestWindow", "()I"⟩, 8) := ⟨⟨by decide +kernel, by decide +kernel⟩, List.mem_of_getElem? (i := 121) (by decide +kernel), List.mem_of_getElem? (i := 240) (by decide +kernel), List.mem_of_getElem? (i := 241) (by decide +kernel)⟩
theorem lw_p10 : lw_okq (⟨"BannedRows$Arcs", "isDoubtful", "()Z"⟩, 8) := ⟨⟨by decide +kernel, by decide +kernel⟩, List.mem_of_getElem? (i := 121) (by decide +kernel), List.mem_of_getElem? (i := 244) (by decide +kernel), List.mem_of_getElem? (i := 245) (by decide +kernel)⟩
theorem lw_p11 : lw_okq (⟨"BannedRows$Arcs", "goOnAlike", "(III)Z"⟩, 8) := ⟨⟨by decide +kernel, by decide +kernel⟩, List.mem_of_getElem? (i := 121) (by decide +kernel), List.mem_of_getElem? (i := 248) (by decide +kernel), List.mem_of_getElem? (i := 249) (by decide +kernel)⟩
theorem lw_p12 : lw_okq (⟨"BannedRows$Arcs", "lengthenMates", "()V"⟩, 8) := ⟨⟨by decide +kernel, by decide +kernel⟩, List.mem_of_getElem? (i := 121) (by decide +kernel), List.mem_of_getElem? (i := 256) (by decide +kernel), List.mem_of_getElem? (i := 257) (by decide +kernel)⟩
theorem lw_p13 : lw_okq (⟨"BannedRows$Text", "isTokenStart", "(I)Z"⟩, 5) := ⟨⟨by decide +kernel, by decide +kernel⟩, List.mem_of_getElem? (i := 21) (by decide +kernel), List.mem_of_getElem? (i := 323) (by decide +kernel), List.mem_of_getElem? (i := 324) (by decide +kernel)⟩
theorem lw_p14 : lw_okq (⟨"BannedRows$Text", "letterAt", "(I)I"⟩, 5) := ⟨⟨by decide +kernel, by decide +kernel⟩, List.mem_of_getElem? (i := 21) (by decide +kernel), List.mem_of_getElem? (i := 327) (by decide +kernel), List.mem_of_getElem? (i := 328) (by decide +kernel)⟩
theorem lw_p15 : lw_okq (⟨"BannedRows$Text", "isFigure", "(I)Z"⟩, 5) := ⟨⟨by decide +kernel, by decide +kernel⟩, List.mem_of_getElem? (i := 21) (by decide +kernel), List.mem_of_getElem? (i := 331) (by decide +kernel), List.mem_of_getElem? (i := 332) (by decide +kernel)⟩
def lw_privs_1 : List (MethodName × Nat) := [(⟨"BannedRows$Arcs", "setEnds", "(LBannedRows$Ban;)V"⟩, 8), (⟨"BannedRows$Ban", "leadOfRuns", "(II)I"⟩, 5), (⟨"BannedRows$Ban", "leadOfCharge", "(II)I"⟩, 5), (⟨"BannedRows$Ban", "leadOfWord", "(II)I"⟩, 5), (⟨"BannedRows$Ban", "firstBits", "(I)I"⟩, 5), (⟨"BannedRows$Arcs", "setGood", "(I)V"⟩, 8), (⟨"BannedRows$Arcs", "arcsToGood", "(I)I"⟩, 8), (⟨"BannedRows$Arcs", "setTags", "(I)V"⟩, 8), (⟨"BannedRows$Arcs", "lowestGood", "()I"⟩, 8), (⟨"BannedRows$Arcs", "narrowestWindow", "()I"⟩, 8), (⟨"BannedRows$Arcs", "isDoubtful", "()Z"⟩, 8), (⟨"BannedRows$Arcs", "goOnAlike", "(III)Z"⟩, 8), (⟨"BannedRows$Arcs", "lengthenMates", "()V"⟩, 8), (⟨"BannedRows$Text", "isTokenStart", "(I)Z"⟩, 5), (⟨"BannedRows$Text", "letterAt", "(I)I"⟩, 5), (⟨"BannedRows$Text", "isFigure", "(I)Z"⟩, 5)]
theorem lw_r1 : ∀ q ∈ lw_privs_1, lw_okq q := List.forall_mem_cons.mpr ⟨lw_p0, List.forall_mem_cons.mpr ⟨lw_p1, List.forall_mem_cons.mpr ⟨lw_p2, List.forall_mem_cons.mpr ⟨lw_p3, List.forall_mem_cons.mpr ⟨lw_p4, List.forall_mem_cons.mpr ⟨lw_p5, List.forall_mem_cons.mpr ⟨lw_p6, List.forall_mem_cons.mpr ⟨lw_p7, List.forall_mem_cons.mpr ⟨lw_p8, List.forall_mem_cons.mpr ⟨lw_p9, List.forall_mem_cons.mpr ⟨lw_p10, List.forall_mem_cons.mpr ⟨lw_p11, List.forall_mem_cons.mpr ⟨lw_p12, List.forall_mem_cons.mpr ⟨lw_p13, List.forall_mem_cons.mpr ⟨lw_p14, List.forall_mem_cons.mpr ⟨lw_p15, fun _ h => absurd h List.not_mem_nil⟩⟩⟩⟩⟩⟩⟩⟩⟩⟩⟩⟩⟩⟩⟩⟩
theorem lw_p16 : lw_okq (⟨"BannedRows$Text", "takes", "(ILBannedRows$Ban;)Z"⟩, 5) := ⟨⟨by decide +kernel, by decide +kernel⟩, List.mem_of_getElem? (i := 21) (by decide +kernel), List.mem_of_getElem? (i := 335) (by decide +kernel), List.mem_of_getElem? (i := 336) (by decide +kernel)⟩
theorem lw_p17 : lw_okq (⟨"BannedRows$Text", "takesSort", "(ILBannedRows$Ban;)Z"⟩, 5) := ⟨⟨by decide +kernel, by decide +kernel⟩, List.mem_of_getElem? (i := 21) (by decide +kernel), List.mem_of_getElem? (i := 339) (by decide +kernel), List.mem_of_getElem? (i := 340) (by decide +kernel)⟩
theorem lw_p18 : lw_okq (⟨"BannedRows$Text", "figureAt", "(III)I"⟩, 5) := ⟨⟨by decide +kernel, by decide +kernel⟩, List.mem_of_getElem? (i := 21) (by decide +kernel), List.mem_of_getElem? (i := 343) (by decide +kernel), List.mem_of_getElem? (i := 344) (by decide +kernel)⟩
theorem lw_p19 : lw_okq (⟨"BannedRows$Text", "tokenLength", "(I)I"⟩, 5) := ⟨⟨by decide +kernel, by decide +kernel⟩, List.mem_of_getElem? (i := 21) (by decide +kernel), List.mem_of_getElem? (i := 347) (by decide +kernel), List.mem_of_getElem? (i := 348) (by decide +kernel)⟩
theorem lw_p20 : lw_okq (⟨"BannedRows$Text", "bitsAt", "(II)I"⟩, 5) := ⟨⟨by decide +kernel, by decide +kernel⟩, List.mem_of_getElem? (i := 21) (by decide +kernel), List.mem_of_getElem? (i := 354) (by decide +kernel), List.mem_of_getElem? (i := 355) (by decide +kernel)⟩
theorem lw_p21 : lw_okq (⟨"BannedRows$Text", "takesRate", "(I)Z"⟩, 5) := ⟨⟨by decide +kernel, by decide +kernel⟩, List.mem_of_getElem? (i := 21) (by decide +kernel), List.mem_of_getElem? (i := 358) (by decide +kernel), List.mem_of_getElem? (i := 359) (by decide +kernel)⟩
theorem lw_p22 : lw_okq (⟨"BannedRows", "remember", "()V"⟩, 11) := ⟨⟨by decide +kernel, by decide +kernel⟩, List.mem_of_getElem? (i := 13) (by decide +kernel), List.mem_of_getElem? (i := 362) (by decide +kernel), List.mem_of_getElem? (i := 363) (by decide +kernel)⟩
theorem lw_p23 : lw_okq (⟨"BannedRows", "become", "(LBannedRows$Held;)V"⟩, 11) := ⟨⟨by decide +kernel, by decide +kernel⟩, List.mem_of_getElem? (i := 13) (by decide +kernel), List.mem_of_getElem? (i := 406) (by decide +kernel), List.mem_of_getElem? (i := 407) (by decide +kernel)⟩
theorem lw_p24 : lw_okq (⟨"BannedRows", "isNoState", "(I)Z"⟩, 11) := ⟨⟨by decide +kernel, by decide +kernel⟩, List.mem_of_getElem? (i := 13) (by decide +kernel), List.mem_of_getElem? (i := 414) (by decide +kernel), List.mem_of_getElem? (i := 415) (by decide +kernel)⟩
theorem lw_p25 : lw_okq (⟨"BannedRows", "isNoWord", "(I)Z"⟩, 11) := ⟨⟨by decide +kernel, by decide +kernel⟩, List.mem_of_getElem? (i := 13) (by decide +kernel), List.mem_of_getElem? (i := 423) (by decide +kernel), List.mem_of_getElem? (i := 424) (by decide +kernel)⟩
theorem lw_p26 : lw_okq (⟨"BannedRows$Sums", "setAll", "(II)V"⟩, 2) := ⟨⟨by decide +kernel, by decide +kernel⟩, List.mem_of_getElem? (i := 157) (by decide +kernel), List.mem_of_getElem? (i := 449) (by decide +kernel), List.mem_of_getElem? (i := 450) (by decide +kernel)⟩
theorem lw_p27 : lw_okq (⟨"BannedRows$Sums", "lessen", "(LBannedRows$Arcs;I)Z"⟩, 2) := ⟨⟨by decide +kernel, by decide +kernel⟩, List.mem_of_getElem? (i := 157) (by decide +kernel), List.mem_of_getElem? (i := 453) (by decide +kernel), List.mem_of_getElem? (i := 454) (by decide +kernel)⟩
theorem lw_p28 : lw_okq (⟨"BannedRows$Sums", "sumOver", "(LBannedRows$Arcs;I)I"⟩, 2) := ⟨⟨by decide +kernel, by decide +kernel⟩, List.mem_of_getElem? (i := 157) (by decide +kernel), List.mem_of_getElem? (i := 457) (by decide +kernel), List.mem_of_getElem? (i := 458) (by decide +kernel)⟩
theorem lw_p29 : lw_okq (⟨"BannedRows$Sums", "total", "()I"⟩, 2) := ⟨⟨by decide +kernel, by decide +kernel⟩, List.mem_of_getElem? (i := 157) (by decide +kernel), List.mem_of_getElem? (i := 473) (by decide +kernel), List.mem_of_getElem? (i := 474) (by decide +kernel)⟩
theorem lw_p30 : lw_okq (⟨"BannedRows$Sums", "lengthenRows", "(LBannedRows$Ban;)V"⟩, 2) := ⟨⟨by decide +kernel, by decide +kernel⟩, List.mem_of_getElem? (i := 157) (by decide +kernel), List.mem_of_getElem? (i := 489) (by decide +kernel), List.mem_of_getElem? (i := 490) (by decide +kernel)⟩
theorem lw_p31 : lw_okq (⟨"BannedRows", "readByStates", "(I)I"⟩, 11) := ⟨⟨by decide +kernel, by decide +kernel⟩, List.mem_of_getElem? (i := 13) (by decide +kernel), List.mem_of_getElem? (i := 507) (by decide +kernel), List.mem_of_getElem? (i := 508) (by decide +kernel)⟩
def lw_privs_2 : List (MethodName × Nat) := [(⟨"BannedRows$Text", "takes", "(ILBannedRows$Ban;)Z"⟩, 5), (⟨"BannedRows$Text", "takesSort", "(ILBannedRows$Ban;)Z"⟩, 5), (⟨"BannedRows$Text", "figureAt", "(III)I"⟩, 5), (⟨"BannedRows$Text", "tokenLength", "(I)I"⟩, 5), (⟨"BannedRows$Text", "bitsAt", "(II)I"⟩, 5), (⟨"BannedRows$Text", "takesRate", "(I)Z"⟩, 5), (⟨"BannedRows", "remember", "()V"⟩, 11), (⟨"BannedRows", "become", "(LBannedRows$Held;)V"⟩, 11), (⟨"BannedRows", "isNoState", "(I)Z"⟩, 11), (⟨"BannedRows", "isNoWord", "(I)Z"⟩, 11), (⟨"BannedRows$Sums", "setAll", "(II)V"⟩, 2), (⟨"BannedRows$Sums", "lessen", "(LBannedRows$Arcs;I)Z"⟩, 2), (⟨"BannedRows$Sums", "sumOver", "(LBannedRows$Arcs;I)I"⟩, 2), (⟨"BannedRows$Sums", "total", "()I"⟩, 2), (⟨"BannedRows$Sums", "lengthenRows", "(LBannedRows$Ban;)V"⟩, 2), (⟨"BannedRows", "readByStates", "(I)I"⟩, 11)]
theorem lw_r2 : ∀ q ∈ lw_privs_2, lw_okq q := List.forall_mem_cons.mpr ⟨lw_p16, List.forall_mem_cons.mpr ⟨lw_p17, List.forall_mem_cons.mpr ⟨lw_p18, List.forall_mem_cons.mpr ⟨lw_p19, List.forall_mem_cons.mpr ⟨lw_p20, List.forall_mem_cons.mpr ⟨lw_p21, List.forall_mem_cons.mpr ⟨lw_p22, List.forall_mem_cons.mpr ⟨lw_p23, List.forall_mem_cons.mpr ⟨lw_p24, List.forall_mem_cons.mpr ⟨lw_p25, List.forall_mem_cons.mpr ⟨lw_p26, List.forall_mem_cons.mpr ⟨lw_p27, List.forall_mem_cons.mpr ⟨lw_p28, List.forall_mem_cons.mpr ⟨lw_p29, List.forall_mem_cons.mpr ⟨lw_p30, List.forall_mem_cons.mpr ⟨lw_p31, fun _ h => absurd h List.not_mem_nil⟩⟩⟩⟩⟩⟩⟩⟩⟩⟩⟩⟩⟩⟩⟩⟩
theorem lw_p32 : lw_okq (⟨"BannedRows", "readByWindow", "(I)I"⟩, 11) := ⟨⟨by decide +kernel, by decide +kernel⟩, List.mem_of_getElem? (i := 13) (by decide +kernel), List.mem_of_getElem? (i := 511) (by decide +kernel), List.mem_of_getElem? (i := 512) (by decide +kernel)⟩
theorem lw_p33 : lw_okq (⟨"BannedRows", "origins", "()I"⟩, 11) := ⟨⟨by decide +kernel, by decide +kernel⟩, List.mem_of_getElem? (i := 13) (by decide +kernel), List.mem_of_getElem? (i := 535) (by decide +kernel), List.mem_of_getElem? (i := 536) (by decide +kernel)⟩
theorem lw_p34 : lw_okq (⟨"BannedRows", "endOfSeen", "(I)I"⟩, 11) := ⟨⟨by decide +kernel, by decide +kernel⟩, List.mem_of_getElem? (i := 13) (by decide +kernel), List.mem_of_getElem? (i := 539) (by decide +kernel), List.mem_of_getElem? (i := 540) (by decide +kernel)⟩
theorem lw_p35 : lw_okq (⟨"BannedRows", "presentStates", "()I"⟩, 11) := ⟨⟨by decide +kernel, by decide +kernel⟩, List.mem_of_getElem? (i := 13) (by decide +kernel), List.mem_of_getElem? (i := 543) (by decide +kernel), List.mem_of_getElem? (i := 544) (by decide +kernel)⟩
theorem lw_p36 : lw_okq (⟨"BannedRows$Arcs", "withWord", "(III)I"⟩, 8) := ⟨⟨by decide +kernel, by decide +kernel⟩, List.mem_of_getElem? (i := 121) (by decide +kernel), List.mem_of_getElem? (i := 562) (by decide +kernel), List.mem_of_getElem? (i := 563) (by decide +kernel)⟩
theorem lw_p37 : lw_okq (⟨"BannedRowsModel", "begins", "()V"⟩, 22) := ⟨⟨by decide +kernel, by decide +kernel⟩, List.mem_of_getElem? (i := 588) (by decide +kernel), List.mem_of_getElem? (i := 594) (by decide +kernel), List.mem_of_getElem? (i := 595) (by decide +kernel)⟩
theorem lw_p38 : lw_okq (⟨"BannedRowsModel", "finds", "()V"⟩, 22) := ⟨⟨by decide +kernel, by decide +kernel⟩, List.mem_of_getElem? (i := 588) (by decide +kernel), List.mem_of_getElem? (i := 598) (by decide +kernel), List.mem_of_getElem? (i := 599) (by decide +kernel)⟩
theorem lw_p39 : lw_okq (⟨"BannedRowsModel", "layArcs", "()V"⟩, 22) := ⟨⟨by decide +kernel, by decide +kernel⟩, List.mem_of_getElem? (i := 588) (by decide +kernel), List.mem_of_getElem? (i := 602) (by decide +kernel), List.mem_of_getElem? (i := 603) (by decide +kernel)⟩
theorem lw_p40 : lw_okq (⟨"BannedRowsModel", "states", "()I"⟩, 22) := ⟨⟨by decide +kernel, by decide +kernel⟩, List.mem_of_getElem? (i := 588) (by decide +kernel), List.mem_of_getElem? (i := 606) (by decide +kernel), List.mem_of_getElem? (i := 607) (by decide +kernel)⟩
theorem lw_p41 : lw_okq (⟨"BannedRowsModel", "words", "()I"⟩, 22) := ⟨⟨by decide +kernel, by decide +kernel⟩, List.mem_of_getElem? (i := 588) (by decide +kernel), List.mem_of_getElem? (i := 610) (by decide +kernel), List.mem_of_getElem? (i := 611) (by decide +kernel)⟩
theorem lw_p42 : lw_okq (⟨"BannedRowsModel", "stepOf", "(II)I"⟩, 22) := ⟨⟨by decide +kernel, by decide +kernel⟩, List.mem_of_getElem? (i := 588) (by decide +kernel), List.mem_of_getElem? (i := 614) (by decide +kernel), List.mem_of_getElem? (i := 615) (by decide +kernel)⟩
theorem lw_p43 : lw_okq (⟨"BannedRowsModel", "border", "(III)I"⟩, 22) := ⟨⟨by decide +kernel, by decide +kernel⟩, List.mem_of_getElem? (i := 588) (by decide +kernel), List.mem_of_getElem? (i := 621) (by decide +kernel), List.mem_of_getElem? (i := 622) (by decide +kernel)⟩
theorem lw_p44 : lw_okq (⟨"BannedRowsModel", "banned", "(I)I"⟩, 22) := ⟨⟨by decide +kernel, by decide +kernel⟩, List.mem_of_getElem? (i := 588) (by decide +kernel), List.mem_of_getElem? (i := 625) (by decide +kernel), List.mem_of_getElem? (i := 626) (by decide +kernel)⟩
theorem lw_p45 : lw_okq (⟨"BannedRowsModel", "goodArcs", "(I)I"⟩, 22) := ⟨⟨by decide +kernel, by decide +kernel⟩, List.mem_of_getElem? (i := 588) (by decide +kernel), List.mem_of_getElem? (i := 629) (by decide +kernel), List.mem_of_getElem? (i := 630) (by decide +kernel)⟩
theorem lw_p46 : lw_okq (⟨"BannedRowsModel", "lead", "(II)I"⟩, 22) := ⟨⟨by decide +kernel, by decide +kernel⟩, List.mem_of_getElem? (i := 588) (by decide +kernel), List.mem_of_getElem? (i := 633) (by decide +kernel), List.mem_of_getElem? (i := 634) (by decide +kernel)⟩
theorem lw_p47 : lw_okq (⟨"BannedRowsModel", "takesAll", "()Z"⟩, 22) := ⟨⟨by decide +kernel, by decide +kernel⟩, List.mem_of_getElem? (i := 588) (by decide +kernel), List.mem_of_getElem? (i := 716) (by decide +kernel), List.mem_of_getElem? (i := 717) (by decide +kernel)⟩
def lw_privs_3 : List (MethodName × Nat) := [(⟨"BannedRows", "readByWindow", "(I)I"⟩, 11), (⟨"BannedRows", "origins", "()I"⟩, 11), (⟨"BannedRows", "endOfSeen", "(I)I"⟩, 11), (⟨"BannedRows", "presentStates", "()I"⟩, 11), (⟨"BannedRows$Arcs", "withWord", "(III)I"⟩, 8), (⟨"BannedRowsModel", "begins", "()V"⟩, 22), (⟨"BannedRowsModel", "finds", "()V"⟩, 22), (⟨"BannedRowsModel", "layArcs", "()V"⟩, 22), (⟨"BannedRowsModel", "states", "()I"⟩, 22), (⟨"BannedRowsModel", "words", "()I"⟩, 22), (⟨"BannedRowsModel", "stepOf", "(II)I"⟩, 22), (⟨"BannedRowsModel", "border", "(III)I"⟩, 22), (⟨"BannedRowsModel", "banned", "(I)I"⟩, 22), (⟨"BannedRowsModel", "goodArcs", "(I)I"⟩, 22), (⟨"BannedRowsModel", "lead", "(II)I"⟩, 22), (⟨"BannedRowsModel", "takesAll", "()Z"⟩, 22)]
theorem lw_r3 : ∀ q ∈ lw_privs_3, lw_okq q := List.forall_mem_cons.mpr ⟨lw_p32, List.forall_mem_cons.mpr ⟨lw_p33, List.forall_mem_cons.mpr ⟨lw_p34, List.forall_mem_cons.mpr ⟨lw_p35, List.forall_mem_cons.mpr ⟨lw_p36, List.forall_mem_cons.mpr ⟨lw_p37, List.forall_mem_cons.mpr ⟨lw_p38, List.forall_mem_cons.mpr ⟨lw_p39, List.forall_mem_cons.mpr ⟨lw_p40, List.forall_mem_cons.mpr ⟨lw_p41, List.forall_mem_cons.mpr ⟨lw_p42, List.forall_mem_cons.mpr ⟨lw_p43, List.forall_mem_cons.mpr ⟨lw_p44, List.forall_mem_cons.mpr ⟨lw_p45, List.forall_mem_cons.mpr ⟨lw_p46, List.forall_mem_cons.mpr ⟨lw_p47, fun _ h => absurd h List.not_mem_nil⟩⟩⟩⟩⟩⟩⟩⟩⟩⟩⟩⟩⟩⟩⟩⟩
theorem lw_p48 : lw_okq (⟨"BannedRowsModel", "takesBan", "()Z"⟩, 22) := ⟨⟨by decide +kernel, by decide +kernel⟩, List.mem_of_getElem? (i := 588) (by decide +kernel), List.mem_of_getElem? (i := 720) (by decide +kernel), List.mem_of_getElem? (i := 721) (by decide +kernel)⟩
theorem lw_p49 : lw_okq (⟨"BannedRowsModel", "takes", "(I)Z"⟩, 22) := ⟨⟨by decide +kernel, by decide +kernel⟩, List.mem_of_getElem? (i := 588) (by decide +kernel), List.mem_of_getElem? (i := 724) (by decide +kernel), List.mem_of_getElem? (i := 725) (by decide +kernel)⟩
theorem lw_p50 : lw_okq (⟨"BannedRowsModel", "here", "()I"⟩, 22) := ⟨⟨by decide +kernel, by decide +kernel⟩, List.mem_of_getElem? (i := 588) (by decide +kernel), List.mem_of_getElem? (i := 728) (by decide +kernel), List.mem_of_getElem? (i := 729) (by decide +kernel)⟩
theorem lw_p51 : lw_okq (⟨"BannedRowsModel", "takesNumber", "(II)Z"⟩, 22) := ⟨⟨by decide +kernel, by decide +kernel⟩, List.mem_of_getElem? (i := 588) (by decide +kernel), List.mem_of_getElem? (i := 732) (by decide +kernel), List.mem_of_getElem? (i := 733) (by decide +kernel)⟩
theorem lw_p52 : lw_okq (⟨"BannedRowsModel", "isFigure", "(I)Z"⟩, 22) := ⟨⟨by decide +kernel, by decide +kernel⟩, List.mem_of_getElem? (i := 588) (by decide +kernel), List.mem_of_getElem? (i := 736) (by decide +kernel), List.mem_of_getElem? (i := 737) (by decide +kernel)⟩
theorem lw_p53 : lw_okq (⟨"BannedRowsModel", "takesBits", "()Z"⟩, 22) := ⟨⟨by decide +kernel, by decide +kernel⟩, List.mem_of_getElem? (i := 588) (by decide +kernel), List.mem_of_getElem? (i := 742) (by decide +kernel), List.mem_of_getElem? (i := 743) (by decide +kernel)⟩
theorem lw_p54 : lw_okq (⟨"BannedRowsModel", "keepPast", "()V"⟩, 22) := ⟨⟨by decide +kernel, by decide +kernel⟩, List.mem_of_getElem? (i := 588) (by decide +kernel), List.mem_of_getElem? (i := 746) (by decide +kernel), List.mem_of_getElem? (i := 747) (by decide +kernel)⟩
theorem lw_p55 : lw_okq (⟨"BannedRowsModel", "wordFor", "(II)I"⟩, 22) := ⟨⟨by decide +kernel, by decide +kernel⟩, List.mem_of_getElem? (i := 588) (by decide +kernel), List.mem_of_getElem? (i := 754) (by decide +kernel), List.mem_of_getElem? (i := 755) (by decide +kernel)⟩
theorem lw_p56 : lw_okq (⟨"BannedRowsModel", "tag", "(II)I"⟩, 22) := ⟨⟨by decide +kernel, by decide +kernel⟩, List.mem_of_getElem? (i := 588) (by decide +kernel), List.mem_of_getElem? (i := 758) (by decide +kernel), List.mem_of_getElem? (i := 759) (by decide +kernel)⟩
theorem lw_p57 : lw_okq (⟨"BannedRowsModel", "isState", "(I)Z"⟩, 22) := ⟨⟨by decide +kernel, by decide +kernel⟩, List.mem_of_getElem? (i := 588) (by decide +kernel), List.mem_of_getElem? (i := 774) (by decide +kernel), List.mem_of_getElem? (i := 775) (by decide +kernel)⟩
theorem lw_p58 : lw_okq (⟨"BannedRowsModel", "weighs", "(I)V"⟩, 22) := ⟨⟨by decide +kernel, by decide +kernel⟩, List.mem_of_getElem? (i := 588) (by decide +kernel), List.mem_of_getElem? (i := 791) (by decide +kernel), List.mem_of_getElem? (i := 792) (by decide +kernel)⟩
theorem lw_p59 : lw_okq (⟨"BannedRowsModel", "start", "()I"⟩, 22) := ⟨⟨by decide +kernel, by decide +kernel⟩, List.mem_of_getElem? (i := 588) (by decide +kernel), List.mem_of_getElem? (i := 800) (by decide +kernel), List.mem_of_getElem? (i := 801) (by decide +kernel)⟩
theorem lw_p60 : lw_okq (⟨"BannedRowsModel", "byStates", "(I)I"⟩, 22) := ⟨⟨by decide +kernel, by decide +kernel⟩, List.mem_of_getElem? (i := 588) (by decide +kernel), List.mem_of_getElem? (i := 809) (by decide +kernel), List.mem_of_getElem? (i := 810) (by decide +kernel)⟩
theorem lw_p61 : lw_okq (⟨"BannedRowsModel", "byWindow", "(I)I"⟩, 22) := ⟨⟨by decide +kernel, by decide +kernel⟩, List.mem_of_getElem? (i := 588) (by decide +kernel), List.mem_of_getElem? (i := 813) (by decide +kernel), List.mem_of_getElem? (i := 814) (by decide +kernel)⟩
theorem lw_p62 : lw_okq (⟨"BannedRowsModel", "window", "()I"⟩, 22) := ⟨⟨by decide +kernel, by decide +kernel⟩, List.mem_of_getElem? (i := 588) (by decide +kernel), List.mem_of_getElem? (i := 817) (by decide +kernel), List.mem_of_getElem? (i := 818) (by decide +kernel)⟩
theorem lw_p63 : lw_okq (⟨"BannedRowsModel", "layAlike", "()V"⟩, 22) := ⟨⟨by decide +kernel, by decide +kernel⟩, List.mem_of_getElem? (i := 588) (by decide +kernel), List.mem_of_getElem? (i := 821) (by decide +kernel), List.mem_of_getElem? (i := 822) (by decide +kernel)⟩
def lw_privs_4 : List (MethodName × Nat) := [(⟨"BannedRowsModel", "takesBan", "()Z"⟩, 22), (⟨"BannedRowsModel", "takes", "(I)Z"⟩, 22), (⟨"BannedRowsModel", "here", "()I"⟩, 22), (⟨"BannedRowsModel", "takesNumber", "(II)Z"⟩, 22), (⟨"BannedRowsModel", "isFigure", "(I)Z"⟩, 22), (⟨"BannedRowsModel", "takesBits", "()Z"⟩, 22), (⟨"BannedRowsModel", "keepPast", "()V"⟩, 22), (⟨"BannedRowsModel", "wordFor", "(II)I"⟩, 22), (⟨"BannedRowsModel", "tag", "(II)I"⟩, 22), (⟨"BannedRowsModel", "isState", "(I)Z"⟩, 22), (⟨"BannedRowsModel", "weighs", "(I)V"⟩, 22), (⟨"BannedRowsModel", "start", "()I"⟩, 22), (⟨"BannedRowsModel", "byStates", "(I)I"⟩, 22), (⟨"BannedRowsModel", "byWindow", "(I)I"⟩, 22), (⟨"BannedRowsModel", "window", "()I"⟩, 22), (⟨"BannedRowsModel", "layAlike", "()V"⟩, 22)]
theorem lw_r4 : ∀ q ∈ lw_privs_4, lw_okq q := List.forall_mem_cons.mpr ⟨lw_p48, List.forall_mem_cons.mpr ⟨lw_p49, List.forall_mem_cons.mpr ⟨lw_p50, List.forall_mem_cons.mpr ⟨lw_p51, List.forall_mem_cons.mpr ⟨lw_p52, List.forall_mem_cons.mpr ⟨lw_p53, List.forall_mem_cons.mpr ⟨lw_p54, List.forall_mem_cons.mpr ⟨lw_p55, List.forall_mem_cons.mpr ⟨lw_p56, List.forall_mem_cons.mpr ⟨lw_p57, List.forall_mem_cons.mpr ⟨lw_p58, List.forall_mem_cons.mpr ⟨lw_p59, List.forall_mem_cons.mpr ⟨lw_p60, List.forall_mem_cons.mpr ⟨lw_p61, List.forall_mem_cons.mpr ⟨lw_p62, List.forall_mem_cons.mpr ⟨lw_p63, fun _ h => absurd h List.not_mem_nil⟩⟩⟩⟩⟩⟩⟩⟩⟩⟩⟩⟩⟩⟩⟩⟩
theorem lw_p64 : lw_okq (⟨"BannedRowsModel", "goOn", "(IIII)Z"⟩, 22) := ⟨⟨by decide +kernel, by decide +kernel⟩, List.mem_of_getElem? (i := 588) (by decide +kernel), List.mem_of_getElem? (i := 825) (by decide +kernel), List.mem_of_getElem? (i := 826) (by decide +kernel)⟩
theorem lw_p65 : lw_okq (⟨"BannedRowsModel", "isWide", "(I)Z"⟩, 22) := ⟨⟨by decide +kernel, by decide +kernel⟩, List.mem_of_getElem? (i := 588) (by decide +kernel), List.mem_of_getElem? (i := 829) (by decide +kernel), List.mem_of_getElem? (i := 830) (by decide +kernel)⟩
theorem lw_p66 : lw_okq (⟨"BannedRowsModel", "statesBySeen", "(Z)I"⟩, 22) := ⟨⟨by decide +kernel, by decide +kernel⟩, List.mem_of_getElem? (i := 588) (by decide +kernel), List.mem_of_getElem? (i := 849) (by decide +kernel), List.mem_of_getElem? (i := 850) (by decide +kernel)⟩
theorem lw_p67 : lw_okq (⟨"BannedRowsModel", "otherBits", "()I"⟩, 22) := ⟨⟨by decide +kernel, by decide +kernel⟩, List.mem_of_getElem? (i := 588) (by decide +kernel), List.mem_of_getElem? (i := 870) (by decide +kernel), List.mem_of_getElem? (i := 871) (by decide +kernel)⟩
def lw_privs_5 : List (MethodName × Nat) := [(⟨"BannedRowsModel", "goOn", "(IIII)Z"⟩, 22), (⟨"BannedRowsModel", "isWide", "(I)Z"⟩, 22), (⟨"BannedRowsModel", "statesBySeen", "(Z)I"⟩, 22), (⟨"BannedRowsModel", "otherBits", "()I"⟩, 22)]
theorem lw_r5 : ∀ q ∈ lw_privs_5, lw_okq q := List.forall_mem_cons.mpr ⟨lw_p64, List.forall_mem_cons.mpr ⟨lw_p65, List.forall_mem_cons.mpr ⟨lw_p66, List.forall_mem_cons.mpr ⟨lw_p67, fun _ h => absurd h List.not_mem_nil⟩⟩⟩⟩
def lw_privs : List (MethodName × Nat) := lw_privs_1 ++ (lw_privs_2 ++ (lw_privs_3 ++ (lw_privs_4 ++ (lw_privs_5))))
def lw_tbl : List Cond := k2_sels lw_privs ++ tables_1
theorem lw_privs_ok : ∀ q ∈ lw_privs, lw_okq q := by
  show ∀ q ∈ lw_privs_1 ++ (lw_privs_2 ++ (lw_privs_3 ++ (lw_privs_4 ++ (lw_privs_5)))), lw_okq q
  exact List.forall_mem_append.mpr ⟨lw_r1, List.forall_mem_append.mpr ⟨lw_r2, List.forall_mem_append.mpr ⟨lw_r3, List.forall_mem_append.mpr ⟨lw_r4, lw_r5⟩⟩⟩⟩

def RX0 : String := "BannedRows$Arcs"
def TX0 : u_T := fun k => match k with
  | 0 => ("BannedRows$Arcs", "states", "I", false)
  | 1 => ("BannedRows$Arcs", "good", "I", false)
  | 2 => ("BannedRows$Arcs", "begin", "I", false)
  | 3 => ("BannedRows$Arcs", "window", "I", false)
  | 4 => ("BannedRows$Arcs", "ends", "[I", true)
  | 5 => ("BannedRows$Arcs", "tags", "[I", true)
  | 6 => ("BannedRows$Arcs", "mates", "[I", true)
  | _ => ("BannedRows$Arcs", "nextMates", "[I", true)
def tyX0 : Nat → FieldType := fun k => match k with
  | 0 => .int
  | 1 => .int
  | 2 => .int
  | 3 => .int
  | 4 => .array .int
  | 5 => .array .int
  | 6 => .array .int
  | _ => .array .int
theorem nmX0 : ∀ a, a < 8 → ∀ b, b < 8 → a ≠ b → (TX0 a).2.1 ≠ (TX0 b).2.1 := by decide +kernel
theorem tyX0_ok : ∀ k, k < 8 → parseFieldDescriptor (TX0 k).2.2.1 = some (tyX0 k) := by decide +kernel
abbrev cX0_init : ByteArray := prog_2_method_1_code
def yX0_init : MethodName := ⟨RX0, "<init>", "()V"⟩
abbrev cX0_build : ByteArray := prog_2_method_2_code
def yX0_build : MethodName := ⟨RX0, "build", "(LBannedRows$Ban;)V"⟩
abbrev cX0_endOf : ByteArray := prog_2_method_3_code
def yX0_endOf : MethodName := ⟨RX0, "endOf", "(II)I"⟩
abbrev cX0_tagOf : ByteArray := prog_2_method_4_code
def yX0_tagOf : MethodName := ⟨RX0, "tagOf", "(II)I"⟩
abbrev cX0_isGood : ByteArray := prog_2_method_5_code
def yX0_isGood : MethodName := ⟨RX0, "isGood", "(I)Z"⟩
abbrev cX0_arcsFrom : ByteArray := prog_2_method_6_code
def yX0_arcsFrom : MethodName := ⟨RX0, "arcsFrom", "(I)I"⟩
abbrev cX0_wordWith : ByteArray := prog_2_method_7_code
def yX0_wordWith : MethodName := ⟨RX0, "wordWith", "(II)I"⟩
abbrev cX0_follow : ByteArray := prog_2_method_8_code
def yX0_follow : MethodName := ⟨RX0, "follow", "(I[III)I"⟩
abbrev cX0_mostAlike : ByteArray := prog_2_method_9_code
def yX0_mostAlike : MethodName := ⟨RX0, "mostAlike", "(II)I"⟩
abbrev cX0_withWord : ByteArray := prog_2_method_10_code
def yX0_withWord : MethodName := ⟨RX0, "withWord", "(III)I"⟩
abbrev cX0_has : ByteArray := prog_2_method_11_code
def yX0_has : MethodName := ⟨RX0, "has", "(II)Z"⟩
abbrev cX0_setEnds : ByteArray := prog_2_method_12_code
def yX0_setEnds : MethodName := ⟨RX0, "setEnds", "(LBannedRows$Ban;)V"⟩
abbrev cX0_leadOver : ByteArray := prog_2_method_13_code
def yX0_leadOver : MethodName := ⟨RX0, "leadOver", "(LBannedRows$Ban;II)I"⟩
abbrev cX0_setGood : ByteArray := prog_2_method_14_code
def yX0_setGood : MethodName := ⟨RX0, "setGood", "(I)V"⟩
abbrev cX0_lowestGood : ByteArray := prog_2_method_15_code
def yX0_lowestGood : MethodName := ⟨RX0, "lowestGood", "()I"⟩
abbrev cX0_arcsToGood : ByteArray := prog_2_method_16_code
def yX0_arcsToGood : MethodName := ⟨RX0, "arcsToGood", "(I)I"⟩
abbrev cX0_setTags : ByteArray := prog_2_method_17_code
def yX0_setTags : MethodName := ⟨RX0, "setTags", "(I)V"⟩
abbrev cX0_narrowestWindow : ByteArray := prog_2_method_18_code
def yX0_narrowestWindow : MethodName := ⟨RX0, "narrowestWindow", "()I"⟩
abbrev cX0_isDoubtful : ByteArray := prog_2_method_19_code
def yX0_isDoubtful : MethodName := ⟨RX0, "isDoubtful", "()Z"⟩
abbrev cX0_goOnAlike : ByteArray := prog_2_method_20_code
def yX0_goOnAlike : MethodName := ⟨RX0, "goOnAlike", "(III)Z"⟩
abbrev cX0_lengthenMates : ByteArray := prog_2_method_21_code
def yX0_lengthenMates : MethodName := ⟨RX0, "lengthenMates", "()V"⟩
def RX1 : String := "BannedRows$Ban"
def TX1 : u_T := fun k => match k with
  | 0 => ("BannedRows$Ban", "sort", "I", false)
  | 1 => ("BannedRows$Ban", "low", "I", false)
  | 2 => ("BannedRows$Ban", "high", "I", false)
  | 3 => ("BannedRows$Ban", "p", "I", false)
  | _ => ("BannedRows$Ban", "q", "I", false)
def tyX1 : Nat → FieldType := fun k => match k with
  | 0 => .int
  | 1 => .int
  | 2 => .int
  | 3 => .int
  | _ => .int
theorem nmX1 : ∀ a, a < 5 → ∀ b, b < 5 → a ≠ b → (TX1 a).2.1 ≠ (TX1 b).2.1 := by decide +kernel
theorem tyX1_ok : ∀ k, k < 5 → parseFieldDescriptor (TX1 k).2.2.1 = some (tyX1 k) := by decide +kernel
abbrev cX1_init : ByteArray := prog_3_method_1_code
def yX1_init : MethodName := ⟨RX1, "<init>", "()V"⟩
abbrev cX1_setFirst : ByteArray := prog_3_method_2_code
def yX1_setFirst : MethodName := ⟨RX1, "setFirst", "()V"⟩
abbrev cX1_copy : ByteArray := prog_3_method_3_code
def yX1_copy : MethodName := ⟨RX1, "copy", "(LBannedRows$Ban;)V"⟩
abbrev cX1_tagCount : ByteArray := prog_3_method_4_code
def yX1_tagCount : MethodName := ⟨RX1, "tagCount", "()I"⟩
abbrev cX1_wordCount : ByteArray := prog_3_method_5_code
def yX1_wordCount : MethodName := ⟨RX1, "wordCount", "()I"⟩
abbrev cX1_stateCount : ByteArray := prog_3_method_6_code
def yX1_stateCount : MethodName := ⟨RX1, "stateCount", "()I"⟩
abbrev cX1_start : ByteArray := prog_3_method_7_code
def yX1_start : MethodName := ⟨RX1, "start", "()I"⟩
abbrev cX1_lead : ByteArray := prog_3_method_8_code
def yX1_lead : MethodName := ⟨RX1, "lead", "(II)I"⟩
abbrev cX1_leadOfRuns : ByteArray := prog_3_method_9_code
def yX1_leadOfRuns : MethodName := ⟨RX1, "leadOfRuns", "(II)I"⟩
abbrev cX1_leadOfCharge : ByteArray := prog_3_method_10_code
def yX1_leadOfCharge : MethodName := ⟨RX1, "leadOfCharge", "(II)I"⟩
abbrev cX1_leadOfWord : ByteArray := prog_3_method_11_code
def yX1_leadOfWord : MethodName := ⟨RX1, "leadOfWord", "(II)I"⟩
abbrev cX1_firstBits : ByteArray := prog_3_method_12_code
def yX1_firstBits : MethodName := ⟨RX1, "firstBits", "(I)I"⟩
def RX2 : String := "BannedRows$Held"
def TX2 : u_T := fun k => match k with
  | 0 => ("BannedRows$Held", "ban", "LBannedRows$Ban;", true)
  | _ => ("BannedRows$Held", "line", "LBannedRows$Line;", true)
def tyX2 : Nat → FieldType := fun k => match k with
  | 0 => .object "BannedRows$Ban"
  | _ => .object "BannedRows$Line"
theorem nmX2 : ∀ a, a < 2 → ∀ b, b < 2 → a ≠ b → (TX2 a).2.1 ≠ (TX2 b).2.1 := by decide +kernel
theorem tyX2_ok : ∀ k, k < 2 → parseFieldDescriptor (TX2 k).2.2.1 = some (tyX2 k) := by decide +kernel
abbrev cX2_init : ByteArray := prog_4_method_1_code
def yX2_init : MethodName := ⟨RX2, "<init>", "()V"⟩
abbrev cX2_copy : ByteArray := prog_4_method_2_code
def yX2_copy : MethodName := ⟨RX2, "copy", "(LBannedRows$Held;)V"⟩
def RX3 : String := "BannedRows$Line"
def TX3 : u_T := fun k => match k with
  | 0 => ("BannedRows$Line", "words", "[I", true)
  | 1 => ("BannedRows$Line", "sentWords", "[I", true)
  | 2 => ("BannedRows$Line", "sentTags", "[I", true)
  | 3 => ("BannedRows$Line", "size", "I", false)
  | _ => ("BannedRows$Line", "send", "I", false)
def tyX3 : Nat → FieldType := fun k => match k with
  | 0 => .array .int
  | 1 => .array .int
  | 2 => .array .int
  | 3 => .int
  | _ => .int
theorem nmX3 : ∀ a, a < 5 → ∀ b, b < 5 → a ≠ b → (TX3 a).2.1 ≠ (TX3 b).2.1 := by decide +kernel
theorem tyX3_ok : ∀ k, k < 5 → parseFieldDescriptor (TX3 k).2.2.1 = some (tyX3 k) := by decide +kernel
abbrev cX3_init : ByteArray := prog_5_method_1_code
def yX3_init : MethodName := ⟨RX3, "<init>", "()V"⟩
abbrev cX3_empty : ByteArray := prog_5_method_2_code
def yX3_empty : MethodName := ⟨RX3, "empty", "(I)V"⟩
abbrev cX3_copy : ByteArray := prog_5_method_3_code
def yX3_copy : MethodName := ⟨RX3, "copy", "(LBannedRows$Line;)V"⟩
abbrev cX3_append : ByteArray := prog_5_method_4_code
def yX3_append : MethodName := ⟨RX3, "append", "(III)V"⟩
abbrev cX3_turn : ByteArray := prog_5_method_5_code
def yX3_turn : MethodName := ⟨RX3, "turn", "(II)I"⟩
abbrev cX3_wordAt : ByteArray := prog_5_method_6_code
def yX3_wordAt : MethodName := ⟨RX3, "wordAt", "(I)I"⟩
abbrev cX3_tagAt : ByteArray := prog_5_method_7_code
def yX3_tagAt : MethodName := ⟨RX3, "tagAt", "(I)I"⟩
abbrev cX3_turnedBits : ByteArray := prog_5_method_8_code
def yX3_turnedBits : MethodName := ⟨RX3, "turnedBits", "()I"⟩
def RX4 : String := "BannedRows$Sums"
def TX4 : u_T := fun k => match k with
  | 0 => ("BannedRows$Sums", "values", "[I", true)
  | _ => ("BannedRows$Sums", "next", "[I", true)
def tyX4 : Nat → FieldType := fun k => match k with
  | 0 => .array .int
  | _ => .array .int
theorem nmX4 : ∀ a, a < 2 → ∀ b, b < 2 → a ≠ b → (TX4 a).2.1 ≠ (TX4 b).2.1 := by decide +kernel
theorem tyX4_ok : ∀ k, k < 2 → parseFieldDescriptor (TX4 k).2.2.1 = some (tyX4 k) := by decide +kernel
abbrev cX4_init : ByteArray := prog_6_method_1_code
def yX4_init : MethodName := ⟨RX4, "<init>", "()V"⟩
abbrev cX4_at : ByteArray := prog_6_method_2_code
def yX4_at : MethodName := ⟨RX4, "at", "(I)I"⟩
abbrev cX4_countRows : ByteArray := prog_6_method_3_code
def yX4_countRows : MethodName := ⟨RX4, "countRows", "(LBannedRows$Ban;I)I"⟩
abbrev cX4_settle : ByteArray := prog_6_method_4_code
def yX4_settle : MethodName := ⟨RX4, "settle", "(LBannedRows$Arcs;II)V"⟩
abbrev cX4_shareOf : ByteArray := prog_6_method_5_code
def yX4_shareOf : MethodName := ⟨RX4, "shareOf", "(I)I"⟩
abbrev cX4_setAll : ByteArray := prog_6_method_6_code
def yX4_setAll : MethodName := ⟨RX4, "setAll", "(II)V"⟩
abbrev cX4_total : ByteArray := prog_6_method_7_code
def yX4_total : MethodName := ⟨RX4, "total", "()I"⟩
abbrev cX4_lengthenRows : ByteArray := prog_6_method_8_code
def yX4_lengthenRows : MethodName := ⟨RX4, "lengthenRows", "(LBannedRows$Ban;)V"⟩
abbrev cX4_lessen : ByteArray := prog_6_method_9_code
def yX4_lessen : MethodName := ⟨RX4, "lessen", "(LBannedRows$Arcs;I)Z"⟩
abbrev cX4_sumOver : ByteArray := prog_6_method_10_code
def yX4_sumOver : MethodName := ⟨RX4, "sumOver", "(LBannedRows$Arcs;I)I"⟩
def RX5 : String := "BannedRows$Text"
def TX5 : u_T := fun k => match k with
  | 0 => ("BannedRows$Text", "letters", "[I", true)
  | 1 => ("BannedRows$Text", "size", "I", false)
  | 2 => ("BannedRows$Text", "awaited", "I", false)
  | 3 => ("BannedRows$Text", "isPTold", "Z", false)
  | _ => ("BannedRows$Text", "isQTold", "Z", false)
def tyX5 : Nat → FieldType := fun k => match k with
  | 0 => .array .int
  | 1 => .int
  | 2 => .int
  | 3 => .boolean
  | _ => .boolean
theorem nmX5 : ∀ a, a < 5 → ∀ b, b < 5 → a ≠ b → (TX5 a).2.1 ≠ (TX5 b).2.1 := by decide +kernel
theorem tyX5_ok : ∀ k, k < 5 → parseFieldDescriptor (TX5 k).2.2.1 = some (tyX5 k) := by decide +kernel
abbrev cX5_init : ByteArray := prog_7_method_1_code
def yX5_init : MethodName := ⟨RX5, "<init>", "()V"⟩
abbrev cX5_append : ByteArray := prog_7_method_2_code
def yX5_append : MethodName := ⟨RX5, "append", "(I)V"⟩
abbrev cX5_readTo : ByteArray := prog_7_method_3_code
def yX5_readTo : MethodName := ⟨RX5, "readTo", "(LBannedRows$Ban;)I"⟩
abbrev cX5_letterAt : ByteArray := prog_7_method_4_code
def yX5_letterAt : MethodName := ⟨RX5, "letterAt", "(I)I"⟩
abbrev cX5_isFigure : ByteArray := prog_7_method_5_code
def yX5_isFigure : MethodName := ⟨RX5, "isFigure", "(I)Z"⟩
abbrev cX5_isTokenStart : ByteArray := prog_7_method_6_code
def yX5_isTokenStart : MethodName := ⟨RX5, "isTokenStart", "(I)Z"⟩
abbrev cX5_tokenLength : ByteArray := prog_7_method_7_code
def yX5_tokenLength : MethodName := ⟨RX5, "tokenLength", "(I)I"⟩
abbrev cX5_takes : ByteArray := prog_7_method_8_code
def yX5_takes : MethodName := ⟨RX5, "takes", "(ILBannedRows$Ban;)Z"⟩
abbrev cX5_takesSort : ByteArray := prog_7_method_9_code
def yX5_takesSort : MethodName := ⟨RX5, "takesSort", "(ILBannedRows$Ban;)Z"⟩
abbrev cX5_takesRate : ByteArray := prog_7_method_10_code
def yX5_takesRate : MethodName := ⟨RX5, "takesRate", "(I)Z"⟩
abbrev cX5_figureAt : ByteArray := prog_7_method_11_code
def yX5_figureAt : MethodName := ⟨RX5, "figureAt", "(III)I"⟩
abbrev cX5_bitsAt : ByteArray := prog_7_method_12_code
def yX5_bitsAt : MethodName := ⟨RX5, "bitsAt", "(II)I"⟩
def RX6 : String := "BannedRows"
def TX6 : u_T := fun k => match k with
  | 0 => ("BannedRows", "text", "LBannedRows$Text;", true)
  | 1 => ("BannedRows", "told", "LBannedRows$Ban;", true)
  | 2 => ("BannedRows", "now", "LBannedRows$Held;", true)
  | 3 => ("BannedRows", "arcs", "LBannedRows$Arcs;", true)
  | 4 => ("BannedRows", "sums", "LBannedRows$Sums;", true)
  | 5 => ("BannedRows", "past", "[LBannedRows$Held;", true)
  | 6 => ("BannedRows", "pastSize", "I", false)
  | 7 => ("BannedRows", "images", "[LBannedRows$Held;", true)
  | 8 => ("BannedRows", "kept", "[Z", true)
  | 9 => ("BannedRows", "seen", "[I", true)
  | _ => ("BannedRows", "seenSize", "I", false)
def tyX6 : Nat → FieldType := fun k => match k with
  | 0 => .object "BannedRows$Text"
  | 1 => .object "BannedRows$Ban"
  | 2 => .object "BannedRows$Held"
  | 3 => .object "BannedRows$Arcs"
  | 4 => .object "BannedRows$Sums"
  | 5 => .array (.object "BannedRows$Held")
  | 6 => .int
  | 7 => .array (.object "BannedRows$Held")
  | 8 => .array .boolean
  | 9 => .array .int
  | _ => .int
theorem nmX6 : ∀ a, a < 11 → ∀ b, b < 11 → a ≠ b → (TX6 a).2.1 ≠ (TX6 b).2.1 := by decide +kernel
theorem tyX6_ok : ∀ k, k < 11 → parseFieldDescriptor (TX6 k).2.2.1 = some (tyX6 k) := by decide +kernel
abbrev cX6_init : ByteArray := prog_1_method_1_code
def yX6_init : MethodName := ⟨RX6, "<init>", "()V"⟩
abbrev cX6_type : ByteArray := prog_1_method_2_code
def yX6_type : MethodName := ⟨RX6, "type", "(I)I"⟩
abbrev cX6_clear : ByteArray := prog_1_method_3_code
def yX6_clear : MethodName := ⟨RX6, "clear", "()I"⟩
abbrev cX6_tells : ByteArray := prog_1_method_4_code
def yX6_tells : MethodName := ⟨RX6, "tells", "()I"⟩
abbrev cX6_sends : ByteArray := prog_1_method_5_code
def yX6_sends : MethodName := ⟨RX6, "sends", "(I)I"⟩
abbrev cX6_flips : ByteArray := prog_1_method_6_code
def yX6_flips : MethodName := ⟨RX6, "flips", "(I)I"⟩
abbrev cX6_undo : ByteArray := prog_1_method_7_code
def yX6_undo : MethodName := ⟨RX6, "undo", "()I"⟩
abbrev cX6_step : ByteArray := prog_1_method_8_code
def yX6_step : MethodName := ⟨RX6, "step", "(II)I"⟩
abbrev cX6_arc : ByteArray := prog_1_method_9_code
def yX6_arc : MethodName := ⟨RX6, "arc", "(III)I"⟩
abbrev cX6_state : ByteArray := prog_1_method_10_code
def yX6_state : MethodName := ⟨RX6, "state", "(II)I"⟩
abbrev cX6_weight : ByteArray := prog_1_method_11_code
def yX6_weight : MethodName := ⟨RX6, "weight", "(III)I"⟩
abbrev cX6_rows : ByteArray := prog_1_method_12_code
def yX6_rows : MethodName := ⟨RX6, "rows", "(I)I"⟩
abbrev cX6_word : ByteArray := prog_1_method_13_code
def yX6_word : MethodName := ⟨RX6, "word", "(II)I"⟩
abbrev cX6_wrong : ByteArray := prog_1_method_14_code
def yX6_wrong : MethodName := ⟨RX6, "wrong", "(I)I"⟩
abbrev cX6_sees : ByteArray := prog_1_method_15_code
def yX6_sees : MethodName := ⟨RX6, "sees", "(I)I"⟩
abbrev cX6_forget : ByteArray := prog_1_method_16_code
def yX6_forget : MethodName := ⟨RX6, "forget", "()I"⟩
abbrev cX6_which : ByteArray := prog_1_method_17_code
def yX6_which : MethodName := ⟨RX6, "which", "(I)I"⟩
abbrev cX6_ask : ByteArray := prog_1_method_18_code
def yX6_ask : MethodName := ⟨RX6, "ask", "()I"⟩
abbrev cX6_keep : ByteArray := prog_1_method_19_code
def yX6_keep : MethodName := ⟨RX6, "keep", "(I)I"⟩
abbrev cX6_back : ByteArray := prog_1_method_20_code
def yX6_back : MethodName := ⟨RX6, "back", "(I)I"⟩
abbrev cX6_count : ByteArray := prog_1_method_21_code
def yX6_count : MethodName := ⟨RX6, "count", "(I)I"⟩
abbrev cX6_isNoState : ByteArray := prog_1_method_22_code
def yX6_isNoState : MethodName := ⟨RX6, "isNoState", "(I)Z"⟩
abbrev cX6_isNoWord : ByteArray := prog_1_method_23_code
def yX6_isNoWord : MethodName := ⟨RX6, "isNoWord", "(I)Z"⟩
abbrev cX6_isNoImage : ByteArray := prog_1_method_24_code
def yX6_isNoImage : MethodName := ⟨RX6, "isNoImage", "(I)Z"⟩
abbrev cX6_remember : ByteArray := prog_1_method_25_code
def yX6_remember : MethodName := ⟨RX6, "remember", "()V"⟩
abbrev cX6_become : ByteArray := prog_1_method_26_code
def yX6_become : MethodName := ⟨RX6, "become", "(LBannedRows$Held;)V"⟩
abbrev cX6_readByStates : ByteArray := prog_1_method_27_code
def yX6_readByStates : MethodName := ⟨RX6, "readByStates", "(I)I"⟩
abbrev cX6_readByWindow : ByteArray := prog_1_method_28_code
def yX6_readByWindow : MethodName := ⟨RX6, "readByWindow", "(I)I"⟩
abbrev cX6_origins : ByteArray := prog_1_method_29_code
def yX6_origins : MethodName := ⟨RX6, "origins", "()I"⟩
abbrev cX6_presentStates : ByteArray := prog_1_method_30_code
def yX6_presentStates : MethodName := ⟨RX6, "presentStates", "()I"⟩
abbrev cX6_endOfSeen : ByteArray := prog_1_method_31_code
def yX6_endOfSeen : MethodName := ⟨RX6, "endOfSeen", "(I)I"⟩
def RX7 : String := "BannedRowsModel"
def TX7 : u_T := fun k => match k with
  | 0 => ("BannedRowsModel", "all", "[I", true)
  | 1 => ("BannedRowsModel", "past", "[I", true)
  | 2 => ("BannedRowsModel", "undone", "I", false)
  | 3 => ("BannedRowsModel", "images", "[I", true)
  | 4 => ("BannedRowsModel", "kept", "[Z", true)
  | 5 => ("BannedRowsModel", "seen", "[I", true)
  | 6 => ("BannedRowsModel", "seenMany", "I", false)
  | 7 => ("BannedRowsModel", "text", "[I", true)
  | 8 => ("BannedRowsModel", "textLong", "I", false)
  | 9 => ("BannedRowsModel", "leads", "[I", true)
  | 10 => ("BannedRowsModel", "tags", "[I", true)
  | 11 => ("BannedRowsModel", "good", "I", false)
  | 12 => ("BannedRowsModel", "begin", "I", false)
  | 13 => ("BannedRowsModel", "spot", "I", false)
  | 14 => ("BannedRowsModel", "tokenLong", "I", false)
  | 15 => ("BannedRowsModel", "taken", "I", false)
  | 16 => ("BannedRowsModel", "next", "[I", true)
  | 17 => ("BannedRowsModel", "weights", "[I", true)
  | 18 => ("BannedRowsModel", "lighter", "[I", true)
  | 19 => ("BannedRowsModel", "ways", "[I", true)
  | 20 => ("BannedRowsModel", "nextWays", "[I", true)
  | _ => ("BannedRowsModel", "alike", "[Z", true)
def tyX7 : Nat → FieldType := fun k => match k with
  | 0 => .array .int
  | 1 => .array .int
  | 2 => .int
  | 3 => .array .int
  | 4 => .array .boolean
  | 5 => .array .int
  | 6 => .int
  | 7 => .array .int
  | 8 => .int
  | 9 => .array .int
  | 10 => .array .int
  | 11 => .int
  | 12 => .int
  | 13 => .int
  | 14 => .int
  | 15 => .int
  | 16 => .array .int
  | 17 => .array .int
  | 18 => .array .int
  | 19 => .array .int
  | 20 => .array .int
  | _ => .array .boolean
theorem nmX7 : ∀ a, a < 22 → ∀ b, b < 22 → a ≠ b → (TX7 a).2.1 ≠ (TX7 b).2.1 := by decide +kernel
theorem tyX7_ok : ∀ k, k < 22 → parseFieldDescriptor (TX7 k).2.2.1 = some (tyX7 k) := by decide +kernel
abbrev cX7_init : ByteArray := prog_9_method_1_code
def yX7_init : MethodName := ⟨RX7, "<init>", "()V"⟩
abbrev cX7_in : ByteArray := prog_9_method_3_code
def yX7_in : MethodName := ⟨RX7, "in", "(JJJ)Z"⟩
abbrev cX7_begins : ByteArray := prog_9_method_4_code
def yX7_begins : MethodName := ⟨RX7, "begins", "()V"⟩
abbrev cX7_keepPast : ByteArray := prog_9_method_5_code
def yX7_keepPast : MethodName := ⟨RX7, "keepPast", "()V"⟩
abbrev cX7_states : ByteArray := prog_9_method_6_code
def yX7_states : MethodName := ⟨RX7, "states", "()I"⟩
abbrev cX7_start : ByteArray := prog_9_method_7_code
def yX7_start : MethodName := ⟨RX7, "start", "()I"⟩
abbrev cX7_banned : ByteArray := prog_9_method_8_code
def yX7_banned : MethodName := ⟨RX7, "banned", "(I)I"⟩
abbrev cX7_border : ByteArray := prog_9_method_9_code
def yX7_border : MethodName := ⟨RX7, "border", "(III)I"⟩
abbrev cX7_stepOf : ByteArray := prog_9_method_10_code
def yX7_stepOf : MethodName := ⟨RX7, "stepOf", "(II)I"⟩
abbrev cX7_words : ByteArray := prog_9_method_11_code
def yX7_words : MethodName := ⟨RX7, "words", "()I"⟩
abbrev cX7_lead : ByteArray := prog_9_method_12_code
def yX7_lead : MethodName := ⟨RX7, "lead", "(II)I"⟩
abbrev cX7_tag : ByteArray := prog_9_method_13_code
def yX7_tag : MethodName := ⟨RX7, "tag", "(II)I"⟩
abbrev cX7_layArcs : ByteArray := prog_9_method_14_code
def yX7_layArcs : MethodName := ⟨RX7, "layArcs", "()V"⟩
abbrev cX7_goodArcs : ByteArray := prog_9_method_15_code
def yX7_goodArcs : MethodName := ⟨RX7, "goodArcs", "(I)I"⟩
abbrev cX7_finds : ByteArray := prog_9_method_16_code
def yX7_finds : MethodName := ⟨RX7, "finds", "()V"⟩
abbrev cX7_type : ByteArray := prog_9_method_17_code
def yX7_type : MethodName := ⟨RX7, "type", "(I)I"⟩
abbrev cX7_clear : ByteArray := prog_9_method_18_code
def yX7_clear : MethodName := ⟨RX7, "clear", "()I"⟩
abbrev cX7_here : ByteArray := prog_9_method_19_code
def yX7_here : MethodName := ⟨RX7, "here", "()I"⟩
abbrev cX7_isFigure : ByteArray := prog_9_method_20_code
def yX7_isFigure : MethodName := ⟨RX7, "isFigure", "(I)Z"⟩
abbrev cX7_takes : ByteArray := prog_9_method_21_code
def yX7_takes : MethodName := ⟨RX7, "takes", "(I)Z"⟩
abbrev cX7_takesNumber : ByteArray := prog_9_method_22_code
def yX7_takesNumber : MethodName := ⟨RX7, "takesNumber", "(II)Z"⟩
abbrev cX7_takesBits : ByteArray := prog_9_method_23_code
def yX7_takesBits : MethodName := ⟨RX7, "takesBits", "()Z"⟩
abbrev cX7_takesBan : ByteArray := prog_9_method_24_code
def yX7_takesBan : MethodName := ⟨RX7, "takesBan", "()Z"⟩
abbrev cX7_takesAll : ByteArray := prog_9_method_25_code
def yX7_takesAll : MethodName := ⟨RX7, "takesAll", "()Z"⟩
abbrev cX7_tells : ByteArray := prog_9_method_26_code
def yX7_tells : MethodName := ⟨RX7, "tells", "()I"⟩
abbrev cX7_sends : ByteArray := prog_9_method_27_code
def yX7_sends : MethodName := ⟨RX7, "sends", "(I)I"⟩
abbrev cX7_wordFor : ByteArray := prog_9_method_28_code
def yX7_wordFor : MethodName := ⟨RX7, "wordFor", "(II)I"⟩
abbrev cX7_flips : ByteArray := prog_9_method_29_code
def yX7_flips : MethodName := ⟨RX7, "flips", "(I)I"⟩
abbrev cX7_undo : ByteArray := prog_9_method_30_code
def yX7_undo : MethodName := ⟨RX7, "undo", "()I"⟩
abbrev cX7_isState : ByteArray := prog_9_method_31_code
def yX7_isState : MethodName := ⟨RX7, "isState", "(I)Z"⟩
abbrev cX7_step : ByteArray := prog_9_method_32_code
def yX7_step : MethodName := ⟨RX7, "step", "(II)I"⟩
abbrev cX7_arc : ByteArray := prog_9_method_33_code
def yX7_arc : MethodName := ⟨RX7, "arc", "(III)I"⟩
abbrev cX7_state : ByteArray := prog_9_method_34_code
def yX7_state : MethodName := ⟨RX7, "state", "(II)I"⟩
abbrev cX7_weighs : ByteArray := prog_9_method_35_code
def yX7_weighs : MethodName := ⟨RX7, "weighs", "(I)V"⟩
abbrev cX7_weight : ByteArray := prog_9_method_36_code
def yX7_weight : MethodName := ⟨RX7, "weight", "(III)I"⟩
abbrev cX7_rows : ByteArray := prog_9_method_37_code
def yX7_rows : MethodName := ⟨RX7, "rows", "(I)I"⟩
abbrev cX7_goOn : ByteArray := prog_9_method_38_code
def yX7_goOn : MethodName := ⟨RX7, "goOn", "(IIII)Z"⟩
abbrev cX7_layAlike : ByteArray := prog_9_method_39_code
def yX7_layAlike : MethodName := ⟨RX7, "layAlike", "()V"⟩
abbrev cX7_isWide : ByteArray := prog_9_method_40_code
def yX7_isWide : MethodName := ⟨RX7, "isWide", "(I)Z"⟩
abbrev cX7_window : ByteArray := prog_9_method_41_code
def yX7_window : MethodName := ⟨RX7, "window", "()I"⟩
abbrev cX7_byStates : ByteArray := prog_9_method_42_code
def yX7_byStates : MethodName := ⟨RX7, "byStates", "(I)I"⟩
abbrev cX7_byWindow : ByteArray := prog_9_method_43_code
def yX7_byWindow : MethodName := ⟨RX7, "byWindow", "(I)I"⟩
abbrev cX7_word : ByteArray := prog_9_method_44_code
def yX7_word : MethodName := ⟨RX7, "word", "(II)I"⟩
abbrev cX7_wrong : ByteArray := prog_9_method_45_code
def yX7_wrong : MethodName := ⟨RX7, "wrong", "(I)I"⟩
abbrev cX7_sees : ByteArray := prog_9_method_46_code
def yX7_sees : MethodName := ⟨RX7, "sees", "(I)I"⟩
abbrev cX7_forget : ByteArray := prog_9_method_47_code
def yX7_forget : MethodName := ⟨RX7, "forget", "()I"⟩
abbrev cX7_statesBySeen : ByteArray := prog_9_method_48_code
def yX7_statesBySeen : MethodName := ⟨RX7, "statesBySeen", "(Z)I"⟩
abbrev cX7_which : ByteArray := prog_9_method_49_code
def yX7_which : MethodName := ⟨RX7, "which", "(I)I"⟩
abbrev cX7_ask : ByteArray := prog_9_method_50_code
def yX7_ask : MethodName := ⟨RX7, "ask", "()I"⟩
abbrev cX7_keep : ByteArray := prog_9_method_51_code
def yX7_keep : MethodName := ⟨RX7, "keep", "(I)I"⟩
abbrev cX7_back : ByteArray := prog_9_method_52_code
def yX7_back : MethodName := ⟨RX7, "back", "(I)I"⟩
abbrev cX7_otherBits : ByteArray := prog_9_method_53_code
def yX7_otherBits : MethodName := ⟨RX7, "otherBits", "()I"⟩
abbrev cX7_count : ByteArray := prog_9_method_54_code
def yX7_count : MethodName := ⟨RX7, "count", "(I)I"⟩
def RJ6 : String := "java/lang/Integer"
def TJ6 : u_T := fun k => match k with
  | _ => ("", "", "", false)
def tyJ6 : Nat → FieldType := fun k => match k with
  | _ => .int
abbrev cJ6_bitCount_0f7a4 : ByteArray := prog_10_method_49_code
def yJ6_bitCount_0f7a4 : MethodName := ⟨RJ6, "bitCount", "(I)I"⟩
def RJ9 : String := "java/lang/Math"
def TJ9 : u_T := fun k => match k with
  | _ => ("", "", "", false)
def tyJ9 : Nat → FieldType := fun k => match k with
  | _ => .int
abbrev cJ9_max_7cf53 : ByteArray := prog_11_method_65_code
def yJ9_max_7cf53 : MethodName := ⟨RJ9, "max", "(II)I"⟩
abbrev cJ9_min_7cf53 : ByteArray := prog_11_method_69_code
def yJ9_min_7cf53 : MethodName := ⟨RJ9, "min", "(II)I"⟩
def RJ10 : String := "java/lang/System"
def TJ10 : u_T := fun k => match k with
  | _ => ("", "", "", false)
def tyJ10 : Nat → FieldType := fun k => match k with
  | _ => .int
def RL : String := "BannedRowsLaw"
abbrev cL_law : ByteArray := code
def yL_law : MethodName := ⟨RL, "law", "([I)Z"⟩
abbrev vwCl : List vw_C := [(RX0, TX0, 8), (RX1, TX1, 5), (RX2, TX2, 2), (RX3, TX3, 5), (RX4, TX4, 2), (RX5, TX5, 5), (RX6, TX6, 11), (RX7, TX7, 22)]
end
section
theorem dX0_init_0 : decode cX0_init 0 = .ok (.aload_n 0, 1) := by decide +kernel
theorem dX0_init_1 : decode cX0_init 1 = .ok (.invokespecial 3, 3) := by decide +kernel
theorem dX0_init_4 : decode cX0_init 4 = .ok (.aload_n 0, 1) := by decide +kernel
theorem dX0_init_5 : decode cX0_init 5 = .ok (.bipush 112, 2) := by decide +kernel
theorem dX0_init_7 : decode cX0_init 7 = .ok (.newarray .int, 2) := by decide +kernel
theorem dX0_init_9 : decode cX0_init 9 = .ok (.putfield 9, 3) := by decide +kernel
theorem dX0_init_12 : decode cX0_init 12 = .ok (.aload_n 0, 1) := by decide +kernel
theorem dX0_init_13 : decode cX0_init 13 = .ok (.bipush 112, 2) := by decide +kernel
theorem dX0_init_15 : decode cX0_init 15 = .ok (.newarray .int, 2) := by decide +kernel
theorem dX0_init_17 : decode cX0_init 17 = .ok (.putfield 15, 3) := by decide +kernel
theorem dX0_init_20 : decode cX0_init 20 = .ok (.aload_n 0, 1) := by decide +kernel
theorem dX0_init_21 : decode cX0_init 21 = .ok (.bipush 7, 2) := by decide +kernel
theorem dX0_init_23 : decode cX0_init 23 = .ok (.newarray .int, 2) := by decide +kernel
theorem dX0_init_25 : decode cX0_init 25 = .ok (.putfield 18, 3) := by decide +kernel
theorem dX0_init_28 : decode cX0_init 28 = .ok (.aload_n 0, 1) := by decide +kernel
theorem dX0_init_29 : decode cX0_init 29 = .ok (.bipush 7, 2) := by decide +kernel
theorem dX0_init_31 : decode cX0_init 31 = .ok (.newarray .int, 2) := by decide +kernel
theorem dX0_init_33 : decode cX0_init 33 = .ok (.putfield 21, 3) := by decide +kernel
theorem dX0_init_36 : decode cX0_init 36 = .ok (.return_, 1) := by decide +kernel
theorem dX0_build_0 : decode cX0_build 0 = .ok (.aload_n 0, 1) := by decide +kernel
theorem dX0_build_1 : decode cX0_build 1 = .ok (.aload_n 1, 1) := by decide +kernel
theorem dX0_build_2 : decode cX0_build 2 = .ok (.invokevirtual 24, 3) := by decide +kernel
theorem dX0_build_5 : decode cX0_build 5 = .ok (.bipush 7, 2) := by decide +kernel
theorem dX0_build_7 : decode cX0_build 7 = .ok (.invokestatic 30, 3) := by decide +kernel
theorem dX0_build_10 : decode cX0_build 10 = .ok (.putfield 36, 3) := by decide +kernel
theorem dX0_build_13 : decode cX0_build 13 = .ok (.aload_n 0, 1) := by decide +kernel
theorem dX0_build_14 : decode cX0_build 14 = .ok (.aload_n 1, 1) := by decide +kernel
theorem dX0_build_15 : decode cX0_build 15 = .ok (.invokevirtual 40, 3) := by decide +kernel
theorem dX0_build_18 : decode cX0_build 18 = .ok (.aload_n 0, 1) := by decide +kernel
theorem dX0_build_19 : decode cX0_build 19 = .ok (.aload_n 1, 1) := by decide +kernel
theorem dX0_build_20 : decode cX0_build 20 = .ok (.invokevirtual 44, 3) := by decide +kernel
theorem dX0_build_23 : decode cX0_build 23 = .ok (.invokevirtual 47, 3) := by decide +kernel
theorem dX0_build_26 : decode cX0_build 26 = .ok (.aload_n 0, 1) := by decide +kernel
theorem dX0_build_27 : decode cX0_build 27 = .ok (.aload_n 1, 1) := by decide +kernel
theorem dX0_build_28 : decode cX0_build 28 = .ok (.invokevirtual 44, 3) := by decide +kernel
theorem dX0_build_31 : decode cX0_build 31 = .ok (.invokevirtual 51, 3) := by decide +kernel
theorem dX0_build_34 : decode cX0_build 34 = .ok (.aload_n 0, 1) := by decide +kernel
theorem dX0_build_35 : decode cX0_build 35 = .ok (.aload_n 0, 1) := by decide +kernel
theorem dX0_build_36 : decode cX0_build 36 = .ok (.invokevirtual 54, 3) := by decide +kernel
theorem dX0_build_39 : decode cX0_build 39 = .ok (.putfield 57, 3) := by decide +kernel
theorem dX0_build_42 : decode cX0_build 42 = .ok (.aload_n 0, 1) := by decide +kernel
theorem dX0_build_43 : decode cX0_build 43 = .ok (.aload_n 0, 1) := by decide +kernel
theorem dX0_build_44 : decode cX0_build 44 = .ok (.invokevirtual 60, 3) := by decide +kernel
theorem dX0_build_47 : decode cX0_build 47 = .ok (.putfield 63, 3) := by decide +kernel
theorem dX0_build_50 : decode cX0_build 50 = .ok (.return_, 1) := by decide +kernel
theorem dX0_endOf_0 : decode cX0_endOf 0 = .ok (.iload_n 1, 1) := by decide +kernel
theorem dX0_endOf_1 : decode cX0_endOf 1 = .ok (.ifCond .lt 19, 3) := by decide +kernel
theorem dX0_endOf_4 : decode cX0_endOf 4 = .ok (.iload_n 1, 1) := by decide +kernel
theorem dX0_endOf_5 : decode cX0_endOf 5 = .ok (.bipush 7, 2) := by decide +kernel
theorem dX0_endOf_7 : decode cX0_endOf 7 = .ok (.if_icmp .ge 13, 3) := by decide +kernel
theorem dX0_endOf_10 : decode cX0_endOf 10 = .ok (.iload_n 2, 1) := by decide +kernel
theorem dX0_endOf_11 : decode cX0_endOf 11 = .ok (.ifCond .lt 9, 3) := by decide +kernel
theorem dX0_endOf_14 : decode cX0_endOf 14 = .ok (.iload_n 2, 1) := by decide +kernel
theorem dX0_endOf_15 : decode cX0_endOf 15 = .ok (.bipush 16, 2) := by decide +kernel
theorem dX0_endOf_17 : decode cX0_endOf 17 = .ok (.if_icmp .lt 6, 3) := by decide +kernel
theorem dX0_endOf_20 : decode cX0_endOf 20 = .ok (.bipush (-9), 2) := by decide +kernel
theorem dX0_endOf_22 : decode cX0_endOf 22 = .ok (.ireturn, 1) := by decide +kernel
theorem dX0_endOf_23 : decode cX0_endOf 23 = .ok (.aload_n 0, 1) := by decide +kernel
theorem dX0_endOf_24 : decode cX0_endOf 24 = .ok (.getfield 9, 3) := by decide +kernel
theorem dX0_endOf_27 : decode cX0_endOf 27 = .ok (.iload_n 1, 1) := by decide +kernel
theorem dX0_endOf_28 : decode cX0_endOf 28 = .ok (.bipush 16, 2) := by decide +kernel
theorem dX0_endOf_30 : decode cX0_endOf 30 = .ok (.imul, 1) := by decide +kernel
theorem dX0_endOf_31 : decode cX0_endOf 31 = .ok (.iload_n 2, 1) := by decide +kernel
theorem dX0_endOf_32 : decode cX0_endOf 32 = .ok (.iadd, 1) := by decide +kernel
theorem dX0_endOf_33 : decode cX0_endOf 33 = .ok (.iaload, 1) := by decide +kernel
theorem dX0_endOf_34 : decode cX0_endOf 34 = .ok (.ireturn, 1) := by decide +kernel
theorem dX0_tagOf_0 : decode cX0_tagOf 0 = .ok (.iload_n 1, 1) := by decide +kernel
theorem dX0_tagOf_1 : decode cX0_tagOf 1 = .ok (.ifCond .lt 19, 3) := by decide +kernel
theorem dX0_tagOf_4 : decode cX0_tagOf 4 = .ok (.iload_n 1, 1) := by decide +kernel
theorem dX0_tagOf_5 : decode cX0_tagOf 5 = .ok (.bipush 7, 2) := by decide +kernel
theorem dX0_tagOf_7 : decode cX0_tagOf 7 = .ok (.if_icmp .ge 13, 3) := by decide +kernel
theorem dX0_tagOf_10 : decode cX0_tagOf 10 = .ok (.iload_n 2, 1) := by decide +kernel
theorem dX0_tagOf_11 : decode cX0_tagOf 11 = .ok (.ifCond .lt 9, 3) := by decide +kernel
theorem dX0_tagOf_14 : decode cX0_tagOf 14 = .ok (.iload_n 2, 1) := by decide +kernel
theorem dX0_tagOf_15 : decode cX0_tagOf 15 = .ok (.bipush 16, 2) := by decide +kernel
theorem dX0_tagOf_17 : decode cX0_tagOf 17 = .ok (.if_icmp .lt 6, 3) := by decide +kernel
theorem dX0_tagOf_20 : decode cX0_tagOf 20 = .ok (.bipush (-9), 2) := by decide +kernel
theorem dX0_tagOf_22 : decode cX0_tagOf 22 = .ok (.ireturn, 1) := by decide +kernel
theorem dX0_tagOf_23 : decode cX0_tagOf 23 = .ok (.aload_n 0, 1) := by decide +kernel
theorem dX0_tagOf_24 : decode cX0_tagOf 24 = .ok (.getfield 15, 3) := by decide +kernel
theorem dX0_tagOf_27 : decode cX0_tagOf 27 = .ok (.iload_n 1, 1) := by decide +kernel
theorem dX0_tagOf_28 : decode cX0_tagOf 28 = .ok (.bipush 16, 2) := by decide +kernel
theorem dX0_tagOf_30 : decode cX0_tagOf 30 = .ok (.imul, 1) := by decide +kernel
theorem dX0_tagOf_31 : decode cX0_tagOf 31 = .ok (.iload_n 2, 1) := by decide +kernel
theorem dX0_tagOf_32 : decode cX0_tagOf 32 = .ok (.iadd, 1) := by decide +kernel
theorem dX0_tagOf_33 : decode cX0_tagOf 33 = .ok (.iaload, 1) := by decide +kernel
theorem dX0_tagOf_34 : decode cX0_tagOf 34 = .ok (.ireturn, 1) := by decide +kernel
theorem dX0_isGood_0 : decode cX0_isGood 0 = .ok (.aload_n 0, 1) := by decide +kernel
theorem dX0_isGood_1 : decode cX0_isGood 1 = .ok (.getfield 66, 3) := by decide +kernel
theorem dX0_isGood_4 : decode cX0_isGood 4 = .ok (.iload_n 1, 1) := by decide +kernel
theorem dX0_isGood_5 : decode cX0_isGood 5 = .ok (.invokestatic 69, 3) := by decide +kernel
theorem dX0_isGood_8 : decode cX0_isGood 8 = .ok (.ireturn, 1) := by decide +kernel
theorem dX0_arcsFrom_0 : decode cX0_arcsFrom 0 = .ok (.iconst 0, 1) := by decide +kernel
theorem dX0_arcsFrom_1 : decode cX0_arcsFrom 1 = .ok (.istore_n 2, 1) := by decide +kernel
theorem dX0_arcsFrom_2 : decode cX0_arcsFrom 2 = .ok (.iconst 0, 1) := by decide +kernel
theorem dX0_arcsFrom_3 : decode cX0_arcsFrom 3 = .ok (.istore_n 3, 1) := by decide +kernel
theorem dX0_arcsFrom_4 : decode cX0_arcsFrom 4 = .ok (.iload_n 3, 1) := by decide +kernel
theorem dX0_arcsFrom_5 : decode cX0_arcsFrom 5 = .ok (.bipush 16, 2) := by decide +kernel
theorem dX0_arcsFrom_7 : decode cX0_arcsFrom 7 = .ok (.if_icmp .ge 23, 3) := by decide +kernel
theorem dX0_arcsFrom_10 : decode cX0_arcsFrom 10 = .ok (.aload_n 0, 1) := by decide +kernel
theorem dX0_arcsFrom_11 : decode cX0_arcsFrom 11 = .ok (.iload_n 1, 1) := by decide +kernel
theorem dX0_arcsFrom_12 : decode cX0_arcsFrom 12 = .ok (.iload_n 3, 1) := by decide +kernel
theorem dX0_arcsFrom_13 : decode cX0_arcsFrom 13 = .ok (.invokevirtual 73, 3) := by decide +kernel
theorem dX0_arcsFrom_16 : decode cX0_arcsFrom 16 = .ok (.bipush (-9), 2) := by decide +kernel
theorem dX0_arcsFrom_18 : decode cX0_arcsFrom 18 = .ok (.if_icmp .eq 6, 3) := by decide +kernel
theorem dX0_arcsFrom_21 : decode cX0_arcsFrom 21 = .ok (.iinc 2 1, 3) := by decide +kernel
theorem dX0_arcsFrom_24 : decode cX0_arcsFrom 24 = .ok (.iinc 3 1, 3) := by decide +kernel
theorem dX0_arcsFrom_27 : decode cX0_arcsFrom 27 = .ok (.goto (-23), 3) := by decide +kernel
theorem dX0_arcsFrom_30 : decode cX0_arcsFrom 30 = .ok (.iload_n 2, 1) := by decide +kernel
theorem dX0_arcsFrom_31 : decode cX0_arcsFrom 31 = .ok (.ireturn, 1) := by decide +kernel
theorem dX0_wordWith_0 : decode cX0_wordWith 0 = .ok (.iconst 0, 1) := by decide +kernel
theorem dX0_wordWith_1 : decode cX0_wordWith 1 = .ok (.istore_n 3, 1) := by decide +kernel
theorem dX0_wordWith_2 : decode cX0_wordWith 2 = .ok (.iload_n 3, 1) := by decide +kernel
theorem dX0_wordWith_3 : decode cX0_wordWith 3 = .ok (.bipush 16, 2) := by decide +kernel
theorem dX0_wordWith_5 : decode cX0_wordWith 5 = .ok (.if_icmp .ge 21, 3) := by decide +kernel
theorem dX0_wordWith_8 : decode cX0_wordWith 8 = .ok (.aload_n 0, 1) := by decide +kernel
theorem dX0_wordWith_9 : decode cX0_wordWith 9 = .ok (.iload_n 1, 1) := by decide +kernel
theorem dX0_wordWith_10 : decode cX0_wordWith 10 = .ok (.iload_n 3, 1) := by decide +kernel
theorem dX0_wordWith_11 : decode cX0_wordWith 11 = .ok (.invokevirtual 76, 3) := by decide +kernel
theorem dX0_wordWith_14 : decode cX0_wordWith 14 = .ok (.iload_n 2, 1) := by decide +kernel
theorem dX0_wordWith_15 : decode cX0_wordWith 15 = .ok (.if_icmp .ne 5, 3) := by decide +kernel
theorem dX0_wordWith_18 : decode cX0_wordWith 18 = .ok (.iload_n 3, 1) := by decide +kernel
theorem dX0_wordWith_19 : decode cX0_wordWith 19 = .ok (.ireturn, 1) := by decide +kernel
theorem dX0_wordWith_20 : decode cX0_wordWith 20 = .ok (.iinc 3 1, 3) := by decide +kernel
theorem dX0_wordWith_23 : decode cX0_wordWith 23 = .ok (.goto (-21), 3) := by decide +kernel
theorem dX0_wordWith_26 : decode cX0_wordWith 26 = .ok (.bipush (-9), 2) := by decide +kernel
theorem dX0_wordWith_28 : decode cX0_wordWith 28 = .ok (.ireturn, 1) := by decide +kernel
theorem dX0_follow_0 : decode cX0_follow 0 = .ok (.iload_n 3, 1) := by decide +kernel
theorem dX0_follow_1 : decode cX0_follow 1 = .ok (.ifCond .lt 12, 3) := by decide +kernel
theorem dX0_follow_4 : decode cX0_follow 4 = .ok (.iload_n 3, 1) := by decide +kernel
theorem dX0_follow_5 : decode cX0_follow 5 = .ok (.iload 4, 2) := by decide +kernel
theorem dX0_follow_7 : decode cX0_follow 7 = .ok (.iadd, 1) := by decide +kernel
theorem dX0_follow_8 : decode cX0_follow 8 = .ok (.aload_n 2, 1) := by decide +kernel
theorem dX0_follow_9 : decode cX0_follow 9 = .ok (.arraylength, 1) := by decide +kernel
theorem dX0_follow_10 : decode cX0_follow 10 = .ok (.if_icmp .le 6, 3) := by decide +kernel
theorem dX0_follow_13 : decode cX0_follow 13 = .ok (.bipush (-9), 2) := by decide +kernel
theorem dX0_follow_15 : decode cX0_follow 15 = .ok (.ireturn, 1) := by decide +kernel
theorem dX0_follow_16 : decode cX0_follow 16 = .ok (.iload_n 1, 1) := by decide +kernel
theorem dX0_follow_17 : decode cX0_follow 17 = .ok (.istore 5, 2) := by decide +kernel
theorem dX0_follow_19 : decode cX0_follow 19 = .ok (.iload_n 3, 1) := by decide +kernel
theorem dX0_follow_20 : decode cX0_follow 20 = .ok (.istore 6, 2) := by decide +kernel
theorem dX0_follow_22 : decode cX0_follow 22 = .ok (.iload 6, 2) := by decide +kernel
theorem dX0_follow_24 : decode cX0_follow 24 = .ok (.iload_n 3, 1) := by decide +kernel
theorem dX0_follow_25 : decode cX0_follow 25 = .ok (.iload 4, 2) := by decide +kernel
theorem dX0_follow_27 : decode cX0_follow 27 = .ok (.iadd, 1) := by decide +kernel
theorem dX0_follow_28 : decode cX0_follow 28 = .ok (.if_icmp .ge 39, 3) := by decide +kernel
theorem dX0_follow_31 : decode cX0_follow 31 = .ok (.aload_n 0, 1) := by decide +kernel
theorem dX0_follow_32 : decode cX0_follow 32 = .ok (.iload 5, 2) := by decide +kernel
theorem dX0_follow_34 : decode cX0_follow 34 = .ok (.aload_n 2, 1) := by decide +kernel
theorem dX0_follow_35 : decode cX0_follow 35 = .ok (.iload 6, 2) := by decide +kernel
theorem dX0_follow_37 : decode cX0_follow 37 = .ok (.iaload, 1) := by decide +kernel
theorem dX0_follow_38 : decode cX0_follow 38 = .ok (.invokevirtual 76, 3) := by decide +kernel
theorem dX0_follow_41 : decode cX0_follow 41 = .ok (.bipush (-9), 2) := by decide +kernel
theorem dX0_follow_43 : decode cX0_follow 43 = .ok (.if_icmp .ne 6, 3) := by decide +kernel
theorem dX0_follow_46 : decode cX0_follow 46 = .ok (.bipush (-9), 2) := by decide +kernel
theorem dX0_follow_48 : decode cX0_follow 48 = .ok (.ireturn, 1) := by decide +kernel
theorem dX0_follow_49 : decode cX0_follow 49 = .ok (.aload_n 0, 1) := by decide +kernel
theorem dX0_follow_50 : decode cX0_follow 50 = .ok (.iload 5, 2) := by decide +kernel
theorem dX0_follow_52 : decode cX0_follow 52 = .ok (.aload_n 2, 1) := by decide +kernel
theorem dX0_follow_53 : decode cX0_follow 53 = .ok (.iload 6, 2) := by decide +kernel
theorem dX0_follow_55 : decode cX0_follow 55 = .ok (.iaload, 1) := by decide +kernel
theorem dX0_follow_56 : decode cX0_follow 56 = .ok (.invokevirtual 73, 3) := by decide +kernel
theorem dX0_follow_59 : decode cX0_follow 59 = .ok (.istore 5, 2) := by decide +kernel
theorem dX0_follow_61 : decode cX0_follow 61 = .ok (.iinc 6 1, 3) := by decide +kernel
theorem dX0_follow_64 : decode cX0_follow 64 = .ok (.goto (-42), 3) := by decide +kernel
theorem dX0_follow_67 : decode cX0_follow 67 = .ok (.iload 5, 2) := by decide +kernel
theorem dX0_follow_69 : decode cX0_follow 69 = .ok (.ireturn, 1) := by decide +kernel
theorem dX0_mostAlike_0 : decode cX0_mostAlike 0 = .ok (.iconst 0, 1) := by decide +kernel
theorem dX0_mostAlike_1 : decode cX0_mostAlike 1 = .ok (.istore_n 3, 1) := by decide +kernel
theorem dX0_mostAlike_2 : decode cX0_mostAlike 2 = .ok (.iconst 0, 1) := by decide +kernel
theorem dX0_mostAlike_3 : decode cX0_mostAlike 3 = .ok (.istore 4, 2) := by decide +kernel
theorem dX0_mostAlike_5 : decode cX0_mostAlike 5 = .ok (.iload 4, 2) := by decide +kernel
theorem dX0_mostAlike_7 : decode cX0_mostAlike 7 = .ok (.aload_n 0, 1) := by decide +kernel
theorem dX0_mostAlike_8 : decode cX0_mostAlike 8 = .ok (.getfield 36, 3) := by decide +kernel
theorem dX0_mostAlike_11 : decode cX0_mostAlike 11 = .ok (.if_icmp .ge 36, 3) := by decide +kernel
theorem dX0_mostAlike_14 : decode cX0_mostAlike 14 = .ok (.iload_n 1, 1) := by decide +kernel
theorem dX0_mostAlike_15 : decode cX0_mostAlike 15 = .ok (.iload 4, 2) := by decide +kernel
theorem dX0_mostAlike_17 : decode cX0_mostAlike 17 = .ok (.invokestatic 69, 3) := by decide +kernel
theorem dX0_mostAlike_20 : decode cX0_mostAlike 20 = .ok (.ifCond .eq 21, 3) := by decide +kernel
theorem dX0_mostAlike_23 : decode cX0_mostAlike 23 = .ok (.iload_n 3, 1) := by decide +kernel
theorem dX0_mostAlike_24 : decode cX0_mostAlike 24 = .ok (.aload_n 0, 1) := by decide +kernel
theorem dX0_mostAlike_25 : decode cX0_mostAlike 25 = .ok (.iload_n 1, 1) := by decide +kernel
theorem dX0_mostAlike_26 : decode cX0_mostAlike 26 = .ok (.iload_n 2, 1) := by decide +kernel
theorem dX0_mostAlike_27 : decode cX0_mostAlike 27 = .ok (.aload_n 0, 1) := by decide +kernel
theorem dX0_mostAlike_28 : decode cX0_mostAlike 28 = .ok (.iload 4, 2) := by decide +kernel
theorem dX0_mostAlike_30 : decode cX0_mostAlike 30 = .ok (.iload_n 2, 1) := by decide +kernel
theorem dX0_mostAlike_31 : decode cX0_mostAlike 31 = .ok (.invokevirtual 79, 3) := by decide +kernel
theorem dX0_mostAlike_34 : decode cX0_mostAlike 34 = .ok (.invokevirtual 82, 3) := by decide +kernel
theorem dX0_mostAlike_37 : decode cX0_mostAlike 37 = .ok (.invokestatic 86, 3) := by decide +kernel
theorem dX0_mostAlike_40 : decode cX0_mostAlike 40 = .ok (.istore_n 3, 1) := by decide +kernel
theorem dX0_mostAlike_41 : decode cX0_mostAlike 41 = .ok (.iinc 4 1, 3) := by decide +kernel
theorem dX0_mostAlike_44 : decode cX0_mostAlike 44 = .ok (.goto (-39), 3) := by decide +kernel
theorem dX0_mostAlike_47 : decode cX0_mostAlike 47 = .ok (.iload_n 3, 1) := by decide +kernel
theorem dX0_mostAlike_48 : decode cX0_mostAlike 48 = .ok (.ireturn, 1) := by decide +kernel
theorem dX0_withWord_0 : decode cX0_withWord 0 = .ok (.iconst 0, 1) := by decide +kernel
theorem dX0_withWord_1 : decode cX0_withWord 1 = .ok (.istore 4, 2) := by decide +kernel
theorem dX0_withWord_3 : decode cX0_withWord 3 = .ok (.iconst 0, 1) := by decide +kernel
theorem dX0_withWord_4 : decode cX0_withWord 4 = .ok (.istore 5, 2) := by decide +kernel
theorem dX0_withWord_6 : decode cX0_withWord 6 = .ok (.iload 5, 2) := by decide +kernel
theorem dX0_withWord_8 : decode cX0_withWord 8 = .ok (.aload_n 0, 1) := by decide +kernel
theorem dX0_withWord_9 : decode cX0_withWord 9 = .ok (.getfield 36, 3) := by decide +kernel
theorem dX0_withWord_12 : decode cX0_withWord 12 = .ok (.if_icmp .ge 32, 3) := by decide +kernel
theorem dX0_withWord_15 : decode cX0_withWord 15 = .ok (.iload_n 1, 1) := by decide +kernel
theorem dX0_withWord_16 : decode cX0_withWord 16 = .ok (.iload 5, 2) := by decide +kernel
theorem dX0_withWord_18 : decode cX0_withWord 18 = .ok (.invokestatic 69, 3) := by decide +kernel
theorem dX0_withWord_21 : decode cX0_withWord 21 = .ok (.ifCond .eq 17, 3) := by decide +kernel
theorem dX0_withWord_24 : decode cX0_withWord 24 = .ok (.aload_n 0, 1) := by decide +kernel
theorem dX0_withWord_25 : decode cX0_withWord 25 = .ok (.iload 5, 2) := by decide +kernel
theorem dX0_withWord_27 : decode cX0_withWord 27 = .ok (.iload_n 2, 1) := by decide +kernel
theorem dX0_withWord_28 : decode cX0_withWord 28 = .ok (.invokevirtual 79, 3) := by decide +kernel
theorem dX0_withWord_31 : decode cX0_withWord 31 = .ok (.iload_n 3, 1) := by decide +kernel
theorem dX0_withWord_32 : decode cX0_withWord 32 = .ok (.if_icmp .ne 6, 3) := by decide +kernel
theorem dX0_withWord_35 : decode cX0_withWord 35 = .ok (.iinc 4 1, 3) := by decide +kernel
theorem dX0_withWord_38 : decode cX0_withWord 38 = .ok (.iinc 5 1, 3) := by decide +kernel
theorem dX0_withWord_41 : decode cX0_withWord 41 = .ok (.goto (-35), 3) := by decide +kernel
theorem dX0_withWord_44 : decode cX0_withWord 44 = .ok (.iload 4, 2) := by decide +kernel
theorem dX0_withWord_46 : decode cX0_withWord 46 = .ok (.ireturn, 1) := by decide +kernel
theorem dX0_has_0 : decode cX0_has 0 = .ok (.iload_n 1, 1) := by decide +kernel
theorem dX0_has_1 : decode cX0_has 1 = .ok (.ifCond .lt 22, 3) := by decide +kernel
theorem dX0_has_4 : decode cX0_has 4 = .ok (.iload_n 1, 1) := by decide +kernel
theorem dX0_has_5 : decode cX0_has 5 = .ok (.bipush 7, 2) := by decide +kernel
theorem dX0_has_7 : decode cX0_has 7 = .ok (.if_icmp .ge 16, 3) := by decide +kernel
theorem dX0_has_10 : decode cX0_has 10 = .ok (.iload_n 0, 1) := by decide +kernel
theorem dX0_has_11 : decode cX0_has 11 = .ok (.iload_n 1, 1) := by decide +kernel
theorem dX0_has_12 : decode cX0_has 12 = .ok (.ishr, 1) := by decide +kernel
theorem dX0_has_13 : decode cX0_has 13 = .ok (.iconst 1, 1) := by decide +kernel
theorem dX0_has_14 : decode cX0_has 14 = .ok (.iand, 1) := by decide +kernel
theorem dX0_has_15 : decode cX0_has 15 = .ok (.iconst 1, 1) := by decide +kernel
theorem dX0_has_16 : decode cX0_has 16 = .ok (.if_icmp .ne 7, 3) := by decide +kernel
theorem dX0_has_19 : decode cX0_has 19 = .ok (.iconst 1, 1) := by decide +kernel
theorem dX0_has_20 : decode cX0_has 20 = .ok (.goto 4, 3) := by decide +kernel
theorem dX0_has_23 : decode cX0_has 23 = .ok (.iconst 0, 1) := by decide +kernel
theorem dX0_has_24 : decode cX0_has 24 = .ok (.ireturn, 1) := by decide +kernel
theorem dX0_setEnds_0 : decode cX0_setEnds 0 = .ok (.iconst 0, 1) := by decide +kernel
theorem dX0_setEnds_1 : decode cX0_setEnds 1 = .ok (.istore_n 2, 1) := by decide +kernel
theorem dX0_setEnds_2 : decode cX0_setEnds 2 = .ok (.iload_n 2, 1) := by decide +kernel
theorem dX0_setEnds_3 : decode cX0_setEnds 3 = .ok (.bipush 7, 2) := by decide +kernel
theorem dX0_setEnds_5 : decode cX0_setEnds 5 = .ok (.if_icmp .ge 73, 3) := by decide +kernel
theorem dX0_setEnds_8 : decode cX0_setEnds 8 = .ok (.iconst 0, 1) := by decide +kernel
theorem dX0_setEnds_9 : decode cX0_setEnds 9 = .ok (.istore_n 3, 1) := by decide +kernel
theorem dX0_setEnds_10 : decode cX0_setEnds 10 = .ok (.iload_n 3, 1) := by decide +kernel
theorem dX0_setEnds_11 : decode cX0_setEnds 11 = .ok (.bipush 16, 2) := by decide +kernel
theorem dX0_setEnds_13 : decode cX0_setEnds 13 = .ok (.if_icmp .ge 59, 3) := by decide +kernel
theorem dX0_setEnds_16 : decode cX0_setEnds 16 = .ok (.iload_n 2, 1) := by decide +kernel
theorem dX0_setEnds_17 : decode cX0_setEnds 17 = .ok (.aload_n 0, 1) := by decide +kernel
theorem dX0_setEnds_18 : decode cX0_setEnds 18 = .ok (.getfield 36, 3) := by decide +kernel
theorem dX0_setEnds_21 : decode cX0_setEnds 21 = .ok (.if_icmp .ge 15, 3) := by decide +kernel
theorem dX0_setEnds_24 : decode cX0_setEnds 24 = .ok (.iload_n 3, 1) := by decide +kernel
theorem dX0_setEnds_25 : decode cX0_setEnds 25 = .ok (.aload_n 1, 1) := by decide +kernel
theorem dX0_setEnds_26 : decode cX0_setEnds 26 = .ok (.invokevirtual 89, 3) := by decide +kernel
theorem dX0_setEnds_29 : decode cX0_setEnds 29 = .ok (.if_icmp .ge 7, 3) := by decide +kernel
theorem dX0_setEnds_32 : decode cX0_setEnds 32 = .ok (.iconst 1, 1) := by decide +kernel
theorem dX0_setEnds_33 : decode cX0_setEnds 33 = .ok (.goto 4, 3) := by decide +kernel
theorem dX0_setEnds_36 : decode cX0_setEnds 36 = .ok (.iconst 0, 1) := by decide +kernel
theorem dX0_setEnds_37 : decode cX0_setEnds 37 = .ok (.istore 4, 2) := by decide +kernel
theorem dX0_setEnds_39 : decode cX0_setEnds 39 = .ok (.aload_n 0, 1) := by decide +kernel
theorem dX0_setEnds_40 : decode cX0_setEnds 40 = .ok (.getfield 9, 3) := by decide +kernel
theorem dX0_setEnds_43 : decode cX0_setEnds 43 = .ok (.iload_n 2, 1) := by decide +kernel
theorem dX0_setEnds_44 : decode cX0_setEnds 44 = .ok (.bipush 16, 2) := by decide +kernel
theorem dX0_setEnds_46 : decode cX0_setEnds 46 = .ok (.imul, 1) := by decide +kernel
theorem dX0_setEnds_47 : decode cX0_setEnds 47 = .ok (.iload_n 3, 1) := by decide +kernel
theorem dX0_setEnds_48 : decode cX0_setEnds 48 = .ok (.iadd, 1) := by decide +kernel
theorem dX0_setEnds_49 : decode cX0_setEnds 49 = .ok (.iload 4, 2) := by decide +kernel
theorem dX0_setEnds_51 : decode cX0_setEnds 51 = .ok (.ifCond .eq 12, 3) := by decide +kernel
theorem dX0_setEnds_54 : decode cX0_setEnds 54 = .ok (.aload_n 1, 1) := by decide +kernel
theorem dX0_setEnds_55 : decode cX0_setEnds 55 = .ok (.iload_n 2, 1) := by decide +kernel
theorem dX0_setEnds_56 : decode cX0_setEnds 56 = .ok (.iload_n 3, 1) := by decide +kernel
theorem dX0_setEnds_57 : decode cX0_setEnds 57 = .ok (.invokestatic 92, 3) := by decide +kernel
theorem dX0_setEnds_60 : decode cX0_setEnds 60 = .ok (.goto 5, 3) := by decide +kernel
theorem dX0_setEnds_63 : decode cX0_setEnds 63 = .ok (.bipush (-9), 2) := by decide +kernel
theorem dX0_setEnds_65 : decode cX0_setEnds 65 = .ok (.iastore, 1) := by decide +kernel
theorem dX0_setEnds_66 : decode cX0_setEnds 66 = .ok (.iinc 3 1, 3) := by decide +kernel
theorem dX0_setEnds_69 : decode cX0_setEnds 69 = .ok (.goto (-59), 3) := by decide +kernel
theorem dX0_setEnds_72 : decode cX0_setEnds 72 = .ok (.iinc 2 1, 3) := by decide +kernel
theorem dX0_setEnds_75 : decode cX0_setEnds 75 = .ok (.goto (-73), 3) := by decide +kernel
theorem dX0_setEnds_78 : decode cX0_setEnds 78 = .ok (.return_, 1) := by decide +kernel
theorem dX0_leadOver_0 : decode cX0_leadOver 0 = .ok (.iload_n 1, 1) := by decide +kernel
theorem dX0_leadOver_1 : decode cX0_leadOver 1 = .ok (.istore_n 3, 1) := by decide +kernel
theorem dX0_leadOver_2 : decode cX0_leadOver 2 = .ok (.aload_n 0, 1) := by decide +kernel
theorem dX0_leadOver_3 : decode cX0_leadOver 3 = .ok (.getfield 96, 3) := by decide +kernel
theorem dX0_leadOver_6 : decode cX0_leadOver 6 = .ok (.iconst 1, 1) := by decide +kernel
theorem dX0_leadOver_7 : decode cX0_leadOver 7 = .ok (.isub, 1) := by decide +kernel
theorem dX0_leadOver_8 : decode cX0_leadOver 8 = .ok (.istore 4, 2) := by decide +kernel
theorem dX0_leadOver_10 : decode cX0_leadOver 10 = .ok (.iload 4, 2) := by decide +kernel
theorem dX0_leadOver_12 : decode cX0_leadOver 12 = .ok (.ifCond .lt 27, 3) := by decide +kernel
theorem dX0_leadOver_15 : decode cX0_leadOver 15 = .ok (.iload_n 3, 1) := by decide +kernel
theorem dX0_leadOver_16 : decode cX0_leadOver 16 = .ok (.bipush (-9), 2) := by decide +kernel
theorem dX0_leadOver_18 : decode cX0_leadOver 18 = .ok (.if_icmp .eq 21, 3) := by decide +kernel
theorem dX0_leadOver_21 : decode cX0_leadOver 21 = .ok (.aload_n 0, 1) := by decide +kernel
theorem dX0_leadOver_22 : decode cX0_leadOver 22 = .ok (.iload_n 3, 1) := by decide +kernel
theorem dX0_leadOver_23 : decode cX0_leadOver 23 = .ok (.iload_n 2, 1) := by decide +kernel
theorem dX0_leadOver_24 : decode cX0_leadOver 24 = .ok (.iload 4, 2) := by decide +kernel
theorem dX0_leadOver_26 : decode cX0_leadOver 26 = .ok (.ishr, 1) := by decide +kernel
theorem dX0_leadOver_27 : decode cX0_leadOver 27 = .ok (.iconst 1, 1) := by decide +kernel
theorem dX0_leadOver_28 : decode cX0_leadOver 28 = .ok (.iand, 1) := by decide +kernel
theorem dX0_leadOver_29 : decode cX0_leadOver 29 = .ok (.invokevirtual 99, 3) := by decide +kernel
theorem dX0_leadOver_32 : decode cX0_leadOver 32 = .ok (.istore_n 3, 1) := by decide +kernel
theorem dX0_leadOver_33 : decode cX0_leadOver 33 = .ok (.iinc 4 (-1), 3) := by decide +kernel
theorem dX0_leadOver_36 : decode cX0_leadOver 36 = .ok (.goto (-26), 3) := by decide +kernel
theorem dX0_leadOver_39 : decode cX0_leadOver 39 = .ok (.iload_n 3, 1) := by decide +kernel
theorem dX0_leadOver_40 : decode cX0_leadOver 40 = .ok (.ireturn, 1) := by decide +kernel
theorem dX0_setGood_0 : decode cX0_setGood 0 = .ok (.aload_n 0, 1) := by decide +kernel
theorem dX0_setGood_1 : decode cX0_setGood 1 = .ok (.iconst 1, 1) := by decide +kernel
theorem dX0_setGood_2 : decode cX0_setGood 2 = .ok (.aload_n 0, 1) := by decide +kernel
theorem dX0_setGood_3 : decode cX0_setGood 3 = .ok (.getfield 36, 3) := by decide +kernel
theorem dX0_setGood_6 : decode cX0_setGood 6 = .ok (.ishl, 1) := by decide +kernel
theorem dX0_setGood_7 : decode cX0_setGood 7 = .ok (.iconst 1, 1) := by decide +kernel
theorem dX0_setGood_8 : decode cX0_setGood 8 = .ok (.isub, 1) := by decide +kernel
theorem dX0_setGood_9 : decode cX0_setGood 9 = .ok (.putfield 66, 3) := by decide +kernel
theorem dX0_setGood_12 : decode cX0_setGood 12 = .ok (.iconst 0, 1) := by decide +kernel
theorem dX0_setGood_13 : decode cX0_setGood 13 = .ok (.istore_n 2, 1) := by decide +kernel
theorem dX0_setGood_14 : decode cX0_setGood 14 = .ok (.iload_n 2, 1) := by decide +kernel
theorem dX0_setGood_15 : decode cX0_setGood 15 = .ok (.bipush 7, 2) := by decide +kernel
theorem dX0_setGood_17 : decode cX0_setGood 17 = .ok (.if_icmp .gt 74, 3) := by decide +kernel
theorem dX0_setGood_20 : decode cX0_setGood 20 = .ok (.iconst 0, 1) := by decide +kernel
theorem dX0_setGood_21 : decode cX0_setGood 21 = .ok (.istore_n 3, 1) := by decide +kernel
theorem dX0_setGood_22 : decode cX0_setGood 22 = .ok (.iconst 0, 1) := by decide +kernel
theorem dX0_setGood_23 : decode cX0_setGood 23 = .ok (.istore 4, 2) := by decide +kernel
theorem dX0_setGood_25 : decode cX0_setGood 25 = .ok (.iload 4, 2) := by decide +kernel
theorem dX0_setGood_27 : decode cX0_setGood 27 = .ok (.aload_n 0, 1) := by decide +kernel
theorem dX0_setGood_28 : decode cX0_setGood 28 = .ok (.getfield 36, 3) := by decide +kernel
theorem dX0_setGood_31 : decode cX0_setGood 31 = .ok (.if_icmp .ge 38, 3) := by decide +kernel
theorem dX0_setGood_34 : decode cX0_setGood 34 = .ok (.aload_n 0, 1) := by decide +kernel
theorem dX0_setGood_35 : decode cX0_setGood 35 = .ok (.getfield 66, 3) := by decide +kernel
theorem dX0_setGood_38 : decode cX0_setGood 38 = .ok (.iload 4, 2) := by decide +kernel
theorem dX0_setGood_40 : decode cX0_setGood 40 = .ok (.invokestatic 69, 3) := by decide +kernel
theorem dX0_setGood_43 : decode cX0_setGood 43 = .ok (.ifCond .eq 20, 3) := by decide +kernel
theorem dX0_setGood_46 : decode cX0_setGood 46 = .ok (.aload_n 0, 1) := by decide +kernel
theorem dX0_setGood_47 : decode cX0_setGood 47 = .ok (.iload 4, 2) := by decide +kernel
theorem dX0_setGood_49 : decode cX0_setGood 49 = .ok (.invokevirtual 102, 3) := by decide +kernel
theorem dX0_setGood_52 : decode cX0_setGood 52 = .ok (.iload_n 1, 1) := by decide +kernel
theorem dX0_setGood_53 : decode cX0_setGood 53 = .ok (.if_icmp .lt 10, 3) := by decide +kernel
theorem dX0_setGood_56 : decode cX0_setGood 56 = .ok (.iload_n 3, 1) := by decide +kernel
theorem dX0_setGood_57 : decode cX0_setGood 57 = .ok (.iconst 1, 1) := by decide +kernel
theorem dX0_setGood_58 : decode cX0_setGood 58 = .ok (.iload 4, 2) := by decide +kernel
theorem dX0_setGood_60 : decode cX0_setGood 60 = .ok (.ishl, 1) := by decide +kernel
theorem dX0_setGood_61 : decode cX0_setGood 61 = .ok (.ior, 1) := by decide +kernel
theorem dX0_setGood_62 : decode cX0_setGood 62 = .ok (.istore_n 3, 1) := by decide +kernel
theorem dX0_setGood_63 : decode cX0_setGood 63 = .ok (.iinc 4 1, 3) := by decide +kernel
theorem dX0_setGood_66 : decode cX0_setGood 66 = .ok (.goto (-41), 3) := by decide +kernel
theorem dX0_setGood_69 : decode cX0_setGood 69 = .ok (.iload_n 3, 1) := by decide +kernel
theorem dX0_setGood_70 : decode cX0_setGood 70 = .ok (.aload_n 0, 1) := by decide +kernel
theorem dX0_setGood_71 : decode cX0_setGood 71 = .ok (.getfield 66, 3) := by decide +kernel
theorem dX0_setGood_74 : decode cX0_setGood 74 = .ok (.if_icmp .ne 6, 3) := by decide +kernel
theorem dX0_setGood_77 : decode cX0_setGood 77 = .ok (.goto 14, 3) := by decide +kernel
theorem dX0_setGood_80 : decode cX0_setGood 80 = .ok (.aload_n 0, 1) := by decide +kernel
theorem dX0_setGood_81 : decode cX0_setGood 81 = .ok (.iload_n 3, 1) := by decide +kernel
theorem dX0_setGood_82 : decode cX0_setGood 82 = .ok (.putfield 66, 3) := by decide +kernel
theorem dX0_setGood_85 : decode cX0_setGood 85 = .ok (.iinc 2 1, 3) := by decide +kernel
theorem dX0_setGood_88 : decode cX0_setGood 88 = .ok (.goto (-74), 3) := by decide +kernel
theorem dX0_setGood_91 : decode cX0_setGood 91 = .ok (.return_, 1) := by decide +kernel
theorem dX0_lowestGood_0 : decode cX0_lowestGood 0 = .ok (.iconst 0, 1) := by decide +kernel
theorem dX0_lowestGood_1 : decode cX0_lowestGood 1 = .ok (.istore_n 1, 1) := by decide +kernel
theorem dX0_lowestGood_2 : decode cX0_lowestGood 2 = .ok (.iload_n 1, 1) := by decide +kernel
theorem dX0_lowestGood_3 : decode cX0_lowestGood 3 = .ok (.aload_n 0, 1) := by decide +kernel
theorem dX0_lowestGood_4 : decode cX0_lowestGood 4 = .ok (.getfield 36, 3) := by decide +kernel
theorem dX0_lowestGood_7 : decode cX0_lowestGood 7 = .ok (.if_icmp .ge 22, 3) := by decide +kernel
theorem dX0_lowestGood_10 : decode cX0_lowestGood 10 = .ok (.aload_n 0, 1) := by decide +kernel
theorem dX0_lowestGood_11 : decode cX0_lowestGood 11 = .ok (.getfield 66, 3) := by decide +kernel
theorem dX0_lowestGood_14 : decode cX0_lowestGood 14 = .ok (.iload_n 1, 1) := by decide +kernel
theorem dX0_lowestGood_15 : decode cX0_lowestGood 15 = .ok (.invokestatic 69, 3) := by decide +kernel
theorem dX0_lowestGood_18 : decode cX0_lowestGood 18 = .ok (.ifCond .eq 5, 3) := by decide +kernel
theorem dX0_lowestGood_21 : decode cX0_lowestGood 21 = .ok (.iload_n 1, 1) := by decide +kernel
theorem dX0_lowestGood_22 : decode cX0_lowestGood 22 = .ok (.ireturn, 1) := by decide +kernel
theorem dX0_lowestGood_23 : decode cX0_lowestGood 23 = .ok (.iinc 1 1, 3) := by decide +kernel
theorem dX0_lowestGood_26 : decode cX0_lowestGood 26 = .ok (.goto (-24), 3) := by decide +kernel
theorem dX0_lowestGood_29 : decode cX0_lowestGood 29 = .ok (.bipush (-9), 2) := by decide +kernel
theorem dX0_lowestGood_31 : decode cX0_lowestGood 31 = .ok (.ireturn, 1) := by decide +kernel
theorem dX0_arcsToGood_0 : decode cX0_arcsToGood 0 = .ok (.iconst 0, 1) := by decide +kernel
theorem dX0_arcsToGood_1 : decode cX0_arcsToGood 1 = .ok (.istore_n 2, 1) := by decide +kernel
theorem dX0_arcsToGood_2 : decode cX0_arcsToGood 2 = .ok (.iconst 0, 1) := by decide +kernel
theorem dX0_arcsToGood_3 : decode cX0_arcsToGood 3 = .ok (.istore_n 3, 1) := by decide +kernel
theorem dX0_arcsToGood_4 : decode cX0_arcsToGood 4 = .ok (.iload_n 3, 1) := by decide +kernel
theorem dX0_arcsToGood_5 : decode cX0_arcsToGood 5 = .ok (.bipush 16, 2) := by decide +kernel
theorem dX0_arcsToGood_7 : decode cX0_arcsToGood 7 = .ok (.if_icmp .ge 28, 3) := by decide +kernel
theorem dX0_arcsToGood_10 : decode cX0_arcsToGood 10 = .ok (.aload_n 0, 1) := by decide +kernel
theorem dX0_arcsToGood_11 : decode cX0_arcsToGood 11 = .ok (.getfield 66, 3) := by decide +kernel
theorem dX0_arcsToGood_14 : decode cX0_arcsToGood 14 = .ok (.aload_n 0, 1) := by decide +kernel
theorem dX0_arcsToGood_15 : decode cX0_arcsToGood 15 = .ok (.iload_n 1, 1) := by decide +kernel
theorem dX0_arcsToGood_16 : decode cX0_arcsToGood 16 = .ok (.iload_n 3, 1) := by decide +kernel
theorem dX0_arcsToGood_17 : decode cX0_arcsToGood 17 = .ok (.invokevirtual 73, 3) := by decide +kernel
theorem dX0_arcsToGood_20 : decode cX0_arcsToGood 20 = .ok (.invokestatic 69, 3) := by decide +kernel
theorem dX0_arcsToGood_23 : decode cX0_arcsToGood 23 = .ok (.ifCond .eq 6, 3) := by decide +kernel
theorem dX0_arcsToGood_26 : decode cX0_arcsToGood 26 = .ok (.iinc 2 1, 3) := by decide +kernel
theorem dX0_arcsToGood_29 : decode cX0_arcsToGood 29 = .ok (.iinc 3 1, 3) := by decide +kernel
theorem dX0_arcsToGood_32 : decode cX0_arcsToGood 32 = .ok (.goto (-28), 3) := by decide +kernel
theorem dX0_arcsToGood_35 : decode cX0_arcsToGood 35 = .ok (.iload_n 2, 1) := by decide +kernel
theorem dX0_arcsToGood_36 : decode cX0_arcsToGood 36 = .ok (.ireturn, 1) := by decide +kernel
theorem dX0_setTags_0 : decode cX0_setTags 0 = .ok (.iconst 0, 1) := by decide +kernel
theorem dX0_setTags_1 : decode cX0_setTags 1 = .ok (.istore_n 2, 1) := by decide +kernel
theorem dX0_setTags_2 : decode cX0_setTags 2 = .ok (.iload_n 2, 1) := by decide +kernel
theorem dX0_setTags_3 : decode cX0_setTags 3 = .ok (.bipush 7, 2) := by decide +kernel
theorem dX0_setTags_5 : decode cX0_setTags 5 = .ok (.if_icmp .ge 98, 3) := by decide +kernel
theorem dX0_setTags_8 : decode cX0_setTags 8 = .ok (.iconst 0, 1) := by decide +kernel
theorem dX0_setTags_9 : decode cX0_setTags 9 = .ok (.istore_n 3, 1) := by decide +kernel
theorem dX0_setTags_10 : decode cX0_setTags 10 = .ok (.iconst 0, 1) := by decide +kernel
theorem dX0_setTags_11 : decode cX0_setTags 11 = .ok (.istore 4, 2) := by decide +kernel
theorem dX0_setTags_13 : decode cX0_setTags 13 = .ok (.iload 4, 2) := by decide +kernel
theorem dX0_setTags_15 : decode cX0_setTags 15 = .ok (.bipush 16, 2) := by decide +kernel
theorem dX0_setTags_17 : decode cX0_setTags 17 = .ok (.if_icmp .ge 80, 3) := by decide +kernel
theorem dX0_setTags_20 : decode cX0_setTags 20 = .ok (.aload_n 0, 1) := by decide +kernel
theorem dX0_setTags_21 : decode cX0_setTags 21 = .ok (.getfield 66, 3) := by decide +kernel
theorem dX0_setTags_24 : decode cX0_setTags 24 = .ok (.iload_n 2, 1) := by decide +kernel
theorem dX0_setTags_25 : decode cX0_setTags 25 = .ok (.invokestatic 69, 3) := by decide +kernel
theorem dX0_setTags_28 : decode cX0_setTags 28 = .ok (.ifCond .eq 29, 3) := by decide +kernel
theorem dX0_setTags_31 : decode cX0_setTags 31 = .ok (.aload_n 0, 1) := by decide +kernel
theorem dX0_setTags_32 : decode cX0_setTags 32 = .ok (.getfield 66, 3) := by decide +kernel
theorem dX0_setTags_35 : decode cX0_setTags 35 = .ok (.aload_n 0, 1) := by decide +kernel
theorem dX0_setTags_36 : decode cX0_setTags 36 = .ok (.iload_n 2, 1) := by decide +kernel
theorem dX0_setTags_37 : decode cX0_setTags 37 = .ok (.iload 4, 2) := by decide +kernel
theorem dX0_setTags_39 : decode cX0_setTags 39 = .ok (.invokevirtual 73, 3) := by decide +kernel
theorem dX0_setTags_42 : decode cX0_setTags 42 = .ok (.invokestatic 69, 3) := by decide +kernel
theorem dX0_setTags_45 : decode cX0_setTags 45 = .ok (.ifCond .eq 12, 3) := by decide +kernel
theorem dX0_setTags_48 : decode cX0_setTags 48 = .ok (.iload_n 3, 1) := by decide +kernel
theorem dX0_setTags_49 : decode cX0_setTags 49 = .ok (.iload_n 1, 1) := by decide +kernel
theorem dX0_setTags_50 : decode cX0_setTags 50 = .ok (.if_icmp .ge 7, 3) := by decide +kernel
theorem dX0_setTags_53 : decode cX0_setTags 53 = .ok (.iconst 1, 1) := by decide +kernel
theorem dX0_setTags_54 : decode cX0_setTags 54 = .ok (.goto 4, 3) := by decide +kernel
theorem dX0_setTags_57 : decode cX0_setTags 57 = .ok (.iconst 0, 1) := by decide +kernel
theorem dX0_setTags_58 : decode cX0_setTags 58 = .ok (.istore 5, 2) := by decide +kernel
theorem dX0_setTags_60 : decode cX0_setTags 60 = .ok (.aload_n 0, 1) := by decide +kernel
theorem dX0_setTags_61 : decode cX0_setTags 61 = .ok (.getfield 15, 3) := by decide +kernel
theorem dX0_setTags_64 : decode cX0_setTags 64 = .ok (.iload_n 2, 1) := by decide +kernel
theorem dX0_setTags_65 : decode cX0_setTags 65 = .ok (.bipush 16, 2) := by decide +kernel
theorem dX0_setTags_67 : decode cX0_setTags 67 = .ok (.imul, 1) := by decide +kernel
theorem dX0_setTags_68 : decode cX0_setTags 68 = .ok (.iload 4, 2) := by decide +kernel
theorem dX0_setTags_70 : decode cX0_setTags 70 = .ok (.iadd, 1) := by decide +kernel
theorem dX0_setTags_71 : decode cX0_setTags 71 = .ok (.iload 5, 2) := by decide +kernel
theorem dX0_setTags_73 : decode cX0_setTags 73 = .ok (.ifCond .eq 7, 3) := by decide +kernel
theorem dX0_setTags_76 : decode cX0_setTags 76 = .ok (.iload_n 3, 1) := by decide +kernel
theorem dX0_setTags_77 : decode cX0_setTags 77 = .ok (.goto 5, 3) := by decide +kernel
theorem dX0_setTags_80 : decode cX0_setTags 80 = .ok (.bipush (-9), 2) := by decide +kernel
theorem dX0_setTags_82 : decode cX0_setTags 82 = .ok (.iastore, 1) := by decide +kernel
theorem dX0_setTags_83 : decode cX0_setTags 83 = .ok (.iload 5, 2) := by decide +kernel
theorem dX0_setTags_85 : decode cX0_setTags 85 = .ok (.ifCond .eq 6, 3) := by decide +kernel
theorem dX0_setTags_88 : decode cX0_setTags 88 = .ok (.iinc 3 1, 3) := by decide +kernel
theorem dX0_setTags_91 : decode cX0_setTags 91 = .ok (.iinc 4 1, 3) := by decide +kernel
theorem dX0_setTags_94 : decode cX0_setTags 94 = .ok (.goto (-81), 3) := by decide +kernel
theorem dX0_setTags_97 : decode cX0_setTags 97 = .ok (.iinc 2 1, 3) := by decide +kernel
theorem dX0_setTags_100 : decode cX0_setTags 100 = .ok (.goto (-98), 3) := by decide +kernel
theorem dX0_setTags_103 : decode cX0_setTags 103 = .ok (.return_, 1) := by decide +kernel
theorem dX0_narrowestWindow_0 : decode cX0_narrowestWindow 0 = .ok (.aload_n 0, 1) := by decide +kernel
theorem dX0_narrowestWindow_1 : decode cX0_narrowestWindow 1 = .ok (.getfield 66, 3) := by decide +kernel
theorem dX0_narrowestWindow_4 : decode cX0_narrowestWindow 4 = .ok (.ifCond .ne 6, 3) := by decide +kernel
theorem dX0_narrowestWindow_7 : decode cX0_narrowestWindow 7 = .ok (.bipush (-9), 2) := by decide +kernel
theorem dX0_narrowestWindow_9 : decode cX0_narrowestWindow 9 = .ok (.ireturn, 1) := by decide +kernel
theorem dX0_narrowestWindow_10 : decode cX0_narrowestWindow 10 = .ok (.iconst 0, 1) := by decide +kernel
theorem dX0_narrowestWindow_11 : decode cX0_narrowestWindow 11 = .ok (.istore_n 1, 1) := by decide +kernel
theorem dX0_narrowestWindow_12 : decode cX0_narrowestWindow 12 = .ok (.iload_n 1, 1) := by decide +kernel
theorem dX0_narrowestWindow_13 : decode cX0_narrowestWindow 13 = .ok (.bipush 7, 2) := by decide +kernel
theorem dX0_narrowestWindow_15 : decode cX0_narrowestWindow 15 = .ok (.if_icmp .ge 19, 3) := by decide +kernel
theorem dX0_narrowestWindow_18 : decode cX0_narrowestWindow 18 = .ok (.aload_n 0, 1) := by decide +kernel
theorem dX0_narrowestWindow_19 : decode cX0_narrowestWindow 19 = .ok (.getfield 18, 3) := by decide +kernel
theorem dX0_narrowestWindow_22 : decode cX0_narrowestWindow 22 = .ok (.iload_n 1, 1) := by decide +kernel
theorem dX0_narrowestWindow_23 : decode cX0_narrowestWindow 23 = .ok (.aload_n 0, 1) := by decide +kernel
theorem dX0_narrowestWindow_24 : decode cX0_narrowestWindow 24 = .ok (.getfield 66, 3) := by decide +kernel
theorem dX0_narrowestWindow_27 : decode cX0_narrowestWindow 27 = .ok (.iastore, 1) := by decide +kernel
theorem dX0_narrowestWindow_28 : decode cX0_narrowestWindow 28 = .ok (.iinc 1 1, 3) := by decide +kernel
theorem dX0_narrowestWindow_31 : decode cX0_narrowestWindow 31 = .ok (.goto (-19), 3) := by decide +kernel
theorem dX0_narrowestWindow_34 : decode cX0_narrowestWindow 34 = .ok (.iconst 0, 1) := by decide +kernel
theorem dX0_narrowestWindow_35 : decode cX0_narrowestWindow 35 = .ok (.istore_n 1, 1) := by decide +kernel
theorem dX0_narrowestWindow_36 : decode cX0_narrowestWindow 36 = .ok (.iload_n 1, 1) := by decide +kernel
theorem dX0_narrowestWindow_37 : decode cX0_narrowestWindow 37 = .ok (.iconst 3, 1) := by decide +kernel
theorem dX0_narrowestWindow_38 : decode cX0_narrowestWindow 38 = .ok (.if_icmp .gt 22, 3) := by decide +kernel
theorem dX0_narrowestWindow_41 : decode cX0_narrowestWindow 41 = .ok (.aload_n 0, 1) := by decide +kernel
theorem dX0_narrowestWindow_42 : decode cX0_narrowestWindow 42 = .ok (.invokevirtual 106, 3) := by decide +kernel
theorem dX0_narrowestWindow_45 : decode cX0_narrowestWindow 45 = .ok (.ifCond .ne 5, 3) := by decide +kernel
theorem dX0_narrowestWindow_48 : decode cX0_narrowestWindow 48 = .ok (.iload_n 1, 1) := by decide +kernel
theorem dX0_narrowestWindow_49 : decode cX0_narrowestWindow 49 = .ok (.ireturn, 1) := by decide +kernel
theorem dX0_narrowestWindow_50 : decode cX0_narrowestWindow 50 = .ok (.aload_n 0, 1) := by decide +kernel
theorem dX0_narrowestWindow_51 : decode cX0_narrowestWindow 51 = .ok (.invokevirtual 110, 3) := by decide +kernel
theorem dX0_narrowestWindow_54 : decode cX0_narrowestWindow 54 = .ok (.iinc 1 1, 3) := by decide +kernel
theorem dX0_narrowestWindow_57 : decode cX0_narrowestWindow 57 = .ok (.goto (-21), 3) := by decide +kernel
theorem dX0_narrowestWindow_60 : decode cX0_narrowestWindow 60 = .ok (.bipush (-9), 2) := by decide +kernel
theorem dX0_narrowestWindow_62 : decode cX0_narrowestWindow 62 = .ok (.ireturn, 1) := by decide +kernel
theorem dX0_isDoubtful_0 : decode cX0_isDoubtful 0 = .ok (.iconst 0, 1) := by decide +kernel
theorem dX0_isDoubtful_1 : decode cX0_isDoubtful 1 = .ok (.istore_n 1, 1) := by decide +kernel
theorem dX0_isDoubtful_2 : decode cX0_isDoubtful 2 = .ok (.iload_n 1, 1) := by decide +kernel
theorem dX0_isDoubtful_3 : decode cX0_isDoubtful 3 = .ok (.aload_n 0, 1) := by decide +kernel
theorem dX0_isDoubtful_4 : decode cX0_isDoubtful 4 = .ok (.getfield 36, 3) := by decide +kernel
theorem dX0_isDoubtful_7 : decode cX0_isDoubtful 7 = .ok (.if_icmp .ge 63, 3) := by decide +kernel
theorem dX0_isDoubtful_10 : decode cX0_isDoubtful 10 = .ok (.iconst 0, 1) := by decide +kernel
theorem dX0_isDoubtful_11 : decode cX0_isDoubtful 11 = .ok (.istore_n 2, 1) := by decide +kernel
theorem dX0_isDoubtful_12 : decode cX0_isDoubtful 12 = .ok (.iload_n 2, 1) := by decide +kernel
theorem dX0_isDoubtful_13 : decode cX0_isDoubtful 13 = .ok (.iload_n 1, 1) := by decide +kernel
theorem dX0_isDoubtful_14 : decode cX0_isDoubtful 14 = .ok (.if_icmp .ge 50, 3) := by decide +kernel
theorem dX0_isDoubtful_17 : decode cX0_isDoubtful 17 = .ok (.iconst 0, 1) := by decide +kernel
theorem dX0_isDoubtful_18 : decode cX0_isDoubtful 18 = .ok (.istore_n 3, 1) := by decide +kernel
theorem dX0_isDoubtful_19 : decode cX0_isDoubtful 19 = .ok (.iload_n 3, 1) := by decide +kernel
theorem dX0_isDoubtful_20 : decode cX0_isDoubtful 20 = .ok (.bipush 16, 2) := by decide +kernel
theorem dX0_isDoubtful_22 : decode cX0_isDoubtful 22 = .ok (.if_icmp .ge 36, 3) := by decide +kernel
theorem dX0_isDoubtful_25 : decode cX0_isDoubtful 25 = .ok (.aload_n 0, 1) := by decide +kernel
theorem dX0_isDoubtful_26 : decode cX0_isDoubtful 26 = .ok (.iload_n 1, 1) := by decide +kernel
theorem dX0_isDoubtful_27 : decode cX0_isDoubtful 27 = .ok (.iload_n 2, 1) := by decide +kernel
theorem dX0_isDoubtful_28 : decode cX0_isDoubtful 28 = .ok (.iload_n 3, 1) := by decide +kernel
theorem dX0_isDoubtful_29 : decode cX0_isDoubtful 29 = .ok (.invokevirtual 113, 3) := by decide +kernel
theorem dX0_isDoubtful_32 : decode cX0_isDoubtful 32 = .ok (.ifCond .eq 20, 3) := by decide +kernel
theorem dX0_isDoubtful_35 : decode cX0_isDoubtful 35 = .ok (.aload_n 0, 1) := by decide +kernel
theorem dX0_isDoubtful_36 : decode cX0_isDoubtful 36 = .ok (.iload_n 1, 1) := by decide +kernel
theorem dX0_isDoubtful_37 : decode cX0_isDoubtful 37 = .ok (.iload_n 3, 1) := by decide +kernel
theorem dX0_isDoubtful_38 : decode cX0_isDoubtful 38 = .ok (.invokevirtual 76, 3) := by decide +kernel
theorem dX0_isDoubtful_41 : decode cX0_isDoubtful 41 = .ok (.aload_n 0, 1) := by decide +kernel
theorem dX0_isDoubtful_42 : decode cX0_isDoubtful 42 = .ok (.iload_n 2, 1) := by decide +kernel
theorem dX0_isDoubtful_43 : decode cX0_isDoubtful 43 = .ok (.iload_n 3, 1) := by decide +kernel
theorem dX0_isDoubtful_44 : decode cX0_isDoubtful 44 = .ok (.invokevirtual 76, 3) := by decide +kernel
theorem dX0_isDoubtful_47 : decode cX0_isDoubtful 47 = .ok (.if_icmp .eq 5, 3) := by decide +kernel
theorem dX0_isDoubtful_50 : decode cX0_isDoubtful 50 = .ok (.iconst 1, 1) := by decide +kernel
theorem dX0_isDoubtful_51 : decode cX0_isDoubtful 51 = .ok (.ireturn, 1) := by decide +kernel
theorem dX0_isDoubtful_52 : decode cX0_isDoubtful 52 = .ok (.iinc 3 1, 3) := by decide +kernel
theorem dX0_isDoubtful_55 : decode cX0_isDoubtful 55 = .ok (.goto (-36), 3) := by decide +kernel
theorem dX0_isDoubtful_58 : decode cX0_isDoubtful 58 = .ok (.iinc 2 1, 3) := by decide +kernel
theorem dX0_isDoubtful_61 : decode cX0_isDoubtful 61 = .ok (.goto (-49), 3) := by decide +kernel
theorem dX0_isDoubtful_64 : decode cX0_isDoubtful 64 = .ok (.iinc 1 1, 3) := by decide +kernel
theorem dX0_isDoubtful_67 : decode cX0_isDoubtful 67 = .ok (.goto (-65), 3) := by decide +kernel
theorem dX0_isDoubtful_70 : decode cX0_isDoubtful 70 = .ok (.iconst 0, 1) := by decide +kernel
theorem dX0_isDoubtful_71 : decode cX0_isDoubtful 71 = .ok (.ireturn, 1) := by decide +kernel
theorem dX0_goOnAlike_0 : decode cX0_goOnAlike 0 = .ok (.aload_n 0, 1) := by decide +kernel
theorem dX0_goOnAlike_1 : decode cX0_goOnAlike 1 = .ok (.iload_n 1, 1) := by decide +kernel
theorem dX0_goOnAlike_2 : decode cX0_goOnAlike 2 = .ok (.iload_n 3, 1) := by decide +kernel
theorem dX0_goOnAlike_3 : decode cX0_goOnAlike 3 = .ok (.invokevirtual 76, 3) := by decide +kernel
theorem dX0_goOnAlike_6 : decode cX0_goOnAlike 6 = .ok (.bipush (-9), 2) := by decide +kernel
theorem dX0_goOnAlike_8 : decode cX0_goOnAlike 8 = .ok (.if_icmp .eq 14, 3) := by decide +kernel
theorem dX0_goOnAlike_11 : decode cX0_goOnAlike 11 = .ok (.aload_n 0, 1) := by decide +kernel
theorem dX0_goOnAlike_12 : decode cX0_goOnAlike 12 = .ok (.iload_n 2, 1) := by decide +kernel
theorem dX0_goOnAlike_13 : decode cX0_goOnAlike 13 = .ok (.iload_n 3, 1) := by decide +kernel
theorem dX0_goOnAlike_14 : decode cX0_goOnAlike 14 = .ok (.invokevirtual 76, 3) := by decide +kernel
theorem dX0_goOnAlike_17 : decode cX0_goOnAlike 17 = .ok (.bipush (-9), 2) := by decide +kernel
theorem dX0_goOnAlike_19 : decode cX0_goOnAlike 19 = .ok (.if_icmp .ne 5, 3) := by decide +kernel
theorem dX0_goOnAlike_22 : decode cX0_goOnAlike 22 = .ok (.iconst 0, 1) := by decide +kernel
theorem dX0_goOnAlike_23 : decode cX0_goOnAlike 23 = .ok (.ireturn, 1) := by decide +kernel
theorem dX0_goOnAlike_24 : decode cX0_goOnAlike 24 = .ok (.aload_n 0, 1) := by decide +kernel
theorem dX0_goOnAlike_25 : decode cX0_goOnAlike 25 = .ok (.iload_n 1, 1) := by decide +kernel
theorem dX0_goOnAlike_26 : decode cX0_goOnAlike 26 = .ok (.iload_n 3, 1) := by decide +kernel
theorem dX0_goOnAlike_27 : decode cX0_goOnAlike 27 = .ok (.invokevirtual 73, 3) := by decide +kernel
theorem dX0_goOnAlike_30 : decode cX0_goOnAlike 30 = .ok (.istore 4, 2) := by decide +kernel
theorem dX0_goOnAlike_32 : decode cX0_goOnAlike 32 = .ok (.iload 4, 2) := by decide +kernel
theorem dX0_goOnAlike_34 : decode cX0_goOnAlike 34 = .ok (.ifCond .lt 33, 3) := by decide +kernel
theorem dX0_goOnAlike_37 : decode cX0_goOnAlike 37 = .ok (.iload 4, 2) := by decide +kernel
theorem dX0_goOnAlike_39 : decode cX0_goOnAlike 39 = .ok (.bipush 7, 2) := by decide +kernel
theorem dX0_goOnAlike_41 : decode cX0_goOnAlike 41 = .ok (.if_icmp .ge 26, 3) := by decide +kernel
theorem dX0_goOnAlike_44 : decode cX0_goOnAlike 44 = .ok (.aload_n 0, 1) := by decide +kernel
theorem dX0_goOnAlike_45 : decode cX0_goOnAlike 45 = .ok (.getfield 18, 3) := by decide +kernel
theorem dX0_goOnAlike_48 : decode cX0_goOnAlike 48 = .ok (.iload 4, 2) := by decide +kernel
theorem dX0_goOnAlike_50 : decode cX0_goOnAlike 50 = .ok (.iaload, 1) := by decide +kernel
theorem dX0_goOnAlike_51 : decode cX0_goOnAlike 51 = .ok (.aload_n 0, 1) := by decide +kernel
theorem dX0_goOnAlike_52 : decode cX0_goOnAlike 52 = .ok (.iload_n 2, 1) := by decide +kernel
theorem dX0_goOnAlike_53 : decode cX0_goOnAlike 53 = .ok (.iload_n 3, 1) := by decide +kernel
theorem dX0_goOnAlike_54 : decode cX0_goOnAlike 54 = .ok (.invokevirtual 73, 3) := by decide +kernel
theorem dX0_goOnAlike_57 : decode cX0_goOnAlike 57 = .ok (.invokestatic 69, 3) := by decide +kernel
theorem dX0_goOnAlike_60 : decode cX0_goOnAlike 60 = .ok (.ifCond .eq 7, 3) := by decide +kernel
theorem dX0_goOnAlike_63 : decode cX0_goOnAlike 63 = .ok (.iconst 1, 1) := by decide +kernel
theorem dX0_goOnAlike_64 : decode cX0_goOnAlike 64 = .ok (.goto 4, 3) := by decide +kernel
theorem dX0_goOnAlike_67 : decode cX0_goOnAlike 67 = .ok (.iconst 0, 1) := by decide +kernel
theorem dX0_goOnAlike_68 : decode cX0_goOnAlike 68 = .ok (.ireturn, 1) := by decide +kernel
theorem dX0_lengthenMates_0 : decode cX0_lengthenMates 0 = .ok (.iconst 0, 1) := by decide +kernel
theorem dX0_lengthenMates_1 : decode cX0_lengthenMates 1 = .ok (.istore_n 1, 1) := by decide +kernel
theorem dX0_lengthenMates_2 : decode cX0_lengthenMates 2 = .ok (.iload_n 1, 1) := by decide +kernel
theorem dX0_lengthenMates_3 : decode cX0_lengthenMates 3 = .ok (.bipush 7, 2) := by decide +kernel
theorem dX0_lengthenMates_5 : decode cX0_lengthenMates 5 = .ok (.if_icmp .ge 65, 3) := by decide +kernel
theorem dX0_lengthenMates_8 : decode cX0_lengthenMates 8 = .ok (.iconst 0, 1) := by decide +kernel
theorem dX0_lengthenMates_9 : decode cX0_lengthenMates 9 = .ok (.istore_n 2, 1) := by decide +kernel
theorem dX0_lengthenMates_10 : decode cX0_lengthenMates 10 = .ok (.iconst 0, 1) := by decide +kernel
theorem dX0_lengthenMates_11 : decode cX0_lengthenMates 11 = .ok (.istore_n 3, 1) := by decide +kernel
theorem dX0_lengthenMates_12 : decode cX0_lengthenMates 12 = .ok (.iload_n 3, 1) := by decide +kernel
theorem dX0_lengthenMates_13 : decode cX0_lengthenMates 13 = .ok (.bipush 7, 2) := by decide +kernel
theorem dX0_lengthenMates_15 : decode cX0_lengthenMates 15 = .ok (.if_icmp .ge 42, 3) := by decide +kernel
theorem dX0_lengthenMates_18 : decode cX0_lengthenMates 18 = .ok (.iconst 0, 1) := by decide +kernel
theorem dX0_lengthenMates_19 : decode cX0_lengthenMates 19 = .ok (.istore 4, 2) := by decide +kernel
theorem dX0_lengthenMates_21 : decode cX0_lengthenMates 21 = .ok (.iload 4, 2) := by decide +kernel
theorem dX0_lengthenMates_23 : decode cX0_lengthenMates 23 = .ok (.bipush 16, 2) := by decide +kernel
theorem dX0_lengthenMates_25 : decode cX0_lengthenMates 25 = .ok (.if_icmp .ge 26, 3) := by decide +kernel
theorem dX0_lengthenMates_28 : decode cX0_lengthenMates 28 = .ok (.aload_n 0, 1) := by decide +kernel
theorem dX0_lengthenMates_29 : decode cX0_lengthenMates 29 = .ok (.iload_n 1, 1) := by decide +kernel
theorem dX0_lengthenMates_30 : decode cX0_lengthenMates 30 = .ok (.iload_n 3, 1) := by decide +kernel
theorem dX0_lengthenMates_31 : decode cX0_lengthenMates 31 = .ok (.iload 4, 2) := by decide +kernel
theorem dX0_lengthenMates_33 : decode cX0_lengthenMates 33 = .ok (.invokevirtual 113, 3) := by decide +kernel
theorem dX0_lengthenMates_36 : decode cX0_lengthenMates 36 = .ok (.ifCond .eq 9, 3) := by decide +kernel
theorem dX0_lengthenMates_39 : decode cX0_lengthenMates 39 = .ok (.iload_n 2, 1) := by decide +kernel
theorem dX0_lengthenMates_40 : decode cX0_lengthenMates 40 = .ok (.iconst 1, 1) := by decide +kernel
theorem dX0_lengthenMates_41 : decode cX0_lengthenMates 41 = .ok (.iload_n 3, 1) := by decide +kernel
theorem dX0_lengthenMates_42 : decode cX0_lengthenMates 42 = .ok (.ishl, 1) := by decide +kernel
theorem dX0_lengthenMates_43 : decode cX0_lengthenMates 43 = .ok (.ior, 1) := by decide +kernel
theorem dX0_lengthenMates_44 : decode cX0_lengthenMates 44 = .ok (.istore_n 2, 1) := by decide +kernel
theorem dX0_lengthenMates_45 : decode cX0_lengthenMates 45 = .ok (.iinc 4 1, 3) := by decide +kernel
theorem dX0_lengthenMates_48 : decode cX0_lengthenMates 48 = .ok (.goto (-27), 3) := by decide +kernel
theorem dX0_lengthenMates_51 : decode cX0_lengthenMates 51 = .ok (.iinc 3 1, 3) := by decide +kernel
theorem dX0_lengthenMates_54 : decode cX0_lengthenMates 54 = .ok (.goto (-42), 3) := by decide +kernel
theorem dX0_lengthenMates_57 : decode cX0_lengthenMates 57 = .ok (.aload_n 0, 1) := by decide +kernel
theorem dX0_lengthenMates_58 : decode cX0_lengthenMates 58 = .ok (.getfield 21, 3) := by decide +kernel
theorem dX0_lengthenMates_61 : decode cX0_lengthenMates 61 = .ok (.iload_n 1, 1) := by decide +kernel
theorem dX0_lengthenMates_62 : decode cX0_lengthenMates 62 = .ok (.iload_n 2, 1) := by decide +kernel
theorem dX0_lengthenMates_63 : decode cX0_lengthenMates 63 = .ok (.iastore, 1) := by decide +kernel
theorem dX0_lengthenMates_64 : decode cX0_lengthenMates 64 = .ok (.iinc 1 1, 3) := by decide +kernel
theorem dX0_lengthenMates_67 : decode cX0_lengthenMates 67 = .ok (.goto (-65), 3) := by decide +kernel
theorem dX0_lengthenMates_70 : decode cX0_lengthenMates 70 = .ok (.aload_n 0, 1) := by decide +kernel
theorem dX0_lengthenMates_71 : decode cX0_lengthenMates 71 = .ok (.getfield 21, 3) := by decide +kernel
theorem dX0_lengthenMates_74 : decode cX0_lengthenMates 74 = .ok (.iconst 0, 1) := by decide +kernel
theorem dX0_lengthenMates_75 : decode cX0_lengthenMates 75 = .ok (.aload_n 0, 1) := by decide +kernel
theorem dX0_lengthenMates_76 : decode cX0_lengthenMates 76 = .ok (.getfield 18, 3) := by decide +kernel
theorem dX0_lengthenMates_79 : decode cX0_lengthenMates 79 = .ok (.iconst 0, 1) := by decide +kernel
theorem dX0_lengthenMates_80 : decode cX0_lengthenMates 80 = .ok (.bipush 7, 2) := by decide +kernel
theorem dX0_lengthenMates_82 : decode cX0_lengthenMates 82 = .ok (.invokestatic 117, 3) := by decide +kernel
theorem dX0_lengthenMates_85 : decode cX0_lengthenMates 85 = .ok (.return_, 1) := by decide +kernel
theorem dX1_init_0 : decode cX1_init 0 = .ok (.aload_n 0, 1) := by decide +kernel
theorem dX1_init_1 : decode cX1_init 1 = .ok (.invokespecial 3, 3) := by decide +kernel
theorem dX1_init_4 : decode cX1_init 4 = .ok (.aload_n 0, 1) := by decide +kernel
theorem dX1_init_5 : decode cX1_init 5 = .ok (.invokevirtual 9, 3) := by decide +kernel
theorem dX1_init_8 : decode cX1_init 8 = .ok (.return_, 1) := by decide +kernel
theorem dX1_setFirst_0 : decode cX1_setFirst 0 = .ok (.aload_n 0, 1) := by decide +kernel
theorem dX1_setFirst_1 : decode cX1_setFirst 1 = .ok (.iconst 0, 1) := by decide +kernel
theorem dX1_setFirst_2 : decode cX1_setFirst 2 = .ok (.putfield 14, 3) := by decide +kernel
theorem dX1_setFirst_5 : decode cX1_setFirst 5 = .ok (.aload_n 0, 1) := by decide +kernel
theorem dX1_setFirst_6 : decode cX1_setFirst 6 = .ok (.iconst 1, 1) := by decide +kernel
theorem dX1_setFirst_7 : decode cX1_setFirst 7 = .ok (.putfield 18, 3) := by decide +kernel
theorem dX1_setFirst_10 : decode cX1_setFirst 10 = .ok (.aload_n 0, 1) := by decide +kernel
theorem dX1_setFirst_11 : decode cX1_setFirst 11 = .ok (.iconst 3, 1) := by decide +kernel
theorem dX1_setFirst_12 : decode cX1_setFirst 12 = .ok (.putfield 21, 3) := by decide +kernel
theorem dX1_setFirst_15 : decode cX1_setFirst 15 = .ok (.aload_n 0, 1) := by decide +kernel
theorem dX1_setFirst_16 : decode cX1_setFirst 16 = .ok (.iconst 1, 1) := by decide +kernel
theorem dX1_setFirst_17 : decode cX1_setFirst 17 = .ok (.putfield 24, 3) := by decide +kernel
theorem dX1_setFirst_20 : decode cX1_setFirst 20 = .ok (.aload_n 0, 1) := by decide +kernel
theorem dX1_setFirst_21 : decode cX1_setFirst 21 = .ok (.iconst 2, 1) := by decide +kernel
theorem dX1_setFirst_22 : decode cX1_setFirst 22 = .ok (.putfield 27, 3) := by decide +kernel
theorem dX1_setFirst_25 : decode cX1_setFirst 25 = .ok (.return_, 1) := by decide +kernel
theorem dX1_copy_0 : decode cX1_copy 0 = .ok (.aload_n 0, 1) := by decide +kernel
theorem dX1_copy_1 : decode cX1_copy 1 = .ok (.aload_n 1, 1) := by decide +kernel
theorem dX1_copy_2 : decode cX1_copy 2 = .ok (.getfield 14, 3) := by decide +kernel
theorem dX1_copy_5 : decode cX1_copy 5 = .ok (.putfield 14, 3) := by decide +kernel
theorem dX1_copy_8 : decode cX1_copy 8 = .ok (.aload_n 0, 1) := by decide +kernel
theorem dX1_copy_9 : decode cX1_copy 9 = .ok (.aload_n 1, 1) := by decide +kernel
theorem dX1_copy_10 : decode cX1_copy 10 = .ok (.getfield 18, 3) := by decide +kernel
theorem dX1_copy_13 : decode cX1_copy 13 = .ok (.putfield 18, 3) := by decide +kernel
theorem dX1_copy_16 : decode cX1_copy 16 = .ok (.aload_n 0, 1) := by decide +kernel
theorem dX1_copy_17 : decode cX1_copy 17 = .ok (.aload_n 1, 1) := by decide +kernel
theorem dX1_copy_18 : decode cX1_copy 18 = .ok (.getfield 21, 3) := by decide +kernel
theorem dX1_copy_21 : decode cX1_copy 21 = .ok (.putfield 21, 3) := by decide +kernel
theorem dX1_copy_24 : decode cX1_copy 24 = .ok (.aload_n 0, 1) := by decide +kernel
theorem dX1_copy_25 : decode cX1_copy 25 = .ok (.aload_n 1, 1) := by decide +kernel
theorem dX1_copy_26 : decode cX1_copy 26 = .ok (.getfield 24, 3) := by decide +kernel
theorem dX1_copy_29 : decode cX1_copy 29 = .ok (.putfield 24, 3) := by decide +kernel
theorem dX1_copy_32 : decode cX1_copy 32 = .ok (.aload_n 0, 1) := by decide +kernel
theorem dX1_copy_33 : decode cX1_copy 33 = .ok (.aload_n 1, 1) := by decide +kernel
theorem dX1_copy_34 : decode cX1_copy 34 = .ok (.getfield 27, 3) := by decide +kernel
theorem dX1_copy_37 : decode cX1_copy 37 = .ok (.putfield 27, 3) := by decide +kernel
theorem dX1_copy_40 : decode cX1_copy 40 = .ok (.return_, 1) := by decide +kernel
theorem dX1_tagCount_0 : decode cX1_tagCount 0 = .ok (.iconst 1, 1) := by decide +kernel
theorem dX1_tagCount_1 : decode cX1_tagCount 1 = .ok (.aload_n 0, 1) := by decide +kernel
theorem dX1_tagCount_2 : decode cX1_tagCount 2 = .ok (.getfield 24, 3) := by decide +kernel
theorem dX1_tagCount_5 : decode cX1_tagCount 5 = .ok (.ishl, 1) := by decide +kernel
theorem dX1_tagCount_6 : decode cX1_tagCount 6 = .ok (.ireturn, 1) := by decide +kernel
theorem dX1_wordCount_0 : decode cX1_wordCount 0 = .ok (.iconst 1, 1) := by decide +kernel
theorem dX1_wordCount_1 : decode cX1_wordCount 1 = .ok (.aload_n 0, 1) := by decide +kernel
theorem dX1_wordCount_2 : decode cX1_wordCount 2 = .ok (.getfield 27, 3) := by decide +kernel
theorem dX1_wordCount_5 : decode cX1_wordCount 5 = .ok (.ishl, 1) := by decide +kernel
theorem dX1_wordCount_6 : decode cX1_wordCount 6 = .ok (.ireturn, 1) := by decide +kernel
theorem dX1_stateCount_0 : decode cX1_stateCount 0 = .ok (.aload_n 0, 1) := by decide +kernel
theorem dX1_stateCount_1 : decode cX1_stateCount 1 = .ok (.getfield 14, 3) := by decide +kernel
theorem dX1_stateCount_4 : decode cX1_stateCount 4 = .ok (.lookupswitch 44 #[(0, 28), (1, 35)], 28) := by decide +kernel
theorem dX1_stateCount_32 : decode cX1_stateCount 32 = .ok (.aload_n 0, 1) := by decide +kernel
theorem dX1_stateCount_33 : decode cX1_stateCount 33 = .ok (.getfield 21, 3) := by decide +kernel
theorem dX1_stateCount_36 : decode cX1_stateCount 36 = .ok (.iconst 1, 1) := by decide +kernel
theorem dX1_stateCount_37 : decode cX1_stateCount 37 = .ok (.iadd, 1) := by decide +kernel
theorem dX1_stateCount_38 : decode cX1_stateCount 38 = .ok (.ireturn, 1) := by decide +kernel
theorem dX1_stateCount_39 : decode cX1_stateCount 39 = .ok (.iconst 2, 1) := by decide +kernel
theorem dX1_stateCount_40 : decode cX1_stateCount 40 = .ok (.aload_n 0, 1) := by decide +kernel
theorem dX1_stateCount_41 : decode cX1_stateCount 41 = .ok (.getfield 18, 3) := by decide +kernel
theorem dX1_stateCount_44 : decode cX1_stateCount 44 = .ok (.imul, 1) := by decide +kernel
theorem dX1_stateCount_45 : decode cX1_stateCount 45 = .ok (.iconst 1, 1) := by decide +kernel
theorem dX1_stateCount_46 : decode cX1_stateCount 46 = .ok (.iadd, 1) := by decide +kernel
theorem dX1_stateCount_47 : decode cX1_stateCount 47 = .ok (.ireturn, 1) := by decide +kernel
theorem dX1_stateCount_48 : decode cX1_stateCount 48 = .ok (.aload_n 0, 1) := by decide +kernel
theorem dX1_stateCount_49 : decode cX1_stateCount 49 = .ok (.getfield 21, 3) := by decide +kernel
theorem dX1_stateCount_52 : decode cX1_stateCount 52 = .ok (.ireturn, 1) := by decide +kernel
theorem dX1_start_0 : decode cX1_start 0 = .ok (.aload_n 0, 1) := by decide +kernel
theorem dX1_start_1 : decode cX1_start 1 = .ok (.getfield 14, 3) := by decide +kernel
theorem dX1_start_4 : decode cX1_start 4 = .ok (.iconst 1, 1) := by decide +kernel
theorem dX1_start_5 : decode cX1_start 5 = .ok (.if_icmp .ne 10, 3) := by decide +kernel
theorem dX1_start_8 : decode cX1_start 8 = .ok (.aload_n 0, 1) := by decide +kernel
theorem dX1_start_9 : decode cX1_start 9 = .ok (.getfield 18, 3) := by decide +kernel
theorem dX1_start_12 : decode cX1_start 12 = .ok (.goto 4, 3) := by decide +kernel
theorem dX1_start_15 : decode cX1_start 15 = .ok (.iconst 0, 1) := by decide +kernel
theorem dX1_start_16 : decode cX1_start 16 = .ok (.ireturn, 1) := by decide +kernel
theorem dX1_lead_0 : decode cX1_lead 0 = .ok (.aload_n 0, 1) := by decide +kernel
theorem dX1_lead_1 : decode cX1_lead 1 = .ok (.getfield 14, 3) := by decide +kernel
theorem dX1_lead_4 : decode cX1_lead 4 = .ok (.lookupswitch 42 #[(0, 28), (1, 35)], 28) := by decide +kernel
theorem dX1_lead_32 : decode cX1_lead 32 = .ok (.aload_n 0, 1) := by decide +kernel
theorem dX1_lead_33 : decode cX1_lead 33 = .ok (.iload_n 1, 1) := by decide +kernel
theorem dX1_lead_34 : decode cX1_lead 34 = .ok (.iload_n 2, 1) := by decide +kernel
theorem dX1_lead_35 : decode cX1_lead 35 = .ok (.invokevirtual 30, 3) := by decide +kernel
theorem dX1_lead_38 : decode cX1_lead 38 = .ok (.ireturn, 1) := by decide +kernel
theorem dX1_lead_39 : decode cX1_lead 39 = .ok (.aload_n 0, 1) := by decide +kernel
theorem dX1_lead_40 : decode cX1_lead 40 = .ok (.iload_n 1, 1) := by decide +kernel
theorem dX1_lead_41 : decode cX1_lead 41 = .ok (.iload_n 2, 1) := by decide +kernel
theorem dX1_lead_42 : decode cX1_lead 42 = .ok (.invokevirtual 34, 3) := by decide +kernel
theorem dX1_lead_45 : decode cX1_lead 45 = .ok (.ireturn, 1) := by decide +kernel
theorem dX1_lead_46 : decode cX1_lead 46 = .ok (.aload_n 0, 1) := by decide +kernel
theorem dX1_lead_47 : decode cX1_lead 47 = .ok (.iload_n 1, 1) := by decide +kernel
theorem dX1_lead_48 : decode cX1_lead 48 = .ok (.iload_n 2, 1) := by decide +kernel
theorem dX1_lead_49 : decode cX1_lead 49 = .ok (.invokevirtual 37, 3) := by decide +kernel
theorem dX1_lead_52 : decode cX1_lead 52 = .ok (.ireturn, 1) := by decide +kernel
theorem dX1_leadOfRuns_0 : decode cX1_leadOfRuns 0 = .ok (.iload_n 2, 1) := by decide +kernel
theorem dX1_leadOfRuns_1 : decode cX1_leadOfRuns 1 = .ok (.ifCond .ne 20, 3) := by decide +kernel
theorem dX1_leadOfRuns_4 : decode cX1_leadOfRuns 4 = .ok (.iload_n 1, 1) := by decide +kernel
theorem dX1_leadOfRuns_5 : decode cX1_leadOfRuns 5 = .ok (.aload_n 0, 1) := by decide +kernel
theorem dX1_leadOfRuns_6 : decode cX1_leadOfRuns 6 = .ok (.getfield 21, 3) := by decide +kernel
theorem dX1_leadOfRuns_9 : decode cX1_leadOfRuns 9 = .ok (.if_icmp .ge 9, 3) := by decide +kernel
theorem dX1_leadOfRuns_12 : decode cX1_leadOfRuns 12 = .ok (.iload_n 1, 1) := by decide +kernel
theorem dX1_leadOfRuns_13 : decode cX1_leadOfRuns 13 = .ok (.iconst 1, 1) := by decide +kernel
theorem dX1_leadOfRuns_14 : decode cX1_leadOfRuns 14 = .ok (.iadd, 1) := by decide +kernel
theorem dX1_leadOfRuns_15 : decode cX1_leadOfRuns 15 = .ok (.goto 5, 3) := by decide +kernel
theorem dX1_leadOfRuns_18 : decode cX1_leadOfRuns 18 = .ok (.bipush (-9), 2) := by decide +kernel
theorem dX1_leadOfRuns_20 : decode cX1_leadOfRuns 20 = .ok (.ireturn, 1) := by decide +kernel
theorem dX1_leadOfRuns_21 : decode cX1_leadOfRuns 21 = .ok (.iload_n 1, 1) := by decide +kernel
theorem dX1_leadOfRuns_22 : decode cX1_leadOfRuns 22 = .ok (.aload_n 0, 1) := by decide +kernel
theorem dX1_leadOfRuns_23 : decode cX1_leadOfRuns 23 = .ok (.getfield 18, 3) := by decide +kernel
theorem dX1_leadOfRuns_26 : decode cX1_leadOfRuns 26 = .ok (.if_icmp .lt 7, 3) := by decide +kernel
theorem dX1_leadOfRuns_29 : decode cX1_leadOfRuns 29 = .ok (.iconst 0, 1) := by decide +kernel
theorem dX1_leadOfRuns_30 : decode cX1_leadOfRuns 30 = .ok (.goto 5, 3) := by decide +kernel
theorem dX1_leadOfRuns_33 : decode cX1_leadOfRuns 33 = .ok (.bipush (-9), 2) := by decide +kernel
theorem dX1_leadOfRuns_35 : decode cX1_leadOfRuns 35 = .ok (.ireturn, 1) := by decide +kernel
theorem dX1_leadOfCharge_0 : decode cX1_leadOfCharge 0 = .ok (.iload_n 2, 1) := by decide +kernel
theorem dX1_leadOfCharge_1 : decode cX1_leadOfCharge 1 = .ok (.iconst 1, 1) := by decide +kernel
theorem dX1_leadOfCharge_2 : decode cX1_leadOfCharge 2 = .ok (.if_icmp .ne 9, 3) := by decide +kernel
theorem dX1_leadOfCharge_5 : decode cX1_leadOfCharge 5 = .ok (.iload_n 1, 1) := by decide +kernel
theorem dX1_leadOfCharge_6 : decode cX1_leadOfCharge 6 = .ok (.iconst 1, 1) := by decide +kernel
theorem dX1_leadOfCharge_7 : decode cX1_leadOfCharge 7 = .ok (.iadd, 1) := by decide +kernel
theorem dX1_leadOfCharge_8 : decode cX1_leadOfCharge 8 = .ok (.goto 6, 3) := by decide +kernel
theorem dX1_leadOfCharge_11 : decode cX1_leadOfCharge 11 = .ok (.iload_n 1, 1) := by decide +kernel
theorem dX1_leadOfCharge_12 : decode cX1_leadOfCharge 12 = .ok (.iconst 1, 1) := by decide +kernel
theorem dX1_leadOfCharge_13 : decode cX1_leadOfCharge 13 = .ok (.isub, 1) := by decide +kernel
theorem dX1_leadOfCharge_14 : decode cX1_leadOfCharge 14 = .ok (.istore_n 3, 1) := by decide +kernel
theorem dX1_leadOfCharge_15 : decode cX1_leadOfCharge 15 = .ok (.iload_n 3, 1) := by decide +kernel
theorem dX1_leadOfCharge_16 : decode cX1_leadOfCharge 16 = .ok (.ifCond .lt 13, 3) := by decide +kernel
theorem dX1_leadOfCharge_19 : decode cX1_leadOfCharge 19 = .ok (.iload_n 3, 1) := by decide +kernel
theorem dX1_leadOfCharge_20 : decode cX1_leadOfCharge 20 = .ok (.iconst 2, 1) := by decide +kernel
theorem dX1_leadOfCharge_21 : decode cX1_leadOfCharge 21 = .ok (.aload_n 0, 1) := by decide +kernel
theorem dX1_leadOfCharge_22 : decode cX1_leadOfCharge 22 = .ok (.getfield 18, 3) := by decide +kernel
theorem dX1_leadOfCharge_25 : decode cX1_leadOfCharge 25 = .ok (.imul, 1) := by decide +kernel
theorem dX1_leadOfCharge_26 : decode cX1_leadOfCharge 26 = .ok (.if_icmp .le 8, 3) := by decide +kernel
theorem dX1_leadOfCharge_29 : decode cX1_leadOfCharge 29 = .ok (.bipush (-9), 2) := by decide +kernel
theorem dX1_leadOfCharge_31 : decode cX1_leadOfCharge 31 = .ok (.goto 4, 3) := by decide +kernel
theorem dX1_leadOfCharge_34 : decode cX1_leadOfCharge 34 = .ok (.iload_n 3, 1) := by decide +kernel
theorem dX1_leadOfCharge_35 : decode cX1_leadOfCharge 35 = .ok (.ireturn, 1) := by decide +kernel
theorem dX1_leadOfWord_0 : decode cX1_leadOfWord 0 = .ok (.aload_n 0, 1) := by decide +kernel
theorem dX1_leadOfWord_1 : decode cX1_leadOfWord 1 = .ok (.iload_n 1, 1) := by decide +kernel
theorem dX1_leadOfWord_2 : decode cX1_leadOfWord 2 = .ok (.invokevirtual 40, 3) := by decide +kernel
theorem dX1_leadOfWord_5 : decode cX1_leadOfWord 5 = .ok (.iconst 1, 1) := by decide +kernel
theorem dX1_leadOfWord_6 : decode cX1_leadOfWord 6 = .ok (.ishl, 1) := by decide +kernel
theorem dX1_leadOfWord_7 : decode cX1_leadOfWord 7 = .ok (.iload_n 2, 1) := by decide +kernel
theorem dX1_leadOfWord_8 : decode cX1_leadOfWord 8 = .ok (.ior, 1) := by decide +kernel
theorem dX1_leadOfWord_9 : decode cX1_leadOfWord 9 = .ok (.istore_n 3, 1) := by decide +kernel
theorem dX1_leadOfWord_10 : decode cX1_leadOfWord 10 = .ok (.iload_n 1, 1) := by decide +kernel
theorem dX1_leadOfWord_11 : decode cX1_leadOfWord 11 = .ok (.iconst 1, 1) := by decide +kernel
theorem dX1_leadOfWord_12 : decode cX1_leadOfWord 12 = .ok (.iadd, 1) := by decide +kernel
theorem dX1_leadOfWord_13 : decode cX1_leadOfWord 13 = .ok (.istore 4, 2) := by decide +kernel
theorem dX1_leadOfWord_15 : decode cX1_leadOfWord 15 = .ok (.iload 4, 2) := by decide +kernel
theorem dX1_leadOfWord_17 : decode cX1_leadOfWord 17 = .ok (.ifCond .le 47, 3) := by decide +kernel
theorem dX1_leadOfWord_20 : decode cX1_leadOfWord 20 = .ok (.iload_n 3, 1) := by decide +kernel
theorem dX1_leadOfWord_21 : decode cX1_leadOfWord 21 = .ok (.iconst 1, 1) := by decide +kernel
theorem dX1_leadOfWord_22 : decode cX1_leadOfWord 22 = .ok (.iload 4, 2) := by decide +kernel
theorem dX1_leadOfWord_24 : decode cX1_leadOfWord 24 = .ok (.ishl, 1) := by decide +kernel
theorem dX1_leadOfWord_25 : decode cX1_leadOfWord 25 = .ok (.iconst 1, 1) := by decide +kernel
theorem dX1_leadOfWord_26 : decode cX1_leadOfWord 26 = .ok (.isub, 1) := by decide +kernel
theorem dX1_leadOfWord_27 : decode cX1_leadOfWord 27 = .ok (.iand, 1) := by decide +kernel
theorem dX1_leadOfWord_28 : decode cX1_leadOfWord 28 = .ok (.istore 5, 2) := by decide +kernel
theorem dX1_leadOfWord_30 : decode cX1_leadOfWord 30 = .ok (.iload 5, 2) := by decide +kernel
theorem dX1_leadOfWord_32 : decode cX1_leadOfWord 32 = .ok (.aload_n 0, 1) := by decide +kernel
theorem dX1_leadOfWord_33 : decode cX1_leadOfWord 33 = .ok (.iload 4, 2) := by decide +kernel
theorem dX1_leadOfWord_35 : decode cX1_leadOfWord 35 = .ok (.invokevirtual 40, 3) := by decide +kernel
theorem dX1_leadOfWord_38 : decode cX1_leadOfWord 38 = .ok (.if_icmp .ne 20, 3) := by decide +kernel
theorem dX1_leadOfWord_41 : decode cX1_leadOfWord 41 = .ok (.iload 4, 2) := by decide +kernel
theorem dX1_leadOfWord_43 : decode cX1_leadOfWord 43 = .ok (.aload_n 0, 1) := by decide +kernel
theorem dX1_leadOfWord_44 : decode cX1_leadOfWord 44 = .ok (.getfield 21, 3) := by decide +kernel
theorem dX1_leadOfWord_47 : decode cX1_leadOfWord 47 = .ok (.if_icmp .ne 8, 3) := by decide +kernel
theorem dX1_leadOfWord_50 : decode cX1_leadOfWord 50 = .ok (.bipush (-9), 2) := by decide +kernel
theorem dX1_leadOfWord_52 : decode cX1_leadOfWord 52 = .ok (.goto 5, 3) := by decide +kernel
theorem dX1_leadOfWord_55 : decode cX1_leadOfWord 55 = .ok (.iload 4, 2) := by decide +kernel
theorem dX1_leadOfWord_57 : decode cX1_leadOfWord 57 = .ok (.ireturn, 1) := by decide +kernel
theorem dX1_leadOfWord_58 : decode cX1_leadOfWord 58 = .ok (.iinc 4 (-1), 3) := by decide +kernel
theorem dX1_leadOfWord_61 : decode cX1_leadOfWord 61 = .ok (.goto (-46), 3) := by decide +kernel
theorem dX1_leadOfWord_64 : decode cX1_leadOfWord 64 = .ok (.iconst 0, 1) := by decide +kernel
theorem dX1_leadOfWord_65 : decode cX1_leadOfWord 65 = .ok (.ireturn, 1) := by decide +kernel
theorem dX1_firstBits_0 : decode cX1_firstBits 0 = .ok (.aload_n 0, 1) := by decide +kernel
theorem dX1_firstBits_1 : decode cX1_firstBits 1 = .ok (.getfield 18, 3) := by decide +kernel
theorem dX1_firstBits_4 : decode cX1_firstBits 4 = .ok (.aload_n 0, 1) := by decide +kernel
theorem dX1_firstBits_5 : decode cX1_firstBits 5 = .ok (.getfield 21, 3) := by decide +kernel
theorem dX1_firstBits_8 : decode cX1_firstBits 8 = .ok (.iload_n 1, 1) := by decide +kernel
theorem dX1_firstBits_9 : decode cX1_firstBits 9 = .ok (.isub, 1) := by decide +kernel
theorem dX1_firstBits_10 : decode cX1_firstBits 10 = .ok (.ishr, 1) := by decide +kernel
theorem dX1_firstBits_11 : decode cX1_firstBits 11 = .ok (.ireturn, 1) := by decide +kernel
theorem dX2_init_0 : decode cX2_init 0 = .ok (.aload_n 0, 1) := by decide +kernel
theorem dX2_init_1 : decode cX2_init 1 = .ok (.invokespecial 1, 3) := by decide +kernel
theorem dX2_init_4 : decode cX2_init 4 = .ok (.aload_n 0, 1) := by decide +kernel
theorem dX2_init_5 : decode cX2_init 5 = .ok (.new 7, 3) := by decide +kernel
theorem dX2_init_8 : decode cX2_init 8 = .ok (.dup, 1) := by decide +kernel
theorem dX2_init_9 : decode cX2_init 9 = .ok (.invokespecial 9, 3) := by decide +kernel
theorem dX2_init_12 : decode cX2_init 12 = .ok (.putfield 10, 3) := by decide +kernel
theorem dX2_init_15 : decode cX2_init 15 = .ok (.aload_n 0, 1) := by decide +kernel
theorem dX2_init_16 : decode cX2_init 16 = .ok (.new 16, 3) := by decide +kernel
theorem dX2_init_19 : decode cX2_init 19 = .ok (.dup, 1) := by decide +kernel
theorem dX2_init_20 : decode cX2_init 20 = .ok (.invokespecial 18, 3) := by decide +kernel
theorem dX2_init_23 : decode cX2_init 23 = .ok (.putfield 19, 3) := by decide +kernel
theorem dX2_init_26 : decode cX2_init 26 = .ok (.return_, 1) := by decide +kernel
theorem dX2_copy_0 : decode cX2_copy 0 = .ok (.aload_n 0, 1) := by decide +kernel
theorem dX2_copy_1 : decode cX2_copy 1 = .ok (.getfield 10, 3) := by decide +kernel
theorem dX2_copy_4 : decode cX2_copy 4 = .ok (.aload_n 1, 1) := by decide +kernel
theorem dX2_copy_5 : decode cX2_copy 5 = .ok (.getfield 10, 3) := by decide +kernel
theorem dX2_copy_8 : decode cX2_copy 8 = .ok (.invokevirtual 23, 3) := by decide +kernel
theorem dX2_copy_11 : decode cX2_copy 11 = .ok (.aload_n 0, 1) := by decide +kernel
theorem dX2_copy_12 : decode cX2_copy 12 = .ok (.getfield 19, 3) := by decide +kernel
theorem dX2_copy_15 : decode cX2_copy 15 = .ok (.aload_n 1, 1) := by decide +kernel
theorem dX2_copy_16 : decode cX2_copy 16 = .ok (.getfield 19, 3) := by decide +kernel
theorem dX2_copy_19 : decode cX2_copy 19 = .ok (.invokevirtual 27, 3) := by decide +kernel
theorem dX2_copy_22 : decode cX2_copy 22 = .ok (.return_, 1) := by decide +kernel
theorem dX3_init_0 : decode cX3_init 0 = .ok (.aload_n 0, 1) := by decide +kernel
theorem dX3_init_1 : decode cX3_init 1 = .ok (.invokespecial 3, 3) := by decide +kernel
theorem dX3_init_4 : decode cX3_init 4 = .ok (.aload_n 0, 1) := by decide +kernel
theorem dX3_init_5 : decode cX3_init 5 = .ok (.bipush 24, 2) := by decide +kernel
theorem dX3_init_7 : decode cX3_init 7 = .ok (.newarray .int, 2) := by decide +kernel
theorem dX3_init_9 : decode cX3_init 9 = .ok (.putfield 9, 3) := by decide +kernel
theorem dX3_init_12 : decode cX3_init 12 = .ok (.aload_n 0, 1) := by decide +kernel
theorem dX3_init_13 : decode cX3_init 13 = .ok (.bipush 24, 2) := by decide +kernel
theorem dX3_init_15 : decode cX3_init 15 = .ok (.newarray .int, 2) := by decide +kernel
theorem dX3_init_17 : decode cX3_init 17 = .ok (.putfield 15, 3) := by decide +kernel
theorem dX3_init_20 : decode cX3_init 20 = .ok (.aload_n 0, 1) := by decide +kernel
theorem dX3_init_21 : decode cX3_init 21 = .ok (.bipush 24, 2) := by decide +kernel
theorem dX3_init_23 : decode cX3_init 23 = .ok (.newarray .int, 2) := by decide +kernel
theorem dX3_init_25 : decode cX3_init 25 = .ok (.putfield 18, 3) := by decide +kernel
theorem dX3_init_28 : decode cX3_init 28 = .ok (.aload_n 0, 1) := by decide +kernel
theorem dX3_init_29 : decode cX3_init 29 = .ok (.iconst 0, 1) := by decide +kernel
theorem dX3_init_30 : decode cX3_init 30 = .ok (.putfield 21, 3) := by decide +kernel
theorem dX3_init_33 : decode cX3_init 33 = .ok (.aload_n 0, 1) := by decide +kernel
theorem dX3_init_34 : decode cX3_init 34 = .ok (.bipush (-9), 2) := by decide +kernel
theorem dX3_init_36 : decode cX3_init 36 = .ok (.putfield 25, 3) := by decide +kernel
theorem dX3_init_39 : decode cX3_init 39 = .ok (.return_, 1) := by decide +kernel
theorem dX3_empty_0 : decode cX3_empty 0 = .ok (.aload_n 0, 1) := by decide +kernel
theorem dX3_empty_1 : decode cX3_empty 1 = .ok (.iconst 0, 1) := by decide +kernel
theorem dX3_empty_2 : decode cX3_empty 2 = .ok (.putfield 21, 3) := by decide +kernel
theorem dX3_empty_5 : decode cX3_empty 5 = .ok (.aload_n 0, 1) := by decide +kernel
theorem dX3_empty_6 : decode cX3_empty 6 = .ok (.iload_n 1, 1) := by decide +kernel
theorem dX3_empty_7 : decode cX3_empty 7 = .ok (.putfield 25, 3) := by decide +kernel
theorem dX3_empty_10 : decode cX3_empty 10 = .ok (.return_, 1) := by decide +kernel
theorem dX3_copy_0 : decode cX3_copy 0 = .ok (.aload_n 1, 1) := by decide +kernel
theorem dX3_copy_1 : decode cX3_copy 1 = .ok (.getfield 9, 3) := by decide +kernel
theorem dX3_copy_4 : decode cX3_copy 4 = .ok (.iconst 0, 1) := by decide +kernel
theorem dX3_copy_5 : decode cX3_copy 5 = .ok (.aload_n 0, 1) := by decide +kernel
theorem dX3_copy_6 : decode cX3_copy 6 = .ok (.getfield 9, 3) := by decide +kernel
theorem dX3_copy_9 : decode cX3_copy 9 = .ok (.iconst 0, 1) := by decide +kernel
theorem dX3_copy_10 : decode cX3_copy 10 = .ok (.bipush 24, 2) := by decide +kernel
theorem dX3_copy_12 : decode cX3_copy 12 = .ok (.invokestatic 28, 3) := by decide +kernel
theorem dX3_copy_15 : decode cX3_copy 15 = .ok (.aload_n 1, 1) := by decide +kernel
theorem dX3_copy_16 : decode cX3_copy 16 = .ok (.getfield 15, 3) := by decide +kernel
theorem dX3_copy_19 : decode cX3_copy 19 = .ok (.iconst 0, 1) := by decide +kernel
theorem dX3_copy_20 : decode cX3_copy 20 = .ok (.aload_n 0, 1) := by decide +kernel
theorem dX3_copy_21 : decode cX3_copy 21 = .ok (.getfield 15, 3) := by decide +kernel
theorem dX3_copy_24 : decode cX3_copy 24 = .ok (.iconst 0, 1) := by decide +kernel
theorem dX3_copy_25 : decode cX3_copy 25 = .ok (.bipush 24, 2) := by decide +kernel
theorem dX3_copy_27 : decode cX3_copy 27 = .ok (.invokestatic 28, 3) := by decide +kernel
theorem dX3_copy_30 : decode cX3_copy 30 = .ok (.aload_n 1, 1) := by decide +kernel
theorem dX3_copy_31 : decode cX3_copy 31 = .ok (.getfield 18, 3) := by decide +kernel
theorem dX3_copy_34 : decode cX3_copy 34 = .ok (.iconst 0, 1) := by decide +kernel
theorem dX3_copy_35 : decode cX3_copy 35 = .ok (.aload_n 0, 1) := by decide +kernel
theorem dX3_copy_36 : decode cX3_copy 36 = .ok (.getfield 18, 3) := by decide +kernel
theorem dX3_copy_39 : decode cX3_copy 39 = .ok (.iconst 0, 1) := by decide +kernel
theorem dX3_copy_40 : decode cX3_copy 40 = .ok (.bipush 24, 2) := by decide +kernel
theorem dX3_copy_42 : decode cX3_copy 42 = .ok (.invokestatic 28, 3) := by decide +kernel
theorem dX3_copy_45 : decode cX3_copy 45 = .ok (.aload_n 0, 1) := by decide +kernel
theorem dX3_copy_46 : decode cX3_copy 46 = .ok (.aload_n 1, 1) := by decide +kernel
theorem dX3_copy_47 : decode cX3_copy 47 = .ok (.getfield 21, 3) := by decide +kernel
theorem dX3_copy_50 : decode cX3_copy 50 = .ok (.putfield 21, 3) := by decide +kernel
theorem dX3_copy_53 : decode cX3_copy 53 = .ok (.aload_n 0, 1) := by decide +kernel
theorem dX3_copy_54 : decode cX3_copy 54 = .ok (.aload_n 1, 1) := by decide +kernel
theorem dX3_copy_55 : decode cX3_copy 55 = .ok (.getfield 25, 3) := by decide +kernel
theorem dX3_copy_58 : decode cX3_copy 58 = .ok (.putfield 25, 3) := by decide +kernel
theorem dX3_copy_61 : decode cX3_copy 61 = .ok (.return_, 1) := by decide +kernel
theorem dX3_append_0 : decode cX3_append 0 = .ok (.aload_n 0, 1) := by decide +kernel
theorem dX3_append_1 : decode cX3_append 1 = .ok (.getfield 21, 3) := by decide +kernel
theorem dX3_append_4 : decode cX3_append 4 = .ok (.ifCond .lt 12, 3) := by decide +kernel
theorem dX3_append_7 : decode cX3_append 7 = .ok (.aload_n 0, 1) := by decide +kernel
theorem dX3_append_8 : decode cX3_append 8 = .ok (.getfield 21, 3) := by decide +kernel
theorem dX3_append_11 : decode cX3_append 11 = .ok (.bipush 24, 2) := by decide +kernel
theorem dX3_append_13 : decode cX3_append 13 = .ok (.if_icmp .lt 4, 3) := by decide +kernel
theorem dX3_append_16 : decode cX3_append 16 = .ok (.return_, 1) := by decide +kernel
theorem dX3_append_17 : decode cX3_append 17 = .ok (.aload_n 0, 1) := by decide +kernel
theorem dX3_append_18 : decode cX3_append 18 = .ok (.getfield 9, 3) := by decide +kernel
theorem dX3_append_21 : decode cX3_append 21 = .ok (.aload_n 0, 1) := by decide +kernel
theorem dX3_append_22 : decode cX3_append 22 = .ok (.getfield 21, 3) := by decide +kernel
theorem dX3_append_25 : decode cX3_append 25 = .ok (.iload_n 1, 1) := by decide +kernel
theorem dX3_append_26 : decode cX3_append 26 = .ok (.iastore, 1) := by decide +kernel
theorem dX3_append_27 : decode cX3_append 27 = .ok (.aload_n 0, 1) := by decide +kernel
theorem dX3_append_28 : decode cX3_append 28 = .ok (.getfield 15, 3) := by decide +kernel
theorem dX3_append_31 : decode cX3_append 31 = .ok (.aload_n 0, 1) := by decide +kernel
theorem dX3_append_32 : decode cX3_append 32 = .ok (.getfield 21, 3) := by decide +kernel
theorem dX3_append_35 : decode cX3_append 35 = .ok (.iload_n 1, 1) := by decide +kernel
theorem dX3_append_36 : decode cX3_append 36 = .ok (.iastore, 1) := by decide +kernel
theorem dX3_append_37 : decode cX3_append 37 = .ok (.aload_n 0, 1) := by decide +kernel
theorem dX3_append_38 : decode cX3_append 38 = .ok (.getfield 18, 3) := by decide +kernel
theorem dX3_append_41 : decode cX3_append 41 = .ok (.aload_n 0, 1) := by decide +kernel
theorem dX3_append_42 : decode cX3_append 42 = .ok (.getfield 21, 3) := by decide +kernel
theorem dX3_append_45 : decode cX3_append 45 = .ok (.iload_n 2, 1) := by decide +kernel
theorem dX3_append_46 : decode cX3_append 46 = .ok (.iastore, 1) := by decide +kernel
theorem dX3_append_47 : decode cX3_append 47 = .ok (.aload_n 0, 1) := by decide +kernel
theorem dX3_append_48 : decode cX3_append 48 = .ok (.dup, 1) := by decide +kernel
theorem dX3_append_49 : decode cX3_append 49 = .ok (.getfield 21, 3) := by decide +kernel
theorem dX3_append_52 : decode cX3_append 52 = .ok (.iconst 1, 1) := by decide +kernel
theorem dX3_append_53 : decode cX3_append 53 = .ok (.iadd, 1) := by decide +kernel
theorem dX3_append_54 : decode cX3_append 54 = .ok (.putfield 21, 3) := by decide +kernel
theorem dX3_append_57 : decode cX3_append 57 = .ok (.aload_n 0, 1) := by decide +kernel
theorem dX3_append_58 : decode cX3_append 58 = .ok (.iload_n 3, 1) := by decide +kernel
theorem dX3_append_59 : decode cX3_append 59 = .ok (.putfield 25, 3) := by decide +kernel
theorem dX3_append_62 : decode cX3_append 62 = .ok (.return_, 1) := by decide +kernel
theorem dX3_turn_0 : decode cX3_turn 0 = .ok (.iload_n 1, 1) := by decide +kernel
theorem dX3_turn_1 : decode cX3_turn 1 = .ok (.ifCond .lt 9, 3) := by decide +kernel
theorem dX3_turn_4 : decode cX3_turn 4 = .ok (.iload_n 1, 1) := by decide +kernel
theorem dX3_turn_5 : decode cX3_turn 5 = .ok (.bipush 24, 2) := by decide +kernel
theorem dX3_turn_7 : decode cX3_turn 7 = .ok (.if_icmp .lt 5, 3) := by decide +kernel
theorem dX3_turn_10 : decode cX3_turn 10 = .ok (.iconst (-1), 1) := by decide +kernel
theorem dX3_turn_11 : decode cX3_turn 11 = .ok (.ireturn, 1) := by decide +kernel
theorem dX3_turn_12 : decode cX3_turn 12 = .ok (.aload_n 0, 1) := by decide +kernel
theorem dX3_turn_13 : decode cX3_turn 13 = .ok (.getfield 9, 3) := by decide +kernel
theorem dX3_turn_16 : decode cX3_turn 16 = .ok (.iload_n 1, 1) := by decide +kernel
theorem dX3_turn_17 : decode cX3_turn 17 = .ok (.dup2, 1) := by decide +kernel
theorem dX3_turn_18 : decode cX3_turn 18 = .ok (.iaload, 1) := by decide +kernel
theorem dX3_turn_19 : decode cX3_turn 19 = .ok (.iconst 1, 1) := by decide +kernel
theorem dX3_turn_20 : decode cX3_turn 20 = .ok (.iload_n 2, 1) := by decide +kernel
theorem dX3_turn_21 : decode cX3_turn 21 = .ok (.ishl, 1) := by decide +kernel
theorem dX3_turn_22 : decode cX3_turn 22 = .ok (.ixor, 1) := by decide +kernel
theorem dX3_turn_23 : decode cX3_turn 23 = .ok (.iastore, 1) := by decide +kernel
theorem dX3_turn_24 : decode cX3_turn 24 = .ok (.aload_n 0, 1) := by decide +kernel
theorem dX3_turn_25 : decode cX3_turn 25 = .ok (.getfield 9, 3) := by decide +kernel
theorem dX3_turn_28 : decode cX3_turn 28 = .ok (.iload_n 1, 1) := by decide +kernel
theorem dX3_turn_29 : decode cX3_turn 29 = .ok (.iaload, 1) := by decide +kernel
theorem dX3_turn_30 : decode cX3_turn 30 = .ok (.iload_n 2, 1) := by decide +kernel
theorem dX3_turn_31 : decode cX3_turn 31 = .ok (.ishr, 1) := by decide +kernel
theorem dX3_turn_32 : decode cX3_turn 32 = .ok (.iconst 1, 1) := by decide +kernel
theorem dX3_turn_33 : decode cX3_turn 33 = .ok (.iand, 1) := by decide +kernel
theorem dX3_turn_34 : decode cX3_turn 34 = .ok (.ireturn, 1) := by decide +kernel
theorem dX3_wordAt_0 : decode cX3_wordAt 0 = .ok (.iload_n 1, 1) := by decide +kernel
theorem dX3_wordAt_1 : decode cX3_wordAt 1 = .ok (.ifCond .lt 9, 3) := by decide +kernel
theorem dX3_wordAt_4 : decode cX3_wordAt 4 = .ok (.iload_n 1, 1) := by decide +kernel
theorem dX3_wordAt_5 : decode cX3_wordAt 5 = .ok (.bipush 24, 2) := by decide +kernel
theorem dX3_wordAt_7 : decode cX3_wordAt 7 = .ok (.if_icmp .lt 8, 3) := by decide +kernel
theorem dX3_wordAt_10 : decode cX3_wordAt 10 = .ok (.bipush (-9), 2) := by decide +kernel
theorem dX3_wordAt_12 : decode cX3_wordAt 12 = .ok (.goto 9, 3) := by decide +kernel
theorem dX3_wordAt_15 : decode cX3_wordAt 15 = .ok (.aload_n 0, 1) := by decide +kernel
theorem dX3_wordAt_16 : decode cX3_wordAt 16 = .ok (.getfield 9, 3) := by decide +kernel
theorem dX3_wordAt_19 : decode cX3_wordAt 19 = .ok (.iload_n 1, 1) := by decide +kernel
theorem dX3_wordAt_20 : decode cX3_wordAt 20 = .ok (.iaload, 1) := by decide +kernel
theorem dX3_wordAt_21 : decode cX3_wordAt 21 = .ok (.ireturn, 1) := by decide +kernel
theorem dX3_tagAt_0 : decode cX3_tagAt 0 = .ok (.iload_n 1, 1) := by decide +kernel
theorem dX3_tagAt_1 : decode cX3_tagAt 1 = .ok (.ifCond .lt 9, 3) := by decide +kernel
theorem dX3_tagAt_4 : decode cX3_tagAt 4 = .ok (.iload_n 1, 1) := by decide +kernel
theorem dX3_tagAt_5 : decode cX3_tagAt 5 = .ok (.bipush 24, 2) := by decide +kernel
theorem dX3_tagAt_7 : decode cX3_tagAt 7 = .ok (.if_icmp .lt 8, 3) := by decide +kernel
theorem dX3_tagAt_10 : decode cX3_tagAt 10 = .ok (.bipush (-9), 2) := by decide +kernel
theorem dX3_tagAt_12 : decode cX3_tagAt 12 = .ok (.goto 9, 3) := by decide +kernel
theorem dX3_tagAt_15 : decode cX3_tagAt 15 = .ok (.aload_n 0, 1) := by decide +kernel
theorem dX3_tagAt_16 : decode cX3_tagAt 16 = .ok (.getfield 18, 3) := by decide +kernel
theorem dX3_tagAt_19 : decode cX3_tagAt 19 = .ok (.iload_n 1, 1) := by decide +kernel
theorem dX3_tagAt_20 : decode cX3_tagAt 20 = .ok (.iaload, 1) := by decide +kernel
theorem dX3_tagAt_21 : decode cX3_tagAt 21 = .ok (.ireturn, 1) := by decide +kernel
theorem dX3_turnedBits_0 : decode cX3_turnedBits 0 = .ok (.iconst 0, 1) := by decide +kernel
theorem dX3_turnedBits_1 : decode cX3_turnedBits 1 = .ok (.istore_n 1, 1) := by decide +kernel
theorem dX3_turnedBits_2 : decode cX3_turnedBits 2 = .ok (.iconst 0, 1) := by decide +kernel
theorem dX3_turnedBits_3 : decode cX3_turnedBits 3 = .ok (.istore_n 2, 1) := by decide +kernel
theorem dX3_turnedBits_4 : decode cX3_turnedBits 4 = .ok (.iload_n 2, 1) := by decide +kernel
theorem dX3_turnedBits_5 : decode cX3_turnedBits 5 = .ok (.aload_n 0, 1) := by decide +kernel
theorem dX3_turnedBits_6 : decode cX3_turnedBits 6 = .ok (.getfield 21, 3) := by decide +kernel
theorem dX3_turnedBits_9 : decode cX3_turnedBits 9 = .ok (.if_icmp .ge 34, 3) := by decide +kernel
theorem dX3_turnedBits_12 : decode cX3_turnedBits 12 = .ok (.iload_n 2, 1) := by decide +kernel
theorem dX3_turnedBits_13 : decode cX3_turnedBits 13 = .ok (.bipush 24, 2) := by decide +kernel
theorem dX3_turnedBits_15 : decode cX3_turnedBits 15 = .ok (.if_icmp .ge 28, 3) := by decide +kernel
theorem dX3_turnedBits_18 : decode cX3_turnedBits 18 = .ok (.iload_n 1, 1) := by decide +kernel
theorem dX3_turnedBits_19 : decode cX3_turnedBits 19 = .ok (.aload_n 0, 1) := by decide +kernel
theorem dX3_turnedBits_20 : decode cX3_turnedBits 20 = .ok (.getfield 9, 3) := by decide +kernel
theorem dX3_turnedBits_23 : decode cX3_turnedBits 23 = .ok (.iload_n 2, 1) := by decide +kernel
theorem dX3_turnedBits_24 : decode cX3_turnedBits 24 = .ok (.iaload, 1) := by decide +kernel
theorem dX3_turnedBits_25 : decode cX3_turnedBits 25 = .ok (.aload_n 0, 1) := by decide +kernel
theorem dX3_turnedBits_26 : decode cX3_turnedBits 26 = .ok (.getfield 15, 3) := by decide +kernel
theorem dX3_turnedBits_29 : decode cX3_turnedBits 29 = .ok (.iload_n 2, 1) := by decide +kernel
theorem dX3_turnedBits_30 : decode cX3_turnedBits 30 = .ok (.iaload, 1) := by decide +kernel
theorem dX3_turnedBits_31 : decode cX3_turnedBits 31 = .ok (.ixor, 1) := by decide +kernel
theorem dX3_turnedBits_32 : decode cX3_turnedBits 32 = .ok (.invokestatic 34, 3) := by decide +kernel
theorem dX3_turnedBits_35 : decode cX3_turnedBits 35 = .ok (.iadd, 1) := by decide +kernel
theorem dX3_turnedBits_36 : decode cX3_turnedBits 36 = .ok (.istore_n 1, 1) := by decide +kernel
theorem dX3_turnedBits_37 : decode cX3_turnedBits 37 = .ok (.iinc 2 1, 3) := by decide +kernel
theorem dX3_turnedBits_40 : decode cX3_turnedBits 40 = .ok (.goto (-36), 3) := by decide +kernel
theorem dX3_turnedBits_43 : decode cX3_turnedBits 43 = .ok (.iload_n 1, 1) := by decide +kernel
theorem dX3_turnedBits_44 : decode cX3_turnedBits 44 = .ok (.ireturn, 1) := by decide +kernel
theorem dX4_init_0 : decode cX4_init 0 = .ok (.aload_n 0, 1) := by decide +kernel
theorem dX4_init_1 : decode cX4_init 1 = .ok (.invokespecial 3, 3) := by decide +kernel
theorem dX4_init_4 : decode cX4_init 4 = .ok (.aload_n 0, 1) := by decide +kernel
theorem dX4_init_5 : decode cX4_init 5 = .ok (.bipush 7, 2) := by decide +kernel
theorem dX4_init_7 : decode cX4_init 7 = .ok (.newarray .int, 2) := by decide +kernel
theorem dX4_init_9 : decode cX4_init 9 = .ok (.putfield 9, 3) := by decide +kernel
theorem dX4_init_12 : decode cX4_init 12 = .ok (.aload_n 0, 1) := by decide +kernel
theorem dX4_init_13 : decode cX4_init 13 = .ok (.bipush 7, 2) := by decide +kernel
theorem dX4_init_15 : decode cX4_init 15 = .ok (.newarray .int, 2) := by decide +kernel
theorem dX4_init_17 : decode cX4_init 17 = .ok (.putfield 15, 3) := by decide +kernel
theorem dX4_init_20 : decode cX4_init 20 = .ok (.return_, 1) := by decide +kernel
theorem dX4_at_0 : decode cX4_at 0 = .ok (.iload_n 1, 1) := by decide +kernel
theorem dX4_at_1 : decode cX4_at 1 = .ok (.ifCond .lt 9, 3) := by decide +kernel
theorem dX4_at_4 : decode cX4_at 4 = .ok (.iload_n 1, 1) := by decide +kernel
theorem dX4_at_5 : decode cX4_at 5 = .ok (.bipush 7, 2) := by decide +kernel
theorem dX4_at_7 : decode cX4_at 7 = .ok (.if_icmp .lt 7, 3) := by decide +kernel
theorem dX4_at_10 : decode cX4_at 10 = .ok (.iconst 0, 1) := by decide +kernel
theorem dX4_at_11 : decode cX4_at 11 = .ok (.goto 9, 3) := by decide +kernel
theorem dX4_at_14 : decode cX4_at 14 = .ok (.aload_n 0, 1) := by decide +kernel
theorem dX4_at_15 : decode cX4_at 15 = .ok (.getfield 9, 3) := by decide +kernel
theorem dX4_at_18 : decode cX4_at 18 = .ok (.iload_n 1, 1) := by decide +kernel
theorem dX4_at_19 : decode cX4_at 19 = .ok (.iaload, 1) := by decide +kernel
theorem dX4_at_20 : decode cX4_at 20 = .ok (.ireturn, 1) := by decide +kernel
theorem dX4_countRows_0 : decode cX4_countRows 0 = .ok (.aload_n 0, 1) := by decide +kernel
theorem dX4_countRows_1 : decode cX4_countRows 1 = .ok (.bipush 7, 2) := by decide +kernel
theorem dX4_countRows_3 : decode cX4_countRows 3 = .ok (.iconst 0, 1) := by decide +kernel
theorem dX4_countRows_4 : decode cX4_countRows 4 = .ok (.invokevirtual 18, 3) := by decide +kernel
theorem dX4_countRows_7 : decode cX4_countRows 7 = .ok (.aload_n 1, 1) := by decide +kernel
theorem dX4_countRows_8 : decode cX4_countRows 8 = .ok (.invokevirtual 22, 3) := by decide +kernel
theorem dX4_countRows_11 : decode cX4_countRows 11 = .ok (.istore_n 3, 1) := by decide +kernel
theorem dX4_countRows_12 : decode cX4_countRows 12 = .ok (.iload_n 3, 1) := by decide +kernel
theorem dX4_countRows_13 : decode cX4_countRows 13 = .ok (.ifCond .lt 16, 3) := by decide +kernel
theorem dX4_countRows_16 : decode cX4_countRows 16 = .ok (.iload_n 3, 1) := by decide +kernel
theorem dX4_countRows_17 : decode cX4_countRows 17 = .ok (.bipush 7, 2) := by decide +kernel
theorem dX4_countRows_19 : decode cX4_countRows 19 = .ok (.if_icmp .ge 10, 3) := by decide +kernel
theorem dX4_countRows_22 : decode cX4_countRows 22 = .ok (.aload_n 0, 1) := by decide +kernel
theorem dX4_countRows_23 : decode cX4_countRows 23 = .ok (.getfield 9, 3) := by decide +kernel
theorem dX4_countRows_26 : decode cX4_countRows 26 = .ok (.iload_n 3, 1) := by decide +kernel
theorem dX4_countRows_27 : decode cX4_countRows 27 = .ok (.iconst 1, 1) := by decide +kernel
theorem dX4_countRows_28 : decode cX4_countRows 28 = .ok (.iastore, 1) := by decide +kernel
theorem dX4_countRows_29 : decode cX4_countRows 29 = .ok (.iconst 0, 1) := by decide +kernel
theorem dX4_countRows_30 : decode cX4_countRows 30 = .ok (.istore 4, 2) := by decide +kernel
theorem dX4_countRows_32 : decode cX4_countRows 32 = .ok (.iload 4, 2) := by decide +kernel
theorem dX4_countRows_34 : decode cX4_countRows 34 = .ok (.iload_n 2, 1) := by decide +kernel
theorem dX4_countRows_35 : decode cX4_countRows 35 = .ok (.if_icmp .ge 14, 3) := by decide +kernel
theorem dX4_countRows_38 : decode cX4_countRows 38 = .ok (.aload_n 0, 1) := by decide +kernel
theorem dX4_countRows_39 : decode cX4_countRows 39 = .ok (.aload_n 1, 1) := by decide +kernel
theorem dX4_countRows_40 : decode cX4_countRows 40 = .ok (.invokevirtual 28, 3) := by decide +kernel
theorem dX4_countRows_43 : decode cX4_countRows 43 = .ok (.iinc 4 1, 3) := by decide +kernel
theorem dX4_countRows_46 : decode cX4_countRows 46 = .ok (.goto (-14), 3) := by decide +kernel
theorem dX4_countRows_49 : decode cX4_countRows 49 = .ok (.aload_n 0, 1) := by decide +kernel
theorem dX4_countRows_50 : decode cX4_countRows 50 = .ok (.invokevirtual 32, 3) := by decide +kernel
theorem dX4_countRows_53 : decode cX4_countRows 53 = .ok (.ireturn, 1) := by decide +kernel
theorem dX4_settle_0 : decode cX4_settle 0 = .ok (.aload_n 0, 1) := by decide +kernel
theorem dX4_settle_1 : decode cX4_settle 1 = .ok (.aload_n 1, 1) := by decide +kernel
theorem dX4_settle_2 : decode cX4_settle 2 = .ok (.getfield 35, 3) := by decide +kernel
theorem dX4_settle_5 : decode cX4_settle 5 = .ok (.iload_n 3, 1) := by decide +kernel
theorem dX4_settle_6 : decode cX4_settle 6 = .ok (.invokevirtual 18, 3) := by decide +kernel
theorem dX4_settle_9 : decode cX4_settle 9 = .ok (.iconst 1, 1) := by decide +kernel
theorem dX4_settle_10 : decode cX4_settle 10 = .ok (.istore 4, 2) := by decide +kernel
theorem dX4_settle_12 : decode cX4_settle 12 = .ok (.iconst 0, 1) := by decide +kernel
theorem dX4_settle_13 : decode cX4_settle 13 = .ok (.istore 5, 2) := by decide +kernel
theorem dX4_settle_15 : decode cX4_settle 15 = .ok (.iload 5, 2) := by decide +kernel
theorem dX4_settle_17 : decode cX4_settle 17 = .ok (.bipush 100, 2) := by decide +kernel
theorem dX4_settle_19 : decode cX4_settle 19 = .ok (.if_icmp .ge 22, 3) := by decide +kernel
theorem dX4_settle_22 : decode cX4_settle 22 = .ok (.iload 4, 2) := by decide +kernel
theorem dX4_settle_24 : decode cX4_settle 24 = .ok (.ifCond .eq 17, 3) := by decide +kernel
theorem dX4_settle_27 : decode cX4_settle 27 = .ok (.aload_n 0, 1) := by decide +kernel
theorem dX4_settle_28 : decode cX4_settle 28 = .ok (.aload_n 1, 1) := by decide +kernel
theorem dX4_settle_29 : decode cX4_settle 29 = .ok (.iload_n 2, 1) := by decide +kernel
theorem dX4_settle_30 : decode cX4_settle 30 = .ok (.invokevirtual 41, 3) := by decide +kernel
theorem dX4_settle_33 : decode cX4_settle 33 = .ok (.istore 4, 2) := by decide +kernel
theorem dX4_settle_35 : decode cX4_settle 35 = .ok (.iinc 5 1, 3) := by decide +kernel
theorem dX4_settle_38 : decode cX4_settle 38 = .ok (.goto (-23), 3) := by decide +kernel
theorem dX4_settle_41 : decode cX4_settle 41 = .ok (.return_, 1) := by decide +kernel
theorem dX4_shareOf_0 : decode cX4_shareOf 0 = .ok (.aload_n 0, 1) := by decide +kernel
theorem dX4_shareOf_1 : decode cX4_shareOf 1 = .ok (.invokevirtual 32, 3) := by decide +kernel
theorem dX4_shareOf_4 : decode cX4_shareOf 4 = .ok (.istore_n 2, 1) := by decide +kernel
theorem dX4_shareOf_5 : decode cX4_shareOf 5 = .ok (.iload_n 2, 1) := by decide +kernel
theorem dX4_shareOf_6 : decode cX4_shareOf 6 = .ok (.ifCond .ne 7, 3) := by decide +kernel
theorem dX4_shareOf_9 : decode cX4_shareOf 9 = .ok (.iconst 0, 1) := by decide +kernel
theorem dX4_shareOf_10 : decode cX4_shareOf 10 = .ok (.goto 14, 3) := by decide +kernel
theorem dX4_shareOf_13 : decode cX4_shareOf 13 = .ok (.sipush 1000, 3) := by decide +kernel
theorem dX4_shareOf_16 : decode cX4_shareOf 16 = .ok (.aload_n 0, 1) := by decide +kernel
theorem dX4_shareOf_17 : decode cX4_shareOf 17 = .ok (.iload_n 1, 1) := by decide +kernel
theorem dX4_shareOf_18 : decode cX4_shareOf 18 = .ok (.invokevirtual 45, 3) := by decide +kernel
theorem dX4_shareOf_21 : decode cX4_shareOf 21 = .ok (.imul, 1) := by decide +kernel
theorem dX4_shareOf_22 : decode cX4_shareOf 22 = .ok (.iload_n 2, 1) := by decide +kernel
theorem dX4_shareOf_23 : decode cX4_shareOf 23 = .ok (.idiv, 1) := by decide +kernel
theorem dX4_shareOf_24 : decode cX4_shareOf 24 = .ok (.ireturn, 1) := by decide +kernel
theorem dX4_setAll_0 : decode cX4_setAll 0 = .ok (.iconst 0, 1) := by decide +kernel
theorem dX4_setAll_1 : decode cX4_setAll 1 = .ok (.istore_n 3, 1) := by decide +kernel
theorem dX4_setAll_2 : decode cX4_setAll 2 = .ok (.iload_n 3, 1) := by decide +kernel
theorem dX4_setAll_3 : decode cX4_setAll 3 = .ok (.bipush 7, 2) := by decide +kernel
theorem dX4_setAll_5 : decode cX4_setAll 5 = .ok (.if_icmp .ge 25, 3) := by decide +kernel
theorem dX4_setAll_8 : decode cX4_setAll 8 = .ok (.aload_n 0, 1) := by decide +kernel
theorem dX4_setAll_9 : decode cX4_setAll 9 = .ok (.getfield 9, 3) := by decide +kernel
theorem dX4_setAll_12 : decode cX4_setAll 12 = .ok (.iload_n 3, 1) := by decide +kernel
theorem dX4_setAll_13 : decode cX4_setAll 13 = .ok (.iload_n 3, 1) := by decide +kernel
theorem dX4_setAll_14 : decode cX4_setAll 14 = .ok (.iload_n 1, 1) := by decide +kernel
theorem dX4_setAll_15 : decode cX4_setAll 15 = .ok (.if_icmp .ge 7, 3) := by decide +kernel
theorem dX4_setAll_18 : decode cX4_setAll 18 = .ok (.iload_n 2, 1) := by decide +kernel
theorem dX4_setAll_19 : decode cX4_setAll 19 = .ok (.goto 4, 3) := by decide +kernel
theorem dX4_setAll_22 : decode cX4_setAll 22 = .ok (.iconst 0, 1) := by decide +kernel
theorem dX4_setAll_23 : decode cX4_setAll 23 = .ok (.iastore, 1) := by decide +kernel
theorem dX4_setAll_24 : decode cX4_setAll 24 = .ok (.iinc 3 1, 3) := by decide +kernel
theorem dX4_setAll_27 : decode cX4_setAll 27 = .ok (.goto (-25), 3) := by decide +kernel
theorem dX4_setAll_30 : decode cX4_setAll 30 = .ok (.return_, 1) := by decide +kernel
theorem dX4_total_0 : decode cX4_total 0 = .ok (.iconst 0, 1) := by decide +kernel
theorem dX4_total_1 : decode cX4_total 1 = .ok (.istore_n 1, 1) := by decide +kernel
theorem dX4_total_2 : decode cX4_total 2 = .ok (.iconst 0, 1) := by decide +kernel
theorem dX4_total_3 : decode cX4_total 3 = .ok (.istore_n 2, 1) := by decide +kernel
theorem dX4_total_4 : decode cX4_total 4 = .ok (.iload_n 2, 1) := by decide +kernel
theorem dX4_total_5 : decode cX4_total 5 = .ok (.bipush 7, 2) := by decide +kernel
theorem dX4_total_7 : decode cX4_total 7 = .ok (.if_icmp .ge 18, 3) := by decide +kernel
theorem dX4_total_10 : decode cX4_total 10 = .ok (.iload_n 1, 1) := by decide +kernel
theorem dX4_total_11 : decode cX4_total 11 = .ok (.aload_n 0, 1) := by decide +kernel
theorem dX4_total_12 : decode cX4_total 12 = .ok (.getfield 9, 3) := by decide +kernel
theorem dX4_total_15 : decode cX4_total 15 = .ok (.iload_n 2, 1) := by decide +kernel
theorem dX4_total_16 : decode cX4_total 16 = .ok (.iaload, 1) := by decide +kernel
theorem dX4_total_17 : decode cX4_total 17 = .ok (.iadd, 1) := by decide +kernel
theorem dX4_total_18 : decode cX4_total 18 = .ok (.istore_n 1, 1) := by decide +kernel
theorem dX4_total_19 : decode cX4_total 19 = .ok (.iinc 2 1, 3) := by decide +kernel
theorem dX4_total_22 : decode cX4_total 22 = .ok (.goto (-18), 3) := by decide +kernel
theorem dX4_total_25 : decode cX4_total 25 = .ok (.iload_n 1, 1) := by decide +kernel
theorem dX4_total_26 : decode cX4_total 26 = .ok (.ireturn, 1) := by decide +kernel
theorem dX4_lengthenRows_0 : decode cX4_lengthenRows 0 = .ok (.iconst 0, 1) := by decide +kernel
theorem dX4_lengthenRows_1 : decode cX4_lengthenRows 1 = .ok (.istore_n 2, 1) := by decide +kernel
theorem dX4_lengthenRows_2 : decode cX4_lengthenRows 2 = .ok (.iload_n 2, 1) := by decide +kernel
theorem dX4_lengthenRows_3 : decode cX4_lengthenRows 3 = .ok (.bipush 7, 2) := by decide +kernel
theorem dX4_lengthenRows_5 : decode cX4_lengthenRows 5 = .ok (.if_icmp .ge 16, 3) := by decide +kernel
theorem dX4_lengthenRows_8 : decode cX4_lengthenRows 8 = .ok (.aload_n 0, 1) := by decide +kernel
theorem dX4_lengthenRows_9 : decode cX4_lengthenRows 9 = .ok (.getfield 15, 3) := by decide +kernel
theorem dX4_lengthenRows_12 : decode cX4_lengthenRows 12 = .ok (.iload_n 2, 1) := by decide +kernel
theorem dX4_lengthenRows_13 : decode cX4_lengthenRows 13 = .ok (.iconst 0, 1) := by decide +kernel
theorem dX4_lengthenRows_14 : decode cX4_lengthenRows 14 = .ok (.iastore, 1) := by decide +kernel
theorem dX4_lengthenRows_15 : decode cX4_lengthenRows 15 = .ok (.iinc 2 1, 3) := by decide +kernel
theorem dX4_lengthenRows_18 : decode cX4_lengthenRows 18 = .ok (.goto (-16), 3) := by decide +kernel
theorem dX4_lengthenRows_21 : decode cX4_lengthenRows 21 = .ok (.iconst 0, 1) := by decide +kernel
theorem dX4_lengthenRows_22 : decode cX4_lengthenRows 22 = .ok (.istore_n 2, 1) := by decide +kernel
theorem dX4_lengthenRows_23 : decode cX4_lengthenRows 23 = .ok (.iload_n 2, 1) := by decide +kernel
theorem dX4_lengthenRows_24 : decode cX4_lengthenRows 24 = .ok (.bipush 7, 2) := by decide +kernel
theorem dX4_lengthenRows_26 : decode cX4_lengthenRows 26 = .ok (.if_icmp .ge 66, 3) := by decide +kernel
theorem dX4_lengthenRows_29 : decode cX4_lengthenRows 29 = .ok (.iload_n 2, 1) := by decide +kernel
theorem dX4_lengthenRows_30 : decode cX4_lengthenRows 30 = .ok (.aload_n 1, 1) := by decide +kernel
theorem dX4_lengthenRows_31 : decode cX4_lengthenRows 31 = .ok (.invokevirtual 49, 3) := by decide +kernel
theorem dX4_lengthenRows_34 : decode cX4_lengthenRows 34 = .ok (.if_icmp .ge 58, 3) := by decide +kernel
theorem dX4_lengthenRows_37 : decode cX4_lengthenRows 37 = .ok (.iconst 0, 1) := by decide +kernel
theorem dX4_lengthenRows_38 : decode cX4_lengthenRows 38 = .ok (.istore_n 3, 1) := by decide +kernel
theorem dX4_lengthenRows_39 : decode cX4_lengthenRows 39 = .ok (.iload_n 3, 1) := by decide +kernel
theorem dX4_lengthenRows_40 : decode cX4_lengthenRows 40 = .ok (.iconst 1, 1) := by decide +kernel
theorem dX4_lengthenRows_41 : decode cX4_lengthenRows 41 = .ok (.if_icmp .gt 45, 3) := by decide +kernel
theorem dX4_lengthenRows_44 : decode cX4_lengthenRows 44 = .ok (.aload_n 1, 1) := by decide +kernel
theorem dX4_lengthenRows_45 : decode cX4_lengthenRows 45 = .ok (.iload_n 2, 1) := by decide +kernel
theorem dX4_lengthenRows_46 : decode cX4_lengthenRows 46 = .ok (.iload_n 3, 1) := by decide +kernel
theorem dX4_lengthenRows_47 : decode cX4_lengthenRows 47 = .ok (.invokevirtual 52, 3) := by decide +kernel
theorem dX4_lengthenRows_50 : decode cX4_lengthenRows 50 = .ok (.istore 4, 2) := by decide +kernel
theorem dX4_lengthenRows_52 : decode cX4_lengthenRows 52 = .ok (.iload 4, 2) := by decide +kernel
theorem dX4_lengthenRows_54 : decode cX4_lengthenRows 54 = .ok (.ifCond .lt 26, 3) := by decide +kernel
theorem dX4_lengthenRows_57 : decode cX4_lengthenRows 57 = .ok (.iload 4, 2) := by decide +kernel
theorem dX4_lengthenRows_59 : decode cX4_lengthenRows 59 = .ok (.bipush 7, 2) := by decide +kernel
theorem dX4_lengthenRows_61 : decode cX4_lengthenRows 61 = .ok (.if_icmp .ge 19, 3) := by decide +kernel
theorem dX4_lengthenRows_64 : decode cX4_lengthenRows 64 = .ok (.aload_n 0, 1) := by decide +kernel
theorem dX4_lengthenRows_65 : decode cX4_lengthenRows 65 = .ok (.getfield 15, 3) := by decide +kernel
theorem dX4_lengthenRows_68 : decode cX4_lengthenRows 68 = .ok (.iload 4, 2) := by decide +kernel
theorem dX4_lengthenRows_70 : decode cX4_lengthenRows 70 = .ok (.dup2, 1) := by decide +kernel
theorem dX4_lengthenRows_71 : decode cX4_lengthenRows 71 = .ok (.iaload, 1) := by decide +kernel
theorem dX4_lengthenRows_72 : decode cX4_lengthenRows 72 = .ok (.aload_n 0, 1) := by decide +kernel
theorem dX4_lengthenRows_73 : decode cX4_lengthenRows 73 = .ok (.getfield 9, 3) := by decide +kernel
theorem dX4_lengthenRows_76 : decode cX4_lengthenRows 76 = .ok (.iload_n 2, 1) := by decide +kernel
theorem dX4_lengthenRows_77 : decode cX4_lengthenRows 77 = .ok (.iaload, 1) := by decide +kernel
theorem dX4_lengthenRows_78 : decode cX4_lengthenRows 78 = .ok (.iadd, 1) := by decide +kernel
theorem dX4_lengthenRows_79 : decode cX4_lengthenRows 79 = .ok (.iastore, 1) := by decide +kernel
theorem dX4_lengthenRows_80 : decode cX4_lengthenRows 80 = .ok (.iinc 3 1, 3) := by decide +kernel
theorem dX4_lengthenRows_83 : decode cX4_lengthenRows 83 = .ok (.goto (-44), 3) := by decide +kernel
theorem dX4_lengthenRows_86 : decode cX4_lengthenRows 86 = .ok (.iinc 2 1, 3) := by decide +kernel
theorem dX4_lengthenRows_89 : decode cX4_lengthenRows 89 = .ok (.goto (-66), 3) := by decide +kernel
theorem dX4_lengthenRows_92 : decode cX4_lengthenRows 92 = .ok (.aload_n 0, 1) := by decide +kernel
theorem dX4_lengthenRows_93 : decode cX4_lengthenRows 93 = .ok (.getfield 15, 3) := by decide +kernel
theorem dX4_lengthenRows_96 : decode cX4_lengthenRows 96 = .ok (.iconst 0, 1) := by decide +kernel
theorem dX4_lengthenRows_97 : decode cX4_lengthenRows 97 = .ok (.aload_n 0, 1) := by decide +kernel
theorem dX4_lengthenRows_98 : decode cX4_lengthenRows 98 = .ok (.getfield 9, 3) := by decide +kernel
theorem dX4_lengthenRows_101 : decode cX4_lengthenRows 101 = .ok (.iconst 0, 1) := by decide +kernel
theorem dX4_lengthenRows_102 : decode cX4_lengthenRows 102 = .ok (.bipush 7, 2) := by decide +kernel
theorem dX4_lengthenRows_104 : decode cX4_lengthenRows 104 = .ok (.invokestatic 56, 3) := by decide +kernel
theorem dX4_lengthenRows_107 : decode cX4_lengthenRows 107 = .ok (.return_, 1) := by decide +kernel
theorem dX4_lessen_0 : decode cX4_lessen 0 = .ok (.iconst 0, 1) := by decide +kernel
theorem dX4_lessen_1 : decode cX4_lessen 1 = .ok (.istore_n 3, 1) := by decide +kernel
theorem dX4_lessen_2 : decode cX4_lessen 2 = .ok (.iconst 0, 1) := by decide +kernel
theorem dX4_lessen_3 : decode cX4_lessen 3 = .ok (.istore 4, 2) := by decide +kernel
theorem dX4_lessen_5 : decode cX4_lessen 5 = .ok (.iload 4, 2) := by decide +kernel
theorem dX4_lessen_7 : decode cX4_lessen 7 = .ok (.bipush 7, 2) := by decide +kernel
theorem dX4_lessen_9 : decode cX4_lessen 9 = .ok (.if_icmp .ge 54, 3) := by decide +kernel
theorem dX4_lessen_12 : decode cX4_lessen 12 = .ok (.aload_n 0, 1) := by decide +kernel
theorem dX4_lessen_13 : decode cX4_lessen 13 = .ok (.getfield 15, 3) := by decide +kernel
theorem dX4_lessen_16 : decode cX4_lessen 16 = .ok (.iload 4, 2) := by decide +kernel
theorem dX4_lessen_18 : decode cX4_lessen 18 = .ok (.aload_n 0, 1) := by decide +kernel
theorem dX4_lessen_19 : decode cX4_lessen 19 = .ok (.getfield 9, 3) := by decide +kernel
theorem dX4_lessen_22 : decode cX4_lessen 22 = .ok (.iload 4, 2) := by decide +kernel
theorem dX4_lessen_24 : decode cX4_lessen 24 = .ok (.iaload, 1) := by decide +kernel
theorem dX4_lessen_25 : decode cX4_lessen 25 = .ok (.aload_n 0, 1) := by decide +kernel
theorem dX4_lessen_26 : decode cX4_lessen 26 = .ok (.aload_n 1, 1) := by decide +kernel
theorem dX4_lessen_27 : decode cX4_lessen 27 = .ok (.iload 4, 2) := by decide +kernel
theorem dX4_lessen_29 : decode cX4_lessen 29 = .ok (.invokevirtual 62, 3) := by decide +kernel
theorem dX4_lessen_32 : decode cX4_lessen 32 = .ok (.iload_n 2, 1) := by decide +kernel
theorem dX4_lessen_33 : decode cX4_lessen 33 = .ok (.ishr, 1) := by decide +kernel
theorem dX4_lessen_34 : decode cX4_lessen 34 = .ok (.invokestatic 66, 3) := by decide +kernel
theorem dX4_lessen_37 : decode cX4_lessen 37 = .ok (.iastore, 1) := by decide +kernel
theorem dX4_lessen_38 : decode cX4_lessen 38 = .ok (.aload_n 0, 1) := by decide +kernel
theorem dX4_lessen_39 : decode cX4_lessen 39 = .ok (.getfield 15, 3) := by decide +kernel
theorem dX4_lessen_42 : decode cX4_lessen 42 = .ok (.iload 4, 2) := by decide +kernel
theorem dX4_lessen_44 : decode cX4_lessen 44 = .ok (.iaload, 1) := by decide +kernel
theorem dX4_lessen_45 : decode cX4_lessen 45 = .ok (.aload_n 0, 1) := by decide +kernel
theorem dX4_lessen_46 : decode cX4_lessen 46 = .ok (.getfield 9, 3) := by decide +kernel
theorem dX4_lessen_49 : decode cX4_lessen 49 = .ok (.iload 4, 2) := by decide +kernel
theorem dX4_lessen_51 : decode cX4_lessen 51 = .ok (.iaload, 1) := by decide +kernel
theorem dX4_lessen_52 : decode cX4_lessen 52 = .ok (.if_icmp .eq 5, 3) := by decide +kernel
theorem dX4_lessen_55 : decode cX4_lessen 55 = .ok (.iconst 1, 1) := by decide +kernel
theorem dX4_lessen_56 : decode cX4_lessen 56 = .ok (.istore_n 3, 1) := by decide +kernel
theorem dX4_lessen_57 : decode cX4_lessen 57 = .ok (.iinc 4 1, 3) := by decide +kernel
theorem dX4_lessen_60 : decode cX4_lessen 60 = .ok (.goto (-55), 3) := by decide +kernel
theorem dX4_lessen_63 : decode cX4_lessen 63 = .ok (.aload_n 0, 1) := by decide +kernel
theorem dX4_lessen_64 : decode cX4_lessen 64 = .ok (.getfield 15, 3) := by decide +kernel
theorem dX4_lessen_67 : decode cX4_lessen 67 = .ok (.iconst 0, 1) := by decide +kernel
theorem dX4_lessen_68 : decode cX4_lessen 68 = .ok (.aload_n 0, 1) := by decide +kernel
theorem dX4_lessen_69 : decode cX4_lessen 69 = .ok (.getfield 9, 3) := by decide +kernel
theorem dX4_lessen_72 : decode cX4_lessen 72 = .ok (.iconst 0, 1) := by decide +kernel
theorem dX4_lessen_73 : decode cX4_lessen 73 = .ok (.bipush 7, 2) := by decide +kernel
theorem dX4_lessen_75 : decode cX4_lessen 75 = .ok (.invokestatic 56, 3) := by decide +kernel
theorem dX4_lessen_78 : decode cX4_lessen 78 = .ok (.iload_n 3, 1) := by decide +kernel
theorem dX4_lessen_79 : decode cX4_lessen 79 = .ok (.ireturn, 1) := by decide +kernel
theorem dX4_sumOver_0 : decode cX4_sumOver 0 = .ok (.iconst 0, 1) := by decide +kernel
theorem dX4_sumOver_1 : decode cX4_sumOver 1 = .ok (.istore_n 3, 1) := by decide +kernel
theorem dX4_sumOver_2 : decode cX4_sumOver 2 = .ok (.iconst 0, 1) := by decide +kernel
theorem dX4_sumOver_3 : decode cX4_sumOver 3 = .ok (.istore 4, 2) := by decide +kernel
theorem dX4_sumOver_5 : decode cX4_sumOver 5 = .ok (.iload 4, 2) := by decide +kernel
theorem dX4_sumOver_7 : decode cX4_sumOver 7 = .ok (.bipush 16, 2) := by decide +kernel
theorem dX4_sumOver_9 : decode cX4_sumOver 9 = .ok (.if_icmp .ge 23, 3) := by decide +kernel
theorem dX4_sumOver_12 : decode cX4_sumOver 12 = .ok (.iload_n 3, 1) := by decide +kernel
theorem dX4_sumOver_13 : decode cX4_sumOver 13 = .ok (.aload_n 0, 1) := by decide +kernel
theorem dX4_sumOver_14 : decode cX4_sumOver 14 = .ok (.aload_n 1, 1) := by decide +kernel
theorem dX4_sumOver_15 : decode cX4_sumOver 15 = .ok (.iload_n 2, 1) := by decide +kernel
theorem dX4_sumOver_16 : decode cX4_sumOver 16 = .ok (.iload 4, 2) := by decide +kernel
theorem dX4_sumOver_18 : decode cX4_sumOver 18 = .ok (.invokevirtual 71, 3) := by decide +kernel
theorem dX4_sumOver_21 : decode cX4_sumOver 21 = .ok (.invokevirtual 45, 3) := by decide +kernel
theorem dX4_sumOver_24 : decode cX4_sumOver 24 = .ok (.iadd, 1) := by decide +kernel
theorem dX4_sumOver_25 : decode cX4_sumOver 25 = .ok (.istore_n 3, 1) := by decide +kernel
theorem dX4_sumOver_26 : decode cX4_sumOver 26 = .ok (.iinc 4 1, 3) := by decide +kernel
theorem dX4_sumOver_29 : decode cX4_sumOver 29 = .ok (.goto (-24), 3) := by decide +kernel
theorem dX4_sumOver_32 : decode cX4_sumOver 32 = .ok (.iload_n 3, 1) := by decide +kernel
theorem dX4_sumOver_33 : decode cX4_sumOver 33 = .ok (.ireturn, 1) := by decide +kernel
theorem dX5_init_0 : decode cX5_init 0 = .ok (.aload_n 0, 1) := by decide +kernel
theorem dX5_init_1 : decode cX5_init 1 = .ok (.invokespecial 3, 3) := by decide +kernel
theorem dX5_init_4 : decode cX5_init 4 = .ok (.aload_n 0, 1) := by decide +kernel
theorem dX5_init_5 : decode cX5_init 5 = .ok (.bipush 60, 2) := by decide +kernel
theorem dX5_init_7 : decode cX5_init 7 = .ok (.newarray .int, 2) := by decide +kernel
theorem dX5_init_9 : decode cX5_init 9 = .ok (.putfield 9, 3) := by decide +kernel
theorem dX5_init_12 : decode cX5_init 12 = .ok (.aload_n 0, 1) := by decide +kernel
theorem dX5_init_13 : decode cX5_init 13 = .ok (.iconst 0, 1) := by decide +kernel
theorem dX5_init_14 : decode cX5_init 14 = .ok (.putfield 15, 3) := by decide +kernel
theorem dX5_init_17 : decode cX5_init 17 = .ok (.return_, 1) := by decide +kernel
theorem dX5_append_0 : decode cX5_append 0 = .ok (.aload_n 0, 1) := by decide +kernel
theorem dX5_append_1 : decode cX5_append 1 = .ok (.getfield 15, 3) := by decide +kernel
theorem dX5_append_4 : decode cX5_append 4 = .ok (.ifCond .lt 32, 3) := by decide +kernel
theorem dX5_append_7 : decode cX5_append 7 = .ok (.aload_n 0, 1) := by decide +kernel
theorem dX5_append_8 : decode cX5_append 8 = .ok (.getfield 15, 3) := by decide +kernel
theorem dX5_append_11 : decode cX5_append 11 = .ok (.bipush 60, 2) := by decide +kernel
theorem dX5_append_13 : decode cX5_append 13 = .ok (.if_icmp .ge 23, 3) := by decide +kernel
theorem dX5_append_16 : decode cX5_append 16 = .ok (.aload_n 0, 1) := by decide +kernel
theorem dX5_append_17 : decode cX5_append 17 = .ok (.getfield 9, 3) := by decide +kernel
theorem dX5_append_20 : decode cX5_append 20 = .ok (.aload_n 0, 1) := by decide +kernel
theorem dX5_append_21 : decode cX5_append 21 = .ok (.getfield 15, 3) := by decide +kernel
theorem dX5_append_24 : decode cX5_append 24 = .ok (.iload_n 1, 1) := by decide +kernel
theorem dX5_append_25 : decode cX5_append 25 = .ok (.iastore, 1) := by decide +kernel
theorem dX5_append_26 : decode cX5_append 26 = .ok (.aload_n 0, 1) := by decide +kernel
theorem dX5_append_27 : decode cX5_append 27 = .ok (.dup, 1) := by decide +kernel
theorem dX5_append_28 : decode cX5_append 28 = .ok (.getfield 15, 3) := by decide +kernel
theorem dX5_append_31 : decode cX5_append 31 = .ok (.iconst 1, 1) := by decide +kernel
theorem dX5_append_32 : decode cX5_append 32 = .ok (.iadd, 1) := by decide +kernel
theorem dX5_append_33 : decode cX5_append 33 = .ok (.putfield 15, 3) := by decide +kernel
theorem dX5_append_36 : decode cX5_append 36 = .ok (.return_, 1) := by decide +kernel
theorem dX5_readTo_0 : decode cX5_readTo 0 = .ok (.aload_n 1, 1) := by decide +kernel
theorem dX5_readTo_1 : decode cX5_readTo 1 = .ok (.invokevirtual 19, 3) := by decide +kernel
theorem dX5_readTo_4 : decode cX5_readTo 4 = .ok (.aload_n 0, 1) := by decide +kernel
theorem dX5_readTo_5 : decode cX5_readTo 5 = .ok (.iconst 0, 1) := by decide +kernel
theorem dX5_readTo_6 : decode cX5_readTo 6 = .ok (.putfield 24, 3) := by decide +kernel
theorem dX5_readTo_9 : decode cX5_readTo 9 = .ok (.aload_n 0, 1) := by decide +kernel
theorem dX5_readTo_10 : decode cX5_readTo 10 = .ok (.iconst 0, 1) := by decide +kernel
theorem dX5_readTo_11 : decode cX5_readTo 11 = .ok (.putfield 27, 3) := by decide +kernel
theorem dX5_readTo_14 : decode cX5_readTo 14 = .ok (.aload_n 0, 1) := by decide +kernel
theorem dX5_readTo_15 : decode cX5_readTo 15 = .ok (.iconst 0, 1) := by decide +kernel
theorem dX5_readTo_16 : decode cX5_readTo 16 = .ok (.putfield 31, 3) := by decide +kernel
theorem dX5_readTo_19 : decode cX5_readTo 19 = .ok (.iconst 0, 1) := by decide +kernel
theorem dX5_readTo_20 : decode cX5_readTo 20 = .ok (.istore_n 2, 1) := by decide +kernel
theorem dX5_readTo_21 : decode cX5_readTo 21 = .ok (.iload_n 2, 1) := by decide +kernel
theorem dX5_readTo_22 : decode cX5_readTo 22 = .ok (.aload_n 0, 1) := by decide +kernel
theorem dX5_readTo_23 : decode cX5_readTo 23 = .ok (.getfield 15, 3) := by decide +kernel
theorem dX5_readTo_26 : decode cX5_readTo 26 = .ok (.if_icmp .ge 28, 3) := by decide +kernel
theorem dX5_readTo_29 : decode cX5_readTo 29 = .ok (.aload_n 0, 1) := by decide +kernel
theorem dX5_readTo_30 : decode cX5_readTo 30 = .ok (.iload_n 2, 1) := by decide +kernel
theorem dX5_readTo_31 : decode cX5_readTo 31 = .ok (.invokevirtual 34, 3) := by decide +kernel
theorem dX5_readTo_34 : decode cX5_readTo 34 = .ok (.ifCond .eq 14, 3) := by decide +kernel
theorem dX5_readTo_37 : decode cX5_readTo 37 = .ok (.aload_n 0, 1) := by decide +kernel
theorem dX5_readTo_38 : decode cX5_readTo 38 = .ok (.iload_n 2, 1) := by decide +kernel
theorem dX5_readTo_39 : decode cX5_readTo 39 = .ok (.aload_n 1, 1) := by decide +kernel
theorem dX5_readTo_40 : decode cX5_readTo 40 = .ok (.invokevirtual 38, 3) := by decide +kernel
theorem dX5_readTo_43 : decode cX5_readTo 43 = .ok (.ifCond .ne 5, 3) := by decide +kernel
theorem dX5_readTo_46 : decode cX5_readTo 46 = .ok (.iload_n 2, 1) := by decide +kernel
theorem dX5_readTo_47 : decode cX5_readTo 47 = .ok (.ireturn, 1) := by decide +kernel
theorem dX5_readTo_48 : decode cX5_readTo 48 = .ok (.iinc 2 1, 3) := by decide +kernel
theorem dX5_readTo_51 : decode cX5_readTo 51 = .ok (.goto (-30), 3) := by decide +kernel
theorem dX5_readTo_54 : decode cX5_readTo 54 = .ok (.aload_n 0, 1) := by decide +kernel
theorem dX5_readTo_55 : decode cX5_readTo 55 = .ok (.getfield 24, 3) := by decide +kernel
theorem dX5_readTo_58 : decode cX5_readTo 58 = .ok (.bipush 8, 2) := by decide +kernel
theorem dX5_readTo_60 : decode cX5_readTo 60 = .ok (.if_icmp .ne 7, 3) := by decide +kernel
theorem dX5_readTo_63 : decode cX5_readTo 63 = .ok (.iconst (-1), 1) := by decide +kernel
theorem dX5_readTo_64 : decode cX5_readTo 64 = .ok (.goto 7, 3) := by decide +kernel
theorem dX5_readTo_67 : decode cX5_readTo 67 = .ok (.aload_n 0, 1) := by decide +kernel
theorem dX5_readTo_68 : decode cX5_readTo 68 = .ok (.getfield 15, 3) := by decide +kernel
theorem dX5_readTo_71 : decode cX5_readTo 71 = .ok (.ireturn, 1) := by decide +kernel
theorem dX5_letterAt_0 : decode cX5_letterAt 0 = .ok (.iload_n 1, 1) := by decide +kernel
theorem dX5_letterAt_1 : decode cX5_letterAt 1 = .ok (.ifCond .lt 17, 3) := by decide +kernel
theorem dX5_letterAt_4 : decode cX5_letterAt 4 = .ok (.iload_n 1, 1) := by decide +kernel
theorem dX5_letterAt_5 : decode cX5_letterAt 5 = .ok (.aload_n 0, 1) := by decide +kernel
theorem dX5_letterAt_6 : decode cX5_letterAt 6 = .ok (.getfield 15, 3) := by decide +kernel
theorem dX5_letterAt_9 : decode cX5_letterAt 9 = .ok (.if_icmp .ge 9, 3) := by decide +kernel
theorem dX5_letterAt_12 : decode cX5_letterAt 12 = .ok (.iload_n 1, 1) := by decide +kernel
theorem dX5_letterAt_13 : decode cX5_letterAt 13 = .ok (.bipush 60, 2) := by decide +kernel
theorem dX5_letterAt_15 : decode cX5_letterAt 15 = .ok (.if_icmp .lt 8, 3) := by decide +kernel
theorem dX5_letterAt_18 : decode cX5_letterAt 18 = .ok (.bipush 32, 2) := by decide +kernel
theorem dX5_letterAt_20 : decode cX5_letterAt 20 = .ok (.goto 9, 3) := by decide +kernel
theorem dX5_letterAt_23 : decode cX5_letterAt 23 = .ok (.aload_n 0, 1) := by decide +kernel
theorem dX5_letterAt_24 : decode cX5_letterAt 24 = .ok (.getfield 9, 3) := by decide +kernel
theorem dX5_letterAt_27 : decode cX5_letterAt 27 = .ok (.iload_n 1, 1) := by decide +kernel
theorem dX5_letterAt_28 : decode cX5_letterAt 28 = .ok (.iaload, 1) := by decide +kernel
theorem dX5_letterAt_29 : decode cX5_letterAt 29 = .ok (.ireturn, 1) := by decide +kernel
theorem dX5_isFigure_0 : decode cX5_isFigure 0 = .ok (.aload_n 0, 1) := by decide +kernel
theorem dX5_isFigure_1 : decode cX5_isFigure 1 = .ok (.iload_n 1, 1) := by decide +kernel
theorem dX5_isFigure_2 : decode cX5_isFigure 2 = .ok (.invokevirtual 42, 3) := by decide +kernel
theorem dX5_isFigure_5 : decode cX5_isFigure 5 = .ok (.istore_n 2, 1) := by decide +kernel
theorem dX5_isFigure_6 : decode cX5_isFigure 6 = .ok (.iload_n 2, 1) := by decide +kernel
theorem dX5_isFigure_7 : decode cX5_isFigure 7 = .ok (.bipush 48, 2) := by decide +kernel
theorem dX5_isFigure_9 : decode cX5_isFigure 9 = .ok (.if_icmp .lt 13, 3) := by decide +kernel
theorem dX5_isFigure_12 : decode cX5_isFigure 12 = .ok (.iload_n 2, 1) := by decide +kernel
theorem dX5_isFigure_13 : decode cX5_isFigure 13 = .ok (.bipush 57, 2) := by decide +kernel
theorem dX5_isFigure_15 : decode cX5_isFigure 15 = .ok (.if_icmp .gt 7, 3) := by decide +kernel
theorem dX5_isFigure_18 : decode cX5_isFigure 18 = .ok (.iconst 1, 1) := by decide +kernel
theorem dX5_isFigure_19 : decode cX5_isFigure 19 = .ok (.goto 4, 3) := by decide +kernel
theorem dX5_isFigure_22 : decode cX5_isFigure 22 = .ok (.iconst 0, 1) := by decide +kernel
theorem dX5_isFigure_23 : decode cX5_isFigure 23 = .ok (.ireturn, 1) := by decide +kernel
theorem dX5_isTokenStart_0 : decode cX5_isTokenStart 0 = .ok (.aload_n 0, 1) := by decide +kernel
theorem dX5_isTokenStart_1 : decode cX5_isTokenStart 1 = .ok (.iload_n 1, 1) := by decide +kernel
theorem dX5_isTokenStart_2 : decode cX5_isTokenStart 2 = .ok (.invokevirtual 42, 3) := by decide +kernel
theorem dX5_isTokenStart_5 : decode cX5_isTokenStart 5 = .ok (.bipush 32, 2) := by decide +kernel
theorem dX5_isTokenStart_7 : decode cX5_isTokenStart 7 = .ok (.if_icmp .eq 25, 3) := by decide +kernel
theorem dX5_isTokenStart_10 : decode cX5_isTokenStart 10 = .ok (.aload_n 0, 1) := by decide +kernel
theorem dX5_isTokenStart_11 : decode cX5_isTokenStart 11 = .ok (.iload_n 1, 1) := by decide +kernel
theorem dX5_isTokenStart_12 : decode cX5_isTokenStart 12 = .ok (.invokevirtual 46, 3) := by decide +kernel
theorem dX5_isTokenStart_15 : decode cX5_isTokenStart 15 = .ok (.ifCond .eq 13, 3) := by decide +kernel
theorem dX5_isTokenStart_18 : decode cX5_isTokenStart 18 = .ok (.aload_n 0, 1) := by decide +kernel
theorem dX5_isTokenStart_19 : decode cX5_isTokenStart 19 = .ok (.iload_n 1, 1) := by decide +kernel
theorem dX5_isTokenStart_20 : decode cX5_isTokenStart 20 = .ok (.iconst 1, 1) := by decide +kernel
theorem dX5_isTokenStart_21 : decode cX5_isTokenStart 21 = .ok (.isub, 1) := by decide +kernel
theorem dX5_isTokenStart_22 : decode cX5_isTokenStart 22 = .ok (.invokevirtual 46, 3) := by decide +kernel
theorem dX5_isTokenStart_25 : decode cX5_isTokenStart 25 = .ok (.ifCond .ne 7, 3) := by decide +kernel
theorem dX5_isTokenStart_28 : decode cX5_isTokenStart 28 = .ok (.iconst 1, 1) := by decide +kernel
theorem dX5_isTokenStart_29 : decode cX5_isTokenStart 29 = .ok (.goto 4, 3) := by decide +kernel
theorem dX5_isTokenStart_32 : decode cX5_isTokenStart 32 = .ok (.iconst 0, 1) := by decide +kernel
theorem dX5_isTokenStart_33 : decode cX5_isTokenStart 33 = .ok (.ireturn, 1) := by decide +kernel
theorem dX5_tokenLength_0 : decode cX5_tokenLength 0 = .ok (.iconst 1, 1) := by decide +kernel
theorem dX5_tokenLength_1 : decode cX5_tokenLength 1 = .ok (.istore_n 2, 1) := by decide +kernel
theorem dX5_tokenLength_2 : decode cX5_tokenLength 2 = .ok (.iload_n 2, 1) := by decide +kernel
theorem dX5_tokenLength_3 : decode cX5_tokenLength 3 = .ok (.bipush 60, 2) := by decide +kernel
theorem dX5_tokenLength_5 : decode cX5_tokenLength 5 = .ok (.if_icmp .ge 27, 3) := by decide +kernel
theorem dX5_tokenLength_8 : decode cX5_tokenLength 8 = .ok (.aload_n 0, 1) := by decide +kernel
theorem dX5_tokenLength_9 : decode cX5_tokenLength 9 = .ok (.iload_n 1, 1) := by decide +kernel
theorem dX5_tokenLength_10 : decode cX5_tokenLength 10 = .ok (.invokevirtual 46, 3) := by decide +kernel
theorem dX5_tokenLength_13 : decode cX5_tokenLength 13 = .ok (.ifCond .eq 19, 3) := by decide +kernel
theorem dX5_tokenLength_16 : decode cX5_tokenLength 16 = .ok (.aload_n 0, 1) := by decide +kernel
theorem dX5_tokenLength_17 : decode cX5_tokenLength 17 = .ok (.iload_n 1, 1) := by decide +kernel
theorem dX5_tokenLength_18 : decode cX5_tokenLength 18 = .ok (.iload_n 2, 1) := by decide +kernel
theorem dX5_tokenLength_19 : decode cX5_tokenLength 19 = .ok (.iadd, 1) := by decide +kernel
theorem dX5_tokenLength_20 : decode cX5_tokenLength 20 = .ok (.invokevirtual 46, 3) := by decide +kernel
theorem dX5_tokenLength_23 : decode cX5_tokenLength 23 = .ok (.ifCond .eq 9, 3) := by decide +kernel
theorem dX5_tokenLength_26 : decode cX5_tokenLength 26 = .ok (.iinc 2 1, 3) := by decide +kernel
theorem dX5_tokenLength_29 : decode cX5_tokenLength 29 = .ok (.goto (-27), 3) := by decide +kernel
theorem dX5_tokenLength_32 : decode cX5_tokenLength 32 = .ok (.iload_n 2, 1) := by decide +kernel
theorem dX5_tokenLength_33 : decode cX5_tokenLength 33 = .ok (.ireturn, 1) := by decide +kernel
theorem dX5_takes_0 : decode cX5_takes 0 = .ok (.aload_n 0, 1) := by decide +kernel
theorem dX5_takes_1 : decode cX5_takes 1 = .ok (.getfield 24, 3) := by decide +kernel
theorem dX5_takes_4 : decode cX5_takes 4 = .ok (.tableswitch 284 0 7 #[48, 59, 89, 127, 158, 200, 231, 262], 48) := by decide +kernel
theorem dX5_takes_52 : decode cX5_takes 52 = .ok (.aload_n 0, 1) := by decide +kernel
theorem dX5_takes_53 : decode cX5_takes 53 = .ok (.aload_n 0, 1) := by decide +kernel
theorem dX5_takes_54 : decode cX5_takes 54 = .ok (.iload_n 1, 1) := by decide +kernel
theorem dX5_takes_55 : decode cX5_takes 55 = .ok (.invokevirtual 42, 3) := by decide +kernel
theorem dX5_takes_58 : decode cX5_takes 58 = .ok (.aload_n 2, 1) := by decide +kernel
theorem dX5_takes_59 : decode cX5_takes 59 = .ok (.invokevirtual 49, 3) := by decide +kernel
theorem dX5_takes_62 : decode cX5_takes 62 = .ok (.ireturn, 1) := by decide +kernel
theorem dX5_takes_63 : decode cX5_takes 63 = .ok (.aload_n 2, 1) := by decide +kernel
theorem dX5_takes_64 : decode cX5_takes 64 = .ok (.aload_n 0, 1) := by decide +kernel
theorem dX5_takes_65 : decode cX5_takes 65 = .ok (.iload_n 1, 1) := by decide +kernel
theorem dX5_takes_66 : decode cX5_takes 66 = .ok (.iconst 0, 1) := by decide +kernel
theorem dX5_takes_67 : decode cX5_takes 67 = .ok (.iconst 3, 1) := by decide +kernel
theorem dX5_takes_68 : decode cX5_takes 68 = .ok (.invokevirtual 52, 3) := by decide +kernel
theorem dX5_takes_71 : decode cX5_takes 71 = .ok (.putfield 56, 3) := by decide +kernel
theorem dX5_takes_74 : decode cX5_takes 74 = .ok (.aload_n 0, 1) := by decide +kernel
theorem dX5_takes_75 : decode cX5_takes 75 = .ok (.iconst 2, 1) := by decide +kernel
theorem dX5_takes_76 : decode cX5_takes 76 = .ok (.putfield 24, 3) := by decide +kernel
theorem dX5_takes_79 : decode cX5_takes 79 = .ok (.aload_n 2, 1) := by decide +kernel
theorem dX5_takes_80 : decode cX5_takes 80 = .ok (.getfield 56, 3) := by decide +kernel
theorem dX5_takes_83 : decode cX5_takes 83 = .ok (.iconst (-1), 1) := by decide +kernel
theorem dX5_takes_84 : decode cX5_takes 84 = .ok (.if_icmp .eq 7, 3) := by decide +kernel
theorem dX5_takes_87 : decode cX5_takes 87 = .ok (.iconst 1, 1) := by decide +kernel
theorem dX5_takes_88 : decode cX5_takes 88 = .ok (.goto 4, 3) := by decide +kernel
theorem dX5_takes_91 : decode cX5_takes 91 = .ok (.iconst 0, 1) := by decide +kernel
theorem dX5_takes_92 : decode cX5_takes 92 = .ok (.ireturn, 1) := by decide +kernel
theorem dX5_takes_93 : decode cX5_takes 93 = .ok (.aload_n 2, 1) := by decide +kernel
theorem dX5_takes_94 : decode cX5_takes 94 = .ok (.aload_n 0, 1) := by decide +kernel
theorem dX5_takes_95 : decode cX5_takes 95 = .ok (.iload_n 1, 1) := by decide +kernel
theorem dX5_takes_96 : decode cX5_takes 96 = .ok (.aload_n 2, 1) := by decide +kernel
theorem dX5_takes_97 : decode cX5_takes 97 = .ok (.getfield 56, 3) := by decide +kernel
theorem dX5_takes_100 : decode cX5_takes 100 = .ok (.iconst 1, 1) := by decide +kernel
theorem dX5_takes_101 : decode cX5_takes 101 = .ok (.invokestatic 59, 3) := by decide +kernel
theorem dX5_takes_104 : decode cX5_takes 104 = .ok (.iconst 5, 1) := by decide +kernel
theorem dX5_takes_105 : decode cX5_takes 105 = .ok (.invokevirtual 52, 3) := by decide +kernel
theorem dX5_takes_108 : decode cX5_takes 108 = .ok (.putfield 65, 3) := by decide +kernel
theorem dX5_takes_111 : decode cX5_takes 111 = .ok (.aload_n 0, 1) := by decide +kernel
theorem dX5_takes_112 : decode cX5_takes 112 = .ok (.bipush 7, 2) := by decide +kernel
theorem dX5_takes_114 : decode cX5_takes 114 = .ok (.putfield 24, 3) := by decide +kernel
theorem dX5_takes_117 : decode cX5_takes 117 = .ok (.aload_n 2, 1) := by decide +kernel
theorem dX5_takes_118 : decode cX5_takes 118 = .ok (.getfield 65, 3) := by decide +kernel
theorem dX5_takes_121 : decode cX5_takes 121 = .ok (.iconst (-1), 1) := by decide +kernel
theorem dX5_takes_122 : decode cX5_takes 122 = .ok (.if_icmp .eq 7, 3) := by decide +kernel
theorem dX5_takes_125 : decode cX5_takes 125 = .ok (.iconst 1, 1) := by decide +kernel
theorem dX5_takes_126 : decode cX5_takes 126 = .ok (.goto 4, 3) := by decide +kernel
theorem dX5_takes_129 : decode cX5_takes 129 = .ok (.iconst 0, 1) := by decide +kernel
theorem dX5_takes_130 : decode cX5_takes 130 = .ok (.ireturn, 1) := by decide +kernel
theorem dX5_takes_131 : decode cX5_takes 131 = .ok (.aload_n 2, 1) := by decide +kernel
theorem dX5_takes_132 : decode cX5_takes 132 = .ok (.aload_n 0, 1) := by decide +kernel
theorem dX5_takes_133 : decode cX5_takes 133 = .ok (.iload_n 1, 1) := by decide +kernel
theorem dX5_takes_134 : decode cX5_takes 134 = .ok (.iconst 1, 1) := by decide +kernel
theorem dX5_takes_135 : decode cX5_takes 135 = .ok (.iconst 3, 1) := by decide +kernel
theorem dX5_takes_136 : decode cX5_takes 136 = .ok (.invokevirtual 52, 3) := by decide +kernel
theorem dX5_takes_139 : decode cX5_takes 139 = .ok (.putfield 56, 3) := by decide +kernel
theorem dX5_takes_142 : decode cX5_takes 142 = .ok (.aload_n 0, 1) := by decide +kernel
theorem dX5_takes_143 : decode cX5_takes 143 = .ok (.bipush 7, 2) := by decide +kernel
theorem dX5_takes_145 : decode cX5_takes 145 = .ok (.putfield 24, 3) := by decide +kernel
theorem dX5_takes_148 : decode cX5_takes 148 = .ok (.aload_n 2, 1) := by decide +kernel
theorem dX5_takes_149 : decode cX5_takes 149 = .ok (.getfield 56, 3) := by decide +kernel
theorem dX5_takes_152 : decode cX5_takes 152 = .ok (.iconst (-1), 1) := by decide +kernel
theorem dX5_takes_153 : decode cX5_takes 153 = .ok (.if_icmp .eq 7, 3) := by decide +kernel
theorem dX5_takes_156 : decode cX5_takes 156 = .ok (.iconst 1, 1) := by decide +kernel
theorem dX5_takes_157 : decode cX5_takes 157 = .ok (.goto 4, 3) := by decide +kernel
theorem dX5_takes_160 : decode cX5_takes 160 = .ok (.iconst 0, 1) := by decide +kernel
theorem dX5_takes_161 : decode cX5_takes 161 = .ok (.ireturn, 1) := by decide +kernel
theorem dX5_takes_162 : decode cX5_takes 162 = .ok (.aload_n 2, 1) := by decide +kernel
theorem dX5_takes_163 : decode cX5_takes 163 = .ok (.aload_n 0, 1) := by decide +kernel
theorem dX5_takes_164 : decode cX5_takes 164 = .ok (.iload_n 1, 1) := by decide +kernel
theorem dX5_takes_165 : decode cX5_takes 165 = .ok (.invokevirtual 68, 3) := by decide +kernel
theorem dX5_takes_168 : decode cX5_takes 168 = .ok (.putfield 65, 3) := by decide +kernel
theorem dX5_takes_171 : decode cX5_takes 171 = .ok (.aload_n 2, 1) := by decide +kernel
theorem dX5_takes_172 : decode cX5_takes 172 = .ok (.aload_n 0, 1) := by decide +kernel
theorem dX5_takes_173 : decode cX5_takes 173 = .ok (.iload_n 1, 1) := by decide +kernel
theorem dX5_takes_174 : decode cX5_takes 174 = .ok (.aload_n 2, 1) := by decide +kernel
theorem dX5_takes_175 : decode cX5_takes 175 = .ok (.getfield 65, 3) := by decide +kernel
theorem dX5_takes_178 : decode cX5_takes 178 = .ok (.invokevirtual 71, 3) := by decide +kernel
theorem dX5_takes_181 : decode cX5_takes 181 = .ok (.putfield 56, 3) := by decide +kernel
theorem dX5_takes_184 : decode cX5_takes 184 = .ok (.aload_n 0, 1) := by decide +kernel
theorem dX5_takes_185 : decode cX5_takes 185 = .ok (.bipush 7, 2) := by decide +kernel
theorem dX5_takes_187 : decode cX5_takes 187 = .ok (.putfield 24, 3) := by decide +kernel
theorem dX5_takes_190 : decode cX5_takes 190 = .ok (.aload_n 2, 1) := by decide +kernel
theorem dX5_takes_191 : decode cX5_takes 191 = .ok (.getfield 56, 3) := by decide +kernel
theorem dX5_takes_194 : decode cX5_takes 194 = .ok (.iconst (-1), 1) := by decide +kernel
theorem dX5_takes_195 : decode cX5_takes 195 = .ok (.if_icmp .eq 7, 3) := by decide +kernel
theorem dX5_takes_198 : decode cX5_takes 198 = .ok (.iconst 1, 1) := by decide +kernel
theorem dX5_takes_199 : decode cX5_takes 199 = .ok (.goto 4, 3) := by decide +kernel
theorem dX5_takes_202 : decode cX5_takes 202 = .ok (.iconst 0, 1) := by decide +kernel
theorem dX5_takes_203 : decode cX5_takes 203 = .ok (.ireturn, 1) := by decide +kernel
theorem dX5_takes_204 : decode cX5_takes 204 = .ok (.aload_n 2, 1) := by decide +kernel
theorem dX5_takes_205 : decode cX5_takes 205 = .ok (.aload_n 0, 1) := by decide +kernel
theorem dX5_takes_206 : decode cX5_takes 206 = .ok (.iload_n 1, 1) := by decide +kernel
theorem dX5_takes_207 : decode cX5_takes 207 = .ok (.iconst 1, 1) := by decide +kernel
theorem dX5_takes_208 : decode cX5_takes 208 = .ok (.iconst 3, 1) := by decide +kernel
theorem dX5_takes_209 : decode cX5_takes 209 = .ok (.invokevirtual 52, 3) := by decide +kernel
theorem dX5_takes_212 : decode cX5_takes 212 = .ok (.putfield 74, 3) := by decide +kernel
theorem dX5_takes_215 : decode cX5_takes 215 = .ok (.aload_n 0, 1) := by decide +kernel
theorem dX5_takes_216 : decode cX5_takes 216 = .ok (.bipush 7, 2) := by decide +kernel
theorem dX5_takes_218 : decode cX5_takes 218 = .ok (.putfield 24, 3) := by decide +kernel
theorem dX5_takes_221 : decode cX5_takes 221 = .ok (.aload_n 2, 1) := by decide +kernel
theorem dX5_takes_222 : decode cX5_takes 222 = .ok (.getfield 74, 3) := by decide +kernel
theorem dX5_takes_225 : decode cX5_takes 225 = .ok (.iconst (-1), 1) := by decide +kernel
theorem dX5_takes_226 : decode cX5_takes 226 = .ok (.if_icmp .eq 7, 3) := by decide +kernel
theorem dX5_takes_229 : decode cX5_takes 229 = .ok (.iconst 1, 1) := by decide +kernel
theorem dX5_takes_230 : decode cX5_takes 230 = .ok (.goto 4, 3) := by decide +kernel
theorem dX5_takes_233 : decode cX5_takes 233 = .ok (.iconst 0, 1) := by decide +kernel
theorem dX5_takes_234 : decode cX5_takes 234 = .ok (.ireturn, 1) := by decide +kernel
theorem dX5_takes_235 : decode cX5_takes 235 = .ok (.aload_n 2, 1) := by decide +kernel
theorem dX5_takes_236 : decode cX5_takes 236 = .ok (.aload_n 0, 1) := by decide +kernel
theorem dX5_takes_237 : decode cX5_takes 237 = .ok (.iload_n 1, 1) := by decide +kernel
theorem dX5_takes_238 : decode cX5_takes 238 = .ok (.iconst 1, 1) := by decide +kernel
theorem dX5_takes_239 : decode cX5_takes 239 = .ok (.iconst 4, 1) := by decide +kernel
theorem dX5_takes_240 : decode cX5_takes 240 = .ok (.invokevirtual 52, 3) := by decide +kernel
theorem dX5_takes_243 : decode cX5_takes 243 = .ok (.putfield 77, 3) := by decide +kernel
theorem dX5_takes_246 : decode cX5_takes 246 = .ok (.aload_n 0, 1) := by decide +kernel
theorem dX5_takes_247 : decode cX5_takes 247 = .ok (.bipush 7, 2) := by decide +kernel
theorem dX5_takes_249 : decode cX5_takes 249 = .ok (.putfield 24, 3) := by decide +kernel
theorem dX5_takes_252 : decode cX5_takes 252 = .ok (.aload_n 2, 1) := by decide +kernel
theorem dX5_takes_253 : decode cX5_takes 253 = .ok (.getfield 77, 3) := by decide +kernel
theorem dX5_takes_256 : decode cX5_takes 256 = .ok (.iconst (-1), 1) := by decide +kernel
theorem dX5_takes_257 : decode cX5_takes 257 = .ok (.if_icmp .eq 7, 3) := by decide +kernel
theorem dX5_takes_260 : decode cX5_takes 260 = .ok (.iconst 1, 1) := by decide +kernel
theorem dX5_takes_261 : decode cX5_takes 261 = .ok (.goto 4, 3) := by decide +kernel
theorem dX5_takes_264 : decode cX5_takes 264 = .ok (.iconst 0, 1) := by decide +kernel
theorem dX5_takes_265 : decode cX5_takes 265 = .ok (.ireturn, 1) := by decide +kernel
theorem dX5_takes_266 : decode cX5_takes 266 = .ok (.aload_n 0, 1) := by decide +kernel
theorem dX5_takes_267 : decode cX5_takes 267 = .ok (.bipush 8, 2) := by decide +kernel
theorem dX5_takes_269 : decode cX5_takes 269 = .ok (.putfield 24, 3) := by decide +kernel
theorem dX5_takes_272 : decode cX5_takes 272 = .ok (.aload_n 0, 1) := by decide +kernel
theorem dX5_takes_273 : decode cX5_takes 273 = .ok (.iload_n 1, 1) := by decide +kernel
theorem dX5_takes_274 : decode cX5_takes 274 = .ok (.invokevirtual 42, 3) := by decide +kernel
theorem dX5_takes_277 : decode cX5_takes 277 = .ok (.bipush 59, 2) := by decide +kernel
theorem dX5_takes_279 : decode cX5_takes 279 = .ok (.if_icmp .ne 7, 3) := by decide +kernel
theorem dX5_takes_282 : decode cX5_takes 282 = .ok (.iconst 1, 1) := by decide +kernel
theorem dX5_takes_283 : decode cX5_takes 283 = .ok (.goto 4, 3) := by decide +kernel
theorem dX5_takes_286 : decode cX5_takes 286 = .ok (.iconst 0, 1) := by decide +kernel
theorem dX5_takes_287 : decode cX5_takes 287 = .ok (.ireturn, 1) := by decide +kernel
theorem dX5_takes_288 : decode cX5_takes 288 = .ok (.aload_n 0, 1) := by decide +kernel
theorem dX5_takes_289 : decode cX5_takes 289 = .ok (.aload_n 0, 1) := by decide +kernel
theorem dX5_takes_290 : decode cX5_takes 290 = .ok (.iload_n 1, 1) := by decide +kernel
theorem dX5_takes_291 : decode cX5_takes 291 = .ok (.invokevirtual 42, 3) := by decide +kernel
theorem dX5_takes_294 : decode cX5_takes 294 = .ok (.invokevirtual 80, 3) := by decide +kernel
theorem dX5_takes_297 : decode cX5_takes 297 = .ok (.ireturn, 1) := by decide +kernel
theorem dX5_takesSort_0 : decode cX5_takesSort 0 = .ok (.iload_n 1, 1) := by decide +kernel
theorem dX5_takesSort_1 : decode cX5_takesSort 1 = .ok (.lookupswitch 71 #[(98, 59), (99, 47), (114, 35)], 35) := by decide +kernel
theorem dX5_takesSort_36 : decode cX5_takesSort 36 = .ok (.aload_n 2, 1) := by decide +kernel
theorem dX5_takesSort_37 : decode cX5_takesSort 37 = .ok (.iconst 0, 1) := by decide +kernel
theorem dX5_takesSort_38 : decode cX5_takesSort 38 = .ok (.putfield 83, 3) := by decide +kernel
theorem dX5_takesSort_41 : decode cX5_takesSort 41 = .ok (.aload_n 0, 1) := by decide +kernel
theorem dX5_takesSort_42 : decode cX5_takesSort 42 = .ok (.iconst 1, 1) := by decide +kernel
theorem dX5_takesSort_43 : decode cX5_takesSort 43 = .ok (.putfield 24, 3) := by decide +kernel
theorem dX5_takesSort_46 : decode cX5_takesSort 46 = .ok (.iconst 1, 1) := by decide +kernel
theorem dX5_takesSort_47 : decode cX5_takesSort 47 = .ok (.ireturn, 1) := by decide +kernel
theorem dX5_takesSort_48 : decode cX5_takesSort 48 = .ok (.aload_n 2, 1) := by decide +kernel
theorem dX5_takesSort_49 : decode cX5_takesSort 49 = .ok (.iconst 1, 1) := by decide +kernel
theorem dX5_takesSort_50 : decode cX5_takesSort 50 = .ok (.putfield 83, 3) := by decide +kernel
theorem dX5_takesSort_53 : decode cX5_takesSort 53 = .ok (.aload_n 0, 1) := by decide +kernel
theorem dX5_takesSort_54 : decode cX5_takesSort 54 = .ok (.iconst 3, 1) := by decide +kernel
theorem dX5_takesSort_55 : decode cX5_takesSort 55 = .ok (.putfield 24, 3) := by decide +kernel
theorem dX5_takesSort_58 : decode cX5_takesSort 58 = .ok (.iconst 1, 1) := by decide +kernel
theorem dX5_takesSort_59 : decode cX5_takesSort 59 = .ok (.ireturn, 1) := by decide +kernel
theorem dX5_takesSort_60 : decode cX5_takesSort 60 = .ok (.aload_n 2, 1) := by decide +kernel
theorem dX5_takesSort_61 : decode cX5_takesSort 61 = .ok (.iconst 2, 1) := by decide +kernel
theorem dX5_takesSort_62 : decode cX5_takesSort 62 = .ok (.putfield 83, 3) := by decide +kernel
theorem dX5_takesSort_65 : decode cX5_takesSort 65 = .ok (.aload_n 0, 1) := by decide +kernel
theorem dX5_takesSort_66 : decode cX5_takesSort 66 = .ok (.iconst 4, 1) := by decide +kernel
theorem dX5_takesSort_67 : decode cX5_takesSort 67 = .ok (.putfield 24, 3) := by decide +kernel
theorem dX5_takesSort_70 : decode cX5_takesSort 70 = .ok (.iconst 1, 1) := by decide +kernel
theorem dX5_takesSort_71 : decode cX5_takesSort 71 = .ok (.ireturn, 1) := by decide +kernel
theorem dX5_takesSort_72 : decode cX5_takesSort 72 = .ok (.iconst 0, 1) := by decide +kernel
theorem dX5_takesSort_73 : decode cX5_takesSort 73 = .ok (.ireturn, 1) := by decide +kernel
theorem dX5_takesRate_0 : decode cX5_takesRate 0 = .ok (.iload_n 1, 1) := by decide +kernel
theorem dX5_takesRate_1 : decode cX5_takesRate 1 = .ok (.bipush 112, 2) := by decide +kernel
theorem dX5_takesRate_3 : decode cX5_takesRate 3 = .ok (.if_icmp .ne 22, 3) := by decide +kernel
theorem dX5_takesRate_6 : decode cX5_takesRate 6 = .ok (.aload_n 0, 1) := by decide +kernel
theorem dX5_takesRate_7 : decode cX5_takesRate 7 = .ok (.getfield 27, 3) := by decide +kernel
theorem dX5_takesRate_10 : decode cX5_takesRate 10 = .ok (.ifCond .ne 15, 3) := by decide +kernel
theorem dX5_takesRate_13 : decode cX5_takesRate 13 = .ok (.aload_n 0, 1) := by decide +kernel
theorem dX5_takesRate_14 : decode cX5_takesRate 14 = .ok (.iconst 1, 1) := by decide +kernel
theorem dX5_takesRate_15 : decode cX5_takesRate 15 = .ok (.putfield 27, 3) := by decide +kernel
theorem dX5_takesRate_18 : decode cX5_takesRate 18 = .ok (.aload_n 0, 1) := by decide +kernel
theorem dX5_takesRate_19 : decode cX5_takesRate 19 = .ok (.iconst 5, 1) := by decide +kernel
theorem dX5_takesRate_20 : decode cX5_takesRate 20 = .ok (.putfield 24, 3) := by decide +kernel
theorem dX5_takesRate_23 : decode cX5_takesRate 23 = .ok (.iconst 1, 1) := by decide +kernel
theorem dX5_takesRate_24 : decode cX5_takesRate 24 = .ok (.ireturn, 1) := by decide +kernel
theorem dX5_takesRate_25 : decode cX5_takesRate 25 = .ok (.iload_n 1, 1) := by decide +kernel
theorem dX5_takesRate_26 : decode cX5_takesRate 26 = .ok (.bipush 113, 2) := by decide +kernel
theorem dX5_takesRate_28 : decode cX5_takesRate 28 = .ok (.if_icmp .ne 23, 3) := by decide +kernel
theorem dX5_takesRate_31 : decode cX5_takesRate 31 = .ok (.aload_n 0, 1) := by decide +kernel
theorem dX5_takesRate_32 : decode cX5_takesRate 32 = .ok (.getfield 31, 3) := by decide +kernel
theorem dX5_takesRate_35 : decode cX5_takesRate 35 = .ok (.ifCond .ne 16, 3) := by decide +kernel
theorem dX5_takesRate_38 : decode cX5_takesRate 38 = .ok (.aload_n 0, 1) := by decide +kernel
theorem dX5_takesRate_39 : decode cX5_takesRate 39 = .ok (.iconst 1, 1) := by decide +kernel
theorem dX5_takesRate_40 : decode cX5_takesRate 40 = .ok (.putfield 31, 3) := by decide +kernel
theorem dX5_takesRate_43 : decode cX5_takesRate 43 = .ok (.aload_n 0, 1) := by decide +kernel
theorem dX5_takesRate_44 : decode cX5_takesRate 44 = .ok (.bipush 6, 2) := by decide +kernel
theorem dX5_takesRate_46 : decode cX5_takesRate 46 = .ok (.putfield 24, 3) := by decide +kernel
theorem dX5_takesRate_49 : decode cX5_takesRate 49 = .ok (.iconst 1, 1) := by decide +kernel
theorem dX5_takesRate_50 : decode cX5_takesRate 50 = .ok (.ireturn, 1) := by decide +kernel
theorem dX5_takesRate_51 : decode cX5_takesRate 51 = .ok (.iconst 0, 1) := by decide +kernel
theorem dX5_takesRate_52 : decode cX5_takesRate 52 = .ok (.ireturn, 1) := by decide +kernel
theorem dX5_figureAt_0 : decode cX5_figureAt 0 = .ok (.aload_n 0, 1) := by decide +kernel
theorem dX5_figureAt_1 : decode cX5_figureAt 1 = .ok (.iload_n 1, 1) := by decide +kernel
theorem dX5_figureAt_2 : decode cX5_figureAt 2 = .ok (.invokevirtual 42, 3) := by decide +kernel
theorem dX5_figureAt_5 : decode cX5_figureAt 5 = .ok (.bipush 48, 2) := by decide +kernel
theorem dX5_figureAt_7 : decode cX5_figureAt 7 = .ok (.isub, 1) := by decide +kernel
theorem dX5_figureAt_8 : decode cX5_figureAt 8 = .ok (.istore 4, 2) := by decide +kernel
theorem dX5_figureAt_10 : decode cX5_figureAt 10 = .ok (.aload_n 0, 1) := by decide +kernel
theorem dX5_figureAt_11 : decode cX5_figureAt 11 = .ok (.iload_n 1, 1) := by decide +kernel
theorem dX5_figureAt_12 : decode cX5_figureAt 12 = .ok (.invokevirtual 68, 3) := by decide +kernel
theorem dX5_figureAt_15 : decode cX5_figureAt 15 = .ok (.iconst 1, 1) := by decide +kernel
theorem dX5_figureAt_16 : decode cX5_figureAt 16 = .ok (.if_icmp .ne 15, 3) := by decide +kernel
theorem dX5_figureAt_19 : decode cX5_figureAt 19 = .ok (.iload 4, 2) := by decide +kernel
theorem dX5_figureAt_21 : decode cX5_figureAt 21 = .ok (.iload_n 2, 1) := by decide +kernel
theorem dX5_figureAt_22 : decode cX5_figureAt 22 = .ok (.if_icmp .lt 9, 3) := by decide +kernel
theorem dX5_figureAt_25 : decode cX5_figureAt 25 = .ok (.iload 4, 2) := by decide +kernel
theorem dX5_figureAt_27 : decode cX5_figureAt 27 = .ok (.iload_n 3, 1) := by decide +kernel
theorem dX5_figureAt_28 : decode cX5_figureAt 28 = .ok (.if_icmp .le 7, 3) := by decide +kernel
theorem dX5_figureAt_31 : decode cX5_figureAt 31 = .ok (.iconst (-1), 1) := by decide +kernel
theorem dX5_figureAt_32 : decode cX5_figureAt 32 = .ok (.goto 5, 3) := by decide +kernel
theorem dX5_figureAt_35 : decode cX5_figureAt 35 = .ok (.iload 4, 2) := by decide +kernel
theorem dX5_figureAt_37 : decode cX5_figureAt 37 = .ok (.ireturn, 1) := by decide +kernel
theorem dX5_bitsAt_0 : decode cX5_bitsAt 0 = .ok (.iload_n 2, 1) := by decide +kernel
theorem dX5_bitsAt_1 : decode cX5_bitsAt 1 = .ok (.iconst 2, 1) := by decide +kernel
theorem dX5_bitsAt_2 : decode cX5_bitsAt 2 = .ok (.if_icmp .lt 8, 3) := by decide +kernel
theorem dX5_bitsAt_5 : decode cX5_bitsAt 5 = .ok (.iload_n 2, 1) := by decide +kernel
theorem dX5_bitsAt_6 : decode cX5_bitsAt 6 = .ok (.iconst 5, 1) := by decide +kernel
theorem dX5_bitsAt_7 : decode cX5_bitsAt 7 = .ok (.if_icmp .le 5, 3) := by decide +kernel
theorem dX5_bitsAt_10 : decode cX5_bitsAt 10 = .ok (.iconst (-1), 1) := by decide +kernel
theorem dX5_bitsAt_11 : decode cX5_bitsAt 11 = .ok (.ireturn, 1) := by decide +kernel
theorem dX5_bitsAt_12 : decode cX5_bitsAt 12 = .ok (.iconst 0, 1) := by decide +kernel
theorem dX5_bitsAt_13 : decode cX5_bitsAt 13 = .ok (.istore_n 3, 1) := by decide +kernel
theorem dX5_bitsAt_14 : decode cX5_bitsAt 14 = .ok (.iconst 0, 1) := by decide +kernel
theorem dX5_bitsAt_15 : decode cX5_bitsAt 15 = .ok (.istore 4, 2) := by decide +kernel
theorem dX5_bitsAt_17 : decode cX5_bitsAt 17 = .ok (.iload 4, 2) := by decide +kernel
theorem dX5_bitsAt_19 : decode cX5_bitsAt 19 = .ok (.iload_n 2, 1) := by decide +kernel
theorem dX5_bitsAt_20 : decode cX5_bitsAt 20 = .ok (.if_icmp .ge 42, 3) := by decide +kernel
theorem dX5_bitsAt_23 : decode cX5_bitsAt 23 = .ok (.aload_n 0, 1) := by decide +kernel
theorem dX5_bitsAt_24 : decode cX5_bitsAt 24 = .ok (.iload_n 1, 1) := by decide +kernel
theorem dX5_bitsAt_25 : decode cX5_bitsAt 25 = .ok (.iload 4, 2) := by decide +kernel
theorem dX5_bitsAt_27 : decode cX5_bitsAt 27 = .ok (.iadd, 1) := by decide +kernel
theorem dX5_bitsAt_28 : decode cX5_bitsAt 28 = .ok (.invokevirtual 42, 3) := by decide +kernel
theorem dX5_bitsAt_31 : decode cX5_bitsAt 31 = .ok (.bipush 48, 2) := by decide +kernel
theorem dX5_bitsAt_33 : decode cX5_bitsAt 33 = .ok (.isub, 1) := by decide +kernel
theorem dX5_bitsAt_34 : decode cX5_bitsAt 34 = .ok (.istore 5, 2) := by decide +kernel
theorem dX5_bitsAt_36 : decode cX5_bitsAt 36 = .ok (.iload 5, 2) := by decide +kernel
theorem dX5_bitsAt_38 : decode cX5_bitsAt 38 = .ok (.ifCond .lt 9, 3) := by decide +kernel
theorem dX5_bitsAt_41 : decode cX5_bitsAt 41 = .ok (.iload 5, 2) := by decide +kernel
theorem dX5_bitsAt_43 : decode cX5_bitsAt 43 = .ok (.iconst 1, 1) := by decide +kernel
theorem dX5_bitsAt_44 : decode cX5_bitsAt 44 = .ok (.if_icmp .le 5, 3) := by decide +kernel
theorem dX5_bitsAt_47 : decode cX5_bitsAt 47 = .ok (.iconst (-1), 1) := by decide +kernel
theorem dX5_bitsAt_48 : decode cX5_bitsAt 48 = .ok (.ireturn, 1) := by decide +kernel
theorem dX5_bitsAt_49 : decode cX5_bitsAt 49 = .ok (.iload_n 3, 1) := by decide +kernel
theorem dX5_bitsAt_50 : decode cX5_bitsAt 50 = .ok (.iconst 1, 1) := by decide +kernel
theorem dX5_bitsAt_51 : decode cX5_bitsAt 51 = .ok (.ishl, 1) := by decide +kernel
theorem dX5_bitsAt_52 : decode cX5_bitsAt 52 = .ok (.iload 5, 2) := by decide +kernel
theorem dX5_bitsAt_54 : decode cX5_bitsAt 54 = .ok (.ior, 1) := by decide +kernel
theorem dX5_bitsAt_55 : decode cX5_bitsAt 55 = .ok (.istore_n 3, 1) := by decide +kernel
theorem dX5_bitsAt_56 : decode cX5_bitsAt 56 = .ok (.iinc 4 1, 3) := by decide +kernel
theorem dX5_bitsAt_59 : decode cX5_bitsAt 59 = .ok (.goto (-42), 3) := by decide +kernel
theorem dX5_bitsAt_62 : decode cX5_bitsAt 62 = .ok (.iload_n 3, 1) := by decide +kernel
theorem dX5_bitsAt_63 : decode cX5_bitsAt 63 = .ok (.ireturn, 1) := by decide +kernel
theorem dX6_init_0 : decode cX6_init 0 = .ok (.aload_n 0, 1) := by decide +kernel
theorem dX6_init_1 : decode cX6_init 1 = .ok (.invokespecial 1, 3) := by decide +kernel
theorem dX6_init_4 : decode cX6_init 4 = .ok (.aload_n 0, 1) := by decide +kernel
theorem dX6_init_5 : decode cX6_init 5 = .ok (.new 7, 3) := by decide +kernel
theorem dX6_init_8 : decode cX6_init 8 = .ok (.dup, 1) := by decide +kernel
theorem dX6_init_9 : decode cX6_init 9 = .ok (.invokespecial 9, 3) := by decide +kernel
theorem dX6_init_12 : decode cX6_init 12 = .ok (.putfield 10, 3) := by decide +kernel
theorem dX6_init_15 : decode cX6_init 15 = .ok (.aload_n 0, 1) := by decide +kernel
theorem dX6_init_16 : decode cX6_init 16 = .ok (.new 16, 3) := by decide +kernel
theorem dX6_init_19 : decode cX6_init 19 = .ok (.dup, 1) := by decide +kernel
theorem dX6_init_20 : decode cX6_init 20 = .ok (.invokespecial 18, 3) := by decide +kernel
theorem dX6_init_23 : decode cX6_init 23 = .ok (.putfield 19, 3) := by decide +kernel
theorem dX6_init_26 : decode cX6_init 26 = .ok (.aload_n 0, 1) := by decide +kernel
theorem dX6_init_27 : decode cX6_init 27 = .ok (.new 23, 3) := by decide +kernel
theorem dX6_init_30 : decode cX6_init 30 = .ok (.dup, 1) := by decide +kernel
theorem dX6_init_31 : decode cX6_init 31 = .ok (.invokespecial 25, 3) := by decide +kernel
theorem dX6_init_34 : decode cX6_init 34 = .ok (.putfield 26, 3) := by decide +kernel
theorem dX6_init_37 : decode cX6_init 37 = .ok (.aload_n 0, 1) := by decide +kernel
theorem dX6_init_38 : decode cX6_init 38 = .ok (.new 30, 3) := by decide +kernel
theorem dX6_init_41 : decode cX6_init 41 = .ok (.dup, 1) := by decide +kernel
theorem dX6_init_42 : decode cX6_init 42 = .ok (.invokespecial 32, 3) := by decide +kernel
theorem dX6_init_45 : decode cX6_init 45 = .ok (.putfield 33, 3) := by decide +kernel
theorem dX6_init_48 : decode cX6_init 48 = .ok (.aload_n 0, 1) := by decide +kernel
theorem dX6_init_49 : decode cX6_init 49 = .ok (.new 37, 3) := by decide +kernel
theorem dX6_init_52 : decode cX6_init 52 = .ok (.dup, 1) := by decide +kernel
theorem dX6_init_53 : decode cX6_init 53 = .ok (.invokespecial 39, 3) := by decide +kernel
theorem dX6_init_56 : decode cX6_init 56 = .ok (.putfield 40, 3) := by decide +kernel
theorem dX6_init_59 : decode cX6_init 59 = .ok (.aload_n 0, 1) := by decide +kernel
theorem dX6_init_60 : decode cX6_init 60 = .ok (.bipush 6, 2) := by decide +kernel
theorem dX6_init_62 : decode cX6_init 62 = .ok (.anewarray 23, 3) := by decide +kernel
theorem dX6_init_65 : decode cX6_init 65 = .ok (.putfield 44, 3) := by decide +kernel
theorem dX6_init_68 : decode cX6_init 68 = .ok (.iconst 0, 1) := by decide +kernel
theorem dX6_init_69 : decode cX6_init 69 = .ok (.istore_n 1, 1) := by decide +kernel
theorem dX6_init_70 : decode cX6_init 70 = .ok (.iload_n 1, 1) := by decide +kernel
theorem dX6_init_71 : decode cX6_init 71 = .ok (.bipush 6, 2) := by decide +kernel
theorem dX6_init_73 : decode cX6_init 73 = .ok (.if_icmp .ge 22, 3) := by decide +kernel
theorem dX6_init_76 : decode cX6_init 76 = .ok (.aload_n 0, 1) := by decide +kernel
theorem dX6_init_77 : decode cX6_init 77 = .ok (.getfield 44, 3) := by decide +kernel
theorem dX6_init_80 : decode cX6_init 80 = .ok (.iload_n 1, 1) := by decide +kernel
theorem dX6_init_81 : decode cX6_init 81 = .ok (.new 23, 3) := by decide +kernel
theorem dX6_init_84 : decode cX6_init 84 = .ok (.dup, 1) := by decide +kernel
theorem dX6_init_85 : decode cX6_init 85 = .ok (.invokespecial 25, 3) := by decide +kernel
theorem dX6_init_88 : decode cX6_init 88 = .ok (.aastore, 1) := by decide +kernel
theorem dX6_init_89 : decode cX6_init 89 = .ok (.iinc 1 1, 3) := by decide +kernel
theorem dX6_init_92 : decode cX6_init 92 = .ok (.goto (-22), 3) := by decide +kernel
theorem dX6_init_95 : decode cX6_init 95 = .ok (.aload_n 0, 1) := by decide +kernel
theorem dX6_init_96 : decode cX6_init 96 = .ok (.iconst 2, 1) := by decide +kernel
theorem dX6_init_97 : decode cX6_init 97 = .ok (.anewarray 23, 3) := by decide +kernel
theorem dX6_init_100 : decode cX6_init 100 = .ok (.putfield 48, 3) := by decide +kernel
theorem dX6_init_103 : decode cX6_init 103 = .ok (.iconst 0, 1) := by decide +kernel
theorem dX6_init_104 : decode cX6_init 104 = .ok (.istore_n 1, 1) := by decide +kernel
theorem dX6_init_105 : decode cX6_init 105 = .ok (.iload_n 1, 1) := by decide +kernel
theorem dX6_init_106 : decode cX6_init 106 = .ok (.iconst 2, 1) := by decide +kernel
theorem dX6_init_107 : decode cX6_init 107 = .ok (.if_icmp .ge 22, 3) := by decide +kernel
theorem dX6_init_110 : decode cX6_init 110 = .ok (.aload_n 0, 1) := by decide +kernel
theorem dX6_init_111 : decode cX6_init 111 = .ok (.getfield 48, 3) := by decide +kernel
theorem dX6_init_114 : decode cX6_init 114 = .ok (.iload_n 1, 1) := by decide +kernel
theorem dX6_init_115 : decode cX6_init 115 = .ok (.new 23, 3) := by decide +kernel
theorem dX6_init_118 : decode cX6_init 118 = .ok (.dup, 1) := by decide +kernel
theorem dX6_init_119 : decode cX6_init 119 = .ok (.invokespecial 25, 3) := by decide +kernel
theorem dX6_init_122 : decode cX6_init 122 = .ok (.aastore, 1) := by decide +kernel
theorem dX6_init_123 : decode cX6_init 123 = .ok (.iinc 1 1, 3) := by decide +kernel
theorem dX6_init_126 : decode cX6_init 126 = .ok (.goto (-21), 3) := by decide +kernel
theorem dX6_init_129 : decode cX6_init 129 = .ok (.aload_n 0, 1) := by decide +kernel
theorem dX6_init_130 : decode cX6_init 130 = .ok (.iconst 2, 1) := by decide +kernel
theorem dX6_init_131 : decode cX6_init 131 = .ok (.newarray .boolean, 2) := by decide +kernel
theorem dX6_init_133 : decode cX6_init 133 = .ok (.putfield 51, 3) := by decide +kernel
theorem dX6_init_136 : decode cX6_init 136 = .ok (.aload_n 0, 1) := by decide +kernel
theorem dX6_init_137 : decode cX6_init 137 = .ok (.bipush 6, 2) := by decide +kernel
theorem dX6_init_139 : decode cX6_init 139 = .ok (.newarray .int, 2) := by decide +kernel
theorem dX6_init_141 : decode cX6_init 141 = .ok (.putfield 55, 3) := by decide +kernel
theorem dX6_init_144 : decode cX6_init 144 = .ok (.aload_n 0, 1) := by decide +kernel
theorem dX6_init_145 : decode cX6_init 145 = .ok (.getfield 33, 3) := by decide +kernel
theorem dX6_init_148 : decode cX6_init 148 = .ok (.aload_n 0, 1) := by decide +kernel
theorem dX6_init_149 : decode cX6_init 149 = .ok (.getfield 26, 3) := by decide +kernel
theorem dX6_init_152 : decode cX6_init 152 = .ok (.getfield 59, 3) := by decide +kernel
theorem dX6_init_155 : decode cX6_init 155 = .ok (.invokevirtual 62, 3) := by decide +kernel
theorem dX6_init_158 : decode cX6_init 158 = .ok (.aload_n 0, 1) := by decide +kernel
theorem dX6_init_159 : decode cX6_init 159 = .ok (.getfield 26, 3) := by decide +kernel
theorem dX6_init_162 : decode cX6_init 162 = .ok (.getfield 66, 3) := by decide +kernel
theorem dX6_init_165 : decode cX6_init 165 = .ok (.aload_n 0, 1) := by decide +kernel
theorem dX6_init_166 : decode cX6_init 166 = .ok (.getfield 33, 3) := by decide +kernel
theorem dX6_init_169 : decode cX6_init 169 = .ok (.getfield 70, 3) := by decide +kernel
theorem dX6_init_172 : decode cX6_init 172 = .ok (.invokevirtual 74, 3) := by decide +kernel
theorem dX6_init_175 : decode cX6_init 175 = .ok (.return_, 1) := by decide +kernel
theorem dX6_type_0 : decode cX6_type 0 = .ok (.iload_n 1, 1) := by decide +kernel
theorem dX6_type_1 : decode cX6_type 1 = .ok (.ifCond .lt 10, 3) := by decide +kernel
theorem dX6_type_4 : decode cX6_type 4 = .ok (.iload_n 1, 1) := by decide +kernel
theorem dX6_type_5 : decode cX6_type 5 = .ok (.sipush 255, 3) := by decide +kernel
theorem dX6_type_8 : decode cX6_type 8 = .ok (.if_icmp .le 5, 3) := by decide +kernel
theorem dX6_type_11 : decode cX6_type 11 = .ok (.iconst (-1), 1) := by decide +kernel
theorem dX6_type_12 : decode cX6_type 12 = .ok (.ireturn, 1) := by decide +kernel
theorem dX6_type_13 : decode cX6_type 13 = .ok (.aload_n 0, 1) := by decide +kernel
theorem dX6_type_14 : decode cX6_type 14 = .ok (.getfield 10, 3) := by decide +kernel
theorem dX6_type_17 : decode cX6_type 17 = .ok (.getfield 80, 3) := by decide +kernel
theorem dX6_type_20 : decode cX6_type 20 = .ok (.bipush 60, 2) := by decide +kernel
theorem dX6_type_22 : decode cX6_type 22 = .ok (.if_icmp .lt 6, 3) := by decide +kernel
theorem dX6_type_25 : decode cX6_type 25 = .ok (.bipush (-3), 2) := by decide +kernel
theorem dX6_type_27 : decode cX6_type 27 = .ok (.ireturn, 1) := by decide +kernel
theorem dX6_type_28 : decode cX6_type 28 = .ok (.aload_n 0, 1) := by decide +kernel
theorem dX6_type_29 : decode cX6_type 29 = .ok (.getfield 10, 3) := by decide +kernel
theorem dX6_type_32 : decode cX6_type 32 = .ok (.iload_n 1, 1) := by decide +kernel
theorem dX6_type_33 : decode cX6_type 33 = .ok (.invokevirtual 83, 3) := by decide +kernel
theorem dX6_type_36 : decode cX6_type 36 = .ok (.aload_n 0, 1) := by decide +kernel
theorem dX6_type_37 : decode cX6_type 37 = .ok (.getfield 10, 3) := by decide +kernel
theorem dX6_type_40 : decode cX6_type 40 = .ok (.getfield 80, 3) := by decide +kernel
theorem dX6_type_43 : decode cX6_type 43 = .ok (.ireturn, 1) := by decide +kernel
theorem dX6_clear_0 : decode cX6_clear 0 = .ok (.aload_n 0, 1) := by decide +kernel
theorem dX6_clear_1 : decode cX6_clear 1 = .ok (.getfield 10, 3) := by decide +kernel
theorem dX6_clear_4 : decode cX6_clear 4 = .ok (.getfield 80, 3) := by decide +kernel
theorem dX6_clear_7 : decode cX6_clear 7 = .ok (.istore_n 1, 1) := by decide +kernel
theorem dX6_clear_8 : decode cX6_clear 8 = .ok (.aload_n 0, 1) := by decide +kernel
theorem dX6_clear_9 : decode cX6_clear 9 = .ok (.getfield 10, 3) := by decide +kernel
theorem dX6_clear_12 : decode cX6_clear 12 = .ok (.iconst 0, 1) := by decide +kernel
theorem dX6_clear_13 : decode cX6_clear 13 = .ok (.putfield 80, 3) := by decide +kernel
theorem dX6_clear_16 : decode cX6_clear 16 = .ok (.iload_n 1, 1) := by decide +kernel
theorem dX6_clear_17 : decode cX6_clear 17 = .ok (.ireturn, 1) := by decide +kernel
theorem dX6_tells_0 : decode cX6_tells 0 = .ok (.aload_n 0, 1) := by decide +kernel
theorem dX6_tells_1 : decode cX6_tells 1 = .ok (.getfield 10, 3) := by decide +kernel
theorem dX6_tells_4 : decode cX6_tells 4 = .ok (.aload_n 0, 1) := by decide +kernel
theorem dX6_tells_5 : decode cX6_tells 5 = .ok (.getfield 19, 3) := by decide +kernel
theorem dX6_tells_8 : decode cX6_tells 8 = .ok (.invokevirtual 86, 3) := by decide +kernel
theorem dX6_tells_11 : decode cX6_tells 11 = .ok (.istore_n 1, 1) := by decide +kernel
theorem dX6_tells_12 : decode cX6_tells 12 = .ok (.iload_n 1, 1) := by decide +kernel
theorem dX6_tells_13 : decode cX6_tells 13 = .ok (.iconst (-1), 1) := by decide +kernel
theorem dX6_tells_14 : decode cX6_tells 14 = .ok (.if_icmp .eq 8, 3) := by decide +kernel
theorem dX6_tells_17 : decode cX6_tells 17 = .ok (.bipush (-10), 2) := by decide +kernel
theorem dX6_tells_19 : decode cX6_tells 19 = .ok (.iload_n 1, 1) := by decide +kernel
theorem dX6_tells_20 : decode cX6_tells 20 = .ok (.isub, 1) := by decide +kernel
theorem dX6_tells_21 : decode cX6_tells 21 = .ok (.ireturn, 1) := by decide +kernel
theorem dX6_tells_22 : decode cX6_tells 22 = .ok (.aload_n 0, 1) := by decide +kernel
theorem dX6_tells_23 : decode cX6_tells 23 = .ok (.invokevirtual 90, 3) := by decide +kernel
theorem dX6_tells_26 : decode cX6_tells 26 = .ok (.aload_n 0, 1) := by decide +kernel
theorem dX6_tells_27 : decode cX6_tells 27 = .ok (.getfield 26, 3) := by decide +kernel
theorem dX6_tells_30 : decode cX6_tells 30 = .ok (.getfield 59, 3) := by decide +kernel
theorem dX6_tells_33 : decode cX6_tells 33 = .ok (.aload_n 0, 1) := by decide +kernel
theorem dX6_tells_34 : decode cX6_tells 34 = .ok (.getfield 19, 3) := by decide +kernel
theorem dX6_tells_37 : decode cX6_tells 37 = .ok (.invokevirtual 93, 3) := by decide +kernel
theorem dX6_tells_40 : decode cX6_tells 40 = .ok (.aload_n 0, 1) := by decide +kernel
theorem dX6_tells_41 : decode cX6_tells 41 = .ok (.getfield 33, 3) := by decide +kernel
theorem dX6_tells_44 : decode cX6_tells 44 = .ok (.aload_n 0, 1) := by decide +kernel
theorem dX6_tells_45 : decode cX6_tells 45 = .ok (.getfield 26, 3) := by decide +kernel
theorem dX6_tells_48 : decode cX6_tells 48 = .ok (.getfield 59, 3) := by decide +kernel
theorem dX6_tells_51 : decode cX6_tells 51 = .ok (.invokevirtual 62, 3) := by decide +kernel
theorem dX6_tells_54 : decode cX6_tells 54 = .ok (.aload_n 0, 1) := by decide +kernel
theorem dX6_tells_55 : decode cX6_tells 55 = .ok (.getfield 26, 3) := by decide +kernel
theorem dX6_tells_58 : decode cX6_tells 58 = .ok (.getfield 66, 3) := by decide +kernel
theorem dX6_tells_61 : decode cX6_tells 61 = .ok (.aload_n 0, 1) := by decide +kernel
theorem dX6_tells_62 : decode cX6_tells 62 = .ok (.getfield 33, 3) := by decide +kernel
theorem dX6_tells_65 : decode cX6_tells 65 = .ok (.getfield 70, 3) := by decide +kernel
theorem dX6_tells_68 : decode cX6_tells 68 = .ok (.invokevirtual 74, 3) := by decide +kernel
theorem dX6_tells_71 : decode cX6_tells 71 = .ok (.aload_n 0, 1) := by decide +kernel
theorem dX6_tells_72 : decode cX6_tells 72 = .ok (.getfield 10, 3) := by decide +kernel
theorem dX6_tells_75 : decode cX6_tells 75 = .ok (.iconst 0, 1) := by decide +kernel
theorem dX6_tells_76 : decode cX6_tells 76 = .ok (.putfield 80, 3) := by decide +kernel
theorem dX6_tells_79 : decode cX6_tells 79 = .ok (.aload_n 0, 1) := by decide +kernel
theorem dX6_tells_80 : decode cX6_tells 80 = .ok (.iconst 0, 1) := by decide +kernel
theorem dX6_tells_81 : decode cX6_tells 81 = .ok (.putfield 96, 3) := by decide +kernel
theorem dX6_tells_84 : decode cX6_tells 84 = .ok (.iconst 0, 1) := by decide +kernel
theorem dX6_tells_85 : decode cX6_tells 85 = .ok (.istore_n 2, 1) := by decide +kernel
theorem dX6_tells_86 : decode cX6_tells 86 = .ok (.iload_n 2, 1) := by decide +kernel
theorem dX6_tells_87 : decode cX6_tells 87 = .ok (.iconst 2, 1) := by decide +kernel
theorem dX6_tells_88 : decode cX6_tells 88 = .ok (.if_icmp .ge 16, 3) := by decide +kernel
theorem dX6_tells_91 : decode cX6_tells 91 = .ok (.aload_n 0, 1) := by decide +kernel
theorem dX6_tells_92 : decode cX6_tells 92 = .ok (.getfield 51, 3) := by decide +kernel
theorem dX6_tells_95 : decode cX6_tells 95 = .ok (.iload_n 2, 1) := by decide +kernel
theorem dX6_tells_96 : decode cX6_tells 96 = .ok (.iconst 0, 1) := by decide +kernel
theorem dX6_tells_97 : decode cX6_tells 97 = .ok (.bastore, 1) := by decide +kernel
theorem dX6_tells_98 : decode cX6_tells 98 = .ok (.iinc 2 1, 3) := by decide +kernel
theorem dX6_tells_101 : decode cX6_tells 101 = .ok (.goto (-15), 3) := by decide +kernel
theorem dX6_tells_104 : decode cX6_tells 104 = .ok (.aload_n 0, 1) := by decide +kernel
theorem dX6_tells_105 : decode cX6_tells 105 = .ok (.getfield 33, 3) := by decide +kernel
theorem dX6_tells_108 : decode cX6_tells 108 = .ok (.getfield 99, 3) := by decide +kernel
theorem dX6_tells_111 : decode cX6_tells 111 = .ok (.ireturn, 1) := by decide +kernel
theorem dX6_sends_0 : decode cX6_sends 0 = .ok (.iload_n 1, 1) := by decide +kernel
theorem dX6_sends_1 : decode cX6_sends 1 = .ok (.ifCond .lt 17, 3) := by decide +kernel
theorem dX6_sends_4 : decode cX6_sends 4 = .ok (.iload_n 1, 1) := by decide +kernel
theorem dX6_sends_5 : decode cX6_sends 5 = .ok (.aload_n 0, 1) := by decide +kernel
theorem dX6_sends_6 : decode cX6_sends 6 = .ok (.getfield 26, 3) := by decide +kernel
theorem dX6_sends_9 : decode cX6_sends 9 = .ok (.getfield 59, 3) := by decide +kernel
theorem dX6_sends_12 : decode cX6_sends 12 = .ok (.invokevirtual 102, 3) := by decide +kernel
theorem dX6_sends_15 : decode cX6_sends 15 = .ok (.if_icmp .lt 5, 3) := by decide +kernel
theorem dX6_sends_18 : decode cX6_sends 18 = .ok (.iconst (-1), 1) := by decide +kernel
theorem dX6_sends_19 : decode cX6_sends 19 = .ok (.ireturn, 1) := by decide +kernel
theorem dX6_sends_20 : decode cX6_sends 20 = .ok (.aload_n 0, 1) := by decide +kernel
theorem dX6_sends_21 : decode cX6_sends 21 = .ok (.getfield 33, 3) := by decide +kernel
theorem dX6_sends_24 : decode cX6_sends 24 = .ok (.getfield 106, 3) := by decide +kernel
theorem dX6_sends_27 : decode cX6_sends 27 = .ok (.ifCond .ne 6, 3) := by decide +kernel
theorem dX6_sends_30 : decode cX6_sends 30 = .ok (.bipush (-2), 2) := by decide +kernel
theorem dX6_sends_32 : decode cX6_sends 32 = .ok (.ireturn, 1) := by decide +kernel
theorem dX6_sends_33 : decode cX6_sends 33 = .ok (.aload_n 0, 1) := by decide +kernel
theorem dX6_sends_34 : decode cX6_sends 34 = .ok (.getfield 26, 3) := by decide +kernel
theorem dX6_sends_37 : decode cX6_sends 37 = .ok (.getfield 66, 3) := by decide +kernel
theorem dX6_sends_40 : decode cX6_sends 40 = .ok (.astore_n 2, 1) := by decide +kernel
theorem dX6_sends_41 : decode cX6_sends 41 = .ok (.aload_n 2, 1) := by decide +kernel
theorem dX6_sends_42 : decode cX6_sends 42 = .ok (.getfield 109, 3) := by decide +kernel
theorem dX6_sends_45 : decode cX6_sends 45 = .ok (.bipush 24, 2) := by decide +kernel
theorem dX6_sends_47 : decode cX6_sends 47 = .ok (.if_icmp .lt 6, 3) := by decide +kernel
theorem dX6_sends_50 : decode cX6_sends 50 = .ok (.bipush (-3), 2) := by decide +kernel
theorem dX6_sends_52 : decode cX6_sends 52 = .ok (.ireturn, 1) := by decide +kernel
theorem dX6_sends_53 : decode cX6_sends 53 = .ok (.aload_n 0, 1) := by decide +kernel
theorem dX6_sends_54 : decode cX6_sends 54 = .ok (.invokevirtual 90, 3) := by decide +kernel
theorem dX6_sends_57 : decode cX6_sends 57 = .ok (.aload_n 0, 1) := by decide +kernel
theorem dX6_sends_58 : decode cX6_sends 58 = .ok (.getfield 33, 3) := by decide +kernel
theorem dX6_sends_61 : decode cX6_sends 61 = .ok (.aload_n 2, 1) := by decide +kernel
theorem dX6_sends_62 : decode cX6_sends 62 = .ok (.getfield 110, 3) := by decide +kernel
theorem dX6_sends_65 : decode cX6_sends 65 = .ok (.iload_n 1, 1) := by decide +kernel
theorem dX6_sends_66 : decode cX6_sends 66 = .ok (.invokevirtual 113, 3) := by decide +kernel
theorem dX6_sends_69 : decode cX6_sends 69 = .ok (.istore_n 3, 1) := by decide +kernel
theorem dX6_sends_70 : decode cX6_sends 70 = .ok (.aload_n 2, 1) := by decide +kernel
theorem dX6_sends_71 : decode cX6_sends 71 = .ok (.iload_n 3, 1) := by decide +kernel
theorem dX6_sends_72 : decode cX6_sends 72 = .ok (.iload_n 1, 1) := by decide +kernel
theorem dX6_sends_73 : decode cX6_sends 73 = .ok (.aload_n 0, 1) := by decide +kernel
theorem dX6_sends_74 : decode cX6_sends 74 = .ok (.getfield 33, 3) := by decide +kernel
theorem dX6_sends_77 : decode cX6_sends 77 = .ok (.aload_n 2, 1) := by decide +kernel
theorem dX6_sends_78 : decode cX6_sends 78 = .ok (.getfield 110, 3) := by decide +kernel
theorem dX6_sends_81 : decode cX6_sends 81 = .ok (.iload_n 3, 1) := by decide +kernel
theorem dX6_sends_82 : decode cX6_sends 82 = .ok (.invokevirtual 117, 3) := by decide +kernel
theorem dX6_sends_85 : decode cX6_sends 85 = .ok (.invokevirtual 120, 3) := by decide +kernel
theorem dX6_sends_88 : decode cX6_sends 88 = .ok (.iload_n 3, 1) := by decide +kernel
theorem dX6_sends_89 : decode cX6_sends 89 = .ok (.ireturn, 1) := by decide +kernel
theorem dX6_flips_0 : decode cX6_flips 0 = .ok (.aload_n 0, 1) := by decide +kernel
theorem dX6_flips_1 : decode cX6_flips 1 = .ok (.getfield 26, 3) := by decide +kernel
theorem dX6_flips_4 : decode cX6_flips 4 = .ok (.getfield 59, 3) := by decide +kernel
theorem dX6_flips_7 : decode cX6_flips 7 = .ok (.getfield 123, 3) := by decide +kernel
theorem dX6_flips_10 : decode cX6_flips 10 = .ok (.istore_n 2, 1) := by decide +kernel
theorem dX6_flips_11 : decode cX6_flips 11 = .ok (.iload_n 2, 1) := by decide +kernel
theorem dX6_flips_12 : decode cX6_flips 12 = .ok (.iconst 1, 1) := by decide +kernel
theorem dX6_flips_13 : decode cX6_flips 13 = .ok (.if_icmp .lt 23, 3) := by decide +kernel
theorem dX6_flips_16 : decode cX6_flips 16 = .ok (.iload_n 1, 1) := by decide +kernel
theorem dX6_flips_17 : decode cX6_flips 17 = .ok (.ifCond .lt 19, 3) := by decide +kernel
theorem dX6_flips_20 : decode cX6_flips 20 = .ok (.iload_n 1, 1) := by decide +kernel
theorem dX6_flips_21 : decode cX6_flips 21 = .ok (.aload_n 0, 1) := by decide +kernel
theorem dX6_flips_22 : decode cX6_flips 22 = .ok (.getfield 26, 3) := by decide +kernel
theorem dX6_flips_25 : decode cX6_flips 25 = .ok (.getfield 66, 3) := by decide +kernel
theorem dX6_flips_28 : decode cX6_flips 28 = .ok (.getfield 109, 3) := by decide +kernel
theorem dX6_flips_31 : decode cX6_flips 31 = .ok (.iload_n 2, 1) := by decide +kernel
theorem dX6_flips_32 : decode cX6_flips 32 = .ok (.imul, 1) := by decide +kernel
theorem dX6_flips_33 : decode cX6_flips 33 = .ok (.if_icmp .lt 5, 3) := by decide +kernel
theorem dX6_flips_36 : decode cX6_flips 36 = .ok (.iconst (-1), 1) := by decide +kernel
theorem dX6_flips_37 : decode cX6_flips 37 = .ok (.ireturn, 1) := by decide +kernel
theorem dX6_flips_38 : decode cX6_flips 38 = .ok (.aload_n 0, 1) := by decide +kernel
theorem dX6_flips_39 : decode cX6_flips 39 = .ok (.invokevirtual 90, 3) := by decide +kernel
theorem dX6_flips_42 : decode cX6_flips 42 = .ok (.aload_n 0, 1) := by decide +kernel
theorem dX6_flips_43 : decode cX6_flips 43 = .ok (.getfield 26, 3) := by decide +kernel
theorem dX6_flips_46 : decode cX6_flips 46 = .ok (.getfield 66, 3) := by decide +kernel
theorem dX6_flips_49 : decode cX6_flips 49 = .ok (.iload_n 1, 1) := by decide +kernel
theorem dX6_flips_50 : decode cX6_flips 50 = .ok (.iload_n 2, 1) := by decide +kernel
theorem dX6_flips_51 : decode cX6_flips 51 = .ok (.idiv, 1) := by decide +kernel
theorem dX6_flips_52 : decode cX6_flips 52 = .ok (.iload_n 2, 1) := by decide +kernel
theorem dX6_flips_53 : decode cX6_flips 53 = .ok (.iconst 1, 1) := by decide +kernel
theorem dX6_flips_54 : decode cX6_flips 54 = .ok (.isub, 1) := by decide +kernel
theorem dX6_flips_55 : decode cX6_flips 55 = .ok (.iload_n 1, 1) := by decide +kernel
theorem dX6_flips_56 : decode cX6_flips 56 = .ok (.iload_n 2, 1) := by decide +kernel
theorem dX6_flips_57 : decode cX6_flips 57 = .ok (.irem, 1) := by decide +kernel
theorem dX6_flips_58 : decode cX6_flips 58 = .ok (.isub, 1) := by decide +kernel
theorem dX6_flips_59 : decode cX6_flips 59 = .ok (.invokevirtual 126, 3) := by decide +kernel
theorem dX6_flips_62 : decode cX6_flips 62 = .ok (.ireturn, 1) := by decide +kernel
theorem dX6_undo_0 : decode cX6_undo 0 = .ok (.aload_n 0, 1) := by decide +kernel
theorem dX6_undo_1 : decode cX6_undo 1 = .ok (.getfield 129, 3) := by decide +kernel
theorem dX6_undo_4 : decode cX6_undo 4 = .ok (.iconst 1, 1) := by decide +kernel
theorem dX6_undo_5 : decode cX6_undo 5 = .ok (.if_icmp .lt 12, 3) := by decide +kernel
theorem dX6_undo_8 : decode cX6_undo 8 = .ok (.aload_n 0, 1) := by decide +kernel
theorem dX6_undo_9 : decode cX6_undo 9 = .ok (.getfield 129, 3) := by decide +kernel
theorem dX6_undo_12 : decode cX6_undo 12 = .ok (.bipush 6, 2) := by decide +kernel
theorem dX6_undo_14 : decode cX6_undo 14 = .ok (.if_icmp .le 6, 3) := by decide +kernel
theorem dX6_undo_17 : decode cX6_undo 17 = .ok (.bipush (-2), 2) := by decide +kernel
theorem dX6_undo_19 : decode cX6_undo 19 = .ok (.ireturn, 1) := by decide +kernel
theorem dX6_undo_20 : decode cX6_undo 20 = .ok (.aload_n 0, 1) := by decide +kernel
theorem dX6_undo_21 : decode cX6_undo 21 = .ok (.dup, 1) := by decide +kernel
theorem dX6_undo_22 : decode cX6_undo 22 = .ok (.getfield 129, 3) := by decide +kernel
theorem dX6_undo_25 : decode cX6_undo 25 = .ok (.iconst 1, 1) := by decide +kernel
theorem dX6_undo_26 : decode cX6_undo 26 = .ok (.isub, 1) := by decide +kernel
theorem dX6_undo_27 : decode cX6_undo 27 = .ok (.putfield 129, 3) := by decide +kernel
theorem dX6_undo_30 : decode cX6_undo 30 = .ok (.aload_n 0, 1) := by decide +kernel
theorem dX6_undo_31 : decode cX6_undo 31 = .ok (.aload_n 0, 1) := by decide +kernel
theorem dX6_undo_32 : decode cX6_undo 32 = .ok (.getfield 44, 3) := by decide +kernel
theorem dX6_undo_35 : decode cX6_undo 35 = .ok (.aload_n 0, 1) := by decide +kernel
theorem dX6_undo_36 : decode cX6_undo 36 = .ok (.getfield 129, 3) := by decide +kernel
theorem dX6_undo_39 : decode cX6_undo 39 = .ok (.aaload, 1) := by decide +kernel
theorem dX6_undo_40 : decode cX6_undo 40 = .ok (.invokevirtual 132, 3) := by decide +kernel
theorem dX6_undo_43 : decode cX6_undo 43 = .ok (.aload_n 0, 1) := by decide +kernel
theorem dX6_undo_44 : decode cX6_undo 44 = .ok (.getfield 129, 3) := by decide +kernel
theorem dX6_undo_47 : decode cX6_undo 47 = .ok (.ireturn, 1) := by decide +kernel
theorem dX6_step_0 : decode cX6_step 0 = .ok (.aload_n 0, 1) := by decide +kernel
theorem dX6_step_1 : decode cX6_step 1 = .ok (.iload_n 1, 1) := by decide +kernel
theorem dX6_step_2 : decode cX6_step 2 = .ok (.invokevirtual 136, 3) := by decide +kernel
theorem dX6_step_5 : decode cX6_step 5 = .ok (.ifCond .ne 12, 3) := by decide +kernel
theorem dX6_step_8 : decode cX6_step 8 = .ok (.iload_n 2, 1) := by decide +kernel
theorem dX6_step_9 : decode cX6_step 9 = .ok (.ifCond .lt 8, 3) := by decide +kernel
theorem dX6_step_12 : decode cX6_step 12 = .ok (.iload_n 2, 1) := by decide +kernel
theorem dX6_step_13 : decode cX6_step 13 = .ok (.iconst 1, 1) := by decide +kernel
theorem dX6_step_14 : decode cX6_step 14 = .ok (.if_icmp .le 5, 3) := by decide +kernel
theorem dX6_step_17 : decode cX6_step 17 = .ok (.iconst (-1), 1) := by decide +kernel
theorem dX6_step_18 : decode cX6_step 18 = .ok (.ireturn, 1) := by decide +kernel
theorem dX6_step_19 : decode cX6_step 19 = .ok (.aload_n 0, 1) := by decide +kernel
theorem dX6_step_20 : decode cX6_step 20 = .ok (.getfield 26, 3) := by decide +kernel
theorem dX6_step_23 : decode cX6_step 23 = .ok (.getfield 59, 3) := by decide +kernel
theorem dX6_step_26 : decode cX6_step 26 = .ok (.iload_n 1, 1) := by decide +kernel
theorem dX6_step_27 : decode cX6_step 27 = .ok (.iload_n 2, 1) := by decide +kernel
theorem dX6_step_28 : decode cX6_step 28 = .ok (.invokevirtual 140, 3) := by decide +kernel
theorem dX6_step_31 : decode cX6_step 31 = .ok (.ireturn, 1) := by decide +kernel
theorem dX6_arc_0 : decode cX6_arc 0 = .ok (.aload_n 0, 1) := by decide +kernel
theorem dX6_arc_1 : decode cX6_arc 1 = .ok (.iload_n 1, 1) := by decide +kernel
theorem dX6_arc_2 : decode cX6_arc 2 = .ok (.invokevirtual 136, 3) := by decide +kernel
theorem dX6_arc_5 : decode cX6_arc 5 = .ok (.ifCond .ne 20, 3) := by decide +kernel
theorem dX6_arc_8 : decode cX6_arc 8 = .ok (.aload_n 0, 1) := by decide +kernel
theorem dX6_arc_9 : decode cX6_arc 9 = .ok (.iload_n 2, 1) := by decide +kernel
theorem dX6_arc_10 : decode cX6_arc 10 = .ok (.invokevirtual 143, 3) := by decide +kernel
theorem dX6_arc_13 : decode cX6_arc 13 = .ok (.ifCond .ne 12, 3) := by decide +kernel
theorem dX6_arc_16 : decode cX6_arc 16 = .ok (.iload_n 3, 1) := by decide +kernel
theorem dX6_arc_17 : decode cX6_arc 17 = .ok (.ifCond .lt 8, 3) := by decide +kernel
theorem dX6_arc_20 : decode cX6_arc 20 = .ok (.iload_n 3, 1) := by decide +kernel
theorem dX6_arc_21 : decode cX6_arc 21 = .ok (.iconst 1, 1) := by decide +kernel
theorem dX6_arc_22 : decode cX6_arc 22 = .ok (.if_icmp .le 5, 3) := by decide +kernel
theorem dX6_arc_25 : decode cX6_arc 25 = .ok (.iconst (-1), 1) := by decide +kernel
theorem dX6_arc_26 : decode cX6_arc 26 = .ok (.ireturn, 1) := by decide +kernel
theorem dX6_arc_27 : decode cX6_arc 27 = .ok (.iload_n 3, 1) := by decide +kernel
theorem dX6_arc_28 : decode cX6_arc 28 = .ok (.ifCond .ne 15, 3) := by decide +kernel
theorem dX6_arc_31 : decode cX6_arc 31 = .ok (.aload_n 0, 1) := by decide +kernel
theorem dX6_arc_32 : decode cX6_arc 32 = .ok (.getfield 33, 3) := by decide +kernel
theorem dX6_arc_35 : decode cX6_arc 35 = .ok (.iload_n 1, 1) := by decide +kernel
theorem dX6_arc_36 : decode cX6_arc 36 = .ok (.iload_n 2, 1) := by decide +kernel
theorem dX6_arc_37 : decode cX6_arc 37 = .ok (.invokevirtual 117, 3) := by decide +kernel
theorem dX6_arc_40 : decode cX6_arc 40 = .ok (.goto 12, 3) := by decide +kernel
theorem dX6_arc_43 : decode cX6_arc 43 = .ok (.aload_n 0, 1) := by decide +kernel
theorem dX6_arc_44 : decode cX6_arc 44 = .ok (.getfield 33, 3) := by decide +kernel
theorem dX6_arc_47 : decode cX6_arc 47 = .ok (.iload_n 1, 1) := by decide +kernel
theorem dX6_arc_48 : decode cX6_arc 48 = .ok (.iload_n 2, 1) := by decide +kernel
theorem dX6_arc_49 : decode cX6_arc 49 = .ok (.invokevirtual 146, 3) := by decide +kernel
theorem dX6_arc_52 : decode cX6_arc 52 = .ok (.ireturn, 1) := by decide +kernel
theorem dX6_state_0 : decode cX6_state 0 = .ok (.aload_n 0, 1) := by decide +kernel
theorem dX6_state_1 : decode cX6_state 1 = .ok (.iload_n 1, 1) := by decide +kernel
theorem dX6_state_2 : decode cX6_state 2 = .ok (.invokevirtual 136, 3) := by decide +kernel
theorem dX6_state_5 : decode cX6_state 5 = .ok (.ifCond .ne 12, 3) := by decide +kernel
theorem dX6_state_8 : decode cX6_state 8 = .ok (.iload_n 2, 1) := by decide +kernel
theorem dX6_state_9 : decode cX6_state 9 = .ok (.ifCond .lt 8, 3) := by decide +kernel
theorem dX6_state_12 : decode cX6_state 12 = .ok (.iload_n 2, 1) := by decide +kernel
theorem dX6_state_13 : decode cX6_state 13 = .ok (.iconst 1, 1) := by decide +kernel
theorem dX6_state_14 : decode cX6_state 14 = .ok (.if_icmp .le 5, 3) := by decide +kernel
theorem dX6_state_17 : decode cX6_state 17 = .ok (.iconst (-1), 1) := by decide +kernel
theorem dX6_state_18 : decode cX6_state 18 = .ok (.ireturn, 1) := by decide +kernel
theorem dX6_state_19 : decode cX6_state 19 = .ok (.iload_n 2, 1) := by decide +kernel
theorem dX6_state_20 : decode cX6_state 20 = .ok (.ifCond .ne 12, 3) := by decide +kernel
theorem dX6_state_23 : decode cX6_state 23 = .ok (.aload_n 0, 1) := by decide +kernel
theorem dX6_state_24 : decode cX6_state 24 = .ok (.getfield 33, 3) := by decide +kernel
theorem dX6_state_27 : decode cX6_state 27 = .ok (.iload_n 1, 1) := by decide +kernel
theorem dX6_state_28 : decode cX6_state 28 = .ok (.invokevirtual 149, 3) := by decide +kernel
theorem dX6_state_31 : decode cX6_state 31 = .ok (.ireturn, 1) := by decide +kernel
theorem dX6_state_32 : decode cX6_state 32 = .ok (.aload_n 0, 1) := by decide +kernel
theorem dX6_state_33 : decode cX6_state 33 = .ok (.getfield 33, 3) := by decide +kernel
theorem dX6_state_36 : decode cX6_state 36 = .ok (.iload_n 1, 1) := by decide +kernel
theorem dX6_state_37 : decode cX6_state 37 = .ok (.invokevirtual 153, 3) := by decide +kernel
theorem dX6_state_40 : decode cX6_state 40 = .ok (.ifCond .eq 7, 3) := by decide +kernel
theorem dX6_state_43 : decode cX6_state 43 = .ok (.iconst 1, 1) := by decide +kernel
theorem dX6_state_44 : decode cX6_state 44 = .ok (.goto 4, 3) := by decide +kernel
theorem dX6_state_47 : decode cX6_state 47 = .ok (.iconst 0, 1) := by decide +kernel
theorem dX6_state_48 : decode cX6_state 48 = .ok (.ireturn, 1) := by decide +kernel
theorem dX6_weight_0 : decode cX6_weight 0 = .ok (.aload_n 0, 1) := by decide +kernel
theorem dX6_weight_1 : decode cX6_weight 1 = .ok (.iload_n 1, 1) := by decide +kernel
theorem dX6_weight_2 : decode cX6_weight 2 = .ok (.invokevirtual 136, 3) := by decide +kernel
theorem dX6_weight_5 : decode cX6_weight 5 = .ok (.ifCond .ne 23, 3) := by decide +kernel
theorem dX6_weight_8 : decode cX6_weight 8 = .ok (.iload_n 2, 1) := by decide +kernel
theorem dX6_weight_9 : decode cX6_weight 9 = .ok (.iconst 1, 1) := by decide +kernel
theorem dX6_weight_10 : decode cX6_weight 10 = .ok (.if_icmp .lt 18, 3) := by decide +kernel
theorem dX6_weight_13 : decode cX6_weight 13 = .ok (.iload_n 2, 1) := by decide +kernel
theorem dX6_weight_14 : decode cX6_weight 14 = .ok (.bipush 9, 2) := by decide +kernel
theorem dX6_weight_16 : decode cX6_weight 16 = .ok (.if_icmp .gt 12, 3) := by decide +kernel
theorem dX6_weight_19 : decode cX6_weight 19 = .ok (.iload_n 3, 1) := by decide +kernel
theorem dX6_weight_20 : decode cX6_weight 20 = .ok (.ifCond .lt 8, 3) := by decide +kernel
theorem dX6_weight_23 : decode cX6_weight 23 = .ok (.iload_n 3, 1) := by decide +kernel
theorem dX6_weight_24 : decode cX6_weight 24 = .ok (.iconst 1, 1) := by decide +kernel
theorem dX6_weight_25 : decode cX6_weight 25 = .ok (.if_icmp .le 5, 3) := by decide +kernel
theorem dX6_weight_28 : decode cX6_weight 28 = .ok (.iconst (-1), 1) := by decide +kernel
theorem dX6_weight_29 : decode cX6_weight 29 = .ok (.ireturn, 1) := by decide +kernel
theorem dX6_weight_30 : decode cX6_weight 30 = .ok (.aload_n 0, 1) := by decide +kernel
theorem dX6_weight_31 : decode cX6_weight 31 = .ok (.getfield 40, 3) := by decide +kernel
theorem dX6_weight_34 : decode cX6_weight 34 = .ok (.aload_n 0, 1) := by decide +kernel
theorem dX6_weight_35 : decode cX6_weight 35 = .ok (.getfield 33, 3) := by decide +kernel
theorem dX6_weight_38 : decode cX6_weight 38 = .ok (.aload_n 0, 1) := by decide +kernel
theorem dX6_weight_39 : decode cX6_weight 39 = .ok (.getfield 26, 3) := by decide +kernel
theorem dX6_weight_42 : decode cX6_weight 42 = .ok (.getfield 59, 3) := by decide +kernel
theorem dX6_weight_45 : decode cX6_weight 45 = .ok (.getfield 156, 3) := by decide +kernel
theorem dX6_weight_48 : decode cX6_weight 48 = .ok (.iload_n 2, 1) := by decide +kernel
theorem dX6_weight_49 : decode cX6_weight 49 = .ok (.invokevirtual 159, 3) := by decide +kernel
theorem dX6_weight_52 : decode cX6_weight 52 = .ok (.iload_n 3, 1) := by decide +kernel
theorem dX6_weight_53 : decode cX6_weight 53 = .ok (.ifCond .ne 14, 3) := by decide +kernel
theorem dX6_weight_56 : decode cX6_weight 56 = .ok (.aload_n 0, 1) := by decide +kernel
theorem dX6_weight_57 : decode cX6_weight 57 = .ok (.getfield 40, 3) := by decide +kernel
theorem dX6_weight_60 : decode cX6_weight 60 = .ok (.iload_n 1, 1) := by decide +kernel
theorem dX6_weight_61 : decode cX6_weight 61 = .ok (.invokevirtual 163, 3) := by decide +kernel
theorem dX6_weight_64 : decode cX6_weight 64 = .ok (.goto 11, 3) := by decide +kernel
theorem dX6_weight_67 : decode cX6_weight 67 = .ok (.aload_n 0, 1) := by decide +kernel
theorem dX6_weight_68 : decode cX6_weight 68 = .ok (.getfield 40, 3) := by decide +kernel
theorem dX6_weight_71 : decode cX6_weight 71 = .ok (.iload_n 1, 1) := by decide +kernel
theorem dX6_weight_72 : decode cX6_weight 72 = .ok (.invokevirtual 166, 3) := by decide +kernel
theorem dX6_weight_75 : decode cX6_weight 75 = .ok (.ireturn, 1) := by decide +kernel
theorem dX6_rows_0 : decode cX6_rows 0 = .ok (.iload_n 1, 1) := by decide +kernel
theorem dX6_rows_1 : decode cX6_rows 1 = .ok (.ifCond .lt 9, 3) := by decide +kernel
theorem dX6_rows_4 : decode cX6_rows 4 = .ok (.iload_n 1, 1) := by decide +kernel
theorem dX6_rows_5 : decode cX6_rows 5 = .ok (.bipush 20, 2) := by decide +kernel
theorem dX6_rows_7 : decode cX6_rows 7 = .ok (.if_icmp .le 5, 3) := by decide +kernel
theorem dX6_rows_10 : decode cX6_rows 10 = .ok (.iconst (-1), 1) := by decide +kernel
theorem dX6_rows_11 : decode cX6_rows 11 = .ok (.ireturn, 1) := by decide +kernel
theorem dX6_rows_12 : decode cX6_rows 12 = .ok (.aload_n 0, 1) := by decide +kernel
theorem dX6_rows_13 : decode cX6_rows 13 = .ok (.getfield 40, 3) := by decide +kernel
theorem dX6_rows_16 : decode cX6_rows 16 = .ok (.aload_n 0, 1) := by decide +kernel
theorem dX6_rows_17 : decode cX6_rows 17 = .ok (.getfield 26, 3) := by decide +kernel
theorem dX6_rows_20 : decode cX6_rows 20 = .ok (.getfield 59, 3) := by decide +kernel
theorem dX6_rows_23 : decode cX6_rows 23 = .ok (.iload_n 1, 1) := by decide +kernel
theorem dX6_rows_24 : decode cX6_rows 24 = .ok (.invokevirtual 169, 3) := by decide +kernel
theorem dX6_rows_27 : decode cX6_rows 27 = .ok (.ireturn, 1) := by decide +kernel
theorem dX6_word_0 : decode cX6_word 0 = .ok (.iload_n 1, 1) := by decide +kernel
theorem dX6_word_1 : decode cX6_word 1 = .ok (.ifCond .lt 26, 3) := by decide +kernel
theorem dX6_word_4 : decode cX6_word 4 = .ok (.iload_n 1, 1) := by decide +kernel
theorem dX6_word_5 : decode cX6_word 5 = .ok (.aload_n 0, 1) := by decide +kernel
theorem dX6_word_6 : decode cX6_word 6 = .ok (.getfield 26, 3) := by decide +kernel
theorem dX6_word_9 : decode cX6_word 9 = .ok (.getfield 66, 3) := by decide +kernel
theorem dX6_word_12 : decode cX6_word 12 = .ok (.getfield 109, 3) := by decide +kernel
theorem dX6_word_15 : decode cX6_word 15 = .ok (.if_icmp .ge 12, 3) := by decide +kernel
theorem dX6_word_18 : decode cX6_word 18 = .ok (.iload_n 2, 1) := by decide +kernel
theorem dX6_word_19 : decode cX6_word 19 = .ok (.ifCond .lt 8, 3) := by decide +kernel
theorem dX6_word_22 : decode cX6_word 22 = .ok (.iload_n 2, 1) := by decide +kernel
theorem dX6_word_23 : decode cX6_word 23 = .ok (.iconst 3, 1) := by decide +kernel
theorem dX6_word_24 : decode cX6_word 24 = .ok (.if_icmp .le 5, 3) := by decide +kernel
theorem dX6_word_27 : decode cX6_word 27 = .ok (.iconst (-1), 1) := by decide +kernel
theorem dX6_word_28 : decode cX6_word 28 = .ok (.ireturn, 1) := by decide +kernel
theorem dX6_word_29 : decode cX6_word 29 = .ok (.iload_n 2, 1) := by decide +kernel
theorem dX6_word_30 : decode cX6_word 30 = .ok (.tableswitch 56 0 2 #[26, 38, 50], 26) := by decide +kernel
theorem dX6_word_56 : decode cX6_word 56 = .ok (.aload_n 0, 1) := by decide +kernel
theorem dX6_word_57 : decode cX6_word 57 = .ok (.getfield 26, 3) := by decide +kernel
theorem dX6_word_60 : decode cX6_word 60 = .ok (.getfield 66, 3) := by decide +kernel
theorem dX6_word_63 : decode cX6_word 63 = .ok (.iload_n 1, 1) := by decide +kernel
theorem dX6_word_64 : decode cX6_word 64 = .ok (.invokevirtual 173, 3) := by decide +kernel
theorem dX6_word_67 : decode cX6_word 67 = .ok (.ireturn, 1) := by decide +kernel
theorem dX6_word_68 : decode cX6_word 68 = .ok (.aload_n 0, 1) := by decide +kernel
theorem dX6_word_69 : decode cX6_word 69 = .ok (.getfield 26, 3) := by decide +kernel
theorem dX6_word_72 : decode cX6_word 72 = .ok (.getfield 66, 3) := by decide +kernel
theorem dX6_word_75 : decode cX6_word 75 = .ok (.iload_n 1, 1) := by decide +kernel
theorem dX6_word_76 : decode cX6_word 76 = .ok (.invokevirtual 176, 3) := by decide +kernel
theorem dX6_word_79 : decode cX6_word 79 = .ok (.ireturn, 1) := by decide +kernel
theorem dX6_word_80 : decode cX6_word 80 = .ok (.aload_n 0, 1) := by decide +kernel
theorem dX6_word_81 : decode cX6_word 81 = .ok (.iload_n 1, 1) := by decide +kernel
theorem dX6_word_82 : decode cX6_word 82 = .ok (.invokevirtual 179, 3) := by decide +kernel
theorem dX6_word_85 : decode cX6_word 85 = .ok (.ireturn, 1) := by decide +kernel
theorem dX6_word_86 : decode cX6_word 86 = .ok (.aload_n 0, 1) := by decide +kernel
theorem dX6_word_87 : decode cX6_word 87 = .ok (.iload_n 1, 1) := by decide +kernel
theorem dX6_word_88 : decode cX6_word 88 = .ok (.invokevirtual 182, 3) := by decide +kernel
theorem dX6_word_91 : decode cX6_word 91 = .ok (.ireturn, 1) := by decide +kernel
theorem dX6_wrong_0 : decode cX6_wrong 0 = .ok (.iload_n 1, 1) := by decide +kernel
theorem dX6_wrong_1 : decode cX6_wrong 1 = .ok (.ifCond .lt 8, 3) := by decide +kernel
theorem dX6_wrong_4 : decode cX6_wrong 4 = .ok (.iload_n 1, 1) := by decide +kernel
theorem dX6_wrong_5 : decode cX6_wrong 5 = .ok (.iconst 1, 1) := by decide +kernel
theorem dX6_wrong_6 : decode cX6_wrong 6 = .ok (.if_icmp .le 5, 3) := by decide +kernel
theorem dX6_wrong_9 : decode cX6_wrong 9 = .ok (.iconst (-1), 1) := by decide +kernel
theorem dX6_wrong_10 : decode cX6_wrong 10 = .ok (.ireturn, 1) := by decide +kernel
theorem dX6_wrong_11 : decode cX6_wrong 11 = .ok (.iconst 0, 1) := by decide +kernel
theorem dX6_wrong_12 : decode cX6_wrong 12 = .ok (.istore_n 2, 1) := by decide +kernel
theorem dX6_wrong_13 : decode cX6_wrong 13 = .ok (.iconst 0, 1) := by decide +kernel
theorem dX6_wrong_14 : decode cX6_wrong 14 = .ok (.istore_n 3, 1) := by decide +kernel
theorem dX6_wrong_15 : decode cX6_wrong 15 = .ok (.iload_n 3, 1) := by decide +kernel
theorem dX6_wrong_16 : decode cX6_wrong 16 = .ok (.aload_n 0, 1) := by decide +kernel
theorem dX6_wrong_17 : decode cX6_wrong 17 = .ok (.getfield 26, 3) := by decide +kernel
theorem dX6_wrong_20 : decode cX6_wrong 20 = .ok (.getfield 66, 3) := by decide +kernel
theorem dX6_wrong_23 : decode cX6_wrong 23 = .ok (.getfield 109, 3) := by decide +kernel
theorem dX6_wrong_26 : decode cX6_wrong 26 = .ok (.if_icmp .ge 47, 3) := by decide +kernel
theorem dX6_wrong_29 : decode cX6_wrong 29 = .ok (.iload_n 1, 1) := by decide +kernel
theorem dX6_wrong_30 : decode cX6_wrong 30 = .ok (.ifCond .ne 11, 3) := by decide +kernel
theorem dX6_wrong_33 : decode cX6_wrong 33 = .ok (.aload_n 0, 1) := by decide +kernel
theorem dX6_wrong_34 : decode cX6_wrong 34 = .ok (.iload_n 3, 1) := by decide +kernel
theorem dX6_wrong_35 : decode cX6_wrong 35 = .ok (.invokevirtual 179, 3) := by decide +kernel
theorem dX6_wrong_38 : decode cX6_wrong 38 = .ok (.goto 8, 3) := by decide +kernel
theorem dX6_wrong_41 : decode cX6_wrong 41 = .ok (.aload_n 0, 1) := by decide +kernel
theorem dX6_wrong_42 : decode cX6_wrong 42 = .ok (.iload_n 3, 1) := by decide +kernel
theorem dX6_wrong_43 : decode cX6_wrong 43 = .ok (.invokevirtual 182, 3) := by decide +kernel
theorem dX6_wrong_46 : decode cX6_wrong 46 = .ok (.istore 4, 2) := by decide +kernel
theorem dX6_wrong_48 : decode cX6_wrong 48 = .ok (.iload 4, 2) := by decide +kernel
theorem dX6_wrong_50 : decode cX6_wrong 50 = .ok (.aload_n 0, 1) := by decide +kernel
theorem dX6_wrong_51 : decode cX6_wrong 51 = .ok (.getfield 26, 3) := by decide +kernel
theorem dX6_wrong_54 : decode cX6_wrong 54 = .ok (.getfield 66, 3) := by decide +kernel
theorem dX6_wrong_57 : decode cX6_wrong 57 = .ok (.iload_n 3, 1) := by decide +kernel
theorem dX6_wrong_58 : decode cX6_wrong 58 = .ok (.invokevirtual 176, 3) := by decide +kernel
theorem dX6_wrong_61 : decode cX6_wrong 61 = .ok (.if_icmp .eq 6, 3) := by decide +kernel
theorem dX6_wrong_64 : decode cX6_wrong 64 = .ok (.iinc 2 1, 3) := by decide +kernel
theorem dX6_wrong_67 : decode cX6_wrong 67 = .ok (.iinc 3 1, 3) := by decide +kernel
theorem dX6_wrong_70 : decode cX6_wrong 70 = .ok (.goto (-55), 3) := by decide +kernel
theorem dX6_wrong_73 : decode cX6_wrong 73 = .ok (.iload_n 2, 1) := by decide +kernel
theorem dX6_wrong_74 : decode cX6_wrong 74 = .ok (.ireturn, 1) := by decide +kernel
theorem dX6_sees_0 : decode cX6_sees 0 = .ok (.aload_n 0, 1) := by decide +kernel
theorem dX6_sees_1 : decode cX6_sees 1 = .ok (.iload_n 1, 1) := by decide +kernel
theorem dX6_sees_2 : decode cX6_sees 2 = .ok (.invokevirtual 143, 3) := by decide +kernel
theorem dX6_sees_5 : decode cX6_sees 5 = .ok (.ifCond .eq 5, 3) := by decide +kernel
theorem dX6_sees_8 : decode cX6_sees 8 = .ok (.iconst (-1), 1) := by decide +kernel
theorem dX6_sees_9 : decode cX6_sees 9 = .ok (.ireturn, 1) := by decide +kernel
theorem dX6_sees_10 : decode cX6_sees 10 = .ok (.aload_n 0, 1) := by decide +kernel
theorem dX6_sees_11 : decode cX6_sees 11 = .ok (.getfield 96, 3) := by decide +kernel
theorem dX6_sees_14 : decode cX6_sees 14 = .ok (.ifCond .lt 12, 3) := by decide +kernel
theorem dX6_sees_17 : decode cX6_sees 17 = .ok (.aload_n 0, 1) := by decide +kernel
theorem dX6_sees_18 : decode cX6_sees 18 = .ok (.getfield 96, 3) := by decide +kernel
theorem dX6_sees_21 : decode cX6_sees 21 = .ok (.bipush 6, 2) := by decide +kernel
theorem dX6_sees_23 : decode cX6_sees 23 = .ok (.if_icmp .lt 6, 3) := by decide +kernel
theorem dX6_sees_26 : decode cX6_sees 26 = .ok (.bipush (-3), 2) := by decide +kernel
theorem dX6_sees_28 : decode cX6_sees 28 = .ok (.ireturn, 1) := by decide +kernel
theorem dX6_sees_29 : decode cX6_sees 29 = .ok (.aload_n 0, 1) := by decide +kernel
theorem dX6_sees_30 : decode cX6_sees 30 = .ok (.getfield 55, 3) := by decide +kernel
theorem dX6_sees_33 : decode cX6_sees 33 = .ok (.aload_n 0, 1) := by decide +kernel
theorem dX6_sees_34 : decode cX6_sees 34 = .ok (.getfield 96, 3) := by decide +kernel
theorem dX6_sees_37 : decode cX6_sees 37 = .ok (.iload_n 1, 1) := by decide +kernel
theorem dX6_sees_38 : decode cX6_sees 38 = .ok (.iastore, 1) := by decide +kernel
theorem dX6_sees_39 : decode cX6_sees 39 = .ok (.aload_n 0, 1) := by decide +kernel
theorem dX6_sees_40 : decode cX6_sees 40 = .ok (.dup, 1) := by decide +kernel
theorem dX6_sees_41 : decode cX6_sees 41 = .ok (.getfield 96, 3) := by decide +kernel
theorem dX6_sees_44 : decode cX6_sees 44 = .ok (.iconst 1, 1) := by decide +kernel
theorem dX6_sees_45 : decode cX6_sees 45 = .ok (.iadd, 1) := by decide +kernel
theorem dX6_sees_46 : decode cX6_sees 46 = .ok (.putfield 96, 3) := by decide +kernel
theorem dX6_sees_49 : decode cX6_sees 49 = .ok (.aload_n 0, 1) := by decide +kernel
theorem dX6_sees_50 : decode cX6_sees 50 = .ok (.getfield 96, 3) := by decide +kernel
theorem dX6_sees_53 : decode cX6_sees 53 = .ok (.ireturn, 1) := by decide +kernel
theorem dX6_forget_0 : decode cX6_forget 0 = .ok (.aload_n 0, 1) := by decide +kernel
theorem dX6_forget_1 : decode cX6_forget 1 = .ok (.getfield 96, 3) := by decide +kernel
theorem dX6_forget_4 : decode cX6_forget 4 = .ok (.istore_n 1, 1) := by decide +kernel
theorem dX6_forget_5 : decode cX6_forget 5 = .ok (.aload_n 0, 1) := by decide +kernel
theorem dX6_forget_6 : decode cX6_forget 6 = .ok (.iconst 0, 1) := by decide +kernel
theorem dX6_forget_7 : decode cX6_forget 7 = .ok (.putfield 96, 3) := by decide +kernel
theorem dX6_forget_10 : decode cX6_forget 10 = .ok (.iload_n 1, 1) := by decide +kernel
theorem dX6_forget_11 : decode cX6_forget 11 = .ok (.ireturn, 1) := by decide +kernel
theorem dX6_which_0 : decode cX6_which 0 = .ok (.iload_n 1, 1) := by decide +kernel
theorem dX6_which_1 : decode cX6_which 1 = .ok (.ifCond .lt 8, 3) := by decide +kernel
theorem dX6_which_4 : decode cX6_which 4 = .ok (.iload_n 1, 1) := by decide +kernel
theorem dX6_which_5 : decode cX6_which 5 = .ok (.iconst 1, 1) := by decide +kernel
theorem dX6_which_6 : decode cX6_which 6 = .ok (.if_icmp .le 5, 3) := by decide +kernel
theorem dX6_which_9 : decode cX6_which 9 = .ok (.iconst (-1), 1) := by decide +kernel
theorem dX6_which_10 : decode cX6_which 10 = .ok (.ireturn, 1) := by decide +kernel
theorem dX6_which_11 : decode cX6_which 11 = .ok (.iload_n 1, 1) := by decide +kernel
theorem dX6_which_12 : decode cX6_which 12 = .ok (.ifCond .ne 10, 3) := by decide +kernel
theorem dX6_which_15 : decode cX6_which 15 = .ok (.aload_n 0, 1) := by decide +kernel
theorem dX6_which_16 : decode cX6_which 16 = .ok (.invokevirtual 185, 3) := by decide +kernel
theorem dX6_which_19 : decode cX6_which 19 = .ok (.goto 7, 3) := by decide +kernel
theorem dX6_which_22 : decode cX6_which 22 = .ok (.aload_n 0, 1) := by decide +kernel
theorem dX6_which_23 : decode cX6_which 23 = .ok (.invokevirtual 188, 3) := by decide +kernel
theorem dX6_which_26 : decode cX6_which 26 = .ok (.ireturn, 1) := by decide +kernel
theorem dX6_ask_0 : decode cX6_ask 0 = .ok (.aload_n 0, 1) := by decide +kernel
theorem dX6_ask_1 : decode cX6_ask 1 = .ok (.invokevirtual 188, 3) := by decide +kernel
theorem dX6_ask_4 : decode cX6_ask 4 = .ok (.istore_n 1, 1) := by decide +kernel
theorem dX6_ask_5 : decode cX6_ask 5 = .ok (.iload_n 1, 1) := by decide +kernel
theorem dX6_ask_6 : decode cX6_ask 6 = .ok (.invokestatic 191, 3) := by decide +kernel
theorem dX6_ask_9 : decode cX6_ask 9 = .ok (.iconst 2, 1) := by decide +kernel
theorem dX6_ask_10 : decode cX6_ask 10 = .ok (.if_icmp .ge 6, 3) := by decide +kernel
theorem dX6_ask_13 : decode cX6_ask 13 = .ok (.bipush (-9), 2) := by decide +kernel
theorem dX6_ask_15 : decode cX6_ask 15 = .ok (.ireturn, 1) := by decide +kernel
theorem dX6_ask_16 : decode cX6_ask 16 = .ok (.bipush (-9), 2) := by decide +kernel
theorem dX6_ask_18 : decode cX6_ask 18 = .ok (.istore_n 2, 1) := by decide +kernel
theorem dX6_ask_19 : decode cX6_ask 19 = .ok (.bipush 8, 2) := by decide +kernel
theorem dX6_ask_21 : decode cX6_ask 21 = .ok (.istore_n 3, 1) := by decide +kernel
theorem dX6_ask_22 : decode cX6_ask 22 = .ok (.iconst 0, 1) := by decide +kernel
theorem dX6_ask_23 : decode cX6_ask 23 = .ok (.istore 4, 2) := by decide +kernel
theorem dX6_ask_25 : decode cX6_ask 25 = .ok (.iload 4, 2) := by decide +kernel
theorem dX6_ask_27 : decode cX6_ask 27 = .ok (.aload_n 0, 1) := by decide +kernel
theorem dX6_ask_28 : decode cX6_ask 28 = .ok (.getfield 26, 3) := by decide +kernel
theorem dX6_ask_31 : decode cX6_ask 31 = .ok (.getfield 59, 3) := by decide +kernel
theorem dX6_ask_34 : decode cX6_ask 34 = .ok (.invokevirtual 102, 3) := by decide +kernel
theorem dX6_ask_37 : decode cX6_ask 37 = .ok (.if_icmp .ge 33, 3) := by decide +kernel
theorem dX6_ask_40 : decode cX6_ask 40 = .ok (.aload_n 0, 1) := by decide +kernel
theorem dX6_ask_41 : decode cX6_ask 41 = .ok (.getfield 33, 3) := by decide +kernel
theorem dX6_ask_44 : decode cX6_ask 44 = .ok (.iload_n 1, 1) := by decide +kernel
theorem dX6_ask_45 : decode cX6_ask 45 = .ok (.iload 4, 2) := by decide +kernel
theorem dX6_ask_47 : decode cX6_ask 47 = .ok (.invokevirtual 196, 3) := by decide +kernel
theorem dX6_ask_50 : decode cX6_ask 50 = .ok (.istore 5, 2) := by decide +kernel
theorem dX6_ask_52 : decode cX6_ask 52 = .ok (.iload 5, 2) := by decide +kernel
theorem dX6_ask_54 : decode cX6_ask 54 = .ok (.iload_n 3, 1) := by decide +kernel
theorem dX6_ask_55 : decode cX6_ask 55 = .ok (.if_icmp .ge 9, 3) := by decide +kernel
theorem dX6_ask_58 : decode cX6_ask 58 = .ok (.iload 5, 2) := by decide +kernel
theorem dX6_ask_60 : decode cX6_ask 60 = .ok (.istore_n 3, 1) := by decide +kernel
theorem dX6_ask_61 : decode cX6_ask 61 = .ok (.iload 4, 2) := by decide +kernel
theorem dX6_ask_63 : decode cX6_ask 63 = .ok (.istore_n 2, 1) := by decide +kernel
theorem dX6_ask_64 : decode cX6_ask 64 = .ok (.iinc 4 1, 3) := by decide +kernel
theorem dX6_ask_67 : decode cX6_ask 67 = .ok (.goto (-42), 3) := by decide +kernel
theorem dX6_ask_70 : decode cX6_ask 70 = .ok (.iload_n 2, 1) := by decide +kernel
theorem dX6_ask_71 : decode cX6_ask 71 = .ok (.ireturn, 1) := by decide +kernel
theorem dX6_keep_0 : decode cX6_keep 0 = .ok (.iload_n 1, 1) := by decide +kernel
theorem dX6_keep_1 : decode cX6_keep 1 = .ok (.invokestatic 199, 3) := by decide +kernel
theorem dX6_keep_4 : decode cX6_keep 4 = .ok (.ifCond .eq 5, 3) := by decide +kernel
theorem dX6_keep_7 : decode cX6_keep 7 = .ok (.iconst (-1), 1) := by decide +kernel
theorem dX6_keep_8 : decode cX6_keep 8 = .ok (.ireturn, 1) := by decide +kernel
theorem dX6_keep_9 : decode cX6_keep 9 = .ok (.aload_n 0, 1) := by decide +kernel
theorem dX6_keep_10 : decode cX6_keep 10 = .ok (.getfield 48, 3) := by decide +kernel
theorem dX6_keep_13 : decode cX6_keep 13 = .ok (.iload_n 1, 1) := by decide +kernel
theorem dX6_keep_14 : decode cX6_keep 14 = .ok (.aaload, 1) := by decide +kernel
theorem dX6_keep_15 : decode cX6_keep 15 = .ok (.astore_n 2, 1) := by decide +kernel
theorem dX6_keep_16 : decode cX6_keep 16 = .ok (.aload_n 2, 1) := by decide +kernel
theorem dX6_keep_17 : decode cX6_keep 17 = .ok (.ifnonnull 5, 3) := by decide +kernel
theorem dX6_keep_20 : decode cX6_keep 20 = .ok (.iconst (-1), 1) := by decide +kernel
theorem dX6_keep_21 : decode cX6_keep 21 = .ok (.ireturn, 1) := by decide +kernel
theorem dX6_keep_22 : decode cX6_keep 22 = .ok (.aload_n 2, 1) := by decide +kernel
theorem dX6_keep_23 : decode cX6_keep 23 = .ok (.aload_n 0, 1) := by decide +kernel
theorem dX6_keep_24 : decode cX6_keep 24 = .ok (.getfield 26, 3) := by decide +kernel
theorem dX6_keep_27 : decode cX6_keep 27 = .ok (.invokevirtual 202, 3) := by decide +kernel
theorem dX6_keep_30 : decode cX6_keep 30 = .ok (.aload_n 0, 1) := by decide +kernel
theorem dX6_keep_31 : decode cX6_keep 31 = .ok (.getfield 51, 3) := by decide +kernel
theorem dX6_keep_34 : decode cX6_keep 34 = .ok (.iload_n 1, 1) := by decide +kernel
theorem dX6_keep_35 : decode cX6_keep 35 = .ok (.iconst 1, 1) := by decide +kernel
theorem dX6_keep_36 : decode cX6_keep 36 = .ok (.bastore, 1) := by decide +kernel
theorem dX6_keep_37 : decode cX6_keep 37 = .ok (.aload_n 0, 1) := by decide +kernel
theorem dX6_keep_38 : decode cX6_keep 38 = .ok (.getfield 26, 3) := by decide +kernel
theorem dX6_keep_41 : decode cX6_keep 41 = .ok (.getfield 66, 3) := by decide +kernel
theorem dX6_keep_44 : decode cX6_keep 44 = .ok (.getfield 109, 3) := by decide +kernel
theorem dX6_keep_47 : decode cX6_keep 47 = .ok (.ireturn, 1) := by decide +kernel
theorem dX6_back_0 : decode cX6_back 0 = .ok (.iload_n 1, 1) := by decide +kernel
theorem dX6_back_1 : decode cX6_back 1 = .ok (.invokestatic 199, 3) := by decide +kernel
theorem dX6_back_4 : decode cX6_back 4 = .ok (.ifCond .eq 5, 3) := by decide +kernel
theorem dX6_back_7 : decode cX6_back 7 = .ok (.iconst (-1), 1) := by decide +kernel
theorem dX6_back_8 : decode cX6_back 8 = .ok (.ireturn, 1) := by decide +kernel
theorem dX6_back_9 : decode cX6_back 9 = .ok (.aload_n 0, 1) := by decide +kernel
theorem dX6_back_10 : decode cX6_back 10 = .ok (.getfield 51, 3) := by decide +kernel
theorem dX6_back_13 : decode cX6_back 13 = .ok (.iload_n 1, 1) := by decide +kernel
theorem dX6_back_14 : decode cX6_back 14 = .ok (.baload, 1) := by decide +kernel
theorem dX6_back_15 : decode cX6_back 15 = .ok (.ifCond .ne 6, 3) := by decide +kernel
theorem dX6_back_18 : decode cX6_back 18 = .ok (.bipush (-2), 2) := by decide +kernel
theorem dX6_back_20 : decode cX6_back 20 = .ok (.ireturn, 1) := by decide +kernel
theorem dX6_back_21 : decode cX6_back 21 = .ok (.aload_n 0, 1) := by decide +kernel
theorem dX6_back_22 : decode cX6_back 22 = .ok (.aload_n 0, 1) := by decide +kernel
theorem dX6_back_23 : decode cX6_back 23 = .ok (.getfield 48, 3) := by decide +kernel
theorem dX6_back_26 : decode cX6_back 26 = .ok (.iload_n 1, 1) := by decide +kernel
theorem dX6_back_27 : decode cX6_back 27 = .ok (.aaload, 1) := by decide +kernel
theorem dX6_back_28 : decode cX6_back 28 = .ok (.invokevirtual 132, 3) := by decide +kernel
theorem dX6_back_31 : decode cX6_back 31 = .ok (.aload_n 0, 1) := by decide +kernel
theorem dX6_back_32 : decode cX6_back 32 = .ok (.iconst 0, 1) := by decide +kernel
theorem dX6_back_33 : decode cX6_back 33 = .ok (.putfield 129, 3) := by decide +kernel
theorem dX6_back_36 : decode cX6_back 36 = .ok (.aload_n 0, 1) := by decide +kernel
theorem dX6_back_37 : decode cX6_back 37 = .ok (.getfield 26, 3) := by decide +kernel
theorem dX6_back_40 : decode cX6_back 40 = .ok (.getfield 66, 3) := by decide +kernel
theorem dX6_back_43 : decode cX6_back 43 = .ok (.getfield 109, 3) := by decide +kernel
theorem dX6_back_46 : decode cX6_back 46 = .ok (.ireturn, 1) := by decide +kernel
theorem dX6_count_0 : decode cX6_count 0 = .ok (.iload_n 1, 1) := by decide +kernel
theorem dX6_count_1 : decode cX6_count 1 = .ok (.tableswitch 183 0 12 #[67, 75, 86, 97, 108, 116, 124, 135, 143, 154, 165, 170, 178], 67) := by decide +kernel
theorem dX6_count_68 : decode cX6_count 68 = .ok (.aload_n 0, 1) := by decide +kernel
theorem dX6_count_69 : decode cX6_count 69 = .ok (.getfield 33, 3) := by decide +kernel
theorem dX6_count_72 : decode cX6_count 72 = .ok (.getfield 99, 3) := by decide +kernel
theorem dX6_count_75 : decode cX6_count 75 = .ok (.ireturn, 1) := by decide +kernel
theorem dX6_count_76 : decode cX6_count 76 = .ok (.aload_n 0, 1) := by decide +kernel
theorem dX6_count_77 : decode cX6_count 77 = .ok (.getfield 26, 3) := by decide +kernel
theorem dX6_count_80 : decode cX6_count 80 = .ok (.getfield 59, 3) := by decide +kernel
theorem dX6_count_83 : decode cX6_count 83 = .ok (.invokevirtual 204, 3) := by decide +kernel
theorem dX6_count_86 : decode cX6_count 86 = .ok (.ireturn, 1) := by decide +kernel
theorem dX6_count_87 : decode cX6_count 87 = .ok (.aload_n 0, 1) := by decide +kernel
theorem dX6_count_88 : decode cX6_count 88 = .ok (.getfield 26, 3) := by decide +kernel
theorem dX6_count_91 : decode cX6_count 91 = .ok (.getfield 59, 3) := by decide +kernel
theorem dX6_count_94 : decode cX6_count 94 = .ok (.getfield 156, 3) := by decide +kernel
theorem dX6_count_97 : decode cX6_count 97 = .ok (.ireturn, 1) := by decide +kernel
theorem dX6_count_98 : decode cX6_count 98 = .ok (.aload_n 0, 1) := by decide +kernel
theorem dX6_count_99 : decode cX6_count 99 = .ok (.getfield 26, 3) := by decide +kernel
theorem dX6_count_102 : decode cX6_count 102 = .ok (.getfield 59, 3) := by decide +kernel
theorem dX6_count_105 : decode cX6_count 105 = .ok (.getfield 123, 3) := by decide +kernel
theorem dX6_count_108 : decode cX6_count 108 = .ok (.ireturn, 1) := by decide +kernel
theorem dX6_count_109 : decode cX6_count 109 = .ok (.aload_n 0, 1) := by decide +kernel
theorem dX6_count_110 : decode cX6_count 110 = .ok (.getfield 33, 3) := by decide +kernel
theorem dX6_count_113 : decode cX6_count 113 = .ok (.getfield 106, 3) := by decide +kernel
theorem dX6_count_116 : decode cX6_count 116 = .ok (.ireturn, 1) := by decide +kernel
theorem dX6_count_117 : decode cX6_count 117 = .ok (.aload_n 0, 1) := by decide +kernel
theorem dX6_count_118 : decode cX6_count 118 = .ok (.getfield 33, 3) := by decide +kernel
theorem dX6_count_121 : decode cX6_count 121 = .ok (.getfield 70, 3) := by decide +kernel
theorem dX6_count_124 : decode cX6_count 124 = .ok (.ireturn, 1) := by decide +kernel
theorem dX6_count_125 : decode cX6_count 125 = .ok (.aload_n 0, 1) := by decide +kernel
theorem dX6_count_126 : decode cX6_count 126 = .ok (.getfield 26, 3) := by decide +kernel
theorem dX6_count_129 : decode cX6_count 129 = .ok (.getfield 66, 3) := by decide +kernel
theorem dX6_count_132 : decode cX6_count 132 = .ok (.getfield 110, 3) := by decide +kernel
theorem dX6_count_135 : decode cX6_count 135 = .ok (.ireturn, 1) := by decide +kernel
theorem dX6_count_136 : decode cX6_count 136 = .ok (.aload_n 0, 1) := by decide +kernel
theorem dX6_count_137 : decode cX6_count 137 = .ok (.getfield 33, 3) := by decide +kernel
theorem dX6_count_140 : decode cX6_count 140 = .ok (.getfield 207, 3) := by decide +kernel
theorem dX6_count_143 : decode cX6_count 143 = .ok (.ireturn, 1) := by decide +kernel
theorem dX6_count_144 : decode cX6_count 144 = .ok (.aload_n 0, 1) := by decide +kernel
theorem dX6_count_145 : decode cX6_count 145 = .ok (.getfield 26, 3) := by decide +kernel
theorem dX6_count_148 : decode cX6_count 148 = .ok (.getfield 66, 3) := by decide +kernel
theorem dX6_count_151 : decode cX6_count 151 = .ok (.getfield 109, 3) := by decide +kernel
theorem dX6_count_154 : decode cX6_count 154 = .ok (.ireturn, 1) := by decide +kernel
theorem dX6_count_155 : decode cX6_count 155 = .ok (.aload_n 0, 1) := by decide +kernel
theorem dX6_count_156 : decode cX6_count 156 = .ok (.getfield 26, 3) := by decide +kernel
theorem dX6_count_159 : decode cX6_count 159 = .ok (.getfield 66, 3) := by decide +kernel
theorem dX6_count_162 : decode cX6_count 162 = .ok (.invokevirtual 210, 3) := by decide +kernel
theorem dX6_count_165 : decode cX6_count 165 = .ok (.ireturn, 1) := by decide +kernel
theorem dX6_count_166 : decode cX6_count 166 = .ok (.aload_n 0, 1) := by decide +kernel
theorem dX6_count_167 : decode cX6_count 167 = .ok (.getfield 96, 3) := by decide +kernel
theorem dX6_count_170 : decode cX6_count 170 = .ok (.ireturn, 1) := by decide +kernel
theorem dX6_count_171 : decode cX6_count 171 = .ok (.aload_n 0, 1) := by decide +kernel
theorem dX6_count_172 : decode cX6_count 172 = .ok (.getfield 10, 3) := by decide +kernel
theorem dX6_count_175 : decode cX6_count 175 = .ok (.getfield 80, 3) := by decide +kernel
theorem dX6_count_178 : decode cX6_count 178 = .ok (.ireturn, 1) := by decide +kernel
theorem dX6_count_179 : decode cX6_count 179 = .ok (.aload_n 0, 1) := by decide +kernel
theorem dX6_count_180 : decode cX6_count 180 = .ok (.getfield 129, 3) := by decide +kernel
theorem dX6_count_183 : decode cX6_count 183 = .ok (.ireturn, 1) := by decide +kernel
theorem dX6_count_184 : decode cX6_count 184 = .ok (.iconst (-1), 1) := by decide +kernel
theorem dX6_count_185 : decode cX6_count 185 = .ok (.ireturn, 1) := by decide +kernel
theorem dX6_isNoState_0 : decode cX6_isNoState 0 = .ok (.iload_n 1, 1) := by decide +kernel
theorem dX6_isNoState_1 : decode cX6_isNoState 1 = .ok (.ifCond .lt 14, 3) := by decide +kernel
theorem dX6_isNoState_4 : decode cX6_isNoState 4 = .ok (.iload_n 1, 1) := by decide +kernel
theorem dX6_isNoState_5 : decode cX6_isNoState 5 = .ok (.aload_n 0, 1) := by decide +kernel
theorem dX6_isNoState_6 : decode cX6_isNoState 6 = .ok (.getfield 33, 3) := by decide +kernel
theorem dX6_isNoState_9 : decode cX6_isNoState 9 = .ok (.getfield 99, 3) := by decide +kernel
theorem dX6_isNoState_12 : decode cX6_isNoState 12 = .ok (.if_icmp .lt 7, 3) := by decide +kernel
theorem dX6_isNoState_15 : decode cX6_isNoState 15 = .ok (.iconst 1, 1) := by decide +kernel
theorem dX6_isNoState_16 : decode cX6_isNoState 16 = .ok (.goto 4, 3) := by decide +kernel
theorem dX6_isNoState_19 : decode cX6_isNoState 19 = .ok (.iconst 0, 1) := by decide +kernel
theorem dX6_isNoState_20 : decode cX6_isNoState 20 = .ok (.ireturn, 1) := by decide +kernel
theorem dX6_isNoWord_0 : decode cX6_isNoWord 0 = .ok (.iload_n 1, 1) := by decide +kernel
theorem dX6_isNoWord_1 : decode cX6_isNoWord 1 = .ok (.ifCond .lt 17, 3) := by decide +kernel
theorem dX6_isNoWord_4 : decode cX6_isNoWord 4 = .ok (.iload_n 1, 1) := by decide +kernel
theorem dX6_isNoWord_5 : decode cX6_isNoWord 5 = .ok (.aload_n 0, 1) := by decide +kernel
theorem dX6_isNoWord_6 : decode cX6_isNoWord 6 = .ok (.getfield 26, 3) := by decide +kernel
theorem dX6_isNoWord_9 : decode cX6_isNoWord 9 = .ok (.getfield 59, 3) := by decide +kernel
theorem dX6_isNoWord_12 : decode cX6_isNoWord 12 = .ok (.invokevirtual 213, 3) := by decide +kernel
theorem dX6_isNoWord_15 : decode cX6_isNoWord 15 = .ok (.if_icmp .lt 7, 3) := by decide +kernel
theorem dX6_isNoWord_18 : decode cX6_isNoWord 18 = .ok (.iconst 1, 1) := by decide +kernel
theorem dX6_isNoWord_19 : decode cX6_isNoWord 19 = .ok (.goto 4, 3) := by decide +kernel
theorem dX6_isNoWord_22 : decode cX6_isNoWord 22 = .ok (.iconst 0, 1) := by decide +kernel
theorem dX6_isNoWord_23 : decode cX6_isNoWord 23 = .ok (.ireturn, 1) := by decide +kernel
theorem dX6_isNoImage_0 : decode cX6_isNoImage 0 = .ok (.iload_n 0, 1) := by decide +kernel
theorem dX6_isNoImage_1 : decode cX6_isNoImage 1 = .ok (.ifCond .lt 8, 3) := by decide +kernel
theorem dX6_isNoImage_4 : decode cX6_isNoImage 4 = .ok (.iload_n 0, 1) := by decide +kernel
theorem dX6_isNoImage_5 : decode cX6_isNoImage 5 = .ok (.iconst 2, 1) := by decide +kernel
theorem dX6_isNoImage_6 : decode cX6_isNoImage 6 = .ok (.if_icmp .lt 7, 3) := by decide +kernel
theorem dX6_isNoImage_9 : decode cX6_isNoImage 9 = .ok (.iconst 1, 1) := by decide +kernel
theorem dX6_isNoImage_10 : decode cX6_isNoImage 10 = .ok (.goto 4, 3) := by decide +kernel
theorem dX6_isNoImage_13 : decode cX6_isNoImage 13 = .ok (.iconst 0, 1) := by decide +kernel
theorem dX6_isNoImage_14 : decode cX6_isNoImage 14 = .ok (.ireturn, 1) := by decide +kernel
theorem dX6_remember_0 : decode cX6_remember 0 = .ok (.aload_n 0, 1) := by decide +kernel
theorem dX6_remember_1 : decode cX6_remember 1 = .ok (.getfield 129, 3) := by decide +kernel
theorem dX6_remember_4 : decode cX6_remember 4 = .ok (.bipush 6, 2) := by decide +kernel
theorem dX6_remember_6 : decode cX6_remember 6 = .ok (.if_icmp .lt 50, 3) := by decide +kernel
theorem dX6_remember_9 : decode cX6_remember 9 = .ok (.aload_n 0, 1) := by decide +kernel
theorem dX6_remember_10 : decode cX6_remember 10 = .ok (.getfield 44, 3) := by decide +kernel
theorem dX6_remember_13 : decode cX6_remember 13 = .ok (.iconst 0, 1) := by decide +kernel
theorem dX6_remember_14 : decode cX6_remember 14 = .ok (.aaload, 1) := by decide +kernel
theorem dX6_remember_15 : decode cX6_remember 15 = .ok (.astore_n 1, 1) := by decide +kernel
theorem dX6_remember_16 : decode cX6_remember 16 = .ok (.iconst 1, 1) := by decide +kernel
theorem dX6_remember_17 : decode cX6_remember 17 = .ok (.istore_n 2, 1) := by decide +kernel
theorem dX6_remember_18 : decode cX6_remember 18 = .ok (.iload_n 2, 1) := by decide +kernel
theorem dX6_remember_19 : decode cX6_remember 19 = .ok (.bipush 6, 2) := by decide +kernel
theorem dX6_remember_21 : decode cX6_remember 21 = .ok (.if_icmp .ge 23, 3) := by decide +kernel
theorem dX6_remember_24 : decode cX6_remember 24 = .ok (.aload_n 0, 1) := by decide +kernel
theorem dX6_remember_25 : decode cX6_remember 25 = .ok (.getfield 44, 3) := by decide +kernel
theorem dX6_remember_28 : decode cX6_remember 28 = .ok (.iload_n 2, 1) := by decide +kernel
theorem dX6_remember_29 : decode cX6_remember 29 = .ok (.iconst 1, 1) := by decide +kernel
theorem dX6_remember_30 : decode cX6_remember 30 = .ok (.isub, 1) := by decide +kernel
theorem dX6_remember_31 : decode cX6_remember 31 = .ok (.aload_n 0, 1) := by decide +kernel
theorem dX6_remember_32 : decode cX6_remember 32 = .ok (.getfield 44, 3) := by decide +kernel
theorem dX6_remember_35 : decode cX6_remember 35 = .ok (.iload_n 2, 1) := by decide +kernel
theorem dX6_remember_36 : decode cX6_remember 36 = .ok (.aaload, 1) := by decide +kernel
theorem dX6_remember_37 : decode cX6_remember 37 = .ok (.aastore, 1) := by decide +kernel
theorem dX6_remember_38 : decode cX6_remember 38 = .ok (.iinc 2 1, 3) := by decide +kernel
theorem dX6_remember_41 : decode cX6_remember 41 = .ok (.goto (-23), 3) := by decide +kernel
theorem dX6_remember_44 : decode cX6_remember 44 = .ok (.aload_n 0, 1) := by decide +kernel
theorem dX6_remember_45 : decode cX6_remember 45 = .ok (.getfield 44, 3) := by decide +kernel
theorem dX6_remember_48 : decode cX6_remember 48 = .ok (.iconst 5, 1) := by decide +kernel
theorem dX6_remember_49 : decode cX6_remember 49 = .ok (.aload_n 1, 1) := by decide +kernel
theorem dX6_remember_50 : decode cX6_remember 50 = .ok (.aastore, 1) := by decide +kernel
theorem dX6_remember_51 : decode cX6_remember 51 = .ok (.aload_n 0, 1) := by decide +kernel
theorem dX6_remember_52 : decode cX6_remember 52 = .ok (.iconst 5, 1) := by decide +kernel
theorem dX6_remember_53 : decode cX6_remember 53 = .ok (.putfield 129, 3) := by decide +kernel
theorem dX6_remember_56 : decode cX6_remember 56 = .ok (.aload_n 0, 1) := by decide +kernel
theorem dX6_remember_57 : decode cX6_remember 57 = .ok (.getfield 129, 3) := by decide +kernel
theorem dX6_remember_60 : decode cX6_remember 60 = .ok (.ifCond .ge 7, 3) := by decide +kernel
theorem dX6_remember_63 : decode cX6_remember 63 = .ok (.aconst_null, 1) := by decide +kernel
theorem dX6_remember_64 : decode cX6_remember 64 = .ok (.goto 12, 3) := by decide +kernel
theorem dX6_remember_67 : decode cX6_remember 67 = .ok (.aload_n 0, 1) := by decide +kernel
theorem dX6_remember_68 : decode cX6_remember 68 = .ok (.getfield 44, 3) := by decide +kernel
theorem dX6_remember_71 : decode cX6_remember 71 = .ok (.aload_n 0, 1) := by decide +kernel
theorem dX6_remember_72 : decode cX6_remember 72 = .ok (.getfield 129, 3) := by decide +kernel
theorem dX6_remember_75 : decode cX6_remember 75 = .ok (.aaload, 1) := by decide +kernel
theorem dX6_remember_76 : decode cX6_remember 76 = .ok (.astore_n 1, 1) := by decide +kernel
theorem dX6_remember_77 : decode cX6_remember 77 = .ok (.aload_n 1, 1) := by decide +kernel
theorem dX6_remember_78 : decode cX6_remember 78 = .ok (.ifnull 21, 3) := by decide +kernel
theorem dX6_remember_81 : decode cX6_remember 81 = .ok (.aload_n 1, 1) := by decide +kernel
theorem dX6_remember_82 : decode cX6_remember 82 = .ok (.aload_n 0, 1) := by decide +kernel
theorem dX6_remember_83 : decode cX6_remember 83 = .ok (.getfield 26, 3) := by decide +kernel
theorem dX6_remember_86 : decode cX6_remember 86 = .ok (.invokevirtual 202, 3) := by decide +kernel
theorem dX6_remember_89 : decode cX6_remember 89 = .ok (.aload_n 0, 1) := by decide +kernel
theorem dX6_remember_90 : decode cX6_remember 90 = .ok (.dup, 1) := by decide +kernel
theorem dX6_remember_91 : decode cX6_remember 91 = .ok (.getfield 129, 3) := by decide +kernel
theorem dX6_remember_94 : decode cX6_remember 94 = .ok (.iconst 1, 1) := by decide +kernel
theorem dX6_remember_95 : decode cX6_remember 95 = .ok (.iadd, 1) := by decide +kernel
theorem dX6_remember_96 : decode cX6_remember 96 = .ok (.putfield 129, 3) := by decide +kernel
theorem dX6_remember_99 : decode cX6_remember 99 = .ok (.return_, 1) := by decide +kernel
theorem dX6_become_0 : decode cX6_become 0 = .ok (.aload_n 1, 1) := by decide +kernel
theorem dX6_become_1 : decode cX6_become 1 = .ok (.ifnull 25, 3) := by decide +kernel
theorem dX6_become_4 : decode cX6_become 4 = .ok (.aload_n 0, 1) := by decide +kernel
theorem dX6_become_5 : decode cX6_become 5 = .ok (.getfield 26, 3) := by decide +kernel
theorem dX6_become_8 : decode cX6_become 8 = .ok (.aload_n 1, 1) := by decide +kernel
theorem dX6_become_9 : decode cX6_become 9 = .ok (.invokevirtual 202, 3) := by decide +kernel
theorem dX6_become_12 : decode cX6_become 12 = .ok (.aload_n 0, 1) := by decide +kernel
theorem dX6_become_13 : decode cX6_become 13 = .ok (.getfield 33, 3) := by decide +kernel
theorem dX6_become_16 : decode cX6_become 16 = .ok (.aload_n 0, 1) := by decide +kernel
theorem dX6_become_17 : decode cX6_become 17 = .ok (.getfield 26, 3) := by decide +kernel
theorem dX6_become_20 : decode cX6_become 20 = .ok (.getfield 59, 3) := by decide +kernel
theorem dX6_become_23 : decode cX6_become 23 = .ok (.invokevirtual 62, 3) := by decide +kernel
theorem dX6_become_26 : decode cX6_become 26 = .ok (.return_, 1) := by decide +kernel
theorem dX6_readByStates_0 : decode cX6_readByStates 0 = .ok (.aload_n 0, 1) := by decide +kernel
theorem dX6_readByStates_1 : decode cX6_readByStates 1 = .ok (.getfield 33, 3) := by decide +kernel
theorem dX6_readByStates_4 : decode cX6_readByStates 4 = .ok (.getfield 70, 3) := by decide +kernel
theorem dX6_readByStates_7 : decode cX6_readByStates 7 = .ok (.istore_n 2, 1) := by decide +kernel
theorem dX6_readByStates_8 : decode cX6_readByStates 8 = .ok (.bipush (-9), 2) := by decide +kernel
theorem dX6_readByStates_10 : decode cX6_readByStates 10 = .ok (.istore_n 3, 1) := by decide +kernel
theorem dX6_readByStates_11 : decode cX6_readByStates 11 = .ok (.iconst 0, 1) := by decide +kernel
theorem dX6_readByStates_12 : decode cX6_readByStates 12 = .ok (.istore 4, 2) := by decide +kernel
theorem dX6_readByStates_14 : decode cX6_readByStates 14 = .ok (.iload 4, 2) := by decide +kernel
theorem dX6_readByStates_16 : decode cX6_readByStates 16 = .ok (.iload_n 1, 1) := by decide +kernel
theorem dX6_readByStates_17 : decode cX6_readByStates 17 = .ok (.if_icmp .gt 51, 3) := by decide +kernel
theorem dX6_readByStates_20 : decode cX6_readByStates 20 = .ok (.aload_n 0, 1) := by decide +kernel
theorem dX6_readByStates_21 : decode cX6_readByStates 21 = .ok (.getfield 26, 3) := by decide +kernel
theorem dX6_readByStates_24 : decode cX6_readByStates 24 = .ok (.getfield 66, 3) := by decide +kernel
theorem dX6_readByStates_27 : decode cX6_readByStates 27 = .ok (.iload 4, 2) := by decide +kernel
theorem dX6_readByStates_29 : decode cX6_readByStates 29 = .ok (.invokevirtual 173, 3) := by decide +kernel
theorem dX6_readByStates_32 : decode cX6_readByStates 32 = .ok (.istore 5, 2) := by decide +kernel
theorem dX6_readByStates_34 : decode cX6_readByStates 34 = .ok (.aload_n 0, 1) := by decide +kernel
theorem dX6_readByStates_35 : decode cX6_readByStates 35 = .ok (.getfield 33, 3) := by decide +kernel
theorem dX6_readByStates_38 : decode cX6_readByStates 38 = .ok (.iload_n 2, 1) := by decide +kernel
theorem dX6_readByStates_39 : decode cX6_readByStates 39 = .ok (.iload 5, 2) := by decide +kernel
theorem dX6_readByStates_41 : decode cX6_readByStates 41 = .ok (.invokevirtual 146, 3) := by decide +kernel
theorem dX6_readByStates_44 : decode cX6_readByStates 44 = .ok (.istore_n 3, 1) := by decide +kernel
theorem dX6_readByStates_45 : decode cX6_readByStates 45 = .ok (.iload_n 3, 1) := by decide +kernel
theorem dX6_readByStates_46 : decode cX6_readByStates 46 = .ok (.bipush (-9), 2) := by decide +kernel
theorem dX6_readByStates_48 : decode cX6_readByStates 48 = .ok (.if_icmp .eq 14, 3) := by decide +kernel
theorem dX6_readByStates_51 : decode cX6_readByStates 51 = .ok (.aload_n 0, 1) := by decide +kernel
theorem dX6_readByStates_52 : decode cX6_readByStates 52 = .ok (.getfield 33, 3) := by decide +kernel
theorem dX6_readByStates_55 : decode cX6_readByStates 55 = .ok (.iload_n 2, 1) := by decide +kernel
theorem dX6_readByStates_56 : decode cX6_readByStates 56 = .ok (.iload 5, 2) := by decide +kernel
theorem dX6_readByStates_58 : decode cX6_readByStates 58 = .ok (.invokevirtual 117, 3) := by decide +kernel
theorem dX6_readByStates_61 : decode cX6_readByStates 61 = .ok (.istore_n 2, 1) := by decide +kernel
theorem dX6_readByStates_62 : decode cX6_readByStates 62 = .ok (.iinc 4 1, 3) := by decide +kernel
theorem dX6_readByStates_65 : decode cX6_readByStates 65 = .ok (.goto (-51), 3) := by decide +kernel
theorem dX6_readByStates_68 : decode cX6_readByStates 68 = .ok (.iload_n 3, 1) := by decide +kernel
theorem dX6_readByStates_69 : decode cX6_readByStates 69 = .ok (.ireturn, 1) := by decide +kernel
theorem dX6_readByWindow_0 : decode cX6_readByWindow 0 = .ok (.aload_n 0, 1) := by decide +kernel
theorem dX6_readByWindow_1 : decode cX6_readByWindow 1 = .ok (.getfield 33, 3) := by decide +kernel
theorem dX6_readByWindow_4 : decode cX6_readByWindow 4 = .ok (.getfield 207, 3) := by decide +kernel
theorem dX6_readByWindow_7 : decode cX6_readByWindow 7 = .ok (.istore_n 2, 1) := by decide +kernel
theorem dX6_readByWindow_8 : decode cX6_readByWindow 8 = .ok (.iload_n 2, 1) := by decide +kernel
theorem dX6_readByWindow_9 : decode cX6_readByWindow 9 = .ok (.ifCond .lt 19, 3) := by decide +kernel
theorem dX6_readByWindow_12 : decode cX6_readByWindow 12 = .ok (.iload_n 1, 1) := by decide +kernel
theorem dX6_readByWindow_13 : decode cX6_readByWindow 13 = .ok (.iload_n 2, 1) := by decide +kernel
theorem dX6_readByWindow_14 : decode cX6_readByWindow 14 = .ok (.iadd, 1) := by decide +kernel
theorem dX6_readByWindow_15 : decode cX6_readByWindow 15 = .ok (.aload_n 0, 1) := by decide +kernel
theorem dX6_readByWindow_16 : decode cX6_readByWindow 16 = .ok (.getfield 26, 3) := by decide +kernel
theorem dX6_readByWindow_19 : decode cX6_readByWindow 19 = .ok (.getfield 66, 3) := by decide +kernel
theorem dX6_readByWindow_22 : decode cX6_readByWindow 22 = .ok (.getfield 109, 3) := by decide +kernel
theorem dX6_readByWindow_25 : decode cX6_readByWindow 25 = .ok (.if_icmp .lt 6, 3) := by decide +kernel
theorem dX6_readByWindow_28 : decode cX6_readByWindow 28 = .ok (.bipush (-9), 2) := by decide +kernel
theorem dX6_readByWindow_30 : decode cX6_readByWindow 30 = .ok (.ireturn, 1) := by decide +kernel
theorem dX6_readByWindow_31 : decode cX6_readByWindow 31 = .ok (.iconst 0, 1) := by decide +kernel
theorem dX6_readByWindow_32 : decode cX6_readByWindow 32 = .ok (.istore_n 3, 1) := by decide +kernel
theorem dX6_readByWindow_33 : decode cX6_readByWindow 33 = .ok (.iload_n 3, 1) := by decide +kernel
theorem dX6_readByWindow_34 : decode cX6_readByWindow 34 = .ok (.aload_n 0, 1) := by decide +kernel
theorem dX6_readByWindow_35 : decode cX6_readByWindow 35 = .ok (.getfield 33, 3) := by decide +kernel
theorem dX6_readByWindow_38 : decode cX6_readByWindow 38 = .ok (.getfield 99, 3) := by decide +kernel
theorem dX6_readByWindow_41 : decode cX6_readByWindow 41 = .ok (.if_icmp .ge 56, 3) := by decide +kernel
theorem dX6_readByWindow_44 : decode cX6_readByWindow 44 = .ok (.aload_n 0, 1) := by decide +kernel
theorem dX6_readByWindow_45 : decode cX6_readByWindow 45 = .ok (.getfield 33, 3) := by decide +kernel
theorem dX6_readByWindow_48 : decode cX6_readByWindow 48 = .ok (.iload_n 3, 1) := by decide +kernel
theorem dX6_readByWindow_49 : decode cX6_readByWindow 49 = .ok (.aload_n 0, 1) := by decide +kernel
theorem dX6_readByWindow_50 : decode cX6_readByWindow 50 = .ok (.getfield 26, 3) := by decide +kernel
theorem dX6_readByWindow_53 : decode cX6_readByWindow 53 = .ok (.getfield 66, 3) := by decide +kernel
theorem dX6_readByWindow_56 : decode cX6_readByWindow 56 = .ok (.getfield 216, 3) := by decide +kernel
theorem dX6_readByWindow_59 : decode cX6_readByWindow 59 = .ok (.iload_n 1, 1) := by decide +kernel
theorem dX6_readByWindow_60 : decode cX6_readByWindow 60 = .ok (.iload_n 2, 1) := by decide +kernel
theorem dX6_readByWindow_61 : decode cX6_readByWindow 61 = .ok (.iconst 1, 1) := by decide +kernel
theorem dX6_readByWindow_62 : decode cX6_readByWindow 62 = .ok (.iadd, 1) := by decide +kernel
theorem dX6_readByWindow_63 : decode cX6_readByWindow 63 = .ok (.invokevirtual 219, 3) := by decide +kernel
theorem dX6_readByWindow_66 : decode cX6_readByWindow 66 = .ok (.bipush (-9), 2) := by decide +kernel
theorem dX6_readByWindow_68 : decode cX6_readByWindow 68 = .ok (.if_icmp .eq 23, 3) := by decide +kernel
theorem dX6_readByWindow_71 : decode cX6_readByWindow 71 = .ok (.aload_n 0, 1) := by decide +kernel
theorem dX6_readByWindow_72 : decode cX6_readByWindow 72 = .ok (.getfield 33, 3) := by decide +kernel
theorem dX6_readByWindow_75 : decode cX6_readByWindow 75 = .ok (.iload_n 3, 1) := by decide +kernel
theorem dX6_readByWindow_76 : decode cX6_readByWindow 76 = .ok (.aload_n 0, 1) := by decide +kernel
theorem dX6_readByWindow_77 : decode cX6_readByWindow 77 = .ok (.getfield 26, 3) := by decide +kernel
theorem dX6_readByWindow_80 : decode cX6_readByWindow 80 = .ok (.getfield 66, 3) := by decide +kernel
theorem dX6_readByWindow_83 : decode cX6_readByWindow 83 = .ok (.iload_n 1, 1) := by decide +kernel
theorem dX6_readByWindow_84 : decode cX6_readByWindow 84 = .ok (.invokevirtual 173, 3) := by decide +kernel
theorem dX6_readByWindow_87 : decode cX6_readByWindow 87 = .ok (.invokevirtual 146, 3) := by decide +kernel
theorem dX6_readByWindow_90 : decode cX6_readByWindow 90 = .ok (.ireturn, 1) := by decide +kernel
theorem dX6_readByWindow_91 : decode cX6_readByWindow 91 = .ok (.iinc 3 1, 3) := by decide +kernel
theorem dX6_readByWindow_94 : decode cX6_readByWindow 94 = .ok (.goto (-61), 3) := by decide +kernel
theorem dX6_readByWindow_97 : decode cX6_readByWindow 97 = .ok (.bipush (-9), 2) := by decide +kernel
theorem dX6_readByWindow_99 : decode cX6_readByWindow 99 = .ok (.ireturn, 1) := by decide +kernel
theorem dX6_origins_0 : decode cX6_origins 0 = .ok (.iconst 0, 1) := by decide +kernel
theorem dX6_origins_1 : decode cX6_origins 1 = .ok (.istore_n 1, 1) := by decide +kernel
theorem dX6_origins_2 : decode cX6_origins 2 = .ok (.iconst 0, 1) := by decide +kernel
theorem dX6_origins_3 : decode cX6_origins 3 = .ok (.istore_n 2, 1) := by decide +kernel
theorem dX6_origins_4 : decode cX6_origins 4 = .ok (.iload_n 2, 1) := by decide +kernel
theorem dX6_origins_5 : decode cX6_origins 5 = .ok (.aload_n 0, 1) := by decide +kernel
theorem dX6_origins_6 : decode cX6_origins 6 = .ok (.getfield 33, 3) := by decide +kernel
theorem dX6_origins_9 : decode cX6_origins 9 = .ok (.getfield 99, 3) := by decide +kernel
theorem dX6_origins_12 : decode cX6_origins 12 = .ok (.if_icmp .ge 25, 3) := by decide +kernel
theorem dX6_origins_15 : decode cX6_origins 15 = .ok (.aload_n 0, 1) := by decide +kernel
theorem dX6_origins_16 : decode cX6_origins 16 = .ok (.iload_n 2, 1) := by decide +kernel
theorem dX6_origins_17 : decode cX6_origins 17 = .ok (.invokevirtual 223, 3) := by decide +kernel
theorem dX6_origins_20 : decode cX6_origins 20 = .ok (.bipush (-9), 2) := by decide +kernel
theorem dX6_origins_22 : decode cX6_origins 22 = .ok (.if_icmp .eq 9, 3) := by decide +kernel
theorem dX6_origins_25 : decode cX6_origins 25 = .ok (.iload_n 1, 1) := by decide +kernel
theorem dX6_origins_26 : decode cX6_origins 26 = .ok (.iconst 1, 1) := by decide +kernel
theorem dX6_origins_27 : decode cX6_origins 27 = .ok (.iload_n 2, 1) := by decide +kernel
theorem dX6_origins_28 : decode cX6_origins 28 = .ok (.ishl, 1) := by decide +kernel
theorem dX6_origins_29 : decode cX6_origins 29 = .ok (.ior, 1) := by decide +kernel
theorem dX6_origins_30 : decode cX6_origins 30 = .ok (.istore_n 1, 1) := by decide +kernel
theorem dX6_origins_31 : decode cX6_origins 31 = .ok (.iinc 2 1, 3) := by decide +kernel
theorem dX6_origins_34 : decode cX6_origins 34 = .ok (.goto (-30), 3) := by decide +kernel
theorem dX6_origins_37 : decode cX6_origins 37 = .ok (.iload_n 1, 1) := by decide +kernel
theorem dX6_origins_38 : decode cX6_origins 38 = .ok (.ireturn, 1) := by decide +kernel
theorem dX6_presentStates_0 : decode cX6_presentStates 0 = .ok (.iconst 0, 1) := by decide +kernel
theorem dX6_presentStates_1 : decode cX6_presentStates 1 = .ok (.istore_n 1, 1) := by decide +kernel
theorem dX6_presentStates_2 : decode cX6_presentStates 2 = .ok (.iconst 0, 1) := by decide +kernel
theorem dX6_presentStates_3 : decode cX6_presentStates 3 = .ok (.istore_n 2, 1) := by decide +kernel
theorem dX6_presentStates_4 : decode cX6_presentStates 4 = .ok (.iload_n 2, 1) := by decide +kernel
theorem dX6_presentStates_5 : decode cX6_presentStates 5 = .ok (.aload_n 0, 1) := by decide +kernel
theorem dX6_presentStates_6 : decode cX6_presentStates 6 = .ok (.getfield 33, 3) := by decide +kernel
theorem dX6_presentStates_9 : decode cX6_presentStates 9 = .ok (.getfield 99, 3) := by decide +kernel
theorem dX6_presentStates_12 : decode cX6_presentStates 12 = .ok (.if_icmp .ge 27, 3) := by decide +kernel
theorem dX6_presentStates_15 : decode cX6_presentStates 15 = .ok (.aload_n 0, 1) := by decide +kernel
theorem dX6_presentStates_16 : decode cX6_presentStates 16 = .ok (.iload_n 2, 1) := by decide +kernel
theorem dX6_presentStates_17 : decode cX6_presentStates 17 = .ok (.invokevirtual 223, 3) := by decide +kernel
theorem dX6_presentStates_20 : decode cX6_presentStates 20 = .ok (.istore_n 3, 1) := by decide +kernel
theorem dX6_presentStates_21 : decode cX6_presentStates 21 = .ok (.iload_n 3, 1) := by decide +kernel
theorem dX6_presentStates_22 : decode cX6_presentStates 22 = .ok (.bipush (-9), 2) := by decide +kernel
theorem dX6_presentStates_24 : decode cX6_presentStates 24 = .ok (.if_icmp .eq 9, 3) := by decide +kernel
theorem dX6_presentStates_27 : decode cX6_presentStates 27 = .ok (.iload_n 1, 1) := by decide +kernel
theorem dX6_presentStates_28 : decode cX6_presentStates 28 = .ok (.iconst 1, 1) := by decide +kernel
theorem dX6_presentStates_29 : decode cX6_presentStates 29 = .ok (.iload_n 3, 1) := by decide +kernel
theorem dX6_presentStates_30 : decode cX6_presentStates 30 = .ok (.ishl, 1) := by decide +kernel
theorem dX6_presentStates_31 : decode cX6_presentStates 31 = .ok (.ior, 1) := by decide +kernel
theorem dX6_presentStates_32 : decode cX6_presentStates 32 = .ok (.istore_n 1, 1) := by decide +kernel
theorem dX6_presentStates_33 : decode cX6_presentStates 33 = .ok (.iinc 2 1, 3) := by decide +kernel
theorem dX6_presentStates_36 : decode cX6_presentStates 36 = .ok (.goto (-32), 3) := by decide +kernel
theorem dX6_presentStates_39 : decode cX6_presentStates 39 = .ok (.iload_n 1, 1) := by decide +kernel
theorem dX6_presentStates_40 : decode cX6_presentStates 40 = .ok (.ireturn, 1) := by decide +kernel
theorem dX6_endOfSeen_0 : decode cX6_endOfSeen 0 = .ok (.aload_n 0, 1) := by decide +kernel
theorem dX6_endOfSeen_1 : decode cX6_endOfSeen 1 = .ok (.getfield 33, 3) := by decide +kernel
theorem dX6_endOfSeen_4 : decode cX6_endOfSeen 4 = .ok (.iload_n 1, 1) := by decide +kernel
theorem dX6_endOfSeen_5 : decode cX6_endOfSeen 5 = .ok (.invokevirtual 153, 3) := by decide +kernel
theorem dX6_endOfSeen_8 : decode cX6_endOfSeen 8 = .ok (.ifCond .eq 23, 3) := by decide +kernel
theorem dX6_endOfSeen_11 : decode cX6_endOfSeen 11 = .ok (.aload_n 0, 1) := by decide +kernel
theorem dX6_endOfSeen_12 : decode cX6_endOfSeen 12 = .ok (.getfield 33, 3) := by decide +kernel
theorem dX6_endOfSeen_15 : decode cX6_endOfSeen 15 = .ok (.iload_n 1, 1) := by decide +kernel
theorem dX6_endOfSeen_16 : decode cX6_endOfSeen 16 = .ok (.aload_n 0, 1) := by decide +kernel
theorem dX6_endOfSeen_17 : decode cX6_endOfSeen 17 = .ok (.getfield 55, 3) := by decide +kernel
theorem dX6_endOfSeen_20 : decode cX6_endOfSeen 20 = .ok (.iconst 0, 1) := by decide +kernel
theorem dX6_endOfSeen_21 : decode cX6_endOfSeen 21 = .ok (.aload_n 0, 1) := by decide +kernel
theorem dX6_endOfSeen_22 : decode cX6_endOfSeen 22 = .ok (.getfield 96, 3) := by decide +kernel
theorem dX6_endOfSeen_25 : decode cX6_endOfSeen 25 = .ok (.invokevirtual 219, 3) := by decide +kernel
theorem dX6_endOfSeen_28 : decode cX6_endOfSeen 28 = .ok (.goto 5, 3) := by decide +kernel
theorem dX6_endOfSeen_31 : decode cX6_endOfSeen 31 = .ok (.bipush (-9), 2) := by decide +kernel
theorem dX6_endOfSeen_33 : decode cX6_endOfSeen 33 = .ok (.ireturn, 1) := by decide +kernel
theorem dJ6_bitCount_0f7a4_0 : decode cJ6_bitCount_0f7a4 0 = .ok (.iload_n 0, 1) := by decide +kernel
theorem dJ6_bitCount_0f7a4_1 : decode cJ6_bitCount_0f7a4 1 = .ok (.iload_n 0, 1) := by decide +kernel
theorem dJ6_bitCount_0f7a4_2 : decode cJ6_bitCount_0f7a4 2 = .ok (.iconst 1, 1) := by decide +kernel
theorem dJ6_bitCount_0f7a4_3 : decode cJ6_bitCount_0f7a4 3 = .ok (.iushr, 1) := by decide +kernel
theorem dJ6_bitCount_0f7a4_4 : decode cJ6_bitCount_0f7a4 4 = .ok (.ldc_w 265, 3) := by decide +kernel
theorem dJ6_bitCount_0f7a4_7 : decode cJ6_bitCount_0f7a4 7 = .ok (.iand, 1) := by decide +kernel
theorem dJ6_bitCount_0f7a4_8 : decode cJ6_bitCount_0f7a4 8 = .ok (.isub, 1) := by decide +kernel
theorem dJ6_bitCount_0f7a4_9 : decode cJ6_bitCount_0f7a4 9 = .ok (.istore_n 0, 1) := by decide +kernel
theorem dJ6_bitCount_0f7a4_10 : decode cJ6_bitCount_0f7a4 10 = .ok (.iload_n 0, 1) := by decide +kernel
theorem dJ6_bitCount_0f7a4_11 : decode cJ6_bitCount_0f7a4 11 = .ok (.ldc_w 266, 3) := by decide +kernel
theorem dJ6_bitCount_0f7a4_14 : decode cJ6_bitCount_0f7a4 14 = .ok (.iand, 1) := by decide +kernel
theorem dJ6_bitCount_0f7a4_15 : decode cJ6_bitCount_0f7a4 15 = .ok (.iload_n 0, 1) := by decide +kernel
theorem dJ6_bitCount_0f7a4_16 : decode cJ6_bitCount_0f7a4 16 = .ok (.iconst 2, 1) := by decide +kernel
theorem dJ6_bitCount_0f7a4_17 : decode cJ6_bitCount_0f7a4 17 = .ok (.iushr, 1) := by decide +kernel
theorem dJ6_bitCount_0f7a4_18 : decode cJ6_bitCount_0f7a4 18 = .ok (.ldc_w 266, 3) := by decide +kernel
theorem dJ6_bitCount_0f7a4_21 : decode cJ6_bitCount_0f7a4 21 = .ok (.iand, 1) := by decide +kernel
theorem dJ6_bitCount_0f7a4_22 : decode cJ6_bitCount_0f7a4 22 = .ok (.iadd, 1) := by decide +kernel
theorem dJ6_bitCount_0f7a4_23 : decode cJ6_bitCount_0f7a4 23 = .ok (.istore_n 0, 1) := by decide +kernel
theorem dJ6_bitCount_0f7a4_24 : decode cJ6_bitCount_0f7a4 24 = .ok (.iload_n 0, 1) := by decide +kernel
theorem dJ6_bitCount_0f7a4_25 : decode cJ6_bitCount_0f7a4 25 = .ok (.iload_n 0, 1) := by decide +kernel
theorem dJ6_bitCount_0f7a4_26 : decode cJ6_bitCount_0f7a4 26 = .ok (.iconst 4, 1) := by decide +kernel
theorem dJ6_bitCount_0f7a4_27 : decode cJ6_bitCount_0f7a4 27 = .ok (.iushr, 1) := by decide +kernel
theorem dJ6_bitCount_0f7a4_28 : decode cJ6_bitCount_0f7a4 28 = .ok (.iadd, 1) := by decide +kernel
theorem dJ6_bitCount_0f7a4_29 : decode cJ6_bitCount_0f7a4 29 = .ok (.ldc_w 267, 3) := by decide +kernel
theorem dJ6_bitCount_0f7a4_32 : decode cJ6_bitCount_0f7a4 32 = .ok (.iand, 1) := by decide +kernel
theorem dJ6_bitCount_0f7a4_33 : decode cJ6_bitCount_0f7a4 33 = .ok (.istore_n 0, 1) := by decide +kernel
theorem dJ6_bitCount_0f7a4_34 : decode cJ6_bitCount_0f7a4 34 = .ok (.iload_n 0, 1) := by decide +kernel
theorem dJ6_bitCount_0f7a4_35 : decode cJ6_bitCount_0f7a4 35 = .ok (.iload_n 0, 1) := by decide +kernel
theorem dJ6_bitCount_0f7a4_36 : decode cJ6_bitCount_0f7a4 36 = .ok (.bipush 8, 2) := by decide +kernel
theorem dJ6_bitCount_0f7a4_38 : decode cJ6_bitCount_0f7a4 38 = .ok (.iushr, 1) := by decide +kernel
theorem dJ6_bitCount_0f7a4_39 : decode cJ6_bitCount_0f7a4 39 = .ok (.iadd, 1) := by decide +kernel
theorem dJ6_bitCount_0f7a4_40 : decode cJ6_bitCount_0f7a4 40 = .ok (.istore_n 0, 1) := by decide +kernel
theorem dJ6_bitCount_0f7a4_41 : decode cJ6_bitCount_0f7a4 41 = .ok (.iload_n 0, 1) := by decide +kernel
theorem dJ6_bitCount_0f7a4_42 : decode cJ6_bitCount_0f7a4 42 = .ok (.iload_n 0, 1) := by decide +kernel
theorem dJ6_bitCount_0f7a4_43 : decode cJ6_bitCount_0f7a4 43 = .ok (.bipush 16, 2) := by decide +kernel
theorem dJ6_bitCount_0f7a4_45 : decode cJ6_bitCount_0f7a4 45 = .ok (.iushr, 1) := by decide +kernel
theorem dJ6_bitCount_0f7a4_46 : decode cJ6_bitCount_0f7a4 46 = .ok (.iadd, 1) := by decide +kernel
theorem dJ6_bitCount_0f7a4_47 : decode cJ6_bitCount_0f7a4 47 = .ok (.istore_n 0, 1) := by decide +kernel
theorem dJ6_bitCount_0f7a4_48 : decode cJ6_bitCount_0f7a4 48 = .ok (.iload_n 0, 1) := by decide +kernel
theorem dJ6_bitCount_0f7a4_49 : decode cJ6_bitCount_0f7a4 49 = .ok (.bipush 63, 2) := by decide +kernel
theorem dJ6_bitCount_0f7a4_51 : decode cJ6_bitCount_0f7a4 51 = .ok (.iand, 1) := by decide +kernel
theorem dJ6_bitCount_0f7a4_52 : decode cJ6_bitCount_0f7a4 52 = .ok (.ireturn, 1) := by decide +kernel
theorem dJ9_max_7cf53_0 : decode cJ9_max_7cf53 0 = .ok (.iload_n 0, 1) := by decide +kernel
theorem dJ9_max_7cf53_1 : decode cJ9_max_7cf53 1 = .ok (.iload_n 1, 1) := by decide +kernel
theorem dJ9_max_7cf53_2 : decode cJ9_max_7cf53 2 = .ok (.if_icmp .lt 7, 3) := by decide +kernel
theorem dJ9_max_7cf53_5 : decode cJ9_max_7cf53 5 = .ok (.iload_n 0, 1) := by decide +kernel
theorem dJ9_max_7cf53_6 : decode cJ9_max_7cf53 6 = .ok (.goto 4, 3) := by decide +kernel
theorem dJ9_max_7cf53_9 : decode cJ9_max_7cf53 9 = .ok (.iload_n 1, 1) := by decide +kernel
theorem dJ9_max_7cf53_10 : decode cJ9_max_7cf53 10 = .ok (.ireturn, 1) := by decide +kernel
theorem dJ9_min_7cf53_0 : decode cJ9_min_7cf53 0 = .ok (.iload_n 0, 1) := by decide +kernel
theorem dJ9_min_7cf53_1 : decode cJ9_min_7cf53 1 = .ok (.iload_n 1, 1) := by decide +kernel
theorem dJ9_min_7cf53_2 : decode cJ9_min_7cf53 2 = .ok (.if_icmp .gt 7, 3) := by decide +kernel
theorem dJ9_min_7cf53_5 : decode cJ9_min_7cf53 5 = .ok (.iload_n 0, 1) := by decide +kernel
theorem dJ9_min_7cf53_6 : decode cJ9_min_7cf53 6 = .ok (.goto 4, 3) := by decide +kernel
theorem dJ9_min_7cf53_9 : decode cJ9_min_7cf53 9 = .ok (.iload_n 1, 1) := by decide +kernel
theorem dJ9_min_7cf53_10 : decode cJ9_min_7cf53 10 = .ok (.ireturn, 1) := by decide +kernel
end
section
theorem dX7_init_0 : decode cX7_init 0 = .ok (.aload_n 0, 1) := by decide +kernel
theorem dX7_init_1 : decode cX7_init 1 = .ok (.invokespecial 1, 3) := by decide +kernel
theorem dX7_init_4 : decode cX7_init 4 = .ok (.aload_n 0, 1) := by decide +kernel
theorem dX7_init_5 : decode cX7_init 5 = .ok (.bipush 79, 2) := by decide +kernel
theorem dX7_init_7 : decode cX7_init 7 = .ok (.newarray .int, 2) := by decide +kernel
theorem dX7_init_9 : decode cX7_init 9 = .ok (.putfield 7, 3) := by decide +kernel
theorem dX7_init_12 : decode cX7_init 12 = .ok (.aload_n 0, 1) := by decide +kernel
theorem dX7_init_13 : decode cX7_init 13 = .ok (.sipush 474, 3) := by decide +kernel
theorem dX7_init_16 : decode cX7_init 16 = .ok (.newarray .int, 2) := by decide +kernel
theorem dX7_init_18 : decode cX7_init 18 = .ok (.putfield 13, 3) := by decide +kernel
theorem dX7_init_21 : decode cX7_init 21 = .ok (.aload_n 0, 1) := by decide +kernel
theorem dX7_init_22 : decode cX7_init 22 = .ok (.sipush 158, 3) := by decide +kernel
theorem dX7_init_25 : decode cX7_init 25 = .ok (.newarray .int, 2) := by decide +kernel
theorem dX7_init_27 : decode cX7_init 27 = .ok (.putfield 16, 3) := by decide +kernel
theorem dX7_init_30 : decode cX7_init 30 = .ok (.aload_n 0, 1) := by decide +kernel
theorem dX7_init_31 : decode cX7_init 31 = .ok (.iconst 2, 1) := by decide +kernel
theorem dX7_init_32 : decode cX7_init 32 = .ok (.newarray .boolean, 2) := by decide +kernel
theorem dX7_init_34 : decode cX7_init 34 = .ok (.putfield 19, 3) := by decide +kernel
theorem dX7_init_37 : decode cX7_init 37 = .ok (.aload_n 0, 1) := by decide +kernel
theorem dX7_init_38 : decode cX7_init 38 = .ok (.bipush 6, 2) := by decide +kernel
theorem dX7_init_40 : decode cX7_init 40 = .ok (.newarray .int, 2) := by decide +kernel
theorem dX7_init_42 : decode cX7_init 42 = .ok (.putfield 23, 3) := by decide +kernel
theorem dX7_init_45 : decode cX7_init 45 = .ok (.aload_n 0, 1) := by decide +kernel
theorem dX7_init_46 : decode cX7_init 46 = .ok (.bipush 60, 2) := by decide +kernel
theorem dX7_init_48 : decode cX7_init 48 = .ok (.newarray .int, 2) := by decide +kernel
theorem dX7_init_50 : decode cX7_init 50 = .ok (.putfield 26, 3) := by decide +kernel
theorem dX7_init_53 : decode cX7_init 53 = .ok (.aload_n 0, 1) := by decide +kernel
theorem dX7_init_54 : decode cX7_init 54 = .ok (.bipush 112, 2) := by decide +kernel
theorem dX7_init_56 : decode cX7_init 56 = .ok (.newarray .int, 2) := by decide +kernel
theorem dX7_init_58 : decode cX7_init 58 = .ok (.putfield 29, 3) := by decide +kernel
theorem dX7_init_61 : decode cX7_init 61 = .ok (.aload_n 0, 1) := by decide +kernel
theorem dX7_init_62 : decode cX7_init 62 = .ok (.bipush 112, 2) := by decide +kernel
theorem dX7_init_64 : decode cX7_init 64 = .ok (.newarray .int, 2) := by decide +kernel
theorem dX7_init_66 : decode cX7_init 66 = .ok (.putfield 32, 3) := by decide +kernel
theorem dX7_init_69 : decode cX7_init 69 = .ok (.aload_n 0, 1) := by decide +kernel
theorem dX7_init_70 : decode cX7_init 70 = .ok (.iconst 5, 1) := by decide +kernel
theorem dX7_init_71 : decode cX7_init 71 = .ok (.newarray .int, 2) := by decide +kernel
theorem dX7_init_73 : decode cX7_init 73 = .ok (.putfield 35, 3) := by decide +kernel
theorem dX7_init_76 : decode cX7_init 76 = .ok (.aload_n 0, 1) := by decide +kernel
theorem dX7_init_77 : decode cX7_init 77 = .ok (.bipush 7, 2) := by decide +kernel
theorem dX7_init_79 : decode cX7_init 79 = .ok (.newarray .int, 2) := by decide +kernel
theorem dX7_init_81 : decode cX7_init 81 = .ok (.putfield 38, 3) := by decide +kernel
theorem dX7_init_84 : decode cX7_init 84 = .ok (.aload_n 0, 1) := by decide +kernel
theorem dX7_init_85 : decode cX7_init 85 = .ok (.bipush 7, 2) := by decide +kernel
theorem dX7_init_87 : decode cX7_init 87 = .ok (.newarray .int, 2) := by decide +kernel
theorem dX7_init_89 : decode cX7_init 89 = .ok (.putfield 41, 3) := by decide +kernel
theorem dX7_init_92 : decode cX7_init 92 = .ok (.aload_n 0, 1) := by decide +kernel
theorem dX7_init_93 : decode cX7_init 93 = .ok (.bipush 7, 2) := by decide +kernel
theorem dX7_init_95 : decode cX7_init 95 = .ok (.newarray .int, 2) := by decide +kernel
theorem dX7_init_97 : decode cX7_init 97 = .ok (.putfield 44, 3) := by decide +kernel
theorem dX7_init_100 : decode cX7_init 100 = .ok (.aload_n 0, 1) := by decide +kernel
theorem dX7_init_101 : decode cX7_init 101 = .ok (.bipush 7, 2) := by decide +kernel
theorem dX7_init_103 : decode cX7_init 103 = .ok (.newarray .int, 2) := by decide +kernel
theorem dX7_init_105 : decode cX7_init 105 = .ok (.putfield 47, 3) := by decide +kernel
theorem dX7_init_108 : decode cX7_init 108 = .ok (.aload_n 0, 1) := by decide +kernel
theorem dX7_init_109 : decode cX7_init 109 = .ok (.sipush 196, 3) := by decide +kernel
theorem dX7_init_112 : decode cX7_init 112 = .ok (.newarray .boolean, 2) := by decide +kernel
theorem dX7_init_114 : decode cX7_init 114 = .ok (.putfield 50, 3) := by decide +kernel
theorem dX7_init_117 : decode cX7_init 117 = .ok (.aload_n 0, 1) := by decide +kernel
theorem dX7_init_118 : decode cX7_init 118 = .ok (.getfield 7, 3) := by decide +kernel
theorem dX7_init_121 : decode cX7_init 121 = .ok (.iconst 0, 1) := by decide +kernel
theorem dX7_init_122 : decode cX7_init 122 = .ok (.iconst 0, 1) := by decide +kernel
theorem dX7_init_123 : decode cX7_init 123 = .ok (.iastore, 1) := by decide +kernel
theorem dX7_init_124 : decode cX7_init 124 = .ok (.aload_n 0, 1) := by decide +kernel
theorem dX7_init_125 : decode cX7_init 125 = .ok (.getfield 7, 3) := by decide +kernel
theorem dX7_init_128 : decode cX7_init 128 = .ok (.iconst 1, 1) := by decide +kernel
theorem dX7_init_129 : decode cX7_init 129 = .ok (.iconst 1, 1) := by decide +kernel
theorem dX7_init_130 : decode cX7_init 130 = .ok (.iastore, 1) := by decide +kernel
theorem dX7_init_131 : decode cX7_init 131 = .ok (.aload_n 0, 1) := by decide +kernel
theorem dX7_init_132 : decode cX7_init 132 = .ok (.getfield 7, 3) := by decide +kernel
theorem dX7_init_135 : decode cX7_init 135 = .ok (.iconst 2, 1) := by decide +kernel
theorem dX7_init_136 : decode cX7_init 136 = .ok (.iconst 3, 1) := by decide +kernel
theorem dX7_init_137 : decode cX7_init 137 = .ok (.iastore, 1) := by decide +kernel
theorem dX7_init_138 : decode cX7_init 138 = .ok (.aload_n 0, 1) := by decide +kernel
theorem dX7_init_139 : decode cX7_init 139 = .ok (.getfield 7, 3) := by decide +kernel
theorem dX7_init_142 : decode cX7_init 142 = .ok (.iconst 3, 1) := by decide +kernel
theorem dX7_init_143 : decode cX7_init 143 = .ok (.iconst 1, 1) := by decide +kernel
theorem dX7_init_144 : decode cX7_init 144 = .ok (.iastore, 1) := by decide +kernel
theorem dX7_init_145 : decode cX7_init 145 = .ok (.aload_n 0, 1) := by decide +kernel
theorem dX7_init_146 : decode cX7_init 146 = .ok (.getfield 7, 3) := by decide +kernel
theorem dX7_init_149 : decode cX7_init 149 = .ok (.iconst 4, 1) := by decide +kernel
theorem dX7_init_150 : decode cX7_init 150 = .ok (.iconst 2, 1) := by decide +kernel
theorem dX7_init_151 : decode cX7_init 151 = .ok (.iastore, 1) := by decide +kernel
theorem dX7_init_152 : decode cX7_init 152 = .ok (.aload_n 0, 1) := by decide +kernel
theorem dX7_init_153 : decode cX7_init 153 = .ok (.invokevirtual 53, 3) := by decide +kernel
theorem dX7_init_156 : decode cX7_init 156 = .ok (.return_, 1) := by decide +kernel
theorem dX7_in_0 : decode cX7_in 0 = .ok (.lload_n 0, 1) := by decide +kernel
theorem dX7_in_1 : decode cX7_in 1 = .ok (.lload_n 2, 1) := by decide +kernel
theorem dX7_in_2 : decode cX7_in 2 = .ok (.lcmp, 1) := by decide +kernel
theorem dX7_in_3 : decode cX7_in 3 = .ok (.ifCond .lt 14, 3) := by decide +kernel
theorem dX7_in_6 : decode cX7_in 6 = .ok (.lload_n 0, 1) := by decide +kernel
theorem dX7_in_7 : decode cX7_in 7 = .ok (.lload 4, 2) := by decide +kernel
theorem dX7_in_9 : decode cX7_in 9 = .ok (.lcmp, 1) := by decide +kernel
theorem dX7_in_10 : decode cX7_in 10 = .ok (.ifCond .gt 7, 3) := by decide +kernel
theorem dX7_in_13 : decode cX7_in 13 = .ok (.iconst 1, 1) := by decide +kernel
theorem dX7_in_14 : decode cX7_in 14 = .ok (.goto 4, 3) := by decide +kernel
theorem dX7_in_17 : decode cX7_in 17 = .ok (.iconst 0, 1) := by decide +kernel
theorem dX7_in_18 : decode cX7_in 18 = .ok (.ireturn, 1) := by decide +kernel
theorem dX7_begins_0 : decode cX7_begins 0 = .ok (.aload_n 0, 1) := by decide +kernel
theorem dX7_begins_1 : decode cX7_begins 1 = .ok (.invokevirtual 56, 3) := by decide +kernel
theorem dX7_begins_4 : decode cX7_begins 4 = .ok (.aload_n 0, 1) := by decide +kernel
theorem dX7_begins_5 : decode cX7_begins 5 = .ok (.getfield 7, 3) := by decide +kernel
theorem dX7_begins_8 : decode cX7_begins 8 = .ok (.iconst 5, 1) := by decide +kernel
theorem dX7_begins_9 : decode cX7_begins 9 = .ok (.iconst 0, 1) := by decide +kernel
theorem dX7_begins_10 : decode cX7_begins 10 = .ok (.iastore, 1) := by decide +kernel
theorem dX7_begins_11 : decode cX7_begins 11 = .ok (.aload_n 0, 1) := by decide +kernel
theorem dX7_begins_12 : decode cX7_begins 12 = .ok (.getfield 7, 3) := by decide +kernel
theorem dX7_begins_15 : decode cX7_begins 15 = .ok (.bipush 6, 2) := by decide +kernel
theorem dX7_begins_17 : decode cX7_begins 17 = .ok (.aload_n 0, 1) := by decide +kernel
theorem dX7_begins_18 : decode cX7_begins 18 = .ok (.getfield 59, 3) := by decide +kernel
theorem dX7_begins_21 : decode cX7_begins 21 = .ok (.iastore, 1) := by decide +kernel
theorem dX7_begins_22 : decode cX7_begins 22 = .ok (.return_, 1) := by decide +kernel
theorem dX7_keepPast_0 : decode cX7_keepPast 0 = .ok (.aload_n 0, 1) := by decide +kernel
theorem dX7_keepPast_1 : decode cX7_keepPast 1 = .ok (.getfield 63, 3) := by decide +kernel
theorem dX7_keepPast_4 : decode cX7_keepPast 4 = .ok (.bipush 6, 2) := by decide +kernel
theorem dX7_keepPast_6 : decode cX7_keepPast 6 = .ok (.if_icmp .ne 43, 3) := by decide +kernel
theorem dX7_keepPast_9 : decode cX7_keepPast 9 = .ok (.iconst 0, 1) := by decide +kernel
theorem dX7_keepPast_10 : decode cX7_keepPast 10 = .ok (.istore_n 1, 1) := by decide +kernel
theorem dX7_keepPast_11 : decode cX7_keepPast 11 = .ok (.iload_n 1, 1) := by decide +kernel
theorem dX7_keepPast_12 : decode cX7_keepPast 12 = .ok (.sipush 395, 3) := by decide +kernel
theorem dX7_keepPast_15 : decode cX7_keepPast 15 = .ok (.if_icmp .ge 24, 3) := by decide +kernel
theorem dX7_keepPast_18 : decode cX7_keepPast 18 = .ok (.aload_n 0, 1) := by decide +kernel
theorem dX7_keepPast_19 : decode cX7_keepPast 19 = .ok (.getfield 13, 3) := by decide +kernel
theorem dX7_keepPast_22 : decode cX7_keepPast 22 = .ok (.iload_n 1, 1) := by decide +kernel
theorem dX7_keepPast_23 : decode cX7_keepPast 23 = .ok (.aload_n 0, 1) := by decide +kernel
theorem dX7_keepPast_24 : decode cX7_keepPast 24 = .ok (.getfield 13, 3) := by decide +kernel
theorem dX7_keepPast_27 : decode cX7_keepPast 27 = .ok (.iload_n 1, 1) := by decide +kernel
theorem dX7_keepPast_28 : decode cX7_keepPast 28 = .ok (.bipush 79, 2) := by decide +kernel
theorem dX7_keepPast_30 : decode cX7_keepPast 30 = .ok (.iadd, 1) := by decide +kernel
theorem dX7_keepPast_31 : decode cX7_keepPast 31 = .ok (.iaload, 1) := by decide +kernel
theorem dX7_keepPast_32 : decode cX7_keepPast 32 = .ok (.iastore, 1) := by decide +kernel
theorem dX7_keepPast_33 : decode cX7_keepPast 33 = .ok (.iinc 1 1, 3) := by decide +kernel
theorem dX7_keepPast_36 : decode cX7_keepPast 36 = .ok (.goto (-25), 3) := by decide +kernel
theorem dX7_keepPast_39 : decode cX7_keepPast 39 = .ok (.aload_n 0, 1) := by decide +kernel
theorem dX7_keepPast_40 : decode cX7_keepPast 40 = .ok (.dup, 1) := by decide +kernel
theorem dX7_keepPast_41 : decode cX7_keepPast 41 = .ok (.getfield 63, 3) := by decide +kernel
theorem dX7_keepPast_44 : decode cX7_keepPast 44 = .ok (.iconst 1, 1) := by decide +kernel
theorem dX7_keepPast_45 : decode cX7_keepPast 45 = .ok (.isub, 1) := by decide +kernel
theorem dX7_keepPast_46 : decode cX7_keepPast 46 = .ok (.putfield 63, 3) := by decide +kernel
theorem dX7_keepPast_49 : decode cX7_keepPast 49 = .ok (.iconst 0, 1) := by decide +kernel
theorem dX7_keepPast_50 : decode cX7_keepPast 50 = .ok (.istore_n 1, 1) := by decide +kernel
theorem dX7_keepPast_51 : decode cX7_keepPast 51 = .ok (.iload_n 1, 1) := by decide +kernel
theorem dX7_keepPast_52 : decode cX7_keepPast 52 = .ok (.bipush 79, 2) := by decide +kernel
theorem dX7_keepPast_54 : decode cX7_keepPast 54 = .ok (.if_icmp .ge 29, 3) := by decide +kernel
theorem dX7_keepPast_57 : decode cX7_keepPast 57 = .ok (.aload_n 0, 1) := by decide +kernel
theorem dX7_keepPast_58 : decode cX7_keepPast 58 = .ok (.getfield 13, 3) := by decide +kernel
theorem dX7_keepPast_61 : decode cX7_keepPast 61 = .ok (.bipush 79, 2) := by decide +kernel
theorem dX7_keepPast_63 : decode cX7_keepPast 63 = .ok (.aload_n 0, 1) := by decide +kernel
theorem dX7_keepPast_64 : decode cX7_keepPast 64 = .ok (.getfield 63, 3) := by decide +kernel
theorem dX7_keepPast_67 : decode cX7_keepPast 67 = .ok (.imul, 1) := by decide +kernel
theorem dX7_keepPast_68 : decode cX7_keepPast 68 = .ok (.iload_n 1, 1) := by decide +kernel
theorem dX7_keepPast_69 : decode cX7_keepPast 69 = .ok (.iadd, 1) := by decide +kernel
theorem dX7_keepPast_70 : decode cX7_keepPast 70 = .ok (.aload_n 0, 1) := by decide +kernel
theorem dX7_keepPast_71 : decode cX7_keepPast 71 = .ok (.getfield 7, 3) := by decide +kernel
theorem dX7_keepPast_74 : decode cX7_keepPast 74 = .ok (.iload_n 1, 1) := by decide +kernel
theorem dX7_keepPast_75 : decode cX7_keepPast 75 = .ok (.iaload, 1) := by decide +kernel
theorem dX7_keepPast_76 : decode cX7_keepPast 76 = .ok (.iastore, 1) := by decide +kernel
theorem dX7_keepPast_77 : decode cX7_keepPast 77 = .ok (.iinc 1 1, 3) := by decide +kernel
theorem dX7_keepPast_80 : decode cX7_keepPast 80 = .ok (.goto (-29), 3) := by decide +kernel
theorem dX7_keepPast_83 : decode cX7_keepPast 83 = .ok (.aload_n 0, 1) := by decide +kernel
theorem dX7_keepPast_84 : decode cX7_keepPast 84 = .ok (.dup, 1) := by decide +kernel
theorem dX7_keepPast_85 : decode cX7_keepPast 85 = .ok (.getfield 63, 3) := by decide +kernel
theorem dX7_keepPast_88 : decode cX7_keepPast 88 = .ok (.iconst 1, 1) := by decide +kernel
theorem dX7_keepPast_89 : decode cX7_keepPast 89 = .ok (.iadd, 1) := by decide +kernel
theorem dX7_keepPast_90 : decode cX7_keepPast 90 = .ok (.putfield 63, 3) := by decide +kernel
theorem dX7_keepPast_93 : decode cX7_keepPast 93 = .ok (.return_, 1) := by decide +kernel
theorem dX7_states_0 : decode cX7_states 0 = .ok (.aload_n 0, 1) := by decide +kernel
theorem dX7_states_1 : decode cX7_states 1 = .ok (.getfield 7, 3) := by decide +kernel
theorem dX7_states_4 : decode cX7_states 4 = .ok (.iconst 0, 1) := by decide +kernel
theorem dX7_states_5 : decode cX7_states 5 = .ok (.iaload, 1) := by decide +kernel
theorem dX7_states_6 : decode cX7_states 6 = .ok (.ifCond .ne 14, 3) := by decide +kernel
theorem dX7_states_9 : decode cX7_states 9 = .ok (.aload_n 0, 1) := by decide +kernel
theorem dX7_states_10 : decode cX7_states 10 = .ok (.getfield 7, 3) := by decide +kernel
theorem dX7_states_13 : decode cX7_states 13 = .ok (.iconst 2, 1) := by decide +kernel
theorem dX7_states_14 : decode cX7_states 14 = .ok (.iaload, 1) := by decide +kernel
theorem dX7_states_15 : decode cX7_states 15 = .ok (.iconst 1, 1) := by decide +kernel
theorem dX7_states_16 : decode cX7_states 16 = .ok (.iadd, 1) := by decide +kernel
theorem dX7_states_17 : decode cX7_states 17 = .ok (.goto 32, 3) := by decide +kernel
theorem dX7_states_20 : decode cX7_states 20 = .ok (.aload_n 0, 1) := by decide +kernel
theorem dX7_states_21 : decode cX7_states 21 = .ok (.getfield 7, 3) := by decide +kernel
theorem dX7_states_24 : decode cX7_states 24 = .ok (.iconst 0, 1) := by decide +kernel
theorem dX7_states_25 : decode cX7_states 25 = .ok (.iaload, 1) := by decide +kernel
theorem dX7_states_26 : decode cX7_states 26 = .ok (.iconst 1, 1) := by decide +kernel
theorem dX7_states_27 : decode cX7_states 27 = .ok (.if_icmp .ne 16, 3) := by decide +kernel
theorem dX7_states_30 : decode cX7_states 30 = .ok (.iconst 2, 1) := by decide +kernel
theorem dX7_states_31 : decode cX7_states 31 = .ok (.aload_n 0, 1) := by decide +kernel
theorem dX7_states_32 : decode cX7_states 32 = .ok (.getfield 7, 3) := by decide +kernel
theorem dX7_states_35 : decode cX7_states 35 = .ok (.iconst 1, 1) := by decide +kernel
theorem dX7_states_36 : decode cX7_states 36 = .ok (.iaload, 1) := by decide +kernel
theorem dX7_states_37 : decode cX7_states 37 = .ok (.imul, 1) := by decide +kernel
theorem dX7_states_38 : decode cX7_states 38 = .ok (.iconst 1, 1) := by decide +kernel
theorem dX7_states_39 : decode cX7_states 39 = .ok (.iadd, 1) := by decide +kernel
theorem dX7_states_40 : decode cX7_states 40 = .ok (.goto 9, 3) := by decide +kernel
theorem dX7_states_43 : decode cX7_states 43 = .ok (.aload_n 0, 1) := by decide +kernel
theorem dX7_states_44 : decode cX7_states 44 = .ok (.getfield 7, 3) := by decide +kernel
theorem dX7_states_47 : decode cX7_states 47 = .ok (.iconst 1, 1) := by decide +kernel
theorem dX7_states_48 : decode cX7_states 48 = .ok (.iaload, 1) := by decide +kernel
theorem dX7_states_49 : decode cX7_states 49 = .ok (.ireturn, 1) := by decide +kernel
theorem dX7_start_0 : decode cX7_start 0 = .ok (.aload_n 0, 1) := by decide +kernel
theorem dX7_start_1 : decode cX7_start 1 = .ok (.getfield 7, 3) := by decide +kernel
theorem dX7_start_4 : decode cX7_start 4 = .ok (.iconst 0, 1) := by decide +kernel
theorem dX7_start_5 : decode cX7_start 5 = .ok (.iaload, 1) := by decide +kernel
theorem dX7_start_6 : decode cX7_start 6 = .ok (.iconst 1, 1) := by decide +kernel
theorem dX7_start_7 : decode cX7_start 7 = .ok (.if_icmp .ne 12, 3) := by decide +kernel
theorem dX7_start_10 : decode cX7_start 10 = .ok (.aload_n 0, 1) := by decide +kernel
theorem dX7_start_11 : decode cX7_start 11 = .ok (.getfield 7, 3) := by decide +kernel
theorem dX7_start_14 : decode cX7_start 14 = .ok (.iconst 1, 1) := by decide +kernel
theorem dX7_start_15 : decode cX7_start 15 = .ok (.iaload, 1) := by decide +kernel
theorem dX7_start_16 : decode cX7_start 16 = .ok (.goto 4, 3) := by decide +kernel
theorem dX7_start_19 : decode cX7_start 19 = .ok (.iconst 0, 1) := by decide +kernel
theorem dX7_start_20 : decode cX7_start 20 = .ok (.ireturn, 1) := by decide +kernel
theorem dX7_banned_0 : decode cX7_banned 0 = .ok (.aload_n 0, 1) := by decide +kernel
theorem dX7_banned_1 : decode cX7_banned 1 = .ok (.getfield 7, 3) := by decide +kernel
theorem dX7_banned_4 : decode cX7_banned 4 = .ok (.iconst 2, 1) := by decide +kernel
theorem dX7_banned_5 : decode cX7_banned 5 = .ok (.iaload, 1) := by decide +kernel
theorem dX7_banned_6 : decode cX7_banned 6 = .ok (.aload_n 0, 1) := by decide +kernel
theorem dX7_banned_7 : decode cX7_banned 7 = .ok (.getfield 7, 3) := by decide +kernel
theorem dX7_banned_10 : decode cX7_banned 10 = .ok (.iconst 1, 1) := by decide +kernel
theorem dX7_banned_11 : decode cX7_banned 11 = .ok (.iaload, 1) := by decide +kernel
theorem dX7_banned_12 : decode cX7_banned 12 = .ok (.iconst 1, 1) := by decide +kernel
theorem dX7_banned_13 : decode cX7_banned 13 = .ok (.isub, 1) := by decide +kernel
theorem dX7_banned_14 : decode cX7_banned 14 = .ok (.iload_n 1, 1) := by decide +kernel
theorem dX7_banned_15 : decode cX7_banned 15 = .ok (.isub, 1) := by decide +kernel
theorem dX7_banned_16 : decode cX7_banned 16 = .ok (.ishr, 1) := by decide +kernel
theorem dX7_banned_17 : decode cX7_banned 17 = .ok (.iconst 1, 1) := by decide +kernel
theorem dX7_banned_18 : decode cX7_banned 18 = .ok (.iand, 1) := by decide +kernel
theorem dX7_banned_19 : decode cX7_banned 19 = .ok (.ireturn, 1) := by decide +kernel
theorem dX7_border_0 : decode cX7_border 0 = .ok (.iload_n 3, 1) := by decide +kernel
theorem dX7_border_1 : decode cX7_border 1 = .ok (.istore 4, 2) := by decide +kernel
theorem dX7_border_3 : decode cX7_border 3 = .ok (.iload 4, 2) := by decide +kernel
theorem dX7_border_5 : decode cX7_border 5 = .ok (.ifCond .le 88, 3) := by decide +kernel
theorem dX7_border_8 : decode cX7_border 8 = .ok (.aload_n 0, 1) := by decide +kernel
theorem dX7_border_9 : decode cX7_border 9 = .ok (.iload 4, 2) := by decide +kernel
theorem dX7_border_11 : decode cX7_border 11 = .ok (.iconst 1, 1) := by decide +kernel
theorem dX7_border_12 : decode cX7_border 12 = .ok (.isub, 1) := by decide +kernel
theorem dX7_border_13 : decode cX7_border 13 = .ok (.invokevirtual 66, 3) := by decide +kernel
theorem dX7_border_16 : decode cX7_border 16 = .ok (.iload_n 2, 1) := by decide +kernel
theorem dX7_border_17 : decode cX7_border 17 = .ok (.if_icmp .ne 7, 3) := by decide +kernel
theorem dX7_border_20 : decode cX7_border 20 = .ok (.iconst 1, 1) := by decide +kernel
theorem dX7_border_21 : decode cX7_border 21 = .ok (.goto 4, 3) := by decide +kernel
theorem dX7_border_24 : decode cX7_border 24 = .ok (.iconst 0, 1) := by decide +kernel
theorem dX7_border_25 : decode cX7_border 25 = .ok (.istore 5, 2) := by decide +kernel
theorem dX7_border_27 : decode cX7_border 27 = .ok (.iconst 0, 1) := by decide +kernel
theorem dX7_border_28 : decode cX7_border 28 = .ok (.istore 6, 2) := by decide +kernel
theorem dX7_border_30 : decode cX7_border 30 = .ok (.iload 6, 2) := by decide +kernel
theorem dX7_border_32 : decode cX7_border 32 = .ok (.iload 4, 2) := by decide +kernel
theorem dX7_border_34 : decode cX7_border 34 = .ok (.iconst 1, 1) := by decide +kernel
theorem dX7_border_35 : decode cX7_border 35 = .ok (.isub, 1) := by decide +kernel
theorem dX7_border_36 : decode cX7_border 36 = .ok (.if_icmp .ge 43, 3) := by decide +kernel
theorem dX7_border_39 : decode cX7_border 39 = .ok (.iload 5, 2) := by decide +kernel
theorem dX7_border_41 : decode cX7_border 41 = .ok (.ifCond .eq 38, 3) := by decide +kernel
theorem dX7_border_44 : decode cX7_border 44 = .ok (.aload_n 0, 1) := by decide +kernel
theorem dX7_border_45 : decode cX7_border 45 = .ok (.iload 6, 2) := by decide +kernel
theorem dX7_border_47 : decode cX7_border 47 = .ok (.invokevirtual 66, 3) := by decide +kernel
theorem dX7_border_50 : decode cX7_border 50 = .ok (.aload_n 0, 1) := by decide +kernel
theorem dX7_border_51 : decode cX7_border 51 = .ok (.iload_n 1, 1) := by decide +kernel
theorem dX7_border_52 : decode cX7_border 52 = .ok (.iload 4, 2) := by decide +kernel
theorem dX7_border_54 : decode cX7_border 54 = .ok (.iconst 1, 1) := by decide +kernel
theorem dX7_border_55 : decode cX7_border 55 = .ok (.isub, 1) := by decide +kernel
theorem dX7_border_56 : decode cX7_border 56 = .ok (.isub, 1) := by decide +kernel
theorem dX7_border_57 : decode cX7_border 57 = .ok (.iload 6, 2) := by decide +kernel
theorem dX7_border_59 : decode cX7_border 59 = .ok (.iadd, 1) := by decide +kernel
theorem dX7_border_60 : decode cX7_border 60 = .ok (.invokevirtual 66, 3) := by decide +kernel
theorem dX7_border_63 : decode cX7_border 63 = .ok (.if_icmp .ne 7, 3) := by decide +kernel
theorem dX7_border_66 : decode cX7_border 66 = .ok (.iconst 1, 1) := by decide +kernel
theorem dX7_border_67 : decode cX7_border 67 = .ok (.goto 4, 3) := by decide +kernel
theorem dX7_border_70 : decode cX7_border 70 = .ok (.iconst 0, 1) := by decide +kernel
theorem dX7_border_71 : decode cX7_border 71 = .ok (.istore 5, 2) := by decide +kernel
theorem dX7_border_73 : decode cX7_border 73 = .ok (.iinc 6 1, 3) := by decide +kernel
theorem dX7_border_76 : decode cX7_border 76 = .ok (.goto (-46), 3) := by decide +kernel
theorem dX7_border_79 : decode cX7_border 79 = .ok (.iload 5, 2) := by decide +kernel
theorem dX7_border_81 : decode cX7_border 81 = .ok (.ifCond .eq 6, 3) := by decide +kernel
theorem dX7_border_84 : decode cX7_border 84 = .ok (.iload 4, 2) := by decide +kernel
theorem dX7_border_86 : decode cX7_border 86 = .ok (.ireturn, 1) := by decide +kernel
theorem dX7_border_87 : decode cX7_border 87 = .ok (.iinc 4 (-1), 3) := by decide +kernel
theorem dX7_border_90 : decode cX7_border 90 = .ok (.goto (-87), 3) := by decide +kernel
theorem dX7_border_93 : decode cX7_border 93 = .ok (.iconst 0, 1) := by decide +kernel
theorem dX7_border_94 : decode cX7_border 94 = .ok (.ireturn, 1) := by decide +kernel
theorem dX7_stepOf_0 : decode cX7_stepOf 0 = .ok (.aload_n 0, 1) := by decide +kernel
theorem dX7_stepOf_1 : decode cX7_stepOf 1 = .ok (.getfield 7, 3) := by decide +kernel
theorem dX7_stepOf_4 : decode cX7_stepOf 4 = .ok (.iconst 0, 1) := by decide +kernel
theorem dX7_stepOf_5 : decode cX7_stepOf 5 = .ok (.iaload, 1) := by decide +kernel
theorem dX7_stepOf_6 : decode cX7_stepOf 6 = .ok (.ifCond .ne 45, 3) := by decide +kernel
theorem dX7_stepOf_9 : decode cX7_stepOf 9 = .ok (.iload_n 2, 1) := by decide +kernel
theorem dX7_stepOf_10 : decode cX7_stepOf 10 = .ok (.ifCond .ne 24, 3) := by decide +kernel
theorem dX7_stepOf_13 : decode cX7_stepOf 13 = .ok (.iload_n 1, 1) := by decide +kernel
theorem dX7_stepOf_14 : decode cX7_stepOf 14 = .ok (.aload_n 0, 1) := by decide +kernel
theorem dX7_stepOf_15 : decode cX7_stepOf 15 = .ok (.getfield 7, 3) := by decide +kernel
theorem dX7_stepOf_18 : decode cX7_stepOf 18 = .ok (.iconst 2, 1) := by decide +kernel
theorem dX7_stepOf_19 : decode cX7_stepOf 19 = .ok (.iaload, 1) := by decide +kernel
theorem dX7_stepOf_20 : decode cX7_stepOf 20 = .ok (.if_icmp .ge 9, 3) := by decide +kernel
theorem dX7_stepOf_23 : decode cX7_stepOf 23 = .ok (.iload_n 1, 1) := by decide +kernel
theorem dX7_stepOf_24 : decode cX7_stepOf 24 = .ok (.iconst 1, 1) := by decide +kernel
theorem dX7_stepOf_25 : decode cX7_stepOf 25 = .ok (.iadd, 1) := by decide +kernel
theorem dX7_stepOf_26 : decode cX7_stepOf 26 = .ok (.goto 24, 3) := by decide +kernel
theorem dX7_stepOf_29 : decode cX7_stepOf 29 = .ok (.bipush (-9), 2) := by decide +kernel
theorem dX7_stepOf_31 : decode cX7_stepOf 31 = .ok (.goto 19, 3) := by decide +kernel
theorem dX7_stepOf_34 : decode cX7_stepOf 34 = .ok (.iload_n 1, 1) := by decide +kernel
theorem dX7_stepOf_35 : decode cX7_stepOf 35 = .ok (.aload_n 0, 1) := by decide +kernel
theorem dX7_stepOf_36 : decode cX7_stepOf 36 = .ok (.getfield 7, 3) := by decide +kernel
theorem dX7_stepOf_39 : decode cX7_stepOf 39 = .ok (.iconst 1, 1) := by decide +kernel
theorem dX7_stepOf_40 : decode cX7_stepOf 40 = .ok (.iaload, 1) := by decide +kernel
theorem dX7_stepOf_41 : decode cX7_stepOf 41 = .ok (.if_icmp .lt 7, 3) := by decide +kernel
theorem dX7_stepOf_44 : decode cX7_stepOf 44 = .ok (.iconst 0, 1) := by decide +kernel
theorem dX7_stepOf_45 : decode cX7_stepOf 45 = .ok (.goto 5, 3) := by decide +kernel
theorem dX7_stepOf_48 : decode cX7_stepOf 48 = .ok (.bipush (-9), 2) := by decide +kernel
theorem dX7_stepOf_50 : decode cX7_stepOf 50 = .ok (.ireturn, 1) := by decide +kernel
theorem dX7_stepOf_51 : decode cX7_stepOf 51 = .ok (.aload_n 0, 1) := by decide +kernel
theorem dX7_stepOf_52 : decode cX7_stepOf 52 = .ok (.getfield 7, 3) := by decide +kernel
theorem dX7_stepOf_55 : decode cX7_stepOf 55 = .ok (.iconst 0, 1) := by decide +kernel
theorem dX7_stepOf_56 : decode cX7_stepOf 56 = .ok (.iaload, 1) := by decide +kernel
theorem dX7_stepOf_57 : decode cX7_stepOf 57 = .ok (.iconst 1, 1) := by decide +kernel
theorem dX7_stepOf_58 : decode cX7_stepOf 58 = .ok (.if_icmp .ne 43, 3) := by decide +kernel
theorem dX7_stepOf_61 : decode cX7_stepOf 61 = .ok (.iload_n 2, 1) := by decide +kernel
theorem dX7_stepOf_62 : decode cX7_stepOf 62 = .ok (.iconst 1, 1) := by decide +kernel
theorem dX7_stepOf_63 : decode cX7_stepOf 63 = .ok (.if_icmp .ne 9, 3) := by decide +kernel
theorem dX7_stepOf_66 : decode cX7_stepOf 66 = .ok (.iload_n 1, 1) := by decide +kernel
theorem dX7_stepOf_67 : decode cX7_stepOf 67 = .ok (.iconst 1, 1) := by decide +kernel
theorem dX7_stepOf_68 : decode cX7_stepOf 68 = .ok (.iadd, 1) := by decide +kernel
theorem dX7_stepOf_69 : decode cX7_stepOf 69 = .ok (.goto 6, 3) := by decide +kernel
theorem dX7_stepOf_72 : decode cX7_stepOf 72 = .ok (.iload_n 1, 1) := by decide +kernel
theorem dX7_stepOf_73 : decode cX7_stepOf 73 = .ok (.iconst 1, 1) := by decide +kernel
theorem dX7_stepOf_74 : decode cX7_stepOf 74 = .ok (.isub, 1) := by decide +kernel
theorem dX7_stepOf_75 : decode cX7_stepOf 75 = .ok (.istore_n 3, 1) := by decide +kernel
theorem dX7_stepOf_76 : decode cX7_stepOf 76 = .ok (.iload_n 3, 1) := by decide +kernel
theorem dX7_stepOf_77 : decode cX7_stepOf 77 = .ok (.i2l, 1) := by decide +kernel
theorem dX7_stepOf_78 : decode cX7_stepOf 78 = .ok (.lconst 0, 1) := by decide +kernel
theorem dX7_stepOf_79 : decode cX7_stepOf 79 = .ok (.iconst 2, 1) := by decide +kernel
theorem dX7_stepOf_80 : decode cX7_stepOf 80 = .ok (.aload_n 0, 1) := by decide +kernel
theorem dX7_stepOf_81 : decode cX7_stepOf 81 = .ok (.getfield 7, 3) := by decide +kernel
theorem dX7_stepOf_84 : decode cX7_stepOf 84 = .ok (.iconst 1, 1) := by decide +kernel
theorem dX7_stepOf_85 : decode cX7_stepOf 85 = .ok (.iaload, 1) := by decide +kernel
theorem dX7_stepOf_86 : decode cX7_stepOf 86 = .ok (.imul, 1) := by decide +kernel
theorem dX7_stepOf_87 : decode cX7_stepOf 87 = .ok (.i2l, 1) := by decide +kernel
theorem dX7_stepOf_88 : decode cX7_stepOf 88 = .ok (.invokestatic 70, 3) := by decide +kernel
theorem dX7_stepOf_91 : decode cX7_stepOf 91 = .ok (.ifCond .eq 7, 3) := by decide +kernel
theorem dX7_stepOf_94 : decode cX7_stepOf 94 = .ok (.iload_n 3, 1) := by decide +kernel
theorem dX7_stepOf_95 : decode cX7_stepOf 95 = .ok (.goto 5, 3) := by decide +kernel
theorem dX7_stepOf_98 : decode cX7_stepOf 98 = .ok (.bipush (-9), 2) := by decide +kernel
theorem dX7_stepOf_100 : decode cX7_stepOf 100 = .ok (.ireturn, 1) := by decide +kernel
theorem dX7_stepOf_101 : decode cX7_stepOf 101 = .ok (.aload_n 0, 1) := by decide +kernel
theorem dX7_stepOf_102 : decode cX7_stepOf 102 = .ok (.iload_n 1, 1) := by decide +kernel
theorem dX7_stepOf_103 : decode cX7_stepOf 103 = .ok (.iload_n 2, 1) := by decide +kernel
theorem dX7_stepOf_104 : decode cX7_stepOf 104 = .ok (.iload_n 1, 1) := by decide +kernel
theorem dX7_stepOf_105 : decode cX7_stepOf 105 = .ok (.iconst 1, 1) := by decide +kernel
theorem dX7_stepOf_106 : decode cX7_stepOf 106 = .ok (.iadd, 1) := by decide +kernel
theorem dX7_stepOf_107 : decode cX7_stepOf 107 = .ok (.invokevirtual 74, 3) := by decide +kernel
theorem dX7_stepOf_110 : decode cX7_stepOf 110 = .ok (.istore_n 3, 1) := by decide +kernel
theorem dX7_stepOf_111 : decode cX7_stepOf 111 = .ok (.iload_n 3, 1) := by decide +kernel
theorem dX7_stepOf_112 : decode cX7_stepOf 112 = .ok (.aload_n 0, 1) := by decide +kernel
theorem dX7_stepOf_113 : decode cX7_stepOf 113 = .ok (.getfield 7, 3) := by decide +kernel
theorem dX7_stepOf_116 : decode cX7_stepOf 116 = .ok (.iconst 1, 1) := by decide +kernel
theorem dX7_stepOf_117 : decode cX7_stepOf 117 = .ok (.iaload, 1) := by decide +kernel
theorem dX7_stepOf_118 : decode cX7_stepOf 118 = .ok (.if_icmp .ne 8, 3) := by decide +kernel
theorem dX7_stepOf_121 : decode cX7_stepOf 121 = .ok (.bipush (-9), 2) := by decide +kernel
theorem dX7_stepOf_123 : decode cX7_stepOf 123 = .ok (.goto 4, 3) := by decide +kernel
theorem dX7_stepOf_126 : decode cX7_stepOf 126 = .ok (.iload_n 3, 1) := by decide +kernel
theorem dX7_stepOf_127 : decode cX7_stepOf 127 = .ok (.ireturn, 1) := by decide +kernel
theorem dX7_words_0 : decode cX7_words 0 = .ok (.iconst 1, 1) := by decide +kernel
theorem dX7_words_1 : decode cX7_words 1 = .ok (.aload_n 0, 1) := by decide +kernel
theorem dX7_words_2 : decode cX7_words 2 = .ok (.getfield 7, 3) := by decide +kernel
theorem dX7_words_5 : decode cX7_words 5 = .ok (.iconst 4, 1) := by decide +kernel
theorem dX7_words_6 : decode cX7_words 6 = .ok (.iaload, 1) := by decide +kernel
theorem dX7_words_7 : decode cX7_words 7 = .ok (.ishl, 1) := by decide +kernel
theorem dX7_words_8 : decode cX7_words 8 = .ok (.ireturn, 1) := by decide +kernel
theorem dX7_lead_0 : decode cX7_lead 0 = .ok (.iload_n 2, 1) := by decide +kernel
theorem dX7_lead_1 : decode cX7_lead 1 = .ok (.aload_n 0, 1) := by decide +kernel
theorem dX7_lead_2 : decode cX7_lead 2 = .ok (.invokevirtual 78, 3) := by decide +kernel
theorem dX7_lead_5 : decode cX7_lead 5 = .ok (.if_icmp .ge 17, 3) := by decide +kernel
theorem dX7_lead_8 : decode cX7_lead 8 = .ok (.aload_n 0, 1) := by decide +kernel
theorem dX7_lead_9 : decode cX7_lead 9 = .ok (.getfield 29, 3) := by decide +kernel
theorem dX7_lead_12 : decode cX7_lead 12 = .ok (.bipush 16, 2) := by decide +kernel
theorem dX7_lead_14 : decode cX7_lead 14 = .ok (.iload_n 1, 1) := by decide +kernel
theorem dX7_lead_15 : decode cX7_lead 15 = .ok (.imul, 1) := by decide +kernel
theorem dX7_lead_16 : decode cX7_lead 16 = .ok (.iload_n 2, 1) := by decide +kernel
theorem dX7_lead_17 : decode cX7_lead 17 = .ok (.iadd, 1) := by decide +kernel
theorem dX7_lead_18 : decode cX7_lead 18 = .ok (.iaload, 1) := by decide +kernel
theorem dX7_lead_19 : decode cX7_lead 19 = .ok (.goto 5, 3) := by decide +kernel
theorem dX7_lead_22 : decode cX7_lead 22 = .ok (.bipush (-9), 2) := by decide +kernel
theorem dX7_lead_24 : decode cX7_lead 24 = .ok (.ireturn, 1) := by decide +kernel
theorem dX7_tag_0 : decode cX7_tag 0 = .ok (.iload_n 2, 1) := by decide +kernel
theorem dX7_tag_1 : decode cX7_tag 1 = .ok (.aload_n 0, 1) := by decide +kernel
theorem dX7_tag_2 : decode cX7_tag 2 = .ok (.invokevirtual 78, 3) := by decide +kernel
theorem dX7_tag_5 : decode cX7_tag 5 = .ok (.if_icmp .ge 17, 3) := by decide +kernel
theorem dX7_tag_8 : decode cX7_tag 8 = .ok (.aload_n 0, 1) := by decide +kernel
theorem dX7_tag_9 : decode cX7_tag 9 = .ok (.getfield 32, 3) := by decide +kernel
theorem dX7_tag_12 : decode cX7_tag 12 = .ok (.bipush 16, 2) := by decide +kernel
theorem dX7_tag_14 : decode cX7_tag 14 = .ok (.iload_n 1, 1) := by decide +kernel
theorem dX7_tag_15 : decode cX7_tag 15 = .ok (.imul, 1) := by decide +kernel
theorem dX7_tag_16 : decode cX7_tag 16 = .ok (.iload_n 2, 1) := by decide +kernel
theorem dX7_tag_17 : decode cX7_tag 17 = .ok (.iadd, 1) := by decide +kernel
theorem dX7_tag_18 : decode cX7_tag 18 = .ok (.iaload, 1) := by decide +kernel
theorem dX7_tag_19 : decode cX7_tag 19 = .ok (.goto 5, 3) := by decide +kernel
theorem dX7_tag_22 : decode cX7_tag 22 = .ok (.bipush (-9), 2) := by decide +kernel
theorem dX7_tag_24 : decode cX7_tag 24 = .ok (.ireturn, 1) := by decide +kernel
theorem dX7_layArcs_0 : decode cX7_layArcs 0 = .ok (.iconst 0, 1) := by decide +kernel
theorem dX7_layArcs_1 : decode cX7_layArcs 1 = .ok (.istore_n 1, 1) := by decide +kernel
theorem dX7_layArcs_2 : decode cX7_layArcs 2 = .ok (.iload_n 1, 1) := by decide +kernel
theorem dX7_layArcs_3 : decode cX7_layArcs 3 = .ok (.aload_n 0, 1) := by decide +kernel
theorem dX7_layArcs_4 : decode cX7_layArcs 4 = .ok (.invokevirtual 82, 3) := by decide +kernel
theorem dX7_layArcs_7 : decode cX7_layArcs 7 = .ok (.if_icmp .ge 78, 3) := by decide +kernel
theorem dX7_layArcs_10 : decode cX7_layArcs 10 = .ok (.iconst 0, 1) := by decide +kernel
theorem dX7_layArcs_11 : decode cX7_layArcs 11 = .ok (.istore_n 2, 1) := by decide +kernel
theorem dX7_layArcs_12 : decode cX7_layArcs 12 = .ok (.iload_n 2, 1) := by decide +kernel
theorem dX7_layArcs_13 : decode cX7_layArcs 13 = .ok (.aload_n 0, 1) := by decide +kernel
theorem dX7_layArcs_14 : decode cX7_layArcs 14 = .ok (.invokevirtual 78, 3) := by decide +kernel
theorem dX7_layArcs_17 : decode cX7_layArcs 17 = .ok (.if_icmp .ge 62, 3) := by decide +kernel
theorem dX7_layArcs_20 : decode cX7_layArcs 20 = .ok (.iload_n 1, 1) := by decide +kernel
theorem dX7_layArcs_21 : decode cX7_layArcs 21 = .ok (.istore_n 3, 1) := by decide +kernel
theorem dX7_layArcs_22 : decode cX7_layArcs 22 = .ok (.aload_n 0, 1) := by decide +kernel
theorem dX7_layArcs_23 : decode cX7_layArcs 23 = .ok (.getfield 7, 3) := by decide +kernel
theorem dX7_layArcs_26 : decode cX7_layArcs 26 = .ok (.iconst 4, 1) := by decide +kernel
theorem dX7_layArcs_27 : decode cX7_layArcs 27 = .ok (.iaload, 1) := by decide +kernel
theorem dX7_layArcs_28 : decode cX7_layArcs 28 = .ok (.iconst 1, 1) := by decide +kernel
theorem dX7_layArcs_29 : decode cX7_layArcs 29 = .ok (.isub, 1) := by decide +kernel
theorem dX7_layArcs_30 : decode cX7_layArcs 30 = .ok (.istore 4, 2) := by decide +kernel
theorem dX7_layArcs_32 : decode cX7_layArcs 32 = .ok (.iload 4, 2) := by decide +kernel
theorem dX7_layArcs_34 : decode cX7_layArcs 34 = .ok (.ifCond .lt 27, 3) := by decide +kernel
theorem dX7_layArcs_37 : decode cX7_layArcs 37 = .ok (.iload_n 3, 1) := by decide +kernel
theorem dX7_layArcs_38 : decode cX7_layArcs 38 = .ok (.bipush (-9), 2) := by decide +kernel
theorem dX7_layArcs_40 : decode cX7_layArcs 40 = .ok (.if_icmp .eq 21, 3) := by decide +kernel
theorem dX7_layArcs_43 : decode cX7_layArcs 43 = .ok (.aload_n 0, 1) := by decide +kernel
theorem dX7_layArcs_44 : decode cX7_layArcs 44 = .ok (.iload_n 3, 1) := by decide +kernel
theorem dX7_layArcs_45 : decode cX7_layArcs 45 = .ok (.iload_n 2, 1) := by decide +kernel
theorem dX7_layArcs_46 : decode cX7_layArcs 46 = .ok (.iload 4, 2) := by decide +kernel
theorem dX7_layArcs_48 : decode cX7_layArcs 48 = .ok (.ishr, 1) := by decide +kernel
theorem dX7_layArcs_49 : decode cX7_layArcs 49 = .ok (.iconst 1, 1) := by decide +kernel
theorem dX7_layArcs_50 : decode cX7_layArcs 50 = .ok (.iand, 1) := by decide +kernel
theorem dX7_layArcs_51 : decode cX7_layArcs 51 = .ok (.invokevirtual 85, 3) := by decide +kernel
theorem dX7_layArcs_54 : decode cX7_layArcs 54 = .ok (.istore_n 3, 1) := by decide +kernel
theorem dX7_layArcs_55 : decode cX7_layArcs 55 = .ok (.iinc 4 (-1), 3) := by decide +kernel
theorem dX7_layArcs_58 : decode cX7_layArcs 58 = .ok (.goto (-26), 3) := by decide +kernel
theorem dX7_layArcs_61 : decode cX7_layArcs 61 = .ok (.aload_n 0, 1) := by decide +kernel
theorem dX7_layArcs_62 : decode cX7_layArcs 62 = .ok (.getfield 29, 3) := by decide +kernel
theorem dX7_layArcs_65 : decode cX7_layArcs 65 = .ok (.bipush 16, 2) := by decide +kernel
theorem dX7_layArcs_67 : decode cX7_layArcs 67 = .ok (.iload_n 1, 1) := by decide +kernel
theorem dX7_layArcs_68 : decode cX7_layArcs 68 = .ok (.imul, 1) := by decide +kernel
theorem dX7_layArcs_69 : decode cX7_layArcs 69 = .ok (.iload_n 2, 1) := by decide +kernel
theorem dX7_layArcs_70 : decode cX7_layArcs 70 = .ok (.iadd, 1) := by decide +kernel
theorem dX7_layArcs_71 : decode cX7_layArcs 71 = .ok (.iload_n 3, 1) := by decide +kernel
theorem dX7_layArcs_72 : decode cX7_layArcs 72 = .ok (.iastore, 1) := by decide +kernel
theorem dX7_layArcs_73 : decode cX7_layArcs 73 = .ok (.iinc 2 1, 3) := by decide +kernel
theorem dX7_layArcs_76 : decode cX7_layArcs 76 = .ok (.goto (-64), 3) := by decide +kernel
theorem dX7_layArcs_79 : decode cX7_layArcs 79 = .ok (.iinc 1 1, 3) := by decide +kernel
theorem dX7_layArcs_82 : decode cX7_layArcs 82 = .ok (.goto (-80), 3) := by decide +kernel
theorem dX7_layArcs_85 : decode cX7_layArcs 85 = .ok (.return_, 1) := by decide +kernel
theorem dX7_goodArcs_0 : decode cX7_goodArcs 0 = .ok (.iconst 0, 1) := by decide +kernel
theorem dX7_goodArcs_1 : decode cX7_goodArcs 1 = .ok (.istore_n 2, 1) := by decide +kernel
theorem dX7_goodArcs_2 : decode cX7_goodArcs 2 = .ok (.iconst 0, 1) := by decide +kernel
theorem dX7_goodArcs_3 : decode cX7_goodArcs 3 = .ok (.istore_n 3, 1) := by decide +kernel
theorem dX7_goodArcs_4 : decode cX7_goodArcs 4 = .ok (.iload_n 3, 1) := by decide +kernel
theorem dX7_goodArcs_5 : decode cX7_goodArcs 5 = .ok (.aload_n 0, 1) := by decide +kernel
theorem dX7_goodArcs_6 : decode cX7_goodArcs 6 = .ok (.invokevirtual 78, 3) := by decide +kernel
theorem dX7_goodArcs_9 : decode cX7_goodArcs 9 = .ok (.if_icmp .ge 45, 3) := by decide +kernel
theorem dX7_goodArcs_12 : decode cX7_goodArcs 12 = .ok (.aload_n 0, 1) := by decide +kernel
theorem dX7_goodArcs_13 : decode cX7_goodArcs 13 = .ok (.iload_n 1, 1) := by decide +kernel
theorem dX7_goodArcs_14 : decode cX7_goodArcs 14 = .ok (.iload_n 3, 1) := by decide +kernel
theorem dX7_goodArcs_15 : decode cX7_goodArcs 15 = .ok (.invokevirtual 89, 3) := by decide +kernel
theorem dX7_goodArcs_18 : decode cX7_goodArcs 18 = .ok (.istore 4, 2) := by decide +kernel
theorem dX7_goodArcs_20 : decode cX7_goodArcs 20 = .ok (.iload_n 2, 1) := by decide +kernel
theorem dX7_goodArcs_21 : decode cX7_goodArcs 21 = .ok (.iload 4, 2) := by decide +kernel
theorem dX7_goodArcs_23 : decode cX7_goodArcs 23 = .ok (.bipush (-9), 2) := by decide +kernel
theorem dX7_goodArcs_25 : decode cX7_goodArcs 25 = .ok (.if_icmp .eq 20, 3) := by decide +kernel
theorem dX7_goodArcs_28 : decode cX7_goodArcs 28 = .ok (.aload_n 0, 1) := by decide +kernel
theorem dX7_goodArcs_29 : decode cX7_goodArcs 29 = .ok (.getfield 92, 3) := by decide +kernel
theorem dX7_goodArcs_32 : decode cX7_goodArcs 32 = .ok (.iload 4, 2) := by decide +kernel
theorem dX7_goodArcs_34 : decode cX7_goodArcs 34 = .ok (.ishr, 1) := by decide +kernel
theorem dX7_goodArcs_35 : decode cX7_goodArcs 35 = .ok (.iconst 1, 1) := by decide +kernel
theorem dX7_goodArcs_36 : decode cX7_goodArcs 36 = .ok (.iand, 1) := by decide +kernel
theorem dX7_goodArcs_37 : decode cX7_goodArcs 37 = .ok (.iconst 1, 1) := by decide +kernel
theorem dX7_goodArcs_38 : decode cX7_goodArcs 38 = .ok (.if_icmp .ne 7, 3) := by decide +kernel
theorem dX7_goodArcs_41 : decode cX7_goodArcs 41 = .ok (.iconst 1, 1) := by decide +kernel
theorem dX7_goodArcs_42 : decode cX7_goodArcs 42 = .ok (.goto 4, 3) := by decide +kernel
theorem dX7_goodArcs_45 : decode cX7_goodArcs 45 = .ok (.iconst 0, 1) := by decide +kernel
theorem dX7_goodArcs_46 : decode cX7_goodArcs 46 = .ok (.iadd, 1) := by decide +kernel
theorem dX7_goodArcs_47 : decode cX7_goodArcs 47 = .ok (.istore_n 2, 1) := by decide +kernel
theorem dX7_goodArcs_48 : decode cX7_goodArcs 48 = .ok (.iinc 3 1, 3) := by decide +kernel
theorem dX7_goodArcs_51 : decode cX7_goodArcs 51 = .ok (.goto (-47), 3) := by decide +kernel
theorem dX7_goodArcs_54 : decode cX7_goodArcs 54 = .ok (.iload_n 2, 1) := by decide +kernel
theorem dX7_goodArcs_55 : decode cX7_goodArcs 55 = .ok (.ireturn, 1) := by decide +kernel
theorem dX7_finds_0 : decode cX7_finds 0 = .ok (.aload_n 0, 1) := by decide +kernel
theorem dX7_finds_1 : decode cX7_finds 1 = .ok (.invokevirtual 95, 3) := by decide +kernel
theorem dX7_finds_4 : decode cX7_finds 4 = .ok (.aload_n 0, 1) := by decide +kernel
theorem dX7_finds_5 : decode cX7_finds 5 = .ok (.iconst 1, 1) := by decide +kernel
theorem dX7_finds_6 : decode cX7_finds 6 = .ok (.aload_n 0, 1) := by decide +kernel
theorem dX7_finds_7 : decode cX7_finds 7 = .ok (.invokevirtual 82, 3) := by decide +kernel
theorem dX7_finds_10 : decode cX7_finds 10 = .ok (.ishl, 1) := by decide +kernel
theorem dX7_finds_11 : decode cX7_finds 11 = .ok (.iconst 1, 1) := by decide +kernel
theorem dX7_finds_12 : decode cX7_finds 12 = .ok (.isub, 1) := by decide +kernel
theorem dX7_finds_13 : decode cX7_finds 13 = .ok (.putfield 92, 3) := by decide +kernel
theorem dX7_finds_16 : decode cX7_finds 16 = .ok (.iconst 0, 1) := by decide +kernel
theorem dX7_finds_17 : decode cX7_finds 17 = .ok (.istore_n 1, 1) := by decide +kernel
theorem dX7_finds_18 : decode cX7_finds 18 = .ok (.iload_n 1, 1) := by decide +kernel
theorem dX7_finds_19 : decode cX7_finds 19 = .ok (.aload_n 0, 1) := by decide +kernel
theorem dX7_finds_20 : decode cX7_finds 20 = .ok (.getfield 92, 3) := by decide +kernel
theorem dX7_finds_23 : decode cX7_finds 23 = .ok (.if_icmp .eq 72, 3) := by decide +kernel
theorem dX7_finds_26 : decode cX7_finds 26 = .ok (.aload_n 0, 1) := by decide +kernel
theorem dX7_finds_27 : decode cX7_finds 27 = .ok (.getfield 92, 3) := by decide +kernel
theorem dX7_finds_30 : decode cX7_finds 30 = .ok (.istore_n 1, 1) := by decide +kernel
theorem dX7_finds_31 : decode cX7_finds 31 = .ok (.iconst 0, 1) := by decide +kernel
theorem dX7_finds_32 : decode cX7_finds 32 = .ok (.istore_n 2, 1) := by decide +kernel
theorem dX7_finds_33 : decode cX7_finds 33 = .ok (.iconst 0, 1) := by decide +kernel
theorem dX7_finds_34 : decode cX7_finds 34 = .ok (.istore_n 3, 1) := by decide +kernel
theorem dX7_finds_35 : decode cX7_finds 35 = .ok (.iload_n 3, 1) := by decide +kernel
theorem dX7_finds_36 : decode cX7_finds 36 = .ok (.aload_n 0, 1) := by decide +kernel
theorem dX7_finds_37 : decode cX7_finds 37 = .ok (.invokevirtual 82, 3) := by decide +kernel
theorem dX7_finds_40 : decode cX7_finds 40 = .ok (.if_icmp .ge 47, 3) := by decide +kernel
theorem dX7_finds_43 : decode cX7_finds 43 = .ok (.iload_n 2, 1) := by decide +kernel
theorem dX7_finds_44 : decode cX7_finds 44 = .ok (.aload_n 0, 1) := by decide +kernel
theorem dX7_finds_45 : decode cX7_finds 45 = .ok (.getfield 92, 3) := by decide +kernel
theorem dX7_finds_48 : decode cX7_finds 48 = .ok (.iload_n 3, 1) := by decide +kernel
theorem dX7_finds_49 : decode cX7_finds 49 = .ok (.ishr, 1) := by decide +kernel
theorem dX7_finds_50 : decode cX7_finds 50 = .ok (.iconst 1, 1) := by decide +kernel
theorem dX7_finds_51 : decode cX7_finds 51 = .ok (.iand, 1) := by decide +kernel
theorem dX7_finds_52 : decode cX7_finds 52 = .ok (.iconst 1, 1) := by decide +kernel
theorem dX7_finds_53 : decode cX7_finds 53 = .ok (.if_icmp .ne 25, 3) := by decide +kernel
theorem dX7_finds_56 : decode cX7_finds 56 = .ok (.aload_n 0, 1) := by decide +kernel
theorem dX7_finds_57 : decode cX7_finds 57 = .ok (.iload_n 3, 1) := by decide +kernel
theorem dX7_finds_58 : decode cX7_finds 58 = .ok (.invokevirtual 98, 3) := by decide +kernel
theorem dX7_finds_61 : decode cX7_finds 61 = .ok (.iconst 1, 1) := by decide +kernel
theorem dX7_finds_62 : decode cX7_finds 62 = .ok (.aload_n 0, 1) := by decide +kernel
theorem dX7_finds_63 : decode cX7_finds 63 = .ok (.getfield 7, 3) := by decide +kernel
theorem dX7_finds_66 : decode cX7_finds 66 = .ok (.iconst 3, 1) := by decide +kernel
theorem dX7_finds_67 : decode cX7_finds 67 = .ok (.iaload, 1) := by decide +kernel
theorem dX7_finds_68 : decode cX7_finds 68 = .ok (.ishl, 1) := by decide +kernel
theorem dX7_finds_69 : decode cX7_finds 69 = .ok (.if_icmp .lt 9, 3) := by decide +kernel
theorem dX7_finds_72 : decode cX7_finds 72 = .ok (.iconst 1, 1) := by decide +kernel
theorem dX7_finds_73 : decode cX7_finds 73 = .ok (.iload_n 3, 1) := by decide +kernel
theorem dX7_finds_74 : decode cX7_finds 74 = .ok (.ishl, 1) := by decide +kernel
theorem dX7_finds_75 : decode cX7_finds 75 = .ok (.goto 4, 3) := by decide +kernel
theorem dX7_finds_78 : decode cX7_finds 78 = .ok (.iconst 0, 1) := by decide +kernel
theorem dX7_finds_79 : decode cX7_finds 79 = .ok (.ior, 1) := by decide +kernel
theorem dX7_finds_80 : decode cX7_finds 80 = .ok (.istore_n 2, 1) := by decide +kernel
theorem dX7_finds_81 : decode cX7_finds 81 = .ok (.iinc 3 1, 3) := by decide +kernel
theorem dX7_finds_84 : decode cX7_finds 84 = .ok (.goto (-49), 3) := by decide +kernel
theorem dX7_finds_87 : decode cX7_finds 87 = .ok (.aload_n 0, 1) := by decide +kernel
theorem dX7_finds_88 : decode cX7_finds 88 = .ok (.iload_n 2, 1) := by decide +kernel
theorem dX7_finds_89 : decode cX7_finds 89 = .ok (.putfield 92, 3) := by decide +kernel
theorem dX7_finds_92 : decode cX7_finds 92 = .ok (.goto (-74), 3) := by decide +kernel
theorem dX7_finds_95 : decode cX7_finds 95 = .ok (.aload_n 0, 1) := by decide +kernel
theorem dX7_finds_96 : decode cX7_finds 96 = .ok (.bipush (-9), 2) := by decide +kernel
theorem dX7_finds_98 : decode cX7_finds 98 = .ok (.putfield 59, 3) := by decide +kernel
theorem dX7_finds_101 : decode cX7_finds 101 = .ok (.aload_n 0, 1) := by decide +kernel
theorem dX7_finds_102 : decode cX7_finds 102 = .ok (.invokevirtual 82, 3) := by decide +kernel
theorem dX7_finds_105 : decode cX7_finds 105 = .ok (.iconst 1, 1) := by decide +kernel
theorem dX7_finds_106 : decode cX7_finds 106 = .ok (.isub, 1) := by decide +kernel
theorem dX7_finds_107 : decode cX7_finds 107 = .ok (.istore_n 2, 1) := by decide +kernel
theorem dX7_finds_108 : decode cX7_finds 108 = .ok (.iload_n 2, 1) := by decide +kernel
theorem dX7_finds_109 : decode cX7_finds 109 = .ok (.ifCond .lt 149, 3) := by decide +kernel
theorem dX7_finds_112 : decode cX7_finds 112 = .ok (.iconst 0, 1) := by decide +kernel
theorem dX7_finds_113 : decode cX7_finds 113 = .ok (.istore_n 3, 1) := by decide +kernel
theorem dX7_finds_114 : decode cX7_finds 114 = .ok (.iconst 0, 1) := by decide +kernel
theorem dX7_finds_115 : decode cX7_finds 115 = .ok (.istore 4, 2) := by decide +kernel
theorem dX7_finds_117 : decode cX7_finds 117 = .ok (.iload 4, 2) := by decide +kernel
theorem dX7_finds_119 : decode cX7_finds 119 = .ok (.aload_n 0, 1) := by decide +kernel
theorem dX7_finds_120 : decode cX7_finds 120 = .ok (.invokevirtual 78, 3) := by decide +kernel
theorem dX7_finds_123 : decode cX7_finds 123 = .ok (.if_icmp .ge 105, 3) := by decide +kernel
theorem dX7_finds_126 : decode cX7_finds 126 = .ok (.aload_n 0, 1) := by decide +kernel
theorem dX7_finds_127 : decode cX7_finds 127 = .ok (.iload_n 2, 1) := by decide +kernel
theorem dX7_finds_128 : decode cX7_finds 128 = .ok (.iload 4, 2) := by decide +kernel
theorem dX7_finds_130 : decode cX7_finds 130 = .ok (.invokevirtual 89, 3) := by decide +kernel
theorem dX7_finds_133 : decode cX7_finds 133 = .ok (.istore 5, 2) := by decide +kernel
theorem dX7_finds_135 : decode cX7_finds 135 = .ok (.aload_n 0, 1) := by decide +kernel
theorem dX7_finds_136 : decode cX7_finds 136 = .ok (.getfield 92, 3) := by decide +kernel
theorem dX7_finds_139 : decode cX7_finds 139 = .ok (.iload_n 2, 1) := by decide +kernel
theorem dX7_finds_140 : decode cX7_finds 140 = .ok (.ishr, 1) := by decide +kernel
theorem dX7_finds_141 : decode cX7_finds 141 = .ok (.iconst 1, 1) := by decide +kernel
theorem dX7_finds_142 : decode cX7_finds 142 = .ok (.iand, 1) := by decide +kernel
theorem dX7_finds_143 : decode cX7_finds 143 = .ok (.iconst 1, 1) := by decide +kernel
theorem dX7_finds_144 : decode cX7_finds 144 = .ok (.if_icmp .ne 39, 3) := by decide +kernel
theorem dX7_finds_147 : decode cX7_finds 147 = .ok (.iload 5, 2) := by decide +kernel
theorem dX7_finds_149 : decode cX7_finds 149 = .ok (.bipush (-9), 2) := by decide +kernel
theorem dX7_finds_151 : decode cX7_finds 151 = .ok (.if_icmp .eq 32, 3) := by decide +kernel
theorem dX7_finds_154 : decode cX7_finds 154 = .ok (.aload_n 0, 1) := by decide +kernel
theorem dX7_finds_155 : decode cX7_finds 155 = .ok (.getfield 92, 3) := by decide +kernel
theorem dX7_finds_158 : decode cX7_finds 158 = .ok (.iload 5, 2) := by decide +kernel
theorem dX7_finds_160 : decode cX7_finds 160 = .ok (.ishr, 1) := by decide +kernel
theorem dX7_finds_161 : decode cX7_finds 161 = .ok (.iconst 1, 1) := by decide +kernel
theorem dX7_finds_162 : decode cX7_finds 162 = .ok (.iand, 1) := by decide +kernel
theorem dX7_finds_163 : decode cX7_finds 163 = .ok (.iconst 1, 1) := by decide +kernel
theorem dX7_finds_164 : decode cX7_finds 164 = .ok (.if_icmp .ne 19, 3) := by decide +kernel
theorem dX7_finds_167 : decode cX7_finds 167 = .ok (.iload_n 3, 1) := by decide +kernel
theorem dX7_finds_168 : decode cX7_finds 168 = .ok (.iconst 1, 1) := by decide +kernel
theorem dX7_finds_169 : decode cX7_finds 169 = .ok (.aload_n 0, 1) := by decide +kernel
theorem dX7_finds_170 : decode cX7_finds 170 = .ok (.getfield 7, 3) := by decide +kernel
theorem dX7_finds_173 : decode cX7_finds 173 = .ok (.iconst 3, 1) := by decide +kernel
theorem dX7_finds_174 : decode cX7_finds 174 = .ok (.iaload, 1) := by decide +kernel
theorem dX7_finds_175 : decode cX7_finds 175 = .ok (.ishl, 1) := by decide +kernel
theorem dX7_finds_176 : decode cX7_finds 176 = .ok (.if_icmp .ge 7, 3) := by decide +kernel
theorem dX7_finds_179 : decode cX7_finds 179 = .ok (.iconst 1, 1) := by decide +kernel
theorem dX7_finds_180 : decode cX7_finds 180 = .ok (.goto 4, 3) := by decide +kernel
theorem dX7_finds_183 : decode cX7_finds 183 = .ok (.iconst 0, 1) := by decide +kernel
theorem dX7_finds_184 : decode cX7_finds 184 = .ok (.istore 6, 2) := by decide +kernel
theorem dX7_finds_186 : decode cX7_finds 186 = .ok (.aload_n 0, 1) := by decide +kernel
theorem dX7_finds_187 : decode cX7_finds 187 = .ok (.getfield 32, 3) := by decide +kernel
theorem dX7_finds_190 : decode cX7_finds 190 = .ok (.bipush 16, 2) := by decide +kernel
theorem dX7_finds_192 : decode cX7_finds 192 = .ok (.iload_n 2, 1) := by decide +kernel
theorem dX7_finds_193 : decode cX7_finds 193 = .ok (.imul, 1) := by decide +kernel
theorem dX7_finds_194 : decode cX7_finds 194 = .ok (.iload 4, 2) := by decide +kernel
theorem dX7_finds_196 : decode cX7_finds 196 = .ok (.iadd, 1) := by decide +kernel
theorem dX7_finds_197 : decode cX7_finds 197 = .ok (.iload 6, 2) := by decide +kernel
theorem dX7_finds_199 : decode cX7_finds 199 = .ok (.ifCond .eq 7, 3) := by decide +kernel
theorem dX7_finds_202 : decode cX7_finds 202 = .ok (.iload_n 3, 1) := by decide +kernel
theorem dX7_finds_203 : decode cX7_finds 203 = .ok (.goto 5, 3) := by decide +kernel
theorem dX7_finds_206 : decode cX7_finds 206 = .ok (.bipush (-9), 2) := by decide +kernel
theorem dX7_finds_208 : decode cX7_finds 208 = .ok (.iastore, 1) := by decide +kernel
theorem dX7_finds_209 : decode cX7_finds 209 = .ok (.iload_n 3, 1) := by decide +kernel
theorem dX7_finds_210 : decode cX7_finds 210 = .ok (.iload 6, 2) := by decide +kernel
theorem dX7_finds_212 : decode cX7_finds 212 = .ok (.ifCond .eq 7, 3) := by decide +kernel
theorem dX7_finds_215 : decode cX7_finds 215 = .ok (.iconst 1, 1) := by decide +kernel
theorem dX7_finds_216 : decode cX7_finds 216 = .ok (.goto 4, 3) := by decide +kernel
theorem dX7_finds_219 : decode cX7_finds 219 = .ok (.iconst 0, 1) := by decide +kernel
theorem dX7_finds_220 : decode cX7_finds 220 = .ok (.iadd, 1) := by decide +kernel
theorem dX7_finds_221 : decode cX7_finds 221 = .ok (.istore_n 3, 1) := by decide +kernel
theorem dX7_finds_222 : decode cX7_finds 222 = .ok (.iinc 4 1, 3) := by decide +kernel
theorem dX7_finds_225 : decode cX7_finds 225 = .ok (.goto (-108), 3) := by decide +kernel
theorem dX7_finds_228 : decode cX7_finds 228 = .ok (.aload_n 0, 1) := by decide +kernel
theorem dX7_finds_229 : decode cX7_finds 229 = .ok (.aload_n 0, 1) := by decide +kernel
theorem dX7_finds_230 : decode cX7_finds 230 = .ok (.getfield 92, 3) := by decide +kernel
theorem dX7_finds_233 : decode cX7_finds 233 = .ok (.iload_n 2, 1) := by decide +kernel
theorem dX7_finds_234 : decode cX7_finds 234 = .ok (.ishr, 1) := by decide +kernel
theorem dX7_finds_235 : decode cX7_finds 235 = .ok (.iconst 1, 1) := by decide +kernel
theorem dX7_finds_236 : decode cX7_finds 236 = .ok (.iand, 1) := by decide +kernel
theorem dX7_finds_237 : decode cX7_finds 237 = .ok (.iconst 1, 1) := by decide +kernel
theorem dX7_finds_238 : decode cX7_finds 238 = .ok (.if_icmp .ne 7, 3) := by decide +kernel
theorem dX7_finds_241 : decode cX7_finds 241 = .ok (.iload_n 2, 1) := by decide +kernel
theorem dX7_finds_242 : decode cX7_finds 242 = .ok (.goto 7, 3) := by decide +kernel
theorem dX7_finds_245 : decode cX7_finds 245 = .ok (.aload_n 0, 1) := by decide +kernel
theorem dX7_finds_246 : decode cX7_finds 246 = .ok (.getfield 59, 3) := by decide +kernel
theorem dX7_finds_249 : decode cX7_finds 249 = .ok (.putfield 59, 3) := by decide +kernel
theorem dX7_finds_252 : decode cX7_finds 252 = .ok (.iinc 2 (-1), 3) := by decide +kernel
theorem dX7_finds_255 : decode cX7_finds 255 = .ok (.goto (-147), 3) := by decide +kernel
theorem dX7_finds_258 : decode cX7_finds 258 = .ok (.return_, 1) := by decide +kernel
theorem dX7_type_0 : decode cX7_type 0 = .ok (.iload_n 1, 1) := by decide +kernel
theorem dX7_type_1 : decode cX7_type 1 = .ok (.i2l, 1) := by decide +kernel
theorem dX7_type_2 : decode cX7_type 2 = .ok (.lconst 0, 1) := by decide +kernel
theorem dX7_type_3 : decode cX7_type 3 = .ok (.ldc2_w 101, 3) := by decide +kernel
theorem dX7_type_6 : decode cX7_type 6 = .ok (.invokestatic 70, 3) := by decide +kernel
theorem dX7_type_9 : decode cX7_type 9 = .ok (.ifCond .ne 5, 3) := by decide +kernel
theorem dX7_type_12 : decode cX7_type 12 = .ok (.iconst (-1), 1) := by decide +kernel
theorem dX7_type_13 : decode cX7_type 13 = .ok (.ireturn, 1) := by decide +kernel
theorem dX7_type_14 : decode cX7_type 14 = .ok (.aload_n 0, 1) := by decide +kernel
theorem dX7_type_15 : decode cX7_type 15 = .ok (.getfield 103, 3) := by decide +kernel
theorem dX7_type_18 : decode cX7_type 18 = .ok (.bipush 60, 2) := by decide +kernel
theorem dX7_type_20 : decode cX7_type 20 = .ok (.if_icmp .ne 6, 3) := by decide +kernel
theorem dX7_type_23 : decode cX7_type 23 = .ok (.bipush (-3), 2) := by decide +kernel
theorem dX7_type_25 : decode cX7_type 25 = .ok (.ireturn, 1) := by decide +kernel
theorem dX7_type_26 : decode cX7_type 26 = .ok (.aload_n 0, 1) := by decide +kernel
theorem dX7_type_27 : decode cX7_type 27 = .ok (.getfield 26, 3) := by decide +kernel
theorem dX7_type_30 : decode cX7_type 30 = .ok (.aload_n 0, 1) := by decide +kernel
theorem dX7_type_31 : decode cX7_type 31 = .ok (.getfield 103, 3) := by decide +kernel
theorem dX7_type_34 : decode cX7_type 34 = .ok (.iload_n 1, 1) := by decide +kernel
theorem dX7_type_35 : decode cX7_type 35 = .ok (.iastore, 1) := by decide +kernel
theorem dX7_type_36 : decode cX7_type 36 = .ok (.aload_n 0, 1) := by decide +kernel
theorem dX7_type_37 : decode cX7_type 37 = .ok (.dup, 1) := by decide +kernel
theorem dX7_type_38 : decode cX7_type 38 = .ok (.getfield 103, 3) := by decide +kernel
theorem dX7_type_41 : decode cX7_type 41 = .ok (.iconst 1, 1) := by decide +kernel
theorem dX7_type_42 : decode cX7_type 42 = .ok (.iadd, 1) := by decide +kernel
theorem dX7_type_43 : decode cX7_type 43 = .ok (.putfield 103, 3) := by decide +kernel
theorem dX7_type_46 : decode cX7_type 46 = .ok (.aload_n 0, 1) := by decide +kernel
theorem dX7_type_47 : decode cX7_type 47 = .ok (.getfield 103, 3) := by decide +kernel
theorem dX7_type_50 : decode cX7_type 50 = .ok (.ireturn, 1) := by decide +kernel
theorem dX7_clear_0 : decode cX7_clear 0 = .ok (.aload_n 0, 1) := by decide +kernel
theorem dX7_clear_1 : decode cX7_clear 1 = .ok (.getfield 103, 3) := by decide +kernel
theorem dX7_clear_4 : decode cX7_clear 4 = .ok (.istore_n 1, 1) := by decide +kernel
theorem dX7_clear_5 : decode cX7_clear 5 = .ok (.aload_n 0, 1) := by decide +kernel
theorem dX7_clear_6 : decode cX7_clear 6 = .ok (.iconst 0, 1) := by decide +kernel
theorem dX7_clear_7 : decode cX7_clear 7 = .ok (.putfield 103, 3) := by decide +kernel
theorem dX7_clear_10 : decode cX7_clear 10 = .ok (.iload_n 1, 1) := by decide +kernel
theorem dX7_clear_11 : decode cX7_clear 11 = .ok (.ireturn, 1) := by decide +kernel
theorem dX7_here_0 : decode cX7_here 0 = .ok (.aload_n 0, 1) := by decide +kernel
theorem dX7_here_1 : decode cX7_here 1 = .ok (.getfield 106, 3) := by decide +kernel
theorem dX7_here_4 : decode cX7_here 4 = .ok (.aload_n 0, 1) := by decide +kernel
theorem dX7_here_5 : decode cX7_here 5 = .ok (.getfield 103, 3) := by decide +kernel
theorem dX7_here_8 : decode cX7_here 8 = .ok (.if_icmp .ge 30, 3) := by decide +kernel
theorem dX7_here_11 : decode cX7_here 11 = .ok (.aload_n 0, 1) := by decide +kernel
theorem dX7_here_12 : decode cX7_here 12 = .ok (.getfield 26, 3) := by decide +kernel
theorem dX7_here_15 : decode cX7_here 15 = .ok (.aload_n 0, 1) := by decide +kernel
theorem dX7_here_16 : decode cX7_here 16 = .ok (.getfield 106, 3) := by decide +kernel
theorem dX7_here_19 : decode cX7_here 19 = .ok (.iaload, 1) := by decide +kernel
theorem dX7_here_20 : decode cX7_here 20 = .ok (.bipush 32, 2) := by decide +kernel
theorem dX7_here_22 : decode cX7_here 22 = .ok (.if_icmp .ne 16, 3) := by decide +kernel
theorem dX7_here_25 : decode cX7_here 25 = .ok (.aload_n 0, 1) := by decide +kernel
theorem dX7_here_26 : decode cX7_here 26 = .ok (.dup, 1) := by decide +kernel
theorem dX7_here_27 : decode cX7_here 27 = .ok (.getfield 106, 3) := by decide +kernel
theorem dX7_here_30 : decode cX7_here 30 = .ok (.iconst 1, 1) := by decide +kernel
theorem dX7_here_31 : decode cX7_here 31 = .ok (.iadd, 1) := by decide +kernel
theorem dX7_here_32 : decode cX7_here 32 = .ok (.putfield 106, 3) := by decide +kernel
theorem dX7_here_35 : decode cX7_here 35 = .ok (.goto (-35), 3) := by decide +kernel
theorem dX7_here_38 : decode cX7_here 38 = .ok (.aload_n 0, 1) := by decide +kernel
theorem dX7_here_39 : decode cX7_here 39 = .ok (.getfield 106, 3) := by decide +kernel
theorem dX7_here_42 : decode cX7_here 42 = .ok (.aload_n 0, 1) := by decide +kernel
theorem dX7_here_43 : decode cX7_here 43 = .ok (.getfield 103, 3) := by decide +kernel
theorem dX7_here_46 : decode cX7_here 46 = .ok (.if_icmp .ge 15, 3) := by decide +kernel
theorem dX7_here_49 : decode cX7_here 49 = .ok (.aload_n 0, 1) := by decide +kernel
theorem dX7_here_50 : decode cX7_here 50 = .ok (.getfield 26, 3) := by decide +kernel
theorem dX7_here_53 : decode cX7_here 53 = .ok (.aload_n 0, 1) := by decide +kernel
theorem dX7_here_54 : decode cX7_here 54 = .ok (.getfield 106, 3) := by decide +kernel
theorem dX7_here_57 : decode cX7_here 57 = .ok (.iaload, 1) := by decide +kernel
theorem dX7_here_58 : decode cX7_here 58 = .ok (.goto 4, 3) := by decide +kernel
theorem dX7_here_61 : decode cX7_here 61 = .ok (.iconst (-1), 1) := by decide +kernel
theorem dX7_here_62 : decode cX7_here 62 = .ok (.ireturn, 1) := by decide +kernel
theorem dX7_isFigure_0 : decode cX7_isFigure 0 = .ok (.iload_n 1, 1) := by decide +kernel
theorem dX7_isFigure_1 : decode cX7_isFigure 1 = .ok (.aload_n 0, 1) := by decide +kernel
theorem dX7_isFigure_2 : decode cX7_isFigure 2 = .ok (.getfield 103, 3) := by decide +kernel
theorem dX7_isFigure_5 : decode cX7_isFigure 5 = .ok (.if_icmp .ge 26, 3) := by decide +kernel
theorem dX7_isFigure_8 : decode cX7_isFigure 8 = .ok (.aload_n 0, 1) := by decide +kernel
theorem dX7_isFigure_9 : decode cX7_isFigure 9 = .ok (.getfield 26, 3) := by decide +kernel
theorem dX7_isFigure_12 : decode cX7_isFigure 12 = .ok (.iload_n 1, 1) := by decide +kernel
theorem dX7_isFigure_13 : decode cX7_isFigure 13 = .ok (.iaload, 1) := by decide +kernel
theorem dX7_isFigure_14 : decode cX7_isFigure 14 = .ok (.i2l, 1) := by decide +kernel
theorem dX7_isFigure_15 : decode cX7_isFigure 15 = .ok (.ldc2_w 109, 3) := by decide +kernel
theorem dX7_isFigure_18 : decode cX7_isFigure 18 = .ok (.ldc2_w 111, 3) := by decide +kernel
theorem dX7_isFigure_21 : decode cX7_isFigure 21 = .ok (.invokestatic 70, 3) := by decide +kernel
theorem dX7_isFigure_24 : decode cX7_isFigure 24 = .ok (.ifCond .eq 7, 3) := by decide +kernel
theorem dX7_isFigure_27 : decode cX7_isFigure 27 = .ok (.iconst 1, 1) := by decide +kernel
theorem dX7_isFigure_28 : decode cX7_isFigure 28 = .ok (.goto 4, 3) := by decide +kernel
theorem dX7_isFigure_31 : decode cX7_isFigure 31 = .ok (.iconst 0, 1) := by decide +kernel
theorem dX7_isFigure_32 : decode cX7_isFigure 32 = .ok (.ireturn, 1) := by decide +kernel
theorem dX7_takes_0 : decode cX7_takes 0 = .ok (.aload_n 0, 1) := by decide +kernel
theorem dX7_takes_1 : decode cX7_takes 1 = .ok (.invokevirtual 113, 3) := by decide +kernel
theorem dX7_takes_4 : decode cX7_takes 4 = .ok (.iload_n 1, 1) := by decide +kernel
theorem dX7_takes_5 : decode cX7_takes 5 = .ok (.if_icmp .eq 5, 3) := by decide +kernel
theorem dX7_takes_8 : decode cX7_takes 8 = .ok (.iconst 0, 1) := by decide +kernel
theorem dX7_takes_9 : decode cX7_takes 9 = .ok (.ireturn, 1) := by decide +kernel
theorem dX7_takes_10 : decode cX7_takes 10 = .ok (.aload_n 0, 1) := by decide +kernel
theorem dX7_takes_11 : decode cX7_takes 11 = .ok (.dup, 1) := by decide +kernel
theorem dX7_takes_12 : decode cX7_takes 12 = .ok (.getfield 106, 3) := by decide +kernel
theorem dX7_takes_15 : decode cX7_takes 15 = .ok (.iconst 1, 1) := by decide +kernel
theorem dX7_takes_16 : decode cX7_takes 16 = .ok (.iadd, 1) := by decide +kernel
theorem dX7_takes_17 : decode cX7_takes 17 = .ok (.putfield 106, 3) := by decide +kernel
theorem dX7_takes_20 : decode cX7_takes 20 = .ok (.iconst 1, 1) := by decide +kernel
theorem dX7_takes_21 : decode cX7_takes 21 = .ok (.ireturn, 1) := by decide +kernel
theorem dX7_takesNumber_0 : decode cX7_takesNumber 0 = .ok (.aload_n 0, 1) := by decide +kernel
theorem dX7_takesNumber_1 : decode cX7_takesNumber 1 = .ok (.invokevirtual 113, 3) := by decide +kernel
theorem dX7_takesNumber_4 : decode cX7_takesNumber 4 = .ok (.istore_n 3, 1) := by decide +kernel
theorem dX7_takesNumber_5 : decode cX7_takesNumber 5 = .ok (.aload_n 0, 1) := by decide +kernel
theorem dX7_takesNumber_6 : decode cX7_takesNumber 6 = .ok (.aload_n 0, 1) := by decide +kernel
theorem dX7_takesNumber_7 : decode cX7_takesNumber 7 = .ok (.getfield 106, 3) := by decide +kernel
theorem dX7_takesNumber_10 : decode cX7_takesNumber 10 = .ok (.invokevirtual 116, 3) := by decide +kernel
theorem dX7_takesNumber_13 : decode cX7_takesNumber 13 = .ok (.ifCond .eq 31, 3) := by decide +kernel
theorem dX7_takesNumber_16 : decode cX7_takesNumber 16 = .ok (.aload_n 0, 1) := by decide +kernel
theorem dX7_takesNumber_17 : decode cX7_takesNumber 17 = .ok (.aload_n 0, 1) := by decide +kernel
theorem dX7_takesNumber_18 : decode cX7_takesNumber 18 = .ok (.getfield 106, 3) := by decide +kernel
theorem dX7_takesNumber_21 : decode cX7_takesNumber 21 = .ok (.iconst 1, 1) := by decide +kernel
theorem dX7_takesNumber_22 : decode cX7_takesNumber 22 = .ok (.iadd, 1) := by decide +kernel
theorem dX7_takesNumber_23 : decode cX7_takesNumber 23 = .ok (.invokevirtual 116, 3) := by decide +kernel
theorem dX7_takesNumber_26 : decode cX7_takesNumber 26 = .ok (.ifCond .ne 18, 3) := by decide +kernel
theorem dX7_takesNumber_29 : decode cX7_takesNumber 29 = .ok (.iload_n 3, 1) := by decide +kernel
theorem dX7_takesNumber_30 : decode cX7_takesNumber 30 = .ok (.bipush 48, 2) := by decide +kernel
theorem dX7_takesNumber_32 : decode cX7_takesNumber 32 = .ok (.isub, 1) := by decide +kernel
theorem dX7_takesNumber_33 : decode cX7_takesNumber 33 = .ok (.i2l, 1) := by decide +kernel
theorem dX7_takesNumber_34 : decode cX7_takesNumber 34 = .ok (.iload_n 1, 1) := by decide +kernel
theorem dX7_takesNumber_35 : decode cX7_takesNumber 35 = .ok (.i2l, 1) := by decide +kernel
theorem dX7_takesNumber_36 : decode cX7_takesNumber 36 = .ok (.iload_n 2, 1) := by decide +kernel
theorem dX7_takesNumber_37 : decode cX7_takesNumber 37 = .ok (.i2l, 1) := by decide +kernel
theorem dX7_takesNumber_38 : decode cX7_takesNumber 38 = .ok (.invokestatic 70, 3) := by decide +kernel
theorem dX7_takesNumber_41 : decode cX7_takesNumber 41 = .ok (.ifCond .ne 5, 3) := by decide +kernel
theorem dX7_takesNumber_44 : decode cX7_takesNumber 44 = .ok (.iconst 0, 1) := by decide +kernel
theorem dX7_takesNumber_45 : decode cX7_takesNumber 45 = .ok (.ireturn, 1) := by decide +kernel
theorem dX7_takesNumber_46 : decode cX7_takesNumber 46 = .ok (.aload_n 0, 1) := by decide +kernel
theorem dX7_takesNumber_47 : decode cX7_takesNumber 47 = .ok (.iload_n 3, 1) := by decide +kernel
theorem dX7_takesNumber_48 : decode cX7_takesNumber 48 = .ok (.bipush 48, 2) := by decide +kernel
theorem dX7_takesNumber_50 : decode cX7_takesNumber 50 = .ok (.isub, 1) := by decide +kernel
theorem dX7_takesNumber_51 : decode cX7_takesNumber 51 = .ok (.putfield 120, 3) := by decide +kernel
theorem dX7_takesNumber_54 : decode cX7_takesNumber 54 = .ok (.aload_n 0, 1) := by decide +kernel
theorem dX7_takesNumber_55 : decode cX7_takesNumber 55 = .ok (.dup, 1) := by decide +kernel
theorem dX7_takesNumber_56 : decode cX7_takesNumber 56 = .ok (.getfield 106, 3) := by decide +kernel
theorem dX7_takesNumber_59 : decode cX7_takesNumber 59 = .ok (.iconst 1, 1) := by decide +kernel
theorem dX7_takesNumber_60 : decode cX7_takesNumber 60 = .ok (.iadd, 1) := by decide +kernel
theorem dX7_takesNumber_61 : decode cX7_takesNumber 61 = .ok (.putfield 106, 3) := by decide +kernel
theorem dX7_takesNumber_64 : decode cX7_takesNumber 64 = .ok (.iconst 1, 1) := by decide +kernel
theorem dX7_takesNumber_65 : decode cX7_takesNumber 65 = .ok (.ireturn, 1) := by decide +kernel
theorem dX7_takesBits_0 : decode cX7_takesBits 0 = .ok (.aload_n 0, 1) := by decide +kernel
theorem dX7_takesBits_1 : decode cX7_takesBits 1 = .ok (.invokevirtual 113, 3) := by decide +kernel
theorem dX7_takesBits_4 : decode cX7_takesBits 4 = .ok (.istore_n 1, 1) := by decide +kernel
theorem dX7_takesBits_5 : decode cX7_takesBits 5 = .ok (.iconst 0, 1) := by decide +kernel
theorem dX7_takesBits_6 : decode cX7_takesBits 6 = .ok (.istore_n 2, 1) := by decide +kernel
theorem dX7_takesBits_7 : decode cX7_takesBits 7 = .ok (.iconst 0, 1) := by decide +kernel
theorem dX7_takesBits_8 : decode cX7_takesBits 8 = .ok (.istore_n 3, 1) := by decide +kernel
theorem dX7_takesBits_9 : decode cX7_takesBits 9 = .ok (.iconst 1, 1) := by decide +kernel
theorem dX7_takesBits_10 : decode cX7_takesBits 10 = .ok (.istore 4, 2) := by decide +kernel
theorem dX7_takesBits_12 : decode cX7_takesBits 12 = .ok (.aload_n 0, 1) := by decide +kernel
theorem dX7_takesBits_13 : decode cX7_takesBits 13 = .ok (.aload_n 0, 1) := by decide +kernel
theorem dX7_takesBits_14 : decode cX7_takesBits 14 = .ok (.getfield 106, 3) := by decide +kernel
theorem dX7_takesBits_17 : decode cX7_takesBits 17 = .ok (.iload_n 2, 1) := by decide +kernel
theorem dX7_takesBits_18 : decode cX7_takesBits 18 = .ok (.iadd, 1) := by decide +kernel
theorem dX7_takesBits_19 : decode cX7_takesBits 19 = .ok (.invokevirtual 116, 3) := by decide +kernel
theorem dX7_takesBits_22 : decode cX7_takesBits 22 = .ok (.ifCond .eq 70, 3) := by decide +kernel
theorem dX7_takesBits_25 : decode cX7_takesBits 25 = .ok (.iload 4, 2) := by decide +kernel
theorem dX7_takesBits_27 : decode cX7_takesBits 27 = .ok (.ifCond .eq 28, 3) := by decide +kernel
theorem dX7_takesBits_30 : decode cX7_takesBits 30 = .ok (.aload_n 0, 1) := by decide +kernel
theorem dX7_takesBits_31 : decode cX7_takesBits 31 = .ok (.getfield 26, 3) := by decide +kernel
theorem dX7_takesBits_34 : decode cX7_takesBits 34 = .ok (.aload_n 0, 1) := by decide +kernel
theorem dX7_takesBits_35 : decode cX7_takesBits 35 = .ok (.getfield 106, 3) := by decide +kernel
theorem dX7_takesBits_38 : decode cX7_takesBits 38 = .ok (.iload_n 2, 1) := by decide +kernel
theorem dX7_takesBits_39 : decode cX7_takesBits 39 = .ok (.iadd, 1) := by decide +kernel
theorem dX7_takesBits_40 : decode cX7_takesBits 40 = .ok (.iaload, 1) := by decide +kernel
theorem dX7_takesBits_41 : decode cX7_takesBits 41 = .ok (.bipush 50, 2) := by decide +kernel
theorem dX7_takesBits_43 : decode cX7_takesBits 43 = .ok (.if_icmp .ge 12, 3) := by decide +kernel
theorem dX7_takesBits_46 : decode cX7_takesBits 46 = .ok (.iload_n 2, 1) := by decide +kernel
theorem dX7_takesBits_47 : decode cX7_takesBits 47 = .ok (.iconst 5, 1) := by decide +kernel
theorem dX7_takesBits_48 : decode cX7_takesBits 48 = .ok (.if_icmp .ge 7, 3) := by decide +kernel
theorem dX7_takesBits_51 : decode cX7_takesBits 51 = .ok (.iconst 1, 1) := by decide +kernel
theorem dX7_takesBits_52 : decode cX7_takesBits 52 = .ok (.goto 4, 3) := by decide +kernel
theorem dX7_takesBits_55 : decode cX7_takesBits 55 = .ok (.iconst 0, 1) := by decide +kernel
theorem dX7_takesBits_56 : decode cX7_takesBits 56 = .ok (.istore 4, 2) := by decide +kernel
theorem dX7_takesBits_58 : decode cX7_takesBits 58 = .ok (.iload 4, 2) := by decide +kernel
theorem dX7_takesBits_60 : decode cX7_takesBits 60 = .ok (.ifCond .eq 24, 3) := by decide +kernel
theorem dX7_takesBits_63 : decode cX7_takesBits 63 = .ok (.iconst 2, 1) := by decide +kernel
theorem dX7_takesBits_64 : decode cX7_takesBits 64 = .ok (.iload_n 3, 1) := by decide +kernel
theorem dX7_takesBits_65 : decode cX7_takesBits 65 = .ok (.imul, 1) := by decide +kernel
theorem dX7_takesBits_66 : decode cX7_takesBits 66 = .ok (.aload_n 0, 1) := by decide +kernel
theorem dX7_takesBits_67 : decode cX7_takesBits 67 = .ok (.getfield 26, 3) := by decide +kernel
theorem dX7_takesBits_70 : decode cX7_takesBits 70 = .ok (.aload_n 0, 1) := by decide +kernel
theorem dX7_takesBits_71 : decode cX7_takesBits 71 = .ok (.getfield 106, 3) := by decide +kernel
theorem dX7_takesBits_74 : decode cX7_takesBits 74 = .ok (.iload_n 2, 1) := by decide +kernel
theorem dX7_takesBits_75 : decode cX7_takesBits 75 = .ok (.iadd, 1) := by decide +kernel
theorem dX7_takesBits_76 : decode cX7_takesBits 76 = .ok (.iaload, 1) := by decide +kernel
theorem dX7_takesBits_77 : decode cX7_takesBits 77 = .ok (.iadd, 1) := by decide +kernel
theorem dX7_takesBits_78 : decode cX7_takesBits 78 = .ok (.bipush 48, 2) := by decide +kernel
theorem dX7_takesBits_80 : decode cX7_takesBits 80 = .ok (.isub, 1) := by decide +kernel
theorem dX7_takesBits_81 : decode cX7_takesBits 81 = .ok (.goto 4, 3) := by decide +kernel
theorem dX7_takesBits_84 : decode cX7_takesBits 84 = .ok (.iload_n 3, 1) := by decide +kernel
theorem dX7_takesBits_85 : decode cX7_takesBits 85 = .ok (.istore_n 3, 1) := by decide +kernel
theorem dX7_takesBits_86 : decode cX7_takesBits 86 = .ok (.iinc 2 1, 3) := by decide +kernel
theorem dX7_takesBits_89 : decode cX7_takesBits 89 = .ok (.goto (-77), 3) := by decide +kernel
theorem dX7_takesBits_92 : decode cX7_takesBits 92 = .ok (.iload 4, 2) := by decide +kernel
theorem dX7_takesBits_94 : decode cX7_takesBits 94 = .ok (.ifCond .eq 8, 3) := by decide +kernel
theorem dX7_takesBits_97 : decode cX7_takesBits 97 = .ok (.iload_n 2, 1) := by decide +kernel
theorem dX7_takesBits_98 : decode cX7_takesBits 98 = .ok (.iconst 2, 1) := by decide +kernel
theorem dX7_takesBits_99 : decode cX7_takesBits 99 = .ok (.if_icmp .ge 5, 3) := by decide +kernel
theorem dX7_takesBits_102 : decode cX7_takesBits 102 = .ok (.iconst 0, 1) := by decide +kernel
theorem dX7_takesBits_103 : decode cX7_takesBits 103 = .ok (.ireturn, 1) := by decide +kernel
theorem dX7_takesBits_104 : decode cX7_takesBits 104 = .ok (.aload_n 0, 1) := by decide +kernel
theorem dX7_takesBits_105 : decode cX7_takesBits 105 = .ok (.getfield 35, 3) := by decide +kernel
theorem dX7_takesBits_108 : decode cX7_takesBits 108 = .ok (.iconst 1, 1) := by decide +kernel
theorem dX7_takesBits_109 : decode cX7_takesBits 109 = .ok (.iload_n 2, 1) := by decide +kernel
theorem dX7_takesBits_110 : decode cX7_takesBits 110 = .ok (.iastore, 1) := by decide +kernel
theorem dX7_takesBits_111 : decode cX7_takesBits 111 = .ok (.aload_n 0, 1) := by decide +kernel
theorem dX7_takesBits_112 : decode cX7_takesBits 112 = .ok (.getfield 35, 3) := by decide +kernel
theorem dX7_takesBits_115 : decode cX7_takesBits 115 = .ok (.iconst 2, 1) := by decide +kernel
theorem dX7_takesBits_116 : decode cX7_takesBits 116 = .ok (.iload_n 3, 1) := by decide +kernel
theorem dX7_takesBits_117 : decode cX7_takesBits 117 = .ok (.iastore, 1) := by decide +kernel
theorem dX7_takesBits_118 : decode cX7_takesBits 118 = .ok (.aload_n 0, 1) := by decide +kernel
theorem dX7_takesBits_119 : decode cX7_takesBits 119 = .ok (.dup, 1) := by decide +kernel
theorem dX7_takesBits_120 : decode cX7_takesBits 120 = .ok (.getfield 106, 3) := by decide +kernel
theorem dX7_takesBits_123 : decode cX7_takesBits 123 = .ok (.iload_n 2, 1) := by decide +kernel
theorem dX7_takesBits_124 : decode cX7_takesBits 124 = .ok (.iadd, 1) := by decide +kernel
theorem dX7_takesBits_125 : decode cX7_takesBits 125 = .ok (.putfield 106, 3) := by decide +kernel
theorem dX7_takesBits_128 : decode cX7_takesBits 128 = .ok (.iconst 1, 1) := by decide +kernel
theorem dX7_takesBits_129 : decode cX7_takesBits 129 = .ok (.ireturn, 1) := by decide +kernel
theorem dX7_takesBan_0 : decode cX7_takesBan 0 = .ok (.aload_n 0, 1) := by decide +kernel
theorem dX7_takesBan_1 : decode cX7_takesBan 1 = .ok (.bipush 114, 2) := by decide +kernel
theorem dX7_takesBan_3 : decode cX7_takesBan 3 = .ok (.invokevirtual 123, 3) := by decide +kernel
theorem dX7_takesBan_6 : decode cX7_takesBan 6 = .ok (.ifCond .eq 69, 3) := by decide +kernel
theorem dX7_takesBan_9 : decode cX7_takesBan 9 = .ok (.aload_n 0, 1) := by decide +kernel
theorem dX7_takesBan_10 : decode cX7_takesBan 10 = .ok (.getfield 35, 3) := by decide +kernel
theorem dX7_takesBan_13 : decode cX7_takesBan 13 = .ok (.iconst 0, 1) := by decide +kernel
theorem dX7_takesBan_14 : decode cX7_takesBan 14 = .ok (.iconst 0, 1) := by decide +kernel
theorem dX7_takesBan_15 : decode cX7_takesBan 15 = .ok (.iastore, 1) := by decide +kernel
theorem dX7_takesBan_16 : decode cX7_takesBan 16 = .ok (.aload_n 0, 1) := by decide +kernel
theorem dX7_takesBan_17 : decode cX7_takesBan 17 = .ok (.iconst 0, 1) := by decide +kernel
theorem dX7_takesBan_18 : decode cX7_takesBan 18 = .ok (.iconst 3, 1) := by decide +kernel
theorem dX7_takesBan_19 : decode cX7_takesBan 19 = .ok (.invokevirtual 126, 3) := by decide +kernel
theorem dX7_takesBan_22 : decode cX7_takesBan 22 = .ok (.ifCond .ne 5, 3) := by decide +kernel
theorem dX7_takesBan_25 : decode cX7_takesBan 25 = .ok (.iconst 0, 1) := by decide +kernel
theorem dX7_takesBan_26 : decode cX7_takesBan 26 = .ok (.ireturn, 1) := by decide +kernel
theorem dX7_takesBan_27 : decode cX7_takesBan 27 = .ok (.aload_n 0, 1) := by decide +kernel
theorem dX7_takesBan_28 : decode cX7_takesBan 28 = .ok (.getfield 35, 3) := by decide +kernel
theorem dX7_takesBan_31 : decode cX7_takesBan 31 = .ok (.iconst 1, 1) := by decide +kernel
theorem dX7_takesBan_32 : decode cX7_takesBan 32 = .ok (.aload_n 0, 1) := by decide +kernel
theorem dX7_takesBan_33 : decode cX7_takesBan 33 = .ok (.getfield 120, 3) := by decide +kernel
theorem dX7_takesBan_36 : decode cX7_takesBan 36 = .ok (.iastore, 1) := by decide +kernel
theorem dX7_takesBan_37 : decode cX7_takesBan 37 = .ok (.aload_n 0, 1) := by decide +kernel
theorem dX7_takesBan_38 : decode cX7_takesBan 38 = .ok (.aload_n 0, 1) := by decide +kernel
theorem dX7_takesBan_39 : decode cX7_takesBan 39 = .ok (.getfield 120, 3) := by decide +kernel
theorem dX7_takesBan_42 : decode cX7_takesBan 42 = .ok (.iconst 1, 1) := by decide +kernel
theorem dX7_takesBan_43 : decode cX7_takesBan 43 = .ok (.if_icmp .le 10, 3) := by decide +kernel
theorem dX7_takesBan_46 : decode cX7_takesBan 46 = .ok (.aload_n 0, 1) := by decide +kernel
theorem dX7_takesBan_47 : decode cX7_takesBan 47 = .ok (.getfield 120, 3) := by decide +kernel
theorem dX7_takesBan_50 : decode cX7_takesBan 50 = .ok (.goto 4, 3) := by decide +kernel
theorem dX7_takesBan_53 : decode cX7_takesBan 53 = .ok (.iconst 1, 1) := by decide +kernel
theorem dX7_takesBan_54 : decode cX7_takesBan 54 = .ok (.iconst 5, 1) := by decide +kernel
theorem dX7_takesBan_55 : decode cX7_takesBan 55 = .ok (.invokevirtual 126, 3) := by decide +kernel
theorem dX7_takesBan_58 : decode cX7_takesBan 58 = .ok (.ifCond .ne 5, 3) := by decide +kernel
theorem dX7_takesBan_61 : decode cX7_takesBan 61 = .ok (.iconst 0, 1) := by decide +kernel
theorem dX7_takesBan_62 : decode cX7_takesBan 62 = .ok (.ireturn, 1) := by decide +kernel
theorem dX7_takesBan_63 : decode cX7_takesBan 63 = .ok (.aload_n 0, 1) := by decide +kernel
theorem dX7_takesBan_64 : decode cX7_takesBan 64 = .ok (.getfield 35, 3) := by decide +kernel
theorem dX7_takesBan_67 : decode cX7_takesBan 67 = .ok (.iconst 2, 1) := by decide +kernel
theorem dX7_takesBan_68 : decode cX7_takesBan 68 = .ok (.aload_n 0, 1) := by decide +kernel
theorem dX7_takesBan_69 : decode cX7_takesBan 69 = .ok (.getfield 120, 3) := by decide +kernel
theorem dX7_takesBan_72 : decode cX7_takesBan 72 = .ok (.iastore, 1) := by decide +kernel
theorem dX7_takesBan_73 : decode cX7_takesBan 73 = .ok (.iconst 1, 1) := by decide +kernel
theorem dX7_takesBan_74 : decode cX7_takesBan 74 = .ok (.ireturn, 1) := by decide +kernel
theorem dX7_takesBan_75 : decode cX7_takesBan 75 = .ok (.aload_n 0, 1) := by decide +kernel
theorem dX7_takesBan_76 : decode cX7_takesBan 76 = .ok (.bipush 99, 2) := by decide +kernel
theorem dX7_takesBan_78 : decode cX7_takesBan 78 = .ok (.invokevirtual 123, 3) := by decide +kernel
theorem dX7_takesBan_81 : decode cX7_takesBan 81 = .ok (.ifCond .eq 40, 3) := by decide +kernel
theorem dX7_takesBan_84 : decode cX7_takesBan 84 = .ok (.aload_n 0, 1) := by decide +kernel
theorem dX7_takesBan_85 : decode cX7_takesBan 85 = .ok (.getfield 35, 3) := by decide +kernel
theorem dX7_takesBan_88 : decode cX7_takesBan 88 = .ok (.iconst 0, 1) := by decide +kernel
theorem dX7_takesBan_89 : decode cX7_takesBan 89 = .ok (.iconst 1, 1) := by decide +kernel
theorem dX7_takesBan_90 : decode cX7_takesBan 90 = .ok (.iastore, 1) := by decide +kernel
theorem dX7_takesBan_91 : decode cX7_takesBan 91 = .ok (.aload_n 0, 1) := by decide +kernel
theorem dX7_takesBan_92 : decode cX7_takesBan 92 = .ok (.iconst 1, 1) := by decide +kernel
theorem dX7_takesBan_93 : decode cX7_takesBan 93 = .ok (.iconst 3, 1) := by decide +kernel
theorem dX7_takesBan_94 : decode cX7_takesBan 94 = .ok (.invokevirtual 126, 3) := by decide +kernel
theorem dX7_takesBan_97 : decode cX7_takesBan 97 = .ok (.ifCond .ne 5, 3) := by decide +kernel
theorem dX7_takesBan_100 : decode cX7_takesBan 100 = .ok (.iconst 0, 1) := by decide +kernel
theorem dX7_takesBan_101 : decode cX7_takesBan 101 = .ok (.ireturn, 1) := by decide +kernel
theorem dX7_takesBan_102 : decode cX7_takesBan 102 = .ok (.aload_n 0, 1) := by decide +kernel
theorem dX7_takesBan_103 : decode cX7_takesBan 103 = .ok (.getfield 35, 3) := by decide +kernel
theorem dX7_takesBan_106 : decode cX7_takesBan 106 = .ok (.iconst 1, 1) := by decide +kernel
theorem dX7_takesBan_107 : decode cX7_takesBan 107 = .ok (.aload_n 0, 1) := by decide +kernel
theorem dX7_takesBan_108 : decode cX7_takesBan 108 = .ok (.getfield 120, 3) := by decide +kernel
theorem dX7_takesBan_111 : decode cX7_takesBan 111 = .ok (.iastore, 1) := by decide +kernel
theorem dX7_takesBan_112 : decode cX7_takesBan 112 = .ok (.aload_n 0, 1) := by decide +kernel
theorem dX7_takesBan_113 : decode cX7_takesBan 113 = .ok (.getfield 35, 3) := by decide +kernel
theorem dX7_takesBan_116 : decode cX7_takesBan 116 = .ok (.iconst 2, 1) := by decide +kernel
theorem dX7_takesBan_117 : decode cX7_takesBan 117 = .ok (.iconst 0, 1) := by decide +kernel
theorem dX7_takesBan_118 : decode cX7_takesBan 118 = .ok (.iastore, 1) := by decide +kernel
theorem dX7_takesBan_119 : decode cX7_takesBan 119 = .ok (.iconst 1, 1) := by decide +kernel
theorem dX7_takesBan_120 : decode cX7_takesBan 120 = .ok (.ireturn, 1) := by decide +kernel
theorem dX7_takesBan_121 : decode cX7_takesBan 121 = .ok (.aload_n 0, 1) := by decide +kernel
theorem dX7_takesBan_122 : decode cX7_takesBan 122 = .ok (.getfield 35, 3) := by decide +kernel
theorem dX7_takesBan_125 : decode cX7_takesBan 125 = .ok (.iconst 0, 1) := by decide +kernel
theorem dX7_takesBan_126 : decode cX7_takesBan 126 = .ok (.iconst 2, 1) := by decide +kernel
theorem dX7_takesBan_127 : decode cX7_takesBan 127 = .ok (.iastore, 1) := by decide +kernel
theorem dX7_takesBan_128 : decode cX7_takesBan 128 = .ok (.aload_n 0, 1) := by decide +kernel
theorem dX7_takesBan_129 : decode cX7_takesBan 129 = .ok (.bipush 98, 2) := by decide +kernel
theorem dX7_takesBan_131 : decode cX7_takesBan 131 = .ok (.invokevirtual 123, 3) := by decide +kernel
theorem dX7_takesBan_134 : decode cX7_takesBan 134 = .ok (.ifCond .eq 14, 3) := by decide +kernel
theorem dX7_takesBan_137 : decode cX7_takesBan 137 = .ok (.aload_n 0, 1) := by decide +kernel
theorem dX7_takesBan_138 : decode cX7_takesBan 138 = .ok (.invokevirtual 130, 3) := by decide +kernel
theorem dX7_takesBan_141 : decode cX7_takesBan 141 = .ok (.ifCond .eq 7, 3) := by decide +kernel
theorem dX7_takesBan_144 : decode cX7_takesBan 144 = .ok (.iconst 1, 1) := by decide +kernel
theorem dX7_takesBan_145 : decode cX7_takesBan 145 = .ok (.goto 4, 3) := by decide +kernel
theorem dX7_takesBan_148 : decode cX7_takesBan 148 = .ok (.iconst 0, 1) := by decide +kernel
theorem dX7_takesBan_149 : decode cX7_takesBan 149 = .ok (.ireturn, 1) := by decide +kernel
theorem dX7_takesAll_0 : decode cX7_takesAll 0 = .ok (.aload_n 0, 1) := by decide +kernel
theorem dX7_takesAll_1 : decode cX7_takesAll 1 = .ok (.iconst 0, 1) := by decide +kernel
theorem dX7_takesAll_2 : decode cX7_takesAll 2 = .ok (.putfield 106, 3) := by decide +kernel
theorem dX7_takesAll_5 : decode cX7_takesAll 5 = .ok (.aload_n 0, 1) := by decide +kernel
theorem dX7_takesAll_6 : decode cX7_takesAll 6 = .ok (.getfield 35, 3) := by decide +kernel
theorem dX7_takesAll_9 : decode cX7_takesAll 9 = .ok (.iconst 3, 1) := by decide +kernel
theorem dX7_takesAll_10 : decode cX7_takesAll 10 = .ok (.iconst 1, 1) := by decide +kernel
theorem dX7_takesAll_11 : decode cX7_takesAll 11 = .ok (.iastore, 1) := by decide +kernel
theorem dX7_takesAll_12 : decode cX7_takesAll 12 = .ok (.aload_n 0, 1) := by decide +kernel
theorem dX7_takesAll_13 : decode cX7_takesAll 13 = .ok (.getfield 35, 3) := by decide +kernel
theorem dX7_takesAll_16 : decode cX7_takesAll 16 = .ok (.iconst 4, 1) := by decide +kernel
theorem dX7_takesAll_17 : decode cX7_takesAll 17 = .ok (.iconst 2, 1) := by decide +kernel
theorem dX7_takesAll_18 : decode cX7_takesAll 18 = .ok (.iastore, 1) := by decide +kernel
theorem dX7_takesAll_19 : decode cX7_takesAll 19 = .ok (.aload_n 0, 1) := by decide +kernel
theorem dX7_takesAll_20 : decode cX7_takesAll 20 = .ok (.invokevirtual 134, 3) := by decide +kernel
theorem dX7_takesAll_23 : decode cX7_takesAll 23 = .ok (.ifCond .eq 12, 3) := by decide +kernel
theorem dX7_takesAll_26 : decode cX7_takesAll 26 = .ok (.aload_n 0, 1) := by decide +kernel
theorem dX7_takesAll_27 : decode cX7_takesAll 27 = .ok (.bipush 59, 2) := by decide +kernel
theorem dX7_takesAll_29 : decode cX7_takesAll 29 = .ok (.invokevirtual 123, 3) := by decide +kernel
theorem dX7_takesAll_32 : decode cX7_takesAll 32 = .ok (.ifCond .ne 5, 3) := by decide +kernel
theorem dX7_takesAll_35 : decode cX7_takesAll 35 = .ok (.iconst 0, 1) := by decide +kernel
theorem dX7_takesAll_36 : decode cX7_takesAll 36 = .ok (.ireturn, 1) := by decide +kernel
theorem dX7_takesAll_37 : decode cX7_takesAll 37 = .ok (.iconst 0, 1) := by decide +kernel
theorem dX7_takesAll_38 : decode cX7_takesAll 38 = .ok (.istore_n 1, 1) := by decide +kernel
theorem dX7_takesAll_39 : decode cX7_takesAll 39 = .ok (.iconst 0, 1) := by decide +kernel
theorem dX7_takesAll_40 : decode cX7_takesAll 40 = .ok (.istore_n 2, 1) := by decide +kernel
theorem dX7_takesAll_41 : decode cX7_takesAll 41 = .ok (.aload_n 0, 1) := by decide +kernel
theorem dX7_takesAll_42 : decode cX7_takesAll 42 = .ok (.invokevirtual 113, 3) := by decide +kernel
theorem dX7_takesAll_45 : decode cX7_takesAll 45 = .ok (.iconst (-1), 1) := by decide +kernel
theorem dX7_takesAll_46 : decode cX7_takesAll 46 = .ok (.if_icmp .eq 94, 3) := by decide +kernel
theorem dX7_takesAll_49 : decode cX7_takesAll 49 = .ok (.iload_n 1, 1) := by decide +kernel
theorem dX7_takesAll_50 : decode cX7_takesAll 50 = .ok (.ifCond .ne 38, 3) := by decide +kernel
theorem dX7_takesAll_53 : decode cX7_takesAll 53 = .ok (.aload_n 0, 1) := by decide +kernel
theorem dX7_takesAll_54 : decode cX7_takesAll 54 = .ok (.bipush 112, 2) := by decide +kernel
theorem dX7_takesAll_56 : decode cX7_takesAll 56 = .ok (.invokevirtual 123, 3) := by decide +kernel
theorem dX7_takesAll_59 : decode cX7_takesAll 59 = .ok (.ifCond .eq 29, 3) := by decide +kernel
theorem dX7_takesAll_62 : decode cX7_takesAll 62 = .ok (.iconst 1, 1) := by decide +kernel
theorem dX7_takesAll_63 : decode cX7_takesAll 63 = .ok (.istore_n 1, 1) := by decide +kernel
theorem dX7_takesAll_64 : decode cX7_takesAll 64 = .ok (.aload_n 0, 1) := by decide +kernel
theorem dX7_takesAll_65 : decode cX7_takesAll 65 = .ok (.iconst 1, 1) := by decide +kernel
theorem dX7_takesAll_66 : decode cX7_takesAll 66 = .ok (.iconst 3, 1) := by decide +kernel
theorem dX7_takesAll_67 : decode cX7_takesAll 67 = .ok (.invokevirtual 126, 3) := by decide +kernel
theorem dX7_takesAll_70 : decode cX7_takesAll 70 = .ok (.ifCond .ne 5, 3) := by decide +kernel
theorem dX7_takesAll_73 : decode cX7_takesAll 73 = .ok (.iconst 0, 1) := by decide +kernel
theorem dX7_takesAll_74 : decode cX7_takesAll 74 = .ok (.ireturn, 1) := by decide +kernel
theorem dX7_takesAll_75 : decode cX7_takesAll 75 = .ok (.aload_n 0, 1) := by decide +kernel
theorem dX7_takesAll_76 : decode cX7_takesAll 76 = .ok (.getfield 35, 3) := by decide +kernel
theorem dX7_takesAll_79 : decode cX7_takesAll 79 = .ok (.iconst 3, 1) := by decide +kernel
theorem dX7_takesAll_80 : decode cX7_takesAll 80 = .ok (.aload_n 0, 1) := by decide +kernel
theorem dX7_takesAll_81 : decode cX7_takesAll 81 = .ok (.getfield 120, 3) := by decide +kernel
theorem dX7_takesAll_84 : decode cX7_takesAll 84 = .ok (.iastore, 1) := by decide +kernel
theorem dX7_takesAll_85 : decode cX7_takesAll 85 = .ok (.goto 44, 3) := by decide +kernel
theorem dX7_takesAll_88 : decode cX7_takesAll 88 = .ok (.iload_n 2, 1) := by decide +kernel
theorem dX7_takesAll_89 : decode cX7_takesAll 89 = .ok (.ifCond .ne 38, 3) := by decide +kernel
theorem dX7_takesAll_92 : decode cX7_takesAll 92 = .ok (.aload_n 0, 1) := by decide +kernel
theorem dX7_takesAll_93 : decode cX7_takesAll 93 = .ok (.bipush 113, 2) := by decide +kernel
theorem dX7_takesAll_95 : decode cX7_takesAll 95 = .ok (.invokevirtual 123, 3) := by decide +kernel
theorem dX7_takesAll_98 : decode cX7_takesAll 98 = .ok (.ifCond .eq 29, 3) := by decide +kernel
theorem dX7_takesAll_101 : decode cX7_takesAll 101 = .ok (.iconst 1, 1) := by decide +kernel
theorem dX7_takesAll_102 : decode cX7_takesAll 102 = .ok (.istore_n 2, 1) := by decide +kernel
theorem dX7_takesAll_103 : decode cX7_takesAll 103 = .ok (.aload_n 0, 1) := by decide +kernel
theorem dX7_takesAll_104 : decode cX7_takesAll 104 = .ok (.iconst 1, 1) := by decide +kernel
theorem dX7_takesAll_105 : decode cX7_takesAll 105 = .ok (.iconst 4, 1) := by decide +kernel
theorem dX7_takesAll_106 : decode cX7_takesAll 106 = .ok (.invokevirtual 126, 3) := by decide +kernel
theorem dX7_takesAll_109 : decode cX7_takesAll 109 = .ok (.ifCond .ne 5, 3) := by decide +kernel
theorem dX7_takesAll_112 : decode cX7_takesAll 112 = .ok (.iconst 0, 1) := by decide +kernel
theorem dX7_takesAll_113 : decode cX7_takesAll 113 = .ok (.ireturn, 1) := by decide +kernel
theorem dX7_takesAll_114 : decode cX7_takesAll 114 = .ok (.aload_n 0, 1) := by decide +kernel
theorem dX7_takesAll_115 : decode cX7_takesAll 115 = .ok (.getfield 35, 3) := by decide +kernel
theorem dX7_takesAll_118 : decode cX7_takesAll 118 = .ok (.iconst 4, 1) := by decide +kernel
theorem dX7_takesAll_119 : decode cX7_takesAll 119 = .ok (.aload_n 0, 1) := by decide +kernel
theorem dX7_takesAll_120 : decode cX7_takesAll 120 = .ok (.getfield 120, 3) := by decide +kernel
theorem dX7_takesAll_123 : decode cX7_takesAll 123 = .ok (.iastore, 1) := by decide +kernel
theorem dX7_takesAll_124 : decode cX7_takesAll 124 = .ok (.goto 5, 3) := by decide +kernel
theorem dX7_takesAll_127 : decode cX7_takesAll 127 = .ok (.iconst 0, 1) := by decide +kernel
theorem dX7_takesAll_128 : decode cX7_takesAll 128 = .ok (.ireturn, 1) := by decide +kernel
theorem dX7_takesAll_129 : decode cX7_takesAll 129 = .ok (.aload_n 0, 1) := by decide +kernel
theorem dX7_takesAll_130 : decode cX7_takesAll 130 = .ok (.bipush 59, 2) := by decide +kernel
theorem dX7_takesAll_132 : decode cX7_takesAll 132 = .ok (.invokevirtual 123, 3) := by decide +kernel
theorem dX7_takesAll_135 : decode cX7_takesAll 135 = .ok (.ifCond .ne (-94), 3) := by decide +kernel
theorem dX7_takesAll_138 : decode cX7_takesAll 138 = .ok (.iconst 0, 1) := by decide +kernel
theorem dX7_takesAll_139 : decode cX7_takesAll 139 = .ok (.ireturn, 1) := by decide +kernel
theorem dX7_takesAll_140 : decode cX7_takesAll 140 = .ok (.iconst 1, 1) := by decide +kernel
theorem dX7_takesAll_141 : decode cX7_takesAll 141 = .ok (.ireturn, 1) := by decide +kernel
theorem dX7_tells_0 : decode cX7_tells 0 = .ok (.aload_n 0, 1) := by decide +kernel
theorem dX7_tells_1 : decode cX7_tells 1 = .ok (.invokevirtual 137, 3) := by decide +kernel
theorem dX7_tells_4 : decode cX7_tells 4 = .ok (.ifCond .ne 11, 3) := by decide +kernel
theorem dX7_tells_7 : decode cX7_tells 7 = .ok (.bipush (-10), 2) := by decide +kernel
theorem dX7_tells_9 : decode cX7_tells 9 = .ok (.aload_n 0, 1) := by decide +kernel
theorem dX7_tells_10 : decode cX7_tells 10 = .ok (.getfield 106, 3) := by decide +kernel
theorem dX7_tells_13 : decode cX7_tells 13 = .ok (.isub, 1) := by decide +kernel
theorem dX7_tells_14 : decode cX7_tells 14 = .ok (.ireturn, 1) := by decide +kernel
theorem dX7_tells_15 : decode cX7_tells 15 = .ok (.aload_n 0, 1) := by decide +kernel
theorem dX7_tells_16 : decode cX7_tells 16 = .ok (.invokevirtual 140, 3) := by decide +kernel
theorem dX7_tells_19 : decode cX7_tells 19 = .ok (.iconst 0, 1) := by decide +kernel
theorem dX7_tells_20 : decode cX7_tells 20 = .ok (.istore_n 1, 1) := by decide +kernel
theorem dX7_tells_21 : decode cX7_tells 21 = .ok (.iload_n 1, 1) := by decide +kernel
theorem dX7_tells_22 : decode cX7_tells 22 = .ok (.iconst 5, 1) := by decide +kernel
theorem dX7_tells_23 : decode cX7_tells 23 = .ok (.if_icmp .ge 21, 3) := by decide +kernel
theorem dX7_tells_26 : decode cX7_tells 26 = .ok (.aload_n 0, 1) := by decide +kernel
theorem dX7_tells_27 : decode cX7_tells 27 = .ok (.getfield 7, 3) := by decide +kernel
theorem dX7_tells_30 : decode cX7_tells 30 = .ok (.iload_n 1, 1) := by decide +kernel
theorem dX7_tells_31 : decode cX7_tells 31 = .ok (.aload_n 0, 1) := by decide +kernel
theorem dX7_tells_32 : decode cX7_tells 32 = .ok (.getfield 35, 3) := by decide +kernel
theorem dX7_tells_35 : decode cX7_tells 35 = .ok (.iload_n 1, 1) := by decide +kernel
theorem dX7_tells_36 : decode cX7_tells 36 = .ok (.iaload, 1) := by decide +kernel
theorem dX7_tells_37 : decode cX7_tells 37 = .ok (.iastore, 1) := by decide +kernel
theorem dX7_tells_38 : decode cX7_tells 38 = .ok (.iinc 1 1, 3) := by decide +kernel
theorem dX7_tells_41 : decode cX7_tells 41 = .ok (.goto (-20), 3) := by decide +kernel
theorem dX7_tells_44 : decode cX7_tells 44 = .ok (.aload_n 0, 1) := by decide +kernel
theorem dX7_tells_45 : decode cX7_tells 45 = .ok (.invokevirtual 53, 3) := by decide +kernel
theorem dX7_tells_48 : decode cX7_tells 48 = .ok (.aload_n 0, 1) := by decide +kernel
theorem dX7_tells_49 : decode cX7_tells 49 = .ok (.iconst 0, 1) := by decide +kernel
theorem dX7_tells_50 : decode cX7_tells 50 = .ok (.putfield 103, 3) := by decide +kernel
theorem dX7_tells_53 : decode cX7_tells 53 = .ok (.aload_n 0, 1) := by decide +kernel
theorem dX7_tells_54 : decode cX7_tells 54 = .ok (.iconst 0, 1) := by decide +kernel
theorem dX7_tells_55 : decode cX7_tells 55 = .ok (.putfield 143, 3) := by decide +kernel
theorem dX7_tells_58 : decode cX7_tells 58 = .ok (.aload_n 0, 1) := by decide +kernel
theorem dX7_tells_59 : decode cX7_tells 59 = .ok (.getfield 19, 3) := by decide +kernel
theorem dX7_tells_62 : decode cX7_tells 62 = .ok (.iconst 0, 1) := by decide +kernel
theorem dX7_tells_63 : decode cX7_tells 63 = .ok (.iconst 0, 1) := by decide +kernel
theorem dX7_tells_64 : decode cX7_tells 64 = .ok (.bastore, 1) := by decide +kernel
theorem dX7_tells_65 : decode cX7_tells 65 = .ok (.aload_n 0, 1) := by decide +kernel
theorem dX7_tells_66 : decode cX7_tells 66 = .ok (.getfield 19, 3) := by decide +kernel
theorem dX7_tells_69 : decode cX7_tells 69 = .ok (.iconst 1, 1) := by decide +kernel
theorem dX7_tells_70 : decode cX7_tells 70 = .ok (.iconst 0, 1) := by decide +kernel
theorem dX7_tells_71 : decode cX7_tells 71 = .ok (.bastore, 1) := by decide +kernel
theorem dX7_tells_72 : decode cX7_tells 72 = .ok (.aload_n 0, 1) := by decide +kernel
theorem dX7_tells_73 : decode cX7_tells 73 = .ok (.invokevirtual 82, 3) := by decide +kernel
theorem dX7_tells_76 : decode cX7_tells 76 = .ok (.ireturn, 1) := by decide +kernel
theorem dX7_sends_0 : decode cX7_sends 0 = .ok (.iload_n 1, 1) := by decide +kernel
theorem dX7_sends_1 : decode cX7_sends 1 = .ok (.i2l, 1) := by decide +kernel
theorem dX7_sends_2 : decode cX7_sends 2 = .ok (.lconst 0, 1) := by decide +kernel
theorem dX7_sends_3 : decode cX7_sends 3 = .ok (.iconst 1, 1) := by decide +kernel
theorem dX7_sends_4 : decode cX7_sends 4 = .ok (.aload_n 0, 1) := by decide +kernel
theorem dX7_sends_5 : decode cX7_sends 5 = .ok (.getfield 7, 3) := by decide +kernel
theorem dX7_sends_8 : decode cX7_sends 8 = .ok (.iconst 3, 1) := by decide +kernel
theorem dX7_sends_9 : decode cX7_sends 9 = .ok (.iaload, 1) := by decide +kernel
theorem dX7_sends_10 : decode cX7_sends 10 = .ok (.ishl, 1) := by decide +kernel
theorem dX7_sends_11 : decode cX7_sends 11 = .ok (.iconst 1, 1) := by decide +kernel
theorem dX7_sends_12 : decode cX7_sends 12 = .ok (.isub, 1) := by decide +kernel
theorem dX7_sends_13 : decode cX7_sends 13 = .ok (.i2l, 1) := by decide +kernel
theorem dX7_sends_14 : decode cX7_sends 14 = .ok (.invokestatic 70, 3) := by decide +kernel
theorem dX7_sends_17 : decode cX7_sends 17 = .ok (.ifCond .ne 5, 3) := by decide +kernel
theorem dX7_sends_20 : decode cX7_sends 20 = .ok (.iconst (-1), 1) := by decide +kernel
theorem dX7_sends_21 : decode cX7_sends 21 = .ok (.ireturn, 1) := by decide +kernel
theorem dX7_sends_22 : decode cX7_sends 22 = .ok (.aload_n 0, 1) := by decide +kernel
theorem dX7_sends_23 : decode cX7_sends 23 = .ok (.invokevirtual 56, 3) := by decide +kernel
theorem dX7_sends_26 : decode cX7_sends 26 = .ok (.aload_n 0, 1) := by decide +kernel
theorem dX7_sends_27 : decode cX7_sends 27 = .ok (.getfield 92, 3) := by decide +kernel
theorem dX7_sends_30 : decode cX7_sends 30 = .ok (.ifCond .ne 6, 3) := by decide +kernel
theorem dX7_sends_33 : decode cX7_sends 33 = .ok (.bipush (-2), 2) := by decide +kernel
theorem dX7_sends_35 : decode cX7_sends 35 = .ok (.ireturn, 1) := by decide +kernel
theorem dX7_sends_36 : decode cX7_sends 36 = .ok (.aload_n 0, 1) := by decide +kernel
theorem dX7_sends_37 : decode cX7_sends 37 = .ok (.getfield 7, 3) := by decide +kernel
theorem dX7_sends_40 : decode cX7_sends 40 = .ok (.iconst 5, 1) := by decide +kernel
theorem dX7_sends_41 : decode cX7_sends 41 = .ok (.iaload, 1) := by decide +kernel
theorem dX7_sends_42 : decode cX7_sends 42 = .ok (.istore_n 2, 1) := by decide +kernel
theorem dX7_sends_43 : decode cX7_sends 43 = .ok (.iload_n 2, 1) := by decide +kernel
theorem dX7_sends_44 : decode cX7_sends 44 = .ok (.bipush 24, 2) := by decide +kernel
theorem dX7_sends_46 : decode cX7_sends 46 = .ok (.if_icmp .ne 6, 3) := by decide +kernel
theorem dX7_sends_49 : decode cX7_sends 49 = .ok (.bipush (-3), 2) := by decide +kernel
theorem dX7_sends_51 : decode cX7_sends 51 = .ok (.ireturn, 1) := by decide +kernel
theorem dX7_sends_52 : decode cX7_sends 52 = .ok (.aload_n 0, 1) := by decide +kernel
theorem dX7_sends_53 : decode cX7_sends 53 = .ok (.aload_n 0, 1) := by decide +kernel
theorem dX7_sends_54 : decode cX7_sends 54 = .ok (.getfield 7, 3) := by decide +kernel
theorem dX7_sends_57 : decode cX7_sends 57 = .ok (.bipush 6, 2) := by decide +kernel
theorem dX7_sends_59 : decode cX7_sends 59 = .ok (.iaload, 1) := by decide +kernel
theorem dX7_sends_60 : decode cX7_sends 60 = .ok (.iload_n 1, 1) := by decide +kernel
theorem dX7_sends_61 : decode cX7_sends 61 = .ok (.invokevirtual 146, 3) := by decide +kernel
theorem dX7_sends_64 : decode cX7_sends 64 = .ok (.istore_n 3, 1) := by decide +kernel
theorem dX7_sends_65 : decode cX7_sends 65 = .ok (.aload_n 0, 1) := by decide +kernel
theorem dX7_sends_66 : decode cX7_sends 66 = .ok (.invokevirtual 140, 3) := by decide +kernel
theorem dX7_sends_69 : decode cX7_sends 69 = .ok (.aload_n 0, 1) := by decide +kernel
theorem dX7_sends_70 : decode cX7_sends 70 = .ok (.getfield 7, 3) := by decide +kernel
theorem dX7_sends_73 : decode cX7_sends 73 = .ok (.bipush 7, 2) := by decide +kernel
theorem dX7_sends_75 : decode cX7_sends 75 = .ok (.iload_n 2, 1) := by decide +kernel
theorem dX7_sends_76 : decode cX7_sends 76 = .ok (.iadd, 1) := by decide +kernel
theorem dX7_sends_77 : decode cX7_sends 77 = .ok (.iload_n 3, 1) := by decide +kernel
theorem dX7_sends_78 : decode cX7_sends 78 = .ok (.iastore, 1) := by decide +kernel
theorem dX7_sends_79 : decode cX7_sends 79 = .ok (.aload_n 0, 1) := by decide +kernel
theorem dX7_sends_80 : decode cX7_sends 80 = .ok (.getfield 7, 3) := by decide +kernel
theorem dX7_sends_83 : decode cX7_sends 83 = .ok (.bipush 31, 2) := by decide +kernel
theorem dX7_sends_85 : decode cX7_sends 85 = .ok (.iload_n 2, 1) := by decide +kernel
theorem dX7_sends_86 : decode cX7_sends 86 = .ok (.iadd, 1) := by decide +kernel
theorem dX7_sends_87 : decode cX7_sends 87 = .ok (.iload_n 3, 1) := by decide +kernel
theorem dX7_sends_88 : decode cX7_sends 88 = .ok (.iastore, 1) := by decide +kernel
theorem dX7_sends_89 : decode cX7_sends 89 = .ok (.aload_n 0, 1) := by decide +kernel
theorem dX7_sends_90 : decode cX7_sends 90 = .ok (.getfield 7, 3) := by decide +kernel
theorem dX7_sends_93 : decode cX7_sends 93 = .ok (.bipush 55, 2) := by decide +kernel
theorem dX7_sends_95 : decode cX7_sends 95 = .ok (.iload_n 2, 1) := by decide +kernel
theorem dX7_sends_96 : decode cX7_sends 96 = .ok (.iadd, 1) := by decide +kernel
theorem dX7_sends_97 : decode cX7_sends 97 = .ok (.iload_n 1, 1) := by decide +kernel
theorem dX7_sends_98 : decode cX7_sends 98 = .ok (.iastore, 1) := by decide +kernel
theorem dX7_sends_99 : decode cX7_sends 99 = .ok (.aload_n 0, 1) := by decide +kernel
theorem dX7_sends_100 : decode cX7_sends 100 = .ok (.getfield 7, 3) := by decide +kernel
theorem dX7_sends_103 : decode cX7_sends 103 = .ok (.iconst 5, 1) := by decide +kernel
theorem dX7_sends_104 : decode cX7_sends 104 = .ok (.dup2, 1) := by decide +kernel
theorem dX7_sends_105 : decode cX7_sends 105 = .ok (.iaload, 1) := by decide +kernel
theorem dX7_sends_106 : decode cX7_sends 106 = .ok (.iconst 1, 1) := by decide +kernel
theorem dX7_sends_107 : decode cX7_sends 107 = .ok (.iadd, 1) := by decide +kernel
theorem dX7_sends_108 : decode cX7_sends 108 = .ok (.iastore, 1) := by decide +kernel
theorem dX7_sends_109 : decode cX7_sends 109 = .ok (.aload_n 0, 1) := by decide +kernel
theorem dX7_sends_110 : decode cX7_sends 110 = .ok (.getfield 7, 3) := by decide +kernel
theorem dX7_sends_113 : decode cX7_sends 113 = .ok (.bipush 6, 2) := by decide +kernel
theorem dX7_sends_115 : decode cX7_sends 115 = .ok (.aload_n 0, 1) := by decide +kernel
theorem dX7_sends_116 : decode cX7_sends 116 = .ok (.aload_n 0, 1) := by decide +kernel
theorem dX7_sends_117 : decode cX7_sends 117 = .ok (.getfield 7, 3) := by decide +kernel
theorem dX7_sends_120 : decode cX7_sends 120 = .ok (.bipush 6, 2) := by decide +kernel
theorem dX7_sends_122 : decode cX7_sends 122 = .ok (.iaload, 1) := by decide +kernel
theorem dX7_sends_123 : decode cX7_sends 123 = .ok (.iload_n 3, 1) := by decide +kernel
theorem dX7_sends_124 : decode cX7_sends 124 = .ok (.invokevirtual 89, 3) := by decide +kernel
theorem dX7_sends_127 : decode cX7_sends 127 = .ok (.iastore, 1) := by decide +kernel
theorem dX7_sends_128 : decode cX7_sends 128 = .ok (.iload_n 3, 1) := by decide +kernel
theorem dX7_sends_129 : decode cX7_sends 129 = .ok (.ireturn, 1) := by decide +kernel
theorem dX7_wordFor_0 : decode cX7_wordFor 0 = .ok (.bipush (-9), 2) := by decide +kernel
theorem dX7_wordFor_2 : decode cX7_wordFor 2 = .ok (.istore_n 3, 1) := by decide +kernel
theorem dX7_wordFor_3 : decode cX7_wordFor 3 = .ok (.iconst 0, 1) := by decide +kernel
theorem dX7_wordFor_4 : decode cX7_wordFor 4 = .ok (.istore 4, 2) := by decide +kernel
theorem dX7_wordFor_6 : decode cX7_wordFor 6 = .ok (.iload 4, 2) := by decide +kernel
theorem dX7_wordFor_8 : decode cX7_wordFor 8 = .ok (.aload_n 0, 1) := by decide +kernel
theorem dX7_wordFor_9 : decode cX7_wordFor 9 = .ok (.invokevirtual 78, 3) := by decide +kernel
theorem dX7_wordFor_12 : decode cX7_wordFor 12 = .ok (.if_icmp .ge 27, 3) := by decide +kernel
theorem dX7_wordFor_15 : decode cX7_wordFor 15 = .ok (.aload_n 0, 1) := by decide +kernel
theorem dX7_wordFor_16 : decode cX7_wordFor 16 = .ok (.iload_n 1, 1) := by decide +kernel
theorem dX7_wordFor_17 : decode cX7_wordFor 17 = .ok (.iload 4, 2) := by decide +kernel
theorem dX7_wordFor_19 : decode cX7_wordFor 19 = .ok (.invokevirtual 149, 3) := by decide +kernel
theorem dX7_wordFor_22 : decode cX7_wordFor 22 = .ok (.iload_n 2, 1) := by decide +kernel
theorem dX7_wordFor_23 : decode cX7_wordFor 23 = .ok (.if_icmp .ne 8, 3) := by decide +kernel
theorem dX7_wordFor_26 : decode cX7_wordFor 26 = .ok (.iload 4, 2) := by decide +kernel
theorem dX7_wordFor_28 : decode cX7_wordFor 28 = .ok (.goto 4, 3) := by decide +kernel
theorem dX7_wordFor_31 : decode cX7_wordFor 31 = .ok (.iload_n 3, 1) := by decide +kernel
theorem dX7_wordFor_32 : decode cX7_wordFor 32 = .ok (.istore_n 3, 1) := by decide +kernel
theorem dX7_wordFor_33 : decode cX7_wordFor 33 = .ok (.iinc 4 1, 3) := by decide +kernel
theorem dX7_wordFor_36 : decode cX7_wordFor 36 = .ok (.goto (-30), 3) := by decide +kernel
theorem dX7_wordFor_39 : decode cX7_wordFor 39 = .ok (.iload_n 3, 1) := by decide +kernel
theorem dX7_wordFor_40 : decode cX7_wordFor 40 = .ok (.ireturn, 1) := by decide +kernel
theorem dX7_flips_0 : decode cX7_flips 0 = .ok (.iload_n 1, 1) := by decide +kernel
theorem dX7_flips_1 : decode cX7_flips 1 = .ok (.i2l, 1) := by decide +kernel
theorem dX7_flips_2 : decode cX7_flips 2 = .ok (.lconst 0, 1) := by decide +kernel
theorem dX7_flips_3 : decode cX7_flips 3 = .ok (.aload_n 0, 1) := by decide +kernel
theorem dX7_flips_4 : decode cX7_flips 4 = .ok (.getfield 7, 3) := by decide +kernel
theorem dX7_flips_7 : decode cX7_flips 7 = .ok (.iconst 4, 1) := by decide +kernel
theorem dX7_flips_8 : decode cX7_flips 8 = .ok (.iaload, 1) := by decide +kernel
theorem dX7_flips_9 : decode cX7_flips 9 = .ok (.i2l, 1) := by decide +kernel
theorem dX7_flips_10 : decode cX7_flips 10 = .ok (.aload_n 0, 1) := by decide +kernel
theorem dX7_flips_11 : decode cX7_flips 11 = .ok (.getfield 7, 3) := by decide +kernel
theorem dX7_flips_14 : decode cX7_flips 14 = .ok (.iconst 5, 1) := by decide +kernel
theorem dX7_flips_15 : decode cX7_flips 15 = .ok (.iaload, 1) := by decide +kernel
theorem dX7_flips_16 : decode cX7_flips 16 = .ok (.i2l, 1) := by decide +kernel
theorem dX7_flips_17 : decode cX7_flips 17 = .ok (.lmul, 1) := by decide +kernel
theorem dX7_flips_18 : decode cX7_flips 18 = .ok (.lconst 1, 1) := by decide +kernel
theorem dX7_flips_19 : decode cX7_flips 19 = .ok (.lsub, 1) := by decide +kernel
theorem dX7_flips_20 : decode cX7_flips 20 = .ok (.invokestatic 70, 3) := by decide +kernel
theorem dX7_flips_23 : decode cX7_flips 23 = .ok (.ifCond .ne 5, 3) := by decide +kernel
theorem dX7_flips_26 : decode cX7_flips 26 = .ok (.iconst (-1), 1) := by decide +kernel
theorem dX7_flips_27 : decode cX7_flips 27 = .ok (.ireturn, 1) := by decide +kernel
theorem dX7_flips_28 : decode cX7_flips 28 = .ok (.aload_n 0, 1) := by decide +kernel
theorem dX7_flips_29 : decode cX7_flips 29 = .ok (.invokevirtual 140, 3) := by decide +kernel
theorem dX7_flips_32 : decode cX7_flips 32 = .ok (.iload_n 1, 1) := by decide +kernel
theorem dX7_flips_33 : decode cX7_flips 33 = .ok (.aload_n 0, 1) := by decide +kernel
theorem dX7_flips_34 : decode cX7_flips 34 = .ok (.getfield 7, 3) := by decide +kernel
theorem dX7_flips_37 : decode cX7_flips 37 = .ok (.iconst 4, 1) := by decide +kernel
theorem dX7_flips_38 : decode cX7_flips 38 = .ok (.iaload, 1) := by decide +kernel
theorem dX7_flips_39 : decode cX7_flips 39 = .ok (.idiv, 1) := by decide +kernel
theorem dX7_flips_40 : decode cX7_flips 40 = .ok (.istore_n 2, 1) := by decide +kernel
theorem dX7_flips_41 : decode cX7_flips 41 = .ok (.aload_n 0, 1) := by decide +kernel
theorem dX7_flips_42 : decode cX7_flips 42 = .ok (.getfield 7, 3) := by decide +kernel
theorem dX7_flips_45 : decode cX7_flips 45 = .ok (.iconst 4, 1) := by decide +kernel
theorem dX7_flips_46 : decode cX7_flips 46 = .ok (.iaload, 1) := by decide +kernel
theorem dX7_flips_47 : decode cX7_flips 47 = .ok (.iconst 1, 1) := by decide +kernel
theorem dX7_flips_48 : decode cX7_flips 48 = .ok (.isub, 1) := by decide +kernel
theorem dX7_flips_49 : decode cX7_flips 49 = .ok (.iload_n 1, 1) := by decide +kernel
theorem dX7_flips_50 : decode cX7_flips 50 = .ok (.aload_n 0, 1) := by decide +kernel
theorem dX7_flips_51 : decode cX7_flips 51 = .ok (.getfield 7, 3) := by decide +kernel
theorem dX7_flips_54 : decode cX7_flips 54 = .ok (.iconst 4, 1) := by decide +kernel
theorem dX7_flips_55 : decode cX7_flips 55 = .ok (.iaload, 1) := by decide +kernel
theorem dX7_flips_56 : decode cX7_flips 56 = .ok (.irem, 1) := by decide +kernel
theorem dX7_flips_57 : decode cX7_flips 57 = .ok (.isub, 1) := by decide +kernel
theorem dX7_flips_58 : decode cX7_flips 58 = .ok (.istore_n 3, 1) := by decide +kernel
theorem dX7_flips_59 : decode cX7_flips 59 = .ok (.aload_n 0, 1) := by decide +kernel
theorem dX7_flips_60 : decode cX7_flips 60 = .ok (.getfield 7, 3) := by decide +kernel
theorem dX7_flips_63 : decode cX7_flips 63 = .ok (.bipush 31, 2) := by decide +kernel
theorem dX7_flips_65 : decode cX7_flips 65 = .ok (.iload_n 2, 1) := by decide +kernel
theorem dX7_flips_66 : decode cX7_flips 66 = .ok (.iadd, 1) := by decide +kernel
theorem dX7_flips_67 : decode cX7_flips 67 = .ok (.dup2, 1) := by decide +kernel
theorem dX7_flips_68 : decode cX7_flips 68 = .ok (.iaload, 1) := by decide +kernel
theorem dX7_flips_69 : decode cX7_flips 69 = .ok (.iconst 1, 1) := by decide +kernel
theorem dX7_flips_70 : decode cX7_flips 70 = .ok (.iload_n 3, 1) := by decide +kernel
theorem dX7_flips_71 : decode cX7_flips 71 = .ok (.ishl, 1) := by decide +kernel
theorem dX7_flips_72 : decode cX7_flips 72 = .ok (.ixor, 1) := by decide +kernel
theorem dX7_flips_73 : decode cX7_flips 73 = .ok (.iastore, 1) := by decide +kernel
theorem dX7_flips_74 : decode cX7_flips 74 = .ok (.aload_n 0, 1) := by decide +kernel
theorem dX7_flips_75 : decode cX7_flips 75 = .ok (.getfield 7, 3) := by decide +kernel
theorem dX7_flips_78 : decode cX7_flips 78 = .ok (.bipush 31, 2) := by decide +kernel
theorem dX7_flips_80 : decode cX7_flips 80 = .ok (.iload_n 2, 1) := by decide +kernel
theorem dX7_flips_81 : decode cX7_flips 81 = .ok (.iadd, 1) := by decide +kernel
theorem dX7_flips_82 : decode cX7_flips 82 = .ok (.iaload, 1) := by decide +kernel
theorem dX7_flips_83 : decode cX7_flips 83 = .ok (.iload_n 3, 1) := by decide +kernel
theorem dX7_flips_84 : decode cX7_flips 84 = .ok (.ishr, 1) := by decide +kernel
theorem dX7_flips_85 : decode cX7_flips 85 = .ok (.iconst 1, 1) := by decide +kernel
theorem dX7_flips_86 : decode cX7_flips 86 = .ok (.iand, 1) := by decide +kernel
theorem dX7_flips_87 : decode cX7_flips 87 = .ok (.ireturn, 1) := by decide +kernel
theorem dX7_undo_0 : decode cX7_undo 0 = .ok (.aload_n 0, 1) := by decide +kernel
theorem dX7_undo_1 : decode cX7_undo 1 = .ok (.getfield 63, 3) := by decide +kernel
theorem dX7_undo_4 : decode cX7_undo 4 = .ok (.ifCond .ne 6, 3) := by decide +kernel
theorem dX7_undo_7 : decode cX7_undo 7 = .ok (.bipush (-2), 2) := by decide +kernel
theorem dX7_undo_9 : decode cX7_undo 9 = .ok (.ireturn, 1) := by decide +kernel
theorem dX7_undo_10 : decode cX7_undo 10 = .ok (.aload_n 0, 1) := by decide +kernel
theorem dX7_undo_11 : decode cX7_undo 11 = .ok (.dup, 1) := by decide +kernel
theorem dX7_undo_12 : decode cX7_undo 12 = .ok (.getfield 63, 3) := by decide +kernel
theorem dX7_undo_15 : decode cX7_undo 15 = .ok (.iconst 1, 1) := by decide +kernel
theorem dX7_undo_16 : decode cX7_undo 16 = .ok (.isub, 1) := by decide +kernel
theorem dX7_undo_17 : decode cX7_undo 17 = .ok (.putfield 63, 3) := by decide +kernel
theorem dX7_undo_20 : decode cX7_undo 20 = .ok (.iconst 0, 1) := by decide +kernel
theorem dX7_undo_21 : decode cX7_undo 21 = .ok (.istore_n 1, 1) := by decide +kernel
theorem dX7_undo_22 : decode cX7_undo 22 = .ok (.iload_n 1, 1) := by decide +kernel
theorem dX7_undo_23 : decode cX7_undo 23 = .ok (.bipush 79, 2) := by decide +kernel
theorem dX7_undo_25 : decode cX7_undo 25 = .ok (.if_icmp .ge 29, 3) := by decide +kernel
theorem dX7_undo_28 : decode cX7_undo 28 = .ok (.aload_n 0, 1) := by decide +kernel
theorem dX7_undo_29 : decode cX7_undo 29 = .ok (.getfield 7, 3) := by decide +kernel
theorem dX7_undo_32 : decode cX7_undo 32 = .ok (.iload_n 1, 1) := by decide +kernel
theorem dX7_undo_33 : decode cX7_undo 33 = .ok (.aload_n 0, 1) := by decide +kernel
theorem dX7_undo_34 : decode cX7_undo 34 = .ok (.getfield 13, 3) := by decide +kernel
theorem dX7_undo_37 : decode cX7_undo 37 = .ok (.bipush 79, 2) := by decide +kernel
theorem dX7_undo_39 : decode cX7_undo 39 = .ok (.aload_n 0, 1) := by decide +kernel
theorem dX7_undo_40 : decode cX7_undo 40 = .ok (.getfield 63, 3) := by decide +kernel
theorem dX7_undo_43 : decode cX7_undo 43 = .ok (.imul, 1) := by decide +kernel
theorem dX7_undo_44 : decode cX7_undo 44 = .ok (.iload_n 1, 1) := by decide +kernel
theorem dX7_undo_45 : decode cX7_undo 45 = .ok (.iadd, 1) := by decide +kernel
theorem dX7_undo_46 : decode cX7_undo 46 = .ok (.iaload, 1) := by decide +kernel
theorem dX7_undo_47 : decode cX7_undo 47 = .ok (.iastore, 1) := by decide +kernel
theorem dX7_undo_48 : decode cX7_undo 48 = .ok (.iinc 1 1, 3) := by decide +kernel
theorem dX7_undo_51 : decode cX7_undo 51 = .ok (.goto (-29), 3) := by decide +kernel
theorem dX7_undo_54 : decode cX7_undo 54 = .ok (.aload_n 0, 1) := by decide +kernel
theorem dX7_undo_55 : decode cX7_undo 55 = .ok (.getfield 63, 3) := by decide +kernel
theorem dX7_undo_58 : decode cX7_undo 58 = .ok (.ireturn, 1) := by decide +kernel
theorem dX7_isState_0 : decode cX7_isState 0 = .ok (.iload_n 1, 1) := by decide +kernel
theorem dX7_isState_1 : decode cX7_isState 1 = .ok (.i2l, 1) := by decide +kernel
theorem dX7_isState_2 : decode cX7_isState 2 = .ok (.lconst 0, 1) := by decide +kernel
theorem dX7_isState_3 : decode cX7_isState 3 = .ok (.aload_n 0, 1) := by decide +kernel
theorem dX7_isState_4 : decode cX7_isState 4 = .ok (.invokevirtual 82, 3) := by decide +kernel
theorem dX7_isState_7 : decode cX7_isState 7 = .ok (.iconst 1, 1) := by decide +kernel
theorem dX7_isState_8 : decode cX7_isState 8 = .ok (.isub, 1) := by decide +kernel
theorem dX7_isState_9 : decode cX7_isState 9 = .ok (.i2l, 1) := by decide +kernel
theorem dX7_isState_10 : decode cX7_isState 10 = .ok (.invokestatic 70, 3) := by decide +kernel
theorem dX7_isState_13 : decode cX7_isState 13 = .ok (.ireturn, 1) := by decide +kernel
theorem dX7_step_0 : decode cX7_step 0 = .ok (.aload_n 0, 1) := by decide +kernel
theorem dX7_step_1 : decode cX7_step 1 = .ok (.iload_n 1, 1) := by decide +kernel
theorem dX7_step_2 : decode cX7_step 2 = .ok (.invokevirtual 152, 3) := by decide +kernel
theorem dX7_step_5 : decode cX7_step 5 = .ok (.ifCond .eq 22, 3) := by decide +kernel
theorem dX7_step_8 : decode cX7_step 8 = .ok (.iload_n 2, 1) := by decide +kernel
theorem dX7_step_9 : decode cX7_step 9 = .ok (.i2l, 1) := by decide +kernel
theorem dX7_step_10 : decode cX7_step 10 = .ok (.lconst 0, 1) := by decide +kernel
theorem dX7_step_11 : decode cX7_step 11 = .ok (.lconst 1, 1) := by decide +kernel
theorem dX7_step_12 : decode cX7_step 12 = .ok (.invokestatic 70, 3) := by decide +kernel
theorem dX7_step_15 : decode cX7_step 15 = .ok (.ifCond .eq 12, 3) := by decide +kernel
theorem dX7_step_18 : decode cX7_step 18 = .ok (.aload_n 0, 1) := by decide +kernel
theorem dX7_step_19 : decode cX7_step 19 = .ok (.iload_n 1, 1) := by decide +kernel
theorem dX7_step_20 : decode cX7_step 20 = .ok (.iload_n 2, 1) := by decide +kernel
theorem dX7_step_21 : decode cX7_step 21 = .ok (.invokevirtual 85, 3) := by decide +kernel
theorem dX7_step_24 : decode cX7_step 24 = .ok (.goto 4, 3) := by decide +kernel
theorem dX7_step_27 : decode cX7_step 27 = .ok (.iconst (-1), 1) := by decide +kernel
theorem dX7_step_28 : decode cX7_step 28 = .ok (.ireturn, 1) := by decide +kernel
theorem dX7_arc_0 : decode cX7_arc 0 = .ok (.aload_n 0, 1) := by decide +kernel
theorem dX7_arc_1 : decode cX7_arc 1 = .ok (.iload_n 1, 1) := by decide +kernel
theorem dX7_arc_2 : decode cX7_arc 2 = .ok (.invokevirtual 152, 3) := by decide +kernel
theorem dX7_arc_5 : decode cX7_arc 5 = .ok (.ifCond .eq 29, 3) := by decide +kernel
theorem dX7_arc_8 : decode cX7_arc 8 = .ok (.iload_n 2, 1) := by decide +kernel
theorem dX7_arc_9 : decode cX7_arc 9 = .ok (.i2l, 1) := by decide +kernel
theorem dX7_arc_10 : decode cX7_arc 10 = .ok (.lconst 0, 1) := by decide +kernel
theorem dX7_arc_11 : decode cX7_arc 11 = .ok (.aload_n 0, 1) := by decide +kernel
theorem dX7_arc_12 : decode cX7_arc 12 = .ok (.invokevirtual 78, 3) := by decide +kernel
theorem dX7_arc_15 : decode cX7_arc 15 = .ok (.iconst 1, 1) := by decide +kernel
theorem dX7_arc_16 : decode cX7_arc 16 = .ok (.isub, 1) := by decide +kernel
theorem dX7_arc_17 : decode cX7_arc 17 = .ok (.i2l, 1) := by decide +kernel
theorem dX7_arc_18 : decode cX7_arc 18 = .ok (.invokestatic 70, 3) := by decide +kernel
theorem dX7_arc_21 : decode cX7_arc 21 = .ok (.ifCond .eq 13, 3) := by decide +kernel
theorem dX7_arc_24 : decode cX7_arc 24 = .ok (.iload_n 3, 1) := by decide +kernel
theorem dX7_arc_25 : decode cX7_arc 25 = .ok (.i2l, 1) := by decide +kernel
theorem dX7_arc_26 : decode cX7_arc 26 = .ok (.lconst 0, 1) := by decide +kernel
theorem dX7_arc_27 : decode cX7_arc 27 = .ok (.lconst 1, 1) := by decide +kernel
theorem dX7_arc_28 : decode cX7_arc 28 = .ok (.invokestatic 70, 3) := by decide +kernel
theorem dX7_arc_31 : decode cX7_arc 31 = .ok (.ifCond .ne 5, 3) := by decide +kernel
theorem dX7_arc_34 : decode cX7_arc 34 = .ok (.iconst (-1), 1) := by decide +kernel
theorem dX7_arc_35 : decode cX7_arc 35 = .ok (.ireturn, 1) := by decide +kernel
theorem dX7_arc_36 : decode cX7_arc 36 = .ok (.aload_n 0, 1) := by decide +kernel
theorem dX7_arc_37 : decode cX7_arc 37 = .ok (.invokevirtual 56, 3) := by decide +kernel
theorem dX7_arc_40 : decode cX7_arc 40 = .ok (.iload_n 3, 1) := by decide +kernel
theorem dX7_arc_41 : decode cX7_arc 41 = .ok (.ifCond .ne 12, 3) := by decide +kernel
theorem dX7_arc_44 : decode cX7_arc 44 = .ok (.aload_n 0, 1) := by decide +kernel
theorem dX7_arc_45 : decode cX7_arc 45 = .ok (.iload_n 1, 1) := by decide +kernel
theorem dX7_arc_46 : decode cX7_arc 46 = .ok (.iload_n 2, 1) := by decide +kernel
theorem dX7_arc_47 : decode cX7_arc 47 = .ok (.invokevirtual 89, 3) := by decide +kernel
theorem dX7_arc_50 : decode cX7_arc 50 = .ok (.goto 9, 3) := by decide +kernel
theorem dX7_arc_53 : decode cX7_arc 53 = .ok (.aload_n 0, 1) := by decide +kernel
theorem dX7_arc_54 : decode cX7_arc 54 = .ok (.iload_n 1, 1) := by decide +kernel
theorem dX7_arc_55 : decode cX7_arc 55 = .ok (.iload_n 2, 1) := by decide +kernel
theorem dX7_arc_56 : decode cX7_arc 56 = .ok (.invokevirtual 149, 3) := by decide +kernel
theorem dX7_arc_59 : decode cX7_arc 59 = .ok (.ireturn, 1) := by decide +kernel
theorem dX7_state_0 : decode cX7_state 0 = .ok (.aload_n 0, 1) := by decide +kernel
theorem dX7_state_1 : decode cX7_state 1 = .ok (.iload_n 1, 1) := by decide +kernel
theorem dX7_state_2 : decode cX7_state 2 = .ok (.invokevirtual 152, 3) := by decide +kernel
theorem dX7_state_5 : decode cX7_state 5 = .ok (.ifCond .eq 13, 3) := by decide +kernel
theorem dX7_state_8 : decode cX7_state 8 = .ok (.iload_n 2, 1) := by decide +kernel
theorem dX7_state_9 : decode cX7_state 9 = .ok (.i2l, 1) := by decide +kernel
theorem dX7_state_10 : decode cX7_state 10 = .ok (.lconst 0, 1) := by decide +kernel
theorem dX7_state_11 : decode cX7_state 11 = .ok (.lconst 1, 1) := by decide +kernel
theorem dX7_state_12 : decode cX7_state 12 = .ok (.invokestatic 70, 3) := by decide +kernel
theorem dX7_state_15 : decode cX7_state 15 = .ok (.ifCond .ne 5, 3) := by decide +kernel
theorem dX7_state_18 : decode cX7_state 18 = .ok (.iconst (-1), 1) := by decide +kernel
theorem dX7_state_19 : decode cX7_state 19 = .ok (.ireturn, 1) := by decide +kernel
theorem dX7_state_20 : decode cX7_state 20 = .ok (.aload_n 0, 1) := by decide +kernel
theorem dX7_state_21 : decode cX7_state 21 = .ok (.invokevirtual 56, 3) := by decide +kernel
theorem dX7_state_24 : decode cX7_state 24 = .ok (.iconst 0, 1) := by decide +kernel
theorem dX7_state_25 : decode cX7_state 25 = .ok (.istore_n 3, 1) := by decide +kernel
theorem dX7_state_26 : decode cX7_state 26 = .ok (.iconst 0, 1) := by decide +kernel
theorem dX7_state_27 : decode cX7_state 27 = .ok (.istore 4, 2) := by decide +kernel
theorem dX7_state_29 : decode cX7_state 29 = .ok (.iload 4, 2) := by decide +kernel
theorem dX7_state_31 : decode cX7_state 31 = .ok (.aload_n 0, 1) := by decide +kernel
theorem dX7_state_32 : decode cX7_state 32 = .ok (.invokevirtual 78, 3) := by decide +kernel
theorem dX7_state_35 : decode cX7_state 35 = .ok (.if_icmp .ge 29, 3) := by decide +kernel
theorem dX7_state_38 : decode cX7_state 38 = .ok (.iload_n 3, 1) := by decide +kernel
theorem dX7_state_39 : decode cX7_state 39 = .ok (.aload_n 0, 1) := by decide +kernel
theorem dX7_state_40 : decode cX7_state 40 = .ok (.iload_n 1, 1) := by decide +kernel
theorem dX7_state_41 : decode cX7_state 41 = .ok (.iload 4, 2) := by decide +kernel
theorem dX7_state_43 : decode cX7_state 43 = .ok (.invokevirtual 89, 3) := by decide +kernel
theorem dX7_state_46 : decode cX7_state 46 = .ok (.bipush (-9), 2) := by decide +kernel
theorem dX7_state_48 : decode cX7_state 48 = .ok (.if_icmp .ne 7, 3) := by decide +kernel
theorem dX7_state_51 : decode cX7_state 51 = .ok (.iconst 0, 1) := by decide +kernel
theorem dX7_state_52 : decode cX7_state 52 = .ok (.goto 4, 3) := by decide +kernel
theorem dX7_state_55 : decode cX7_state 55 = .ok (.iconst 1, 1) := by decide +kernel
theorem dX7_state_56 : decode cX7_state 56 = .ok (.iadd, 1) := by decide +kernel
theorem dX7_state_57 : decode cX7_state 57 = .ok (.istore_n 3, 1) := by decide +kernel
theorem dX7_state_58 : decode cX7_state 58 = .ok (.iinc 4 1, 3) := by decide +kernel
theorem dX7_state_61 : decode cX7_state 61 = .ok (.goto (-32), 3) := by decide +kernel
theorem dX7_state_64 : decode cX7_state 64 = .ok (.iload_n 2, 1) := by decide +kernel
theorem dX7_state_65 : decode cX7_state 65 = .ok (.ifCond .ne 7, 3) := by decide +kernel
theorem dX7_state_68 : decode cX7_state 68 = .ok (.iload_n 3, 1) := by decide +kernel
theorem dX7_state_69 : decode cX7_state 69 = .ok (.goto 11, 3) := by decide +kernel
theorem dX7_state_72 : decode cX7_state 72 = .ok (.aload_n 0, 1) := by decide +kernel
theorem dX7_state_73 : decode cX7_state 73 = .ok (.getfield 92, 3) := by decide +kernel
theorem dX7_state_76 : decode cX7_state 76 = .ok (.iload_n 1, 1) := by decide +kernel
theorem dX7_state_77 : decode cX7_state 77 = .ok (.ishr, 1) := by decide +kernel
theorem dX7_state_78 : decode cX7_state 78 = .ok (.iconst 1, 1) := by decide +kernel
theorem dX7_state_79 : decode cX7_state 79 = .ok (.iand, 1) := by decide +kernel
theorem dX7_state_80 : decode cX7_state 80 = .ok (.ireturn, 1) := by decide +kernel
theorem dX7_weighs_0 : decode cX7_weighs 0 = .ok (.iconst 0, 1) := by decide +kernel
theorem dX7_weighs_1 : decode cX7_weighs 1 = .ok (.istore_n 2, 1) := by decide +kernel
theorem dX7_weighs_2 : decode cX7_weighs 2 = .ok (.iload_n 2, 1) := by decide +kernel
theorem dX7_weighs_3 : decode cX7_weighs 3 = .ok (.aload_n 0, 1) := by decide +kernel
theorem dX7_weighs_4 : decode cX7_weighs 4 = .ok (.invokevirtual 82, 3) := by decide +kernel
theorem dX7_weighs_7 : decode cX7_weighs 7 = .ok (.if_icmp .ge 16, 3) := by decide +kernel
theorem dX7_weighs_10 : decode cX7_weighs 10 = .ok (.aload_n 0, 1) := by decide +kernel
theorem dX7_weighs_11 : decode cX7_weighs 11 = .ok (.getfield 38, 3) := by decide +kernel
theorem dX7_weighs_14 : decode cX7_weighs 14 = .ok (.iload_n 2, 1) := by decide +kernel
theorem dX7_weighs_15 : decode cX7_weighs 15 = .ok (.iload_n 1, 1) := by decide +kernel
theorem dX7_weighs_16 : decode cX7_weighs 16 = .ok (.iastore, 1) := by decide +kernel
theorem dX7_weighs_17 : decode cX7_weighs 17 = .ok (.iinc 2 1, 3) := by decide +kernel
theorem dX7_weighs_20 : decode cX7_weighs 20 = .ok (.goto (-18), 3) := by decide +kernel
theorem dX7_weighs_23 : decode cX7_weighs 23 = .ok (.iconst 1, 1) := by decide +kernel
theorem dX7_weighs_24 : decode cX7_weighs 24 = .ok (.istore_n 2, 1) := by decide +kernel
theorem dX7_weighs_25 : decode cX7_weighs 25 = .ok (.iload_n 2, 1) := by decide +kernel
theorem dX7_weighs_26 : decode cX7_weighs 26 = .ok (.ifCond .eq 170, 3) := by decide +kernel
theorem dX7_weighs_29 : decode cX7_weighs 29 = .ok (.iconst 0, 1) := by decide +kernel
theorem dX7_weighs_30 : decode cX7_weighs 30 = .ok (.istore_n 2, 1) := by decide +kernel
theorem dX7_weighs_31 : decode cX7_weighs 31 = .ok (.iconst 0, 1) := by decide +kernel
theorem dX7_weighs_32 : decode cX7_weighs 32 = .ok (.istore_n 3, 1) := by decide +kernel
theorem dX7_weighs_33 : decode cX7_weighs 33 = .ok (.iload_n 3, 1) := by decide +kernel
theorem dX7_weighs_34 : decode cX7_weighs 34 = .ok (.aload_n 0, 1) := by decide +kernel
theorem dX7_weighs_35 : decode cX7_weighs 35 = .ok (.invokevirtual 82, 3) := by decide +kernel
theorem dX7_weighs_38 : decode cX7_weighs 38 = .ok (.if_icmp .ge 102, 3) := by decide +kernel
theorem dX7_weighs_41 : decode cX7_weighs 41 = .ok (.iconst 0, 1) := by decide +kernel
theorem dX7_weighs_42 : decode cX7_weighs 42 = .ok (.istore 4, 2) := by decide +kernel
theorem dX7_weighs_44 : decode cX7_weighs 44 = .ok (.iconst 0, 1) := by decide +kernel
theorem dX7_weighs_45 : decode cX7_weighs 45 = .ok (.istore 5, 2) := by decide +kernel
theorem dX7_weighs_47 : decode cX7_weighs 47 = .ok (.iload 5, 2) := by decide +kernel
theorem dX7_weighs_49 : decode cX7_weighs 49 = .ok (.aload_n 0, 1) := by decide +kernel
theorem dX7_weighs_50 : decode cX7_weighs 50 = .ok (.invokevirtual 78, 3) := by decide +kernel
theorem dX7_weighs_53 : decode cX7_weighs 53 = .ok (.if_icmp .ge 42, 3) := by decide +kernel
theorem dX7_weighs_56 : decode cX7_weighs 56 = .ok (.iload 4, 2) := by decide +kernel
theorem dX7_weighs_58 : decode cX7_weighs 58 = .ok (.aload_n 0, 1) := by decide +kernel
theorem dX7_weighs_59 : decode cX7_weighs 59 = .ok (.iload_n 3, 1) := by decide +kernel
theorem dX7_weighs_60 : decode cX7_weighs 60 = .ok (.iload 5, 2) := by decide +kernel
theorem dX7_weighs_62 : decode cX7_weighs 62 = .ok (.invokevirtual 89, 3) := by decide +kernel
theorem dX7_weighs_65 : decode cX7_weighs 65 = .ok (.bipush (-9), 2) := by decide +kernel
theorem dX7_weighs_67 : decode cX7_weighs 67 = .ok (.if_icmp .ne 7, 3) := by decide +kernel
theorem dX7_weighs_70 : decode cX7_weighs 70 = .ok (.iconst 0, 1) := by decide +kernel
theorem dX7_weighs_71 : decode cX7_weighs 71 = .ok (.goto 15, 3) := by decide +kernel
theorem dX7_weighs_74 : decode cX7_weighs 74 = .ok (.aload_n 0, 1) := by decide +kernel
theorem dX7_weighs_75 : decode cX7_weighs 75 = .ok (.getfield 38, 3) := by decide +kernel
theorem dX7_weighs_78 : decode cX7_weighs 78 = .ok (.aload_n 0, 1) := by decide +kernel
theorem dX7_weighs_79 : decode cX7_weighs 79 = .ok (.iload_n 3, 1) := by decide +kernel
theorem dX7_weighs_80 : decode cX7_weighs 80 = .ok (.iload 5, 2) := by decide +kernel
theorem dX7_weighs_82 : decode cX7_weighs 82 = .ok (.invokevirtual 89, 3) := by decide +kernel
theorem dX7_weighs_85 : decode cX7_weighs 85 = .ok (.iaload, 1) := by decide +kernel
theorem dX7_weighs_86 : decode cX7_weighs 86 = .ok (.iadd, 1) := by decide +kernel
theorem dX7_weighs_87 : decode cX7_weighs 87 = .ok (.istore 4, 2) := by decide +kernel
theorem dX7_weighs_89 : decode cX7_weighs 89 = .ok (.iinc 5 1, 3) := by decide +kernel
theorem dX7_weighs_92 : decode cX7_weighs 92 = .ok (.goto (-45), 3) := by decide +kernel
theorem dX7_weighs_95 : decode cX7_weighs 95 = .ok (.iload 4, 2) := by decide +kernel
theorem dX7_weighs_97 : decode cX7_weighs 97 = .ok (.aload_n 0, 1) := by decide +kernel
theorem dX7_weighs_98 : decode cX7_weighs 98 = .ok (.getfield 7, 3) := by decide +kernel
theorem dX7_weighs_101 : decode cX7_weighs 101 = .ok (.iconst 3, 1) := by decide +kernel
theorem dX7_weighs_102 : decode cX7_weighs 102 = .ok (.iaload, 1) := by decide +kernel
theorem dX7_weighs_103 : decode cX7_weighs 103 = .ok (.ishr, 1) := by decide +kernel
theorem dX7_weighs_104 : decode cX7_weighs 104 = .ok (.istore 4, 2) := by decide +kernel
theorem dX7_weighs_106 : decode cX7_weighs 106 = .ok (.aload_n 0, 1) := by decide +kernel
theorem dX7_weighs_107 : decode cX7_weighs 107 = .ok (.getfield 41, 3) := by decide +kernel
theorem dX7_weighs_110 : decode cX7_weighs 110 = .ok (.iload_n 3, 1) := by decide +kernel
theorem dX7_weighs_111 : decode cX7_weighs 111 = .ok (.iload 4, 2) := by decide +kernel
theorem dX7_weighs_113 : decode cX7_weighs 113 = .ok (.aload_n 0, 1) := by decide +kernel
theorem dX7_weighs_114 : decode cX7_weighs 114 = .ok (.getfield 38, 3) := by decide +kernel
theorem dX7_weighs_117 : decode cX7_weighs 117 = .ok (.iload_n 3, 1) := by decide +kernel
theorem dX7_weighs_118 : decode cX7_weighs 118 = .ok (.iaload, 1) := by decide +kernel
theorem dX7_weighs_119 : decode cX7_weighs 119 = .ok (.if_icmp .ge 8, 3) := by decide +kernel
theorem dX7_weighs_122 : decode cX7_weighs 122 = .ok (.iload 4, 2) := by decide +kernel
theorem dX7_weighs_124 : decode cX7_weighs 124 = .ok (.goto 9, 3) := by decide +kernel
theorem dX7_weighs_127 : decode cX7_weighs 127 = .ok (.aload_n 0, 1) := by decide +kernel
theorem dX7_weighs_128 : decode cX7_weighs 128 = .ok (.getfield 38, 3) := by decide +kernel
theorem dX7_weighs_131 : decode cX7_weighs 131 = .ok (.iload_n 3, 1) := by decide +kernel
theorem dX7_weighs_132 : decode cX7_weighs 132 = .ok (.iaload, 1) := by decide +kernel
theorem dX7_weighs_133 : decode cX7_weighs 133 = .ok (.iastore, 1) := by decide +kernel
theorem dX7_weighs_134 : decode cX7_weighs 134 = .ok (.iinc 3 1, 3) := by decide +kernel
theorem dX7_weighs_137 : decode cX7_weighs 137 = .ok (.goto (-104), 3) := by decide +kernel
theorem dX7_weighs_140 : decode cX7_weighs 140 = .ok (.iconst 0, 1) := by decide +kernel
theorem dX7_weighs_141 : decode cX7_weighs 141 = .ok (.istore_n 3, 1) := by decide +kernel
theorem dX7_weighs_142 : decode cX7_weighs 142 = .ok (.iload_n 3, 1) := by decide +kernel
theorem dX7_weighs_143 : decode cX7_weighs 143 = .ok (.aload_n 0, 1) := by decide +kernel
theorem dX7_weighs_144 : decode cX7_weighs 144 = .ok (.invokevirtual 82, 3) := by decide +kernel
theorem dX7_weighs_147 : decode cX7_weighs 147 = .ok (.if_icmp .ge 46, 3) := by decide +kernel
theorem dX7_weighs_150 : decode cX7_weighs 150 = .ok (.iload_n 2, 1) := by decide +kernel
theorem dX7_weighs_151 : decode cX7_weighs 151 = .ok (.ifCond .ne 18, 3) := by decide +kernel
theorem dX7_weighs_154 : decode cX7_weighs 154 = .ok (.aload_n 0, 1) := by decide +kernel
theorem dX7_weighs_155 : decode cX7_weighs 155 = .ok (.getfield 41, 3) := by decide +kernel
theorem dX7_weighs_158 : decode cX7_weighs 158 = .ok (.iload_n 3, 1) := by decide +kernel
theorem dX7_weighs_159 : decode cX7_weighs 159 = .ok (.iaload, 1) := by decide +kernel
theorem dX7_weighs_160 : decode cX7_weighs 160 = .ok (.aload_n 0, 1) := by decide +kernel
theorem dX7_weighs_161 : decode cX7_weighs 161 = .ok (.getfield 38, 3) := by decide +kernel
theorem dX7_weighs_164 : decode cX7_weighs 164 = .ok (.iload_n 3, 1) := by decide +kernel
theorem dX7_weighs_165 : decode cX7_weighs 165 = .ok (.iaload, 1) := by decide +kernel
theorem dX7_weighs_166 : decode cX7_weighs 166 = .ok (.if_icmp .eq 7, 3) := by decide +kernel
theorem dX7_weighs_169 : decode cX7_weighs 169 = .ok (.iconst 1, 1) := by decide +kernel
theorem dX7_weighs_170 : decode cX7_weighs 170 = .ok (.goto 4, 3) := by decide +kernel
theorem dX7_weighs_173 : decode cX7_weighs 173 = .ok (.iconst 0, 1) := by decide +kernel
theorem dX7_weighs_174 : decode cX7_weighs 174 = .ok (.istore_n 2, 1) := by decide +kernel
theorem dX7_weighs_175 : decode cX7_weighs 175 = .ok (.aload_n 0, 1) := by decide +kernel
theorem dX7_weighs_176 : decode cX7_weighs 176 = .ok (.getfield 38, 3) := by decide +kernel
theorem dX7_weighs_179 : decode cX7_weighs 179 = .ok (.iload_n 3, 1) := by decide +kernel
theorem dX7_weighs_180 : decode cX7_weighs 180 = .ok (.aload_n 0, 1) := by decide +kernel
theorem dX7_weighs_181 : decode cX7_weighs 181 = .ok (.getfield 41, 3) := by decide +kernel
theorem dX7_weighs_184 : decode cX7_weighs 184 = .ok (.iload_n 3, 1) := by decide +kernel
theorem dX7_weighs_185 : decode cX7_weighs 185 = .ok (.iaload, 1) := by decide +kernel
theorem dX7_weighs_186 : decode cX7_weighs 186 = .ok (.iastore, 1) := by decide +kernel
theorem dX7_weighs_187 : decode cX7_weighs 187 = .ok (.iinc 3 1, 3) := by decide +kernel
theorem dX7_weighs_190 : decode cX7_weighs 190 = .ok (.goto (-48), 3) := by decide +kernel
theorem dX7_weighs_193 : decode cX7_weighs 193 = .ok (.goto (-168), 3) := by decide +kernel
theorem dX7_weighs_196 : decode cX7_weighs 196 = .ok (.return_, 1) := by decide +kernel
theorem dX7_weight_0 : decode cX7_weight 0 = .ok (.aload_n 0, 1) := by decide +kernel
theorem dX7_weight_1 : decode cX7_weight 1 = .ok (.iload_n 1, 1) := by decide +kernel
theorem dX7_weight_2 : decode cX7_weight 2 = .ok (.invokevirtual 152, 3) := by decide +kernel
theorem dX7_weight_5 : decode cX7_weight 5 = .ok (.ifCond .eq 25, 3) := by decide +kernel
theorem dX7_weight_8 : decode cX7_weight 8 = .ok (.iload_n 2, 1) := by decide +kernel
theorem dX7_weight_9 : decode cX7_weight 9 = .ok (.i2l, 1) := by decide +kernel
theorem dX7_weight_10 : decode cX7_weight 10 = .ok (.lconst 1, 1) := by decide +kernel
theorem dX7_weight_11 : decode cX7_weight 11 = .ok (.ldc2_w 155, 3) := by decide +kernel
theorem dX7_weight_14 : decode cX7_weight 14 = .ok (.invokestatic 70, 3) := by decide +kernel
theorem dX7_weight_17 : decode cX7_weight 17 = .ok (.ifCond .eq 13, 3) := by decide +kernel
theorem dX7_weight_20 : decode cX7_weight 20 = .ok (.iload_n 3, 1) := by decide +kernel
theorem dX7_weight_21 : decode cX7_weight 21 = .ok (.i2l, 1) := by decide +kernel
theorem dX7_weight_22 : decode cX7_weight 22 = .ok (.lconst 0, 1) := by decide +kernel
theorem dX7_weight_23 : decode cX7_weight 23 = .ok (.lconst 1, 1) := by decide +kernel
theorem dX7_weight_24 : decode cX7_weight 24 = .ok (.invokestatic 70, 3) := by decide +kernel
theorem dX7_weight_27 : decode cX7_weight 27 = .ok (.ifCond .ne 5, 3) := by decide +kernel
theorem dX7_weight_30 : decode cX7_weight 30 = .ok (.iconst (-1), 1) := by decide +kernel
theorem dX7_weight_31 : decode cX7_weight 31 = .ok (.ireturn, 1) := by decide +kernel
theorem dX7_weight_32 : decode cX7_weight 32 = .ok (.aload_n 0, 1) := by decide +kernel
theorem dX7_weight_33 : decode cX7_weight 33 = .ok (.invokevirtual 56, 3) := by decide +kernel
theorem dX7_weight_36 : decode cX7_weight 36 = .ok (.aload_n 0, 1) := by decide +kernel
theorem dX7_weight_37 : decode cX7_weight 37 = .ok (.iload_n 2, 1) := by decide +kernel
theorem dX7_weight_38 : decode cX7_weight 38 = .ok (.invokevirtual 157, 3) := by decide +kernel
theorem dX7_weight_41 : decode cX7_weight 41 = .ok (.iconst 0, 1) := by decide +kernel
theorem dX7_weight_42 : decode cX7_weight 42 = .ok (.istore 4, 2) := by decide +kernel
theorem dX7_weight_44 : decode cX7_weight 44 = .ok (.iconst 0, 1) := by decide +kernel
theorem dX7_weight_45 : decode cX7_weight 45 = .ok (.istore 5, 2) := by decide +kernel
theorem dX7_weight_47 : decode cX7_weight 47 = .ok (.iload 5, 2) := by decide +kernel
theorem dX7_weight_49 : decode cX7_weight 49 = .ok (.aload_n 0, 1) := by decide +kernel
theorem dX7_weight_50 : decode cX7_weight 50 = .ok (.invokevirtual 82, 3) := by decide +kernel
theorem dX7_weight_53 : decode cX7_weight 53 = .ok (.if_icmp .ge 21, 3) := by decide +kernel
theorem dX7_weight_56 : decode cX7_weight 56 = .ok (.iload 4, 2) := by decide +kernel
theorem dX7_weight_58 : decode cX7_weight 58 = .ok (.aload_n 0, 1) := by decide +kernel
theorem dX7_weight_59 : decode cX7_weight 59 = .ok (.getfield 38, 3) := by decide +kernel
theorem dX7_weight_62 : decode cX7_weight 62 = .ok (.iload 5, 2) := by decide +kernel
theorem dX7_weight_64 : decode cX7_weight 64 = .ok (.iaload, 1) := by decide +kernel
theorem dX7_weight_65 : decode cX7_weight 65 = .ok (.iadd, 1) := by decide +kernel
theorem dX7_weight_66 : decode cX7_weight 66 = .ok (.istore 4, 2) := by decide +kernel
theorem dX7_weight_68 : decode cX7_weight 68 = .ok (.iinc 5 1, 3) := by decide +kernel
theorem dX7_weight_71 : decode cX7_weight 71 = .ok (.goto (-24), 3) := by decide +kernel
theorem dX7_weight_74 : decode cX7_weight 74 = .ok (.iload_n 3, 1) := by decide +kernel
theorem dX7_weight_75 : decode cX7_weight 75 = .ok (.ifCond .ne 12, 3) := by decide +kernel
theorem dX7_weight_78 : decode cX7_weight 78 = .ok (.aload_n 0, 1) := by decide +kernel
theorem dX7_weight_79 : decode cX7_weight 79 = .ok (.getfield 38, 3) := by decide +kernel
theorem dX7_weight_82 : decode cX7_weight 82 = .ok (.iload_n 1, 1) := by decide +kernel
theorem dX7_weight_83 : decode cX7_weight 83 = .ok (.iaload, 1) := by decide +kernel
theorem dX7_weight_84 : decode cX7_weight 84 = .ok (.goto 25, 3) := by decide +kernel
theorem dX7_weight_87 : decode cX7_weight 87 = .ok (.iload 4, 2) := by decide +kernel
theorem dX7_weight_89 : decode cX7_weight 89 = .ok (.ifCond .ne 7, 3) := by decide +kernel
theorem dX7_weight_92 : decode cX7_weight 92 = .ok (.iconst 0, 1) := by decide +kernel
theorem dX7_weight_93 : decode cX7_weight 93 = .ok (.goto 16, 3) := by decide +kernel
theorem dX7_weight_96 : decode cX7_weight 96 = .ok (.sipush 1000, 3) := by decide +kernel
theorem dX7_weight_99 : decode cX7_weight 99 = .ok (.aload_n 0, 1) := by decide +kernel
theorem dX7_weight_100 : decode cX7_weight 100 = .ok (.getfield 38, 3) := by decide +kernel
theorem dX7_weight_103 : decode cX7_weight 103 = .ok (.iload_n 1, 1) := by decide +kernel
theorem dX7_weight_104 : decode cX7_weight 104 = .ok (.iaload, 1) := by decide +kernel
theorem dX7_weight_105 : decode cX7_weight 105 = .ok (.imul, 1) := by decide +kernel
theorem dX7_weight_106 : decode cX7_weight 106 = .ok (.iload 4, 2) := by decide +kernel
theorem dX7_weight_108 : decode cX7_weight 108 = .ok (.idiv, 1) := by decide +kernel
theorem dX7_weight_109 : decode cX7_weight 109 = .ok (.ireturn, 1) := by decide +kernel
theorem dX7_rows_0 : decode cX7_rows 0 = .ok (.iload_n 1, 1) := by decide +kernel
theorem dX7_rows_1 : decode cX7_rows 1 = .ok (.i2l, 1) := by decide +kernel
theorem dX7_rows_2 : decode cX7_rows 2 = .ok (.lconst 0, 1) := by decide +kernel
theorem dX7_rows_3 : decode cX7_rows 3 = .ok (.ldc2_w 161, 3) := by decide +kernel
theorem dX7_rows_6 : decode cX7_rows 6 = .ok (.invokestatic 70, 3) := by decide +kernel
theorem dX7_rows_9 : decode cX7_rows 9 = .ok (.ifCond .ne 5, 3) := by decide +kernel
theorem dX7_rows_12 : decode cX7_rows 12 = .ok (.iconst (-1), 1) := by decide +kernel
theorem dX7_rows_13 : decode cX7_rows 13 = .ok (.ireturn, 1) := by decide +kernel
theorem dX7_rows_14 : decode cX7_rows 14 = .ok (.iconst 0, 1) := by decide +kernel
theorem dX7_rows_15 : decode cX7_rows 15 = .ok (.istore_n 2, 1) := by decide +kernel
theorem dX7_rows_16 : decode cX7_rows 16 = .ok (.iload_n 2, 1) := by decide +kernel
theorem dX7_rows_17 : decode cX7_rows 17 = .ok (.aload_n 0, 1) := by decide +kernel
theorem dX7_rows_18 : decode cX7_rows 18 = .ok (.invokevirtual 82, 3) := by decide +kernel
theorem dX7_rows_21 : decode cX7_rows 21 = .ok (.if_icmp .ge 28, 3) := by decide +kernel
theorem dX7_rows_24 : decode cX7_rows 24 = .ok (.aload_n 0, 1) := by decide +kernel
theorem dX7_rows_25 : decode cX7_rows 25 = .ok (.getfield 44, 3) := by decide +kernel
theorem dX7_rows_28 : decode cX7_rows 28 = .ok (.iload_n 2, 1) := by decide +kernel
theorem dX7_rows_29 : decode cX7_rows 29 = .ok (.iload_n 2, 1) := by decide +kernel
theorem dX7_rows_30 : decode cX7_rows 30 = .ok (.aload_n 0, 1) := by decide +kernel
theorem dX7_rows_31 : decode cX7_rows 31 = .ok (.invokevirtual 163, 3) := by decide +kernel
theorem dX7_rows_34 : decode cX7_rows 34 = .ok (.if_icmp .ne 7, 3) := by decide +kernel
theorem dX7_rows_37 : decode cX7_rows 37 = .ok (.iconst 1, 1) := by decide +kernel
theorem dX7_rows_38 : decode cX7_rows 38 = .ok (.goto 4, 3) := by decide +kernel
theorem dX7_rows_41 : decode cX7_rows 41 = .ok (.iconst 0, 1) := by decide +kernel
theorem dX7_rows_42 : decode cX7_rows 42 = .ok (.iastore, 1) := by decide +kernel
theorem dX7_rows_43 : decode cX7_rows 43 = .ok (.iinc 2 1, 3) := by decide +kernel
theorem dX7_rows_46 : decode cX7_rows 46 = .ok (.goto (-30), 3) := by decide +kernel
theorem dX7_rows_49 : decode cX7_rows 49 = .ok (.iconst 0, 1) := by decide +kernel
theorem dX7_rows_50 : decode cX7_rows 50 = .ok (.istore_n 2, 1) := by decide +kernel
theorem dX7_rows_51 : decode cX7_rows 51 = .ok (.iload_n 2, 1) := by decide +kernel
theorem dX7_rows_52 : decode cX7_rows 52 = .ok (.iload_n 1, 1) := by decide +kernel
theorem dX7_rows_53 : decode cX7_rows 53 = .ok (.if_icmp .ge 115, 3) := by decide +kernel
theorem dX7_rows_56 : decode cX7_rows 56 = .ok (.iconst 0, 1) := by decide +kernel
theorem dX7_rows_57 : decode cX7_rows 57 = .ok (.istore_n 3, 1) := by decide +kernel
theorem dX7_rows_58 : decode cX7_rows 58 = .ok (.iload_n 3, 1) := by decide +kernel
theorem dX7_rows_59 : decode cX7_rows 59 = .ok (.aload_n 0, 1) := by decide +kernel
theorem dX7_rows_60 : decode cX7_rows 60 = .ok (.invokevirtual 82, 3) := by decide +kernel
theorem dX7_rows_63 : decode cX7_rows 63 = .ok (.if_icmp .ge 16, 3) := by decide +kernel
theorem dX7_rows_66 : decode cX7_rows 66 = .ok (.aload_n 0, 1) := by decide +kernel
theorem dX7_rows_67 : decode cX7_rows 67 = .ok (.getfield 47, 3) := by decide +kernel
theorem dX7_rows_70 : decode cX7_rows 70 = .ok (.iload_n 3, 1) := by decide +kernel
theorem dX7_rows_71 : decode cX7_rows 71 = .ok (.iconst 0, 1) := by decide +kernel
theorem dX7_rows_72 : decode cX7_rows 72 = .ok (.iastore, 1) := by decide +kernel
theorem dX7_rows_73 : decode cX7_rows 73 = .ok (.iinc 3 1, 3) := by decide +kernel
theorem dX7_rows_76 : decode cX7_rows 76 = .ok (.goto (-18), 3) := by decide +kernel
theorem dX7_rows_79 : decode cX7_rows 79 = .ok (.iconst 0, 1) := by decide +kernel
theorem dX7_rows_80 : decode cX7_rows 80 = .ok (.istore_n 3, 1) := by decide +kernel
theorem dX7_rows_81 : decode cX7_rows 81 = .ok (.iload_n 3, 1) := by decide +kernel
theorem dX7_rows_82 : decode cX7_rows 82 = .ok (.iconst 2, 1) := by decide +kernel
theorem dX7_rows_83 : decode cX7_rows 83 = .ok (.aload_n 0, 1) := by decide +kernel
theorem dX7_rows_84 : decode cX7_rows 84 = .ok (.invokevirtual 82, 3) := by decide +kernel
theorem dX7_rows_87 : decode cX7_rows 87 = .ok (.imul, 1) := by decide +kernel
theorem dX7_rows_88 : decode cX7_rows 88 = .ok (.if_icmp .ge 46, 3) := by decide +kernel
theorem dX7_rows_91 : decode cX7_rows 91 = .ok (.aload_n 0, 1) := by decide +kernel
theorem dX7_rows_92 : decode cX7_rows 92 = .ok (.iload_n 3, 1) := by decide +kernel
theorem dX7_rows_93 : decode cX7_rows 93 = .ok (.iconst 2, 1) := by decide +kernel
theorem dX7_rows_94 : decode cX7_rows 94 = .ok (.idiv, 1) := by decide +kernel
theorem dX7_rows_95 : decode cX7_rows 95 = .ok (.iload_n 3, 1) := by decide +kernel
theorem dX7_rows_96 : decode cX7_rows 96 = .ok (.iconst 2, 1) := by decide +kernel
theorem dX7_rows_97 : decode cX7_rows 97 = .ok (.irem, 1) := by decide +kernel
theorem dX7_rows_98 : decode cX7_rows 98 = .ok (.invokevirtual 85, 3) := by decide +kernel
theorem dX7_rows_101 : decode cX7_rows 101 = .ok (.istore 4, 2) := by decide +kernel
theorem dX7_rows_103 : decode cX7_rows 103 = .ok (.iload 4, 2) := by decide +kernel
theorem dX7_rows_105 : decode cX7_rows 105 = .ok (.bipush (-9), 2) := by decide +kernel
theorem dX7_rows_107 : decode cX7_rows 107 = .ok (.if_icmp .eq 21, 3) := by decide +kernel
theorem dX7_rows_110 : decode cX7_rows 110 = .ok (.aload_n 0, 1) := by decide +kernel
theorem dX7_rows_111 : decode cX7_rows 111 = .ok (.getfield 47, 3) := by decide +kernel
theorem dX7_rows_114 : decode cX7_rows 114 = .ok (.iload 4, 2) := by decide +kernel
theorem dX7_rows_116 : decode cX7_rows 116 = .ok (.dup2, 1) := by decide +kernel
theorem dX7_rows_117 : decode cX7_rows 117 = .ok (.iaload, 1) := by decide +kernel
theorem dX7_rows_118 : decode cX7_rows 118 = .ok (.aload_n 0, 1) := by decide +kernel
theorem dX7_rows_119 : decode cX7_rows 119 = .ok (.getfield 44, 3) := by decide +kernel
theorem dX7_rows_122 : decode cX7_rows 122 = .ok (.iload_n 3, 1) := by decide +kernel
theorem dX7_rows_123 : decode cX7_rows 123 = .ok (.iconst 2, 1) := by decide +kernel
theorem dX7_rows_124 : decode cX7_rows 124 = .ok (.idiv, 1) := by decide +kernel
theorem dX7_rows_125 : decode cX7_rows 125 = .ok (.iaload, 1) := by decide +kernel
theorem dX7_rows_126 : decode cX7_rows 126 = .ok (.iadd, 1) := by decide +kernel
theorem dX7_rows_127 : decode cX7_rows 127 = .ok (.iastore, 1) := by decide +kernel
theorem dX7_rows_128 : decode cX7_rows 128 = .ok (.iinc 3 1, 3) := by decide +kernel
theorem dX7_rows_131 : decode cX7_rows 131 = .ok (.goto (-50), 3) := by decide +kernel
theorem dX7_rows_134 : decode cX7_rows 134 = .ok (.iconst 0, 1) := by decide +kernel
theorem dX7_rows_135 : decode cX7_rows 135 = .ok (.istore_n 3, 1) := by decide +kernel
theorem dX7_rows_136 : decode cX7_rows 136 = .ok (.iload_n 3, 1) := by decide +kernel
theorem dX7_rows_137 : decode cX7_rows 137 = .ok (.aload_n 0, 1) := by decide +kernel
theorem dX7_rows_138 : decode cX7_rows 138 = .ok (.invokevirtual 82, 3) := by decide +kernel
theorem dX7_rows_141 : decode cX7_rows 141 = .ok (.if_icmp .ge 21, 3) := by decide +kernel
theorem dX7_rows_144 : decode cX7_rows 144 = .ok (.aload_n 0, 1) := by decide +kernel
theorem dX7_rows_145 : decode cX7_rows 145 = .ok (.getfield 44, 3) := by decide +kernel
theorem dX7_rows_148 : decode cX7_rows 148 = .ok (.iload_n 3, 1) := by decide +kernel
theorem dX7_rows_149 : decode cX7_rows 149 = .ok (.aload_n 0, 1) := by decide +kernel
theorem dX7_rows_150 : decode cX7_rows 150 = .ok (.getfield 47, 3) := by decide +kernel
theorem dX7_rows_153 : decode cX7_rows 153 = .ok (.iload_n 3, 1) := by decide +kernel
theorem dX7_rows_154 : decode cX7_rows 154 = .ok (.iaload, 1) := by decide +kernel
theorem dX7_rows_155 : decode cX7_rows 155 = .ok (.iastore, 1) := by decide +kernel
theorem dX7_rows_156 : decode cX7_rows 156 = .ok (.iinc 3 1, 3) := by decide +kernel
theorem dX7_rows_159 : decode cX7_rows 159 = .ok (.goto (-23), 3) := by decide +kernel
theorem dX7_rows_162 : decode cX7_rows 162 = .ok (.iinc 2 1, 3) := by decide +kernel
theorem dX7_rows_165 : decode cX7_rows 165 = .ok (.goto (-114), 3) := by decide +kernel
theorem dX7_rows_168 : decode cX7_rows 168 = .ok (.iconst 0, 1) := by decide +kernel
theorem dX7_rows_169 : decode cX7_rows 169 = .ok (.istore_n 2, 1) := by decide +kernel
theorem dX7_rows_170 : decode cX7_rows 170 = .ok (.iconst 0, 1) := by decide +kernel
theorem dX7_rows_171 : decode cX7_rows 171 = .ok (.istore_n 3, 1) := by decide +kernel
theorem dX7_rows_172 : decode cX7_rows 172 = .ok (.iload_n 3, 1) := by decide +kernel
theorem dX7_rows_173 : decode cX7_rows 173 = .ok (.aload_n 0, 1) := by decide +kernel
theorem dX7_rows_174 : decode cX7_rows 174 = .ok (.invokevirtual 82, 3) := by decide +kernel
theorem dX7_rows_177 : decode cX7_rows 177 = .ok (.if_icmp .ge 18, 3) := by decide +kernel
theorem dX7_rows_180 : decode cX7_rows 180 = .ok (.iload_n 2, 1) := by decide +kernel
theorem dX7_rows_181 : decode cX7_rows 181 = .ok (.aload_n 0, 1) := by decide +kernel
theorem dX7_rows_182 : decode cX7_rows 182 = .ok (.getfield 44, 3) := by decide +kernel
theorem dX7_rows_185 : decode cX7_rows 185 = .ok (.iload_n 3, 1) := by decide +kernel
theorem dX7_rows_186 : decode cX7_rows 186 = .ok (.iaload, 1) := by decide +kernel
theorem dX7_rows_187 : decode cX7_rows 187 = .ok (.iadd, 1) := by decide +kernel
theorem dX7_rows_188 : decode cX7_rows 188 = .ok (.istore_n 2, 1) := by decide +kernel
theorem dX7_rows_189 : decode cX7_rows 189 = .ok (.iinc 3 1, 3) := by decide +kernel
theorem dX7_rows_192 : decode cX7_rows 192 = .ok (.goto (-20), 3) := by decide +kernel
theorem dX7_rows_195 : decode cX7_rows 195 = .ok (.iload_n 2, 1) := by decide +kernel
theorem dX7_rows_196 : decode cX7_rows 196 = .ok (.ireturn, 1) := by decide +kernel
theorem dX7_goOn_0 : decode cX7_goOn 0 = .ok (.aload_n 0, 1) := by decide +kernel
theorem dX7_goOn_1 : decode cX7_goOn 1 = .ok (.iload_n 1, 1) := by decide +kernel
theorem dX7_goOn_2 : decode cX7_goOn 2 = .ok (.iload_n 3, 1) := by decide +kernel
theorem dX7_goOn_3 : decode cX7_goOn 3 = .ok (.invokevirtual 149, 3) := by decide +kernel
theorem dX7_goOn_6 : decode cX7_goOn 6 = .ok (.bipush (-9), 2) := by decide +kernel
theorem dX7_goOn_8 : decode cX7_goOn 8 = .ok (.if_icmp .eq 18, 3) := by decide +kernel
theorem dX7_goOn_11 : decode cX7_goOn 11 = .ok (.aload_n 0, 1) := by decide +kernel
theorem dX7_goOn_12 : decode cX7_goOn 12 = .ok (.iload_n 2, 1) := by decide +kernel
theorem dX7_goOn_13 : decode cX7_goOn 13 = .ok (.iload_n 3, 1) := by decide +kernel
theorem dX7_goOn_14 : decode cX7_goOn 14 = .ok (.invokevirtual 149, 3) := by decide +kernel
theorem dX7_goOn_17 : decode cX7_goOn 17 = .ok (.bipush (-9), 2) := by decide +kernel
theorem dX7_goOn_19 : decode cX7_goOn 19 = .ok (.if_icmp .eq 7, 3) := by decide +kernel
theorem dX7_goOn_22 : decode cX7_goOn 22 = .ok (.iconst 1, 1) := by decide +kernel
theorem dX7_goOn_23 : decode cX7_goOn 23 = .ok (.goto 4, 3) := by decide +kernel
theorem dX7_goOn_26 : decode cX7_goOn 26 = .ok (.iconst 0, 1) := by decide +kernel
theorem dX7_goOn_27 : decode cX7_goOn 27 = .ok (.istore 5, 2) := by decide +kernel
theorem dX7_goOn_29 : decode cX7_goOn 29 = .ok (.iload 5, 2) := by decide +kernel
theorem dX7_goOn_31 : decode cX7_goOn 31 = .ok (.ifCond .eq 37, 3) := by decide +kernel
theorem dX7_goOn_34 : decode cX7_goOn 34 = .ok (.aload_n 0, 1) := by decide +kernel
theorem dX7_goOn_35 : decode cX7_goOn 35 = .ok (.getfield 50, 3) := by decide +kernel
theorem dX7_goOn_38 : decode cX7_goOn 38 = .ok (.bipush 49, 2) := by decide +kernel
theorem dX7_goOn_40 : decode cX7_goOn 40 = .ok (.iload 4, 2) := by decide +kernel
theorem dX7_goOn_42 : decode cX7_goOn 42 = .ok (.imul, 1) := by decide +kernel
theorem dX7_goOn_43 : decode cX7_goOn 43 = .ok (.bipush 7, 2) := by decide +kernel
theorem dX7_goOn_45 : decode cX7_goOn 45 = .ok (.aload_n 0, 1) := by decide +kernel
theorem dX7_goOn_46 : decode cX7_goOn 46 = .ok (.iload_n 1, 1) := by decide +kernel
theorem dX7_goOn_47 : decode cX7_goOn 47 = .ok (.iload_n 3, 1) := by decide +kernel
theorem dX7_goOn_48 : decode cX7_goOn 48 = .ok (.invokevirtual 89, 3) := by decide +kernel
theorem dX7_goOn_51 : decode cX7_goOn 51 = .ok (.imul, 1) := by decide +kernel
theorem dX7_goOn_52 : decode cX7_goOn 52 = .ok (.iadd, 1) := by decide +kernel
theorem dX7_goOn_53 : decode cX7_goOn 53 = .ok (.aload_n 0, 1) := by decide +kernel
theorem dX7_goOn_54 : decode cX7_goOn 54 = .ok (.iload_n 2, 1) := by decide +kernel
theorem dX7_goOn_55 : decode cX7_goOn 55 = .ok (.iload_n 3, 1) := by decide +kernel
theorem dX7_goOn_56 : decode cX7_goOn 56 = .ok (.invokevirtual 89, 3) := by decide +kernel
theorem dX7_goOn_59 : decode cX7_goOn 59 = .ok (.iadd, 1) := by decide +kernel
theorem dX7_goOn_60 : decode cX7_goOn 60 = .ok (.baload, 1) := by decide +kernel
theorem dX7_goOn_61 : decode cX7_goOn 61 = .ok (.ifCond .eq 7, 3) := by decide +kernel
theorem dX7_goOn_64 : decode cX7_goOn 64 = .ok (.iconst 1, 1) := by decide +kernel
theorem dX7_goOn_65 : decode cX7_goOn 65 = .ok (.goto 4, 3) := by decide +kernel
theorem dX7_goOn_68 : decode cX7_goOn 68 = .ok (.iconst 0, 1) := by decide +kernel
theorem dX7_goOn_69 : decode cX7_goOn 69 = .ok (.ireturn, 1) := by decide +kernel
theorem dX7_layAlike_0 : decode cX7_layAlike 0 = .ok (.iconst 0, 1) := by decide +kernel
theorem dX7_layAlike_1 : decode cX7_layAlike 1 = .ok (.istore_n 1, 1) := by decide +kernel
theorem dX7_layAlike_2 : decode cX7_layAlike 2 = .ok (.iload_n 1, 1) := by decide +kernel
theorem dX7_layAlike_3 : decode cX7_layAlike 3 = .ok (.iconst 4, 1) := by decide +kernel
theorem dX7_layAlike_4 : decode cX7_layAlike 4 = .ok (.if_icmp .ge 112, 3) := by decide +kernel
theorem dX7_layAlike_7 : decode cX7_layAlike 7 = .ok (.iconst 0, 1) := by decide +kernel
theorem dX7_layAlike_8 : decode cX7_layAlike 8 = .ok (.istore_n 2, 1) := by decide +kernel
theorem dX7_layAlike_9 : decode cX7_layAlike 9 = .ok (.iload_n 2, 1) := by decide +kernel
theorem dX7_layAlike_10 : decode cX7_layAlike 10 = .ok (.bipush 49, 2) := by decide +kernel
theorem dX7_layAlike_12 : decode cX7_layAlike 12 = .ok (.if_icmp .ge 98, 3) := by decide +kernel
theorem dX7_layAlike_15 : decode cX7_layAlike 15 = .ok (.iload_n 2, 1) := by decide +kernel
theorem dX7_layAlike_16 : decode cX7_layAlike 16 = .ok (.bipush 7, 2) := by decide +kernel
theorem dX7_layAlike_18 : decode cX7_layAlike 18 = .ok (.idiv, 1) := by decide +kernel
theorem dX7_layAlike_19 : decode cX7_layAlike 19 = .ok (.istore_n 3, 1) := by decide +kernel
theorem dX7_layAlike_20 : decode cX7_layAlike 20 = .ok (.iload_n 2, 1) := by decide +kernel
theorem dX7_layAlike_21 : decode cX7_layAlike 21 = .ok (.bipush 7, 2) := by decide +kernel
theorem dX7_layAlike_23 : decode cX7_layAlike 23 = .ok (.irem, 1) := by decide +kernel
theorem dX7_layAlike_24 : decode cX7_layAlike 24 = .ok (.istore 4, 2) := by decide +kernel
theorem dX7_layAlike_26 : decode cX7_layAlike 26 = .ok (.iload_n 1, 1) := by decide +kernel
theorem dX7_layAlike_27 : decode cX7_layAlike 27 = .ok (.ifCond .ne 7, 3) := by decide +kernel
theorem dX7_layAlike_30 : decode cX7_layAlike 30 = .ok (.iconst 1, 1) := by decide +kernel
theorem dX7_layAlike_31 : decode cX7_layAlike 31 = .ok (.goto 4, 3) := by decide +kernel
theorem dX7_layAlike_34 : decode cX7_layAlike 34 = .ok (.iconst 0, 1) := by decide +kernel
theorem dX7_layAlike_35 : decode cX7_layAlike 35 = .ok (.istore 5, 2) := by decide +kernel
theorem dX7_layAlike_37 : decode cX7_layAlike 37 = .ok (.iconst 0, 1) := by decide +kernel
theorem dX7_layAlike_38 : decode cX7_layAlike 38 = .ok (.istore 6, 2) := by decide +kernel
theorem dX7_layAlike_40 : decode cX7_layAlike 40 = .ok (.iload 6, 2) := by decide +kernel
theorem dX7_layAlike_42 : decode cX7_layAlike 42 = .ok (.aload_n 0, 1) := by decide +kernel
theorem dX7_layAlike_43 : decode cX7_layAlike 43 = .ok (.invokevirtual 78, 3) := by decide +kernel
theorem dX7_layAlike_46 : decode cX7_layAlike 46 = .ok (.if_icmp .ge 45, 3) := by decide +kernel
theorem dX7_layAlike_49 : decode cX7_layAlike 49 = .ok (.iload 5, 2) := by decide +kernel
theorem dX7_layAlike_51 : decode cX7_layAlike 51 = .ok (.ifCond .ne 40, 3) := by decide +kernel
theorem dX7_layAlike_54 : decode cX7_layAlike 54 = .ok (.aload_n 0, 1) := by decide +kernel
theorem dX7_layAlike_55 : decode cX7_layAlike 55 = .ok (.iload_n 3, 1) := by decide +kernel
theorem dX7_layAlike_56 : decode cX7_layAlike 56 = .ok (.invokevirtual 152, 3) := by decide +kernel
theorem dX7_layAlike_59 : decode cX7_layAlike 59 = .ok (.ifCond .eq 32, 3) := by decide +kernel
theorem dX7_layAlike_62 : decode cX7_layAlike 62 = .ok (.aload_n 0, 1) := by decide +kernel
theorem dX7_layAlike_63 : decode cX7_layAlike 63 = .ok (.iload 4, 2) := by decide +kernel
theorem dX7_layAlike_65 : decode cX7_layAlike 65 = .ok (.invokevirtual 152, 3) := by decide +kernel
theorem dX7_layAlike_68 : decode cX7_layAlike 68 = .ok (.ifCond .eq 23, 3) := by decide +kernel
theorem dX7_layAlike_71 : decode cX7_layAlike 71 = .ok (.aload_n 0, 1) := by decide +kernel
theorem dX7_layAlike_72 : decode cX7_layAlike 72 = .ok (.iload_n 3, 1) := by decide +kernel
theorem dX7_layAlike_73 : decode cX7_layAlike 73 = .ok (.iload 4, 2) := by decide +kernel
theorem dX7_layAlike_75 : decode cX7_layAlike 75 = .ok (.iload 6, 2) := by decide +kernel
theorem dX7_layAlike_77 : decode cX7_layAlike 77 = .ok (.iload_n 1, 1) := by decide +kernel
theorem dX7_layAlike_78 : decode cX7_layAlike 78 = .ok (.iconst 1, 1) := by decide +kernel
theorem dX7_layAlike_79 : decode cX7_layAlike 79 = .ok (.isub, 1) := by decide +kernel
theorem dX7_layAlike_80 : decode cX7_layAlike 80 = .ok (.invokevirtual 166, 3) := by decide +kernel
theorem dX7_layAlike_83 : decode cX7_layAlike 83 = .ok (.istore 5, 2) := by decide +kernel
theorem dX7_layAlike_85 : decode cX7_layAlike 85 = .ok (.iinc 6 1, 3) := by decide +kernel
theorem dX7_layAlike_88 : decode cX7_layAlike 88 = .ok (.goto (-48), 3) := by decide +kernel
theorem dX7_layAlike_91 : decode cX7_layAlike 91 = .ok (.aload_n 0, 1) := by decide +kernel
theorem dX7_layAlike_92 : decode cX7_layAlike 92 = .ok (.getfield 50, 3) := by decide +kernel
theorem dX7_layAlike_95 : decode cX7_layAlike 95 = .ok (.bipush 49, 2) := by decide +kernel
theorem dX7_layAlike_97 : decode cX7_layAlike 97 = .ok (.iload_n 1, 1) := by decide +kernel
theorem dX7_layAlike_98 : decode cX7_layAlike 98 = .ok (.imul, 1) := by decide +kernel
theorem dX7_layAlike_99 : decode cX7_layAlike 99 = .ok (.iload_n 2, 1) := by decide +kernel
theorem dX7_layAlike_100 : decode cX7_layAlike 100 = .ok (.iadd, 1) := by decide +kernel
theorem dX7_layAlike_101 : decode cX7_layAlike 101 = .ok (.iload 5, 2) := by decide +kernel
theorem dX7_layAlike_103 : decode cX7_layAlike 103 = .ok (.bastore, 1) := by decide +kernel
theorem dX7_layAlike_104 : decode cX7_layAlike 104 = .ok (.iinc 2 1, 3) := by decide +kernel
theorem dX7_layAlike_107 : decode cX7_layAlike 107 = .ok (.goto (-98), 3) := by decide +kernel
theorem dX7_layAlike_110 : decode cX7_layAlike 110 = .ok (.iinc 1 1, 3) := by decide +kernel
theorem dX7_layAlike_113 : decode cX7_layAlike 113 = .ok (.goto (-111), 3) := by decide +kernel
theorem dX7_layAlike_116 : decode cX7_layAlike 116 = .ok (.return_, 1) := by decide +kernel
theorem dX7_isWide_0 : decode cX7_isWide 0 = .ok (.iconst 0, 1) := by decide +kernel
theorem dX7_isWide_1 : decode cX7_isWide 1 = .ok (.istore_n 2, 1) := by decide +kernel
theorem dX7_isWide_2 : decode cX7_isWide 2 = .ok (.iload_n 2, 1) := by decide +kernel
theorem dX7_isWide_3 : decode cX7_isWide 3 = .ok (.aload_n 0, 1) := by decide +kernel
theorem dX7_isWide_4 : decode cX7_isWide 4 = .ok (.invokevirtual 82, 3) := by decide +kernel
theorem dX7_isWide_7 : decode cX7_isWide 7 = .ok (.if_icmp .ge 71, 3) := by decide +kernel
theorem dX7_isWide_10 : decode cX7_isWide 10 = .ok (.iconst 0, 1) := by decide +kernel
theorem dX7_isWide_11 : decode cX7_isWide 11 = .ok (.istore_n 3, 1) := by decide +kernel
theorem dX7_isWide_12 : decode cX7_isWide 12 = .ok (.iload_n 3, 1) := by decide +kernel
theorem dX7_isWide_13 : decode cX7_isWide 13 = .ok (.iload_n 2, 1) := by decide +kernel
theorem dX7_isWide_14 : decode cX7_isWide 14 = .ok (.if_icmp .ge 58, 3) := by decide +kernel
theorem dX7_isWide_17 : decode cX7_isWide 17 = .ok (.iconst 0, 1) := by decide +kernel
theorem dX7_isWide_18 : decode cX7_isWide 18 = .ok (.istore 4, 2) := by decide +kernel
theorem dX7_isWide_20 : decode cX7_isWide 20 = .ok (.iload 4, 2) := by decide +kernel
theorem dX7_isWide_22 : decode cX7_isWide 22 = .ok (.aload_n 0, 1) := by decide +kernel
theorem dX7_isWide_23 : decode cX7_isWide 23 = .ok (.invokevirtual 78, 3) := by decide +kernel
theorem dX7_isWide_26 : decode cX7_isWide 26 = .ok (.if_icmp .ge 40, 3) := by decide +kernel
theorem dX7_isWide_29 : decode cX7_isWide 29 = .ok (.aload_n 0, 1) := by decide +kernel
theorem dX7_isWide_30 : decode cX7_isWide 30 = .ok (.iload_n 2, 1) := by decide +kernel
theorem dX7_isWide_31 : decode cX7_isWide 31 = .ok (.iload 4, 2) := by decide +kernel
theorem dX7_isWide_33 : decode cX7_isWide 33 = .ok (.invokevirtual 149, 3) := by decide +kernel
theorem dX7_isWide_36 : decode cX7_isWide 36 = .ok (.aload_n 0, 1) := by decide +kernel
theorem dX7_isWide_37 : decode cX7_isWide 37 = .ok (.iload_n 3, 1) := by decide +kernel
theorem dX7_isWide_38 : decode cX7_isWide 38 = .ok (.iload 4, 2) := by decide +kernel
theorem dX7_isWide_40 : decode cX7_isWide 40 = .ok (.invokevirtual 149, 3) := by decide +kernel
theorem dX7_isWide_43 : decode cX7_isWide 43 = .ok (.if_icmp .eq 17, 3) := by decide +kernel
theorem dX7_isWide_46 : decode cX7_isWide 46 = .ok (.aload_n 0, 1) := by decide +kernel
theorem dX7_isWide_47 : decode cX7_isWide 47 = .ok (.iload_n 2, 1) := by decide +kernel
theorem dX7_isWide_48 : decode cX7_isWide 48 = .ok (.iload_n 3, 1) := by decide +kernel
theorem dX7_isWide_49 : decode cX7_isWide 49 = .ok (.iload 4, 2) := by decide +kernel
theorem dX7_isWide_51 : decode cX7_isWide 51 = .ok (.iload_n 1, 1) := by decide +kernel
theorem dX7_isWide_52 : decode cX7_isWide 52 = .ok (.invokevirtual 166, 3) := by decide +kernel
theorem dX7_isWide_55 : decode cX7_isWide 55 = .ok (.ifCond .eq 5, 3) := by decide +kernel
theorem dX7_isWide_58 : decode cX7_isWide 58 = .ok (.iconst 0, 1) := by decide +kernel
theorem dX7_isWide_59 : decode cX7_isWide 59 = .ok (.ireturn, 1) := by decide +kernel
theorem dX7_isWide_60 : decode cX7_isWide 60 = .ok (.iinc 4 1, 3) := by decide +kernel
theorem dX7_isWide_63 : decode cX7_isWide 63 = .ok (.goto (-43), 3) := by decide +kernel
theorem dX7_isWide_66 : decode cX7_isWide 66 = .ok (.iinc 3 1, 3) := by decide +kernel
theorem dX7_isWide_69 : decode cX7_isWide 69 = .ok (.goto (-57), 3) := by decide +kernel
theorem dX7_isWide_72 : decode cX7_isWide 72 = .ok (.iinc 2 1, 3) := by decide +kernel
theorem dX7_isWide_75 : decode cX7_isWide 75 = .ok (.goto (-73), 3) := by decide +kernel
theorem dX7_isWide_78 : decode cX7_isWide 78 = .ok (.iconst 1, 1) := by decide +kernel
theorem dX7_isWide_79 : decode cX7_isWide 79 = .ok (.ireturn, 1) := by decide +kernel
theorem dX7_window_0 : decode cX7_window 0 = .ok (.aload_n 0, 1) := by decide +kernel
theorem dX7_window_1 : decode cX7_window 1 = .ok (.getfield 92, 3) := by decide +kernel
theorem dX7_window_4 : decode cX7_window 4 = .ok (.ifCond .ne 6, 3) := by decide +kernel
theorem dX7_window_7 : decode cX7_window 7 = .ok (.bipush (-9), 2) := by decide +kernel
theorem dX7_window_9 : decode cX7_window 9 = .ok (.ireturn, 1) := by decide +kernel
theorem dX7_window_10 : decode cX7_window 10 = .ok (.aload_n 0, 1) := by decide +kernel
theorem dX7_window_11 : decode cX7_window 11 = .ok (.invokevirtual 170, 3) := by decide +kernel
theorem dX7_window_14 : decode cX7_window 14 = .ok (.iconst 0, 1) := by decide +kernel
theorem dX7_window_15 : decode cX7_window 15 = .ok (.istore_n 1, 1) := by decide +kernel
theorem dX7_window_16 : decode cX7_window 16 = .ok (.iload_n 1, 1) := by decide +kernel
theorem dX7_window_17 : decode cX7_window 17 = .ok (.iconst 4, 1) := by decide +kernel
theorem dX7_window_18 : decode cX7_window 18 = .ok (.if_icmp .ge 19, 3) := by decide +kernel
theorem dX7_window_21 : decode cX7_window 21 = .ok (.aload_n 0, 1) := by decide +kernel
theorem dX7_window_22 : decode cX7_window 22 = .ok (.iload_n 1, 1) := by decide +kernel
theorem dX7_window_23 : decode cX7_window 23 = .ok (.invokevirtual 173, 3) := by decide +kernel
theorem dX7_window_26 : decode cX7_window 26 = .ok (.ifCond .eq 5, 3) := by decide +kernel
theorem dX7_window_29 : decode cX7_window 29 = .ok (.iload_n 1, 1) := by decide +kernel
theorem dX7_window_30 : decode cX7_window 30 = .ok (.ireturn, 1) := by decide +kernel
theorem dX7_window_31 : decode cX7_window 31 = .ok (.iinc 1 1, 3) := by decide +kernel
theorem dX7_window_34 : decode cX7_window 34 = .ok (.goto (-18), 3) := by decide +kernel
theorem dX7_window_37 : decode cX7_window 37 = .ok (.bipush (-9), 2) := by decide +kernel
theorem dX7_window_39 : decode cX7_window 39 = .ok (.ireturn, 1) := by decide +kernel
theorem dX7_byStates_0 : decode cX7_byStates 0 = .ok (.aload_n 0, 1) := by decide +kernel
theorem dX7_byStates_1 : decode cX7_byStates 1 = .ok (.getfield 59, 3) := by decide +kernel
theorem dX7_byStates_4 : decode cX7_byStates 4 = .ok (.istore_n 2, 1) := by decide +kernel
theorem dX7_byStates_5 : decode cX7_byStates 5 = .ok (.bipush (-9), 2) := by decide +kernel
theorem dX7_byStates_7 : decode cX7_byStates 7 = .ok (.istore_n 3, 1) := by decide +kernel
theorem dX7_byStates_8 : decode cX7_byStates 8 = .ok (.iconst 0, 1) := by decide +kernel
theorem dX7_byStates_9 : decode cX7_byStates 9 = .ok (.istore 4, 2) := by decide +kernel
theorem dX7_byStates_11 : decode cX7_byStates 11 = .ok (.iload 4, 2) := by decide +kernel
theorem dX7_byStates_13 : decode cX7_byStates 13 = .ok (.iload_n 1, 1) := by decide +kernel
theorem dX7_byStates_14 : decode cX7_byStates 14 = .ok (.if_icmp .gt 62, 3) := by decide +kernel
theorem dX7_byStates_17 : decode cX7_byStates 17 = .ok (.iload_n 2, 1) := by decide +kernel
theorem dX7_byStates_18 : decode cX7_byStates 18 = .ok (.bipush (-9), 2) := by decide +kernel
theorem dX7_byStates_20 : decode cX7_byStates 20 = .ok (.if_icmp .ne 8, 3) := by decide +kernel
theorem dX7_byStates_23 : decode cX7_byStates 23 = .ok (.bipush (-9), 2) := by decide +kernel
theorem dX7_byStates_25 : decode cX7_byStates 25 = .ok (.goto 18, 3) := by decide +kernel
theorem dX7_byStates_28 : decode cX7_byStates 28 = .ok (.aload_n 0, 1) := by decide +kernel
theorem dX7_byStates_29 : decode cX7_byStates 29 = .ok (.iload_n 2, 1) := by decide +kernel
theorem dX7_byStates_30 : decode cX7_byStates 30 = .ok (.aload_n 0, 1) := by decide +kernel
theorem dX7_byStates_31 : decode cX7_byStates 31 = .ok (.getfield 7, 3) := by decide +kernel
theorem dX7_byStates_34 : decode cX7_byStates 34 = .ok (.bipush 31, 2) := by decide +kernel
theorem dX7_byStates_36 : decode cX7_byStates 36 = .ok (.iload 4, 2) := by decide +kernel
theorem dX7_byStates_38 : decode cX7_byStates 38 = .ok (.iadd, 1) := by decide +kernel
theorem dX7_byStates_39 : decode cX7_byStates 39 = .ok (.iaload, 1) := by decide +kernel
theorem dX7_byStates_40 : decode cX7_byStates 40 = .ok (.invokevirtual 149, 3) := by decide +kernel
theorem dX7_byStates_43 : decode cX7_byStates 43 = .ok (.istore_n 3, 1) := by decide +kernel
theorem dX7_byStates_44 : decode cX7_byStates 44 = .ok (.iload_n 3, 1) := by decide +kernel
theorem dX7_byStates_45 : decode cX7_byStates 45 = .ok (.bipush (-9), 2) := by decide +kernel
theorem dX7_byStates_47 : decode cX7_byStates 47 = .ok (.if_icmp .ne 7, 3) := by decide +kernel
theorem dX7_byStates_50 : decode cX7_byStates 50 = .ok (.iload_n 2, 1) := by decide +kernel
theorem dX7_byStates_51 : decode cX7_byStates 51 = .ok (.goto 18, 3) := by decide +kernel
theorem dX7_byStates_54 : decode cX7_byStates 54 = .ok (.aload_n 0, 1) := by decide +kernel
theorem dX7_byStates_55 : decode cX7_byStates 55 = .ok (.iload_n 2, 1) := by decide +kernel
theorem dX7_byStates_56 : decode cX7_byStates 56 = .ok (.aload_n 0, 1) := by decide +kernel
theorem dX7_byStates_57 : decode cX7_byStates 57 = .ok (.getfield 7, 3) := by decide +kernel
theorem dX7_byStates_60 : decode cX7_byStates 60 = .ok (.bipush 31, 2) := by decide +kernel
theorem dX7_byStates_62 : decode cX7_byStates 62 = .ok (.iload 4, 2) := by decide +kernel
theorem dX7_byStates_64 : decode cX7_byStates 64 = .ok (.iadd, 1) := by decide +kernel
theorem dX7_byStates_65 : decode cX7_byStates 65 = .ok (.iaload, 1) := by decide +kernel
theorem dX7_byStates_66 : decode cX7_byStates 66 = .ok (.invokevirtual 89, 3) := by decide +kernel
theorem dX7_byStates_69 : decode cX7_byStates 69 = .ok (.istore_n 2, 1) := by decide +kernel
theorem dX7_byStates_70 : decode cX7_byStates 70 = .ok (.iinc 4 1, 3) := by decide +kernel
theorem dX7_byStates_73 : decode cX7_byStates 73 = .ok (.goto (-62), 3) := by decide +kernel
theorem dX7_byStates_76 : decode cX7_byStates 76 = .ok (.iload_n 3, 1) := by decide +kernel
theorem dX7_byStates_77 : decode cX7_byStates 77 = .ok (.ireturn, 1) := by decide +kernel
theorem dX7_byWindow_0 : decode cX7_byWindow 0 = .ok (.aload_n 0, 1) := by decide +kernel
theorem dX7_byWindow_1 : decode cX7_byWindow 1 = .ok (.invokevirtual 176, 3) := by decide +kernel
theorem dX7_byWindow_4 : decode cX7_byWindow 4 = .ok (.istore_n 2, 1) := by decide +kernel
theorem dX7_byWindow_5 : decode cX7_byWindow 5 = .ok (.iload_n 2, 1) := by decide +kernel
theorem dX7_byWindow_6 : decode cX7_byWindow 6 = .ok (.bipush (-9), 2) := by decide +kernel
theorem dX7_byWindow_8 : decode cX7_byWindow 8 = .ok (.if_icmp .eq 15, 3) := by decide +kernel
theorem dX7_byWindow_11 : decode cX7_byWindow 11 = .ok (.iload_n 1, 1) := by decide +kernel
theorem dX7_byWindow_12 : decode cX7_byWindow 12 = .ok (.iload_n 2, 1) := by decide +kernel
theorem dX7_byWindow_13 : decode cX7_byWindow 13 = .ok (.iadd, 1) := by decide +kernel
theorem dX7_byWindow_14 : decode cX7_byWindow 14 = .ok (.aload_n 0, 1) := by decide +kernel
theorem dX7_byWindow_15 : decode cX7_byWindow 15 = .ok (.getfield 7, 3) := by decide +kernel
theorem dX7_byWindow_18 : decode cX7_byWindow 18 = .ok (.iconst 5, 1) := by decide +kernel
theorem dX7_byWindow_19 : decode cX7_byWindow 19 = .ok (.iaload, 1) := by decide +kernel
theorem dX7_byWindow_20 : decode cX7_byWindow 20 = .ok (.if_icmp .lt 6, 3) := by decide +kernel
theorem dX7_byWindow_23 : decode cX7_byWindow 23 = .ok (.bipush (-9), 2) := by decide +kernel
theorem dX7_byWindow_25 : decode cX7_byWindow 25 = .ok (.ireturn, 1) := by decide +kernel
theorem dX7_byWindow_26 : decode cX7_byWindow 26 = .ok (.bipush (-9), 2) := by decide +kernel
theorem dX7_byWindow_28 : decode cX7_byWindow 28 = .ok (.istore_n 3, 1) := by decide +kernel
theorem dX7_byWindow_29 : decode cX7_byWindow 29 = .ok (.iconst 0, 1) := by decide +kernel
theorem dX7_byWindow_30 : decode cX7_byWindow 30 = .ok (.istore 4, 2) := by decide +kernel
theorem dX7_byWindow_32 : decode cX7_byWindow 32 = .ok (.iload 4, 2) := by decide +kernel
theorem dX7_byWindow_34 : decode cX7_byWindow 34 = .ok (.aload_n 0, 1) := by decide +kernel
theorem dX7_byWindow_35 : decode cX7_byWindow 35 = .ok (.invokevirtual 82, 3) := by decide +kernel
theorem dX7_byWindow_38 : decode cX7_byWindow 38 = .ok (.if_icmp .ge 108, 3) := by decide +kernel
theorem dX7_byWindow_41 : decode cX7_byWindow 41 = .ok (.iload 4, 2) := by decide +kernel
theorem dX7_byWindow_43 : decode cX7_byWindow 43 = .ok (.istore 5, 2) := by decide +kernel
theorem dX7_byWindow_45 : decode cX7_byWindow 45 = .ok (.iload_n 1, 1) := by decide +kernel
theorem dX7_byWindow_46 : decode cX7_byWindow 46 = .ok (.istore 6, 2) := by decide +kernel
theorem dX7_byWindow_48 : decode cX7_byWindow 48 = .ok (.iload 6, 2) := by decide +kernel
theorem dX7_byWindow_50 : decode cX7_byWindow 50 = .ok (.iload_n 1, 1) := by decide +kernel
theorem dX7_byWindow_51 : decode cX7_byWindow 51 = .ok (.iload_n 2, 1) := by decide +kernel
theorem dX7_byWindow_52 : decode cX7_byWindow 52 = .ok (.iadd, 1) := by decide +kernel
theorem dX7_byWindow_53 : decode cX7_byWindow 53 = .ok (.if_icmp .gt 60, 3) := by decide +kernel
theorem dX7_byWindow_56 : decode cX7_byWindow 56 = .ok (.iload 5, 2) := by decide +kernel
theorem dX7_byWindow_58 : decode cX7_byWindow 58 = .ok (.bipush (-9), 2) := by decide +kernel
theorem dX7_byWindow_60 : decode cX7_byWindow 60 = .ok (.if_icmp .eq 53, 3) := by decide +kernel
theorem dX7_byWindow_63 : decode cX7_byWindow 63 = .ok (.aload_n 0, 1) := by decide +kernel
theorem dX7_byWindow_64 : decode cX7_byWindow 64 = .ok (.iload 5, 2) := by decide +kernel
theorem dX7_byWindow_66 : decode cX7_byWindow 66 = .ok (.aload_n 0, 1) := by decide +kernel
theorem dX7_byWindow_67 : decode cX7_byWindow 67 = .ok (.getfield 7, 3) := by decide +kernel
theorem dX7_byWindow_70 : decode cX7_byWindow 70 = .ok (.bipush 31, 2) := by decide +kernel
theorem dX7_byWindow_72 : decode cX7_byWindow 72 = .ok (.iload 6, 2) := by decide +kernel
theorem dX7_byWindow_74 : decode cX7_byWindow 74 = .ok (.iadd, 1) := by decide +kernel
theorem dX7_byWindow_75 : decode cX7_byWindow 75 = .ok (.iaload, 1) := by decide +kernel
theorem dX7_byWindow_76 : decode cX7_byWindow 76 = .ok (.invokevirtual 149, 3) := by decide +kernel
theorem dX7_byWindow_79 : decode cX7_byWindow 79 = .ok (.bipush (-9), 2) := by decide +kernel
theorem dX7_byWindow_81 : decode cX7_byWindow 81 = .ok (.if_icmp .ne 8, 3) := by decide +kernel
theorem dX7_byWindow_84 : decode cX7_byWindow 84 = .ok (.bipush (-9), 2) := by decide +kernel
theorem dX7_byWindow_86 : decode cX7_byWindow 86 = .ok (.goto 19, 3) := by decide +kernel
theorem dX7_byWindow_89 : decode cX7_byWindow 89 = .ok (.aload_n 0, 1) := by decide +kernel
theorem dX7_byWindow_90 : decode cX7_byWindow 90 = .ok (.iload 5, 2) := by decide +kernel
theorem dX7_byWindow_92 : decode cX7_byWindow 92 = .ok (.aload_n 0, 1) := by decide +kernel
theorem dX7_byWindow_93 : decode cX7_byWindow 93 = .ok (.getfield 7, 3) := by decide +kernel
theorem dX7_byWindow_96 : decode cX7_byWindow 96 = .ok (.bipush 31, 2) := by decide +kernel
theorem dX7_byWindow_98 : decode cX7_byWindow 98 = .ok (.iload 6, 2) := by decide +kernel
theorem dX7_byWindow_100 : decode cX7_byWindow 100 = .ok (.iadd, 1) := by decide +kernel
theorem dX7_byWindow_101 : decode cX7_byWindow 101 = .ok (.iaload, 1) := by decide +kernel
theorem dX7_byWindow_102 : decode cX7_byWindow 102 = .ok (.invokevirtual 89, 3) := by decide +kernel
theorem dX7_byWindow_105 : decode cX7_byWindow 105 = .ok (.istore 5, 2) := by decide +kernel
theorem dX7_byWindow_107 : decode cX7_byWindow 107 = .ok (.iinc 6 1, 3) := by decide +kernel
theorem dX7_byWindow_110 : decode cX7_byWindow 110 = .ok (.goto (-62), 3) := by decide +kernel
theorem dX7_byWindow_113 : decode cX7_byWindow 113 = .ok (.iload 5, 2) := by decide +kernel
theorem dX7_byWindow_115 : decode cX7_byWindow 115 = .ok (.bipush (-9), 2) := by decide +kernel
theorem dX7_byWindow_117 : decode cX7_byWindow 117 = .ok (.if_icmp .ne 7, 3) := by decide +kernel
theorem dX7_byWindow_120 : decode cX7_byWindow 120 = .ok (.iload_n 3, 1) := by decide +kernel
theorem dX7_byWindow_121 : decode cX7_byWindow 121 = .ok (.goto 18, 3) := by decide +kernel
theorem dX7_byWindow_124 : decode cX7_byWindow 124 = .ok (.aload_n 0, 1) := by decide +kernel
theorem dX7_byWindow_125 : decode cX7_byWindow 125 = .ok (.iload 4, 2) := by decide +kernel
theorem dX7_byWindow_127 : decode cX7_byWindow 127 = .ok (.aload_n 0, 1) := by decide +kernel
theorem dX7_byWindow_128 : decode cX7_byWindow 128 = .ok (.getfield 7, 3) := by decide +kernel
theorem dX7_byWindow_131 : decode cX7_byWindow 131 = .ok (.bipush 31, 2) := by decide +kernel
theorem dX7_byWindow_133 : decode cX7_byWindow 133 = .ok (.iload_n 1, 1) := by decide +kernel
theorem dX7_byWindow_134 : decode cX7_byWindow 134 = .ok (.iadd, 1) := by decide +kernel
theorem dX7_byWindow_135 : decode cX7_byWindow 135 = .ok (.iaload, 1) := by decide +kernel
theorem dX7_byWindow_136 : decode cX7_byWindow 136 = .ok (.invokevirtual 149, 3) := by decide +kernel
theorem dX7_byWindow_139 : decode cX7_byWindow 139 = .ok (.istore_n 3, 1) := by decide +kernel
theorem dX7_byWindow_140 : decode cX7_byWindow 140 = .ok (.iinc 4 1, 3) := by decide +kernel
theorem dX7_byWindow_143 : decode cX7_byWindow 143 = .ok (.goto (-111), 3) := by decide +kernel
theorem dX7_byWindow_146 : decode cX7_byWindow 146 = .ok (.iload_n 3, 1) := by decide +kernel
theorem dX7_byWindow_147 : decode cX7_byWindow 147 = .ok (.ireturn, 1) := by decide +kernel
theorem dX7_word_0 : decode cX7_word 0 = .ok (.iload_n 1, 1) := by decide +kernel
theorem dX7_word_1 : decode cX7_word 1 = .ok (.i2l, 1) := by decide +kernel
theorem dX7_word_2 : decode cX7_word 2 = .ok (.lconst 0, 1) := by decide +kernel
theorem dX7_word_3 : decode cX7_word 3 = .ok (.aload_n 0, 1) := by decide +kernel
theorem dX7_word_4 : decode cX7_word 4 = .ok (.getfield 7, 3) := by decide +kernel
theorem dX7_word_7 : decode cX7_word 7 = .ok (.iconst 5, 1) := by decide +kernel
theorem dX7_word_8 : decode cX7_word 8 = .ok (.iaload, 1) := by decide +kernel
theorem dX7_word_9 : decode cX7_word 9 = .ok (.iconst 1, 1) := by decide +kernel
theorem dX7_word_10 : decode cX7_word 10 = .ok (.isub, 1) := by decide +kernel
theorem dX7_word_11 : decode cX7_word 11 = .ok (.i2l, 1) := by decide +kernel
theorem dX7_word_12 : decode cX7_word 12 = .ok (.invokestatic 70, 3) := by decide +kernel
theorem dX7_word_15 : decode cX7_word 15 = .ok (.ifCond .eq 15, 3) := by decide +kernel
theorem dX7_word_18 : decode cX7_word 18 = .ok (.iload_n 2, 1) := by decide +kernel
theorem dX7_word_19 : decode cX7_word 19 = .ok (.i2l, 1) := by decide +kernel
theorem dX7_word_20 : decode cX7_word 20 = .ok (.lconst 0, 1) := by decide +kernel
theorem dX7_word_21 : decode cX7_word 21 = .ok (.ldc2_w 179, 3) := by decide +kernel
theorem dX7_word_24 : decode cX7_word 24 = .ok (.invokestatic 70, 3) := by decide +kernel
theorem dX7_word_27 : decode cX7_word 27 = .ok (.ifCond .ne 5, 3) := by decide +kernel
theorem dX7_word_30 : decode cX7_word 30 = .ok (.iconst (-1), 1) := by decide +kernel
theorem dX7_word_31 : decode cX7_word 31 = .ok (.ireturn, 1) := by decide +kernel
theorem dX7_word_32 : decode cX7_word 32 = .ok (.aload_n 0, 1) := by decide +kernel
theorem dX7_word_33 : decode cX7_word 33 = .ok (.invokevirtual 56, 3) := by decide +kernel
theorem dX7_word_36 : decode cX7_word 36 = .ok (.iload_n 2, 1) := by decide +kernel
theorem dX7_word_37 : decode cX7_word 37 = .ok (.ifCond .ne 15, 3) := by decide +kernel
theorem dX7_word_40 : decode cX7_word 40 = .ok (.aload_n 0, 1) := by decide +kernel
theorem dX7_word_41 : decode cX7_word 41 = .ok (.getfield 7, 3) := by decide +kernel
theorem dX7_word_44 : decode cX7_word 44 = .ok (.bipush 31, 2) := by decide +kernel
theorem dX7_word_46 : decode cX7_word 46 = .ok (.iload_n 1, 1) := by decide +kernel
theorem dX7_word_47 : decode cX7_word 47 = .ok (.iadd, 1) := by decide +kernel
theorem dX7_word_48 : decode cX7_word 48 = .ok (.iaload, 1) := by decide +kernel
theorem dX7_word_49 : decode cX7_word 49 = .ok (.goto 38, 3) := by decide +kernel
theorem dX7_word_52 : decode cX7_word 52 = .ok (.iload_n 2, 1) := by decide +kernel
theorem dX7_word_53 : decode cX7_word 53 = .ok (.iconst 1, 1) := by decide +kernel
theorem dX7_word_54 : decode cX7_word 54 = .ok (.if_icmp .ne 15, 3) := by decide +kernel
theorem dX7_word_57 : decode cX7_word 57 = .ok (.aload_n 0, 1) := by decide +kernel
theorem dX7_word_58 : decode cX7_word 58 = .ok (.getfield 7, 3) := by decide +kernel
theorem dX7_word_61 : decode cX7_word 61 = .ok (.bipush 55, 2) := by decide +kernel
theorem dX7_word_63 : decode cX7_word 63 = .ok (.iload_n 1, 1) := by decide +kernel
theorem dX7_word_64 : decode cX7_word 64 = .ok (.iadd, 1) := by decide +kernel
theorem dX7_word_65 : decode cX7_word 65 = .ok (.iaload, 1) := by decide +kernel
theorem dX7_word_66 : decode cX7_word 66 = .ok (.goto 21, 3) := by decide +kernel
theorem dX7_word_69 : decode cX7_word 69 = .ok (.iload_n 2, 1) := by decide +kernel
theorem dX7_word_70 : decode cX7_word 70 = .ok (.iconst 2, 1) := by decide +kernel
theorem dX7_word_71 : decode cX7_word 71 = .ok (.if_icmp .ne 11, 3) := by decide +kernel
theorem dX7_word_74 : decode cX7_word 74 = .ok (.aload_n 0, 1) := by decide +kernel
theorem dX7_word_75 : decode cX7_word 75 = .ok (.iload_n 1, 1) := by decide +kernel
theorem dX7_word_76 : decode cX7_word 76 = .ok (.invokevirtual 181, 3) := by decide +kernel
theorem dX7_word_79 : decode cX7_word 79 = .ok (.goto 8, 3) := by decide +kernel
theorem dX7_word_82 : decode cX7_word 82 = .ok (.aload_n 0, 1) := by decide +kernel
theorem dX7_word_83 : decode cX7_word 83 = .ok (.iload_n 1, 1) := by decide +kernel
theorem dX7_word_84 : decode cX7_word 84 = .ok (.invokevirtual 184, 3) := by decide +kernel
theorem dX7_word_87 : decode cX7_word 87 = .ok (.ireturn, 1) := by decide +kernel
theorem dX7_wrong_0 : decode cX7_wrong 0 = .ok (.iload_n 1, 1) := by decide +kernel
theorem dX7_wrong_1 : decode cX7_wrong 1 = .ok (.i2l, 1) := by decide +kernel
theorem dX7_wrong_2 : decode cX7_wrong 2 = .ok (.lconst 0, 1) := by decide +kernel
theorem dX7_wrong_3 : decode cX7_wrong 3 = .ok (.lconst 1, 1) := by decide +kernel
theorem dX7_wrong_4 : decode cX7_wrong 4 = .ok (.invokestatic 70, 3) := by decide +kernel
theorem dX7_wrong_7 : decode cX7_wrong 7 = .ok (.ifCond .ne 5, 3) := by decide +kernel
theorem dX7_wrong_10 : decode cX7_wrong 10 = .ok (.iconst (-1), 1) := by decide +kernel
theorem dX7_wrong_11 : decode cX7_wrong 11 = .ok (.ireturn, 1) := by decide +kernel
theorem dX7_wrong_12 : decode cX7_wrong 12 = .ok (.aload_n 0, 1) := by decide +kernel
theorem dX7_wrong_13 : decode cX7_wrong 13 = .ok (.invokevirtual 56, 3) := by decide +kernel
theorem dX7_wrong_16 : decode cX7_wrong 16 = .ok (.iconst 0, 1) := by decide +kernel
theorem dX7_wrong_17 : decode cX7_wrong 17 = .ok (.istore_n 2, 1) := by decide +kernel
theorem dX7_wrong_18 : decode cX7_wrong 18 = .ok (.iconst 0, 1) := by decide +kernel
theorem dX7_wrong_19 : decode cX7_wrong 19 = .ok (.istore_n 3, 1) := by decide +kernel
theorem dX7_wrong_20 : decode cX7_wrong 20 = .ok (.iload_n 3, 1) := by decide +kernel
theorem dX7_wrong_21 : decode cX7_wrong 21 = .ok (.aload_n 0, 1) := by decide +kernel
theorem dX7_wrong_22 : decode cX7_wrong 22 = .ok (.getfield 7, 3) := by decide +kernel
theorem dX7_wrong_25 : decode cX7_wrong 25 = .ok (.iconst 5, 1) := by decide +kernel
theorem dX7_wrong_26 : decode cX7_wrong 26 = .ok (.iaload, 1) := by decide +kernel
theorem dX7_wrong_27 : decode cX7_wrong 27 = .ok (.if_icmp .ge 46, 3) := by decide +kernel
theorem dX7_wrong_30 : decode cX7_wrong 30 = .ok (.iload_n 2, 1) := by decide +kernel
theorem dX7_wrong_31 : decode cX7_wrong 31 = .ok (.iload_n 1, 1) := by decide +kernel
theorem dX7_wrong_32 : decode cX7_wrong 32 = .ok (.ifCond .ne 11, 3) := by decide +kernel
theorem dX7_wrong_35 : decode cX7_wrong 35 = .ok (.aload_n 0, 1) := by decide +kernel
theorem dX7_wrong_36 : decode cX7_wrong 36 = .ok (.iload_n 3, 1) := by decide +kernel
theorem dX7_wrong_37 : decode cX7_wrong 37 = .ok (.invokevirtual 181, 3) := by decide +kernel
theorem dX7_wrong_40 : decode cX7_wrong 40 = .ok (.goto 8, 3) := by decide +kernel
theorem dX7_wrong_43 : decode cX7_wrong 43 = .ok (.aload_n 0, 1) := by decide +kernel
theorem dX7_wrong_44 : decode cX7_wrong 44 = .ok (.iload_n 3, 1) := by decide +kernel
theorem dX7_wrong_45 : decode cX7_wrong 45 = .ok (.invokevirtual 184, 3) := by decide +kernel
theorem dX7_wrong_48 : decode cX7_wrong 48 = .ok (.aload_n 0, 1) := by decide +kernel
theorem dX7_wrong_49 : decode cX7_wrong 49 = .ok (.getfield 7, 3) := by decide +kernel
theorem dX7_wrong_52 : decode cX7_wrong 52 = .ok (.bipush 55, 2) := by decide +kernel
theorem dX7_wrong_54 : decode cX7_wrong 54 = .ok (.iload_n 3, 1) := by decide +kernel
theorem dX7_wrong_55 : decode cX7_wrong 55 = .ok (.iadd, 1) := by decide +kernel
theorem dX7_wrong_56 : decode cX7_wrong 56 = .ok (.iaload, 1) := by decide +kernel
theorem dX7_wrong_57 : decode cX7_wrong 57 = .ok (.if_icmp .eq 7, 3) := by decide +kernel
theorem dX7_wrong_60 : decode cX7_wrong 60 = .ok (.iconst 1, 1) := by decide +kernel
theorem dX7_wrong_61 : decode cX7_wrong 61 = .ok (.goto 4, 3) := by decide +kernel
theorem dX7_wrong_64 : decode cX7_wrong 64 = .ok (.iconst 0, 1) := by decide +kernel
theorem dX7_wrong_65 : decode cX7_wrong 65 = .ok (.iadd, 1) := by decide +kernel
theorem dX7_wrong_66 : decode cX7_wrong 66 = .ok (.istore_n 2, 1) := by decide +kernel
theorem dX7_wrong_67 : decode cX7_wrong 67 = .ok (.iinc 3 1, 3) := by decide +kernel
theorem dX7_wrong_70 : decode cX7_wrong 70 = .ok (.goto (-50), 3) := by decide +kernel
theorem dX7_wrong_73 : decode cX7_wrong 73 = .ok (.iload_n 2, 1) := by decide +kernel
theorem dX7_wrong_74 : decode cX7_wrong 74 = .ok (.ireturn, 1) := by decide +kernel
theorem dX7_sees_0 : decode cX7_sees 0 = .ok (.iload_n 1, 1) := by decide +kernel
theorem dX7_sees_1 : decode cX7_sees 1 = .ok (.i2l, 1) := by decide +kernel
theorem dX7_sees_2 : decode cX7_sees 2 = .ok (.lconst 0, 1) := by decide +kernel
theorem dX7_sees_3 : decode cX7_sees 3 = .ok (.aload_n 0, 1) := by decide +kernel
theorem dX7_sees_4 : decode cX7_sees 4 = .ok (.invokevirtual 78, 3) := by decide +kernel
theorem dX7_sees_7 : decode cX7_sees 7 = .ok (.iconst 1, 1) := by decide +kernel
theorem dX7_sees_8 : decode cX7_sees 8 = .ok (.isub, 1) := by decide +kernel
theorem dX7_sees_9 : decode cX7_sees 9 = .ok (.i2l, 1) := by decide +kernel
theorem dX7_sees_10 : decode cX7_sees 10 = .ok (.invokestatic 70, 3) := by decide +kernel
theorem dX7_sees_13 : decode cX7_sees 13 = .ok (.ifCond .ne 5, 3) := by decide +kernel
theorem dX7_sees_16 : decode cX7_sees 16 = .ok (.iconst (-1), 1) := by decide +kernel
theorem dX7_sees_17 : decode cX7_sees 17 = .ok (.ireturn, 1) := by decide +kernel
theorem dX7_sees_18 : decode cX7_sees 18 = .ok (.aload_n 0, 1) := by decide +kernel
theorem dX7_sees_19 : decode cX7_sees 19 = .ok (.getfield 143, 3) := by decide +kernel
theorem dX7_sees_22 : decode cX7_sees 22 = .ok (.bipush 6, 2) := by decide +kernel
theorem dX7_sees_24 : decode cX7_sees 24 = .ok (.if_icmp .ne 6, 3) := by decide +kernel
theorem dX7_sees_27 : decode cX7_sees 27 = .ok (.bipush (-3), 2) := by decide +kernel
theorem dX7_sees_29 : decode cX7_sees 29 = .ok (.ireturn, 1) := by decide +kernel
theorem dX7_sees_30 : decode cX7_sees 30 = .ok (.aload_n 0, 1) := by decide +kernel
theorem dX7_sees_31 : decode cX7_sees 31 = .ok (.getfield 23, 3) := by decide +kernel
theorem dX7_sees_34 : decode cX7_sees 34 = .ok (.aload_n 0, 1) := by decide +kernel
theorem dX7_sees_35 : decode cX7_sees 35 = .ok (.getfield 143, 3) := by decide +kernel
theorem dX7_sees_38 : decode cX7_sees 38 = .ok (.iload_n 1, 1) := by decide +kernel
theorem dX7_sees_39 : decode cX7_sees 39 = .ok (.iastore, 1) := by decide +kernel
theorem dX7_sees_40 : decode cX7_sees 40 = .ok (.aload_n 0, 1) := by decide +kernel
theorem dX7_sees_41 : decode cX7_sees 41 = .ok (.dup, 1) := by decide +kernel
theorem dX7_sees_42 : decode cX7_sees 42 = .ok (.getfield 143, 3) := by decide +kernel
theorem dX7_sees_45 : decode cX7_sees 45 = .ok (.iconst 1, 1) := by decide +kernel
theorem dX7_sees_46 : decode cX7_sees 46 = .ok (.iadd, 1) := by decide +kernel
theorem dX7_sees_47 : decode cX7_sees 47 = .ok (.putfield 143, 3) := by decide +kernel
theorem dX7_sees_50 : decode cX7_sees 50 = .ok (.aload_n 0, 1) := by decide +kernel
theorem dX7_sees_51 : decode cX7_sees 51 = .ok (.getfield 143, 3) := by decide +kernel
theorem dX7_sees_54 : decode cX7_sees 54 = .ok (.ireturn, 1) := by decide +kernel
theorem dX7_forget_0 : decode cX7_forget 0 = .ok (.aload_n 0, 1) := by decide +kernel
theorem dX7_forget_1 : decode cX7_forget 1 = .ok (.getfield 143, 3) := by decide +kernel
theorem dX7_forget_4 : decode cX7_forget 4 = .ok (.istore_n 1, 1) := by decide +kernel
theorem dX7_forget_5 : decode cX7_forget 5 = .ok (.aload_n 0, 1) := by decide +kernel
theorem dX7_forget_6 : decode cX7_forget 6 = .ok (.iconst 0, 1) := by decide +kernel
theorem dX7_forget_7 : decode cX7_forget 7 = .ok (.putfield 143, 3) := by decide +kernel
theorem dX7_forget_10 : decode cX7_forget 10 = .ok (.iload_n 1, 1) := by decide +kernel
theorem dX7_forget_11 : decode cX7_forget 11 = .ok (.ireturn, 1) := by decide +kernel
theorem dX7_statesBySeen_0 : decode cX7_statesBySeen 0 = .ok (.iconst 0, 1) := by decide +kernel
theorem dX7_statesBySeen_1 : decode cX7_statesBySeen 1 = .ok (.istore_n 2, 1) := by decide +kernel
theorem dX7_statesBySeen_2 : decode cX7_statesBySeen 2 = .ok (.iconst 0, 1) := by decide +kernel
theorem dX7_statesBySeen_3 : decode cX7_statesBySeen 3 = .ok (.istore_n 3, 1) := by decide +kernel
theorem dX7_statesBySeen_4 : decode cX7_statesBySeen 4 = .ok (.iload_n 3, 1) := by decide +kernel
theorem dX7_statesBySeen_5 : decode cX7_statesBySeen 5 = .ok (.aload_n 0, 1) := by decide +kernel
theorem dX7_statesBySeen_6 : decode cX7_statesBySeen 6 = .ok (.invokevirtual 82, 3) := by decide +kernel
theorem dX7_statesBySeen_9 : decode cX7_statesBySeen 9 = .ok (.if_icmp .ge 118, 3) := by decide +kernel
theorem dX7_statesBySeen_12 : decode cX7_statesBySeen 12 = .ok (.aload_n 0, 1) := by decide +kernel
theorem dX7_statesBySeen_13 : decode cX7_statesBySeen 13 = .ok (.getfield 92, 3) := by decide +kernel
theorem dX7_statesBySeen_16 : decode cX7_statesBySeen 16 = .ok (.iload_n 3, 1) := by decide +kernel
theorem dX7_statesBySeen_17 : decode cX7_statesBySeen 17 = .ok (.ishr, 1) := by decide +kernel
theorem dX7_statesBySeen_18 : decode cX7_statesBySeen 18 = .ok (.iconst 1, 1) := by decide +kernel
theorem dX7_statesBySeen_19 : decode cX7_statesBySeen 19 = .ok (.iand, 1) := by decide +kernel
theorem dX7_statesBySeen_20 : decode cX7_statesBySeen 20 = .ok (.iconst 1, 1) := by decide +kernel
theorem dX7_statesBySeen_21 : decode cX7_statesBySeen 21 = .ok (.if_icmp .ne 7, 3) := by decide +kernel
theorem dX7_statesBySeen_24 : decode cX7_statesBySeen 24 = .ok (.iload_n 3, 1) := by decide +kernel
theorem dX7_statesBySeen_25 : decode cX7_statesBySeen 25 = .ok (.goto 5, 3) := by decide +kernel
theorem dX7_statesBySeen_28 : decode cX7_statesBySeen 28 = .ok (.bipush (-9), 2) := by decide +kernel
theorem dX7_statesBySeen_30 : decode cX7_statesBySeen 30 = .ok (.istore 4, 2) := by decide +kernel
theorem dX7_statesBySeen_32 : decode cX7_statesBySeen 32 = .ok (.iconst 0, 1) := by decide +kernel
theorem dX7_statesBySeen_33 : decode cX7_statesBySeen 33 = .ok (.istore 5, 2) := by decide +kernel
theorem dX7_statesBySeen_35 : decode cX7_statesBySeen 35 = .ok (.iload 5, 2) := by decide +kernel
theorem dX7_statesBySeen_37 : decode cX7_statesBySeen 37 = .ok (.aload_n 0, 1) := by decide +kernel
theorem dX7_statesBySeen_38 : decode cX7_statesBySeen 38 = .ok (.getfield 143, 3) := by decide +kernel
theorem dX7_statesBySeen_41 : decode cX7_statesBySeen 41 = .ok (.if_icmp .ge 54, 3) := by decide +kernel
theorem dX7_statesBySeen_44 : decode cX7_statesBySeen 44 = .ok (.iload 4, 2) := by decide +kernel
theorem dX7_statesBySeen_46 : decode cX7_statesBySeen 46 = .ok (.bipush (-9), 2) := by decide +kernel
theorem dX7_statesBySeen_48 : decode cX7_statesBySeen 48 = .ok (.if_icmp .eq 47, 3) := by decide +kernel
theorem dX7_statesBySeen_51 : decode cX7_statesBySeen 51 = .ok (.aload_n 0, 1) := by decide +kernel
theorem dX7_statesBySeen_52 : decode cX7_statesBySeen 52 = .ok (.iload 4, 2) := by decide +kernel
theorem dX7_statesBySeen_54 : decode cX7_statesBySeen 54 = .ok (.aload_n 0, 1) := by decide +kernel
theorem dX7_statesBySeen_55 : decode cX7_statesBySeen 55 = .ok (.getfield 23, 3) := by decide +kernel
theorem dX7_statesBySeen_58 : decode cX7_statesBySeen 58 = .ok (.iload 5, 2) := by decide +kernel
theorem dX7_statesBySeen_60 : decode cX7_statesBySeen 60 = .ok (.iaload, 1) := by decide +kernel
theorem dX7_statesBySeen_61 : decode cX7_statesBySeen 61 = .ok (.invokevirtual 149, 3) := by decide +kernel
theorem dX7_statesBySeen_64 : decode cX7_statesBySeen 64 = .ok (.bipush (-9), 2) := by decide +kernel
theorem dX7_statesBySeen_66 : decode cX7_statesBySeen 66 = .ok (.if_icmp .ne 8, 3) := by decide +kernel
theorem dX7_statesBySeen_69 : decode cX7_statesBySeen 69 = .ok (.bipush (-9), 2) := by decide +kernel
theorem dX7_statesBySeen_71 : decode cX7_statesBySeen 71 = .ok (.goto 16, 3) := by decide +kernel
theorem dX7_statesBySeen_74 : decode cX7_statesBySeen 74 = .ok (.aload_n 0, 1) := by decide +kernel
theorem dX7_statesBySeen_75 : decode cX7_statesBySeen 75 = .ok (.iload 4, 2) := by decide +kernel
theorem dX7_statesBySeen_77 : decode cX7_statesBySeen 77 = .ok (.aload_n 0, 1) := by decide +kernel
theorem dX7_statesBySeen_78 : decode cX7_statesBySeen 78 = .ok (.getfield 23, 3) := by decide +kernel
theorem dX7_statesBySeen_81 : decode cX7_statesBySeen 81 = .ok (.iload 5, 2) := by decide +kernel
theorem dX7_statesBySeen_83 : decode cX7_statesBySeen 83 = .ok (.iaload, 1) := by decide +kernel
theorem dX7_statesBySeen_84 : decode cX7_statesBySeen 84 = .ok (.invokevirtual 89, 3) := by decide +kernel
theorem dX7_statesBySeen_87 : decode cX7_statesBySeen 87 = .ok (.istore 4, 2) := by decide +kernel
theorem dX7_statesBySeen_89 : decode cX7_statesBySeen 89 = .ok (.iinc 5 1, 3) := by decide +kernel
theorem dX7_statesBySeen_92 : decode cX7_statesBySeen 92 = .ok (.goto (-57), 3) := by decide +kernel
theorem dX7_statesBySeen_95 : decode cX7_statesBySeen 95 = .ok (.iload_n 2, 1) := by decide +kernel
theorem dX7_statesBySeen_96 : decode cX7_statesBySeen 96 = .ok (.iload 4, 2) := by decide +kernel
theorem dX7_statesBySeen_98 : decode cX7_statesBySeen 98 = .ok (.bipush (-9), 2) := by decide +kernel
theorem dX7_statesBySeen_100 : decode cX7_statesBySeen 100 = .ok (.if_icmp .ne 7, 3) := by decide +kernel
theorem dX7_statesBySeen_103 : decode cX7_statesBySeen 103 = .ok (.iconst 0, 1) := by decide +kernel
theorem dX7_statesBySeen_104 : decode cX7_statesBySeen 104 = .ok (.goto 15, 3) := by decide +kernel
theorem dX7_statesBySeen_107 : decode cX7_statesBySeen 107 = .ok (.iconst 1, 1) := by decide +kernel
theorem dX7_statesBySeen_108 : decode cX7_statesBySeen 108 = .ok (.iload_n 1, 1) := by decide +kernel
theorem dX7_statesBySeen_109 : decode cX7_statesBySeen 109 = .ok (.ifCond .eq 8, 3) := by decide +kernel
theorem dX7_statesBySeen_112 : decode cX7_statesBySeen 112 = .ok (.iload 4, 2) := by decide +kernel
theorem dX7_statesBySeen_114 : decode cX7_statesBySeen 114 = .ok (.goto 4, 3) := by decide +kernel
theorem dX7_statesBySeen_117 : decode cX7_statesBySeen 117 = .ok (.iload_n 3, 1) := by decide +kernel
theorem dX7_statesBySeen_118 : decode cX7_statesBySeen 118 = .ok (.ishl, 1) := by decide +kernel
theorem dX7_statesBySeen_119 : decode cX7_statesBySeen 119 = .ok (.ior, 1) := by decide +kernel
theorem dX7_statesBySeen_120 : decode cX7_statesBySeen 120 = .ok (.istore_n 2, 1) := by decide +kernel
theorem dX7_statesBySeen_121 : decode cX7_statesBySeen 121 = .ok (.iinc 3 1, 3) := by decide +kernel
theorem dX7_statesBySeen_124 : decode cX7_statesBySeen 124 = .ok (.goto (-120), 3) := by decide +kernel
theorem dX7_statesBySeen_127 : decode cX7_statesBySeen 127 = .ok (.iload_n 2, 1) := by decide +kernel
theorem dX7_statesBySeen_128 : decode cX7_statesBySeen 128 = .ok (.ireturn, 1) := by decide +kernel
theorem dX7_which_0 : decode cX7_which 0 = .ok (.iload_n 1, 1) := by decide +kernel
theorem dX7_which_1 : decode cX7_which 1 = .ok (.i2l, 1) := by decide +kernel
theorem dX7_which_2 : decode cX7_which 2 = .ok (.lconst 0, 1) := by decide +kernel
theorem dX7_which_3 : decode cX7_which 3 = .ok (.lconst 1, 1) := by decide +kernel
theorem dX7_which_4 : decode cX7_which 4 = .ok (.invokestatic 70, 3) := by decide +kernel
theorem dX7_which_7 : decode cX7_which 7 = .ok (.ifCond .ne 5, 3) := by decide +kernel
theorem dX7_which_10 : decode cX7_which 10 = .ok (.iconst (-1), 1) := by decide +kernel
theorem dX7_which_11 : decode cX7_which 11 = .ok (.ireturn, 1) := by decide +kernel
theorem dX7_which_12 : decode cX7_which 12 = .ok (.aload_n 0, 1) := by decide +kernel
theorem dX7_which_13 : decode cX7_which 13 = .ok (.invokevirtual 56, 3) := by decide +kernel
theorem dX7_which_16 : decode cX7_which 16 = .ok (.aload_n 0, 1) := by decide +kernel
theorem dX7_which_17 : decode cX7_which 17 = .ok (.iload_n 1, 1) := by decide +kernel
theorem dX7_which_18 : decode cX7_which 18 = .ok (.iconst 1, 1) := by decide +kernel
theorem dX7_which_19 : decode cX7_which 19 = .ok (.if_icmp .ne 7, 3) := by decide +kernel
theorem dX7_which_22 : decode cX7_which 22 = .ok (.iconst 1, 1) := by decide +kernel
theorem dX7_which_23 : decode cX7_which 23 = .ok (.goto 4, 3) := by decide +kernel
theorem dX7_which_26 : decode cX7_which 26 = .ok (.iconst 0, 1) := by decide +kernel
theorem dX7_which_27 : decode cX7_which 27 = .ok (.invokevirtual 187, 3) := by decide +kernel
theorem dX7_which_30 : decode cX7_which 30 = .ok (.ireturn, 1) := by decide +kernel
theorem dX7_ask_0 : decode cX7_ask 0 = .ok (.aload_n 0, 1) := by decide +kernel
theorem dX7_ask_1 : decode cX7_ask 1 = .ok (.invokevirtual 56, 3) := by decide +kernel
theorem dX7_ask_4 : decode cX7_ask 4 = .ok (.aload_n 0, 1) := by decide +kernel
theorem dX7_ask_5 : decode cX7_ask 5 = .ok (.iconst 1, 1) := by decide +kernel
theorem dX7_ask_6 : decode cX7_ask 6 = .ok (.invokevirtual 187, 3) := by decide +kernel
theorem dX7_ask_9 : decode cX7_ask 9 = .ok (.istore_n 1, 1) := by decide +kernel
theorem dX7_ask_10 : decode cX7_ask 10 = .ok (.iload_n 1, 1) := by decide +kernel
theorem dX7_ask_11 : decode cX7_ask 11 = .ok (.iload_n 1, 1) := by decide +kernel
theorem dX7_ask_12 : decode cX7_ask 12 = .ok (.iconst 1, 1) := by decide +kernel
theorem dX7_ask_13 : decode cX7_ask 13 = .ok (.isub, 1) := by decide +kernel
theorem dX7_ask_14 : decode cX7_ask 14 = .ok (.iand, 1) := by decide +kernel
theorem dX7_ask_15 : decode cX7_ask 15 = .ok (.ifCond .ne 6, 3) := by decide +kernel
theorem dX7_ask_18 : decode cX7_ask 18 = .ok (.bipush (-9), 2) := by decide +kernel
theorem dX7_ask_20 : decode cX7_ask 20 = .ok (.ireturn, 1) := by decide +kernel
theorem dX7_ask_21 : decode cX7_ask 21 = .ok (.bipush (-9), 2) := by decide +kernel
theorem dX7_ask_23 : decode cX7_ask 23 = .ok (.istore_n 2, 1) := by decide +kernel
theorem dX7_ask_24 : decode cX7_ask 24 = .ok (.bipush 8, 2) := by decide +kernel
theorem dX7_ask_26 : decode cX7_ask 26 = .ok (.istore_n 3, 1) := by decide +kernel
theorem dX7_ask_27 : decode cX7_ask 27 = .ok (.iconst 0, 1) := by decide +kernel
theorem dX7_ask_28 : decode cX7_ask 28 = .ok (.istore 4, 2) := by decide +kernel
theorem dX7_ask_30 : decode cX7_ask 30 = .ok (.iload 4, 2) := by decide +kernel
theorem dX7_ask_32 : decode cX7_ask 32 = .ok (.iconst 1, 1) := by decide +kernel
theorem dX7_ask_33 : decode cX7_ask 33 = .ok (.aload_n 0, 1) := by decide +kernel
theorem dX7_ask_34 : decode cX7_ask 34 = .ok (.getfield 7, 3) := by decide +kernel
theorem dX7_ask_37 : decode cX7_ask 37 = .ok (.iconst 3, 1) := by decide +kernel
theorem dX7_ask_38 : decode cX7_ask 38 = .ok (.iaload, 1) := by decide +kernel
theorem dX7_ask_39 : decode cX7_ask 39 = .ok (.ishl, 1) := by decide +kernel
theorem dX7_ask_40 : decode cX7_ask 40 = .ok (.if_icmp .ge 126, 3) := by decide +kernel
theorem dX7_ask_43 : decode cX7_ask 43 = .ok (.iconst 0, 1) := by decide +kernel
theorem dX7_ask_44 : decode cX7_ask 44 = .ok (.istore 5, 2) := by decide +kernel
theorem dX7_ask_46 : decode cX7_ask 46 = .ok (.iconst 0, 1) := by decide +kernel
theorem dX7_ask_47 : decode cX7_ask 47 = .ok (.istore 6, 2) := by decide +kernel
theorem dX7_ask_49 : decode cX7_ask 49 = .ok (.iload 6, 2) := by decide +kernel
theorem dX7_ask_51 : decode cX7_ask 51 = .ok (.aload_n 0, 1) := by decide +kernel
theorem dX7_ask_52 : decode cX7_ask 52 = .ok (.invokevirtual 78, 3) := by decide +kernel
theorem dX7_ask_55 : decode cX7_ask 55 = .ok (.if_icmp .ge 79, 3) := by decide +kernel
theorem dX7_ask_58 : decode cX7_ask 58 = .ok (.iconst 0, 1) := by decide +kernel
theorem dX7_ask_59 : decode cX7_ask 59 = .ok (.istore 7, 2) := by decide +kernel
theorem dX7_ask_61 : decode cX7_ask 61 = .ok (.iconst 0, 1) := by decide +kernel
theorem dX7_ask_62 : decode cX7_ask 62 = .ok (.istore 8, 2) := by decide +kernel
theorem dX7_ask_64 : decode cX7_ask 64 = .ok (.iload 8, 2) := by decide +kernel
theorem dX7_ask_66 : decode cX7_ask 66 = .ok (.aload_n 0, 1) := by decide +kernel
theorem dX7_ask_67 : decode cX7_ask 67 = .ok (.invokevirtual 82, 3) := by decide +kernel
theorem dX7_ask_70 : decode cX7_ask 70 = .ok (.if_icmp .ge 42, 3) := by decide +kernel
theorem dX7_ask_73 : decode cX7_ask 73 = .ok (.iload 7, 2) := by decide +kernel
theorem dX7_ask_75 : decode cX7_ask 75 = .ok (.iload_n 1, 1) := by decide +kernel
theorem dX7_ask_76 : decode cX7_ask 76 = .ok (.iload 8, 2) := by decide +kernel
theorem dX7_ask_78 : decode cX7_ask 78 = .ok (.ishr, 1) := by decide +kernel
theorem dX7_ask_79 : decode cX7_ask 79 = .ok (.iconst 1, 1) := by decide +kernel
theorem dX7_ask_80 : decode cX7_ask 80 = .ok (.iand, 1) := by decide +kernel
theorem dX7_ask_81 : decode cX7_ask 81 = .ok (.iconst 1, 1) := by decide +kernel
theorem dX7_ask_82 : decode cX7_ask 82 = .ok (.if_icmp .ne 20, 3) := by decide +kernel
theorem dX7_ask_85 : decode cX7_ask 85 = .ok (.aload_n 0, 1) := by decide +kernel
theorem dX7_ask_86 : decode cX7_ask 86 = .ok (.iload 8, 2) := by decide +kernel
theorem dX7_ask_88 : decode cX7_ask 88 = .ok (.iload 6, 2) := by decide +kernel
theorem dX7_ask_90 : decode cX7_ask 90 = .ok (.invokevirtual 149, 3) := by decide +kernel
theorem dX7_ask_93 : decode cX7_ask 93 = .ok (.iload 4, 2) := by decide +kernel
theorem dX7_ask_95 : decode cX7_ask 95 = .ok (.if_icmp .ne 7, 3) := by decide +kernel
theorem dX7_ask_98 : decode cX7_ask 98 = .ok (.iconst 1, 1) := by decide +kernel
theorem dX7_ask_99 : decode cX7_ask 99 = .ok (.goto 4, 3) := by decide +kernel
theorem dX7_ask_102 : decode cX7_ask 102 = .ok (.iconst 0, 1) := by decide +kernel
theorem dX7_ask_103 : decode cX7_ask 103 = .ok (.iadd, 1) := by decide +kernel
theorem dX7_ask_104 : decode cX7_ask 104 = .ok (.istore 7, 2) := by decide +kernel
theorem dX7_ask_106 : decode cX7_ask 106 = .ok (.iinc 8 1, 3) := by decide +kernel
theorem dX7_ask_109 : decode cX7_ask 109 = .ok (.goto (-45), 3) := by decide +kernel
theorem dX7_ask_112 : decode cX7_ask 112 = .ok (.iload 7, 2) := by decide +kernel
theorem dX7_ask_114 : decode cX7_ask 114 = .ok (.iload 5, 2) := by decide +kernel
theorem dX7_ask_116 : decode cX7_ask 116 = .ok (.if_icmp .le 8, 3) := by decide +kernel
theorem dX7_ask_119 : decode cX7_ask 119 = .ok (.iload 7, 2) := by decide +kernel
theorem dX7_ask_121 : decode cX7_ask 121 = .ok (.goto 5, 3) := by decide +kernel
theorem dX7_ask_124 : decode cX7_ask 124 = .ok (.iload 5, 2) := by decide +kernel
theorem dX7_ask_126 : decode cX7_ask 126 = .ok (.istore 5, 2) := by decide +kernel
theorem dX7_ask_128 : decode cX7_ask 128 = .ok (.iinc 6 1, 3) := by decide +kernel
theorem dX7_ask_131 : decode cX7_ask 131 = .ok (.goto (-82), 3) := by decide +kernel
theorem dX7_ask_134 : decode cX7_ask 134 = .ok (.iload 5, 2) := by decide +kernel
theorem dX7_ask_136 : decode cX7_ask 136 = .ok (.iload_n 3, 1) := by decide +kernel
theorem dX7_ask_137 : decode cX7_ask 137 = .ok (.if_icmp .ge 8, 3) := by decide +kernel
theorem dX7_ask_140 : decode cX7_ask 140 = .ok (.iload 4, 2) := by decide +kernel
theorem dX7_ask_142 : decode cX7_ask 142 = .ok (.goto 4, 3) := by decide +kernel
theorem dX7_ask_145 : decode cX7_ask 145 = .ok (.iload_n 2, 1) := by decide +kernel
theorem dX7_ask_146 : decode cX7_ask 146 = .ok (.istore_n 2, 1) := by decide +kernel
theorem dX7_ask_147 : decode cX7_ask 147 = .ok (.iload 5, 2) := by decide +kernel
theorem dX7_ask_149 : decode cX7_ask 149 = .ok (.iload_n 3, 1) := by decide +kernel
theorem dX7_ask_150 : decode cX7_ask 150 = .ok (.if_icmp .ge 8, 3) := by decide +kernel
theorem dX7_ask_153 : decode cX7_ask 153 = .ok (.iload 5, 2) := by decide +kernel
theorem dX7_ask_155 : decode cX7_ask 155 = .ok (.goto 4, 3) := by decide +kernel
theorem dX7_ask_158 : decode cX7_ask 158 = .ok (.iload_n 3, 1) := by decide +kernel
theorem dX7_ask_159 : decode cX7_ask 159 = .ok (.istore_n 3, 1) := by decide +kernel
theorem dX7_ask_160 : decode cX7_ask 160 = .ok (.iinc 4 1, 3) := by decide +kernel
theorem dX7_ask_163 : decode cX7_ask 163 = .ok (.goto (-133), 3) := by decide +kernel
theorem dX7_ask_166 : decode cX7_ask 166 = .ok (.iload_n 2, 1) := by decide +kernel
theorem dX7_ask_167 : decode cX7_ask 167 = .ok (.ireturn, 1) := by decide +kernel
theorem dX7_keep_0 : decode cX7_keep 0 = .ok (.iload_n 1, 1) := by decide +kernel
theorem dX7_keep_1 : decode cX7_keep 1 = .ok (.i2l, 1) := by decide +kernel
theorem dX7_keep_2 : decode cX7_keep 2 = .ok (.lconst 0, 1) := by decide +kernel
theorem dX7_keep_3 : decode cX7_keep 3 = .ok (.lconst 1, 1) := by decide +kernel
theorem dX7_keep_4 : decode cX7_keep 4 = .ok (.invokestatic 70, 3) := by decide +kernel
theorem dX7_keep_7 : decode cX7_keep 7 = .ok (.ifCond .ne 5, 3) := by decide +kernel
theorem dX7_keep_10 : decode cX7_keep 10 = .ok (.iconst (-1), 1) := by decide +kernel
theorem dX7_keep_11 : decode cX7_keep 11 = .ok (.ireturn, 1) := by decide +kernel
theorem dX7_keep_12 : decode cX7_keep 12 = .ok (.iconst 0, 1) := by decide +kernel
theorem dX7_keep_13 : decode cX7_keep 13 = .ok (.istore_n 2, 1) := by decide +kernel
theorem dX7_keep_14 : decode cX7_keep 14 = .ok (.iload_n 2, 1) := by decide +kernel
theorem dX7_keep_15 : decode cX7_keep 15 = .ok (.bipush 79, 2) := by decide +kernel
theorem dX7_keep_17 : decode cX7_keep 17 = .ok (.if_icmp .ge 26, 3) := by decide +kernel
theorem dX7_keep_20 : decode cX7_keep 20 = .ok (.aload_n 0, 1) := by decide +kernel
theorem dX7_keep_21 : decode cX7_keep 21 = .ok (.getfield 16, 3) := by decide +kernel
theorem dX7_keep_24 : decode cX7_keep 24 = .ok (.bipush 79, 2) := by decide +kernel
theorem dX7_keep_26 : decode cX7_keep 26 = .ok (.iload_n 1, 1) := by decide +kernel
theorem dX7_keep_27 : decode cX7_keep 27 = .ok (.imul, 1) := by decide +kernel
theorem dX7_keep_28 : decode cX7_keep 28 = .ok (.iload_n 2, 1) := by decide +kernel
theorem dX7_keep_29 : decode cX7_keep 29 = .ok (.iadd, 1) := by decide +kernel
theorem dX7_keep_30 : decode cX7_keep 30 = .ok (.aload_n 0, 1) := by decide +kernel
theorem dX7_keep_31 : decode cX7_keep 31 = .ok (.getfield 7, 3) := by decide +kernel
theorem dX7_keep_34 : decode cX7_keep 34 = .ok (.iload_n 2, 1) := by decide +kernel
theorem dX7_keep_35 : decode cX7_keep 35 = .ok (.iaload, 1) := by decide +kernel
theorem dX7_keep_36 : decode cX7_keep 36 = .ok (.iastore, 1) := by decide +kernel
theorem dX7_keep_37 : decode cX7_keep 37 = .ok (.iinc 2 1, 3) := by decide +kernel
theorem dX7_keep_40 : decode cX7_keep 40 = .ok (.goto (-26), 3) := by decide +kernel
theorem dX7_keep_43 : decode cX7_keep 43 = .ok (.aload_n 0, 1) := by decide +kernel
theorem dX7_keep_44 : decode cX7_keep 44 = .ok (.getfield 19, 3) := by decide +kernel
theorem dX7_keep_47 : decode cX7_keep 47 = .ok (.iload_n 1, 1) := by decide +kernel
theorem dX7_keep_48 : decode cX7_keep 48 = .ok (.iconst 1, 1) := by decide +kernel
theorem dX7_keep_49 : decode cX7_keep 49 = .ok (.bastore, 1) := by decide +kernel
theorem dX7_keep_50 : decode cX7_keep 50 = .ok (.aload_n 0, 1) := by decide +kernel
theorem dX7_keep_51 : decode cX7_keep 51 = .ok (.getfield 7, 3) := by decide +kernel
theorem dX7_keep_54 : decode cX7_keep 54 = .ok (.iconst 5, 1) := by decide +kernel
theorem dX7_keep_55 : decode cX7_keep 55 = .ok (.iaload, 1) := by decide +kernel
theorem dX7_keep_56 : decode cX7_keep 56 = .ok (.ireturn, 1) := by decide +kernel
theorem dX7_back_0 : decode cX7_back 0 = .ok (.iload_n 1, 1) := by decide +kernel
theorem dX7_back_1 : decode cX7_back 1 = .ok (.i2l, 1) := by decide +kernel
theorem dX7_back_2 : decode cX7_back 2 = .ok (.lconst 0, 1) := by decide +kernel
theorem dX7_back_3 : decode cX7_back 3 = .ok (.lconst 1, 1) := by decide +kernel
theorem dX7_back_4 : decode cX7_back 4 = .ok (.invokestatic 70, 3) := by decide +kernel
theorem dX7_back_7 : decode cX7_back 7 = .ok (.ifCond .ne 5, 3) := by decide +kernel
theorem dX7_back_10 : decode cX7_back 10 = .ok (.iconst (-1), 1) := by decide +kernel
theorem dX7_back_11 : decode cX7_back 11 = .ok (.ireturn, 1) := by decide +kernel
theorem dX7_back_12 : decode cX7_back 12 = .ok (.aload_n 0, 1) := by decide +kernel
theorem dX7_back_13 : decode cX7_back 13 = .ok (.getfield 19, 3) := by decide +kernel
theorem dX7_back_16 : decode cX7_back 16 = .ok (.iload_n 1, 1) := by decide +kernel
theorem dX7_back_17 : decode cX7_back 17 = .ok (.baload, 1) := by decide +kernel
theorem dX7_back_18 : decode cX7_back 18 = .ok (.ifCond .ne 6, 3) := by decide +kernel
theorem dX7_back_21 : decode cX7_back 21 = .ok (.bipush (-2), 2) := by decide +kernel
theorem dX7_back_23 : decode cX7_back 23 = .ok (.ireturn, 1) := by decide +kernel
theorem dX7_back_24 : decode cX7_back 24 = .ok (.iconst 0, 1) := by decide +kernel
theorem dX7_back_25 : decode cX7_back 25 = .ok (.istore_n 2, 1) := by decide +kernel
theorem dX7_back_26 : decode cX7_back 26 = .ok (.iload_n 2, 1) := by decide +kernel
theorem dX7_back_27 : decode cX7_back 27 = .ok (.bipush 79, 2) := by decide +kernel
theorem dX7_back_29 : decode cX7_back 29 = .ok (.if_icmp .ge 26, 3) := by decide +kernel
theorem dX7_back_32 : decode cX7_back 32 = .ok (.aload_n 0, 1) := by decide +kernel
theorem dX7_back_33 : decode cX7_back 33 = .ok (.getfield 7, 3) := by decide +kernel
theorem dX7_back_36 : decode cX7_back 36 = .ok (.iload_n 2, 1) := by decide +kernel
theorem dX7_back_37 : decode cX7_back 37 = .ok (.aload_n 0, 1) := by decide +kernel
theorem dX7_back_38 : decode cX7_back 38 = .ok (.getfield 16, 3) := by decide +kernel
theorem dX7_back_41 : decode cX7_back 41 = .ok (.bipush 79, 2) := by decide +kernel
theorem dX7_back_43 : decode cX7_back 43 = .ok (.iload_n 1, 1) := by decide +kernel
theorem dX7_back_44 : decode cX7_back 44 = .ok (.imul, 1) := by decide +kernel
theorem dX7_back_45 : decode cX7_back 45 = .ok (.iload_n 2, 1) := by decide +kernel
theorem dX7_back_46 : decode cX7_back 46 = .ok (.iadd, 1) := by decide +kernel
theorem dX7_back_47 : decode cX7_back 47 = .ok (.iaload, 1) := by decide +kernel
theorem dX7_back_48 : decode cX7_back 48 = .ok (.iastore, 1) := by decide +kernel
theorem dX7_back_49 : decode cX7_back 49 = .ok (.iinc 2 1, 3) := by decide +kernel
theorem dX7_back_52 : decode cX7_back 52 = .ok (.goto (-26), 3) := by decide +kernel
theorem dX7_back_55 : decode cX7_back 55 = .ok (.aload_n 0, 1) := by decide +kernel
theorem dX7_back_56 : decode cX7_back 56 = .ok (.iconst 0, 1) := by decide +kernel
theorem dX7_back_57 : decode cX7_back 57 = .ok (.putfield 63, 3) := by decide +kernel
theorem dX7_back_60 : decode cX7_back 60 = .ok (.aload_n 0, 1) := by decide +kernel
theorem dX7_back_61 : decode cX7_back 61 = .ok (.getfield 7, 3) := by decide +kernel
theorem dX7_back_64 : decode cX7_back 64 = .ok (.iconst 5, 1) := by decide +kernel
theorem dX7_back_65 : decode cX7_back 65 = .ok (.iaload, 1) := by decide +kernel
theorem dX7_back_66 : decode cX7_back 66 = .ok (.ireturn, 1) := by decide +kernel
theorem dX7_otherBits_0 : decode cX7_otherBits 0 = .ok (.iconst 0, 1) := by decide +kernel
theorem dX7_otherBits_1 : decode cX7_otherBits 1 = .ok (.istore_n 1, 1) := by decide +kernel
theorem dX7_otherBits_2 : decode cX7_otherBits 2 = .ok (.iconst 0, 1) := by decide +kernel
theorem dX7_otherBits_3 : decode cX7_otherBits 3 = .ok (.istore_n 2, 1) := by decide +kernel
theorem dX7_otherBits_4 : decode cX7_otherBits 4 = .ok (.iload_n 2, 1) := by decide +kernel
theorem dX7_otherBits_5 : decode cX7_otherBits 5 = .ok (.aload_n 0, 1) := by decide +kernel
theorem dX7_otherBits_6 : decode cX7_otherBits 6 = .ok (.getfield 7, 3) := by decide +kernel
theorem dX7_otherBits_9 : decode cX7_otherBits 9 = .ok (.iconst 5, 1) := by decide +kernel
theorem dX7_otherBits_10 : decode cX7_otherBits 10 = .ok (.iaload, 1) := by decide +kernel
theorem dX7_otherBits_11 : decode cX7_otherBits 11 = .ok (.if_icmp .ge 46, 3) := by decide +kernel
theorem dX7_otherBits_14 : decode cX7_otherBits 14 = .ok (.aload_n 0, 1) := by decide +kernel
theorem dX7_otherBits_15 : decode cX7_otherBits 15 = .ok (.getfield 7, 3) := by decide +kernel
theorem dX7_otherBits_18 : decode cX7_otherBits 18 = .ok (.bipush 7, 2) := by decide +kernel
theorem dX7_otherBits_20 : decode cX7_otherBits 20 = .ok (.iload_n 2, 1) := by decide +kernel
theorem dX7_otherBits_21 : decode cX7_otherBits 21 = .ok (.iadd, 1) := by decide +kernel
theorem dX7_otherBits_22 : decode cX7_otherBits 22 = .ok (.iaload, 1) := by decide +kernel
theorem dX7_otherBits_23 : decode cX7_otherBits 23 = .ok (.aload_n 0, 1) := by decide +kernel
theorem dX7_otherBits_24 : decode cX7_otherBits 24 = .ok (.getfield 7, 3) := by decide +kernel
theorem dX7_otherBits_27 : decode cX7_otherBits 27 = .ok (.bipush 31, 2) := by decide +kernel
theorem dX7_otherBits_29 : decode cX7_otherBits 29 = .ok (.iload_n 2, 1) := by decide +kernel
theorem dX7_otherBits_30 : decode cX7_otherBits 30 = .ok (.iadd, 1) := by decide +kernel
theorem dX7_otherBits_31 : decode cX7_otherBits 31 = .ok (.iaload, 1) := by decide +kernel
theorem dX7_otherBits_32 : decode cX7_otherBits 32 = .ok (.ixor, 1) := by decide +kernel
theorem dX7_otherBits_33 : decode cX7_otherBits 33 = .ok (.istore_n 3, 1) := by decide +kernel
theorem dX7_otherBits_34 : decode cX7_otherBits 34 = .ok (.iload_n 3, 1) := by decide +kernel
theorem dX7_otherBits_35 : decode cX7_otherBits 35 = .ok (.ifCond .le 16, 3) := by decide +kernel
theorem dX7_otherBits_38 : decode cX7_otherBits 38 = .ok (.iload_n 1, 1) := by decide +kernel
theorem dX7_otherBits_39 : decode cX7_otherBits 39 = .ok (.iload_n 3, 1) := by decide +kernel
theorem dX7_otherBits_40 : decode cX7_otherBits 40 = .ok (.iconst 1, 1) := by decide +kernel
theorem dX7_otherBits_41 : decode cX7_otherBits 41 = .ok (.iand, 1) := by decide +kernel
theorem dX7_otherBits_42 : decode cX7_otherBits 42 = .ok (.iadd, 1) := by decide +kernel
theorem dX7_otherBits_43 : decode cX7_otherBits 43 = .ok (.istore_n 1, 1) := by decide +kernel
theorem dX7_otherBits_44 : decode cX7_otherBits 44 = .ok (.iload_n 3, 1) := by decide +kernel
theorem dX7_otherBits_45 : decode cX7_otherBits 45 = .ok (.iconst 1, 1) := by decide +kernel
theorem dX7_otherBits_46 : decode cX7_otherBits 46 = .ok (.ishr, 1) := by decide +kernel
theorem dX7_otherBits_47 : decode cX7_otherBits 47 = .ok (.istore_n 3, 1) := by decide +kernel
theorem dX7_otherBits_48 : decode cX7_otherBits 48 = .ok (.goto (-14), 3) := by decide +kernel
theorem dX7_otherBits_51 : decode cX7_otherBits 51 = .ok (.iinc 2 1, 3) := by decide +kernel
theorem dX7_otherBits_54 : decode cX7_otherBits 54 = .ok (.goto (-50), 3) := by decide +kernel
theorem dX7_otherBits_57 : decode cX7_otherBits 57 = .ok (.iload_n 1, 1) := by decide +kernel
theorem dX7_otherBits_58 : decode cX7_otherBits 58 = .ok (.ireturn, 1) := by decide +kernel
theorem dX7_count_0 : decode cX7_count 0 = .ok (.iload_n 1, 1) := by decide +kernel
theorem dX7_count_1 : decode cX7_count 1 = .ok (.i2l, 1) := by decide +kernel
theorem dX7_count_2 : decode cX7_count 2 = .ok (.lconst 0, 1) := by decide +kernel
theorem dX7_count_3 : decode cX7_count 3 = .ok (.ldc2_w 191, 3) := by decide +kernel
theorem dX7_count_6 : decode cX7_count 6 = .ok (.invokestatic 70, 3) := by decide +kernel
theorem dX7_count_9 : decode cX7_count 9 = .ok (.ifCond .ne 5, 3) := by decide +kernel
theorem dX7_count_12 : decode cX7_count 12 = .ok (.iconst (-1), 1) := by decide +kernel
theorem dX7_count_13 : decode cX7_count 13 = .ok (.ireturn, 1) := by decide +kernel
theorem dX7_count_14 : decode cX7_count 14 = .ok (.aload_n 0, 1) := by decide +kernel
theorem dX7_count_15 : decode cX7_count 15 = .ok (.invokevirtual 56, 3) := by decide +kernel
theorem dX7_count_18 : decode cX7_count 18 = .ok (.iload_n 1, 1) := by decide +kernel
theorem dX7_count_19 : decode cX7_count 19 = .ok (.tableswitch 130 0 11 #[61, 66, 71, 78, 85, 90, 95, 103, 108, 115, 120, 125], 61) := by decide +kernel
theorem dX7_count_80 : decode cX7_count 80 = .ok (.aload_n 0, 1) := by decide +kernel
theorem dX7_count_81 : decode cX7_count 81 = .ok (.invokevirtual 82, 3) := by decide +kernel
theorem dX7_count_84 : decode cX7_count 84 = .ok (.ireturn, 1) := by decide +kernel
theorem dX7_count_85 : decode cX7_count 85 = .ok (.aload_n 0, 1) := by decide +kernel
theorem dX7_count_86 : decode cX7_count 86 = .ok (.invokevirtual 163, 3) := by decide +kernel
theorem dX7_count_89 : decode cX7_count 89 = .ok (.ireturn, 1) := by decide +kernel
theorem dX7_count_90 : decode cX7_count 90 = .ok (.aload_n 0, 1) := by decide +kernel
theorem dX7_count_91 : decode cX7_count 91 = .ok (.getfield 7, 3) := by decide +kernel
theorem dX7_count_94 : decode cX7_count 94 = .ok (.iconst 3, 1) := by decide +kernel
theorem dX7_count_95 : decode cX7_count 95 = .ok (.iaload, 1) := by decide +kernel
theorem dX7_count_96 : decode cX7_count 96 = .ok (.ireturn, 1) := by decide +kernel
theorem dX7_count_97 : decode cX7_count 97 = .ok (.aload_n 0, 1) := by decide +kernel
theorem dX7_count_98 : decode cX7_count 98 = .ok (.getfield 7, 3) := by decide +kernel
theorem dX7_count_101 : decode cX7_count 101 = .ok (.iconst 4, 1) := by decide +kernel
theorem dX7_count_102 : decode cX7_count 102 = .ok (.iaload, 1) := by decide +kernel
theorem dX7_count_103 : decode cX7_count 103 = .ok (.ireturn, 1) := by decide +kernel
theorem dX7_count_104 : decode cX7_count 104 = .ok (.aload_n 0, 1) := by decide +kernel
theorem dX7_count_105 : decode cX7_count 105 = .ok (.getfield 92, 3) := by decide +kernel
theorem dX7_count_108 : decode cX7_count 108 = .ok (.ireturn, 1) := by decide +kernel
theorem dX7_count_109 : decode cX7_count 109 = .ok (.aload_n 0, 1) := by decide +kernel
theorem dX7_count_110 : decode cX7_count 110 = .ok (.getfield 59, 3) := by decide +kernel
theorem dX7_count_113 : decode cX7_count 113 = .ok (.ireturn, 1) := by decide +kernel
theorem dX7_count_114 : decode cX7_count 114 = .ok (.aload_n 0, 1) := by decide +kernel
theorem dX7_count_115 : decode cX7_count 115 = .ok (.getfield 7, 3) := by decide +kernel
theorem dX7_count_118 : decode cX7_count 118 = .ok (.bipush 6, 2) := by decide +kernel
theorem dX7_count_120 : decode cX7_count 120 = .ok (.iaload, 1) := by decide +kernel
theorem dX7_count_121 : decode cX7_count 121 = .ok (.ireturn, 1) := by decide +kernel
theorem dX7_count_122 : decode cX7_count 122 = .ok (.aload_n 0, 1) := by decide +kernel
theorem dX7_count_123 : decode cX7_count 123 = .ok (.invokevirtual 176, 3) := by decide +kernel
theorem dX7_count_126 : decode cX7_count 126 = .ok (.ireturn, 1) := by decide +kernel
theorem dX7_count_127 : decode cX7_count 127 = .ok (.aload_n 0, 1) := by decide +kernel
theorem dX7_count_128 : decode cX7_count 128 = .ok (.getfield 7, 3) := by decide +kernel
theorem dX7_count_131 : decode cX7_count 131 = .ok (.iconst 5, 1) := by decide +kernel
theorem dX7_count_132 : decode cX7_count 132 = .ok (.iaload, 1) := by decide +kernel
theorem dX7_count_133 : decode cX7_count 133 = .ok (.ireturn, 1) := by decide +kernel
theorem dX7_count_134 : decode cX7_count 134 = .ok (.aload_n 0, 1) := by decide +kernel
theorem dX7_count_135 : decode cX7_count 135 = .ok (.invokevirtual 193, 3) := by decide +kernel
theorem dX7_count_138 : decode cX7_count 138 = .ok (.ireturn, 1) := by decide +kernel
theorem dX7_count_139 : decode cX7_count 139 = .ok (.aload_n 0, 1) := by decide +kernel
theorem dX7_count_140 : decode cX7_count 140 = .ok (.getfield 143, 3) := by decide +kernel
theorem dX7_count_143 : decode cX7_count 143 = .ok (.ireturn, 1) := by decide +kernel
theorem dX7_count_144 : decode cX7_count 144 = .ok (.aload_n 0, 1) := by decide +kernel
theorem dX7_count_145 : decode cX7_count 145 = .ok (.getfield 103, 3) := by decide +kernel
theorem dX7_count_148 : decode cX7_count 148 = .ok (.ireturn, 1) := by decide +kernel
theorem dX7_count_149 : decode cX7_count 149 = .ok (.aload_n 0, 1) := by decide +kernel
theorem dX7_count_150 : decode cX7_count 150 = .ok (.getfield 63, 3) := by decide +kernel
theorem dX7_count_153 : decode cX7_count 153 = .ok (.ireturn, 1) := by decide +kernel
end
section
theorem dL_law_0 : decode cL_law 0 = .ok (.new 7, 3) := by decide +kernel
theorem dL_law_3 : decode cL_law 3 = .ok (.dup, 1) := by decide +kernel
theorem dL_law_4 : decode cL_law 4 = .ok (.invokespecial 9, 3) := by decide +kernel
theorem dL_law_7 : decode cL_law 7 = .ok (.astore_n 1, 1) := by decide +kernel
theorem dL_law_8 : decode cL_law 8 = .ok (.new 10, 3) := by decide +kernel
theorem dL_law_11 : decode cL_law 11 = .ok (.dup, 1) := by decide +kernel
theorem dL_law_12 : decode cL_law 12 = .ok (.invokespecial 12, 3) := by decide +kernel
theorem dL_law_15 : decode cL_law 15 = .ok (.astore_n 2, 1) := by decide +kernel
theorem dL_law_16 : decode cL_law 16 = .ok (.iconst 0, 1) := by decide +kernel
theorem dL_law_17 : decode cL_law 17 = .ok (.istore_n 3, 1) := by decide +kernel
theorem dL_law_18 : decode cL_law 18 = .ok (.iload_n 3, 1) := by decide +kernel
theorem dL_law_19 : decode cL_law 19 = .ok (.aload_n 0, 1) := by decide +kernel
theorem dL_law_20 : decode cL_law 20 = .ok (.arraylength, 1) := by decide +kernel
theorem dL_law_21 : decode cL_law 21 = .ok (.iconst 4, 1) := by decide +kernel
theorem dL_law_22 : decode cL_law 22 = .ok (.isub, 1) := by decide +kernel
theorem dL_law_23 : decode cL_law 23 = .ok (.if_icmp .gt 591, 3) := by decide +kernel
theorem dL_law_26 : decode cL_law 26 = .ok (.aload_n 0, 1) := by decide +kernel
theorem dL_law_27 : decode cL_law 27 = .ok (.iload_n 3, 1) := by decide +kernel
theorem dL_law_28 : decode cL_law 28 = .ok (.iaload, 1) := by decide +kernel
theorem dL_law_29 : decode cL_law 29 = .ok (.bipush 31, 2) := by decide +kernel
theorem dL_law_31 : decode cL_law 31 = .ok (.iand, 1) := by decide +kernel
theorem dL_law_32 : decode cL_law 32 = .ok (.tableswitch 576 0 19 #[96, 119, 132, 145, 168, 191, 204, 237, 280, 313, 356, 379, 412, 435, 458, 471, 494, 507, 530, 553], 96) := by decide +kernel
theorem dL_law_128 : decode cL_law 128 = .ok (.aload_n 1, 1) := by decide +kernel
theorem dL_law_129 : decode cL_law 129 = .ok (.aload_n 0, 1) := by decide +kernel
theorem dL_law_130 : decode cL_law 130 = .ok (.iload_n 3, 1) := by decide +kernel
theorem dL_law_131 : decode cL_law 131 = .ok (.iconst 1, 1) := by decide +kernel
theorem dL_law_132 : decode cL_law 132 = .ok (.iadd, 1) := by decide +kernel
theorem dL_law_133 : decode cL_law 133 = .ok (.iaload, 1) := by decide +kernel
theorem dL_law_134 : decode cL_law 134 = .ok (.invokevirtual 13, 3) := by decide +kernel
theorem dL_law_137 : decode cL_law 137 = .ok (.aload_n 2, 1) := by decide +kernel
theorem dL_law_138 : decode cL_law 138 = .ok (.aload_n 0, 1) := by decide +kernel
theorem dL_law_139 : decode cL_law 139 = .ok (.iload_n 3, 1) := by decide +kernel
theorem dL_law_140 : decode cL_law 140 = .ok (.iconst 1, 1) := by decide +kernel
theorem dL_law_141 : decode cL_law 141 = .ok (.iadd, 1) := by decide +kernel
theorem dL_law_142 : decode cL_law 142 = .ok (.iaload, 1) := by decide +kernel
theorem dL_law_143 : decode cL_law 143 = .ok (.invokevirtual 17, 3) := by decide +kernel
theorem dL_law_146 : decode cL_law 146 = .ok (.if_icmp .eq 462, 3) := by decide +kernel
theorem dL_law_149 : decode cL_law 149 = .ok (.iconst 0, 1) := by decide +kernel
theorem dL_law_150 : decode cL_law 150 = .ok (.ireturn, 1) := by decide +kernel
theorem dL_law_151 : decode cL_law 151 = .ok (.aload_n 1, 1) := by decide +kernel
theorem dL_law_152 : decode cL_law 152 = .ok (.invokevirtual 18, 3) := by decide +kernel
theorem dL_law_155 : decode cL_law 155 = .ok (.aload_n 2, 1) := by decide +kernel
theorem dL_law_156 : decode cL_law 156 = .ok (.invokevirtual 22, 3) := by decide +kernel
theorem dL_law_159 : decode cL_law 159 = .ok (.if_icmp .eq 449, 3) := by decide +kernel
theorem dL_law_162 : decode cL_law 162 = .ok (.iconst 0, 1) := by decide +kernel
theorem dL_law_163 : decode cL_law 163 = .ok (.ireturn, 1) := by decide +kernel
theorem dL_law_164 : decode cL_law 164 = .ok (.aload_n 1, 1) := by decide +kernel
theorem dL_law_165 : decode cL_law 165 = .ok (.invokevirtual 23, 3) := by decide +kernel
theorem dL_law_168 : decode cL_law 168 = .ok (.aload_n 2, 1) := by decide +kernel
theorem dL_law_169 : decode cL_law 169 = .ok (.invokevirtual 26, 3) := by decide +kernel
theorem dL_law_172 : decode cL_law 172 = .ok (.if_icmp .eq 436, 3) := by decide +kernel
theorem dL_law_175 : decode cL_law 175 = .ok (.iconst 0, 1) := by decide +kernel
theorem dL_law_176 : decode cL_law 176 = .ok (.ireturn, 1) := by decide +kernel
theorem dL_law_177 : decode cL_law 177 = .ok (.aload_n 1, 1) := by decide +kernel
theorem dL_law_178 : decode cL_law 178 = .ok (.aload_n 0, 1) := by decide +kernel
theorem dL_law_179 : decode cL_law 179 = .ok (.iload_n 3, 1) := by decide +kernel
theorem dL_law_180 : decode cL_law 180 = .ok (.iconst 1, 1) := by decide +kernel
theorem dL_law_181 : decode cL_law 181 = .ok (.iadd, 1) := by decide +kernel
theorem dL_law_182 : decode cL_law 182 = .ok (.iaload, 1) := by decide +kernel
theorem dL_law_183 : decode cL_law 183 = .ok (.invokevirtual 27, 3) := by decide +kernel
theorem dL_law_186 : decode cL_law 186 = .ok (.aload_n 2, 1) := by decide +kernel
theorem dL_law_187 : decode cL_law 187 = .ok (.aload_n 0, 1) := by decide +kernel
theorem dL_law_188 : decode cL_law 188 = .ok (.iload_n 3, 1) := by decide +kernel
theorem dL_law_189 : decode cL_law 189 = .ok (.iconst 1, 1) := by decide +kernel
theorem dL_law_190 : decode cL_law 190 = .ok (.iadd, 1) := by decide +kernel
theorem dL_law_191 : decode cL_law 191 = .ok (.iaload, 1) := by decide +kernel
theorem dL_law_192 : decode cL_law 192 = .ok (.invokevirtual 30, 3) := by decide +kernel
theorem dL_law_195 : decode cL_law 195 = .ok (.if_icmp .eq 413, 3) := by decide +kernel
theorem dL_law_198 : decode cL_law 198 = .ok (.iconst 0, 1) := by decide +kernel
theorem dL_law_199 : decode cL_law 199 = .ok (.ireturn, 1) := by decide +kernel
theorem dL_law_200 : decode cL_law 200 = .ok (.aload_n 1, 1) := by decide +kernel
theorem dL_law_201 : decode cL_law 201 = .ok (.aload_n 0, 1) := by decide +kernel
theorem dL_law_202 : decode cL_law 202 = .ok (.iload_n 3, 1) := by decide +kernel
theorem dL_law_203 : decode cL_law 203 = .ok (.iconst 1, 1) := by decide +kernel
theorem dL_law_204 : decode cL_law 204 = .ok (.iadd, 1) := by decide +kernel
theorem dL_law_205 : decode cL_law 205 = .ok (.iaload, 1) := by decide +kernel
theorem dL_law_206 : decode cL_law 206 = .ok (.invokevirtual 31, 3) := by decide +kernel
theorem dL_law_209 : decode cL_law 209 = .ok (.aload_n 2, 1) := by decide +kernel
theorem dL_law_210 : decode cL_law 210 = .ok (.aload_n 0, 1) := by decide +kernel
theorem dL_law_211 : decode cL_law 211 = .ok (.iload_n 3, 1) := by decide +kernel
theorem dL_law_212 : decode cL_law 212 = .ok (.iconst 1, 1) := by decide +kernel
theorem dL_law_213 : decode cL_law 213 = .ok (.iadd, 1) := by decide +kernel
theorem dL_law_214 : decode cL_law 214 = .ok (.iaload, 1) := by decide +kernel
theorem dL_law_215 : decode cL_law 215 = .ok (.invokevirtual 34, 3) := by decide +kernel
theorem dL_law_218 : decode cL_law 218 = .ok (.if_icmp .eq 390, 3) := by decide +kernel
theorem dL_law_221 : decode cL_law 221 = .ok (.iconst 0, 1) := by decide +kernel
theorem dL_law_222 : decode cL_law 222 = .ok (.ireturn, 1) := by decide +kernel
theorem dL_law_223 : decode cL_law 223 = .ok (.aload_n 1, 1) := by decide +kernel
theorem dL_law_224 : decode cL_law 224 = .ok (.invokevirtual 35, 3) := by decide +kernel
theorem dL_law_227 : decode cL_law 227 = .ok (.aload_n 2, 1) := by decide +kernel
theorem dL_law_228 : decode cL_law 228 = .ok (.invokevirtual 38, 3) := by decide +kernel
theorem dL_law_231 : decode cL_law 231 = .ok (.if_icmp .eq 377, 3) := by decide +kernel
theorem dL_law_234 : decode cL_law 234 = .ok (.iconst 0, 1) := by decide +kernel
theorem dL_law_235 : decode cL_law 235 = .ok (.ireturn, 1) := by decide +kernel
theorem dL_law_236 : decode cL_law 236 = .ok (.aload_n 1, 1) := by decide +kernel
theorem dL_law_237 : decode cL_law 237 = .ok (.aload_n 0, 1) := by decide +kernel
theorem dL_law_238 : decode cL_law 238 = .ok (.iload_n 3, 1) := by decide +kernel
theorem dL_law_239 : decode cL_law 239 = .ok (.iconst 1, 1) := by decide +kernel
theorem dL_law_240 : decode cL_law 240 = .ok (.iadd, 1) := by decide +kernel
theorem dL_law_241 : decode cL_law 241 = .ok (.iaload, 1) := by decide +kernel
theorem dL_law_242 : decode cL_law 242 = .ok (.aload_n 0, 1) := by decide +kernel
theorem dL_law_243 : decode cL_law 243 = .ok (.iload_n 3, 1) := by decide +kernel
theorem dL_law_244 : decode cL_law 244 = .ok (.iconst 2, 1) := by decide +kernel
theorem dL_law_245 : decode cL_law 245 = .ok (.iadd, 1) := by decide +kernel
theorem dL_law_246 : decode cL_law 246 = .ok (.iaload, 1) := by decide +kernel
theorem dL_law_247 : decode cL_law 247 = .ok (.invokevirtual 39, 3) := by decide +kernel
theorem dL_law_250 : decode cL_law 250 = .ok (.aload_n 2, 1) := by decide +kernel
theorem dL_law_251 : decode cL_law 251 = .ok (.aload_n 0, 1) := by decide +kernel
theorem dL_law_252 : decode cL_law 252 = .ok (.iload_n 3, 1) := by decide +kernel
theorem dL_law_253 : decode cL_law 253 = .ok (.iconst 1, 1) := by decide +kernel
theorem dL_law_254 : decode cL_law 254 = .ok (.iadd, 1) := by decide +kernel
theorem dL_law_255 : decode cL_law 255 = .ok (.iaload, 1) := by decide +kernel
theorem dL_law_256 : decode cL_law 256 = .ok (.aload_n 0, 1) := by decide +kernel
theorem dL_law_257 : decode cL_law 257 = .ok (.iload_n 3, 1) := by decide +kernel
theorem dL_law_258 : decode cL_law 258 = .ok (.iconst 2, 1) := by decide +kernel
theorem dL_law_259 : decode cL_law 259 = .ok (.iadd, 1) := by decide +kernel
theorem dL_law_260 : decode cL_law 260 = .ok (.iaload, 1) := by decide +kernel
theorem dL_law_261 : decode cL_law 261 = .ok (.invokevirtual 43, 3) := by decide +kernel
theorem dL_law_264 : decode cL_law 264 = .ok (.if_icmp .eq 344, 3) := by decide +kernel
theorem dL_law_267 : decode cL_law 267 = .ok (.iconst 0, 1) := by decide +kernel
theorem dL_law_268 : decode cL_law 268 = .ok (.ireturn, 1) := by decide +kernel
theorem dL_law_269 : decode cL_law 269 = .ok (.aload_n 1, 1) := by decide +kernel
theorem dL_law_270 : decode cL_law 270 = .ok (.aload_n 0, 1) := by decide +kernel
theorem dL_law_271 : decode cL_law 271 = .ok (.iload_n 3, 1) := by decide +kernel
theorem dL_law_272 : decode cL_law 272 = .ok (.iconst 1, 1) := by decide +kernel
theorem dL_law_273 : decode cL_law 273 = .ok (.iadd, 1) := by decide +kernel
theorem dL_law_274 : decode cL_law 274 = .ok (.iaload, 1) := by decide +kernel
theorem dL_law_275 : decode cL_law 275 = .ok (.aload_n 0, 1) := by decide +kernel
theorem dL_law_276 : decode cL_law 276 = .ok (.iload_n 3, 1) := by decide +kernel
theorem dL_law_277 : decode cL_law 277 = .ok (.iconst 2, 1) := by decide +kernel
theorem dL_law_278 : decode cL_law 278 = .ok (.iadd, 1) := by decide +kernel
theorem dL_law_279 : decode cL_law 279 = .ok (.iaload, 1) := by decide +kernel
theorem dL_law_280 : decode cL_law 280 = .ok (.aload_n 0, 1) := by decide +kernel
theorem dL_law_281 : decode cL_law 281 = .ok (.iload_n 3, 1) := by decide +kernel
theorem dL_law_282 : decode cL_law 282 = .ok (.iconst 3, 1) := by decide +kernel
theorem dL_law_283 : decode cL_law 283 = .ok (.iadd, 1) := by decide +kernel
theorem dL_law_284 : decode cL_law 284 = .ok (.iaload, 1) := by decide +kernel
theorem dL_law_285 : decode cL_law 285 = .ok (.invokevirtual 44, 3) := by decide +kernel
theorem dL_law_288 : decode cL_law 288 = .ok (.aload_n 2, 1) := by decide +kernel
theorem dL_law_289 : decode cL_law 289 = .ok (.aload_n 0, 1) := by decide +kernel
theorem dL_law_290 : decode cL_law 290 = .ok (.iload_n 3, 1) := by decide +kernel
theorem dL_law_291 : decode cL_law 291 = .ok (.iconst 1, 1) := by decide +kernel
theorem dL_law_292 : decode cL_law 292 = .ok (.iadd, 1) := by decide +kernel
theorem dL_law_293 : decode cL_law 293 = .ok (.iaload, 1) := by decide +kernel
theorem dL_law_294 : decode cL_law 294 = .ok (.aload_n 0, 1) := by decide +kernel
theorem dL_law_295 : decode cL_law 295 = .ok (.iload_n 3, 1) := by decide +kernel
theorem dL_law_296 : decode cL_law 296 = .ok (.iconst 2, 1) := by decide +kernel
theorem dL_law_297 : decode cL_law 297 = .ok (.iadd, 1) := by decide +kernel
theorem dL_law_298 : decode cL_law 298 = .ok (.iaload, 1) := by decide +kernel
theorem dL_law_299 : decode cL_law 299 = .ok (.aload_n 0, 1) := by decide +kernel
theorem dL_law_300 : decode cL_law 300 = .ok (.iload_n 3, 1) := by decide +kernel
theorem dL_law_301 : decode cL_law 301 = .ok (.iconst 3, 1) := by decide +kernel
theorem dL_law_302 : decode cL_law 302 = .ok (.iadd, 1) := by decide +kernel
theorem dL_law_303 : decode cL_law 303 = .ok (.iaload, 1) := by decide +kernel
theorem dL_law_304 : decode cL_law 304 = .ok (.invokevirtual 48, 3) := by decide +kernel
theorem dL_law_307 : decode cL_law 307 = .ok (.if_icmp .eq 301, 3) := by decide +kernel
theorem dL_law_310 : decode cL_law 310 = .ok (.iconst 0, 1) := by decide +kernel
theorem dL_law_311 : decode cL_law 311 = .ok (.ireturn, 1) := by decide +kernel
theorem dL_law_312 : decode cL_law 312 = .ok (.aload_n 1, 1) := by decide +kernel
theorem dL_law_313 : decode cL_law 313 = .ok (.aload_n 0, 1) := by decide +kernel
theorem dL_law_314 : decode cL_law 314 = .ok (.iload_n 3, 1) := by decide +kernel
theorem dL_law_315 : decode cL_law 315 = .ok (.iconst 1, 1) := by decide +kernel
theorem dL_law_316 : decode cL_law 316 = .ok (.iadd, 1) := by decide +kernel
theorem dL_law_317 : decode cL_law 317 = .ok (.iaload, 1) := by decide +kernel
theorem dL_law_318 : decode cL_law 318 = .ok (.aload_n 0, 1) := by decide +kernel
theorem dL_law_319 : decode cL_law 319 = .ok (.iload_n 3, 1) := by decide +kernel
theorem dL_law_320 : decode cL_law 320 = .ok (.iconst 2, 1) := by decide +kernel
theorem dL_law_321 : decode cL_law 321 = .ok (.iadd, 1) := by decide +kernel
theorem dL_law_322 : decode cL_law 322 = .ok (.iaload, 1) := by decide +kernel
theorem dL_law_323 : decode cL_law 323 = .ok (.invokevirtual 49, 3) := by decide +kernel
theorem dL_law_326 : decode cL_law 326 = .ok (.aload_n 2, 1) := by decide +kernel
theorem dL_law_327 : decode cL_law 327 = .ok (.aload_n 0, 1) := by decide +kernel
theorem dL_law_328 : decode cL_law 328 = .ok (.iload_n 3, 1) := by decide +kernel
theorem dL_law_329 : decode cL_law 329 = .ok (.iconst 1, 1) := by decide +kernel
theorem dL_law_330 : decode cL_law 330 = .ok (.iadd, 1) := by decide +kernel
theorem dL_law_331 : decode cL_law 331 = .ok (.iaload, 1) := by decide +kernel
theorem dL_law_332 : decode cL_law 332 = .ok (.aload_n 0, 1) := by decide +kernel
theorem dL_law_333 : decode cL_law 333 = .ok (.iload_n 3, 1) := by decide +kernel
theorem dL_law_334 : decode cL_law 334 = .ok (.iconst 2, 1) := by decide +kernel
theorem dL_law_335 : decode cL_law 335 = .ok (.iadd, 1) := by decide +kernel
theorem dL_law_336 : decode cL_law 336 = .ok (.iaload, 1) := by decide +kernel
theorem dL_law_337 : decode cL_law 337 = .ok (.invokevirtual 52, 3) := by decide +kernel
theorem dL_law_340 : decode cL_law 340 = .ok (.if_icmp .eq 268, 3) := by decide +kernel
theorem dL_law_343 : decode cL_law 343 = .ok (.iconst 0, 1) := by decide +kernel
theorem dL_law_344 : decode cL_law 344 = .ok (.ireturn, 1) := by decide +kernel
theorem dL_law_345 : decode cL_law 345 = .ok (.aload_n 1, 1) := by decide +kernel
theorem dL_law_346 : decode cL_law 346 = .ok (.aload_n 0, 1) := by decide +kernel
theorem dL_law_347 : decode cL_law 347 = .ok (.iload_n 3, 1) := by decide +kernel
theorem dL_law_348 : decode cL_law 348 = .ok (.iconst 1, 1) := by decide +kernel
theorem dL_law_349 : decode cL_law 349 = .ok (.iadd, 1) := by decide +kernel
theorem dL_law_350 : decode cL_law 350 = .ok (.iaload, 1) := by decide +kernel
theorem dL_law_351 : decode cL_law 351 = .ok (.aload_n 0, 1) := by decide +kernel
theorem dL_law_352 : decode cL_law 352 = .ok (.iload_n 3, 1) := by decide +kernel
theorem dL_law_353 : decode cL_law 353 = .ok (.iconst 2, 1) := by decide +kernel
theorem dL_law_354 : decode cL_law 354 = .ok (.iadd, 1) := by decide +kernel
theorem dL_law_355 : decode cL_law 355 = .ok (.iaload, 1) := by decide +kernel
theorem dL_law_356 : decode cL_law 356 = .ok (.aload_n 0, 1) := by decide +kernel
theorem dL_law_357 : decode cL_law 357 = .ok (.iload_n 3, 1) := by decide +kernel
theorem dL_law_358 : decode cL_law 358 = .ok (.iconst 3, 1) := by decide +kernel
theorem dL_law_359 : decode cL_law 359 = .ok (.iadd, 1) := by decide +kernel
theorem dL_law_360 : decode cL_law 360 = .ok (.iaload, 1) := by decide +kernel
theorem dL_law_361 : decode cL_law 361 = .ok (.invokevirtual 53, 3) := by decide +kernel
theorem dL_law_364 : decode cL_law 364 = .ok (.aload_n 2, 1) := by decide +kernel
theorem dL_law_365 : decode cL_law 365 = .ok (.aload_n 0, 1) := by decide +kernel
theorem dL_law_366 : decode cL_law 366 = .ok (.iload_n 3, 1) := by decide +kernel
theorem dL_law_367 : decode cL_law 367 = .ok (.iconst 1, 1) := by decide +kernel
theorem dL_law_368 : decode cL_law 368 = .ok (.iadd, 1) := by decide +kernel
theorem dL_law_369 : decode cL_law 369 = .ok (.iaload, 1) := by decide +kernel
theorem dL_law_370 : decode cL_law 370 = .ok (.aload_n 0, 1) := by decide +kernel
theorem dL_law_371 : decode cL_law 371 = .ok (.iload_n 3, 1) := by decide +kernel
theorem dL_law_372 : decode cL_law 372 = .ok (.iconst 2, 1) := by decide +kernel
theorem dL_law_373 : decode cL_law 373 = .ok (.iadd, 1) := by decide +kernel
theorem dL_law_374 : decode cL_law 374 = .ok (.iaload, 1) := by decide +kernel
theorem dL_law_375 : decode cL_law 375 = .ok (.aload_n 0, 1) := by decide +kernel
theorem dL_law_376 : decode cL_law 376 = .ok (.iload_n 3, 1) := by decide +kernel
theorem dL_law_377 : decode cL_law 377 = .ok (.iconst 3, 1) := by decide +kernel
theorem dL_law_378 : decode cL_law 378 = .ok (.iadd, 1) := by decide +kernel
theorem dL_law_379 : decode cL_law 379 = .ok (.iaload, 1) := by decide +kernel
theorem dL_law_380 : decode cL_law 380 = .ok (.invokevirtual 56, 3) := by decide +kernel
theorem dL_law_383 : decode cL_law 383 = .ok (.if_icmp .eq 225, 3) := by decide +kernel
theorem dL_law_386 : decode cL_law 386 = .ok (.iconst 0, 1) := by decide +kernel
theorem dL_law_387 : decode cL_law 387 = .ok (.ireturn, 1) := by decide +kernel
theorem dL_law_388 : decode cL_law 388 = .ok (.aload_n 1, 1) := by decide +kernel
theorem dL_law_389 : decode cL_law 389 = .ok (.aload_n 0, 1) := by decide +kernel
theorem dL_law_390 : decode cL_law 390 = .ok (.iload_n 3, 1) := by decide +kernel
theorem dL_law_391 : decode cL_law 391 = .ok (.iconst 1, 1) := by decide +kernel
theorem dL_law_392 : decode cL_law 392 = .ok (.iadd, 1) := by decide +kernel
theorem dL_law_393 : decode cL_law 393 = .ok (.iaload, 1) := by decide +kernel
theorem dL_law_394 : decode cL_law 394 = .ok (.invokevirtual 57, 3) := by decide +kernel
theorem dL_law_397 : decode cL_law 397 = .ok (.aload_n 2, 1) := by decide +kernel
theorem dL_law_398 : decode cL_law 398 = .ok (.aload_n 0, 1) := by decide +kernel
theorem dL_law_399 : decode cL_law 399 = .ok (.iload_n 3, 1) := by decide +kernel
theorem dL_law_400 : decode cL_law 400 = .ok (.iconst 1, 1) := by decide +kernel
theorem dL_law_401 : decode cL_law 401 = .ok (.iadd, 1) := by decide +kernel
theorem dL_law_402 : decode cL_law 402 = .ok (.iaload, 1) := by decide +kernel
theorem dL_law_403 : decode cL_law 403 = .ok (.invokevirtual 60, 3) := by decide +kernel
theorem dL_law_406 : decode cL_law 406 = .ok (.if_icmp .eq 202, 3) := by decide +kernel
theorem dL_law_409 : decode cL_law 409 = .ok (.iconst 0, 1) := by decide +kernel
theorem dL_law_410 : decode cL_law 410 = .ok (.ireturn, 1) := by decide +kernel
theorem dL_law_411 : decode cL_law 411 = .ok (.aload_n 1, 1) := by decide +kernel
theorem dL_law_412 : decode cL_law 412 = .ok (.aload_n 0, 1) := by decide +kernel
theorem dL_law_413 : decode cL_law 413 = .ok (.iload_n 3, 1) := by decide +kernel
theorem dL_law_414 : decode cL_law 414 = .ok (.iconst 1, 1) := by decide +kernel
theorem dL_law_415 : decode cL_law 415 = .ok (.iadd, 1) := by decide +kernel
theorem dL_law_416 : decode cL_law 416 = .ok (.iaload, 1) := by decide +kernel
theorem dL_law_417 : decode cL_law 417 = .ok (.aload_n 0, 1) := by decide +kernel
theorem dL_law_418 : decode cL_law 418 = .ok (.iload_n 3, 1) := by decide +kernel
theorem dL_law_419 : decode cL_law 419 = .ok (.iconst 2, 1) := by decide +kernel
theorem dL_law_420 : decode cL_law 420 = .ok (.iadd, 1) := by decide +kernel
theorem dL_law_421 : decode cL_law 421 = .ok (.iaload, 1) := by decide +kernel
theorem dL_law_422 : decode cL_law 422 = .ok (.invokevirtual 61, 3) := by decide +kernel
theorem dL_law_425 : decode cL_law 425 = .ok (.aload_n 2, 1) := by decide +kernel
theorem dL_law_426 : decode cL_law 426 = .ok (.aload_n 0, 1) := by decide +kernel
theorem dL_law_427 : decode cL_law 427 = .ok (.iload_n 3, 1) := by decide +kernel
theorem dL_law_428 : decode cL_law 428 = .ok (.iconst 1, 1) := by decide +kernel
theorem dL_law_429 : decode cL_law 429 = .ok (.iadd, 1) := by decide +kernel
theorem dL_law_430 : decode cL_law 430 = .ok (.iaload, 1) := by decide +kernel
theorem dL_law_431 : decode cL_law 431 = .ok (.aload_n 0, 1) := by decide +kernel
theorem dL_law_432 : decode cL_law 432 = .ok (.iload_n 3, 1) := by decide +kernel
theorem dL_law_433 : decode cL_law 433 = .ok (.iconst 2, 1) := by decide +kernel
theorem dL_law_434 : decode cL_law 434 = .ok (.iadd, 1) := by decide +kernel
theorem dL_law_435 : decode cL_law 435 = .ok (.iaload, 1) := by decide +kernel
theorem dL_law_436 : decode cL_law 436 = .ok (.invokevirtual 64, 3) := by decide +kernel
theorem dL_law_439 : decode cL_law 439 = .ok (.if_icmp .eq 169, 3) := by decide +kernel
theorem dL_law_442 : decode cL_law 442 = .ok (.iconst 0, 1) := by decide +kernel
theorem dL_law_443 : decode cL_law 443 = .ok (.ireturn, 1) := by decide +kernel
theorem dL_law_444 : decode cL_law 444 = .ok (.aload_n 1, 1) := by decide +kernel
theorem dL_law_445 : decode cL_law 445 = .ok (.aload_n 0, 1) := by decide +kernel
theorem dL_law_446 : decode cL_law 446 = .ok (.iload_n 3, 1) := by decide +kernel
theorem dL_law_447 : decode cL_law 447 = .ok (.iconst 1, 1) := by decide +kernel
theorem dL_law_448 : decode cL_law 448 = .ok (.iadd, 1) := by decide +kernel
theorem dL_law_449 : decode cL_law 449 = .ok (.iaload, 1) := by decide +kernel
theorem dL_law_450 : decode cL_law 450 = .ok (.invokevirtual 65, 3) := by decide +kernel
theorem dL_law_453 : decode cL_law 453 = .ok (.aload_n 2, 1) := by decide +kernel
theorem dL_law_454 : decode cL_law 454 = .ok (.aload_n 0, 1) := by decide +kernel
theorem dL_law_455 : decode cL_law 455 = .ok (.iload_n 3, 1) := by decide +kernel
theorem dL_law_456 : decode cL_law 456 = .ok (.iconst 1, 1) := by decide +kernel
theorem dL_law_457 : decode cL_law 457 = .ok (.iadd, 1) := by decide +kernel
theorem dL_law_458 : decode cL_law 458 = .ok (.iaload, 1) := by decide +kernel
theorem dL_law_459 : decode cL_law 459 = .ok (.invokevirtual 68, 3) := by decide +kernel
theorem dL_law_462 : decode cL_law 462 = .ok (.if_icmp .eq 146, 3) := by decide +kernel
theorem dL_law_465 : decode cL_law 465 = .ok (.iconst 0, 1) := by decide +kernel
theorem dL_law_466 : decode cL_law 466 = .ok (.ireturn, 1) := by decide +kernel
theorem dL_law_467 : decode cL_law 467 = .ok (.aload_n 1, 1) := by decide +kernel
theorem dL_law_468 : decode cL_law 468 = .ok (.aload_n 0, 1) := by decide +kernel
theorem dL_law_469 : decode cL_law 469 = .ok (.iload_n 3, 1) := by decide +kernel
theorem dL_law_470 : decode cL_law 470 = .ok (.iconst 1, 1) := by decide +kernel
theorem dL_law_471 : decode cL_law 471 = .ok (.iadd, 1) := by decide +kernel
theorem dL_law_472 : decode cL_law 472 = .ok (.iaload, 1) := by decide +kernel
theorem dL_law_473 : decode cL_law 473 = .ok (.invokevirtual 69, 3) := by decide +kernel
theorem dL_law_476 : decode cL_law 476 = .ok (.aload_n 2, 1) := by decide +kernel
theorem dL_law_477 : decode cL_law 477 = .ok (.aload_n 0, 1) := by decide +kernel
theorem dL_law_478 : decode cL_law 478 = .ok (.iload_n 3, 1) := by decide +kernel
theorem dL_law_479 : decode cL_law 479 = .ok (.iconst 1, 1) := by decide +kernel
theorem dL_law_480 : decode cL_law 480 = .ok (.iadd, 1) := by decide +kernel
theorem dL_law_481 : decode cL_law 481 = .ok (.iaload, 1) := by decide +kernel
theorem dL_law_482 : decode cL_law 482 = .ok (.invokevirtual 72, 3) := by decide +kernel
theorem dL_law_485 : decode cL_law 485 = .ok (.if_icmp .eq 123, 3) := by decide +kernel
theorem dL_law_488 : decode cL_law 488 = .ok (.iconst 0, 1) := by decide +kernel
theorem dL_law_489 : decode cL_law 489 = .ok (.ireturn, 1) := by decide +kernel
theorem dL_law_490 : decode cL_law 490 = .ok (.aload_n 1, 1) := by decide +kernel
theorem dL_law_491 : decode cL_law 491 = .ok (.invokevirtual 73, 3) := by decide +kernel
theorem dL_law_494 : decode cL_law 494 = .ok (.aload_n 2, 1) := by decide +kernel
theorem dL_law_495 : decode cL_law 495 = .ok (.invokevirtual 76, 3) := by decide +kernel
theorem dL_law_498 : decode cL_law 498 = .ok (.if_icmp .eq 110, 3) := by decide +kernel
theorem dL_law_501 : decode cL_law 501 = .ok (.iconst 0, 1) := by decide +kernel
theorem dL_law_502 : decode cL_law 502 = .ok (.ireturn, 1) := by decide +kernel
theorem dL_law_503 : decode cL_law 503 = .ok (.aload_n 1, 1) := by decide +kernel
theorem dL_law_504 : decode cL_law 504 = .ok (.aload_n 0, 1) := by decide +kernel
theorem dL_law_505 : decode cL_law 505 = .ok (.iload_n 3, 1) := by decide +kernel
theorem dL_law_506 : decode cL_law 506 = .ok (.iconst 1, 1) := by decide +kernel
theorem dL_law_507 : decode cL_law 507 = .ok (.iadd, 1) := by decide +kernel
theorem dL_law_508 : decode cL_law 508 = .ok (.iaload, 1) := by decide +kernel
theorem dL_law_509 : decode cL_law 509 = .ok (.invokevirtual 77, 3) := by decide +kernel
theorem dL_law_512 : decode cL_law 512 = .ok (.aload_n 2, 1) := by decide +kernel
theorem dL_law_513 : decode cL_law 513 = .ok (.aload_n 0, 1) := by decide +kernel
theorem dL_law_514 : decode cL_law 514 = .ok (.iload_n 3, 1) := by decide +kernel
theorem dL_law_515 : decode cL_law 515 = .ok (.iconst 1, 1) := by decide +kernel
theorem dL_law_516 : decode cL_law 516 = .ok (.iadd, 1) := by decide +kernel
theorem dL_law_517 : decode cL_law 517 = .ok (.iaload, 1) := by decide +kernel
theorem dL_law_518 : decode cL_law 518 = .ok (.invokevirtual 80, 3) := by decide +kernel
theorem dL_law_521 : decode cL_law 521 = .ok (.if_icmp .eq 87, 3) := by decide +kernel
theorem dL_law_524 : decode cL_law 524 = .ok (.iconst 0, 1) := by decide +kernel
theorem dL_law_525 : decode cL_law 525 = .ok (.ireturn, 1) := by decide +kernel
theorem dL_law_526 : decode cL_law 526 = .ok (.aload_n 1, 1) := by decide +kernel
theorem dL_law_527 : decode cL_law 527 = .ok (.invokevirtual 81, 3) := by decide +kernel
theorem dL_law_530 : decode cL_law 530 = .ok (.aload_n 2, 1) := by decide +kernel
theorem dL_law_531 : decode cL_law 531 = .ok (.invokevirtual 84, 3) := by decide +kernel
theorem dL_law_534 : decode cL_law 534 = .ok (.if_icmp .eq 74, 3) := by decide +kernel
theorem dL_law_537 : decode cL_law 537 = .ok (.iconst 0, 1) := by decide +kernel
theorem dL_law_538 : decode cL_law 538 = .ok (.ireturn, 1) := by decide +kernel
theorem dL_law_539 : decode cL_law 539 = .ok (.aload_n 1, 1) := by decide +kernel
theorem dL_law_540 : decode cL_law 540 = .ok (.aload_n 0, 1) := by decide +kernel
theorem dL_law_541 : decode cL_law 541 = .ok (.iload_n 3, 1) := by decide +kernel
theorem dL_law_542 : decode cL_law 542 = .ok (.iconst 1, 1) := by decide +kernel
theorem dL_law_543 : decode cL_law 543 = .ok (.iadd, 1) := by decide +kernel
theorem dL_law_544 : decode cL_law 544 = .ok (.iaload, 1) := by decide +kernel
theorem dL_law_545 : decode cL_law 545 = .ok (.invokevirtual 85, 3) := by decide +kernel
theorem dL_law_548 : decode cL_law 548 = .ok (.aload_n 2, 1) := by decide +kernel
theorem dL_law_549 : decode cL_law 549 = .ok (.aload_n 0, 1) := by decide +kernel
theorem dL_law_550 : decode cL_law 550 = .ok (.iload_n 3, 1) := by decide +kernel
theorem dL_law_551 : decode cL_law 551 = .ok (.iconst 1, 1) := by decide +kernel
theorem dL_law_552 : decode cL_law 552 = .ok (.iadd, 1) := by decide +kernel
theorem dL_law_553 : decode cL_law 553 = .ok (.iaload, 1) := by decide +kernel
theorem dL_law_554 : decode cL_law 554 = .ok (.invokevirtual 88, 3) := by decide +kernel
theorem dL_law_557 : decode cL_law 557 = .ok (.if_icmp .eq 51, 3) := by decide +kernel
theorem dL_law_560 : decode cL_law 560 = .ok (.iconst 0, 1) := by decide +kernel
theorem dL_law_561 : decode cL_law 561 = .ok (.ireturn, 1) := by decide +kernel
theorem dL_law_562 : decode cL_law 562 = .ok (.aload_n 1, 1) := by decide +kernel
theorem dL_law_563 : decode cL_law 563 = .ok (.aload_n 0, 1) := by decide +kernel
theorem dL_law_564 : decode cL_law 564 = .ok (.iload_n 3, 1) := by decide +kernel
theorem dL_law_565 : decode cL_law 565 = .ok (.iconst 1, 1) := by decide +kernel
theorem dL_law_566 : decode cL_law 566 = .ok (.iadd, 1) := by decide +kernel
theorem dL_law_567 : decode cL_law 567 = .ok (.iaload, 1) := by decide +kernel
theorem dL_law_568 : decode cL_law 568 = .ok (.invokevirtual 89, 3) := by decide +kernel
theorem dL_law_571 : decode cL_law 571 = .ok (.aload_n 2, 1) := by decide +kernel
theorem dL_law_572 : decode cL_law 572 = .ok (.aload_n 0, 1) := by decide +kernel
theorem dL_law_573 : decode cL_law 573 = .ok (.iload_n 3, 1) := by decide +kernel
theorem dL_law_574 : decode cL_law 574 = .ok (.iconst 1, 1) := by decide +kernel
theorem dL_law_575 : decode cL_law 575 = .ok (.iadd, 1) := by decide +kernel
theorem dL_law_576 : decode cL_law 576 = .ok (.iaload, 1) := by decide +kernel
theorem dL_law_577 : decode cL_law 577 = .ok (.invokevirtual 92, 3) := by decide +kernel
theorem dL_law_580 : decode cL_law 580 = .ok (.if_icmp .eq 28, 3) := by decide +kernel
theorem dL_law_583 : decode cL_law 583 = .ok (.iconst 0, 1) := by decide +kernel
theorem dL_law_584 : decode cL_law 584 = .ok (.ireturn, 1) := by decide +kernel
theorem dL_law_585 : decode cL_law 585 = .ok (.aload_n 1, 1) := by decide +kernel
theorem dL_law_586 : decode cL_law 586 = .ok (.aload_n 0, 1) := by decide +kernel
theorem dL_law_587 : decode cL_law 587 = .ok (.iload_n 3, 1) := by decide +kernel
theorem dL_law_588 : decode cL_law 588 = .ok (.iconst 1, 1) := by decide +kernel
theorem dL_law_589 : decode cL_law 589 = .ok (.iadd, 1) := by decide +kernel
theorem dL_law_590 : decode cL_law 590 = .ok (.iaload, 1) := by decide +kernel
theorem dL_law_591 : decode cL_law 591 = .ok (.invokevirtual 93, 3) := by decide +kernel
theorem dL_law_594 : decode cL_law 594 = .ok (.aload_n 2, 1) := by decide +kernel
theorem dL_law_595 : decode cL_law 595 = .ok (.aload_n 0, 1) := by decide +kernel
theorem dL_law_596 : decode cL_law 596 = .ok (.iload_n 3, 1) := by decide +kernel
theorem dL_law_597 : decode cL_law 597 = .ok (.iconst 1, 1) := by decide +kernel
theorem dL_law_598 : decode cL_law 598 = .ok (.iadd, 1) := by decide +kernel
theorem dL_law_599 : decode cL_law 599 = .ok (.iaload, 1) := by decide +kernel
theorem dL_law_600 : decode cL_law 600 = .ok (.invokevirtual 96, 3) := by decide +kernel
theorem dL_law_603 : decode cL_law 603 = .ok (.if_icmp .eq 5, 3) := by decide +kernel
theorem dL_law_606 : decode cL_law 606 = .ok (.iconst 0, 1) := by decide +kernel
theorem dL_law_607 : decode cL_law 607 = .ok (.ireturn, 1) := by decide +kernel
theorem dL_law_608 : decode cL_law 608 = .ok (.iinc 3 4, 3) := by decide +kernel
theorem dL_law_611 : decode cL_law 611 = .ok (.goto (-593), 3) := by decide +kernel
theorem dL_law_614 : decode cL_law 614 = .ok (.iconst 1, 1) := by decide +kernel
theorem dL_law_615 : decode cL_law 615 = .ok (.ireturn, 1) := by decide +kernel
end
section
/-! ===== the abstract machine: ints as Int, cells by number, one world ===== -/
def gw_tbl : List Cond := lw_tbl.filter goodWord
abbrev AV : Type := Int ⊕ (Int ⊕ Option Nat)
abbrev AH : Type := List (Nat × Nat) × (Nat → Nat → Option Nat) × (Nat → Nat → Int)
abbrev GL : Type := Launch × va_G × (ClassId × ClassId × ClassId) × Nat
abbrev MD : Type := MethodName × ByteArray × Nat × Option FieldType × Room
abbrev aI (z : Int) : AV := .inl z
abbrev aJ (z : Int) : AV := .inr (.inl z)
abbrev aQ (o : Option Nat) : AV := .inr (.inr o)
abbrev aR (c : Nat) : AV := .inr (.inr (some c))
abbrev aN : AV := .inr (.inr none)
def inI (z : Int) : Prop := -2147483648 ≤ z ∧ z < 2147483648
def inL (z : Int) : Prop := -9223372036854775808 ≤ z ∧ z < 9223372036854775808
def okV (a : AV) : Prop := match a with
  | .inl z => inI z
  | .inr (.inl z) => inL z
  | .inr (.inr _) => True
def cv (B : Nat) (a : AV) : Value := match a with
  | .inl z => .int (Int32.ofInt z)
  | .inr (.inl z) => .long (Int64.ofInt z)
  | .inr (.inr o) => va_rf (o.map (fun c => B + c))
def catA (a : AV) : Nat := match a with
  | .inr (.inl _) => 2
  | _ => 1
def fty (ci k : Nat) : FieldType := match ci with
  | 0 => tyX0 k
  | 1 => tyX1 k
  | 2 => tyX2 k
  | 3 => tyX3 k
  | 4 => tyX4 k
  | 5 => tyX5 k
  | 6 => tyX6 k
  | _ => tyX7 k
def isR (t : FieldType) : Bool := match t with
  | .object _ => true
  | .array _ => true
  | _ => false
def fv (B k j : Nat) (o : Option Nat) (z : Int) : Value := if isR (fty k j) then va_rf (o.map (fun c => B + c)) else .int (Int32.ofInt z)
def wcell (K : ClassId × ClassId × ClassId) (B : Nat) (kl : Nat × Nat) (r : Nat → Option Nat) (x : Nat → Int) : va_E := match kl.1 with
  | 0 => .inl (K.1, kl.2, .inl (fun j => Int32.ofInt (x j)))
  | 1 => .inl (K.2.1, kl.2, .inl (fun j => Int32.ofInt (x j)))
  | 2 => .inl (K.2.2, kl.2, .inr (.inr (.inr (.inr (fun j => (r j).map (fun c => B + c))))))
  | k + 3 => .inr (k, (List.range kl.2).map (fun j => fv B k j (r j) (x j)))
def wsH (K : ClassId × ClassId × ClassId) (B : Nat) (h : AH) : va_W := (List.range h.1.length).map (fun i => (B + i, wcell K B (h.1.getD i (0, 0)) (h.2.1 i) (h.2.2 i)))
def tysK (K : ClassId × ClassId × ClassId) : List (ClassId × FieldType) := [(K.1, .int), (K.2.1, .boolean), (K.2.2, .object RX2)]
def KK (g : GL) (U : State) : Prop := va_K g.2.1 vwCl (tysK g.2.2.1) U ∧ va_AO RX2 U
theorem KK.moved {g : GL} {u U : State} (hvm : u.vm.Alike U.vm) (h : KK g u) : KK g U := ⟨va_K.moved hvm h.1, va_AO.moved hvm h.2⟩
/-- n0: the heap's size as the method began, kc: the cells that it has made -/
def World (g : GL) (h : AH) (n0 kc : Nat) (H : Heap) : Prop := n0 + kc = g.2.2.2 + h.1.length ∧ va_P g.2.1 vwCl (wsH g.2.2.1 g.2.2.2 h) H ∧ ∀ c k, inI (h.2.2 c k)
def Ctx (g : GL) (M : MD) (p : Program) (s : State) (m : MethodId) (args : Array Value) (meth : Method) (c : Code) : Prop :=
  p.tables.exec = Jvm.exec ∧ c.code = M.2.1 ∧ c.maxLocals = M.2.2.1 ∧ meth.sig.returnType = M.2.2.2.1 ∧ s.vm.findClass M.1.cls = some m.cls ∧ (∀ w ∈ gw_tbl, w.before args s = true) ∧ meth.locks = false ∧ meth.name = M.1.name ∧ KK g s ∧ g.2.2.2 ≤ s.heap.size
def Lh (B : Nat) (lsm : Array Slot) (nL : Nat) (ls : List (Option AV)) : Prop := lsm.size = nL ∧ ls.length = nL ∧ lv_wf lsm ∧ ∀ (i : Nat) (a : AV), ls[i]? = some (some a) → lsm[i]? = some (Slot.val (cv B a)) ∧ okV a
abbrev PT : Type := Option AV → AH → Prop
def QQ (g : GL) (M : MD) (P : PT) : Array Value → State → Outcome → State → Prop := fun _ st oc t => (∃ (r : Option AV) (h' : AH), oc = .returned (r.map (cv g.2.2.2)) ∧ (∀ a, r = some a → okV a) ∧ P r h' ∧ World g h' st.heap.size M.2.2.2.2.cells t.heap ∧ KK g t) ∧ va_F (fun q => g.2.2.2 ≤ q) st t
def Wv (g : GL) (M : MD) (kc ks pc : Nat) (ls : List (Option AV)) (st : List AV) (h : AH) (P : PT) : Prop :=
  ∀ (p : Program) (e : Env) (s : State) (m : MethodId) (args : Array Value) (below : List Frame) (meth : Method) (c : Code) (H : Heap) (locs : List Loc) (lsm : Array Slot),
    Ctx g M p s m args meth c → World g h s.heap.size kc H → va_S (fun q => g.2.2.2 ≤ q) s.heap H locs → Lh g.2.2.2 lsm M.2.2.1 ls → (∀ a ∈ st, okV a) →
    W p g.1 e M.2.2.2.2 s m args below meth c H locs kc ks (MQ below (QQ g M P) args s M.2.2.2.2.cells M.2.2.2.2.slots (fun q => g.2.2.2 ≤ q)) (F0 m pc lsm (st.map (cv g.2.2.2)))
def wsM (M : MD) : List Cond := .code M.1 M.2.1 M.2.2.1 M.2.2.2.1 :: gw_tbl
def PP (g : GL) (as : List AV) (h : AH) : State → Prop := fun U => (∀ a ∈ as, okV a) ∧ World g h U.heap.size 0 U.heap ∧ KK g U
def Cv (g : GL) (M : MD) (as : List AV) (h : AH) (P : PT) : Prop :=
  Met g.1 M.1 (wsM M) M.2.2.2.2 (va_Pc (as.map (cv g.2.2.2)) (PP g as h)) (QQ g M P) M.2.2.2.2.cells M.2.2.2.2.slots (fun q => g.2.2.2 ≤ q)
/-! numbers -/
theorem ti {a : Int} (h : inI a) : (Int32.ofInt a).toInt = a := by
  rw [Int32.toInt_ofInt]
  exact Int.bmod_eq_of_le (by have := h.1; simp; omega) (by have := h.2; simp; omega)
theorem tl {a : Int} (h : inL a) : (Int64.ofInt a).toInt = a := by
  rw [Int64.toInt_ofInt]
  exact Int.bmod_eq_of_le (by have := h.1; simp; omega) (by have := h.2; simp; omega)
theorem ci_lt {a b : Int} (ha : inI a) (hb : inI b) : Int32.ofInt a < Int32.ofInt b ↔ a < b := by
  rw [Int32.lt_iff_toInt_lt, ti ha, ti hb]
theorem ci_le {a b : Int} (ha : inI a) (hb : inI b) : Int32.ofInt a ≤ Int32.ofInt b ↔ a ≤ b := by
  rw [Int32.le_iff_toInt_le, ti ha, ti hb]
theorem ci_eq {a b : Int} (ha : inI a) (hb : inI b) : Int32.ofInt a = Int32.ofInt b ↔ a = b := by
  rw [← Int32.toInt_inj, ti ha, ti hb]
theorem ci_0 : inI 0 := by constructor <;> decide
theorem ci_lt0 {a : Int} (ha : inI a) : Int32.ofInt a < 0 ↔ a < 0 := ci_lt (b := 0) ha ci_0
theorem ci_le0 {a : Int} (ha : inI a) : Int32.ofInt a ≤ 0 ↔ a ≤ 0 := ci_le (b := 0) ha ci_0
theorem ci_0lt {a : Int} (ha : inI a) : 0 < Int32.ofInt a ↔ 0 < a := ci_lt (a := 0) ci_0 ha
theorem ci_0le {a : Int} (ha : inI a) : 0 ≤ Int32.ofInt a ↔ 0 ≤ a := ci_le (a := 0) ci_0 ha
theorem ci_eq0 {a : Int} (ha : inI a) : Int32.ofInt a = 0 ↔ a = 0 := ci_eq (b := 0) ha ci_0
theorem ci_ix {i : Int} {n : Nat} (h0 : 0 ≤ i) (h1 : i < n) (hi : inI i) : vp_in (Int32.ofInt i) n := by
  rw [vp_in_iff, ti hi]
  exact ⟨h0, h1⟩
theorem ci_cl {i : Int} (hi : inI i) : (Int32.ofInt i).toNatClampNeg = i.toNat := by
  show (Int32.ofInt i).toInt.toNat = _
  rw [ti hi]
theorem inI_toInt (x : Int32) : inI x.toInt := ⟨by have := Int32.le_toInt x; simpa using this, by have := Int32.toInt_lt x; simpa using this⟩
theorem ofInt_toInt32 (x : Int32) : Int32.ofInt x.toInt = x := by simp
/-! the world's list -/
theorem wsH_at (K : ClassId × ClassId × ClassId) (B : Nat) (h : AH) {c : Nat} {kl : Nat × Nat} (hc : h.1[c]? = some kl) : (wsH K B h)[c]? = some (B + c, wcell K B kl (h.2.1 c) (h.2.2 c)) := by
  have hl := (List.getElem?_eq_some_iff.mp hc).1
  unfold wsH
  rw [List.getElem?_map, List.getElem?_range hl]
  simp [List.getD, hc]
theorem wsH_inv {K : ClassId × ClassId × ClassId} {B : Nat} {h : AH} {k : Nat} {q : Nat × va_E} (hq : (wsH K B h)[k]? = some q) : k < h.1.length ∧ q.1 = B + k := by
  unfold wsH at hq
  rw [List.getElem?_map] at hq
  by_cases hl : k < h.1.length
  · rw [List.getElem?_range hl] at hq
    simp at hq
    exact ⟨hl, by rw [← hq]⟩
  · rw [List.getElem?_eq_none (by simp; omega)] at hq
    simp at hq
theorem wsH_D (K : ClassId × ClassId × ClassId) (B : Nat) (h : AH) : va_D (fun q => B ≤ q) (wsH K B h) := by
  refine ⟨fun i j p q hi hj he => ?_, fun k q hk => ?_⟩
  · have h1 := (wsH_inv hi).2
    have h2 := (wsH_inv hj).2
    omega
  · have h1 := (wsH_inv hk).2
    show B ≤ q.1
    omega
theorem wsH_set (K : ClassId × ClassId × ClassId) (B : Nat) (sh : List (Nat × Nat)) (r r' : Nat → Nat → Option Nat) (v v' : Nat → Nat → Int) {c : Nat} {kl : Nat × Nat} (hc : sh[c]? = some kl) (hr : ∀ d, d ≠ c → r' d = r d) (hv : ∀ d, d ≠ c → v' d = v d) :
    (wsH K B (sh, r, v)).set c (B + c, wcell K B kl (r' c) (v' c)) = wsH K B (sh, r', v') := by
  have hl := (List.getElem?_eq_some_iff.mp hc).1
  apply List.ext_getElem?
  intro i
  by_cases hi : i = c
  · subst hi
    rw [List.getElem?_set_self (by unfold wsH; simp; exact hl), wsH_at K B (sh, r', v') hc]
  · rw [List.getElem?_set_ne (Ne.symm hi)]
    by_cases hb : i < sh.length
    · have hs : sh[i]? = some sh[i] := List.getElem?_eq_getElem hb
      rw [wsH_at K B (sh, r, v) hs, wsH_at K B (sh, r', v') hs]
      simp only [hr i hi, hv i hi]
    · rw [List.getElem?_eq_none (by unfold wsH; simp; omega), List.getElem?_eq_none (by unfold wsH; simp; omega)]
theorem wsH_push (K : ClassId × ClassId × ClassId) (B : Nat) (sh : List (Nat × Nat)) (r r' : Nat → Nat → Option Nat) (v v' : Nat → Nat → Int) (kl : Nat × Nat) (hr : ∀ d, d < sh.length → r' d = r d) (hv : ∀ d, d < sh.length → v' d = v d) :
    wsH K B (sh, r, v) ++ [(B + sh.length, wcell K B kl (r' sh.length) (v' sh.length))] = wsH K B (sh ++ [kl], r', v') := by
  apply List.ext_getElem?
  intro i
  have hlen : (wsH K B (sh, r, v)).length = sh.length := by unfold wsH; simp
  rcases Nat.lt_trichotomy i sh.length with hb | hb | hb
  · rw [List.getElem?_append_left (by rw [hlen]; exact hb)]
    have hs : sh[i]? = some sh[i] := List.getElem?_eq_getElem hb
    have hs2 : (sh ++ [kl])[i]? = some sh[i] := by rw [List.getElem?_append_left hb]; exact hs
    rw [wsH_at K B (sh, r, v) hs, wsH_at K B (sh ++ [kl], r', v') hs2]
    simp only [hr i hb, hv i hb]
  · subst hb
    rw [List.getElem?_append_right (by rw [hlen]; exact Nat.le_refl _), hlen, Nat.sub_self]
    have hs2 : (sh ++ [kl])[sh.length]? = some kl := by simp
    rw [wsH_at K B (sh ++ [kl], r', v') hs2]
    rfl
  · rw [List.getElem?_eq_none (by simp [hlen]; omega), List.getElem?_eq_none (by unfold wsH; simp; omega)]
def up (v : Nat → Nat → Int) (c k : Nat) (z : Int) : Nat → Nat → Int := fun c' => if c' = c then (fun k' => if k' = k then z else v c k') else v c'
def upO (r : Nat → Nat → Option Nat) (c k : Nat) (z : Option Nat) : Nat → Nat → Option Nat := fun c' => if c' = c then (fun k' => if k' = k then z else r c k') else r c'
def upR (v : Nat → Nat → Int) (c : Nat) (f : Nat → Int) : Nat → Nat → Int := fun c' => if c' = c then f else v c'
theorem up_c (v : Nat → Nat → Int) (c k : Nat) (z : Int) : up v c k z c = fun k' => if k' = k then z else v c k' := by simp [up]
theorem up_n (v : Nat → Nat → Int) {c d : Nat} (k : Nat) (z : Int) (h : d ≠ c) : up v c k z d = v d := by simp [up, h]
theorem upO_c (v : Nat → Nat → Option Nat) (c k : Nat) (z : Option Nat) : upO v c k z c = fun k' => if k' = k then z else v c k' := by simp [upO]
theorem upO_n (v : Nat → Nat → Option Nat) {c d : Nat} (k : Nat) (z : Option Nat) (h : d ≠ c) : upO v c k z d = v d := by simp [upO, h]
theorem up_rng {v : Nat → Nat → Int} {c k : Nat} {z : Int} (h : ∀ c k, inI (v c k)) (hz : inI z) : ∀ c' k', inI (up v c k z c' k') := by
  intro c' k'
  unfold up
  split
  · dsimp only
    split
    · exact hz
    · exact h _ _
  · exact h _ _
/-! locals -/
theorem Lh.set {B nL : Nat} {lsm lsm' : Array Slot} {ls : List (Option AV)} {i : Nat} {a : AV} (h : Lh B lsm nL ls) (ha : okV a) (hz : ∀ b, i ≠ 0 → ls[i - 1]? = some (some b) → catA b = 1) (lv' : List (Nat × Value))
    (hl' : (i, cv B a) :: ((List.range nL).filterMap (fun j => match ls[j]? with | some (some b) => some (j, cv B b) | _ => none)).filter (fun q => !(q.1 == i) && !(q.1 + 1 == i && q.2.category == 2)) = lv') (h2 : lv_has lsm' nL lv') : Lh B lsm' nL (ls.set i (some a)) := by
  obtain ⟨h3, h4, h5, h6⟩ := h
  obtain ⟨g1, g2, g3⟩ := h2
  refine ⟨g1, by rw [List.length_set]; exact h4, g2, fun j b hj => ?_⟩
  by_cases hij : i = j
  · subst hij
    have hlt : i < ls.length := by
      have := (List.getElem?_eq_some_iff.mp hj).1
      rw [List.length_set] at this
      exact this
    rw [List.getElem?_set_self hlt] at hj
    have hab : a = b := by simpa using hj
    subst hab
    exact ⟨g3 (i, cv B a) (by rw [← hl']; exact List.mem_cons_self), ha⟩
  · rw [List.getElem?_set_ne hij] at hj
    refine ⟨g3 (j, cv B b) ?_, (h6 j b hj).2⟩
    rw [← hl']
    refine List.mem_cons_of_mem _ (List.mem_filter.mpr ⟨List.mem_filterMap.mpr ⟨j, List.mem_range.mpr (by rw [← h4]; exact (List.getElem?_eq_some_iff.mp hj).1), by rw [hj]⟩, ?_⟩)
    have e1 : (j == i) = false := by simp; omega
    simp only [e1, Bool.not_false, Bool.true_and]
    by_cases hj1 : j + 1 = i
    · have hc := hz b (by omega) (by rw [← hj1]; simpa using hj)
      have : (cv B b).category = 1 := by
        obtain z | z | z := b
        · rfl
        · cases hc
        · cases z <;> rfl
      simp [this]
    · have e2 : (j + 1 == i) = false := by simp; omega
      simp [e2]
theorem Lh.has {B nL : Nat} {lsm : Array Slot} {ls : List (Option AV)} (h : Lh B lsm nL ls) : lv_has lsm nL ((List.range nL).filterMap (fun j => match ls[j]? with | some (some b) => some (j, cv B b) | _ => none)) := by
  refine ⟨h.1, h.2.2.1, fun q hq => ?_⟩
  obtain ⟨j, hj, he⟩ := List.mem_filterMap.mp hq
  split at he
  · rename_i b hb
    cases he
    exact (h.2.2.2 j b hb).1
  · cases he
end
section
/-! ===== the rules, a row an instruction ===== -/
def inIb (z : Int) : Bool := decide (-2147483648 ≤ z) && decide (z < 2147483648)
theorem inI_b {z : Int} (h : inIb z = true) : inI z := by
  simp only [inIb, Bool.and_eq_true, decide_eq_true_eq] at h
  exact h
theorem okc {x : AV} {st : List AV} (hx : okV x) (h : ∀ a ∈ st, okV a) : ∀ a ∈ x :: st, okV a := List.forall_mem_cons.mpr ⟨hx, h⟩
theorem okh {x : AV} {st : List AV} (h : ∀ a ∈ x :: st, okV a) : okV x := (List.forall_mem_cons.mp h).1
theorem okt {x : AV} {st : List AV} (h : ∀ a ∈ x :: st, okV a) : ∀ a ∈ st, okV a := (List.forall_mem_cons.mp h).2
theorem cv_cat1 {B : Nat} {a : AV} (h : catA a = 1) : (cv B a).category = 1 := by
  obtain z | z | z := a
  · rfl
  · cases h
  · cases z <;> rfl
def notJ (o : Option AV) : Bool := match o with
  | some (.inr (.inl _)) => false
  | _ => true
theorem notJ_cat {o : Option AV} {b : AV} (h : o = some b) (hc : notJ o = true) : catA b = 1 := by
  subst h
  obtain z | z | z := b
  · rfl
  · cases hc
  · rfl
section RU
variable {g : GL} {M : MD} {kc ks pc q : Nat} {ls : List (Option AV)} {st : List AV} {h : AH} {P : PT}
theorem x_pc {q' : Nat} (e : q' = q) (k : Wv g M kc ks q' ls st h P) : Wv g M kc ks q ls st h P := e ▸ k
theorem x_st {ls' : List (Option AV)} {st' : List AV} {h' : AH} (k : Wv g M kc ks q ls' st' h' P) (e1 : ls' = ls) (e2 : st' = st) (e3 : h' = h) : Wv g M kc ks q ls st h P := by
  subst e1; subst e2; subst e3; exact k
theorem x_post {P' : PT} (k : Wv g M kc ks q ls st h P') (hp : ∀ r h', P' r h' → P r h') : Wv g M kc ks q ls st h P := by
  intro p e s m args below meth c H locs lsm C hW hS hL hst T hT X
  obtain ⟨t, a, o, b1, b2, ⟨⟨r, h', c1, c2, c3, c4⟩, b3⟩, b4⟩ := k p e s m args below meth c H locs lsm C hW hS hL hst T hT X
  exact ⟨t, a, o, b1, b2, ⟨⟨r, h', c1, c2, hp r h' c3, c4⟩, b3⟩, b4⟩

theorem x_ic {n : Int} (hd : decode M.2.1 pc = .ok (.iconst n, 1)) (hq : pc + 1 = q) (hr : inIb n = true) (k : Wv g M kc ks q ls (aI n :: st) h P) : Wv g M kc ks pc ls st h P := by
  intro p e s m args below meth c H locs lsm C hW hS hL hst
  subst hq
  exact lv_iconst C.1 C.2.1 hd rfl (k p e s m args below meth c H locs lsm C hW hS hL (okc (inI_b hr) hst))
theorem bi_v {n : Int} (h1 : -128 ≤ n) (h2 : n < 128) : (Int8.ofInt n).toInt32 = Int32.ofInt n := by
  rw [← Int32.toInt_inj, Int8.toInt_toInt32, Int8.toInt_ofInt, ti (a := n) ⟨by omega, by omega⟩]
  exact Int.bmod_eq_of_le (by simp; omega) (by simp; omega)
theorem si_v {n : Int} (h1 : -32768 ≤ n) (h2 : n < 32768) : (Int16.ofInt n).toInt32 = Int32.ofInt n := by
  rw [← Int32.toInt_inj, Int16.toInt_toInt32, Int16.toInt_ofInt, ti (a := n) ⟨by omega, by omega⟩]
  exact Int.bmod_eq_of_le (by simp; omega) (by simp; omega)
theorem x_bi {n : Int} (hd : decode M.2.1 pc = .ok (.bipush n, 2)) (hq : pc + 2 = q) (hr : (decide (-128 ≤ n) && decide (n < 128)) = true) (k : Wv g M kc ks q ls (aI n :: st) h P) : Wv g M kc ks pc ls st h P := by
  intro p e s m args below meth c H locs lsm C hW hS hL hst
  subst hq
  simp only [Bool.and_eq_true, decide_eq_true_eq] at hr
  exact lv_bipush C.1 C.2.1 hd (bi_v hr.1 hr.2) (k p e s m args below meth c H locs lsm C hW hS hL (okc (show inI n from ⟨by omega, by omega⟩) hst))
theorem x_si {n : Int} (hd : decode M.2.1 pc = .ok (.sipush n, 3)) (hq : pc + 3 = q) (hr : (decide (-32768 ≤ n) && decide (n < 32768)) = true) (k : Wv g M kc ks q ls (aI n :: st) h P) : Wv g M kc ks pc ls st h P := by
  intro p e s m args below meth c H locs lsm C hW hS hL hst
  subst hq
  simp only [Bool.and_eq_true, decide_eq_true_eq] at hr
  exact lv_sipush C.1 C.2.1 hd (si_v hr.1 hr.2) (k p e s m args below meth c H locs lsm C hW hS hL (okc (show inI n from ⟨by omega, by omega⟩) hst))
theorem x_lc {n : Fin 2} {z : Int} (hd : decode M.2.1 pc = .ok (.lconst n, 1)) (hq : pc + 1 = q) (hz : ((n : Nat) : Int) = z) (k : Wv g M kc ks q ls (aJ z :: st) h P) : Wv g M kc ks pc ls st h P := by
  intro p e s m args below meth c H locs lsm C hW hS hL hst
  subst hq
  have hn : (n : Nat) < 2 := n.2
  refine lv_lconst C.1 C.2.1 hd (v := Int64.ofInt z) (by rw [← hz]; exact (Int64.ofInt_eq_ofNat).symm) (k p e s m args below meth c H locs lsm C hW hS hL (okc (show inL z from ⟨by omega, by omega⟩) hst))
theorem x_null (hd : decode M.2.1 pc = .ok (.aconst_null, 1)) (hq : pc + 1 = q) (k : Wv g M kc ks q ls (aN :: st) h P) : Wv g M kc ks pc ls st h P := by
  intro p e s m args below meth c H locs lsm C hW hS hL hst
  subst hq
  exact lv_null C.1 C.2.1 hd (k p e s m args below meth c H locs lsm C hW hS hL (okc trivial hst))
theorem x_il_n {k : Fin 4} {z : Int} (hd : decode M.2.1 pc = .ok (.iload_n k, 1)) (hq : pc + 1 = q) (hl : ls[(k : Nat)]? = some (some (aI z))) (kk : Wv g M kc ks q ls (aI z :: st) h P) : Wv g M kc ks pc ls st h P := by
  intro p e s m args below meth c H locs lsm C hW hS hL hst
  subst hq
  exact lv_iload_n C.1 C.2.1 hd rfl (hL.2.2.2 _ _ hl).1 (kk p e s m args below meth c H locs lsm C hW hS hL (okc (hL.2.2.2 _ _ hl).2 hst))
theorem x_il {i : Nat} {z : Int} (hd : decode M.2.1 pc = .ok (.iload i, 2)) (hq : pc + 2 = q) (hl : ls[i]? = some (some (aI z))) (kk : Wv g M kc ks q ls (aI z :: st) h P) : Wv g M kc ks pc ls st h P := by
  intro p e s m args below meth c H locs lsm C hW hS hL hst
  subst hq
  exact lv_iload C.1 C.2.1 hd (hL.2.2.2 _ _ hl).1 (kk p e s m args below meth c H locs lsm C hW hS hL (okc (hL.2.2.2 _ _ hl).2 hst))
theorem x_al_n {k : Fin 4} {z : Nat} (hd : decode M.2.1 pc = .ok (.aload_n k, 1)) (hq : pc + 1 = q) (hl : ls[(k : Nat)]? = some (some (aR z))) (kk : Wv g M kc ks q ls (aR z :: st) h P) : Wv g M kc ks pc ls st h P := by
  intro p e s m args below meth c H locs lsm C hW hS hL hst
  subst hq
  exact lv_aload_n C.1 C.2.1 hd rfl (hL.2.2.2 _ _ hl).1 (kk p e s m args below meth c H locs lsm C hW hS hL (okc (hL.2.2.2 _ _ hl).2 hst))
theorem x_al {i : Nat} {z : Nat} (hd : decode M.2.1 pc = .ok (.aload i, 2)) (hq : pc + 2 = q) (hl : ls[i]? = some (some (aR z))) (kk : Wv g M kc ks q ls (aR z :: st) h P) : Wv g M kc ks pc ls st h P := by
  intro p e s m args below meth c H locs lsm C hW hS hL hst
  subst hq
  exact lv_aload C.1 C.2.1 hd (hL.2.2.2 _ _ hl).1 (kk p e s m args below meth c H locs lsm C hW hS hL (okc (hL.2.2.2 _ _ hl).2 hst))
theorem x_ll_n {k : Fin 4} {z : Int} (hd : decode M.2.1 pc = .ok (.lload_n k, 1)) (hq : pc + 1 = q) (hl : ls[(k : Nat)]? = some (some (aJ z))) (kk : Wv g M kc ks q ls (aJ z :: st) h P) : Wv g M kc ks pc ls st h P := by
  intro p e s m args below meth c H locs lsm C hW hS hL hst
  subst hq
  exact lv_lload_n C.1 C.2.1 hd rfl (hL.2.2.2 _ _ hl).1 (kk p e s m args below meth c H locs lsm C hW hS hL (okc (hL.2.2.2 _ _ hl).2 hst))
theorem x_ll {i : Nat} {z : Int} (hd : decode M.2.1 pc = .ok (.lload i, 2)) (hq : pc + 2 = q) (hl : ls[i]? = some (some (aJ z))) (kk : Wv g M kc ks q ls (aJ z :: st) h P) : Wv g M kc ks pc ls st h P := by
  intro p e s m args below meth c H locs lsm C hW hS hL hst
  subst hq
  exact lv_lload C.1 C.2.1 hd (hL.2.2.2 _ _ hl).1 (kk p e s m args below meth c H locs lsm C hW hS hL (okc (hL.2.2.2 _ _ hl).2 hst))
theorem x_is_n_g {k : Fin 4} {i : Nat} {z : Int} (hd : decode M.2.1 pc = .ok (.istore_n k, 1)) (hi : (k : Nat) = i) (hq : pc + 1 = q) (hn : i < ls.length) (hz : ∀ b, i ≠ 0 → ls[i - 1]? = some (some b) → catA b = 1) (kk : Wv g M kc ks q (ls.set i (some (aI z))) st h P) : Wv g M kc ks pc ls (aI z :: st) h P := by
  intro p e s m args below meth c H locs lsm C hW hS hL hst
  subst hq
  exact lv_istore_n C.1 C.2.1 hd hi hL.has (by rw [← hL.2.1]; exact hn) rfl (fun ls2 h2 => kk p e s m args below meth c H locs ls2 C hW hS (hL.set (okh hst) hz _ rfl h2) (okt hst))
theorem x_is_g {i : Nat} {z : Int} (hd : decode M.2.1 pc = .ok (.istore i, 2)) (hq : pc + 2 = q) (hn : i < ls.length) (hz : ∀ b, i ≠ 0 → ls[i - 1]? = some (some b) → catA b = 1) (kk : Wv g M kc ks q (ls.set i (some (aI z))) st h P) : Wv g M kc ks pc ls (aI z :: st) h P := by
  intro p e s m args below meth c H locs lsm C hW hS hL hst
  subst hq
  exact lv_istore C.1 C.2.1 hd hL.has (by rw [← hL.2.1]; exact hn) rfl (fun ls2 h2 => kk p e s m args below meth c H locs ls2 C hW hS (hL.set (okh hst) hz _ rfl h2) (okt hst))
theorem x_as_n_g {k : Fin 4} {i : Nat} {z : Nat} (hd : decode M.2.1 pc = .ok (.astore_n k, 1)) (hi : (k : Nat) = i) (hq : pc + 1 = q) (hn : i < ls.length) (hz : ∀ b, i ≠ 0 → ls[i - 1]? = some (some b) → catA b = 1) (kk : Wv g M kc ks q (ls.set i (some (aR z))) st h P) : Wv g M kc ks pc ls (aR z :: st) h P := by
  intro p e s m args below meth c H locs lsm C hW hS hL hst
  subst hq
  exact lv_astore_n C.1 C.2.1 hd hi hL.has (by rw [← hL.2.1]; exact hn) rfl (fun ls2 h2 => kk p e s m args below meth c H locs ls2 C hW hS (hL.set (okh hst) hz _ rfl h2) (okt hst))
theorem x_as_g {i : Nat} {z : Nat} (hd : decode M.2.1 pc = .ok (.astore i, 2)) (hq : pc + 2 = q) (hn : i < ls.length) (hz : ∀ b, i ≠ 0 → ls[i - 1]? = some (some b) → catA b = 1) (kk : Wv g M kc ks q (ls.set i (some (aR z))) st h P) : Wv g M kc ks pc ls (aR z :: st) h P := by
  intro p e s m args below meth c H locs lsm C hW hS hL hst
  subst hq
  exact lv_astore C.1 C.2.1 hd hL.has (by rw [← hL.2.1]; exact hn) rfl (fun ls2 h2 => kk p e s m args below meth c H locs ls2 C hW hS (hL.set (okh hst) hz _ rfl h2) (okt hst))
theorem x_ii_g {i : Nat} {n z : Int} (hd : decode M.2.1 pc = .ok (.iinc i n, 3)) (hq : pc + 3 = q) (hl : ls[i]? = some (some (aI z))) (hr : inI (z + n)) (hz : ∀ b, i ≠ 0 → ls[i - 1]? = some (some b) → catA b = 1) (kk : Wv g M kc ks q (ls.set i (some (aI (z + n)))) st h P) : Wv g M kc ks pc ls st h P := by
  intro p e s m args below meth c H locs lsm C hW hS hL hst
  subst hq
  have hn : i < M.2.2.1 := by rw [← hL.2.1]; exact (List.getElem?_eq_some_iff.mp hl).1
  have hmem : (i, cv g.2.2.2 (aI z)) ∈ ((List.range M.2.2.1).filterMap (fun j => match ls[j]? with | some (some b) => some (j, cv g.2.2.2 b) | _ => none)) := List.mem_filterMap.mpr ⟨i, List.mem_range.mpr hn, by rw [hl]⟩
  obtain ⟨kk0, hk0⟩ := List.getElem?_of_mem hmem
  exact lv_iinc C.1 C.2.1 hd hL.has (k := kk0) (x := Int32.ofInt z) (v := Int32.ofInt (z + n)) hk0 (Int32.ofInt_add z n).symm hn rfl (fun ls2 h2 => kk p e s m args below meth c H locs ls2 C hW hS (hL.set (a := aI (z + n)) hr hz _ rfl h2) hst)
theorem x_is0 {o0 : Option AV} {t : List (Option AV)} {z : Int} (hd : decode M.2.1 pc = .ok (.istore_n 0, 1)) (hq : pc + 1 = q) (kk : Wv g M kc ks q (some (aI z) :: t) st h P) : Wv g M kc ks pc (o0 :: t) (aI z :: st) h P := x_is_n_g (i := 0) hd rfl hq (by simp) (fun b hb0 _ => absurd rfl hb0) kk
theorem x_as0 {o0 : Option AV} {t : List (Option AV)} {z : Nat} (hd : decode M.2.1 pc = .ok (.astore_n 0, 1)) (hq : pc + 1 = q) (kk : Wv g M kc ks q (some (aR z) :: t) st h P) : Wv g M kc ks pc (o0 :: t) (aR z :: st) h P := x_as_n_g (i := 0) hd rfl hq (by simp) (fun b hb0 _ => absurd rfl hb0) kk
theorem x_ii0 {t : List (Option AV)} {n z : Int} (hd : decode M.2.1 pc = .ok (.iinc 0 n, 3)) (hq : pc + 3 = q) (hr : inI (z + n)) (kk : Wv g M kc ks q (some (aI (z + n)) :: t) st h P) : Wv g M kc ks pc (some (aI z) :: t) st h P := x_ii_g hd hq rfl hr (fun b hb0 _ => absurd rfl hb0) kk
theorem x_is1 {o0 o1 : Option AV} {t : List (Option AV)} {z : Int} (hd : decode M.2.1 pc = .ok (.istore_n 1, 1)) (hq : pc + 1 = q) (hc : notJ o0 = true) (kk : Wv g M kc ks q (o0 :: some (aI z) :: t) st h P) : Wv g M kc ks pc (o0 :: o1 :: t) (aI z :: st) h P := x_is_n_g (i := 1) hd rfl hq (by simp) (fun b _ hb => notJ_cat (by simpa using hb) hc) kk
theorem x_as1 {o0 o1 : Option AV} {t : List (Option AV)} {z : Nat} (hd : decode M.2.1 pc = .ok (.astore_n 1, 1)) (hq : pc + 1 = q) (hc : notJ o0 = true) (kk : Wv g M kc ks q (o0 :: some (aR z) :: t) st h P) : Wv g M kc ks pc (o0 :: o1 :: t) (aR z :: st) h P := x_as_n_g (i := 1) hd rfl hq (by simp) (fun b _ hb => notJ_cat (by simpa using hb) hc) kk
theorem x_ii1 {o0 : Option AV} {t : List (Option AV)} {n z : Int} (hd : decode M.2.1 pc = .ok (.iinc 1 n, 3)) (hq : pc + 3 = q) (hc : notJ o0 = true) (hr : inI (z + n)) (kk : Wv g M kc ks q (o0 :: some (aI (z + n)) :: t) st h P) : Wv g M kc ks pc (o0 :: some (aI z) :: t) st h P := x_ii_g hd hq rfl hr (fun b _ hb => notJ_cat (by simpa using hb) hc) kk
theorem x_is2 {o0 o1 o2 : Option AV} {t : List (Option AV)} {z : Int} (hd : decode M.2.1 pc = .ok (.istore_n 2, 1)) (hq : pc + 1 = q) (hc : notJ o1 = true) (kk : Wv g M kc ks q (o0 :: o1 :: some (aI z) :: t) st h P) : Wv g M kc ks pc (o0 :: o1 :: o2 :: t) (aI z :: st) h P := x_is_n_g (i := 2) hd rfl hq (by simp) (fun b _ hb => notJ_cat (by simpa using hb) hc) kk
theorem x_as2 {o0 o1 o2 : Option AV} {t : List (Option AV)} {z : Nat} (hd : decode M.2.1 pc = .ok (.astore_n 2, 1)) (hq : pc + 1 = q) (hc : notJ o1 = true) (kk : Wv g M kc ks q (o0 :: o1 :: some (aR z) :: t) st h P) : Wv g M kc ks pc (o0 :: o1 :: o2 :: t) (aR z :: st) h P := x_as_n_g (i := 2) hd rfl hq (by simp) (fun b _ hb => notJ_cat (by simpa using hb) hc) kk
theorem x_ii2 {o0 o1 : Option AV} {t : List (Option AV)} {n z : Int} (hd : decode M.2.1 pc = .ok (.iinc 2 n, 3)) (hq : pc + 3 = q) (hc : notJ o1 = true) (hr : inI (z + n)) (kk : Wv g M kc ks q (o0 :: o1 :: some (aI (z + n)) :: t) st h P) : Wv g M kc ks pc (o0 :: o1 :: some (aI z) :: t) st h P := x_ii_g hd hq rfl hr (fun b _ hb => notJ_cat (by simpa using hb) hc) kk
theorem x_is3 {o0 o1 o2 o3 : Option AV} {t : List (Option AV)} {z : Int} (hd : decode M.2.1 pc = .ok (.istore_n 3, 1)) (hq : pc + 1 = q) (hc : notJ o2 = true) (kk : Wv g M kc ks q (o0 :: o1 :: o2 :: some (aI z) :: t) st h P) : Wv g M kc ks pc (o0 :: o1 :: o2 :: o3 :: t) (aI z :: st) h P := x_is_n_g (i := 3) hd rfl hq (by simp) (fun b _ hb => notJ_cat (by simpa using hb) hc) kk
theorem x_as3 {o0 o1 o2 o3 : Option AV} {t : List (Option AV)} {z : Nat} (hd : decode M.2.1 pc = .ok (.astore_n 3, 1)) (hq : pc + 1 = q) (hc : notJ o2 = true) (kk : Wv g M kc ks q (o0 :: o1 :: o2 :: some (aR z) :: t) st h P) : Wv g M kc ks pc (o0 :: o1 :: o2 :: o3 :: t) (aR z :: st) h P := x_as_n_g (i := 3) hd rfl hq (by simp) (fun b _ hb => notJ_cat (by simpa using hb) hc) kk
theorem x_ii3 {o0 o1 o2 : Option AV} {t : List (Option AV)} {n z : Int} (hd : decode M.2.1 pc = .ok (.iinc 3 n, 3)) (hq : pc + 3 = q) (hc : notJ o2 = true) (hr : inI (z + n)) (kk : Wv g M kc ks q (o0 :: o1 :: o2 :: some (aI (z + n)) :: t) st h P) : Wv g M kc ks pc (o0 :: o1 :: o2 :: some (aI z) :: t) st h P := x_ii_g hd hq rfl hr (fun b _ hb => notJ_cat (by simpa using hb) hc) kk
theorem x_is4 {o0 o1 o2 o3 o4 : Option AV} {t : List (Option AV)} {z : Int} (hd : decode M.2.1 pc = .ok (.istore 4, 2)) (hq : pc + 2 = q) (hc : notJ o3 = true) (kk : Wv g M kc ks q (o0 :: o1 :: o2 :: o3 :: some (aI z) :: t) st h P) : Wv g M kc ks pc (o0 :: o1 :: o2 :: o3 :: o4 :: t) (aI z :: st) h P := x_is_g (i := 4) hd hq (by simp) (fun b _ hb => notJ_cat (by simpa using hb) hc) kk
theorem x_as4 {o0 o1 o2 o3 o4 : Option AV} {t : List (Option AV)} {z : Nat} (hd : decode M.2.1 pc = .ok (.astore 4, 2)) (hq : pc + 2 = q) (hc : notJ o3 = true) (kk : Wv g M kc ks q (o0 :: o1 :: o2 :: o3 :: some (aR z) :: t) st h P) : Wv g M kc ks pc (o0 :: o1 :: o2 :: o3 :: o4 :: t) (aR z :: st) h P := x_as_g (i := 4) hd hq (by simp) (fun b _ hb => notJ_cat (by simpa using hb) hc) kk
theorem x_ii4 {o0 o1 o2 o3 : Option AV} {t : List (Option AV)} {n z : Int} (hd : decode M.2.1 pc = .ok (.iinc 4 n, 3)) (hq : pc + 3 = q) (hc : notJ o3 = true) (hr : inI (z + n)) (kk : Wv g M kc ks q (o0 :: o1 :: o2 :: o3 :: some (aI (z + n)) :: t) st h P) : Wv g M kc ks pc (o0 :: o1 :: o2 :: o3 :: some (aI z) :: t) st h P := x_ii_g hd hq rfl hr (fun b _ hb => notJ_cat (by simpa using hb) hc) kk
theorem x_is5 {o0 o1 o2 o3 o4 o5 : Option AV} {t : List (Option AV)} {z : Int} (hd : decode M.2.1 pc = .ok (.istore 5, 2)) (hq : pc + 2 = q) (hc : notJ o4 = true) (kk : Wv g M kc ks q (o0 :: o1 :: o2 :: o3 :: o4 :: some (aI z) :: t) st h P) : Wv g M kc ks pc (o0 :: o1 :: o2 :: o3 :: o4 :: o5 :: t) (aI z :: st) h P := x_is_g (i := 5) hd hq (by simp) (fun b _ hb => notJ_cat (by simpa using hb) hc) kk
theorem x_as5 {o0 o1 o2 o3 o4 o5 : Option AV} {t : List (Option AV)} {z : Nat} (hd : decode M.2.1 pc = .ok (.astore 5, 2)) (hq : pc + 2 = q) (hc : notJ o4 = true) (kk : Wv g M kc ks q (o0 :: o1 :: o2 :: o3 :: o4 :: some (aR z) :: t) st h P) : Wv g M kc ks pc (o0 :: o1 :: o2 :: o3 :: o4 :: o5 :: t) (aR z :: st) h P := x_as_g (i := 5) hd hq (by simp) (fun b _ hb => notJ_cat (by simpa using hb) hc) kk
theorem x_ii5 {o0 o1 o2 o3 o4 : Option AV} {t : List (Option AV)} {n z : Int} (hd : decode M.2.1 pc = .ok (.iinc 5 n, 3)) (hq : pc + 3 = q) (hc : notJ o4 = true) (hr : inI (z + n)) (kk : Wv g M kc ks q (o0 :: o1 :: o2 :: o3 :: o4 :: some (aI (z + n)) :: t) st h P) : Wv g M kc ks pc (o0 :: o1 :: o2 :: o3 :: o4 :: some (aI z) :: t) st h P := x_ii_g hd hq rfl hr (fun b _ hb => notJ_cat (by simpa using hb) hc) kk
theorem x_is6 {o0 o1 o2 o3 o4 o5 o6 : Option AV} {t : List (Option AV)} {z : Int} (hd : decode M.2.1 pc = .ok (.istore 6, 2)) (hq : pc + 2 = q) (hc : notJ o5 = true) (kk : Wv g M kc ks q (o0 :: o1 :: o2 :: o3 :: o4 :: o5 :: some (aI z) :: t) st h P) : Wv g M kc ks pc (o0 :: o1 :: o2 :: o3 :: o4 :: o5 :: o6 :: t) (aI z :: st) h P := x_is_g (i := 6) hd hq (by simp) (fun b _ hb => notJ_cat (by simpa using hb) hc) kk
theorem x_as6 {o0 o1 o2 o3 o4 o5 o6 : Option AV} {t : List (Option AV)} {z : Nat} (hd : decode M.2.1 pc = .ok (.astore 6, 2)) (hq : pc + 2 = q) (hc : notJ o5 = true) (kk : Wv g M kc ks q (o0 :: o1 :: o2 :: o3 :: o4 :: o5 :: some (aR z) :: t) st h P) : Wv g M kc ks pc (o0 :: o1 :: o2 :: o3 :: o4 :: o5 :: o6 :: t) (aR z :: st) h P := x_as_g (i := 6) hd hq (by simp) (fun b _ hb => notJ_cat (by simpa using hb) hc) kk
theorem x_ii6 {o0 o1 o2 o3 o4 o5 : Option AV} {t : List (Option AV)} {n z : Int} (hd : decode M.2.1 pc = .ok (.iinc 6 n, 3)) (hq : pc + 3 = q) (hc : notJ o5 = true) (hr : inI (z + n)) (kk : Wv g M kc ks q (o0 :: o1 :: o2 :: o3 :: o4 :: o5 :: some (aI (z + n)) :: t) st h P) : Wv g M kc ks pc (o0 :: o1 :: o2 :: o3 :: o4 :: o5 :: some (aI z) :: t) st h P := x_ii_g hd hq rfl hr (fun b _ hb => notJ_cat (by simpa using hb) hc) kk
theorem x_is7 {o0 o1 o2 o3 o4 o5 o6 o7 : Option AV} {t : List (Option AV)} {z : Int} (hd : decode M.2.1 pc = .ok (.istore 7, 2)) (hq : pc + 2 = q) (hc : notJ o6 = true) (kk : Wv g M kc ks q (o0 :: o1 :: o2 :: o3 :: o4 :: o5 :: o6 :: some (aI z) :: t) st h P) : Wv g M kc ks pc (o0 :: o1 :: o2 :: o3 :: o4 :: o5 :: o6 :: o7 :: t) (aI z :: st) h P := x_is_g (i := 7) hd hq (by simp) (fun b _ hb => notJ_cat (by simpa using hb) hc) kk
theorem x_as7 {o0 o1 o2 o3 o4 o5 o6 o7 : Option AV} {t : List (Option AV)} {z : Nat} (hd : decode M.2.1 pc = .ok (.astore 7, 2)) (hq : pc + 2 = q) (hc : notJ o6 = true) (kk : Wv g M kc ks q (o0 :: o1 :: o2 :: o3 :: o4 :: o5 :: o6 :: some (aR z) :: t) st h P) : Wv g M kc ks pc (o0 :: o1 :: o2 :: o3 :: o4 :: o5 :: o6 :: o7 :: t) (aR z :: st) h P := x_as_g (i := 7) hd hq (by simp) (fun b _ hb => notJ_cat (by simpa using hb) hc) kk
theorem x_ii7 {o0 o1 o2 o3 o4 o5 o6 : Option AV} {t : List (Option AV)} {n z : Int} (hd : decode M.2.1 pc = .ok (.iinc 7 n, 3)) (hq : pc + 3 = q) (hc : notJ o6 = true) (hr : inI (z + n)) (kk : Wv g M kc ks q (o0 :: o1 :: o2 :: o3 :: o4 :: o5 :: o6 :: some (aI (z + n)) :: t) st h P) : Wv g M kc ks pc (o0 :: o1 :: o2 :: o3 :: o4 :: o5 :: o6 :: some (aI z) :: t) st h P := x_ii_g hd hq rfl hr (fun b _ hb => notJ_cat (by simpa using hb) hc) kk
theorem x_is8 {o0 o1 o2 o3 o4 o5 o6 o7 o8 : Option AV} {t : List (Option AV)} {z : Int} (hd : decode M.2.1 pc = .ok (.istore 8, 2)) (hq : pc + 2 = q) (hc : notJ o7 = true) (kk : Wv g M kc ks q (o0 :: o1 :: o2 :: o3 :: o4 :: o5 :: o6 :: o7 :: some (aI z) :: t) st h P) : Wv g M kc ks pc (o0 :: o1 :: o2 :: o3 :: o4 :: o5 :: o6 :: o7 :: o8 :: t) (aI z :: st) h P := x_is_g (i := 8) hd hq (by simp) (fun b _ hb => notJ_cat (by simpa using hb) hc) kk
theorem x_as8 {o0 o1 o2 o3 o4 o5 o6 o7 o8 : Option AV} {t : List (Option AV)} {z : Nat} (hd : decode M.2.1 pc = .ok (.astore 8, 2)) (hq : pc + 2 = q) (hc : notJ o7 = true) (kk : Wv g M kc ks q (o0 :: o1 :: o2 :: o3 :: o4 :: o5 :: o6 :: o7 :: some (aR z) :: t) st h P) : Wv g M kc ks pc (o0 :: o1 :: o2 :: o3 :: o4 :: o5 :: o6 :: o7 :: o8 :: t) (aR z :: st) h P := x_as_g (i := 8) hd hq (by simp) (fun b _ hb => notJ_cat (by simpa using hb) hc) kk
theorem x_ii8 {o0 o1 o2 o3 o4 o5 o6 o7 : Option AV} {t : List (Option AV)} {n z : Int} (hd : decode M.2.1 pc = .ok (.iinc 8 n, 3)) (hq : pc + 3 = q) (hc : notJ o7 = true) (hr : inI (z + n)) (kk : Wv g M kc ks q (o0 :: o1 :: o2 :: o3 :: o4 :: o5 :: o6 :: o7 :: some (aI (z + n)) :: t) st h P) : Wv g M kc ks pc (o0 :: o1 :: o2 :: o3 :: o4 :: o5 :: o6 :: o7 :: some (aI z) :: t) st h P := x_ii_g hd hq rfl hr (fun b _ hb => notJ_cat (by simpa using hb) hc) kk
theorem x_is9 {o0 o1 o2 o3 o4 o5 o6 o7 o8 o9 : Option AV} {t : List (Option AV)} {z : Int} (hd : decode M.2.1 pc = .ok (.istore 9, 2)) (hq : pc + 2 = q) (hc : notJ o8 = true) (kk : Wv g M kc ks q (o0 :: o1 :: o2 :: o3 :: o4 :: o5 :: o6 :: o7 :: o8 :: some (aI z) :: t) st h P) : Wv g M kc ks pc (o0 :: o1 :: o2 :: o3 :: o4 :: o5 :: o6 :: o7 :: o8 :: o9 :: t) (aI z :: st) h P := x_is_g (i := 9) hd hq (by simp) (fun b _ hb => notJ_cat (by simpa using hb) hc) kk
theorem x_as9 {o0 o1 o2 o3 o4 o5 o6 o7 o8 o9 : Option AV} {t : List (Option AV)} {z : Nat} (hd : decode M.2.1 pc = .ok (.astore 9, 2)) (hq : pc + 2 = q) (hc : notJ o8 = true) (kk : Wv g M kc ks q (o0 :: o1 :: o2 :: o3 :: o4 :: o5 :: o6 :: o7 :: o8 :: some (aR z) :: t) st h P) : Wv g M kc ks pc (o0 :: o1 :: o2 :: o3 :: o4 :: o5 :: o6 :: o7 :: o8 :: o9 :: t) (aR z :: st) h P := x_as_g (i := 9) hd hq (by simp) (fun b _ hb => notJ_cat (by simpa using hb) hc) kk
theorem x_ii9 {o0 o1 o2 o3 o4 o5 o6 o7 o8 : Option AV} {t : List (Option AV)} {n z : Int} (hd : decode M.2.1 pc = .ok (.iinc 9 n, 3)) (hq : pc + 3 = q) (hc : notJ o8 = true) (hr : inI (z + n)) (kk : Wv g M kc ks q (o0 :: o1 :: o2 :: o3 :: o4 :: o5 :: o6 :: o7 :: o8 :: some (aI (z + n)) :: t) st h P) : Wv g M kc ks pc (o0 :: o1 :: o2 :: o3 :: o4 :: o5 :: o6 :: o7 :: o8 :: some (aI z) :: t) st h P := x_ii_g hd hq rfl hr (fun b _ hb => notJ_cat (by simpa using hb) hc) kk
theorem x_is10 {o0 o1 o2 o3 o4 o5 o6 o7 o8 o9 o10 : Option AV} {t : List (Option AV)} {z : Int} (hd : decode M.2.1 pc = .ok (.istore 10, 2)) (hq : pc + 2 = q) (hc : notJ o9 = true) (kk : Wv g M kc ks q (o0 :: o1 :: o2 :: o3 :: o4 :: o5 :: o6 :: o7 :: o8 :: o9 :: some (aI z) :: t) st h P) : Wv g M kc ks pc (o0 :: o1 :: o2 :: o3 :: o4 :: o5 :: o6 :: o7 :: o8 :: o9 :: o10 :: t) (aI z :: st) h P := x_is_g (i := 10) hd hq (by simp) (fun b _ hb => notJ_cat (by simpa using hb) hc) kk
theorem x_as10 {o0 o1 o2 o3 o4 o5 o6 o7 o8 o9 o10 : Option AV} {t : List (Option AV)} {z : Nat} (hd : decode M.2.1 pc = .ok (.astore 10, 2)) (hq : pc + 2 = q) (hc : notJ o9 = true) (kk : Wv g M kc ks q (o0 :: o1 :: o2 :: o3 :: o4 :: o5 :: o6 :: o7 :: o8 :: o9 :: some (aR z) :: t) st h P) : Wv g M kc ks pc (o0 :: o1 :: o2 :: o3 :: o4 :: o5 :: o6 :: o7 :: o8 :: o9 :: o10 :: t) (aR z :: st) h P := x_as_g (i := 10) hd hq (by simp) (fun b _ hb => notJ_cat (by simpa using hb) hc) kk
theorem x_ii10 {o0 o1 o2 o3 o4 o5 o6 o7 o8 o9 : Option AV} {t : List (Option AV)} {n z : Int} (hd : decode M.2.1 pc = .ok (.iinc 10 n, 3)) (hq : pc + 3 = q) (hc : notJ o9 = true) (hr : inI (z + n)) (kk : Wv g M kc ks q (o0 :: o1 :: o2 :: o3 :: o4 :: o5 :: o6 :: o7 :: o8 :: o9 :: some (aI (z + n)) :: t) st h P) : Wv g M kc ks pc (o0 :: o1 :: o2 :: o3 :: o4 :: o5 :: o6 :: o7 :: o8 :: o9 :: some (aI z) :: t) st h P := x_ii_g hd hq rfl hr (fun b _ hb => notJ_cat (by simpa using hb) hc) kk
theorem x_is11 {o0 o1 o2 o3 o4 o5 o6 o7 o8 o9 o10 o11 : Option AV} {t : List (Option AV)} {z : Int} (hd : decode M.2.1 pc = .ok (.istore 11, 2)) (hq : pc + 2 = q) (hc : notJ o10 = true) (kk : Wv g M kc ks q (o0 :: o1 :: o2 :: o3 :: o4 :: o5 :: o6 :: o7 :: o8 :: o9 :: o10 :: some (aI z) :: t) st h P) : Wv g M kc ks pc (o0 :: o1 :: o2 :: o3 :: o4 :: o5 :: o6 :: o7 :: o8 :: o9 :: o10 :: o11 :: t) (aI z :: st) h P := x_is_g (i := 11) hd hq (by simp) (fun b _ hb => notJ_cat (by simpa using hb) hc) kk
theorem x_as11 {o0 o1 o2 o3 o4 o5 o6 o7 o8 o9 o10 o11 : Option AV} {t : List (Option AV)} {z : Nat} (hd : decode M.2.1 pc = .ok (.astore 11, 2)) (hq : pc + 2 = q) (hc : notJ o10 = true) (kk : Wv g M kc ks q (o0 :: o1 :: o2 :: o3 :: o4 :: o5 :: o6 :: o7 :: o8 :: o9 :: o10 :: some (aR z) :: t) st h P) : Wv g M kc ks pc (o0 :: o1 :: o2 :: o3 :: o4 :: o5 :: o6 :: o7 :: o8 :: o9 :: o10 :: o11 :: t) (aR z :: st) h P := x_as_g (i := 11) hd hq (by simp) (fun b _ hb => notJ_cat (by simpa using hb) hc) kk
theorem x_ii11 {o0 o1 o2 o3 o4 o5 o6 o7 o8 o9 o10 : Option AV} {t : List (Option AV)} {n z : Int} (hd : decode M.2.1 pc = .ok (.iinc 11 n, 3)) (hq : pc + 3 = q) (hc : notJ o10 = true) (hr : inI (z + n)) (kk : Wv g M kc ks q (o0 :: o1 :: o2 :: o3 :: o4 :: o5 :: o6 :: o7 :: o8 :: o9 :: o10 :: some (aI (z + n)) :: t) st h P) : Wv g M kc ks pc (o0 :: o1 :: o2 :: o3 :: o4 :: o5 :: o6 :: o7 :: o8 :: o9 :: o10 :: some (aI z) :: t) st h P := x_ii_g hd hq rfl hr (fun b _ hb => notJ_cat (by simpa using hb) hc) kk
theorem x_add {a b : Int} (hd : decode M.2.1 pc = .ok (.iadd, 1)) (hq : pc + 1 = q) (hr : inI (a + b)) (kk : Wv g M kc ks q ls (aI (a + b) :: st) h P) : Wv g M kc ks pc ls (aI b :: aI a :: st) h P := by
  intro p e s m args below meth c H locs lsm C hW hS hL hst
  subst hq
  refine lv_iadd C.1 C.2.1 hd ?_
  rw [← Int32.ofInt_add]
  exact kk p e s m args below meth c H locs lsm C hW hS hL (okc hr (okt (okt hst)))
theorem x_sub {a b : Int} (hd : decode M.2.1 pc = .ok (.isub, 1)) (hq : pc + 1 = q) (hr : inI (a - b)) (kk : Wv g M kc ks q ls (aI (a - b) :: st) h P) : Wv g M kc ks pc ls (aI b :: aI a :: st) h P := by
  intro p e s m args below meth c H locs lsm C hW hS hL hst
  subst hq
  refine lv_isub C.1 C.2.1 hd ?_
  rw [← Int32.ofInt_sub]
  exact kk p e s m args below meth c H locs lsm C hW hS hL (okc hr (okt (okt hst)))
theorem x_mul {a b : Int} (hd : decode M.2.1 pc = .ok (.imul, 1)) (hq : pc + 1 = q) (hr : inI (a * b)) (kk : Wv g M kc ks q ls (aI (a * b) :: st) h P) : Wv g M kc ks pc ls (aI b :: aI a :: st) h P := by
  intro p e s m args below meth c H locs lsm C hW hS hL hst
  subst hq
  refine lv_imul C.1 C.2.1 hd ?_
  rw [← Int32.ofInt_mul]
  exact kk p e s m args below meth c H locs lsm C hW hS hL (okc hr (okt (okt hst)))
def wr (z : Int) : Int := (Int32.ofInt z).toInt
theorem wr_in (z : Int) : inI (wr z) := inI_toInt _
theorem wr_id {z : Int} (hz : inI z) : wr z = z := ti hz
theorem x_addw {a b : Int} (hd : decode M.2.1 pc = .ok (.iadd, 1)) (hq : pc + 1 = q) (kk : Wv g M kc ks q ls (aI (wr (a + b)) :: st) h P) : Wv g M kc ks pc ls (aI b :: aI a :: st) h P := by
  intro p e s m args below meth c H locs lsm C hW hS hL hst
  subst hq
  refine lv_iadd C.1 C.2.1 hd ?_
  rw [← Int32.ofInt_add, ← ofInt_toInt32 (Int32.ofInt (a + b))]
  exact kk p e s m args below meth c H locs lsm C hW hS hL (okc (wr_in _) (okt (okt hst)))
theorem dv_v {a b : Int} (h0 : 0 ≤ a) (h1 : 0 < b) (ha : inI a) (hb : inI b) : Int32.ofInt a / Int32.ofInt b = Int32.ofInt (a / b) ∧ inI (a / b) := by
  have hle : a / b ≤ a := Int.ediv_le_self b h0
  have hge : 0 ≤ a / b := Int.ediv_nonneg h0 (by omega)
  have hi : inI (a / b) := ⟨by omega, by have := ha.2; omega⟩
  refine ⟨?_, hi⟩
  rw [← Int32.toInt_inj, Int32.toInt_div, ti ha, ti hb, ti hi, Int.tdiv_eq_ediv_of_nonneg h0]
  exact Int.bmod_eq_of_le (by have := hi.1; simp; omega) (by have := hi.2; simp; omega)
theorem x_div {a b : Int} (hd : decode M.2.1 pc = .ok (.idiv, 1)) (hq : pc + 1 = q) (h0 : 0 ≤ a) (h1 : 0 < b) (kk : Wv g M kc ks q ls (aI (a / b) :: st) h P) : Wv g M kc ks pc ls (aI b :: aI a :: st) h P := by
  intro p e s m args below meth c H locs lsm C hW hS hL hst
  subst hq
  have hb := okh hst
  have ha := okh (okt hst)
  obtain ⟨e1, e2⟩ := dv_v h0 h1 ha hb
  refine lv_idiv C.1 C.2.1 hd (by rw [ci_eq0 hb]; omega) ?_
  rw [e1]
  exact kk p e s m args below meth c H locs lsm C hW hS hL (okc e2 (okt (okt hst)))
theorem x_rem {a b : Int} (hd : decode M.2.1 pc = .ok (.irem, 1)) (hq : pc + 1 = q) (h0 : 0 ≤ a) (h1 : 0 < b) (kk : Wv g M kc ks q ls (aI (a % b) :: st) h P) : Wv g M kc ks pc ls (aI b :: aI a :: st) h P := by
  intro p e s m args below meth c H locs lsm C hW hS hL hst
  subst hq
  have hb := okh hst
  have ha := okh (okt hst)
  obtain ⟨e1, e2⟩ := dv_v h0 h1 ha hb
  refine lv_irem C.1 C.2.1 hd (by rw [ci_eq0 hb]; omega) ?_
  have e3 : a - a / b * b = a % b := by have := Int.emod_add_mul_ediv a b; have e := Int.mul_comm (a / b) b; omega
  have e4 := Int.emod_nonneg a (show b ≠ 0 by omega)
  have e5 := Int.emod_lt_of_pos a h1
  rw [e1, ← Int32.ofInt_mul, ← Int32.ofInt_sub, e3]
  exact kk p e s m args below meth c H locs lsm C hW hS hL (okc (show inI (a % b) from ⟨by omega, by have := hb.2; omega⟩) (okt (okt hst)))
theorem nn_n {a : Int} (h0 : 0 ≤ a) : Int32.ofInt a = nI a.toNat := by
  unfold nI
  rw [← Int32.ofInt_eq_ofNat, Int.toNat_of_nonneg h0]
theorem sh_amt {s : Int} (h0 : 0 ≤ s) (h1 : s < 32) : ((Int32.ofInt s &&& 31).toBitVec.smod 32).toNat = s.toNat := by
  have : ∀ n : Nat, n < 32 → ((nI n &&& 31).toBitVec.smod 32).toNat = n := by decide +kernel
  rw [nn_n h0]
  exact this _ (by omega)
theorem x_shl {a s0 : Int} (hd : decode M.2.1 pc = .ok (.ishl, 1)) (hq : pc + 1 = q) (h0 : 0 ≤ a) (h1 : 0 ≤ s0) (h2 : s0 < 32) (hr : inI (a * 2 ^ s0.toNat)) (kk : Wv g M kc ks q ls (aI (a * 2 ^ s0.toNat) :: st) h P) : Wv g M kc ks pc ls (aI s0 :: aI a :: st) h P := by
  intro p e s m args below meth c H locs lsm C hW hS hL hst
  subst hq
  refine lv_ishl C.1 C.2.1 hd ?_
  have e0 : (0 : Int) ≤ a * 2 ^ s0.toNat := Int.mul_nonneg h0 (Int.pow_nonneg (by decide))
  have e2 : (a * 2 ^ s0.toNat).toNat = a.toNat * 2 ^ s0.toNat := by rw [Int.toNat_mul h0 (Int.pow_nonneg (by decide)), Int.toNat_pow_of_nonneg (by decide)]; rfl
  have e1 : Int32.ofInt a <<< (Int32.ofInt s0 &&& 31) = Int32.ofInt (a * 2 ^ s0.toNat) := by
    rw [nn_n h0, nn_n e0, e2]
    exact pk_shlN _ _ (sh_amt h1 h2) (by rw [← e2]; have := hr.2; omega)
  rw [e1]
  exact kk p e s m args below meth c H locs lsm C hW hS hL (okc hr (okt (okt hst)))
theorem x_shr {a s0 : Int} (hd : decode M.2.1 pc = .ok (.ishr, 1)) (hq : pc + 1 = q) (h0 : 0 ≤ a) (h1 : 0 ≤ s0) (h2 : s0 < 32) (kk : Wv g M kc ks q ls (aI (a / 2 ^ s0.toNat) :: st) h P) : Wv g M kc ks pc ls (aI s0 :: aI a :: st) h P := by
  intro p e s m args below meth c H locs lsm C hW hS hL hst
  subst hq
  refine lv_ishr C.1 C.2.1 hd ?_
  have ha : inI a := okh (okt hst)
  have hp : (0 : Int) < 2 ^ s0.toNat := Int.pow_pos (by decide)
  have e0 : (0 : Int) ≤ a / 2 ^ s0.toNat := Int.ediv_nonneg h0 (Int.le_of_lt hp)
  have e3 : a / 2 ^ s0.toNat ≤ a := Int.ediv_le_self _ h0
  have e1 : Int32.ofInt a >>> (Int32.ofInt s0 &&& 31) = Int32.ofInt (a / 2 ^ s0.toNat) := by
    have e2 : (a / 2 ^ s0.toNat).toNat = a.toNat / 2 ^ s0.toNat := by
      obtain ⟨n, rfl⟩ := Int.eq_ofNat_of_zero_le h0
      have : ((n : Int) / 2 ^ s0.toNat) = ((n / 2 ^ s0.toNat : Nat) : Int) := by simp
      rw [this]; exact Int.toNat_natCast _
    rw [nn_n h0, nn_n e0, e2]
    exact pk_shrN (by have := ha.2; omega) _ _ (sh_amt h1 h2)
  rw [e1]
  exact kk p e s m args below meth c H locs lsm C hW hS hL (okc (show inI (a / 2 ^ s0.toNat) from ⟨by omega, by have := ha.2; omega⟩) (okt (okt hst)))
theorem bv_and (a b : Nat) : nI a &&& nI b = nI (a &&& b) := by
  unfold nI
  apply Int32.toBitVec_inj.mp
  apply BitVec.eq_of_getLsbD_eq
  intro i hi
  simp [Nat.testBit_and, hi]
theorem bl_and {a b : Nat} (ha : a < 2 ^ 31) (hb : b < 2 ^ 31) : a &&& b < 2 ^ 31 := Nat.and_lt_two_pow _ hb
theorem x_and {a b : Int} (hd : decode M.2.1 pc = .ok (.iand, 1)) (hq : pc + 1 = q) (h0 : 0 ≤ a) (h1 : 0 ≤ b) (kk : Wv g M kc ks q ls (aI ((a.toNat &&& b.toNat : Nat) : Int) :: st) h P) : Wv g M kc ks pc ls (aI b :: aI a :: st) h P := by
  intro p e s m args below meth c H locs lsm C hW hS hL hst
  subst hq
  refine lv_iand C.1 C.2.1 hd ?_
  have hb : inI b := okh hst
  have ha : inI a := okh (okt hst)
  have e1 : Int32.ofInt a &&& Int32.ofInt b = Int32.ofInt ((a.toNat &&& b.toNat : Nat) : Int) := by
    rw [nn_n h0, nn_n h1, bv_and, Int32.ofInt_eq_ofNat]; rfl
  have e2 := bl_and (a := a.toNat) (b := b.toNat) (by have := ha.2; omega) (by have := hb.2; omega)
  rw [e1]
  exact kk p e s m args below meth c H locs lsm C hW hS hL (okc (show inI _ from ⟨by omega, by omega⟩) (okt (okt hst)))
theorem bv_or (a b : Nat) : nI a ||| nI b = nI (a ||| b) := by
  unfold nI
  apply Int32.toBitVec_inj.mp
  apply BitVec.eq_of_getLsbD_eq
  intro i hi
  simp [Nat.testBit_or, hi]
theorem bl_or {a b : Nat} (ha : a < 2 ^ 31) (hb : b < 2 ^ 31) : a ||| b < 2 ^ 31 := Nat.or_lt_two_pow ha hb
theorem x_or {a b : Int} (hd : decode M.2.1 pc = .ok (.ior, 1)) (hq : pc + 1 = q) (h0 : 0 ≤ a) (h1 : 0 ≤ b) (kk : Wv g M kc ks q ls (aI ((a.toNat ||| b.toNat : Nat) : Int) :: st) h P) : Wv g M kc ks pc ls (aI b :: aI a :: st) h P := by
  intro p e s m args below meth c H locs lsm C hW hS hL hst
  subst hq
  refine lv_ior C.1 C.2.1 hd ?_
  have hb : inI b := okh hst
  have ha : inI a := okh (okt hst)
  have e1 : Int32.ofInt a ||| Int32.ofInt b = Int32.ofInt ((a.toNat ||| b.toNat : Nat) : Int) := by
    rw [nn_n h0, nn_n h1, bv_or, Int32.ofInt_eq_ofNat]; rfl
  have e2 := bl_or (a := a.toNat) (b := b.toNat) (by have := ha.2; omega) (by have := hb.2; omega)
  rw [e1]
  exact kk p e s m args below meth c H locs lsm C hW hS hL (okc (show inI _ from ⟨by omega, by omega⟩) (okt (okt hst)))
theorem bv_xor (a b : Nat) : nI a ^^^ nI b = nI (a ^^^ b) := by
  unfold nI
  apply Int32.toBitVec_inj.mp
  apply BitVec.eq_of_getLsbD_eq
  intro i hi
  simp [Nat.testBit_xor, hi]
theorem bl_xor {a b : Nat} (ha : a < 2 ^ 31) (hb : b < 2 ^ 31) : a ^^^ b < 2 ^ 31 := Nat.xor_lt_two_pow ha hb
theorem x_xor {a b : Int} (hd : decode M.2.1 pc = .ok (.ixor, 1)) (hq : pc + 1 = q) (h0 : 0 ≤ a) (h1 : 0 ≤ b) (kk : Wv g M kc ks q ls (aI ((a.toNat ^^^ b.toNat : Nat) : Int) :: st) h P) : Wv g M kc ks pc ls (aI b :: aI a :: st) h P := by
  intro p e s m args below meth c H locs lsm C hW hS hL hst
  subst hq
  refine lv_ixor C.1 C.2.1 hd ?_
  have hb : inI b := okh hst
  have ha : inI a := okh (okt hst)
  have e1 : Int32.ofInt a ^^^ Int32.ofInt b = Int32.ofInt ((a.toNat ^^^ b.toNat : Nat) : Int) := by
    rw [nn_n h0, nn_n h1, bv_xor, Int32.ofInt_eq_ofNat]; rfl
  have e2 := bl_xor (a := a.toNat) (b := b.toNat) (by have := ha.2; omega) (by have := hb.2; omega)
  rw [e1]
  exact kk p e s m args below meth c H locs lsm C hW hS hL (okc (show inI _ from ⟨by omega, by omega⟩) (okt (okt hst)))
theorem x_andG {a b : Int} (hd : decode M.2.1 pc = .ok (.iand, 1)) (hq : pc + 1 = q) (kk : Wv g M kc ks q ls (aI (Int32.ofInt a &&& Int32.ofInt b).toInt :: st) h P) : Wv g M kc ks pc ls (aI b :: aI a :: st) h P := by
  intro p e s m args below meth c H locs lsm C hW hS hL hst
  subst hq
  refine lv_iand C.1 C.2.1 hd ?_
  rw [← ofInt_toInt32 (Int32.ofInt a &&& Int32.ofInt b)]
  exact kk p e s m args below meth c H locs lsm C hW hS hL (okc (inI_toInt _) (okt (okt hst)))
theorem x_ushrG {a b : Int} (hd : decode M.2.1 pc = .ok (.iushr, 1)) (hq : pc + 1 = q) (kk : Wv g M kc ks q ls (aI (((Int32.ofInt a).toUInt32 >>> ((Int32.ofInt b).toUInt32 &&& Int32.toUInt32 31)).toInt32).toInt :: st) h P) : Wv g M kc ks pc ls (aI b :: aI a :: st) h P := by
  intro p e s m args below meth c H locs lsm C hW hS hL hst
  subst hq
  refine lv_iushr C.1 C.2.1 hd (ofInt_toInt32 _).symm ?_
  exact kk p e s m args below meth c H locs lsm C hW hS hL (okc (inI_toInt _) (okt (okt hst)))
theorem x_subG {a b : Int} (hd : decode M.2.1 pc = .ok (.isub, 1)) (hq : pc + 1 = q) (kk : Wv g M kc ks q ls (aI (wr (a - b)) :: st) h P) : Wv g M kc ks pc ls (aI b :: aI a :: st) h P := by
  intro p e s m args below meth c H locs lsm C hW hS hL hst
  subst hq
  refine lv_isub C.1 C.2.1 hd ?_
  rw [← Int32.ofInt_sub, ← ofInt_toInt32 (Int32.ofInt (a - b))]
  exact kk p e s m args below meth c H locs lsm C hW hS hL (okc (wr_in _) (okt (okt hst)))
theorem x_i2l {a : Int} (hd : decode M.2.1 pc = .ok (.i2l, 1)) (hq : pc + 1 = q) (kk : Wv g M kc ks q ls (aJ a :: st) h P) : Wv g M kc ks pc ls (aI a :: st) h P := by
  intro p e s m args below meth c H locs lsm C hW hS hL hst
  subst hq
  have ha : inI a := okh hst
  have hl : inL a := ⟨by have := ha.1; omega, by have := ha.2; omega⟩
  refine lv_i2l C.1 C.2.1 hd (v := Int64.ofInt a) (by rw [← Int64.toInt_inj, Int32.toInt_toInt64, ti ha, tl hl]) ?_
  exact kk p e s m args below meth c H locs lsm C hW hS hL (okc hl (okt hst))
theorem x_lsub {a b : Int} (hd : decode M.2.1 pc = .ok (.lsub, 1)) (hq : pc + 1 = q) (hr : inL (a - b)) (kk : Wv g M kc ks q ls (aJ (a - b) :: st) h P) : Wv g M kc ks pc ls (aJ b :: aJ a :: st) h P := by
  intro p e s m args below meth c H locs lsm C hW hS hL hst
  subst hq
  refine lv_lsub C.1 C.2.1 hd ?_
  rw [← Int64.ofInt_sub]
  exact kk p e s m args below meth c H locs lsm C hW hS hL (okc hr (okt (okt hst)))
theorem x_lmul {a b : Int} (hd : decode M.2.1 pc = .ok (.lmul, 1)) (hq : pc + 1 = q) (hr : inL (a * b)) (kk : Wv g M kc ks q ls (aJ (a * b) :: st) h P) : Wv g M kc ks pc ls (aJ b :: aJ a :: st) h P := by
  intro p e s m args below meth c H locs lsm C hW hS hL hst
  subst hq
  refine lv_lmul C.1 C.2.1 hd ?_
  rw [← Int64.ofInt_mul]
  exact kk p e s m args below meth c H locs lsm C hW hS hL (okc hr (okt (okt hst)))
def lcv (a b : Int) : Int := if b < a then 1 else if a = b then 0 else -1
theorem x_lcmp {a b : Int} (hd : decode M.2.1 pc = .ok (.lcmp, 1)) (hq : pc + 1 = q) (kk : Wv g M kc ks q ls (aI (lcv a b) :: st) h P) : Wv g M kc ks pc ls (aJ b :: aJ a :: st) h P := by
  intro p e s m args below meth c H locs lsm C hW hS hL hst
  subst hq
  refine W.lcmp C.1 C.2.1 hd ?_
  have hb : inL b := okh hst
  have ha : inL a := okh (okt hst)
  have e1 : lg_cmp (Int64.ofInt a) (Int64.ofInt b) = Int32.ofInt (lcv a b) := by
    unfold lg_cmp lcv
    simp only [gt_iff_lt, Int64.lt_iff_toInt_lt, ← Int64.toInt_inj, tl ha, tl hb]
    split
    · rfl
    · split <;> rfl
  rw [e1]
  exact kk p e s m args below meth c H locs lsm C hW hS hL (okc (show inI (lcv a b) by unfold lcv; split; exact ⟨by decide, by decide⟩; split <;> exact ⟨by decide, by decide⟩) (okt (okt hst)))
theorem x_ldc2 {i : Nat} {z : Int} (hd : decode M.2.1 pc = .ok (.ldc2_w i, 3)) (hq : pc + 3 = q) (hm : Cond.constantLong M.1.cls i (Int64.ofInt z) ∈ gw_tbl) (hr : (decide (-9223372036854775808 ≤ z) && decide (z < 9223372036854775808)) = true) (kk : Wv g M kc ks q ls (aJ z :: st) h P) : Wv g M kc ks pc ls st h P := by
  intro p e s m args below meth c H locs lsm C hW hS hL hst
  subst hq
  simp only [Bool.and_eq_true, decide_eq_true_eq] at hr
  exact lv_ldc2 C.1 C.2.1 C.2.2.2.2.1 (C.2.2.2.2.2.1 _ hm) hd (kk p e s m args below meth c H locs lsm C hW hS hL (okc hr hst))
theorem x_ldcw {i : Nat} {z : Int} (hd : decode M.2.1 pc = .ok (.ldc_w i, 3)) (hq : pc + 3 = q) (hm : Cond.constant M.1.cls i (Int32.ofInt z) ∈ gw_tbl) (hr : inIb z = true) (kk : Wv g M kc ks q ls (aI z :: st) h P) : Wv g M kc ks pc ls st h P := by
  intro p e s m args below meth c H locs lsm C hW hS hL hst
  subst hq
  exact lv_ldcw C.1 C.2.1 C.2.2.2.2.1 (C.2.2.2.2.2.1 _ hm) hd (kk p e s m args below meth c H locs lsm C hW hS hL (okc (inI_b hr) hst))
theorem x_dup {a : AV} (hd : decode M.2.1 pc = .ok (.dup, 1)) (hq : pc + 1 = q) (hc : catA a = 1) (kk : Wv g M kc ks q ls (a :: a :: st) h P) : Wv g M kc ks pc ls (a :: st) h P := by
  intro p e s m args below meth c H locs lsm C hW hS hL hst
  subst hq
  exact lv_dup C.1 C.2.1 hd (cv_cat1 hc) (kk p e s m args below meth c H locs lsm C hW hS hL (okc (okh hst) hst))
theorem x_dup2 {a b : AV} (hd : decode M.2.1 pc = .ok (.dup2, 1)) (hq : pc + 1 = q) (hc : catA a = 1) (hc2 : catA b = 1) (kk : Wv g M kc ks q ls (a :: b :: a :: b :: st) h P) : Wv g M kc ks pc ls (a :: b :: st) h P := by
  intro p e s m args below meth c H locs lsm C hW hS hL hst
  subst hq
  exact lv_dup2_11 C.1 C.2.1 hd (cv_cat1 hc) (cv_cat1 hc2) (kk p e s m args below meth c H locs lsm C hW hS hL (okc (okh hst) (okc (okh (okt hst)) hst)))
theorem x_goto {off : Int} {t : Nat} (hd : decode M.2.1 pc = .ok (.goto off, 3)) (ht : (pc : Int) + off = (t : Int)) (kk : Wv g M kc ks t ls st h P) : Wv g M kc ks pc ls st h P := by
  intro p e s m args below meth c H locs lsm C hW hS hL hst
  exact lv_goto C.1 C.2.1 hd ht (kk p e s m args below meth c H locs lsm C hW hS hL hst)
theorem x_if_eq {a : Int} {off : Int} {t : Nat} (hd : decode M.2.1 pc = .ok (.ifCond .eq off, 3)) (ht : (pc : Int) + off = (t : Int)) (hq : pc + 3 = q) (kt : a = 0 → Wv g M kc ks t ls st h P) (kf : ¬ a = 0 → Wv g M kc ks q ls st h P) : Wv g M kc ks pc ls (aI a :: st) h P := by
  intro p e s m args below meth c H locs lsm C hW hS hL hst
  subst hq
  have ha : inI a := okh hst
  have kt0 := fun hc => kt hc p e s m args below meth c H locs lsm C hW hS hL (okt hst)
  have kf0 := fun hc => kf hc p e s m args below meth c H locs lsm C hW hS hL (okt hst)
  exact lv_if_eq C.1 C.2.1 hd ht (fun hc => kt0 ((ci_eq0 ha).mp hc)) (fun hc => kf0 (fun hx => hc ((ci_eq0 ha).mpr hx)))
theorem x_if_ne {a : Int} {off : Int} {t : Nat} (hd : decode M.2.1 pc = .ok (.ifCond .ne off, 3)) (ht : (pc : Int) + off = (t : Int)) (hq : pc + 3 = q) (kt : ¬ a = 0 → Wv g M kc ks t ls st h P) (kf : a = 0 → Wv g M kc ks q ls st h P) : Wv g M kc ks pc ls (aI a :: st) h P := by
  intro p e s m args below meth c H locs lsm C hW hS hL hst
  subst hq
  have ha : inI a := okh hst
  have kt0 := fun hc => kt hc p e s m args below meth c H locs lsm C hW hS hL (okt hst)
  have kf0 := fun hc => kf hc p e s m args below meth c H locs lsm C hW hS hL (okt hst)
  exact lv_if_ne C.1 C.2.1 hd ht (fun hc => kt0 (fun hx => hc ((ci_eq0 ha).mpr hx))) (fun hc => kf0 ((ci_eq0 ha).mp hc))
theorem x_if_lt {a : Int} {off : Int} {t : Nat} (hd : decode M.2.1 pc = .ok (.ifCond .lt off, 3)) (ht : (pc : Int) + off = (t : Int)) (hq : pc + 3 = q) (kt : a < 0 → Wv g M kc ks t ls st h P) (kf : ¬ a < 0 → Wv g M kc ks q ls st h P) : Wv g M kc ks pc ls (aI a :: st) h P := by
  intro p e s m args below meth c H locs lsm C hW hS hL hst
  subst hq
  have ha : inI a := okh hst
  have kt0 := fun hc => kt hc p e s m args below meth c H locs lsm C hW hS hL (okt hst)
  have kf0 := fun hc => kf hc p e s m args below meth c H locs lsm C hW hS hL (okt hst)
  exact lv_if_lt C.1 C.2.1 hd ht (fun hc => kt0 ((ci_lt0 ha).mp hc)) (fun hc => kf0 (fun hx => hc ((ci_lt0 ha).mpr hx)))
theorem x_if_ge {a : Int} {off : Int} {t : Nat} (hd : decode M.2.1 pc = .ok (.ifCond .ge off, 3)) (ht : (pc : Int) + off = (t : Int)) (hq : pc + 3 = q) (kt : 0 ≤ a → Wv g M kc ks t ls st h P) (kf : ¬ 0 ≤ a → Wv g M kc ks q ls st h P) : Wv g M kc ks pc ls (aI a :: st) h P := by
  intro p e s m args below meth c H locs lsm C hW hS hL hst
  subst hq
  have ha : inI a := okh hst
  have kt0 := fun hc => kt hc p e s m args below meth c H locs lsm C hW hS hL (okt hst)
  have kf0 := fun hc => kf hc p e s m args below meth c H locs lsm C hW hS hL (okt hst)
  exact lv_if_ge C.1 C.2.1 hd ht (fun hc => kt0 ((ci_0le ha).mp hc)) (fun hc => kf0 (fun hx => hc ((ci_0le ha).mpr hx)))
theorem x_if_gt {a : Int} {off : Int} {t : Nat} (hd : decode M.2.1 pc = .ok (.ifCond .gt off, 3)) (ht : (pc : Int) + off = (t : Int)) (hq : pc + 3 = q) (kt : 0 < a → Wv g M kc ks t ls st h P) (kf : ¬ 0 < a → Wv g M kc ks q ls st h P) : Wv g M kc ks pc ls (aI a :: st) h P := by
  intro p e s m args below meth c H locs lsm C hW hS hL hst
  subst hq
  have ha : inI a := okh hst
  have kt0 := fun hc => kt hc p e s m args below meth c H locs lsm C hW hS hL (okt hst)
  have kf0 := fun hc => kf hc p e s m args below meth c H locs lsm C hW hS hL (okt hst)
  exact lv_if_gt C.1 C.2.1 hd ht (fun hc => kt0 ((ci_0lt ha).mp hc)) (fun hc => kf0 (fun hx => hc ((ci_0lt ha).mpr hx)))
theorem x_if_le {a : Int} {off : Int} {t : Nat} (hd : decode M.2.1 pc = .ok (.ifCond .le off, 3)) (ht : (pc : Int) + off = (t : Int)) (hq : pc + 3 = q) (kt : a ≤ 0 → Wv g M kc ks t ls st h P) (kf : ¬ a ≤ 0 → Wv g M kc ks q ls st h P) : Wv g M kc ks pc ls (aI a :: st) h P := by
  intro p e s m args below meth c H locs lsm C hW hS hL hst
  subst hq
  have ha : inI a := okh hst
  have kt0 := fun hc => kt hc p e s m args below meth c H locs lsm C hW hS hL (okt hst)
  have kf0 := fun hc => kf hc p e s m args below meth c H locs lsm C hW hS hL (okt hst)
  exact lv_if_le C.1 C.2.1 hd ht (fun hc => kt0 ((ci_le0 ha).mp hc)) (fun hc => kf0 (fun hx => hc ((ci_le0 ha).mpr hx)))
theorem x_ic_eq {a b : Int} {off : Int} {t : Nat} (hd : decode M.2.1 pc = .ok (.if_icmp .eq off, 3)) (ht : (pc : Int) + off = (t : Int)) (hq : pc + 3 = q) (kt : a = b → Wv g M kc ks t ls st h P) (kf : ¬ a = b → Wv g M kc ks q ls st h P) : Wv g M kc ks pc ls (aI b :: aI a :: st) h P := by
  intro p e s m args below meth c H locs lsm C hW hS hL hst
  subst hq
  have hb : inI b := okh hst
  have ha : inI a := okh (okt hst)
  have kt0 := fun hc => kt hc p e s m args below meth c H locs lsm C hW hS hL (okt (okt hst))
  have kf0 := fun hc => kf hc p e s m args below meth c H locs lsm C hW hS hL (okt (okt hst))
  exact lv_icmp_eq C.1 C.2.1 hd ht (fun hc => kt0 ((ci_eq ha hb).mp hc)) (fun hc => kf0 (fun hx => hc ((ci_eq ha hb).mpr hx)))
theorem x_ic_ne {a b : Int} {off : Int} {t : Nat} (hd : decode M.2.1 pc = .ok (.if_icmp .ne off, 3)) (ht : (pc : Int) + off = (t : Int)) (hq : pc + 3 = q) (kt : ¬ a = b → Wv g M kc ks t ls st h P) (kf : a = b → Wv g M kc ks q ls st h P) : Wv g M kc ks pc ls (aI b :: aI a :: st) h P := by
  intro p e s m args below meth c H locs lsm C hW hS hL hst
  subst hq
  have hb : inI b := okh hst
  have ha : inI a := okh (okt hst)
  have kt0 := fun hc => kt hc p e s m args below meth c H locs lsm C hW hS hL (okt (okt hst))
  have kf0 := fun hc => kf hc p e s m args below meth c H locs lsm C hW hS hL (okt (okt hst))
  exact lv_icmp_ne C.1 C.2.1 hd ht (fun hc => kt0 (fun hx => hc ((ci_eq ha hb).mpr hx))) (fun hc => kf0 ((ci_eq ha hb).mp hc))
theorem x_ic_lt {a b : Int} {off : Int} {t : Nat} (hd : decode M.2.1 pc = .ok (.if_icmp .lt off, 3)) (ht : (pc : Int) + off = (t : Int)) (hq : pc + 3 = q) (kt : a < b → Wv g M kc ks t ls st h P) (kf : ¬ a < b → Wv g M kc ks q ls st h P) : Wv g M kc ks pc ls (aI b :: aI a :: st) h P := by
  intro p e s m args below meth c H locs lsm C hW hS hL hst
  subst hq
  have hb : inI b := okh hst
  have ha : inI a := okh (okt hst)
  have kt0 := fun hc => kt hc p e s m args below meth c H locs lsm C hW hS hL (okt (okt hst))
  have kf0 := fun hc => kf hc p e s m args below meth c H locs lsm C hW hS hL (okt (okt hst))
  exact lv_icmp_lt C.1 C.2.1 hd ht (fun hc => kt0 ((ci_lt ha hb).mp hc)) (fun hc => kf0 (fun hx => hc ((ci_lt ha hb).mpr hx)))
theorem x_ic_ge {a b : Int} {off : Int} {t : Nat} (hd : decode M.2.1 pc = .ok (.if_icmp .ge off, 3)) (ht : (pc : Int) + off = (t : Int)) (hq : pc + 3 = q) (kt : b ≤ a → Wv g M kc ks t ls st h P) (kf : ¬ b ≤ a → Wv g M kc ks q ls st h P) : Wv g M kc ks pc ls (aI b :: aI a :: st) h P := by
  intro p e s m args below meth c H locs lsm C hW hS hL hst
  subst hq
  have hb : inI b := okh hst
  have ha : inI a := okh (okt hst)
  have kt0 := fun hc => kt hc p e s m args below meth c H locs lsm C hW hS hL (okt (okt hst))
  have kf0 := fun hc => kf hc p e s m args below meth c H locs lsm C hW hS hL (okt (okt hst))
  exact lv_icmp_ge C.1 C.2.1 hd ht (fun hc => kt0 ((ci_le hb ha).mp hc)) (fun hc => kf0 (fun hx => hc ((ci_le hb ha).mpr hx)))
theorem x_ic_gt {a b : Int} {off : Int} {t : Nat} (hd : decode M.2.1 pc = .ok (.if_icmp .gt off, 3)) (ht : (pc : Int) + off = (t : Int)) (hq : pc + 3 = q) (kt : b < a → Wv g M kc ks t ls st h P) (kf : ¬ b < a → Wv g M kc ks q ls st h P) : Wv g M kc ks pc ls (aI b :: aI a :: st) h P := by
  intro p e s m args below meth c H locs lsm C hW hS hL hst
  subst hq
  have hb : inI b := okh hst
  have ha : inI a := okh (okt hst)
  have kt0 := fun hc => kt hc p e s m args below meth c H locs lsm C hW hS hL (okt (okt hst))
  have kf0 := fun hc => kf hc p e s m args below meth c H locs lsm C hW hS hL (okt (okt hst))
  exact lv_icmp_gt C.1 C.2.1 hd ht (fun hc => kt0 ((ci_lt hb ha).mp hc)) (fun hc => kf0 (fun hx => hc ((ci_lt hb ha).mpr hx)))
theorem x_ic_le {a b : Int} {off : Int} {t : Nat} (hd : decode M.2.1 pc = .ok (.if_icmp .le off, 3)) (ht : (pc : Int) + off = (t : Int)) (hq : pc + 3 = q) (kt : a ≤ b → Wv g M kc ks t ls st h P) (kf : ¬ a ≤ b → Wv g M kc ks q ls st h P) : Wv g M kc ks pc ls (aI b :: aI a :: st) h P := by
  intro p e s m args below meth c H locs lsm C hW hS hL hst
  subst hq
  have hb : inI b := okh hst
  have ha : inI a := okh (okt hst)
  have kt0 := fun hc => kt hc p e s m args below meth c H locs lsm C hW hS hL (okt (okt hst))
  have kf0 := fun hc => kf hc p e s m args below meth c H locs lsm C hW hS hL (okt (okt hst))
  exact lv_icmp_le C.1 C.2.1 hd ht (fun hc => kt0 ((ci_le ha hb).mp hc)) (fun hc => kf0 (fun hx => hc ((ci_le ha hb).mpr hx)))
theorem x_nn {x : Nat} {off : Int} {t : Nat} (hd : decode M.2.1 pc = .ok (.ifnonnull off, 3)) (ht : (pc : Int) + off = (t : Int)) (kk : Wv g M kc ks t ls st h P) : Wv g M kc ks pc ls (aR x :: st) h P := by
  intro p e s m args below meth c H locs lsm C hW hS hL hst
  exact lv_ifnonnull C.1 C.2.1 hd ht (kk p e s m args below meth c H locs lsm C hW hS hL (okt hst))
theorem x_nu {x : Nat} {off : Int} (hd : decode M.2.1 pc = .ok (.ifnull off, 3)) (hq : pc + 3 = q) (kk : Wv g M kc ks q ls st h P) : Wv g M kc ks pc ls (aR x :: st) h P := by
  intro p e s m args below meth c H locs lsm C hW hS hL hst
  subst hq
  exact lv_ifnull C.1 C.2.1 hd (kk p e s m args below meth c H locs lsm C hW hS hL (okt hst))
theorem x_tabI {a : Int} {dflt lo hi : Int} {offs : Array Int} {len : Nat} {off : Int} {t : Nat} (hd : decode M.2.1 pc = .ok (.tableswitch dflt lo hi offs, len)) (h1 : ¬ a < lo) (h2 : ¬ hi < a) (ho : offs[(a - lo).toNat]? = some off) (ht : (pc : Int) + off = (t : Int)) (kk : Wv g M kc ks t ls st h P) : Wv g M kc ks pc ls (aI a :: st) h P := by
  intro p e s m args below meth c H locs lsm C hW hS hL hst
  have ha : inI a := okh hst
  exact lv_tableIn C.1 C.2.1 hd (by rw [ti ha]; exact h1) (by rw [ti ha]; exact h2) (by rw [ti ha]; exact ho) ht (kk p e s m args below meth c H locs lsm C hW hS hL (okt hst))
theorem x_tabO {a : Int} {dflt lo hi : Int} {offs : Array Int} {len : Nat} {t : Nat} (hd : decode M.2.1 pc = .ok (.tableswitch dflt lo hi offs, len)) (h1 : a < lo ∨ hi < a) (ht : (pc : Int) + dflt = (t : Int)) (kk : Wv g M kc ks t ls st h P) : Wv g M kc ks pc ls (aI a :: st) h P := by
  intro p e s m args below meth c H locs lsm C hW hS hL hst
  have ha : inI a := okh hst
  exact lv_tableOut C.1 C.2.1 hd (by rw [ti ha]; exact h1) ht (kk p e s m args below meth c H locs lsm C hW hS hL (okt hst))
theorem x_look {a : Int} {dflt : Int} {ps : Array (Int × Int)} {len : Nat} {off : Int} {t : Nat} (hd : decode M.2.1 pc = .ok (.lookupswitch dflt ps, len)) (hp : (ps.toList.zip (ps.toList.drop 1)).all (fun (a, next) => a.1 < next.1) = true) (ho : Op.lookupswitch.offset ps.toList dflt a = off) (ht : (pc : Int) + off = (t : Int)) (kk : Wv g M kc ks t ls st h P) : Wv g M kc ks pc ls (aI a :: st) h P := by
  intro p e s m args below meth c H locs lsm C hW hS hL hst
  have ha : inI a := okh hst
  exact lv_lookup C.1 C.2.1 hd hp (by rw [ti ha]; exact ho) ht (kk p e s m args below meth c H locs lsm C hW hS hL (okt hst))
end RU
end
section
/-! ===== cells: fields, arrays, making ===== -/
def FTn (ci : Nat) : u_T := match ci with
  | 0 => TX0
  | 1 => TX1
  | 2 => TX2
  | 3 => TX3
  | 4 => TX4
  | 5 => TX5
  | 6 => TX6
  | _ => TX7
def CNn (ci : Nat) : String := match ci with
  | 0 => RX0
  | 1 => RX1
  | 2 => RX2
  | 3 => RX3
  | 4 => RX4
  | 5 => RX5
  | 6 => RX6
  | _ => RX7
def NFn (ci : Nat) : Nat := match ci with
  | 0 => 8
  | 1 => 5
  | 2 => 2
  | 3 => 5
  | 4 => 2
  | 5 => 5
  | 6 => 11
  | _ => 22
theorem cl_at : ∀ ci, ci < 8 → vwCl[ci]? = some (CNn ci, FTn ci, NFn ci) := fun ci h => by
  rcases (show ci = 0 ∨ ci = 1 ∨ ci = 2 ∨ ci = 3 ∨ ci = 4 ∨ ci = 5 ∨ ci = 6 ∨ ci = 7 by omega) with rfl | rfl | rfl | rfl | rfl | rfl | rfl | rfl <;> rfl
theorem in_X0 : ∀ w ∈ u_ws RX0 TX0 8, w ∈ gw_tbl := by decide +kernel
theorem in_X1 : ∀ w ∈ u_ws RX1 TX1 5, w ∈ gw_tbl := by decide +kernel
theorem in_X2 : ∀ w ∈ u_ws RX2 TX2 2, w ∈ gw_tbl := by decide +kernel
theorem in_X3 : ∀ w ∈ u_ws RX3 TX3 5, w ∈ gw_tbl := by decide +kernel
theorem in_X4 : ∀ w ∈ u_ws RX4 TX4 2, w ∈ gw_tbl := by decide +kernel
theorem in_X5 : ∀ w ∈ u_ws RX5 TX5 5, w ∈ gw_tbl := by decide +kernel
theorem in_X6 : ∀ w ∈ u_ws RX6 TX6 11, w ∈ gw_tbl := by decide +kernel
theorem in_X7 : ∀ w ∈ u_ws RX7 TX7 22, w ∈ gw_tbl := by decide +kernel
theorem in_all : ∀ ci, ci < 8 → ∀ w ∈ u_ws (CNn ci) (FTn ci) (NFn ci), w ∈ gw_tbl := fun ci h => by
  rcases (show ci = 0 ∨ ci = 1 ∨ ci = 2 ∨ ci = 3 ∨ ci = 4 ∨ ci = 5 ∨ ci = 6 ∨ ci = 7 by omega) with rfl | rfl | rfl | rfl | rfl | rfl | rfl | rfl
  · exact in_X0
  · exact in_X1
  · exact in_X2
  · exact in_X3
  · exact in_X4
  · exact in_X5
  · exact in_X6
  · exact in_X7
theorem ty_all : ∀ ci, ci < 8 → ∀ k, k < NFn ci → parseFieldDescriptor (FTn ci k).2.2.1 = some (fty ci k) := fun ci h => by
  rcases (show ci = 0 ∨ ci = 1 ∨ ci = 2 ∨ ci = 3 ∨ ci = 4 ∨ ci = 5 ∨ ci = 6 ∨ ci = 7 by omega) with rfl | rfl | rfl | rfl | rfl | rfl | rfl | rfl
  · exact tyX0_ok
  · exact tyX1_ok
  · exact tyX2_ok
  · exact tyX3_ok
  · exact tyX4_ok
  · exact tyX5_ok
  · exact tyX6_ok
  · exact tyX7_ok
theorem nm_all : ∀ ci, ci < 8 → ∀ a, a < NFn ci → ∀ b, b < NFn ci → a ≠ b → (FTn ci a).2.1 ≠ (FTn ci b).2.1 := fun ci h => by
  rcases (show ci = 0 ∨ ci = 1 ∨ ci = 2 ∨ ci = 3 ∨ ci = 4 ∨ ci = 5 ∨ ci = 6 ∨ ci = 7 by omega) with rfl | rfl | rfl | rfl | rfl | rfl | rfl | rfl
  · exact nmX0
  · exact nmX1
  · exact nmX2
  · exact nmX3
  · exact nmX4
  · exact nmX5
  · exact nmX6
  · exact nmX7
/-- a field's link: of class own, entry idx, it is field k of class ci -/
def FL (own : String) (idx ci k : Nat) : Prop := ci < 8 ∧ k < NFn ci ∧ Cond.fieldLink own idx (FTn ci k).1 (FTn ci k).2.1 (FTn ci k).2.2.1 ∈ gw_tbl
theorem fv_list {B ci N k : Nat} {r : Nat → Option Nat} {x : Nat → Int} (hk : k < N) : ((List.range N).map (fun j => fv B ci j (r j) (x j)))[k]? = some (fv B ci k (r k) (x k)) := by
  rw [List.getElem?_map, List.getElem?_range hk]; rfl
theorem fv_set {B ci N k : Nat} {r r' : Nat → Option Nat} {x x' : Nat → Int} (hr : ∀ j, j ≠ k → r' j = r j) (hx : ∀ j, j ≠ k → x' j = x j) : ((List.range N).map (fun j => fv B ci j (r j) (x j))).set k (fv B ci k (r' k) (x' k)) = (List.range N).map (fun j => fv B ci j (r' j) (x' j)) := by
  apply List.ext_getElem?
  intro i
  by_cases hi : i = k
  · subst hi
    by_cases hN : i < N
    · rw [List.getElem?_set_self (by simpa using hN), fv_list hN]
    · rw [List.getElem?_eq_none (by simp; omega), List.getElem?_eq_none (by simp; omega)]
  · rw [List.getElem?_set_ne (Ne.symm hi)]
    by_cases hN : i < N
    · rw [fv_list hN, fv_list hN, hr i hi, hx i hi]
    · rw [List.getElem?_eq_none (by simp; omega), List.getElem?_eq_none (by simp; omega)]
section MU
variable {g : GL} {M : MD} {kc ks pc q : Nat} {ls : List (Option AV)} {st : List AV} {sh : List (Nat × Nat)} {rf : Nat → Nat → Option Nat} {v : Nat → Nat → Int} {P : PT}
theorem x_getI {idx ci k c : Nat} (hd : decode M.2.1 pc = .ok (.getfield idx, 3)) (hq : pc + 3 = q) (hf : FL M.1.cls idx ci k) (hc : sh[c]? = some (ci + 3, NFn ci)) (hi : isR (fty ci k) = false) (kk : Wv g M kc ks q ls (aI (v c k) :: st) (sh, rf, v) P) : Wv g M kc ks pc ls (aR c :: st) (sh, rf, v) P := by
  intro p e s m args below meth cd H locs lsm C hW hS hL hst
  subst hq
  obtain ⟨h8, hk, hlk⟩ := hf
  have hat := wsH_at g.2.2.1 g.2.2.2 (sh, rf, v) hc
  refine va_get (D := g.2.1) (cl := vwCl) (C := CNn ci) (T := FTn ci) (N := NFn ci) C.1 C.2.1 C.2.2.2.2.2.1 (in_all ci h8) C.2.2.2.2.1 C.2.2.2.2.2.2.2.2.1.1 hW.2.1 c hat (cl_at ci h8) k hk (C.2.2.2.2.2.1 _ hlk) (fun _ h9 => h9) (v := .int (Int32.ofInt (v c k))) (by rw [fv_list hk]; simp [fv, hi]) hd ?_
  exact kk p e s m args below meth cd H locs lsm C hW hS hL (okc (hW.2.2 c k) (okt hst))
theorem x_getR {idx ci k c : Nat} {o : Option Nat} (hd : decode M.2.1 pc = .ok (.getfield idx, 3)) (hq : pc + 3 = q) (hf : FL M.1.cls idx ci k) (hc : sh[c]? = some (ci + 3, NFn ci)) (hi : isR (fty ci k) = true) (ho : rf c k = o) (kk : Wv g M kc ks q ls (aQ o :: st) (sh, rf, v) P) : Wv g M kc ks pc ls (aR c :: st) (sh, rf, v) P := by
  intro p e s m args below meth cd H locs lsm C hW hS hL hst
  subst hq; subst ho
  obtain ⟨h8, hk, hlk⟩ := hf
  have hat := wsH_at g.2.2.1 g.2.2.2 (sh, rf, v) hc
  refine va_get (D := g.2.1) (cl := vwCl) (C := CNn ci) (T := FTn ci) (N := NFn ci) C.1 C.2.1 C.2.2.2.2.2.1 (in_all ci h8) C.2.2.2.2.1 C.2.2.2.2.2.2.2.2.1.1 hW.2.1 c hat (cl_at ci h8) k hk (C.2.2.2.2.2.1 _ hlk) (fun _ h9 => h9) (v := va_rf ((rf c k).map (fun z => g.2.2.2 + z))) (by rw [fv_list hk]; simp [fv, hi]) hd ?_
  exact kk p e s m args below meth cd H locs lsm C hW hS hL (okc trivial (okt hst))
theorem World_set {c : Nat} {kl : Nat × Nat} {r' : Nat → Nat → Option Nat} {v' : Nat → Nat → Int} {n0 : Nat} {H1 : Heap} (hc : sh[c]? = some kl) (hr : ∀ d, d ≠ c → r' d = rf d) (hv : ∀ d, d ≠ c → v' d = v d) (hsz : n0 + kc = g.2.2.2 + sh.length) (hrg : ∀ c k, inI (v' c k)) (hP : va_P g.2.1 vwCl ((wsH g.2.2.1 g.2.2.2 (sh, rf, v)).set c (g.2.2.2 + c, wcell g.2.2.1 g.2.2.2 kl (r' c) (v' c))) H1) : World g (sh, r', v') n0 kc H1 := by
  refine ⟨hsz, ?_, hrg⟩
  rw [wsH_set _ _ _ _ _ _ _ hc hr hv] at hP
  exact hP
/-- a field of whole numbers is written -/
theorem x_putI {idx ci k c : Nat} {z : Int} (hd : decode M.2.1 pc = .ok (.putfield idx, 3)) (hq : pc + 3 = q) (hf : FL M.1.cls idx ci k) (hc : sh[c]? = some (ci + 3, NFn ci)) (hi : fty ci k = .int ∨ (fty ci k = .boolean ∧ (z = 0 ∨ z = 1))) (hfin : (FTn ci k).2.2.2 = false) (kk : Wv g M kc ks q ls st (sh, rf, up v c k z) P) : Wv g M kc ks pc ls (aI z :: aR c :: st) (sh, rf, v) P := by
  intro p e s m args below meth cd H locs lsm C hW hS hL hst
  subst hq
  obtain ⟨h8, hk, hlk⟩ := hf
  have hat := wsH_at g.2.2.1 g.2.2.2 (sh, rf, v) hc
  have hz : inI z := okh hst
  have hR : isR (fty ci k) = false := by rcases hi with h | ⟨h, -⟩ <;> rw [h] <;> rfl
  have hnf : narrow (fty ci k) (.int (Int32.ofInt z)) = .int (Int32.ofInt z) ∧ fits (fty ci k) (.int (Int32.ofInt z)) = true := by
    rcases hi with h | ⟨h, h2 | h2⟩
    · rw [h]; exact ⟨rfl, rfl⟩
    · rw [h, h2]; exact ⟨by decide, by decide⟩
    · rw [h, h2]; exact ⟨by decide, by decide⟩
  have hfs : fv g.2.2.2 ci k (rf c k) (up v c k z c k) = .int (Int32.ofInt z) := by simp [fv, hR, up_c]
  refine va_put (D := g.2.1) (cl := vwCl) (C := CNn ci) (T := FTn ci) (N := NFn ci) (ty := fty ci k) C.1 C.2.1 C.2.2.2.2.2.1 (in_all ci h8) (fty ci) (ty_all ci h8) (nm_all ci h8) C.2.2.2.2.1 C.2.2.2.2.2.2.2.2.1.1 hW.2.1 (wsH_D _ _ _) hS c hat (cl_at ci h8) k hk (C.2.2.2.2.2.1 _ hlk) (fun _ h9 => h9) hfin (ty_all ci h8 k hk) hnf.1 hnf.2 (by simpa using hk) hd (fun H1 locs1 hP1 _ hS1 => ?_)
  have hw1 : World g (sh, rf, up v c k z) s.heap.size kc H1 := by
    refine World_set (rf := rf) (v := v) hc (fun _ _ => rfl) (fun d hd => up_n v k z hd) hW.1 (up_rng hW.2.2 hz) ?_
    · have e1 : wcell g.2.2.1 g.2.2.2 (ci + 3, NFn ci) (rf c) (up v c k z c) = .inr (ci, ((List.range (NFn ci)).map (fun j => fv g.2.2.2 ci j (rf c j) (v c j))).set k (.int (Int32.ofInt z))) := by
        rw [← hfs, fv_set (r' := rf c) (x' := up v c k z c) (fun _ _ => rfl) (fun j hj => by simp [up_c, hj])]
        rfl
      rw [e1]
      exact hP1
  exact kk p e s m args below meth cd H1 locs1 lsm C hw1 hS1 hL (okt (okt hst))
/-- a final field of references is written, in a constructor -/
theorem x_putF {idx ci k c : Nat} {o : Option Nat} (hd : decode M.2.1 pc = .ok (.putfield idx, 3)) (hq : pc + 3 = q) (hf : FL M.1.cls idx ci k) (hc : sh[c]? = some (ci + 3, NFn ci)) (hi : isR (fty ci k) = true) (hfin : (FTn ci k).2.2.2 = true) (hin : M.1.name = "<init>") (hdecl : (FTn ci k).1 = M.1.cls) (kk : Wv g M kc ks q ls st (sh, upO rf c k o, v) P) : Wv g M kc ks pc ls (aQ o :: aR c :: st) (sh, rf, v) P := by
  intro p e s m args below meth cd H locs lsm C hW hS hL hst
  subst hq
  obtain ⟨h8, hk, hlk⟩ := hf
  have hat := wsH_at g.2.2.1 g.2.2.2 (sh, rf, v) hc
  have hnf : narrow (fty ci k) (va_rf (o.map (fun z => g.2.2.2 + z))) = va_rf (o.map (fun z => g.2.2.2 + z)) ∧ fits (fty ci k) (va_rf (o.map (fun z => g.2.2.2 + z))) = true := by
    generalize fty ci k = ty at hi
    cases ty <;> simp [isR] at hi <;> cases o <;> exact ⟨rfl, rfl⟩
  have hfs : fv g.2.2.2 ci k (upO rf c k o c k) (v c k) = va_rf (o.map (fun z => g.2.2.2 + z)) := by simp [fv, hi, upO_c]
  refine va_putF (D := g.2.1) (cl := vwCl) (C := CNn ci) (T := FTn ci) (N := NFn ci) (ty := fty ci k) C.1 C.2.1 C.2.2.2.2.2.1 (in_all ci h8) (fty ci) (ty_all ci h8) (nm_all ci h8) C.2.2.2.2.1 C.2.2.2.2.2.2.2.2.1.1 hW.2.1 (wsH_D _ _ _) hS c hat (cl_at ci h8) k hk (C.2.2.2.2.2.1 _ hlk) (fun _ h9 => h9) hfin (C.2.2.2.2.2.2.2.1.trans hin) hdecl (ty_all ci h8 k hk) hnf.1 hnf.2 (by simpa using hk) hd (fun H1 locs1 hP1 _ hS1 => ?_)
  have hw1 : World g (sh, upO rf c k o, v) s.heap.size kc H1 := by
    refine World_set (rf := rf) (v := v) hc (fun d hd => upO_n rf k o hd) (fun _ _ => rfl) hW.1 hW.2.2 ?_
    · have e1 : wcell g.2.2.1 g.2.2.2 (ci + 3, NFn ci) (upO rf c k o c) (v c) = .inr (ci, ((List.range (NFn ci)).map (fun j => fv g.2.2.2 ci j (rf c j) (v c j))).set k (va_rf (o.map (fun z => g.2.2.2 + z)))) := by
        rw [← hfs, fv_set (r' := upO rf c k o c) (x' := v c) (fun j hj => by simp [upO_c, hj]) (fun _ _ => rfl)]
        rfl
      rw [e1]
      exact hP1
  exact kk p e s m args below meth cd H1 locs1 lsm C hw1 hS1 hL (okt (okt hst))
theorem x_iald {c n : Nat} {i : Int} (hd : decode M.2.1 pc = .ok (.iaload, 1)) (hq : pc + 1 = q) (hc : sh[c]? = some (0, n)) (h0 : 0 ≤ i) (h1 : i < n) (kk : Wv g M kc ks q ls (aI (v c i.toNat) :: st) (sh, rf, v) P) : Wv g M kc ks pc ls (aI i :: aR c :: st) (sh, rf, v) P := by
  intro p e s m args below meth cd H locs lsm C hW hS hL hst
  subst hq
  have hat := wsH_at g.2.2.1 g.2.2.2 (sh, rf, v) hc
  have hi : inI i := okh hst
  refine va_iald (D := g.2.1) (cl := vwCl) C.1 C.2.1 C.2.2.2.2.2.2.2.2.1.1 hW.2.1 c 0 hat rfl (ci_ix h0 h1 hi) hd ?_
  rw [ci_cl hi]
  exact kk p e s m args below meth cd H locs lsm C hW hS hL (okc (hW.2.2 c _) (okt (okt hst)))
theorem x_zald {c n : Nat} {i : Int} (hd : decode M.2.1 pc = .ok (.baload, 1)) (hq : pc + 1 = q) (hc : sh[c]? = some (1, n)) (h0 : 0 ≤ i) (h1 : i < n) (kk : Wv g M kc ks q ls (aI (v c i.toNat) :: st) (sh, rf, v) P) : Wv g M kc ks pc ls (aI i :: aR c :: st) (sh, rf, v) P := by
  intro p e s m args below meth cd H locs lsm C hW hS hL hst
  subst hq
  have hat := wsH_at g.2.2.1 g.2.2.2 (sh, rf, v) hc
  have hi : inI i := okh hst
  refine va_zald (D := g.2.1) (cl := vwCl) C.1 C.2.1 C.2.2.2.2.2.2.2.2.1.1 hW.2.1 c 1 hat rfl (ci_ix h0 h1 hi) hd ?_
  rw [ci_cl hi]
  exact kk p e s m args below meth cd H locs lsm C hW hS hL (okc (hW.2.2 c _) (okt (okt hst)))
theorem x_aald {c n : Nat} {i : Int} {o : Option Nat} (hd : decode M.2.1 pc = .ok (.aaload, 1)) (hq : pc + 1 = q) (hc : sh[c]? = some (2, n)) (h0 : 0 ≤ i) (h1 : i < n) (ho : rf c i.toNat = o) (kk : Wv g M kc ks q ls (aQ o :: st) (sh, rf, v) P) : Wv g M kc ks pc ls (aI i :: aR c :: st) (sh, rf, v) P := by
  intro p e s m args below meth cd H locs lsm C hW hS hL hst
  subst hq; subst ho
  have hat := wsH_at g.2.2.1 g.2.2.2 (sh, rf, v) hc
  have hi : inI i := okh hst
  refine va_aldq (D := g.2.1) (cl := vwCl) C.1 C.2.1 C.2.2.2.2.2.2.2.2.1.1 hW.2.1 c 2 hat rfl (ci_ix h0 h1 hi) hd ?_
  rw [ci_cl hi]
  exact kk p e s m args below meth cd H locs lsm C hW hS hL (okc trivial (okt (okt hst)))
theorem x_alen {c n k : Nat} (hd : decode M.2.1 pc = .ok (.arraylength, 1)) (hq : pc + 1 = q) (hc : sh[c]? = some (k, n)) (hk : k < 3) (hn : n < 2147483648) (kk : Wv g M kc ks q ls (aI (n : Int) :: st) (sh, rf, v) P) : Wv g M kc ks pc ls (aR c :: st) (sh, rf, v) P := by
  intro p e s m args below meth cd H locs lsm C hW hS hL hst
  subst hq
  have hat := wsH_at g.2.2.1 g.2.2.2 (sh, rf, v) hc
  have hk2 := kk p e s m args below meth cd H locs lsm C hW hS hL (okc (show inI (n : Int) from ⟨by omega, by omega⟩) (okt hst))
  rcases (show k = 0 ∨ k = 1 ∨ k = 2 by omega) with rfl | rfl | rfl
  · exact va_alen (D := g.2.1) (cl := vwCl) C.1 C.2.1 C.2.2.2.2.2.2.2.2.1.1 hW.2.1 c 0 hat rfl (v := Int32.ofInt (n : Int)) Int32.ofInt_eq_ofNat.symm hd hk2
  · exact va_alen (D := g.2.1) (cl := vwCl) C.1 C.2.1 C.2.2.2.2.2.2.2.2.1.1 hW.2.1 c 1 hat rfl (v := Int32.ofInt (n : Int)) Int32.ofInt_eq_ofNat.symm hd hk2
  · exact va_alen (D := g.2.1) (cl := vwCl) C.1 C.2.1 C.2.2.2.2.2.2.2.2.1.1 hW.2.1 c 2 hat rfl (v := Int32.ofInt (n : Int)) Int32.ofInt_eq_ofNat.symm hd hk2
theorem upd_up {c i : Nat} {z : Int} : upd (fun j => Int32.ofInt (v c j)) i (Int32.ofInt z) = fun j => Int32.ofInt (up v c i z c j) := by
  funext j
  rw [up_c]
  by_cases hj : j = i
  · simp [upd, hj]
  · simp [upd, hj]
theorem x_iast {c n : Nat} {i z : Int} (hd : decode M.2.1 pc = .ok (.iastore, 1)) (hq : pc + 1 = q) (hc : sh[c]? = some (0, n)) (h0 : 0 ≤ i) (h1 : i < n) (kk : Wv g M kc ks q ls st (sh, rf, up v c i.toNat z) P) : Wv g M kc ks pc ls (aI z :: aI i :: aR c :: st) (sh, rf, v) P := by
  intro p e s m args below meth cd H locs lsm C hW hS hL hst
  subst hq
  have hat := wsH_at g.2.2.1 g.2.2.2 (sh, rf, v) hc
  have hz : inI z := okh hst
  have hi : inI i := okh (okt hst)
  refine va_iast (D := g.2.1) (cl := vwCl) C.1 C.2.1 C.2.2.2.2.2.2.2.2.1.1 hW.2.1 (wsH_D _ _ _) hS c 0 hat rfl (ci_ix h0 h1 hi) hd (fun H1 locs1 hP1 _ hS1 => ?_)
  rw [ci_cl hi, upd_up] at hP1
  have hw1 : World g (sh, rf, up v c i.toNat z) s.heap.size kc H1 := World_set (rf := rf) (v := v) hc (fun _ _ => rfl) (fun d hd => up_n v _ z hd) hW.1 (up_rng hW.2.2 hz) hP1
  exact kk p e s m args below meth cd H1 locs1 lsm C hw1 hS1 hL (okt (okt (okt hst)))
theorem x_zast {c n : Nat} {i z : Int} (hd : decode M.2.1 pc = .ok (.bastore, 1)) (hq : pc + 1 = q) (hc : sh[c]? = some (1, n)) (h0 : 0 ≤ i) (h1 : i < n) (hz1 : z = 0 ∨ z = 1) (kk : Wv g M kc ks q ls st (sh, rf, up v c i.toNat z) P) : Wv g M kc ks pc ls (aI z :: aI i :: aR c :: st) (sh, rf, v) P := by
  intro p e s m args below meth cd H locs lsm C hW hS hL hst
  subst hq
  have hat := wsH_at g.2.2.1 g.2.2.2 (sh, rf, v) hc
  have hz : inI z := okh hst
  have hi : inI i := okh (okt hst)
  have hnz : vp_nar .boolean (Int32.ofInt z) = Int32.ofInt z := by rcases hz1 with rfl | rfl <;> decide
  refine va_zast (D := g.2.1) (cl := vwCl) C.1 C.2.1 C.2.2.2.2.2.2.2.2.1.1 hW.2.1 (wsH_D _ _ _) hS c 1 hat rfl (ci_ix h0 h1 hi) hd (fun H1 locs1 hP1 _ hS1 => ?_)
  rw [ci_cl hi, hnz, upd_up] at hP1
  have hw1 : World g (sh, rf, up v c i.toNat z) s.heap.size kc H1 := World_set (rf := rf) (v := v) hc (fun _ _ => rfl) (fun d hd => up_n v _ z hd) hW.1 (up_rng hW.2.2 hz) hP1
  exact kk p e s m args below meth cd H1 locs1 lsm C hw1 hS1 hL (okt (okt (okt hst)))
theorem x_aast {c n d : Nat} {i : Int} (hd : decode M.2.1 pc = .ok (.aastore, 1)) (hq : pc + 1 = q) (hc : sh[c]? = some (2, n)) (hdd : sh[d]? = some (5, 2)) (h0 : 0 ≤ i) (h1 : i < n) (kk : Wv g M kc ks q ls st (sh, upO rf c i.toNat (some d), v) P) : Wv g M kc ks pc ls (aR d :: aI i :: aR c :: st) (sh, rf, v) P := by
  intro p e s m args below meth cd H locs lsm C hW hS hL hst
  subst hq
  have hat := wsH_at g.2.2.1 g.2.2.2 (sh, rf, v) hc
  have hat2 := wsH_at g.2.2.1 g.2.2.2 (sh, rf, v) hdd
  have hi : inI i := okh (okt hst)
  refine va_astq (D := g.2.1) (cl := vwCl) (r := (RX2, TX2, 2)) C.1 C.2.1 C.2.2.2.2.2.2.2.2.1.1 hW.2.1 (wsH_D _ _ _) hS c 2 d 2 hat rfl hat2 rfl (ci_ix h0 h1 hi) hd (fun H1 locs1 hP1 _ hS1 => ?_)
  have e1 : va_up (fun j => ((rf c j).map (fun z => g.2.2.2 + z))) (Int32.ofInt i).toNatClampNeg (some (g.2.2.2 + d)) = fun j => ((upO rf c i.toNat (some d) c j).map (fun z => g.2.2.2 + z)) := by
    funext j
    rw [ci_cl hi, upO_c]
    by_cases hj : j = i.toNat
    · simp [va_up, hj]
    · simp [va_up, hj]
  rw [e1] at hP1
  have hw1 : World g (sh, upO rf c i.toNat (some d), v) s.heap.size kc H1 := World_set (rf := rf) (v := v) hc (fun d hd => upO_n rf _ _ hd) (fun _ _ => rfl) hW.1 hW.2.2 hP1
  exact kk p e s m args below meth cd H1 locs1 lsm C hw1 hS1 hL (okt (okt (okt hst)))
end MU
end
section
/-! ===== entry, ends, calls, making ===== -/
section EN
variable {g : GL} {M : MD} {kc ks pc q : Nat} {ls : List (Option AV)} {st : List AV} {h : AH} {P : PT}
theorem Framed_ok {s : State} {H : Heap} {locs : List Loc} (hS : va_S (fun q => g.2.2.2 ≤ q) s.heap H locs) {t : State} (ht : t.heap = H) : va_F (fun q => g.2.2.2 ≤ q) s t := hS.F ht
theorem x_iret {z : Int} (hd : decode M.2.1 pc = .ok (.ireturn, 1)) (hr : M.2.2.2.1 = some .int) (hk : kc = M.2.2.2.2.cells) (hs : ks ≤ M.2.2.2.2.slots) (hp : P (some (aI z)) h) : Wv g M kc ks pc ls [aI z] h P := by
  intro p e s m args below meth c H locs lsm C hW hS hL hst
  subst hk
  refine W.widen (Nat.le_refl _) hs ?_
  have hlocks : meth.locks = false := C.2.2.2.2.2.2.1
  exact W.iret (v := Int32.ofInt z) C.1 C.2.1 (C.2.2.2.1.trans hr) (fun t ht hWm => ⟨⟨some (aI z), h, rfl, fun a ha => by cases ha; exact okh hst, hp, by rw [ht]; exact hW, KK.moved hWm.alike C.2.2.2.2.2.2.2.2.1⟩, hS.F ht⟩) hS.2.2 hd hlocks
theorem x_zret {z : Int} (hd : decode M.2.1 pc = .ok (.ireturn, 1)) (hr : M.2.2.2.1 = some .boolean) (hz : z = 0 ∨ z = 1) (hk : kc = M.2.2.2.2.cells) (hs : ks ≤ M.2.2.2.2.slots) (hp : P (some (aI z)) h) : Wv g M kc ks pc ls [aI z] h P := by
  intro p e s m args below meth c H locs lsm C hW hS hL hst
  subst hk
  refine W.widen (Nat.le_refl _) hs ?_
  have hlocks : meth.locks = false := C.2.2.2.2.2.2.1
  exact W.zret (v := Int32.ofInt z) C.1 C.2.1 (C.2.2.2.1.trans hr) (by rcases hz with rfl | rfl <;> decide) (fun t ht hWm => ⟨⟨some (aI z), h, rfl, fun a ha => by cases ha; exact okh hst, hp, by rw [ht]; exact hW, KK.moved hWm.alike C.2.2.2.2.2.2.2.2.1⟩, hS.F ht⟩) hS.2.2 hd hlocks
theorem x_vret (hd : decode M.2.1 pc = .ok (.return_, 1)) (hr : M.2.2.2.1 = none) (hk : kc = M.2.2.2.2.cells) (hs : ks ≤ M.2.2.2.2.slots) (hp : P none h) : Wv g M kc ks pc ls [] h P := by
  intro p e s m args below meth c H locs lsm C hW hS hL hst
  subst hk
  refine W.widen (Nat.le_refl _) hs ?_
  have hlocks : meth.locks = false := C.2.2.2.2.2.2.1
  exact W.vret C.1 C.2.1 (C.2.2.2.1.trans hr) (fun t ht hWm => ⟨⟨none, h, rfl, (fun a ha => by cases ha), hp, by rw [ht]; exact hW, KK.moved hWm.alike C.2.2.2.2.2.2.2.2.1⟩, hS.F ht⟩) hS.2.2 hd hlocks
def entL : List AV → List (Option AV)
  | [] => []
  | a :: t => if catA a = 2 then some a :: none :: entL t else some a :: entL t
theorem cat_cv (B : Nat) (a : AV) : (cv B a).category = catA a := by
  obtain z | z | z := a
  · rfl
  · rfl
  · cases z <;> rfl
theorem entL_args (B : Nat) : ∀ (as : List AV) (n i : Nat) (a : AV), (entL as)[i]? = some (some a) → (n + i, cv B a) ∈ lv_args n (as.map (cv B)) ∧ a ∈ as
  | [], n, i, a, h => by simp [entL] at h
  | b :: t, n, i, a, h => by
    simp only [List.map_cons, lv_args, cat_cv]
    unfold entL at h
    by_cases hb : catA b = 2
    · rw [if_pos hb] at h ⊢
      match i, h with
      | 0, h =>
        have : b = a := by simpa using h
        subst this
        exact ⟨List.mem_cons_self, List.mem_cons_self⟩
      | 1, h => simp at h
      | j + 2, h =>
        have := entL_args B t (n + 2) j a (by simpa using h)
        exact ⟨List.mem_cons_of_mem _ (by rw [show n + (j + 2) = n + 2 + j by omega]; exact this.1), List.mem_cons_of_mem _ this.2⟩
    · rw [if_neg hb] at h ⊢
      match i, h with
      | 0, h =>
        have : b = a := by simpa using h
        subst this
        exact ⟨List.mem_cons_self, List.mem_cons_self⟩
      | j + 1, h =>
        have := entL_args B t (n + 1) j a (by simpa using h)
        exact ⟨List.mem_cons_of_mem _ (by rw [show n + (j + 1) = n + 1 + j by omega]; exact this.1), List.mem_cons_of_mem _ this.2⟩
theorem entL_len (B : Nat) : ∀ as : List AV, (lg_sl (as.map (cv B))).length = (entL as).length
  | [] => rfl
  | b :: t => by
    have ih := entL_len B t
    unfold lg_sl at ih ⊢
    simp only [List.map_cons, List.flatMap_cons, List.length_append, cat_cv, entL]
    by_cases hb : catA b = 2
    · simp only [hb, if_true, List.length_cons, List.length_nil]; omega
    · simp only [hb, if_false, List.length_cons, List.length_nil]; omega
theorem x_entry {as : List AV} (hy : plainName M.1.cls = true) (hls : ls = entL as ++ List.replicate (M.2.2.1 - (entL as).length) none) (hn : (entL as).length ≤ M.2.2.1) (k : Wv g M 0 0 0 ls [] h P) : Cv g M as h P := by
  refine Met.ofW (cc := M.2.1) (maxL := M.2.2.1) (ret := M.2.2.2.1) hy rfl ?_
  intro p e s m args below meth c s₁ B hml hv
  obtain ⟨rfl, hok, hW, hK⟩ := hv
  have hts := atoms_spec (ws := wsM M) B.pre
  have hown : s.vm.findClass M.1.cls = some m.cls := findClass_of_methodNamed B.named
  have hin : meth.name = M.1.name := (name_of_methodNamed B.named B.method).1
  have C : Ctx g M p s m ((as.map (cv g.2.2.2)).toArray) meth c := ⟨B.exec, B.bytes, hml, B.returns, hown, fun w hw => hts w (List.mem_cons_of_mem _ hw), B.notSynchronized, hin, hK, by have := hW.1; omega⟩
  have hl := lv_entry (as.map (cv g.2.2.2)) (n := M.2.2.1) (by rw [entL_len]; exact hn)
  rw [lg_entry_eq]
  refine k p e s m _ below meth c s.heap [] _ C hW va_S.rf ?_ (fun a ha => by cases ha)
  refine ⟨hl.1, by rw [hls]; simp; omega, hl.2.1, fun i a hi => ?_⟩
  have hi2 : (entL as)[i]? = some (some a) := by
    rw [hls] at hi
    by_cases hlt : i < (entL as).length
    · rw [List.getElem?_append_left hlt] at hi; exact hi
    · rw [List.getElem?_append_right (by omega)] at hi
      rw [List.getElem?_replicate] at hi
      split at hi <;> simp at hi
  have h1 := entL_args g.2.2.2 as 0 i a hi2
  rw [Nat.zero_add] at h1
  exact ⟨hl.2.2 _ h1.1, hok a h1.2⟩
theorem good_ws {M' : MD} (hcode : Cond.code M'.1 M'.2.1 M'.2.2.1 M'.2.2.2.1 ∈ gw_tbl) : GoodIn gw_tbl (wsM M') := by
  intro w hw
  have hm : w ∈ gw_tbl := by
    rcases List.mem_cons.mp hw with rfl | h
    · exact hcode
    · exact h
  exact ⟨hm, good_of_word (List.mem_filter.mp hm).2⟩
/-- what a call rests on: words, descriptor, room -/
def CB (M : MD) (idx : Nat) (M' : MD) (n : Nat) : Prop :=
  Cond.methodLink M.1.cls idx M'.1 ∈ gw_tbl ∧ Cond.initialized M'.1.cls ∈ gw_tbl ∧ Cond.code M'.1 M'.2.1 M'.2.2.1 M'.2.2.2.1 ∈ gw_tbl ∧ (M'.1.cls ≠ "java/lang/invoke/MethodHandle" ∧ M'.1.cls ≠ "java/lang/invoke/VarHandle" ∧ (parseMethodDescriptor M'.1.desc).map (fun d => d.parameters.length) = some n) ∧
  (M'.2.2.2.2.frames + 1 ≤ M.2.2.2.2.frames ∧ 8 + (M'.2.2.1 + 11) + M'.2.2.2.2.locals ≤ M.2.2.2.2.locals)
def CLV (M : MD) (idx : Nat) (M' : MD) (n : Nat) : Prop := CB M idx M' n ∧ Cond.instanceMethod M'.1 ∈ gw_tbl ∧ Cond.selects M'.1.cls M'.1 M'.1 ∈ gw_tbl
def CLS (M : MD) (idx : Nat) (M' : MD) (n : Nat) : Prop := CB M idx M' n ∧ Cond.static M'.1 ∈ gw_tbl
def CLI (M : MD) (idx : Nat) (M' : MD) (n : Nat) : Prop := CB M idx M' n ∧ Cond.instanceMethod M'.1 ∈ gw_tbl ∧ M'.1.name = "<init>"
theorem CB.use {M M' : MD} {idx n : Nat} (b : CB M idx M' n) {p : Program} {s : State} {m : MethodId} {args : Array Value} {meth : Method} {c : Code} (C : Ctx g M p s m args meth c) : CallB M.2.2.2.2 s args M.1.cls idx M'.1 M'.2.1 M'.2.2.1 M'.2.2.2.1 (wsM M') M'.2.2.2.2 M'.2.2.2.2.cells M'.2.2.2.2.slots n :=
  callB_of n C.2.2.2.2.2.1 (good_ws b.2.2.1) rfl rfl rfl (C.2.2.2.2.2.1 _ b.2.1) (C.2.2.2.2.2.1 _ b.1) b.2.2.2.1 b.2.2.2.2
theorem PP_blind {as : List AV} {h : AH} : FrameBlind (va_Pc (as.map (cv g.2.2.2)) (PP g as h)) := by
  intro a U g0 mk q
  obtain ⟨q0, q1, q2, q3⟩ := q
  exact ⟨q0, q1, q2, KK.moved (u := U) (U := U.calling g0 mk a) (Vm.Alike.refl U.vm) q3⟩
/-- the heap's size, where the machine stands -/
theorem size_at {p : Program} {l : Launch} {e : Env} {R : Room} {s : State} {m : MethodId} {args : Array Value} {below : List Frame} {meth : Method} {c : Code} {T : State} {locs : List Loc} (X : Stand p l e R s m args below meth c T locs kc ks) (hB : g.2.2.2 ≤ s.heap.size) (hW : World g h s.heap.size kc T.heap) (hS : va_S (fun q => g.2.2.2 ≤ q) s.heap T.heap locs) : T.heap.size = g.2.2.2 + h.1.length := by
  have h1 := X.heapSize
  have h2 := hW.1
  have h3 := hS.1
  by_cases hn : h.1.length = 0
  · omega
  · have hc : h.1[h.1.length - 1]? = some h.1[h.1.length - 1] := List.getElem?_eq_getElem (by omega)
    have := (hW.2.1 (h.1.length - 1) _ (wsH_at g.2.2.1 g.2.2.2 h hc)).lt
    dsimp only at this
    omega
theorem x_run {M' : MD} {as rest : List AV} {P' : PT} (hq : pc + 3 = q)
    (hr : ∀ (p : Program) (e : Env) (s : State) (m : MethodId) (args : Array Value) (below : List Frame) (meth : Method) (c : Code) (H : Heap) (locs : List Loc) (lsm : Array Slot), Ctx g M p s m args meth c → World g h s.heap.size kc H → H.size = g.2.2.2 + h.1.length → lsm.size = M.2.2.1 → (∀ a ∈ as, okV a) → va_Run p g.1 e M.2.2.2.2 s m args below meth c H locs kc ks M'.2.2.2.2.cells M'.2.2.2.2.slots (F0 m pc lsm (st.map (cv g.2.2.2))) (rest.map (cv g.2.2.2)) (QQ g M' P' ((as.map (cv g.2.2.2)).toArray)) (fun q => g.2.2.2 ≤ q))
    (hst0 : st = as.reverse ++ rest)
    (kk : ∀ r h', P' r h' → Wv g M (kc + M'.2.2.2.2.cells) (ks + M'.2.2.2.2.slots) q ls (r.toList ++ rest) h' P) : Wv g M kc ks pc ls st h P := by
  intro p e s m args below meth c H locs lsm C hW hS hL hst
  subst hq
  intro T hT X
  subst hT
  have hsz := size_at X C.2.2.2.2.2.2.2.2.2 hW hS
  have hokA : ∀ a ∈ as, okV a := fun a ha => hst a (by rw [hst0]; exact List.mem_append_left _ (List.mem_reverse.mpr ha))
  have hokR : ∀ a ∈ rest, okV a := fun a ha => hst a (by rw [hst0]; exact List.mem_append_right _ ha)
  obtain ⟨v0, st₀, t, T', L, h0, X', hLL, e1, e2, ⟨⟨r, h', c1, c2, c3, c4, c5⟩, hz, hkp⟩, stp⟩ := hr p e s m args below meth c T.heap locs lsm C hW hsz hL.1 hokA T rfl X
  have hv : v0 = r.map (cv g.2.2.2) := by injection c1
  subst hv
  rw [h0] at hz hkp c4
  have hW1 : World g h' s.heap.size (kc + M'.2.2.2.2.cells) T'.heap := by
    refine ⟨?_, by rw [e1]; exact c4.2.1, c4.2.2⟩
    have a1 := c4.1
    have a2 := hW.1
    omega
  have hS1 : va_S (fun q => g.2.2.2 ≤ q) s.heap T'.heap (locs ++ L) := by
    refine ⟨Nat.le_trans hS.1 (by rw [e1]; exact hz), fun q h1 h2 => ?_, fun q hq => ?_⟩
    · rw [e1, hkp q (Nat.lt_of_lt_of_le h1 hS.1) h2]
      exact hS.2.1 q h1 h2
    · rcases List.mem_append.mp hq with h | h
      · exact hS.2.2 q h
      · exact hLL q h
  obtain ⟨t2, a1, b1⟩ := kk r h' c3 p e s m args below meth c T'.heap (locs ++ L) lsm C hW1 hS1 hL (by
    intro a ha
    rcases List.mem_append.mp ha with h | h
    · cases r with
      | none => cases h
      | some b =>
        have : a = b := by simpa using h
        subst this
        exact c2 a rfl
    · exact hokR a h) T' rfl X'
  refine ⟨t2, stp t2 ?_, b1⟩
  rw [List.map_append] at a1
  have e3 : (r.map (cv g.2.2.2)).toList = r.toList.map (cv g.2.2.2) := by cases r <;> rfl
  rw [e3]
  exact a1
theorem cats_ok (B : Nat) {rest : List AV} (h : (rest.map catA).sum ≤ 8) : ((rest.map (cv B)).map fun v => v.category).sum ≤ 8 := by
  rw [List.map_map]
  have : (fun v => v.category) ∘ cv B = catA := by funext a; exact cat_cv B a
  rw [this]
  exact h
theorem x_callV {M' : MD} {idx n b ci N : Nat} {as rest : List AV} {P' : PT} (hd : decode M.2.1 pc = .ok (.invokevirtual idx, 3)) (hq : pc + 3 = q) (hm : CLV M idx M' n) (hC : Cv g M' (aR b :: as) h P') (hst0 : st = (aR b :: as).reverse ++ rest) (hn : as.length = n) (hc : h.1[b]? = some (ci + 3, N)) (h8 : ci < 8) (hcn : CNn ci = M'.1.cls) (hrest : (rest.map catA).sum ≤ 8) (hcells : kc + M'.2.2.2.2.cells ≤ M.2.2.2.2.cells ∧ ks + M'.2.2.2.2.slots ≤ M.2.2.2.2.slots)
    (kk : ∀ r h', P' r h' → Wv g M (kc + M'.2.2.2.2.cells) (ks + M'.2.2.2.2.slots) q ls (r.toList ++ rest) h' P) : Wv g M kc ks pc ls st h P := by
  refine x_run (M' := M') (as := aR b :: as) (rest := rest) (P' := P') hq ?_ hst0 kk
  intro p e s m args below meth c H locs lsm C hW hsz hlsz hok
  have hat := wsH_at g.2.2.1 g.2.2.2 h hc
  have hrecv := va_recv (q := (CNn ci, FTn ci, NFn ci)) C.2.2.2.2.2.2.2.2.1.1 hW.2.1 (cl_at ci h8) hat
  have hrecv : ∃ cell : Cell, H[g.2.2.2 + b]? = some cell ∧ cell.vm.isStatics = false ∧ s.vm.findClass M'.1.cls = some cell.cls := by rw [← hcn]; exact hrecv
  refine va_runV (C := M'.1.cls) (b := g.2.2.2 + b) (As := as.map (cv g.2.2.2)) ⟨C.1, C.2.1, C.2.2.1, C.2.2.2.2.1, C.2.2.2.2.2.1⟩ hC ⟨hm.1.use C, C.2.2.2.2.2.1 _ hm.2.1, C.2.2.2.2.2.1 _ hm.2.2⟩ ⟨PP_blind, hrecv, fun U hU hWm => ⟨rfl, hok, ?_, KK.moved hWm.alike C.2.2.2.2.2.2.2.2.1⟩⟩ rfl (by simpa using hn) hlsz ?_ (lv_room (cats_ok _ hrest)) hd hcells
  · rw [hU]
    exact ⟨by omega, hW.2.1, hW.2.2⟩
  · show st.map (cv g.2.2.2) = _
    rw [hst0]
    simp [cv, va_rf]
theorem x_callS {M' : MD} {idx n : Nat} {as rest : List AV} {P' : PT} (hd : decode M.2.1 pc = .ok (.invokestatic idx, 3)) (hq : pc + 3 = q) (hm : CLS M idx M' n) (hC : Cv g M' as h P') (hst0 : st = as.reverse ++ rest) (hn : as.length = n) (hrest : (rest.map catA).sum ≤ 8) (hcells : kc + M'.2.2.2.2.cells ≤ M.2.2.2.2.cells ∧ ks + M'.2.2.2.2.slots ≤ M.2.2.2.2.slots)
    (kk : ∀ r h', P' r h' → Wv g M (kc + M'.2.2.2.2.cells) (ks + M'.2.2.2.2.slots) q ls (r.toList ++ rest) h' P) : Wv g M kc ks pc ls st h P := by
  refine x_run (M' := M') (as := as) (rest := rest) (P' := P') hq ?_ hst0 kk
  intro p e s m args below meth c H locs lsm C hW hsz hlsz hok
  refine va_runS (As := as.map (cv g.2.2.2)) ⟨C.1, C.2.1, C.2.2.1, C.2.2.2.2.1, C.2.2.2.2.2.1⟩ hC ⟨hm.1.use C, C.2.2.2.2.2.1 _ hm.2⟩ ⟨PP_blind, fun U hU hWm => ⟨rfl, hok, ?_, KK.moved hWm.alike C.2.2.2.2.2.2.2.2.1⟩⟩ rfl (by simpa using hn) hlsz ?_ (lv_room (cats_ok _ hrest)) hd hcells
  · rw [hU]
    exact ⟨by omega, hW.2.1, hW.2.2⟩
  · show st.map (cv g.2.2.2) = _
    rw [hst0]
    simp
theorem x_callI {M' : MD} {idx n b : Nat} {as rest : List AV} {P' : PT} (hd : decode M.2.1 pc = .ok (.invokespecial idx, 3)) (hq : pc + 3 = q) (hm : CLI M idx M' n) (hret : M'.2.2.2.1 = none) (hC : Cv g M' (aR b :: as) h P') (hst0 : st = (aR b :: as).reverse ++ rest) (hn : as.length = n) (hrest : (rest.map catA).sum ≤ 8) (hcells : kc + M'.2.2.2.2.cells ≤ M.2.2.2.2.cells ∧ ks + M'.2.2.2.2.slots ≤ M.2.2.2.2.slots)
    (kk : ∀ r h', P' r h' → Wv g M (kc + M'.2.2.2.2.cells) (ks + M'.2.2.2.2.slots) q ls (r.toList ++ rest) h' P) : Wv g M kc ks pc ls st h P := by
  refine x_run (M' := M') (as := aR b :: as) (rest := rest) (P' := P') hq ?_ hst0 kk
  intro p e s m args below meth c H locs lsm C hW hsz hlsz hok
  have hb := hm.1.use C
  rw [hret] at hb
  refine va_runI (b := g.2.2.2 + b) (As := as.map (cv g.2.2.2)) ⟨C.1, C.2.1, C.2.2.1, C.2.2.2.2.1, C.2.2.2.2.2.1⟩ hC ⟨hb, hm.2.2, C.2.2.2.2.2.1 _ hm.2.1⟩ ⟨PP_blind, fun U hU hWm => ⟨rfl, hok, ?_, KK.moved hWm.alike C.2.2.2.2.2.2.2.2.1⟩⟩ rfl (by simpa using hn) hlsz ?_ (lv_room (cats_ok _ hrest)) hd hcells
  · rw [hU]
    exact ⟨by omega, hW.2.1, hW.2.2⟩
  · show st.map (cv g.2.2.2) = _
    rw [hst0]
    simp [cv, va_rf]
end EN
end
section
/-! ===== making cells; the JDK's own ===== -/
def upRo (r : Nat → Nat → Option Nat) (c : Nat) (f : Nat → Option Nat) : Nat → Nat → Option Nat := fun c' => if c' = c then f else r c'
theorem upR_c (v : Nat → Nat → Int) (c : Nat) (f : Nat → Int) : upR v c f c = f := by simp [upR]
theorem upR_n (v : Nat → Nat → Int) {c d : Nat} (f : Nat → Int) (h : d ≠ c) : upR v c f d = v d := by simp [upR, h]
theorem upRo_c (v : Nat → Nat → Option Nat) (c : Nat) (f : Nat → Option Nat) : upRo v c f c = f := by simp [upRo]
theorem upRo_n (v : Nat → Nat → Option Nat) {c d : Nat} (f : Nat → Option Nat) (h : d ≠ c) : upRo v c f d = v d := by simp [upRo, h]
theorem upR_rng {v : Nat → Nat → Int} {c : Nat} {f : Nat → Int} (h : ∀ c k, inI (v c k)) (hz : ∀ k, inI (f k)) : ∀ c' k', inI (upR v c f c' k') := by
  intro c' k'
  unfold upR
  split
  · exact hz _
  · exact h _ _
section MK
variable {g : GL} {M : MD} {kc ks pc q : Nat} {ls : List (Option AV)} {st : List AV} {sh : List (Nat × Nat)} {rf : Nat → Nat → Option Nat} {v : Nat → Nat → Int} {P : PT}
/-- a cell of kind kl, all empty, behind the others -/
def mkH (sh : List (Nat × Nat)) (rf : Nat → Nat → Option Nat) (v : Nat → Nat → Int) (kl : Nat × Nat) : AH := (sh ++ [kl], upRo rf sh.length (fun _ => none), upR v sh.length (fun _ => 0))
theorem make_core {kl : Nat × Nat} {ks' : Nat} (kk : Wv g M (kc + 1) ks' q ls (aR sh.length :: st) (mkH sh rf v kl) P) {p : Program} {e : Env} {s : State} {m : MethodId} {args : Array Value} {below : List Frame} {meth : Method} {c : Code} {H : Heap} {locs : List Loc} {lsm : Array Slot} (C : Ctx g M p s m args meth c) (hW : World g (sh, rf, v) s.heap.size kc H) (hL : Lh g.2.2.2 lsm M.2.2.1 ls) (hst : ∀ a ∈ st, okV a) {x : Nat} {H1 : Heap} (hP1 : va_P g.2.1 vwCl (wsH g.2.2.1 g.2.2.2 (sh, rf, v) ++ [(x, wcell g.2.2.1 g.2.2.2 kl (fun _ => none) (fun _ => 0))]) H1) (hD1 : va_D (fun q => g.2.2.2 ≤ q) (wsH g.2.2.1 g.2.2.2 (sh, rf, v) ++ [(x, wcell g.2.2.1 g.2.2.2 kl (fun _ => none) (fun _ => 0))])) (hS1 : va_S (fun q => g.2.2.2 ≤ q) s.heap H1 locs) :
    W p g.1 e M.2.2.2.2 s m args below meth c H1 locs (kc + 1) ks' (MQ below (QQ g M P) args s M.2.2.2.2.cells M.2.2.2.2.slots (fun q => g.2.2.2 ≤ q)) (F0 m q lsm (.ref x :: st.map (cv g.2.2.2))) := by
  intro T hT X
  subst hT
  have hlen : (wsH g.2.2.1 g.2.2.2 (sh, rf, v)).length = sh.length := by unfold wsH; simp
  have hat : (wsH g.2.2.1 g.2.2.2 (sh, rf, v) ++ [(x, wcell g.2.2.1 g.2.2.2 kl (fun _ => none) (fun _ => 0))])[sh.length]? = some (x, wcell g.2.2.1 g.2.2.2 kl (fun _ => none) (fun _ => 0)) := by
    rw [List.getElem?_append_right (by rw [hlen]; exact Nat.le_refl _), hlen, Nat.sub_self]; rfl
  have h1 := (hP1 _ _ hat).lt
  have h2 : g.2.2.2 ≤ x := hD1.2 _ _ hat
  have h3 := X.heapSize
  have h4 := hW.1
  dsimp only at h1 h4
  have hx : x = g.2.2.2 + sh.length := by
    rcases Nat.lt_or_ge x (g.2.2.2 + sh.length) with hlt | hge
    · have hc : sh[x - g.2.2.2]? = some sh[x - g.2.2.2] := List.getElem?_eq_getElem (by omega)
      have ha2 := wsH_at g.2.2.1 g.2.2.2 (sh, rf, v) hc
      have ha3 : (wsH g.2.2.1 g.2.2.2 (sh, rf, v) ++ [(x, wcell g.2.2.1 g.2.2.2 kl (fun _ => none) (fun _ => 0))])[x - g.2.2.2]? = some (g.2.2.2 + (x - g.2.2.2), wcell g.2.2.1 g.2.2.2 sh[x - g.2.2.2] (rf (x - g.2.2.2)) (v (x - g.2.2.2))) := by
        rw [List.getElem?_append_left (by rw [hlen]; omega)]; exact ha2
      have := hD1.1 _ _ _ _ ha3 hat (by dsimp only; omega)
      omega
    · omega
  subst hx
  have hpush := wsH_push g.2.2.1 g.2.2.2 sh rf (upRo rf sh.length (fun _ => none)) v (upR v sh.length (fun _ => 0)) kl (fun d hd => upRo_n rf _ (by omega)) (fun d hd => upR_n v _ (by omega))
  rw [upRo_c, upR_c] at hpush
  rw [hpush] at hP1
  have hw1 : World g (mkH sh rf v kl) s.heap.size (kc + 1) T.heap := ⟨by show _ = _ + (sh ++ [kl]).length; simp; omega, hP1, upR_rng hW.2.2 (fun _ => ci_0)⟩
  exact kk p e s m args below meth c T.heap locs lsm C hw1 hS1 hL (okc trivial hst) T rfl X
theorem x_new {idx ci : Nat} (hd : decode M.2.1 pc = .ok (.new idx, 3)) (hq : pc + 3 = q) (h8 : ci < 8) (hl1 : Cond.classLink M.1.cls idx (CNn ci) ∈ gw_tbl) (hl2 : Cond.instantiable (CNn ci) (NFn ci) ∈ gw_tbl) (hl3 : Cond.initialized (CNn ci) ∈ gw_tbl) (hc1 : kc + 1 ≤ M.2.2.2.2.cells) (hc2 : ks + NFn ci ≤ M.2.2.2.2.slots) (kk : Wv g M (kc + 1) (ks + NFn ci) q ls (aR sh.length :: st) (mkH sh rf v (ci + 3, NFn ci)) P) : Wv g M kc ks pc ls st (sh, rf, v) P := by
  intro p e s m args below meth c H locs lsm C hW hS hL hst
  subst hq
  refine va_new (D := g.2.1) (cl := vwCl) (A := fun q => g.2.2.2 ≤ q) (C := CNn ci) (T := FTn ci) (N := NFn ci) (fs := (List.range (NFn ci)).map (fun j => fv g.2.2.2 ci j none 0)) C.1 C.2.1 C.2.2.2.2.2.1 (in_all ci h8) (fty ci) (ty_all ci h8) C.2.2.2.2.1 (C.2.2.2.2.2.1 _ hl1) (C.2.2.2.2.2.1 _ hl2) (C.2.2.2.2.2.1 _ hl3) C.2.2.2.2.2.2.2.2.1.1 hW.2.1 (wsH_D _ _ _) hS (fun q hq => Nat.le_trans C.2.2.2.2.2.2.2.2.2 hq) (cl_at ci h8) (fun j hj => ?_) hc1 hc2 hd (fun x H1 hP1 hD1 hS1 => make_core kk C hW hL hst hP1 hD1 hS1)
  have e1 := fv_list (B := g.2.2.2) (ci := ci) (r := fun _ => none) (x := fun _ => 0) hj
  unfold vp_V
  rw [List.getD, e1]
  have : ∀ ci, ci < 8 → ∀ j, j < NFn ci → defaultValue (fty ci j) = fv 0 ci j none 0 := by
    intro ci h
    rcases (show ci = 0 ∨ ci = 1 ∨ ci = 2 ∨ ci = 3 ∨ ci = 4 ∨ ci = 5 ∨ ci = 6 ∨ ci = 7 by omega) with rfl | rfl | rfl | rfl | rfl | rfl | rfl | rfl <;> decide +kernel
  exact this ci h8 j hj
theorem cA_int {s : State} {cA : ClassId} {K : ClassId × ClassId × ClassId} {D : va_G} (h : va_K D vwCl (tysK K) s) (h2 : va_K D vwCl (tysK K ++ [(cA, .int)]) s) : cA = K.1 := by
  have a1 := (h.2 0 (K.1, .int) rfl).2
  have a2 := (h2.2 3 (cA, .int) rfl).2
  exact Option.some.inj (a2.symm.trans a1)
theorem cA_bool {s : State} {cA : ClassId} {K : ClassId × ClassId × ClassId} {D : va_G} (h : va_K D vwCl (tysK K) s) (h2 : va_K D vwCl (tysK K ++ [(cA, .boolean)]) s) : cA = K.2.1 := by
  have a1 := (h.2 1 (K.2.1, .boolean) rfl).2
  have a2 := (h2.2 3 (cA, .boolean) rfl).2
  exact Option.some.inj (a2.symm.trans a1)
theorem cA_held {s : State} {cA : ClassId} {K : ClassId × ClassId × ClassId} {D : va_G} (h : va_K D vwCl (tysK K) s) (h2 : va_K D vwCl (tysK K ++ [(cA, .object RX2)]) s) : cA = K.2.2 := by
  obtain ⟨_, _, _, _, _, a1⟩ := (h.2 2 (K.2.2, .object RX2) rfl).2
  obtain ⟨_, _, _, _, _, a2⟩ := (h2.2 3 (cA, .object RX2) rfl).2
  exact Option.some.inj (a2.symm.trans a1)
theorem x_newI {n : Nat} {z : Int} (hd : decode M.2.1 pc = .ok (.newarray .int, 2)) (hq : pc + 2 = q) (hl : Cond.arrayClass .int ∈ gw_tbl) (hz : z = n) (hn : n < 1000) (hc1 : kc + 1 ≤ M.2.2.2.2.cells) (hc2 : ks + n ≤ M.2.2.2.2.slots) (kk : Wv g M (kc + 1) (ks + n) q ls (aR sh.length :: st) (mkH sh rf v (0, n)) P) : Wv g M kc ks pc ls (aI z :: st) (sh, rf, v) P := by
  intro p e s m args below meth c H locs lsm C hW hS hL hst
  subst hq; subst hz
  have hi : inI (n : Int) := ⟨by omega, by omega⟩
  refine va_newa (atype := .int) (ty := .int) (D := g.2.1) (cl := vwCl) (A := fun q => g.2.2.2 ≤ q) (a0 := (n, .inl (fun _ => Int32.ofInt 0))) (N' := n) C.1 C.2.1 (C.2.2.2.2.2.1 _ hl) rfl C.2.2.2.2.2.2.2.2.1.1 hW.2.1 (wsH_D _ _ _) hS (fun q hq => Nat.le_trans C.2.2.2.2.2.2.2.2.2 hq) (fun cA => rfl) (by rw [ci_lt0 hi]; omega) (by rw [ci_cl hi]; simp) (by show n * 4 ≤ _; omega) hc1 hc2 hd (fun x cA H1 hK1 hP1 hD1 hS1 => ?_)
  rw [cA_int C.2.2.2.2.2.2.2.2.1.1 hK1] at hP1 hD1
  exact make_core kk C hW hL (okt hst) hP1 hD1 hS1
theorem x_newZ {n : Nat} {z : Int} (hd : decode M.2.1 pc = .ok (.newarray .boolean, 2)) (hq : pc + 2 = q) (hl : Cond.arrayClass .boolean ∈ gw_tbl) (hz : z = n) (hn : n < 1000) (hc1 : kc + 1 ≤ M.2.2.2.2.cells) (hc2 : ks + n ≤ M.2.2.2.2.slots) (kk : Wv g M (kc + 1) (ks + n) q ls (aR sh.length :: st) (mkH sh rf v (1, n)) P) : Wv g M kc ks pc ls (aI z :: st) (sh, rf, v) P := by
  intro p e s m args below meth c H locs lsm C hW hS hL hst
  subst hq; subst hz
  have hi : inI (n : Int) := ⟨by omega, by omega⟩
  refine va_newa (atype := .boolean) (ty := .boolean) (D := g.2.1) (cl := vwCl) (A := fun q => g.2.2.2 ≤ q) (a0 := (n, .inl (fun _ => Int32.ofInt 0))) (N' := n) C.1 C.2.1 (C.2.2.2.2.2.1 _ hl) rfl C.2.2.2.2.2.2.2.2.1.1 hW.2.1 (wsH_D _ _ _) hS (fun q hq => Nat.le_trans C.2.2.2.2.2.2.2.2.2 hq) (fun cA => rfl) (by rw [ci_lt0 hi]; omega) (by rw [ci_cl hi]; simp) (by show n * 1 ≤ _; omega) hc1 hc2 hd (fun x cA H1 hK1 hP1 hD1 hS1 => ?_)
  rw [cA_bool C.2.2.2.2.2.2.2.2.1.1 hK1] at hP1 hD1
  exact make_core kk C hW hL (okt hst) hP1 hD1 hS1
theorem x_newH {idx n : Nat} {z : Int} (hd : decode M.2.1 pc = .ok (.anewarray idx, 3)) (hq : pc + 3 = q) (hl : Cond.classLink M.1.cls idx RX2 ∈ gw_tbl) (hz : z = n) (hn : n < 1000) (hc1 : kc + 1 ≤ M.2.2.2.2.cells) (hc2 : ks + n ≤ M.2.2.2.2.slots) (kk : Wv g M (kc + 1) (ks + n) q ls (aR sh.length :: st) (mkH sh rf v (2, n)) P) : Wv g M kc ks pc ls (aI z :: st) (sh, rf, v) P := by
  intro p e s m args below meth c H locs lsm C hW hS hL hst
  subst hq; subst hz
  have hi : inI (n : Int) := ⟨by omega, by omega⟩
  refine va_newq (D := g.2.1) (cl := vwCl) (A := fun q => g.2.2.2 ≤ q) (N' := n) C.1 C.2.1 C.2.2.2.2.1 (C.2.2.2.2.2.1 _ hl) C.2.2.2.2.2.2.2.2.1.2 C.2.2.2.2.2.2.2.2.1.1 hW.2.1 (wsH_D _ _ _) hS (fun q hq => Nat.le_trans C.2.2.2.2.2.2.2.2.2 hq) (by rw [ci_lt0 hi]; omega) (by rw [ci_cl hi]; simp) (by omega) hc1 hc2 hd (fun x cA H1 hK1 hP1 hD1 hS1 => ?_)
  rw [cA_held C.2.2.2.2.2.2.2.2.1.1 hK1] at hP1 hD1
  exact make_core (kl := (2, n)) kk C hW hL (okt hst) hP1 hD1 hS1
theorem x_obj {idx b : Nat} {h : AH} (hd : decode M.2.1 pc = .ok (.invokespecial idx, 3)) (hq : pc + 3 = q) (hl1 : Cond.methodLink M.1.cls idx Lib.objectInit ∈ gw_tbl) (hl2 : Cond.instanceMethod Lib.objectInit ∈ gw_tbl) (hl3 : Cond.code Lib.objectInit ⟨#[0xb1]⟩ 1 none ∈ gw_tbl) (hr1 : 1 ≤ M.2.2.2.2.frames) (hr2 : 20 ≤ M.2.2.2.2.locals) (hrest : (st.map catA).sum ≤ 8) (kk : Wv g M kc ks q ls st h P) : Wv g M kc ks pc ls (aR b :: st) h P := by
  intro p e s m args below meth c H locs lsm C hW hS hL hst
  subst hq
  refine W.objInit C.1 C.2.1 C.2.2.2.2.1 (C.2.2.2.2.2.1 _ hl1) (C.2.2.2.2.2.1 _ hl2) (C.2.2.2.2.2.1 _ hl3) rfl (by rw [C.2.2.1]; exact hL.1) rfl hd hr1 (by have := lv_room (m := m) (pc := pc) (ls := lsm) (rest := (aR b :: st).map (cv g.2.2.2)) (cats_ok g.2.2.2 hrest); omega) ?_
  exact kk p e s m args below meth c H locs lsm C hW hS hL (okt hst)
theorem x_max {idx : Nat} {a b : Int} {h : AH} (hd : decode M.2.1 pc = .ok (.invokestatic idx, 3)) (hq : pc + 3 = q) (hl : Cond.methodLink M.1.cls idx Lib.Math.max.name ∈ gw_tbl) (hl2 : Cond.static Lib.Math.max.name ∈ gw_tbl) (hl3 : Cond.initialized "java/lang/Math" ∈ gw_tbl) (hl4 : Cond.code Lib.Math.max.name Lib.Math.max.code 2 (some .int) ∈ gw_tbl) (hr1 : 1 ≤ M.2.2.2.2.frames) (hr2 : 21 ≤ M.2.2.2.2.locals) (hc : kc ≤ M.2.2.2.2.cells) (hs : ks ≤ M.2.2.2.2.slots) (hrest : (st.map catA).sum ≤ 8) (kk : Wv g M kc ks q ls (aI (if a < b then b else a) :: st) h P) : Wv g M kc ks pc ls (aI b :: aI a :: st) h P := by
  intro p e s m args below meth c H locs lsm C hW hS hL hst
  subst hq
  have hb : inI b := okh hst
  have ha : inI a := okh (okt hst)
  refine va_mmax C.1 C.2.1 (by rw [C.2.2.1]; exact hL.1.symm) C.2.2.2.2.1 (C.2.2.2.2.2.1 _ hl) (C.2.2.2.2.2.1 _ hl2) (C.2.2.2.2.2.1 _ hl3) (C.2.2.2.2.2.1 _ hl4) hr1 (by have := cats_ok g.2.2.2 hrest; omega) hc hs hd ?_
  have e1 : (if Int32.ofInt a < Int32.ofInt b then Int32.ofInt b else Int32.ofInt a) = Int32.ofInt (if a < b then b else a) := by
    by_cases h1 : a < b
    · rw [if_pos h1, if_pos ((ci_lt ha hb).mpr h1)]
    · rw [if_neg h1, if_neg (fun h2 => h1 ((ci_lt ha hb).mp h2))]
  rw [e1]
  exact kk p e s m args below meth c H locs lsm C hW hS hL (okc (show inI _ by split; exact hb; exact ha) (okt (okt hst)))
theorem x_min {idx : Nat} {a b : Int} {h : AH} (hd : decode M.2.1 pc = .ok (.invokestatic idx, 3)) (hq : pc + 3 = q) (hl : Cond.methodLink M.1.cls idx Lib.Math.min.name ∈ gw_tbl) (hl2 : Cond.static Lib.Math.min.name ∈ gw_tbl) (hl3 : Cond.initialized "java/lang/Math" ∈ gw_tbl) (hl4 : Cond.code Lib.Math.min.name Lib.Math.min.code 2 (some .int) ∈ gw_tbl) (hr1 : 1 ≤ M.2.2.2.2.frames) (hr2 : 21 ≤ M.2.2.2.2.locals) (hc : kc ≤ M.2.2.2.2.cells) (hs : ks ≤ M.2.2.2.2.slots) (hrest : (st.map catA).sum ≤ 8) (kk : Wv g M kc ks q ls (aI (if b < a then b else a) :: st) h P) : Wv g M kc ks pc ls (aI b :: aI a :: st) h P := by
  intro p e s m args below meth c H locs lsm C hW hS hL hst
  subst hq
  have hb : inI b := okh hst
  have ha : inI a := okh (okt hst)
  refine va_mmin C.1 C.2.1 (by rw [C.2.2.1]; exact hL.1.symm) C.2.2.2.2.1 (C.2.2.2.2.2.1 _ hl) (C.2.2.2.2.2.1 _ hl2) (C.2.2.2.2.2.1 _ hl3) (C.2.2.2.2.2.1 _ hl4) hr1 (by have := cats_ok g.2.2.2 hrest; omega) hc hs hd ?_
  have e1 : (if Int32.ofInt b < Int32.ofInt a then Int32.ofInt b else Int32.ofInt a) = Int32.ofInt (if b < a then b else a) := by
    by_cases h1 : b < a
    · rw [if_pos h1, if_pos ((ci_lt hb ha).mpr h1)]
    · rw [if_neg h1, if_neg (fun h2 => h1 ((ci_lt hb ha).mp h2))]
  rw [e1]
  exact kk p e s m args below meth c H locs lsm C hW hS hL (okc (show inI _ by split; exact hb; exact ha) (okt (okt hst)))
/-- arraycopy of two rows of ints from 0 on -/
theorem x_copy {idx c1 c2 n1 n2 : Nat} {n : Int} (hd : decode M.2.1 pc = .ok (.invokestatic idx, 3)) (hq : pc + 3 = q) (hl : Cond.methodLink M.1.cls idx arraycopyName ∈ gw_tbl) (hl1 : Cond.native arraycopyName ∈ gw_tbl) (hl2 : Cond.static arraycopyName ∈ gw_tbl) (hl3 : Cond.initialized "java/lang/System" ∈ gw_tbl) (hs1 : sh[c1]? = some (0, n1)) (hs2 : sh[c2]? = some (0, n2)) (h0 : 0 ≤ n) (h1 : n ≤ n1) (h2 : n ≤ n2) (hr1 : 1 ≤ M.2.2.2.2.frames) (hr2 : 8 + (nativeFrameWords "java/lang/System" "arraycopy" 5 + 11) ≤ M.2.2.2.2.locals) (hrest : (st.map catA).sum ≤ 8) (kk : Wv g M kc ks q ls st (sh, rf, upR v c2 (fun j => if j < n.toNat then v c1 j else v c2 j)) P) : Wv g M kc ks pc ls (aI n :: aI 0 :: aR c2 :: aI 0 :: aR c1 :: st) (sh, rf, v) P := by
  intro p e s m args below meth c H locs lsm C hW hS hL hst
  subst hq
  have hi : inI n := okh hst
  have hat1 := wsH_at g.2.2.1 g.2.2.2 (sh, rf, v) hs1
  have hat2 := wsH_at g.2.2.1 g.2.2.2 (sh, rf, v) hs2
  have z0 : (Int32.ofInt 0).toNatClampNeg = 0 := rfl
  refine va_copyi (D := g.2.1) (cl := vwCl) (ty := .int) C.1 C.2.1 (by rw [C.2.2.1]; exact hL.1.symm) C.2.2.2.2.1 (C.2.2.2.2.2.1 _ hl) (C.2.2.2.2.2.1 _ hl1) (C.2.2.2.2.2.1 _ hl2) (C.2.2.2.2.2.1 _ hl3) C.2.2.2.2.2.2.2.2.1.1 hW.2.1 (wsH_D _ _ _) hS c1 c2 0 0 hat1 hat2 rfl rfl rfl (by decide) (by decide) (by rw [ci_lt0 hi]; omega) (by rw [z0, ci_cl hi]; omega) (by rw [z0, ci_cl hi]; omega) (fun _ _ => rfl) hr1 (by have := cats_ok g.2.2.2 hrest; omega) hd (fun H1 locs1 hP1 _ hS1 => ?_)
  have e1 : va_cpy (fun j => Int32.ofInt (v c1 j)) (fun j => Int32.ofInt (v c2 j)) (Int32.ofInt 0).toNatClampNeg (Int32.ofInt 0).toNatClampNeg (Int32.ofInt n).toNatClampNeg = fun j => Int32.ofInt (upR v c2 (fun j => if j < n.toNat then v c1 j else v c2 j) c2 j) := by
    funext j
    rw [z0, ci_cl hi, upR_c]
    unfold va_cpy
    by_cases hj : j < n.toNat
    · rw [if_pos ⟨Nat.zero_le _, by omega⟩, if_pos hj]; simp
    · rw [if_neg (by omega), if_neg hj]
  rw [e1] at hP1
  have hw1 := World_set (g := g) (kc := kc) (n0 := s.heap.size) (rf := rf) (r' := rf) (v := v) (v' := upR v c2 (fun j => if j < n.toNat then v c1 j else v c2 j)) hs2 (fun _ _ => rfl) (fun d hd => upR_n v _ hd) hW.1 (upR_rng hW.2.2 (fun k => by split <;> exact hW.2.2 _ _)) hP1
  exact kk p e s m args below meth c H1 locs1 lsm C hw1 hS1 hL (okt (okt (okt (okt (okt hst)))))
end MK
end
section
theorem q0 : Cond.selects RX0 yX0_setEnds yX0_setEnds ∈ gw_tbl := List.mem_filter.mpr ⟨List.mem_of_getElem? (i := 0) (by decide +kernel), rfl⟩
theorem q1 : Cond.selects RX1 yX1_leadOfRuns yX1_leadOfRuns ∈ gw_tbl := List.mem_filter.mpr ⟨List.mem_of_getElem? (i := 1) (by decide +kernel), rfl⟩
theorem q2 : Cond.selects RX1 yX1_leadOfCharge yX1_leadOfCharge ∈ gw_tbl := List.mem_filter.mpr ⟨List.mem_of_getElem? (i := 2) (by decide +kernel), rfl⟩
theorem q3 : Cond.selects RX1 yX1_leadOfWord yX1_leadOfWord ∈ gw_tbl := List.mem_filter.mpr ⟨List.mem_of_getElem? (i := 3) (by decide +kernel), rfl⟩
theorem q4 : Cond.selects RX1 yX1_firstBits yX1_firstBits ∈ gw_tbl := List.mem_filter.mpr ⟨List.mem_of_getElem? (i := 4) (by decide +kernel), rfl⟩
theorem q5 : Cond.selects RX0 yX0_setGood yX0_setGood ∈ gw_tbl := List.mem_filter.mpr ⟨List.mem_of_getElem? (i := 5) (by decide +kernel), rfl⟩
theorem q6 : Cond.selects RX0 yX0_arcsToGood yX0_arcsToGood ∈ gw_tbl := List.mem_filter.mpr ⟨List.mem_of_getElem? (i := 6) (by decide +kernel), rfl⟩
theorem q7 : Cond.selects RX0 yX0_setTags yX0_setTags ∈ gw_tbl := List.mem_filter.mpr ⟨List.mem_of_getElem? (i := 7) (by decide +kernel), rfl⟩
theorem q8 : Cond.selects RX0 yX0_lowestGood yX0_lowestGood ∈ gw_tbl := List.mem_filter.mpr ⟨List.mem_of_getElem? (i := 8) (by decide +kernel), rfl⟩
theorem q9 : Cond.selects RX0 yX0_narrowestWindow yX0_narrowestWindow ∈ gw_tbl := List.mem_filter.mpr ⟨List.mem_of_getElem? (i := 9) (by decide +kernel), rfl⟩
theorem q10 : Cond.selects RX0 yX0_isDoubtful yX0_isDoubtful ∈ gw_tbl := List.mem_filter.mpr ⟨List.mem_of_getElem? (i := 10) (by decide +kernel), rfl⟩
theorem q11 : Cond.selects RX0 yX0_goOnAlike yX0_goOnAlike ∈ gw_tbl := List.mem_filter.mpr ⟨List.mem_of_getElem? (i := 11) (by decide +kernel), rfl⟩
theorem q12 : Cond.selects RX0 yX0_lengthenMates yX0_lengthenMates ∈ gw_tbl := List.mem_filter.mpr ⟨List.mem_of_getElem? (i := 12) (by decide +kernel), rfl⟩
theorem q13 : Cond.selects RX5 yX5_isTokenStart yX5_isTokenStart ∈ gw_tbl := List.mem_filter.mpr ⟨List.mem_of_getElem? (i := 13) (by decide +kernel), rfl⟩
theorem q14 : Cond.selects RX5 yX5_letterAt yX5_letterAt ∈ gw_tbl := List.mem_filter.mpr ⟨List.mem_of_getElem? (i := 14) (by decide +kernel), rfl⟩
theorem q15 : Cond.selects RX5 yX5_isFigure yX5_isFigure ∈ gw_tbl := List.mem_filter.mpr ⟨List.mem_of_getElem? (i := 15) (by decide +kernel), rfl⟩
theorem q16 : Cond.selects RX5 yX5_takes yX5_takes ∈ gw_tbl := List.mem_filter.mpr ⟨List.mem_of_getElem? (i := 16) (by decide +kernel), rfl⟩
theorem q17 : Cond.selects RX5 yX5_takesSort yX5_takesSort ∈ gw_tbl := List.mem_filter.mpr ⟨List.mem_of_getElem? (i := 17) (by decide +kernel), rfl⟩
theorem q18 : Cond.selects RX5 yX5_figureAt yX5_figureAt ∈ gw_tbl := List.mem_filter.mpr ⟨List.mem_of_getElem? (i := 18) (by decide +kernel), rfl⟩
theorem q19 : Cond.selects RX5 yX5_tokenLength yX5_tokenLength ∈ gw_tbl := List.mem_filter.mpr ⟨List.mem_of_getElem? (i := 19) (by decide +kernel), rfl⟩
theorem q20 : Cond.selects RX5 yX5_bitsAt yX5_bitsAt ∈ gw_tbl := List.mem_filter.mpr ⟨List.mem_of_getElem? (i := 20) (by decide +kernel), rfl⟩
theorem q21 : Cond.selects RX5 yX5_takesRate yX5_takesRate ∈ gw_tbl := List.mem_filter.mpr ⟨List.mem_of_getElem? (i := 21) (by decide +kernel), rfl⟩
theorem q22 : Cond.selects RX6 yX6_remember yX6_remember ∈ gw_tbl := List.mem_filter.mpr ⟨List.mem_of_getElem? (i := 22) (by decide +kernel), rfl⟩
theorem q23 : Cond.selects RX6 yX6_become yX6_become ∈ gw_tbl := List.mem_filter.mpr ⟨List.mem_of_getElem? (i := 23) (by decide +kernel), rfl⟩
theorem q24 : Cond.selects RX6 yX6_isNoState yX6_isNoState ∈ gw_tbl := List.mem_filter.mpr ⟨List.mem_of_getElem? (i := 24) (by decide +kernel), rfl⟩
theorem q25 : Cond.selects RX6 yX6_isNoWord yX6_isNoWord ∈ gw_tbl := List.mem_filter.mpr ⟨List.mem_of_getElem? (i := 25) (by decide +kernel), rfl⟩
theorem q26 : Cond.selects RX4 yX4_setAll yX4_setAll ∈ gw_tbl := List.mem_filter.mpr ⟨List.mem_of_getElem? (i := 26) (by decide +kernel), rfl⟩
theorem q27 : Cond.selects RX4 yX4_lessen yX4_lessen ∈ gw_tbl := List.mem_filter.mpr ⟨List.mem_of_getElem? (i := 27) (by decide +kernel), rfl⟩
theorem q28 : Cond.selects RX4 yX4_sumOver yX4_sumOver ∈ gw_tbl := List.mem_filter.mpr ⟨List.mem_of_getElem? (i := 28) (by decide +kernel), rfl⟩
theorem q29 : Cond.selects RX4 yX4_total yX4_total ∈ gw_tbl := List.mem_filter.mpr ⟨List.mem_of_getElem? (i := 29) (by decide +kernel), rfl⟩
theorem q30 : Cond.selects RX4 yX4_lengthenRows yX4_lengthenRows ∈ gw_tbl := List.mem_filter.mpr ⟨List.mem_of_getElem? (i := 30) (by decide +kernel), rfl⟩
theorem q31 : Cond.selects RX6 yX6_readByStates yX6_readByStates ∈ gw_tbl := List.mem_filter.mpr ⟨List.mem_of_getElem? (i := 31) (by decide +kernel), rfl⟩
theorem q32 : Cond.selects RX6 yX6_readByWindow yX6_readByWindow ∈ gw_tbl := List.mem_filter.mpr ⟨List.mem_of_getElem? (i := 32) (by decide +kernel), rfl⟩
theorem q33 : Cond.selects RX6 yX6_origins yX6_origins ∈ gw_tbl := List.mem_filter.mpr ⟨List.mem_of_getElem? (i := 33) (by decide +kernel), rfl⟩
theorem q34 : Cond.selects RX6 yX6_endOfSeen yX6_endOfSeen ∈ gw_tbl := List.mem_filter.mpr ⟨List.mem_of_getElem? (i := 34) (by decide +kernel), rfl⟩
theorem q35 : Cond.selects RX6 yX6_presentStates yX6_presentStates ∈ gw_tbl := List.mem_filter.mpr ⟨List.mem_of_getElem? (i := 35) (by decide +kernel), rfl⟩
theorem q36 : Cond.selects RX0 yX0_withWord yX0_withWord ∈ gw_tbl := List.mem_filter.mpr ⟨List.mem_of_getElem? (i := 36) (by decide +kernel), rfl⟩
theorem q37 : Cond.selects RX7 yX7_begins yX7_begins ∈ gw_tbl := List.mem_filter.mpr ⟨List.mem_of_getElem? (i := 37) (by decide +kernel), rfl⟩
theorem q38 : Cond.selects RX7 yX7_finds yX7_finds ∈ gw_tbl := List.mem_filter.mpr ⟨List.mem_of_getElem? (i := 38) (by decide +kernel), rfl⟩
theorem q39 : Cond.selects RX7 yX7_layArcs yX7_layArcs ∈ gw_tbl := List.mem_filter.mpr ⟨List.mem_of_getElem? (i := 39) (by decide +kernel), rfl⟩
theorem q40 : Cond.selects RX7 yX7_states yX7_states ∈ gw_tbl := List.mem_filter.mpr ⟨List.mem_of_getElem? (i := 40) (by decide +kernel), rfl⟩
theorem q41 : Cond.selects RX7 yX7_words yX7_words ∈ gw_tbl := List.mem_filter.mpr ⟨List.mem_of_getElem? (i := 41) (by decide +kernel), rfl⟩
theorem q42 : Cond.selects RX7 yX7_stepOf yX7_stepOf ∈ gw_tbl := List.mem_filter.mpr ⟨List.mem_of_getElem? (i := 42) (by decide +kernel), rfl⟩
theorem q43 : Cond.selects RX7 yX7_border yX7_border ∈ gw_tbl := List.mem_filter.mpr ⟨List.mem_of_getElem? (i := 43) (by decide +kernel), rfl⟩
theorem q44 : Cond.selects RX7 yX7_banned yX7_banned ∈ gw_tbl := List.mem_filter.mpr ⟨List.mem_of_getElem? (i := 44) (by decide +kernel), rfl⟩
theorem q45 : Cond.selects RX7 yX7_goodArcs yX7_goodArcs ∈ gw_tbl := List.mem_filter.mpr ⟨List.mem_of_getElem? (i := 45) (by decide +kernel), rfl⟩
theorem q46 : Cond.selects RX7 yX7_lead yX7_lead ∈ gw_tbl := List.mem_filter.mpr ⟨List.mem_of_getElem? (i := 46) (by decide +kernel), rfl⟩
theorem q47 : Cond.selects RX7 yX7_takesAll yX7_takesAll ∈ gw_tbl := List.mem_filter.mpr ⟨List.mem_of_getElem? (i := 47) (by decide +kernel), rfl⟩
theorem q48 : Cond.selects RX7 yX7_takesBan yX7_takesBan ∈ gw_tbl := List.mem_filter.mpr ⟨List.mem_of_getElem? (i := 48) (by decide +kernel), rfl⟩
theorem q49 : Cond.selects RX7 yX7_takes yX7_takes ∈ gw_tbl := List.mem_filter.mpr ⟨List.mem_of_getElem? (i := 49) (by decide +kernel), rfl⟩
theorem q50 : Cond.selects RX7 yX7_here yX7_here ∈ gw_tbl := List.mem_filter.mpr ⟨List.mem_of_getElem? (i := 50) (by decide +kernel), rfl⟩
theorem q51 : Cond.selects RX7 yX7_takesNumber yX7_takesNumber ∈ gw_tbl := List.mem_filter.mpr ⟨List.mem_of_getElem? (i := 51) (by decide +kernel), rfl⟩
theorem q52 : Cond.selects RX7 yX7_isFigure yX7_isFigure ∈ gw_tbl := List.mem_filter.mpr ⟨List.mem_of_getElem? (i := 52) (by decide +kernel), rfl⟩
theorem q53 : Cond.selects RX7 yX7_takesBits yX7_takesBits ∈ gw_tbl := List.mem_filter.mpr ⟨List.mem_of_getElem? (i := 53) (by decide +kernel), rfl⟩
theorem q54 : Cond.selects RX7 yX7_keepPast yX7_keepPast ∈ gw_tbl := List.mem_filter.mpr ⟨List.mem_of_getElem? (i := 54) (by decide +kernel), rfl⟩
theorem q55 : Cond.selects RX7 yX7_wordFor yX7_wordFor ∈ gw_tbl := List.mem_filter.mpr ⟨List.mem_of_getElem? (i := 55) (by decide +kernel), rfl⟩
theorem q56 : Cond.selects RX7 yX7_tag yX7_tag ∈ gw_tbl := List.mem_filter.mpr ⟨List.mem_of_getElem? (i := 56) (by decide +kernel), rfl⟩
theorem q57 : Cond.selects RX7 yX7_isState yX7_isState ∈ gw_tbl := List.mem_filter.mpr ⟨List.mem_of_getElem? (i := 57) (by decide +kernel), rfl⟩
theorem q58 : Cond.selects RX7 yX7_weighs yX7_weighs ∈ gw_tbl := List.mem_filter.mpr ⟨List.mem_of_getElem? (i := 58) (by decide +kernel), rfl⟩
theorem q59 : Cond.selects RX7 yX7_start yX7_start ∈ gw_tbl := List.mem_filter.mpr ⟨List.mem_of_getElem? (i := 59) (by decide +kernel), rfl⟩
theorem q60 : Cond.selects RX7 yX7_byStates yX7_byStates ∈ gw_tbl := List.mem_filter.mpr ⟨List.mem_of_getElem? (i := 60) (by decide +kernel), rfl⟩
theorem q61 : Cond.selects RX7 yX7_byWindow yX7_byWindow ∈ gw_tbl := List.mem_filter.mpr ⟨List.mem_of_getElem? (i := 61) (by decide +kernel), rfl⟩
theorem q62 : Cond.selects RX7 yX7_window yX7_window ∈ gw_tbl := List.mem_filter.mpr ⟨List.mem_of_getElem? (i := 62) (by decide +kernel), rfl⟩
theorem q63 : Cond.selects RX7 yX7_layAlike yX7_layAlike ∈ gw_tbl := List.mem_filter.mpr ⟨List.mem_of_getElem? (i := 63) (by decide +kernel), rfl⟩
theorem q64 : Cond.selects RX7 yX7_goOn yX7_goOn ∈ gw_tbl := List.mem_filter.mpr ⟨List.mem_of_getElem? (i := 64) (by decide +kernel), rfl⟩
theorem q65 : Cond.selects RX7 yX7_isWide yX7_isWide ∈ gw_tbl := List.mem_filter.mpr ⟨List.mem_of_getElem? (i := 65) (by decide +kernel), rfl⟩
theorem q66 : Cond.selects RX7 yX7_statesBySeen yX7_statesBySeen ∈ gw_tbl := List.mem_filter.mpr ⟨List.mem_of_getElem? (i := 66) (by decide +kernel), rfl⟩
theorem q67 : Cond.selects RX7 yX7_otherBits yX7_otherBits ∈ gw_tbl := List.mem_filter.mpr ⟨List.mem_of_getElem? (i := 67) (by decide +kernel), rfl⟩
theorem q69 : Cond.initialized RX6 ∈ gw_tbl := List.mem_filter.mpr ⟨List.mem_of_getElem? (i := 69) (by decide +kernel), rfl⟩
theorem q70 : Cond.initialized RX5 ∈ gw_tbl := List.mem_filter.mpr ⟨List.mem_of_getElem? (i := 70) (by decide +kernel), rfl⟩
theorem q71 : Cond.initialized RX1 ∈ gw_tbl := List.mem_filter.mpr ⟨List.mem_of_getElem? (i := 71) (by decide +kernel), rfl⟩
theorem q72 : Cond.initialized RX2 ∈ gw_tbl := List.mem_filter.mpr ⟨List.mem_of_getElem? (i := 72) (by decide +kernel), rfl⟩
theorem q73 : Cond.initialized RX3 ∈ gw_tbl := List.mem_filter.mpr ⟨List.mem_of_getElem? (i := 73) (by decide +kernel), rfl⟩
theorem q74 : Cond.initialized RX0 ∈ gw_tbl := List.mem_filter.mpr ⟨List.mem_of_getElem? (i := 74) (by decide +kernel), rfl⟩
theorem q75 : Cond.initialized RX4 ∈ gw_tbl := List.mem_filter.mpr ⟨List.mem_of_getElem? (i := 75) (by decide +kernel), rfl⟩
theorem q76 : Cond.initialized "java/lang/Math" ∈ gw_tbl := List.mem_filter.mpr ⟨List.mem_of_getElem? (i := 76) (by decide +kernel), rfl⟩
theorem q77 : Cond.initialized "java/lang/System" ∈ gw_tbl := List.mem_filter.mpr ⟨List.mem_of_getElem? (i := 77) (by decide +kernel), rfl⟩
theorem q78 : Cond.initialized RX7 ∈ gw_tbl := List.mem_filter.mpr ⟨List.mem_of_getElem? (i := 78) (by decide +kernel), rfl⟩
theorem q79 : Cond.initialized RJ6 ∈ gw_tbl := List.mem_filter.mpr ⟨List.mem_of_getElem? (i := 79) (by decide +kernel), rfl⟩
theorem q80 : Cond.classLink RL 7 RX6 ∈ gw_tbl := List.mem_filter.mpr ⟨List.mem_of_getElem? (i := 80) (by decide +kernel), rfl⟩
theorem q81 : Cond.instantiable RX6 11 ∈ gw_tbl := List.mem_filter.mpr ⟨List.mem_of_getElem? (i := 81) (by decide +kernel), rfl⟩
theorem q82 : Cond.methodLink RL 9 yX6_init ∈ gw_tbl := List.mem_filter.mpr ⟨List.mem_of_getElem? (i := 82) (by decide +kernel), rfl⟩
theorem q83 : Cond.instanceMethod yX6_init ∈ gw_tbl := List.mem_filter.mpr ⟨List.mem_of_getElem? (i := 83) (by decide +kernel), rfl⟩
theorem q84 : Cond.code yX6_init cX6_init 2 none ∈ gw_tbl := List.mem_filter.mpr ⟨List.mem_of_getElem? (i := 84) (by decide +kernel), rfl⟩
theorem q85 : Cond.methodLink RX6 1 Lib.objectInit ∈ gw_tbl := List.mem_filter.mpr ⟨List.mem_of_getElem? (i := 85) (by decide +kernel), rfl⟩
theorem q86 : Cond.instanceMethod Lib.objectInit ∈ gw_tbl := List.mem_filter.mpr ⟨List.mem_of_getElem? (i := 86) (by decide +kernel), rfl⟩
theorem q87 : Cond.code Lib.objectInit ⟨#[0xb1]⟩ 1 none ∈ gw_tbl := List.mem_filter.mpr ⟨List.mem_of_getElem? (i := 87) (by decide +kernel), rfl⟩
theorem q88 : Cond.classLink RX6 7 RX5 ∈ gw_tbl := List.mem_filter.mpr ⟨List.mem_of_getElem? (i := 88) (by decide +kernel), rfl⟩
theorem q89 : Cond.instantiable RX5 5 ∈ gw_tbl := List.mem_filter.mpr ⟨List.mem_of_getElem? (i := 89) (by decide +kernel), rfl⟩
theorem q90 : Cond.methodLink RX6 9 yX5_init ∈ gw_tbl := List.mem_filter.mpr ⟨List.mem_of_getElem? (i := 90) (by decide +kernel), rfl⟩
theorem q91 : Cond.instanceMethod yX5_init ∈ gw_tbl := List.mem_filter.mpr ⟨List.mem_of_getElem? (i := 91) (by decide +kernel), rfl⟩
theorem q92 : Cond.code yX5_init cX5_init 1 none ∈ gw_tbl := List.mem_filter.mpr ⟨List.mem_of_getElem? (i := 92) (by decide +kernel), rfl⟩
theorem q93 : Cond.methodLink RX5 3 Lib.objectInit ∈ gw_tbl := List.mem_filter.mpr ⟨List.mem_of_getElem? (i := 93) (by decide +kernel), rfl⟩
theorem q94 : Cond.fieldLink RX5 9 "BannedRows$Text" "letters" "[I" ∈ gw_tbl := List.mem_filter.mpr ⟨List.mem_of_getElem? (i := 94) (by decide +kernel), rfl⟩
theorem q95 : Cond.fieldLink RX5 15 "BannedRows$Text" "size" "I" ∈ gw_tbl := List.mem_filter.mpr ⟨List.mem_of_getElem? (i := 95) (by decide +kernel), rfl⟩
theorem q96 : Cond.fieldLink RX6 80 "BannedRows$Text" "size" "I" ∈ gw_tbl := List.mem_filter.mpr ⟨List.mem_of_getElem? (i := 96) (by decide +kernel), rfl⟩
theorem q97 : Cond.fieldLink RX5 24 "BannedRows$Text" "awaited" "I" ∈ gw_tbl := List.mem_filter.mpr ⟨List.mem_of_getElem? (i := 97) (by decide +kernel), rfl⟩
theorem q98 : Cond.fieldLink RX5 27 "BannedRows$Text" "isPTold" "Z" ∈ gw_tbl := List.mem_filter.mpr ⟨List.mem_of_getElem? (i := 98) (by decide +kernel), rfl⟩
theorem q99 : Cond.fieldLink RX5 31 "BannedRows$Text" "isQTold" "Z" ∈ gw_tbl := List.mem_filter.mpr ⟨List.mem_of_getElem? (i := 99) (by decide +kernel), rfl⟩
theorem q111 : Cond.arrayClass .int ∈ gw_tbl := List.mem_filter.mpr ⟨List.mem_of_getElem? (i := 111) (by decide +kernel), rfl⟩
theorem q112 : Cond.classLink RX6 16 RX1 ∈ gw_tbl := List.mem_filter.mpr ⟨List.mem_of_getElem? (i := 112) (by decide +kernel), rfl⟩
theorem q113 : Cond.instantiable RX1 5 ∈ gw_tbl := List.mem_filter.mpr ⟨List.mem_of_getElem? (i := 113) (by decide +kernel), rfl⟩
theorem q114 : Cond.methodLink RX6 18 yX1_init ∈ gw_tbl := List.mem_filter.mpr ⟨List.mem_of_getElem? (i := 114) (by decide +kernel), rfl⟩
theorem q115 : Cond.instanceMethod yX1_init ∈ gw_tbl := List.mem_filter.mpr ⟨List.mem_of_getElem? (i := 115) (by decide +kernel), rfl⟩
theorem q116 : Cond.code yX1_init cX1_init 1 none ∈ gw_tbl := List.mem_filter.mpr ⟨List.mem_of_getElem? (i := 116) (by decide +kernel), rfl⟩
theorem q117 : Cond.methodLink RX1 3 Lib.objectInit ∈ gw_tbl := List.mem_filter.mpr ⟨List.mem_of_getElem? (i := 117) (by decide +kernel), rfl⟩
theorem q118 : Cond.methodLink RX1 9 yX1_setFirst ∈ gw_tbl := List.mem_filter.mpr ⟨List.mem_of_getElem? (i := 118) (by decide +kernel), rfl⟩
theorem q119 : Cond.instanceMethod yX1_setFirst ∈ gw_tbl := List.mem_filter.mpr ⟨List.mem_of_getElem? (i := 119) (by decide +kernel), rfl⟩
theorem q120 : Cond.selects RX1 yX1_setFirst yX1_setFirst ∈ gw_tbl := List.mem_filter.mpr ⟨List.mem_of_getElem? (i := 120) (by decide +kernel), rfl⟩
theorem q121 : Cond.code yX1_setFirst cX1_setFirst 1 none ∈ gw_tbl := List.mem_filter.mpr ⟨List.mem_of_getElem? (i := 121) (by decide +kernel), rfl⟩
theorem q122 : Cond.fieldLink RX1 14 "BannedRows$Ban" "sort" "I" ∈ gw_tbl := List.mem_filter.mpr ⟨List.mem_of_getElem? (i := 122) (by decide +kernel), rfl⟩
theorem q123 : Cond.fieldLink RX5 83 "BannedRows$Ban" "sort" "I" ∈ gw_tbl := List.mem_filter.mpr ⟨List.mem_of_getElem? (i := 123) (by decide +kernel), rfl⟩
theorem q124 : Cond.fieldLink RX1 18 "BannedRows$Ban" "low" "I" ∈ gw_tbl := List.mem_filter.mpr ⟨List.mem_of_getElem? (i := 124) (by decide +kernel), rfl⟩
theorem q125 : Cond.fieldLink RX5 56 "BannedRows$Ban" "low" "I" ∈ gw_tbl := List.mem_filter.mpr ⟨List.mem_of_getElem? (i := 125) (by decide +kernel), rfl⟩
theorem q126 : Cond.fieldLink RX1 21 "BannedRows$Ban" "high" "I" ∈ gw_tbl := List.mem_filter.mpr ⟨List.mem_of_getElem? (i := 126) (by decide +kernel), rfl⟩
theorem q127 : Cond.fieldLink RX5 65 "BannedRows$Ban" "high" "I" ∈ gw_tbl := List.mem_filter.mpr ⟨List.mem_of_getElem? (i := 127) (by decide +kernel), rfl⟩
theorem q128 : Cond.fieldLink RX1 24 "BannedRows$Ban" "p" "I" ∈ gw_tbl := List.mem_filter.mpr ⟨List.mem_of_getElem? (i := 128) (by decide +kernel), rfl⟩
theorem q129 : Cond.fieldLink RX5 74 "BannedRows$Ban" "p" "I" ∈ gw_tbl := List.mem_filter.mpr ⟨List.mem_of_getElem? (i := 129) (by decide +kernel), rfl⟩
theorem q130 : Cond.fieldLink RX6 156 "BannedRows$Ban" "p" "I" ∈ gw_tbl := List.mem_filter.mpr ⟨List.mem_of_getElem? (i := 130) (by decide +kernel), rfl⟩
theorem q131 : Cond.fieldLink RX1 27 "BannedRows$Ban" "q" "I" ∈ gw_tbl := List.mem_filter.mpr ⟨List.mem_of_getElem? (i := 131) (by decide +kernel), rfl⟩
theorem q132 : Cond.fieldLink RX6 123 "BannedRows$Ban" "q" "I" ∈ gw_tbl := List.mem_filter.mpr ⟨List.mem_of_getElem? (i := 132) (by decide +kernel), rfl⟩
theorem q133 : Cond.fieldLink RX5 77 "BannedRows$Ban" "q" "I" ∈ gw_tbl := List.mem_filter.mpr ⟨List.mem_of_getElem? (i := 133) (by decide +kernel), rfl⟩
theorem q134 : Cond.fieldLink RX0 96 "BannedRows$Ban" "q" "I" ∈ gw_tbl := List.mem_filter.mpr ⟨List.mem_of_getElem? (i := 134) (by decide +kernel), rfl⟩
theorem q146 : Cond.classLink RX6 23 RX2 ∈ gw_tbl := List.mem_filter.mpr ⟨List.mem_of_getElem? (i := 146) (by decide +kernel), rfl⟩
theorem q147 : Cond.instantiable RX2 2 ∈ gw_tbl := List.mem_filter.mpr ⟨List.mem_of_getElem? (i := 147) (by decide +kernel), rfl⟩
theorem q148 : Cond.methodLink RX6 25 yX2_init ∈ gw_tbl := List.mem_filter.mpr ⟨List.mem_of_getElem? (i := 148) (by decide +kernel), rfl⟩
theorem q149 : Cond.instanceMethod yX2_init ∈ gw_tbl := List.mem_filter.mpr ⟨List.mem_of_getElem? (i := 149) (by decide +kernel), rfl⟩
theorem q150 : Cond.code yX2_init cX2_init 1 none ∈ gw_tbl := List.mem_filter.mpr ⟨List.mem_of_getElem? (i := 150) (by decide +kernel), rfl⟩
theorem q151 : Cond.methodLink RX2 1 Lib.objectInit ∈ gw_tbl := List.mem_filter.mpr ⟨List.mem_of_getElem? (i := 151) (by decide +kernel), rfl⟩
theorem q152 : Cond.classLink RX2 7 RX1 ∈ gw_tbl := List.mem_filter.mpr ⟨List.mem_of_getElem? (i := 152) (by decide +kernel), rfl⟩
theorem q153 : Cond.methodLink RX2 9 yX1_init ∈ gw_tbl := List.mem_filter.mpr ⟨List.mem_of_getElem? (i := 153) (by decide +kernel), rfl⟩
theorem q154 : Cond.classLink RX2 16 RX3 ∈ gw_tbl := List.mem_filter.mpr ⟨List.mem_of_getElem? (i := 154) (by decide +kernel), rfl⟩
theorem q155 : Cond.instantiable RX3 5 ∈ gw_tbl := List.mem_filter.mpr ⟨List.mem_of_getElem? (i := 155) (by decide +kernel), rfl⟩
theorem q156 : Cond.methodLink RX2 18 yX3_init ∈ gw_tbl := List.mem_filter.mpr ⟨List.mem_of_getElem? (i := 156) (by decide +kernel), rfl⟩
theorem q157 : Cond.instanceMethod yX3_init ∈ gw_tbl := List.mem_filter.mpr ⟨List.mem_of_getElem? (i := 157) (by decide +kernel), rfl⟩
theorem q158 : Cond.code yX3_init cX3_init 1 none ∈ gw_tbl := List.mem_filter.mpr ⟨List.mem_of_getElem? (i := 158) (by decide +kernel), rfl⟩
theorem q159 : Cond.methodLink RX3 3 Lib.objectInit ∈ gw_tbl := List.mem_filter.mpr ⟨List.mem_of_getElem? (i := 159) (by decide +kernel), rfl⟩
theorem q160 : Cond.fieldLink RX3 9 "BannedRows$Line" "words" "[I" ∈ gw_tbl := List.mem_filter.mpr ⟨List.mem_of_getElem? (i := 160) (by decide +kernel), rfl⟩
theorem q161 : Cond.fieldLink RX6 216 "BannedRows$Line" "words" "[I" ∈ gw_tbl := List.mem_filter.mpr ⟨List.mem_of_getElem? (i := 161) (by decide +kernel), rfl⟩
theorem q162 : Cond.fieldLink RX3 15 "BannedRows$Line" "sentWords" "[I" ∈ gw_tbl := List.mem_filter.mpr ⟨List.mem_of_getElem? (i := 162) (by decide +kernel), rfl⟩
theorem q163 : Cond.fieldLink RX3 18 "BannedRows$Line" "sentTags" "[I" ∈ gw_tbl := List.mem_filter.mpr ⟨List.mem_of_getElem? (i := 163) (by decide +kernel), rfl⟩
theorem q164 : Cond.fieldLink RX3 21 "BannedRows$Line" "size" "I" ∈ gw_tbl := List.mem_filter.mpr ⟨List.mem_of_getElem? (i := 164) (by decide +kernel), rfl⟩
theorem q165 : Cond.fieldLink RX6 109 "BannedRows$Line" "size" "I" ∈ gw_tbl := List.mem_filter.mpr ⟨List.mem_of_getElem? (i := 165) (by decide +kernel), rfl⟩
theorem q166 : Cond.fieldLink RX3 25 "BannedRows$Line" "send" "I" ∈ gw_tbl := List.mem_filter.mpr ⟨List.mem_of_getElem? (i := 166) (by decide +kernel), rfl⟩
theorem q167 : Cond.fieldLink RX6 110 "BannedRows$Line" "send" "I" ∈ gw_tbl := List.mem_filter.mpr ⟨List.mem_of_getElem? (i := 167) (by decide +kernel), rfl⟩
theorem q179 : Cond.fieldLink RX2 10 "BannedRows$Held" "ban" "LBannedRows$Ban;" ∈ gw_tbl := List.mem_filter.mpr ⟨List.mem_of_getElem? (i := 179) (by decide +kernel), rfl⟩
theorem q180 : Cond.fieldLink RX6 59 "BannedRows$Held" "ban" "LBannedRows$Ban;" ∈ gw_tbl := List.mem_filter.mpr ⟨List.mem_of_getElem? (i := 180) (by decide +kernel), rfl⟩
theorem q181 : Cond.fieldLink RX2 19 "BannedRows$Held" "line" "LBannedRows$Line;" ∈ gw_tbl := List.mem_filter.mpr ⟨List.mem_of_getElem? (i := 181) (by decide +kernel), rfl⟩
theorem q182 : Cond.fieldLink RX6 66 "BannedRows$Held" "line" "LBannedRows$Line;" ∈ gw_tbl := List.mem_filter.mpr ⟨List.mem_of_getElem? (i := 182) (by decide +kernel), rfl⟩
theorem q188 : Cond.classLink RX6 30 RX0 ∈ gw_tbl := List.mem_filter.mpr ⟨List.mem_of_getElem? (i := 188) (by decide +kernel), rfl⟩
theorem q189 : Cond.instantiable RX0 8 ∈ gw_tbl := List.mem_filter.mpr ⟨List.mem_of_getElem? (i := 189) (by decide +kernel), rfl⟩
theorem q190 : Cond.methodLink RX6 32 yX0_init ∈ gw_tbl := List.mem_filter.mpr ⟨List.mem_of_getElem? (i := 190) (by decide +kernel), rfl⟩
theorem q191 : Cond.instanceMethod yX0_init ∈ gw_tbl := List.mem_filter.mpr ⟨List.mem_of_getElem? (i := 191) (by decide +kernel), rfl⟩
theorem q192 : Cond.code yX0_init cX0_init 1 none ∈ gw_tbl := List.mem_filter.mpr ⟨List.mem_of_getElem? (i := 192) (by decide +kernel), rfl⟩
theorem q193 : Cond.methodLink RX0 3 Lib.objectInit ∈ gw_tbl := List.mem_filter.mpr ⟨List.mem_of_getElem? (i := 193) (by decide +kernel), rfl⟩
theorem q194 : Cond.fieldLink RX0 36 "BannedRows$Arcs" "states" "I" ∈ gw_tbl := List.mem_filter.mpr ⟨List.mem_of_getElem? (i := 194) (by decide +kernel), rfl⟩
theorem q195 : Cond.fieldLink RX4 35 "BannedRows$Arcs" "states" "I" ∈ gw_tbl := List.mem_filter.mpr ⟨List.mem_of_getElem? (i := 195) (by decide +kernel), rfl⟩
theorem q196 : Cond.fieldLink RX6 99 "BannedRows$Arcs" "states" "I" ∈ gw_tbl := List.mem_filter.mpr ⟨List.mem_of_getElem? (i := 196) (by decide +kernel), rfl⟩
theorem q197 : Cond.fieldLink RX0 66 "BannedRows$Arcs" "good" "I" ∈ gw_tbl := List.mem_filter.mpr ⟨List.mem_of_getElem? (i := 197) (by decide +kernel), rfl⟩
theorem q198 : Cond.fieldLink RX6 106 "BannedRows$Arcs" "good" "I" ∈ gw_tbl := List.mem_filter.mpr ⟨List.mem_of_getElem? (i := 198) (by decide +kernel), rfl⟩
theorem q199 : Cond.fieldLink RX6 70 "BannedRows$Arcs" "begin" "I" ∈ gw_tbl := List.mem_filter.mpr ⟨List.mem_of_getElem? (i := 199) (by decide +kernel), rfl⟩
theorem q200 : Cond.fieldLink RX0 57 "BannedRows$Arcs" "begin" "I" ∈ gw_tbl := List.mem_filter.mpr ⟨List.mem_of_getElem? (i := 200) (by decide +kernel), rfl⟩
theorem q201 : Cond.fieldLink RX0 63 "BannedRows$Arcs" "window" "I" ∈ gw_tbl := List.mem_filter.mpr ⟨List.mem_of_getElem? (i := 201) (by decide +kernel), rfl⟩
theorem q202 : Cond.fieldLink RX6 207 "BannedRows$Arcs" "window" "I" ∈ gw_tbl := List.mem_filter.mpr ⟨List.mem_of_getElem? (i := 202) (by decide +kernel), rfl⟩
theorem q203 : Cond.fieldLink RX0 9 "BannedRows$Arcs" "ends" "[I" ∈ gw_tbl := List.mem_filter.mpr ⟨List.mem_of_getElem? (i := 203) (by decide +kernel), rfl⟩
theorem q204 : Cond.fieldLink RX0 15 "BannedRows$Arcs" "tags" "[I" ∈ gw_tbl := List.mem_filter.mpr ⟨List.mem_of_getElem? (i := 204) (by decide +kernel), rfl⟩
theorem q205 : Cond.fieldLink RX0 18 "BannedRows$Arcs" "mates" "[I" ∈ gw_tbl := List.mem_filter.mpr ⟨List.mem_of_getElem? (i := 205) (by decide +kernel), rfl⟩
theorem q206 : Cond.fieldLink RX0 21 "BannedRows$Arcs" "nextMates" "[I" ∈ gw_tbl := List.mem_filter.mpr ⟨List.mem_of_getElem? (i := 206) (by decide +kernel), rfl⟩
theorem q224 : Cond.classLink RX6 37 RX4 ∈ gw_tbl := List.mem_filter.mpr ⟨List.mem_of_getElem? (i := 224) (by decide +kernel), rfl⟩
theorem q225 : Cond.instantiable RX4 2 ∈ gw_tbl := List.mem_filter.mpr ⟨List.mem_of_getElem? (i := 225) (by decide +kernel), rfl⟩
theorem q226 : Cond.methodLink RX6 39 yX4_init ∈ gw_tbl := List.mem_filter.mpr ⟨List.mem_of_getElem? (i := 226) (by decide +kernel), rfl⟩
theorem q227 : Cond.instanceMethod yX4_init ∈ gw_tbl := List.mem_filter.mpr ⟨List.mem_of_getElem? (i := 227) (by decide +kernel), rfl⟩
theorem q228 : Cond.code yX4_init cX4_init 1 none ∈ gw_tbl := List.mem_filter.mpr ⟨List.mem_of_getElem? (i := 228) (by decide +kernel), rfl⟩
theorem q229 : Cond.methodLink RX4 3 Lib.objectInit ∈ gw_tbl := List.mem_filter.mpr ⟨List.mem_of_getElem? (i := 229) (by decide +kernel), rfl⟩
theorem q230 : Cond.fieldLink RX4 9 "BannedRows$Sums" "values" "[I" ∈ gw_tbl := List.mem_filter.mpr ⟨List.mem_of_getElem? (i := 230) (by decide +kernel), rfl⟩
theorem q231 : Cond.fieldLink RX4 15 "BannedRows$Sums" "next" "[I" ∈ gw_tbl := List.mem_filter.mpr ⟨List.mem_of_getElem? (i := 231) (by decide +kernel), rfl⟩
theorem q238 : Cond.methodLink RX6 62 yX0_build ∈ gw_tbl := List.mem_filter.mpr ⟨List.mem_of_getElem? (i := 238) (by decide +kernel), rfl⟩
theorem q239 : Cond.instanceMethod yX0_build ∈ gw_tbl := List.mem_filter.mpr ⟨List.mem_of_getElem? (i := 239) (by decide +kernel), rfl⟩
theorem q240 : Cond.selects RX0 yX0_build yX0_build ∈ gw_tbl := List.mem_filter.mpr ⟨List.mem_of_getElem? (i := 240) (by decide +kernel), rfl⟩
theorem q241 : Cond.code yX0_build cX0_build 2 none ∈ gw_tbl := List.mem_filter.mpr ⟨List.mem_of_getElem? (i := 241) (by decide +kernel), rfl⟩
theorem q242 : Cond.methodLink RX0 24 yX1_stateCount ∈ gw_tbl := List.mem_filter.mpr ⟨List.mem_of_getElem? (i := 242) (by decide +kernel), rfl⟩
theorem q243 : Cond.instanceMethod yX1_stateCount ∈ gw_tbl := List.mem_filter.mpr ⟨List.mem_of_getElem? (i := 243) (by decide +kernel), rfl⟩
theorem q244 : Cond.selects RX1 yX1_stateCount yX1_stateCount ∈ gw_tbl := List.mem_filter.mpr ⟨List.mem_of_getElem? (i := 244) (by decide +kernel), rfl⟩
theorem q245 : Cond.code yX1_stateCount cX1_stateCount 1 (some .int) ∈ gw_tbl := List.mem_filter.mpr ⟨List.mem_of_getElem? (i := 245) (by decide +kernel), rfl⟩
theorem q246 : Cond.methodLink RX0 30 Lib.Math.min.name ∈ gw_tbl := List.mem_filter.mpr ⟨List.mem_of_getElem? (i := 246) (by decide +kernel), rfl⟩
theorem q247 : Cond.static Lib.Math.min.name ∈ gw_tbl := List.mem_filter.mpr ⟨List.mem_of_getElem? (i := 247) (by decide +kernel), rfl⟩
theorem q248 : Cond.code Lib.Math.min.name Lib.Math.min.code 2 (some .int) ∈ gw_tbl := List.mem_filter.mpr ⟨List.mem_of_getElem? (i := 248) (by decide +kernel), rfl⟩
theorem q249 : Cond.methodLink RX0 40 yX0_setEnds ∈ gw_tbl := List.mem_filter.mpr ⟨List.mem_of_getElem? (i := 249) (by decide +kernel), rfl⟩
theorem q251 : Cond.instanceMethod yX0_setEnds ∈ gw_tbl := List.mem_filter.mpr ⟨List.mem_of_getElem? (i := 251) (by decide +kernel), rfl⟩
theorem q252 : Cond.code yX0_setEnds cX0_setEnds 5 none ∈ gw_tbl := List.mem_filter.mpr ⟨List.mem_of_getElem? (i := 252) (by decide +kernel), rfl⟩
theorem q253 : Cond.methodLink RX0 89 yX1_wordCount ∈ gw_tbl := List.mem_filter.mpr ⟨List.mem_of_getElem? (i := 253) (by decide +kernel), rfl⟩
theorem q254 : Cond.instanceMethod yX1_wordCount ∈ gw_tbl := List.mem_filter.mpr ⟨List.mem_of_getElem? (i := 254) (by decide +kernel), rfl⟩
theorem q255 : Cond.selects RX1 yX1_wordCount yX1_wordCount ∈ gw_tbl := List.mem_filter.mpr ⟨List.mem_of_getElem? (i := 255) (by decide +kernel), rfl⟩
theorem q256 : Cond.code yX1_wordCount cX1_wordCount 1 (some .int) ∈ gw_tbl := List.mem_filter.mpr ⟨List.mem_of_getElem? (i := 256) (by decide +kernel), rfl⟩
theorem q257 : Cond.methodLink RX0 92 yX0_leadOver ∈ gw_tbl := List.mem_filter.mpr ⟨List.mem_of_getElem? (i := 257) (by decide +kernel), rfl⟩
theorem q258 : Cond.static yX0_leadOver ∈ gw_tbl := List.mem_filter.mpr ⟨List.mem_of_getElem? (i := 258) (by decide +kernel), rfl⟩
theorem q259 : Cond.code yX0_leadOver cX0_leadOver 5 (some .int) ∈ gw_tbl := List.mem_filter.mpr ⟨List.mem_of_getElem? (i := 259) (by decide +kernel), rfl⟩
theorem q260 : Cond.methodLink RX0 99 yX1_lead ∈ gw_tbl := List.mem_filter.mpr ⟨List.mem_of_getElem? (i := 260) (by decide +kernel), rfl⟩
theorem q261 : Cond.instanceMethod yX1_lead ∈ gw_tbl := List.mem_filter.mpr ⟨List.mem_of_getElem? (i := 261) (by decide +kernel), rfl⟩
theorem q262 : Cond.selects RX1 yX1_lead yX1_lead ∈ gw_tbl := List.mem_filter.mpr ⟨List.mem_of_getElem? (i := 262) (by decide +kernel), rfl⟩
theorem q263 : Cond.code yX1_lead cX1_lead 3 (some .int) ∈ gw_tbl := List.mem_filter.mpr ⟨List.mem_of_getElem? (i := 263) (by decide +kernel), rfl⟩
theorem q264 : Cond.methodLink RX1 30 yX1_leadOfRuns ∈ gw_tbl := List.mem_filter.mpr ⟨List.mem_of_getElem? (i := 264) (by decide +kernel), rfl⟩
theorem q266 : Cond.instanceMethod yX1_leadOfRuns ∈ gw_tbl := List.mem_filter.mpr ⟨List.mem_of_getElem? (i := 266) (by decide +kernel), rfl⟩
theorem q267 : Cond.code yX1_leadOfRuns cX1_leadOfRuns 3 (some .int) ∈ gw_tbl := List.mem_filter.mpr ⟨List.mem_of_getElem? (i := 267) (by decide +kernel), rfl⟩
theorem q268 : Cond.methodLink RX1 34 yX1_leadOfCharge ∈ gw_tbl := List.mem_filter.mpr ⟨List.mem_of_getElem? (i := 268) (by decide +kernel), rfl⟩
theorem q270 : Cond.instanceMethod yX1_leadOfCharge ∈ gw_tbl := List.mem_filter.mpr ⟨List.mem_of_getElem? (i := 270) (by decide +kernel), rfl⟩
theorem q271 : Cond.code yX1_leadOfCharge cX1_leadOfCharge 4 (some .int) ∈ gw_tbl := List.mem_filter.mpr ⟨List.mem_of_getElem? (i := 271) (by decide +kernel), rfl⟩
theorem q272 : Cond.methodLink RX1 37 yX1_leadOfWord ∈ gw_tbl := List.mem_filter.mpr ⟨List.mem_of_getElem? (i := 272) (by decide +kernel), rfl⟩
theorem q274 : Cond.instanceMethod yX1_leadOfWord ∈ gw_tbl := List.mem_filter.mpr ⟨List.mem_of_getElem? (i := 274) (by decide +kernel), rfl⟩
theorem q275 : Cond.code yX1_leadOfWord cX1_leadOfWord 6 (some .int) ∈ gw_tbl := List.mem_filter.mpr ⟨List.mem_of_getElem? (i := 275) (by decide +kernel), rfl⟩
theorem q276 : Cond.methodLink RX1 40 yX1_firstBits ∈ gw_tbl := List.mem_filter.mpr ⟨List.mem_of_getElem? (i := 276) (by decide +kernel), rfl⟩
theorem q278 : Cond.instanceMethod yX1_firstBits ∈ gw_tbl := List.mem_filter.mpr ⟨List.mem_of_getElem? (i := 278) (by decide +kernel), rfl⟩
theorem q279 : Cond.code yX1_firstBits cX1_firstBits 2 (some .int) ∈ gw_tbl := List.mem_filter.mpr ⟨List.mem_of_getElem? (i := 279) (by decide +kernel), rfl⟩
theorem q280 : Cond.methodLink RX0 44 yX1_tagCount ∈ gw_tbl := List.mem_filter.mpr ⟨List.mem_of_getElem? (i := 280) (by decide +kernel), rfl⟩
theorem q281 : Cond.instanceMethod yX1_tagCount ∈ gw_tbl := List.mem_filter.mpr ⟨List.mem_of_getElem? (i := 281) (by decide +kernel), rfl⟩
theorem q282 : Cond.selects RX1 yX1_tagCount yX1_tagCount ∈ gw_tbl := List.mem_filter.mpr ⟨List.mem_of_getElem? (i := 282) (by decide +kernel), rfl⟩
theorem q283 : Cond.code yX1_tagCount cX1_tagCount 1 (some .int) ∈ gw_tbl := List.mem_filter.mpr ⟨List.mem_of_getElem? (i := 283) (by decide +kernel), rfl⟩
theorem q284 : Cond.methodLink RX0 47 yX0_setGood ∈ gw_tbl := List.mem_filter.mpr ⟨List.mem_of_getElem? (i := 284) (by decide +kernel), rfl⟩
theorem q286 : Cond.instanceMethod yX0_setGood ∈ gw_tbl := List.mem_filter.mpr ⟨List.mem_of_getElem? (i := 286) (by decide +kernel), rfl⟩
theorem q287 : Cond.code yX0_setGood cX0_setGood 5 none ∈ gw_tbl := List.mem_filter.mpr ⟨List.mem_of_getElem? (i := 287) (by decide +kernel), rfl⟩
theorem q288 : Cond.methodLink RX0 69 yX0_has ∈ gw_tbl := List.mem_filter.mpr ⟨List.mem_of_getElem? (i := 288) (by decide +kernel), rfl⟩
theorem q289 : Cond.static yX0_has ∈ gw_tbl := List.mem_filter.mpr ⟨List.mem_of_getElem? (i := 289) (by decide +kernel), rfl⟩
theorem q290 : Cond.code yX0_has cX0_has 2 (some .boolean) ∈ gw_tbl := List.mem_filter.mpr ⟨List.mem_of_getElem? (i := 290) (by decide +kernel), rfl⟩
theorem q291 : Cond.methodLink RX0 102 yX0_arcsToGood ∈ gw_tbl := List.mem_filter.mpr ⟨List.mem_of_getElem? (i := 291) (by decide +kernel), rfl⟩
theorem q293 : Cond.instanceMethod yX0_arcsToGood ∈ gw_tbl := List.mem_filter.mpr ⟨List.mem_of_getElem? (i := 293) (by decide +kernel), rfl⟩
theorem q294 : Cond.code yX0_arcsToGood cX0_arcsToGood 4 (some .int) ∈ gw_tbl := List.mem_filter.mpr ⟨List.mem_of_getElem? (i := 294) (by decide +kernel), rfl⟩
theorem q295 : Cond.methodLink RX0 73 yX0_endOf ∈ gw_tbl := List.mem_filter.mpr ⟨List.mem_of_getElem? (i := 295) (by decide +kernel), rfl⟩
theorem q296 : Cond.instanceMethod yX0_endOf ∈ gw_tbl := List.mem_filter.mpr ⟨List.mem_of_getElem? (i := 296) (by decide +kernel), rfl⟩
theorem q297 : Cond.selects RX0 yX0_endOf yX0_endOf ∈ gw_tbl := List.mem_filter.mpr ⟨List.mem_of_getElem? (i := 297) (by decide +kernel), rfl⟩
theorem q298 : Cond.code yX0_endOf cX0_endOf 3 (some .int) ∈ gw_tbl := List.mem_filter.mpr ⟨List.mem_of_getElem? (i := 298) (by decide +kernel), rfl⟩
theorem q299 : Cond.methodLink RX0 51 yX0_setTags ∈ gw_tbl := List.mem_filter.mpr ⟨List.mem_of_getElem? (i := 299) (by decide +kernel), rfl⟩
theorem q301 : Cond.instanceMethod yX0_setTags ∈ gw_tbl := List.mem_filter.mpr ⟨List.mem_of_getElem? (i := 301) (by decide +kernel), rfl⟩
theorem q302 : Cond.code yX0_setTags cX0_setTags 6 none ∈ gw_tbl := List.mem_filter.mpr ⟨List.mem_of_getElem? (i := 302) (by decide +kernel), rfl⟩
theorem q303 : Cond.methodLink RX0 54 yX0_lowestGood ∈ gw_tbl := List.mem_filter.mpr ⟨List.mem_of_getElem? (i := 303) (by decide +kernel), rfl⟩
theorem q305 : Cond.instanceMethod yX0_lowestGood ∈ gw_tbl := List.mem_filter.mpr ⟨List.mem_of_getElem? (i := 305) (by decide +kernel), rfl⟩
theorem q306 : Cond.code yX0_lowestGood cX0_lowestGood 2 (some .int) ∈ gw_tbl := List.mem_filter.mpr ⟨List.mem_of_getElem? (i := 306) (by decide +kernel), rfl⟩
theorem q307 : Cond.methodLink RX0 60 yX0_narrowestWindow ∈ gw_tbl := List.mem_filter.mpr ⟨List.mem_of_getElem? (i := 307) (by decide +kernel), rfl⟩
theorem q309 : Cond.instanceMethod yX0_narrowestWindow ∈ gw_tbl := List.mem_filter.mpr ⟨List.mem_of_getElem? (i := 309) (by decide +kernel), rfl⟩
theorem q310 : Cond.code yX0_narrowestWindow cX0_narrowestWindow 2 (some .int) ∈ gw_tbl := List.mem_filter.mpr ⟨List.mem_of_getElem? (i := 310) (by decide +kernel), rfl⟩
theorem q311 : Cond.methodLink RX0 106 yX0_isDoubtful ∈ gw_tbl := List.mem_filter.mpr ⟨List.mem_of_getElem? (i := 311) (by decide +kernel), rfl⟩
theorem q313 : Cond.instanceMethod yX0_isDoubtful ∈ gw_tbl := List.mem_filter.mpr ⟨List.mem_of_getElem? (i := 313) (by decide +kernel), rfl⟩
theorem q314 : Cond.code yX0_isDoubtful cX0_isDoubtful 4 (some .boolean) ∈ gw_tbl := List.mem_filter.mpr ⟨List.mem_of_getElem? (i := 314) (by decide +kernel), rfl⟩
theorem q315 : Cond.methodLink RX0 113 yX0_goOnAlike ∈ gw_tbl := List.mem_filter.mpr ⟨List.mem_of_getElem? (i := 315) (by decide +kernel), rfl⟩
theorem q317 : Cond.instanceMethod yX0_goOnAlike ∈ gw_tbl := List.mem_filter.mpr ⟨List.mem_of_getElem? (i := 317) (by decide +kernel), rfl⟩
theorem q318 : Cond.code yX0_goOnAlike cX0_goOnAlike 5 (some .boolean) ∈ gw_tbl := List.mem_filter.mpr ⟨List.mem_of_getElem? (i := 318) (by decide +kernel), rfl⟩
theorem q319 : Cond.methodLink RX0 76 yX0_tagOf ∈ gw_tbl := List.mem_filter.mpr ⟨List.mem_of_getElem? (i := 319) (by decide +kernel), rfl⟩
theorem q320 : Cond.instanceMethod yX0_tagOf ∈ gw_tbl := List.mem_filter.mpr ⟨List.mem_of_getElem? (i := 320) (by decide +kernel), rfl⟩
theorem q321 : Cond.selects RX0 yX0_tagOf yX0_tagOf ∈ gw_tbl := List.mem_filter.mpr ⟨List.mem_of_getElem? (i := 321) (by decide +kernel), rfl⟩
theorem q322 : Cond.code yX0_tagOf cX0_tagOf 3 (some .int) ∈ gw_tbl := List.mem_filter.mpr ⟨List.mem_of_getElem? (i := 322) (by decide +kernel), rfl⟩
theorem q323 : Cond.methodLink RX0 110 yX0_lengthenMates ∈ gw_tbl := List.mem_filter.mpr ⟨List.mem_of_getElem? (i := 323) (by decide +kernel), rfl⟩
theorem q325 : Cond.instanceMethod yX0_lengthenMates ∈ gw_tbl := List.mem_filter.mpr ⟨List.mem_of_getElem? (i := 325) (by decide +kernel), rfl⟩
theorem q326 : Cond.code yX0_lengthenMates cX0_lengthenMates 5 none ∈ gw_tbl := List.mem_filter.mpr ⟨List.mem_of_getElem? (i := 326) (by decide +kernel), rfl⟩
theorem q327 : Cond.methodLink RX0 117 arraycopyName ∈ gw_tbl := List.mem_filter.mpr ⟨List.mem_of_getElem? (i := 327) (by decide +kernel), rfl⟩
theorem q328 : Cond.static arraycopyName ∈ gw_tbl := List.mem_filter.mpr ⟨List.mem_of_getElem? (i := 328) (by decide +kernel), rfl⟩
theorem q329 : Cond.native arraycopyName ∈ gw_tbl := List.mem_filter.mpr ⟨List.mem_of_getElem? (i := 329) (by decide +kernel), rfl⟩
theorem q330 : Cond.methodLink RX6 74 yX3_empty ∈ gw_tbl := List.mem_filter.mpr ⟨List.mem_of_getElem? (i := 330) (by decide +kernel), rfl⟩
theorem q331 : Cond.instanceMethod yX3_empty ∈ gw_tbl := List.mem_filter.mpr ⟨List.mem_of_getElem? (i := 331) (by decide +kernel), rfl⟩
theorem q332 : Cond.selects RX3 yX3_empty yX3_empty ∈ gw_tbl := List.mem_filter.mpr ⟨List.mem_of_getElem? (i := 332) (by decide +kernel), rfl⟩
theorem q333 : Cond.code yX3_empty cX3_empty 2 none ∈ gw_tbl := List.mem_filter.mpr ⟨List.mem_of_getElem? (i := 333) (by decide +kernel), rfl⟩
theorem q334 : Cond.fieldLink RX6 10 "BannedRows" "text" "LBannedRows$Text;" ∈ gw_tbl := List.mem_filter.mpr ⟨List.mem_of_getElem? (i := 334) (by decide +kernel), rfl⟩
theorem q335 : Cond.fieldLink RX6 19 "BannedRows" "told" "LBannedRows$Ban;" ∈ gw_tbl := List.mem_filter.mpr ⟨List.mem_of_getElem? (i := 335) (by decide +kernel), rfl⟩
theorem q336 : Cond.fieldLink RX6 26 "BannedRows" "now" "LBannedRows$Held;" ∈ gw_tbl := List.mem_filter.mpr ⟨List.mem_of_getElem? (i := 336) (by decide +kernel), rfl⟩
theorem q337 : Cond.fieldLink RX6 33 "BannedRows" "arcs" "LBannedRows$Arcs;" ∈ gw_tbl := List.mem_filter.mpr ⟨List.mem_of_getElem? (i := 337) (by decide +kernel), rfl⟩
theorem q338 : Cond.fieldLink RX6 40 "BannedRows" "sums" "LBannedRows$Sums;" ∈ gw_tbl := List.mem_filter.mpr ⟨List.mem_of_getElem? (i := 338) (by decide +kernel), rfl⟩
theorem q339 : Cond.fieldLink RX6 44 "BannedRows" "past" "[LBannedRows$Held;" ∈ gw_tbl := List.mem_filter.mpr ⟨List.mem_of_getElem? (i := 339) (by decide +kernel), rfl⟩
theorem q340 : Cond.fieldLink RX6 129 "BannedRows" "pastSize" "I" ∈ gw_tbl := List.mem_filter.mpr ⟨List.mem_of_getElem? (i := 340) (by decide +kernel), rfl⟩
theorem q341 : Cond.fieldLink RX6 48 "BannedRows" "images" "[LBannedRows$Held;" ∈ gw_tbl := List.mem_filter.mpr ⟨List.mem_of_getElem? (i := 341) (by decide +kernel), rfl⟩
theorem q342 : Cond.fieldLink RX6 51 "BannedRows" "kept" "[Z" ∈ gw_tbl := List.mem_filter.mpr ⟨List.mem_of_getElem? (i := 342) (by decide +kernel), rfl⟩
theorem q343 : Cond.fieldLink RX6 55 "BannedRows" "seen" "[I" ∈ gw_tbl := List.mem_filter.mpr ⟨List.mem_of_getElem? (i := 343) (by decide +kernel), rfl⟩
theorem q344 : Cond.fieldLink RX6 96 "BannedRows" "seenSize" "I" ∈ gw_tbl := List.mem_filter.mpr ⟨List.mem_of_getElem? (i := 344) (by decide +kernel), rfl⟩
theorem q368 : Cond.arrayClass .boolean ∈ gw_tbl := List.mem_filter.mpr ⟨List.mem_of_getElem? (i := 368) (by decide +kernel), rfl⟩
theorem q369 : Cond.methodLink RL 13 yX6_type ∈ gw_tbl := List.mem_filter.mpr ⟨List.mem_of_getElem? (i := 369) (by decide +kernel), rfl⟩
theorem q370 : Cond.instanceMethod yX6_type ∈ gw_tbl := List.mem_filter.mpr ⟨List.mem_of_getElem? (i := 370) (by decide +kernel), rfl⟩
theorem q371 : Cond.selects RX6 yX6_type yX6_type ∈ gw_tbl := List.mem_filter.mpr ⟨List.mem_of_getElem? (i := 371) (by decide +kernel), rfl⟩
theorem q372 : Cond.code yX6_type cX6_type 2 (some .int) ∈ gw_tbl := List.mem_filter.mpr ⟨List.mem_of_getElem? (i := 372) (by decide +kernel), rfl⟩
theorem q373 : Cond.methodLink RX6 83 yX5_append ∈ gw_tbl := List.mem_filter.mpr ⟨List.mem_of_getElem? (i := 373) (by decide +kernel), rfl⟩
theorem q374 : Cond.instanceMethod yX5_append ∈ gw_tbl := List.mem_filter.mpr ⟨List.mem_of_getElem? (i := 374) (by decide +kernel), rfl⟩
theorem q375 : Cond.selects RX5 yX5_append yX5_append ∈ gw_tbl := List.mem_filter.mpr ⟨List.mem_of_getElem? (i := 375) (by decide +kernel), rfl⟩
theorem q376 : Cond.code yX5_append cX5_append 2 none ∈ gw_tbl := List.mem_filter.mpr ⟨List.mem_of_getElem? (i := 376) (by decide +kernel), rfl⟩
theorem q377 : Cond.methodLink RL 18 yX6_clear ∈ gw_tbl := List.mem_filter.mpr ⟨List.mem_of_getElem? (i := 377) (by decide +kernel), rfl⟩
theorem q378 : Cond.instanceMethod yX6_clear ∈ gw_tbl := List.mem_filter.mpr ⟨List.mem_of_getElem? (i := 378) (by decide +kernel), rfl⟩
theorem q379 : Cond.selects RX6 yX6_clear yX6_clear ∈ gw_tbl := List.mem_filter.mpr ⟨List.mem_of_getElem? (i := 379) (by decide +kernel), rfl⟩
theorem q380 : Cond.code yX6_clear cX6_clear 2 (some .int) ∈ gw_tbl := List.mem_filter.mpr ⟨List.mem_of_getElem? (i := 380) (by decide +kernel), rfl⟩
theorem q381 : Cond.methodLink RL 23 yX6_tells ∈ gw_tbl := List.mem_filter.mpr ⟨List.mem_of_getElem? (i := 381) (by decide +kernel), rfl⟩
theorem q382 : Cond.instanceMethod yX6_tells ∈ gw_tbl := List.mem_filter.mpr ⟨List.mem_of_getElem? (i := 382) (by decide +kernel), rfl⟩
theorem q383 : Cond.selects RX6 yX6_tells yX6_tells ∈ gw_tbl := List.mem_filter.mpr ⟨List.mem_of_getElem? (i := 383) (by decide +kernel), rfl⟩
theorem q384 : Cond.code yX6_tells cX6_tells 3 (some .int) ∈ gw_tbl := List.mem_filter.mpr ⟨List.mem_of_getElem? (i := 384) (by decide +kernel), rfl⟩
theorem q385 : Cond.methodLink RX6 86 yX5_readTo ∈ gw_tbl := List.mem_filter.mpr ⟨List.mem_of_getElem? (i := 385) (by decide +kernel), rfl⟩
theorem q386 : Cond.instanceMethod yX5_readTo ∈ gw_tbl := List.mem_filter.mpr ⟨List.mem_of_getElem? (i := 386) (by decide +kernel), rfl⟩
theorem q387 : Cond.selects RX5 yX5_readTo yX5_readTo ∈ gw_tbl := List.mem_filter.mpr ⟨List.mem_of_getElem? (i := 387) (by decide +kernel), rfl⟩
theorem q388 : Cond.code yX5_readTo cX5_readTo 3 (some .int) ∈ gw_tbl := List.mem_filter.mpr ⟨List.mem_of_getElem? (i := 388) (by decide +kernel), rfl⟩
theorem q389 : Cond.methodLink RX5 19 yX1_setFirst ∈ gw_tbl := List.mem_filter.mpr ⟨List.mem_of_getElem? (i := 389) (by decide +kernel), rfl⟩
theorem q390 : Cond.methodLink RX5 34 yX5_isTokenStart ∈ gw_tbl := List.mem_filter.mpr ⟨List.mem_of_getElem? (i := 390) (by decide +kernel), rfl⟩
theorem q392 : Cond.instanceMethod yX5_isTokenStart ∈ gw_tbl := List.mem_filter.mpr ⟨List.mem_of_getElem? (i := 392) (by decide +kernel), rfl⟩
theorem q393 : Cond.code yX5_isTokenStart cX5_isTokenStart 2 (some .boolean) ∈ gw_tbl := List.mem_filter.mpr ⟨List.mem_of_getElem? (i := 393) (by decide +kernel), rfl⟩
theorem q394 : Cond.methodLink RX5 42 yX5_letterAt ∈ gw_tbl := List.mem_filter.mpr ⟨List.mem_of_getElem? (i := 394) (by decide +kernel), rfl⟩
theorem q396 : Cond.instanceMethod yX5_letterAt ∈ gw_tbl := List.mem_filter.mpr ⟨List.mem_of_getElem? (i := 396) (by decide +kernel), rfl⟩
theorem q397 : Cond.code yX5_letterAt cX5_letterAt 2 (some .int) ∈ gw_tbl := List.mem_filter.mpr ⟨List.mem_of_getElem? (i := 397) (by decide +kernel), rfl⟩
theorem q398 : Cond.methodLink RX5 46 yX5_isFigure ∈ gw_tbl := List.mem_filter.mpr ⟨List.mem_of_getElem? (i := 398) (by decide +kernel), rfl⟩
theorem q400 : Cond.instanceMethod yX5_isFigure ∈ gw_tbl := List.mem_filter.mpr ⟨List.mem_of_getElem? (i := 400) (by decide +kernel), rfl⟩
theorem q401 : Cond.code yX5_isFigure cX5_isFigure 3 (some .boolean) ∈ gw_tbl := List.mem_filter.mpr ⟨List.mem_of_getElem? (i := 401) (by decide +kernel), rfl⟩
theorem q402 : Cond.methodLink RX5 38 yX5_takes ∈ gw_tbl := List.mem_filter.mpr ⟨List.mem_of_getElem? (i := 402) (by decide +kernel), rfl⟩
theorem q404 : Cond.instanceMethod yX5_takes ∈ gw_tbl := List.mem_filter.mpr ⟨List.mem_of_getElem? (i := 404) (by decide +kernel), rfl⟩
theorem q405 : Cond.code yX5_takes cX5_takes 3 (some .boolean) ∈ gw_tbl := List.mem_filter.mpr ⟨List.mem_of_getElem? (i := 405) (by decide +kernel), rfl⟩
theorem q406 : Cond.methodLink RX5 49 yX5_takesSort ∈ gw_tbl := List.mem_filter.mpr ⟨List.mem_of_getElem? (i := 406) (by decide +kernel), rfl⟩
theorem q408 : Cond.instanceMethod yX5_takesSort ∈ gw_tbl := List.mem_filter.mpr ⟨List.mem_of_getElem? (i := 408) (by decide +kernel), rfl⟩
theorem q409 : Cond.code yX5_takesSort cX5_takesSort 3 (some .boolean) ∈ gw_tbl := List.mem_filter.mpr ⟨List.mem_of_getElem? (i := 409) (by decide +kernel), rfl⟩
theorem q410 : Cond.methodLink RX5 52 yX5_figureAt ∈ gw_tbl := List.mem_filter.mpr ⟨List.mem_of_getElem? (i := 410) (by decide +kernel), rfl⟩
theorem q412 : Cond.instanceMethod yX5_figureAt ∈ gw_tbl := List.mem_filter.mpr ⟨List.mem_of_getElem? (i := 412) (by decide +kernel), rfl⟩
theorem q413 : Cond.code yX5_figureAt cX5_figureAt 5 (some .int) ∈ gw_tbl := List.mem_filter.mpr ⟨List.mem_of_getElem? (i := 413) (by decide +kernel), rfl⟩
theorem q414 : Cond.methodLink RX5 68 yX5_tokenLength ∈ gw_tbl := List.mem_filter.mpr ⟨List.mem_of_getElem? (i := 414) (by decide +kernel), rfl⟩
theorem q416 : Cond.instanceMethod yX5_tokenLength ∈ gw_tbl := List.mem_filter.mpr ⟨List.mem_of_getElem? (i := 416) (by decide +kernel), rfl⟩
theorem q417 : Cond.code yX5_tokenLength cX5_tokenLength 3 (some .int) ∈ gw_tbl := List.mem_filter.mpr ⟨List.mem_of_getElem? (i := 417) (by decide +kernel), rfl⟩
theorem q418 : Cond.methodLink RX5 59 Lib.Math.max.name ∈ gw_tbl := List.mem_filter.mpr ⟨List.mem_of_getElem? (i := 418) (by decide +kernel), rfl⟩
theorem q419 : Cond.static Lib.Math.max.name ∈ gw_tbl := List.mem_filter.mpr ⟨List.mem_of_getElem? (i := 419) (by decide +kernel), rfl⟩
theorem q420 : Cond.code Lib.Math.max.name Lib.Math.max.code 2 (some .int) ∈ gw_tbl := List.mem_filter.mpr ⟨List.mem_of_getElem? (i := 420) (by decide +kernel), rfl⟩
theorem q421 : Cond.methodLink RX5 71 yX5_bitsAt ∈ gw_tbl := List.mem_filter.mpr ⟨List.mem_of_getElem? (i := 421) (by decide +kernel), rfl⟩
theorem q423 : Cond.instanceMethod yX5_bitsAt ∈ gw_tbl := List.mem_filter.mpr ⟨List.mem_of_getElem? (i := 423) (by decide +kernel), rfl⟩
theorem q424 : Cond.code yX5_bitsAt cX5_bitsAt 6 (some .int) ∈ gw_tbl := List.mem_filter.mpr ⟨List.mem_of_getElem? (i := 424) (by decide +kernel), rfl⟩
theorem q425 : Cond.methodLink RX5 80 yX5_takesRate ∈ gw_tbl := List.mem_filter.mpr ⟨List.mem_of_getElem? (i := 425) (by decide +kernel), rfl⟩
theorem q427 : Cond.instanceMethod yX5_takesRate ∈ gw_tbl := List.mem_filter.mpr ⟨List.mem_of_getElem? (i := 427) (by decide +kernel), rfl⟩
theorem q428 : Cond.code yX5_takesRate cX5_takesRate 2 (some .boolean) ∈ gw_tbl := List.mem_filter.mpr ⟨List.mem_of_getElem? (i := 428) (by decide +kernel), rfl⟩
theorem q429 : Cond.methodLink RX6 90 yX6_remember ∈ gw_tbl := List.mem_filter.mpr ⟨List.mem_of_getElem? (i := 429) (by decide +kernel), rfl⟩
theorem q431 : Cond.instanceMethod yX6_remember ∈ gw_tbl := List.mem_filter.mpr ⟨List.mem_of_getElem? (i := 431) (by decide +kernel), rfl⟩
theorem q432 : Cond.code yX6_remember cX6_remember 3 none ∈ gw_tbl := List.mem_filter.mpr ⟨List.mem_of_getElem? (i := 432) (by decide +kernel), rfl⟩
theorem q433 : Cond.methodLink RX6 202 yX2_copy ∈ gw_tbl := List.mem_filter.mpr ⟨List.mem_of_getElem? (i := 433) (by decide +kernel), rfl⟩
theorem q434 : Cond.instanceMethod yX2_copy ∈ gw_tbl := List.mem_filter.mpr ⟨List.mem_of_getElem? (i := 434) (by decide +kernel), rfl⟩
theorem q435 : Cond.selects RX2 yX2_copy yX2_copy ∈ gw_tbl := List.mem_filter.mpr ⟨List.mem_of_getElem? (i := 435) (by decide +kernel), rfl⟩
theorem q436 : Cond.code yX2_copy cX2_copy 2 none ∈ gw_tbl := List.mem_filter.mpr ⟨List.mem_of_getElem? (i := 436) (by decide +kernel), rfl⟩
theorem q437 : Cond.methodLink RX2 23 yX1_copy ∈ gw_tbl := List.mem_filter.mpr ⟨List.mem_of_getElem? (i := 437) (by decide +kernel), rfl⟩
theorem q438 : Cond.instanceMethod yX1_copy ∈ gw_tbl := List.mem_filter.mpr ⟨List.mem_of_getElem? (i := 438) (by decide +kernel), rfl⟩
theorem q439 : Cond.selects RX1 yX1_copy yX1_copy ∈ gw_tbl := List.mem_filter.mpr ⟨List.mem_of_getElem? (i := 439) (by decide +kernel), rfl⟩
theorem q440 : Cond.code yX1_copy cX1_copy 2 none ∈ gw_tbl := List.mem_filter.mpr ⟨List.mem_of_getElem? (i := 440) (by decide +kernel), rfl⟩
theorem q441 : Cond.methodLink RX2 27 yX3_copy ∈ gw_tbl := List.mem_filter.mpr ⟨List.mem_of_getElem? (i := 441) (by decide +kernel), rfl⟩
theorem q442 : Cond.instanceMethod yX3_copy ∈ gw_tbl := List.mem_filter.mpr ⟨List.mem_of_getElem? (i := 442) (by decide +kernel), rfl⟩
theorem q443 : Cond.selects RX3 yX3_copy yX3_copy ∈ gw_tbl := List.mem_filter.mpr ⟨List.mem_of_getElem? (i := 443) (by decide +kernel), rfl⟩
theorem q444 : Cond.code yX3_copy cX3_copy 2 none ∈ gw_tbl := List.mem_filter.mpr ⟨List.mem_of_getElem? (i := 444) (by decide +kernel), rfl⟩
theorem q445 : Cond.methodLink RX3 28 arraycopyName ∈ gw_tbl := List.mem_filter.mpr ⟨List.mem_of_getElem? (i := 445) (by decide +kernel), rfl⟩
theorem q446 : Cond.methodLink RX6 93 yX1_copy ∈ gw_tbl := List.mem_filter.mpr ⟨List.mem_of_getElem? (i := 446) (by decide +kernel), rfl⟩
theorem q447 : Cond.methodLink RL 27 yX6_sends ∈ gw_tbl := List.mem_filter.mpr ⟨List.mem_of_getElem? (i := 447) (by decide +kernel), rfl⟩
theorem q448 : Cond.instanceMethod yX6_sends ∈ gw_tbl := List.mem_filter.mpr ⟨List.mem_of_getElem? (i := 448) (by decide +kernel), rfl⟩
theorem q449 : Cond.selects RX6 yX6_sends yX6_sends ∈ gw_tbl := List.mem_filter.mpr ⟨List.mem_of_getElem? (i := 449) (by decide +kernel), rfl⟩
theorem q450 : Cond.code yX6_sends cX6_sends 4 (some .int) ∈ gw_tbl := List.mem_filter.mpr ⟨List.mem_of_getElem? (i := 450) (by decide +kernel), rfl⟩
theorem q451 : Cond.methodLink RX6 102 yX1_tagCount ∈ gw_tbl := List.mem_filter.mpr ⟨List.mem_of_getElem? (i := 451) (by decide +kernel), rfl⟩
theorem q452 : Cond.methodLink RX6 113 yX0_wordWith ∈ gw_tbl := List.mem_filter.mpr ⟨List.mem_of_getElem? (i := 452) (by decide +kernel), rfl⟩
theorem q453 : Cond.instanceMethod yX0_wordWith ∈ gw_tbl := List.mem_filter.mpr ⟨List.mem_of_getElem? (i := 453) (by decide +kernel), rfl⟩
theorem q454 : Cond.selects RX0 yX0_wordWith yX0_wordWith ∈ gw_tbl := List.mem_filter.mpr ⟨List.mem_of_getElem? (i := 454) (by decide +kernel), rfl⟩
theorem q455 : Cond.code yX0_wordWith cX0_wordWith 4 (some .int) ∈ gw_tbl := List.mem_filter.mpr ⟨List.mem_of_getElem? (i := 455) (by decide +kernel), rfl⟩
theorem q456 : Cond.methodLink RX6 117 yX0_endOf ∈ gw_tbl := List.mem_filter.mpr ⟨List.mem_of_getElem? (i := 456) (by decide +kernel), rfl⟩
theorem q457 : Cond.methodLink RX6 120 yX3_append ∈ gw_tbl := List.mem_filter.mpr ⟨List.mem_of_getElem? (i := 457) (by decide +kernel), rfl⟩
theorem q458 : Cond.instanceMethod yX3_append ∈ gw_tbl := List.mem_filter.mpr ⟨List.mem_of_getElem? (i := 458) (by decide +kernel), rfl⟩
theorem q459 : Cond.selects RX3 yX3_append yX3_append ∈ gw_tbl := List.mem_filter.mpr ⟨List.mem_of_getElem? (i := 459) (by decide +kernel), rfl⟩
theorem q460 : Cond.code yX3_append cX3_append 4 none ∈ gw_tbl := List.mem_filter.mpr ⟨List.mem_of_getElem? (i := 460) (by decide +kernel), rfl⟩
theorem q461 : Cond.methodLink RL 31 yX6_flips ∈ gw_tbl := List.mem_filter.mpr ⟨List.mem_of_getElem? (i := 461) (by decide +kernel), rfl⟩
theorem q462 : Cond.instanceMethod yX6_flips ∈ gw_tbl := List.mem_filter.mpr ⟨List.mem_of_getElem? (i := 462) (by decide +kernel), rfl⟩
theorem q463 : Cond.selects RX6 yX6_flips yX6_flips ∈ gw_tbl := List.mem_filter.mpr ⟨List.mem_of_getElem? (i := 463) (by decide +kernel), rfl⟩
theorem q464 : Cond.code yX6_flips cX6_flips 3 (some .int) ∈ gw_tbl := List.mem_filter.mpr ⟨List.mem_of_getElem? (i := 464) (by decide +kernel), rfl⟩
theorem q465 : Cond.methodLink RX6 126 yX3_turn ∈ gw_tbl := List.mem_filter.mpr ⟨List.mem_of_getElem? (i := 465) (by decide +kernel), rfl⟩
theorem q466 : Cond.instanceMethod yX3_turn ∈ gw_tbl := List.mem_filter.mpr ⟨List.mem_of_getElem? (i := 466) (by decide +kernel), rfl⟩
theorem q467 : Cond.selects RX3 yX3_turn yX3_turn ∈ gw_tbl := List.mem_filter.mpr ⟨List.mem_of_getElem? (i := 467) (by decide +kernel), rfl⟩
theorem q468 : Cond.code yX3_turn cX3_turn 3 (some .int) ∈ gw_tbl := List.mem_filter.mpr ⟨List.mem_of_getElem? (i := 468) (by decide +kernel), rfl⟩
theorem q469 : Cond.methodLink RL 35 yX6_undo ∈ gw_tbl := List.mem_filter.mpr ⟨List.mem_of_getElem? (i := 469) (by decide +kernel), rfl⟩
theorem q470 : Cond.instanceMethod yX6_undo ∈ gw_tbl := List.mem_filter.mpr ⟨List.mem_of_getElem? (i := 470) (by decide +kernel), rfl⟩
theorem q471 : Cond.selects RX6 yX6_undo yX6_undo ∈ gw_tbl := List.mem_filter.mpr ⟨List.mem_of_getElem? (i := 471) (by decide +kernel), rfl⟩
theorem q472 : Cond.code yX6_undo cX6_undo 1 (some .int) ∈ gw_tbl := List.mem_filter.mpr ⟨List.mem_of_getElem? (i := 472) (by decide +kernel), rfl⟩
theorem q473 : Cond.methodLink RX6 132 yX6_become ∈ gw_tbl := List.mem_filter.mpr ⟨List.mem_of_getElem? (i := 473) (by decide +kernel), rfl⟩
theorem q475 : Cond.instanceMethod yX6_become ∈ gw_tbl := List.mem_filter.mpr ⟨List.mem_of_getElem? (i := 475) (by decide +kernel), rfl⟩
theorem q476 : Cond.code yX6_become cX6_become 2 none ∈ gw_tbl := List.mem_filter.mpr ⟨List.mem_of_getElem? (i := 476) (by decide +kernel), rfl⟩
theorem q477 : Cond.methodLink RL 39 yX6_step ∈ gw_tbl := List.mem_filter.mpr ⟨List.mem_of_getElem? (i := 477) (by decide +kernel), rfl⟩
theorem q478 : Cond.instanceMethod yX6_step ∈ gw_tbl := List.mem_filter.mpr ⟨List.mem_of_getElem? (i := 478) (by decide +kernel), rfl⟩
theorem q479 : Cond.selects RX6 yX6_step yX6_step ∈ gw_tbl := List.mem_filter.mpr ⟨List.mem_of_getElem? (i := 479) (by decide +kernel), rfl⟩
theorem q480 : Cond.code yX6_step cX6_step 3 (some .int) ∈ gw_tbl := List.mem_filter.mpr ⟨List.mem_of_getElem? (i := 480) (by decide +kernel), rfl⟩
theorem q481 : Cond.methodLink RX6 136 yX6_isNoState ∈ gw_tbl := List.mem_filter.mpr ⟨List.mem_of_getElem? (i := 481) (by decide +kernel), rfl⟩
theorem q483 : Cond.instanceMethod yX6_isNoState ∈ gw_tbl := List.mem_filter.mpr ⟨List.mem_of_getElem? (i := 483) (by decide +kernel), rfl⟩
theorem q484 : Cond.code yX6_isNoState cX6_isNoState 2 (some .boolean) ∈ gw_tbl := List.mem_filter.mpr ⟨List.mem_of_getElem? (i := 484) (by decide +kernel), rfl⟩
theorem q485 : Cond.methodLink RX6 140 yX1_lead ∈ gw_tbl := List.mem_filter.mpr ⟨List.mem_of_getElem? (i := 485) (by decide +kernel), rfl⟩
theorem q486 : Cond.methodLink RL 44 yX6_arc ∈ gw_tbl := List.mem_filter.mpr ⟨List.mem_of_getElem? (i := 486) (by decide +kernel), rfl⟩
theorem q487 : Cond.instanceMethod yX6_arc ∈ gw_tbl := List.mem_filter.mpr ⟨List.mem_of_getElem? (i := 487) (by decide +kernel), rfl⟩
theorem q488 : Cond.selects RX6 yX6_arc yX6_arc ∈ gw_tbl := List.mem_filter.mpr ⟨List.mem_of_getElem? (i := 488) (by decide +kernel), rfl⟩
theorem q489 : Cond.code yX6_arc cX6_arc 4 (some .int) ∈ gw_tbl := List.mem_filter.mpr ⟨List.mem_of_getElem? (i := 489) (by decide +kernel), rfl⟩
theorem q490 : Cond.methodLink RX6 143 yX6_isNoWord ∈ gw_tbl := List.mem_filter.mpr ⟨List.mem_of_getElem? (i := 490) (by decide +kernel), rfl⟩
theorem q492 : Cond.instanceMethod yX6_isNoWord ∈ gw_tbl := List.mem_filter.mpr ⟨List.mem_of_getElem? (i := 492) (by decide +kernel), rfl⟩
theorem q493 : Cond.code yX6_isNoWord cX6_isNoWord 2 (some .boolean) ∈ gw_tbl := List.mem_filter.mpr ⟨List.mem_of_getElem? (i := 493) (by decide +kernel), rfl⟩
theorem q494 : Cond.methodLink RX6 213 yX1_wordCount ∈ gw_tbl := List.mem_filter.mpr ⟨List.mem_of_getElem? (i := 494) (by decide +kernel), rfl⟩
theorem q495 : Cond.methodLink RX6 146 yX0_tagOf ∈ gw_tbl := List.mem_filter.mpr ⟨List.mem_of_getElem? (i := 495) (by decide +kernel), rfl⟩
theorem q496 : Cond.methodLink RL 49 yX6_state ∈ gw_tbl := List.mem_filter.mpr ⟨List.mem_of_getElem? (i := 496) (by decide +kernel), rfl⟩
theorem q497 : Cond.instanceMethod yX6_state ∈ gw_tbl := List.mem_filter.mpr ⟨List.mem_of_getElem? (i := 497) (by decide +kernel), rfl⟩
theorem q498 : Cond.selects RX6 yX6_state yX6_state ∈ gw_tbl := List.mem_filter.mpr ⟨List.mem_of_getElem? (i := 498) (by decide +kernel), rfl⟩
theorem q499 : Cond.code yX6_state cX6_state 3 (some .int) ∈ gw_tbl := List.mem_filter.mpr ⟨List.mem_of_getElem? (i := 499) (by decide +kernel), rfl⟩
theorem q500 : Cond.methodLink RX6 149 yX0_arcsFrom ∈ gw_tbl := List.mem_filter.mpr ⟨List.mem_of_getElem? (i := 500) (by decide +kernel), rfl⟩
theorem q501 : Cond.instanceMethod yX0_arcsFrom ∈ gw_tbl := List.mem_filter.mpr ⟨List.mem_of_getElem? (i := 501) (by decide +kernel), rfl⟩
theorem q502 : Cond.selects RX0 yX0_arcsFrom yX0_arcsFrom ∈ gw_tbl := List.mem_filter.mpr ⟨List.mem_of_getElem? (i := 502) (by decide +kernel), rfl⟩
theorem q503 : Cond.code yX0_arcsFrom cX0_arcsFrom 4 (some .int) ∈ gw_tbl := List.mem_filter.mpr ⟨List.mem_of_getElem? (i := 503) (by decide +kernel), rfl⟩
theorem q504 : Cond.methodLink RX6 153 yX0_isGood ∈ gw_tbl := List.mem_filter.mpr ⟨List.mem_of_getElem? (i := 504) (by decide +kernel), rfl⟩
theorem q505 : Cond.instanceMethod yX0_isGood ∈ gw_tbl := List.mem_filter.mpr ⟨List.mem_of_getElem? (i := 505) (by decide +kernel), rfl⟩
theorem q506 : Cond.selects RX0 yX0_isGood yX0_isGood ∈ gw_tbl := List.mem_filter.mpr ⟨List.mem_of_getElem? (i := 506) (by decide +kernel), rfl⟩
theorem q507 : Cond.code yX0_isGood cX0_isGood 2 (some .boolean) ∈ gw_tbl := List.mem_filter.mpr ⟨List.mem_of_getElem? (i := 507) (by decide +kernel), rfl⟩
theorem q508 : Cond.methodLink RL 53 yX6_weight ∈ gw_tbl := List.mem_filter.mpr ⟨List.mem_of_getElem? (i := 508) (by decide +kernel), rfl⟩
theorem q509 : Cond.instanceMethod yX6_weight ∈ gw_tbl := List.mem_filter.mpr ⟨List.mem_of_getElem? (i := 509) (by decide +kernel), rfl⟩
theorem q510 : Cond.selects RX6 yX6_weight yX6_weight ∈ gw_tbl := List.mem_filter.mpr ⟨List.mem_of_getElem? (i := 510) (by decide +kernel), rfl⟩
theorem q511 : Cond.code yX6_weight cX6_weight 4 (some .int) ∈ gw_tbl := List.mem_filter.mpr ⟨List.mem_of_getElem? (i := 511) (by decide +kernel), rfl⟩
theorem q512 : Cond.methodLink RX6 159 yX4_settle ∈ gw_tbl := List.mem_filter.mpr ⟨List.mem_of_getElem? (i := 512) (by decide +kernel), rfl⟩
theorem q513 : Cond.instanceMethod yX4_settle ∈ gw_tbl := List.mem_filter.mpr ⟨List.mem_of_getElem? (i := 513) (by decide +kernel), rfl⟩
theorem q514 : Cond.selects RX4 yX4_settle yX4_settle ∈ gw_tbl := List.mem_filter.mpr ⟨List.mem_of_getElem? (i := 514) (by decide +kernel), rfl⟩
theorem q515 : Cond.code yX4_settle cX4_settle 6 none ∈ gw_tbl := List.mem_filter.mpr ⟨List.mem_of_getElem? (i := 515) (by decide +kernel), rfl⟩
theorem q516 : Cond.methodLink RX4 18 yX4_setAll ∈ gw_tbl := List.mem_filter.mpr ⟨List.mem_of_getElem? (i := 516) (by decide +kernel), rfl⟩
theorem q518 : Cond.instanceMethod yX4_setAll ∈ gw_tbl := List.mem_filter.mpr ⟨List.mem_of_getElem? (i := 518) (by decide +kernel), rfl⟩
theorem q519 : Cond.code yX4_setAll cX4_setAll 4 none ∈ gw_tbl := List.mem_filter.mpr ⟨List.mem_of_getElem? (i := 519) (by decide +kernel), rfl⟩
theorem q520 : Cond.methodLink RX4 41 yX4_lessen ∈ gw_tbl := List.mem_filter.mpr ⟨List.mem_of_getElem? (i := 520) (by decide +kernel), rfl⟩
theorem q522 : Cond.instanceMethod yX4_lessen ∈ gw_tbl := List.mem_filter.mpr ⟨List.mem_of_getElem? (i := 522) (by decide +kernel), rfl⟩
theorem q523 : Cond.code yX4_lessen cX4_lessen 5 (some .boolean) ∈ gw_tbl := List.mem_filter.mpr ⟨List.mem_of_getElem? (i := 523) (by decide +kernel), rfl⟩
theorem q524 : Cond.methodLink RX4 62 yX4_sumOver ∈ gw_tbl := List.mem_filter.mpr ⟨List.mem_of_getElem? (i := 524) (by decide +kernel), rfl⟩
theorem q526 : Cond.instanceMethod yX4_sumOver ∈ gw_tbl := List.mem_filter.mpr ⟨List.mem_of_getElem? (i := 526) (by decide +kernel), rfl⟩
theorem q527 : Cond.code yX4_sumOver cX4_sumOver 5 (some .int) ∈ gw_tbl := List.mem_filter.mpr ⟨List.mem_of_getElem? (i := 527) (by decide +kernel), rfl⟩
theorem q528 : Cond.methodLink RX4 71 yX0_endOf ∈ gw_tbl := List.mem_filter.mpr ⟨List.mem_of_getElem? (i := 528) (by decide +kernel), rfl⟩
theorem q529 : Cond.methodLink RX4 45 yX4_at ∈ gw_tbl := List.mem_filter.mpr ⟨List.mem_of_getElem? (i := 529) (by decide +kernel), rfl⟩
theorem q530 : Cond.instanceMethod yX4_at ∈ gw_tbl := List.mem_filter.mpr ⟨List.mem_of_getElem? (i := 530) (by decide +kernel), rfl⟩
theorem q531 : Cond.selects RX4 yX4_at yX4_at ∈ gw_tbl := List.mem_filter.mpr ⟨List.mem_of_getElem? (i := 531) (by decide +kernel), rfl⟩
theorem q532 : Cond.code yX4_at cX4_at 2 (some .int) ∈ gw_tbl := List.mem_filter.mpr ⟨List.mem_of_getElem? (i := 532) (by decide +kernel), rfl⟩
theorem q533 : Cond.methodLink RX4 66 Lib.Math.min.name ∈ gw_tbl := List.mem_filter.mpr ⟨List.mem_of_getElem? (i := 533) (by decide +kernel), rfl⟩
theorem q534 : Cond.methodLink RX4 56 arraycopyName ∈ gw_tbl := List.mem_filter.mpr ⟨List.mem_of_getElem? (i := 534) (by decide +kernel), rfl⟩
theorem q535 : Cond.methodLink RX6 163 yX4_at ∈ gw_tbl := List.mem_filter.mpr ⟨List.mem_of_getElem? (i := 535) (by decide +kernel), rfl⟩
theorem q536 : Cond.methodLink RX6 166 yX4_shareOf ∈ gw_tbl := List.mem_filter.mpr ⟨List.mem_of_getElem? (i := 536) (by decide +kernel), rfl⟩
theorem q537 : Cond.instanceMethod yX4_shareOf ∈ gw_tbl := List.mem_filter.mpr ⟨List.mem_of_getElem? (i := 537) (by decide +kernel), rfl⟩
theorem q538 : Cond.selects RX4 yX4_shareOf yX4_shareOf ∈ gw_tbl := List.mem_filter.mpr ⟨List.mem_of_getElem? (i := 538) (by decide +kernel), rfl⟩
theorem q539 : Cond.code yX4_shareOf cX4_shareOf 3 (some .int) ∈ gw_tbl := List.mem_filter.mpr ⟨List.mem_of_getElem? (i := 539) (by decide +kernel), rfl⟩
theorem q540 : Cond.methodLink RX4 32 yX4_total ∈ gw_tbl := List.mem_filter.mpr ⟨List.mem_of_getElem? (i := 540) (by decide +kernel), rfl⟩
theorem q542 : Cond.instanceMethod yX4_total ∈ gw_tbl := List.mem_filter.mpr ⟨List.mem_of_getElem? (i := 542) (by decide +kernel), rfl⟩
theorem q543 : Cond.code yX4_total cX4_total 3 (some .int) ∈ gw_tbl := List.mem_filter.mpr ⟨List.mem_of_getElem? (i := 543) (by decide +kernel), rfl⟩
theorem q544 : Cond.methodLink RL 57 yX6_rows ∈ gw_tbl := List.mem_filter.mpr ⟨List.mem_of_getElem? (i := 544) (by decide +kernel), rfl⟩
theorem q545 : Cond.instanceMethod yX6_rows ∈ gw_tbl := List.mem_filter.mpr ⟨List.mem_of_getElem? (i := 545) (by decide +kernel), rfl⟩
theorem q546 : Cond.selects RX6 yX6_rows yX6_rows ∈ gw_tbl := List.mem_filter.mpr ⟨List.mem_of_getElem? (i := 546) (by decide +kernel), rfl⟩
theorem q547 : Cond.code yX6_rows cX6_rows 2 (some .int) ∈ gw_tbl := List.mem_filter.mpr ⟨List.mem_of_getElem? (i := 547) (by decide +kernel), rfl⟩
theorem q548 : Cond.methodLink RX6 169 yX4_countRows ∈ gw_tbl := List.mem_filter.mpr ⟨List.mem_of_getElem? (i := 548) (by decide +kernel), rfl⟩
theorem q549 : Cond.instanceMethod yX4_countRows ∈ gw_tbl := List.mem_filter.mpr ⟨List.mem_of_getElem? (i := 549) (by decide +kernel), rfl⟩
theorem q550 : Cond.selects RX4 yX4_countRows yX4_countRows ∈ gw_tbl := List.mem_filter.mpr ⟨List.mem_of_getElem? (i := 550) (by decide +kernel), rfl⟩
theorem q551 : Cond.code yX4_countRows cX4_countRows 5 (some .int) ∈ gw_tbl := List.mem_filter.mpr ⟨List.mem_of_getElem? (i := 551) (by decide +kernel), rfl⟩
theorem q552 : Cond.methodLink RX4 22 yX1_start ∈ gw_tbl := List.mem_filter.mpr ⟨List.mem_of_getElem? (i := 552) (by decide +kernel), rfl⟩
theorem q553 : Cond.instanceMethod yX1_start ∈ gw_tbl := List.mem_filter.mpr ⟨List.mem_of_getElem? (i := 553) (by decide +kernel), rfl⟩
theorem q554 : Cond.selects RX1 yX1_start yX1_start ∈ gw_tbl := List.mem_filter.mpr ⟨List.mem_of_getElem? (i := 554) (by decide +kernel), rfl⟩
theorem q555 : Cond.code yX1_start cX1_start 1 (some .int) ∈ gw_tbl := List.mem_filter.mpr ⟨List.mem_of_getElem? (i := 555) (by decide +kernel), rfl⟩
theorem q556 : Cond.methodLink RX4 28 yX4_lengthenRows ∈ gw_tbl := List.mem_filter.mpr ⟨List.mem_of_getElem? (i := 556) (by decide +kernel), rfl⟩
theorem q558 : Cond.instanceMethod yX4_lengthenRows ∈ gw_tbl := List.mem_filter.mpr ⟨List.mem_of_getElem? (i := 558) (by decide +kernel), rfl⟩
theorem q559 : Cond.code yX4_lengthenRows cX4_lengthenRows 5 none ∈ gw_tbl := List.mem_filter.mpr ⟨List.mem_of_getElem? (i := 559) (by decide +kernel), rfl⟩
theorem q560 : Cond.methodLink RX4 49 yX1_stateCount ∈ gw_tbl := List.mem_filter.mpr ⟨List.mem_of_getElem? (i := 560) (by decide +kernel), rfl⟩
theorem q561 : Cond.methodLink RX4 52 yX1_lead ∈ gw_tbl := List.mem_filter.mpr ⟨List.mem_of_getElem? (i := 561) (by decide +kernel), rfl⟩
theorem q562 : Cond.methodLink RL 61 yX6_word ∈ gw_tbl := List.mem_filter.mpr ⟨List.mem_of_getElem? (i := 562) (by decide +kernel), rfl⟩
theorem q563 : Cond.instanceMethod yX6_word ∈ gw_tbl := List.mem_filter.mpr ⟨List.mem_of_getElem? (i := 563) (by decide +kernel), rfl⟩
theorem q564 : Cond.selects RX6 yX6_word yX6_word ∈ gw_tbl := List.mem_filter.mpr ⟨List.mem_of_getElem? (i := 564) (by decide +kernel), rfl⟩
theorem q565 : Cond.code yX6_word cX6_word 3 (some .int) ∈ gw_tbl := List.mem_filter.mpr ⟨List.mem_of_getElem? (i := 565) (by decide +kernel), rfl⟩
theorem q566 : Cond.methodLink RX6 173 yX3_wordAt ∈ gw_tbl := List.mem_filter.mpr ⟨List.mem_of_getElem? (i := 566) (by decide +kernel), rfl⟩
theorem q567 : Cond.instanceMethod yX3_wordAt ∈ gw_tbl := List.mem_filter.mpr ⟨List.mem_of_getElem? (i := 567) (by decide +kernel), rfl⟩
theorem q568 : Cond.selects RX3 yX3_wordAt yX3_wordAt ∈ gw_tbl := List.mem_filter.mpr ⟨List.mem_of_getElem? (i := 568) (by decide +kernel), rfl⟩
theorem q569 : Cond.code yX3_wordAt cX3_wordAt 2 (some .int) ∈ gw_tbl := List.mem_filter.mpr ⟨List.mem_of_getElem? (i := 569) (by decide +kernel), rfl⟩
theorem q570 : Cond.methodLink RX6 176 yX3_tagAt ∈ gw_tbl := List.mem_filter.mpr ⟨List.mem_of_getElem? (i := 570) (by decide +kernel), rfl⟩
theorem q571 : Cond.instanceMethod yX3_tagAt ∈ gw_tbl := List.mem_filter.mpr ⟨List.mem_of_getElem? (i := 571) (by decide +kernel), rfl⟩
theorem q572 : Cond.selects RX3 yX3_tagAt yX3_tagAt ∈ gw_tbl := List.mem_filter.mpr ⟨List.mem_of_getElem? (i := 572) (by decide +kernel), rfl⟩
theorem q573 : Cond.code yX3_tagAt cX3_tagAt 2 (some .int) ∈ gw_tbl := List.mem_filter.mpr ⟨List.mem_of_getElem? (i := 573) (by decide +kernel), rfl⟩
theorem q574 : Cond.methodLink RX6 179 yX6_readByStates ∈ gw_tbl := List.mem_filter.mpr ⟨List.mem_of_getElem? (i := 574) (by decide +kernel), rfl⟩
theorem q576 : Cond.instanceMethod yX6_readByStates ∈ gw_tbl := List.mem_filter.mpr ⟨List.mem_of_getElem? (i := 576) (by decide +kernel), rfl⟩
theorem q577 : Cond.code yX6_readByStates cX6_readByStates 6 (some .int) ∈ gw_tbl := List.mem_filter.mpr ⟨List.mem_of_getElem? (i := 577) (by decide +kernel), rfl⟩
theorem q578 : Cond.methodLink RX6 182 yX6_readByWindow ∈ gw_tbl := List.mem_filter.mpr ⟨List.mem_of_getElem? (i := 578) (by decide +kernel), rfl⟩
theorem q580 : Cond.instanceMethod yX6_readByWindow ∈ gw_tbl := List.mem_filter.mpr ⟨List.mem_of_getElem? (i := 580) (by decide +kernel), rfl⟩
theorem q581 : Cond.code yX6_readByWindow cX6_readByWindow 4 (some .int) ∈ gw_tbl := List.mem_filter.mpr ⟨List.mem_of_getElem? (i := 581) (by decide +kernel), rfl⟩
theorem q582 : Cond.methodLink RX6 219 yX0_follow ∈ gw_tbl := List.mem_filter.mpr ⟨List.mem_of_getElem? (i := 582) (by decide +kernel), rfl⟩
theorem q583 : Cond.instanceMethod yX0_follow ∈ gw_tbl := List.mem_filter.mpr ⟨List.mem_of_getElem? (i := 583) (by decide +kernel), rfl⟩
theorem q584 : Cond.selects RX0 yX0_follow yX0_follow ∈ gw_tbl := List.mem_filter.mpr ⟨List.mem_of_getElem? (i := 584) (by decide +kernel), rfl⟩
theorem q585 : Cond.code yX0_follow cX0_follow 7 (some .int) ∈ gw_tbl := List.mem_filter.mpr ⟨List.mem_of_getElem? (i := 585) (by decide +kernel), rfl⟩
theorem q586 : Cond.methodLink RL 65 yX6_wrong ∈ gw_tbl := List.mem_filter.mpr ⟨List.mem_of_getElem? (i := 586) (by decide +kernel), rfl⟩
theorem q587 : Cond.instanceMethod yX6_wrong ∈ gw_tbl := List.mem_filter.mpr ⟨List.mem_of_getElem? (i := 587) (by decide +kernel), rfl⟩
theorem q588 : Cond.selects RX6 yX6_wrong yX6_wrong ∈ gw_tbl := List.mem_filter.mpr ⟨List.mem_of_getElem? (i := 588) (by decide +kernel), rfl⟩
theorem q589 : Cond.code yX6_wrong cX6_wrong 5 (some .int) ∈ gw_tbl := List.mem_filter.mpr ⟨List.mem_of_getElem? (i := 589) (by decide +kernel), rfl⟩
theorem q590 : Cond.methodLink RL 69 yX6_sees ∈ gw_tbl := List.mem_filter.mpr ⟨List.mem_of_getElem? (i := 590) (by decide +kernel), rfl⟩
theorem q591 : Cond.instanceMethod yX6_sees ∈ gw_tbl := List.mem_filter.mpr ⟨List.mem_of_getElem? (i := 591) (by decide +kernel), rfl⟩
theorem q592 : Cond.selects RX6 yX6_sees yX6_sees ∈ gw_tbl := List.mem_filter.mpr ⟨List.mem_of_getElem? (i := 592) (by decide +kernel), rfl⟩
theorem q593 : Cond.code yX6_sees cX6_sees 2 (some .int) ∈ gw_tbl := List.mem_filter.mpr ⟨List.mem_of_getElem? (i := 593) (by decide +kernel), rfl⟩
theorem q594 : Cond.methodLink RL 73 yX6_forget ∈ gw_tbl := List.mem_filter.mpr ⟨List.mem_of_getElem? (i := 594) (by decide +kernel), rfl⟩
theorem q595 : Cond.instanceMethod yX6_forget ∈ gw_tbl := List.mem_filter.mpr ⟨List.mem_of_getElem? (i := 595) (by decide +kernel), rfl⟩
theorem q596 : Cond.selects RX6 yX6_forget yX6_forget ∈ gw_tbl := List.mem_filter.mpr ⟨List.mem_of_getElem? (i := 596) (by decide +kernel), rfl⟩
theorem q597 : Cond.code yX6_forget cX6_forget 2 (some .int) ∈ gw_tbl := List.mem_filter.mpr ⟨List.mem_of_getElem? (i := 597) (by decide +kernel), rfl⟩
theorem q598 : Cond.methodLink RL 77 yX6_which ∈ gw_tbl := List.mem_filter.mpr ⟨List.mem_of_getElem? (i := 598) (by decide +kernel), rfl⟩
theorem q599 : Cond.instanceMethod yX6_which ∈ gw_tbl := List.mem_filter.mpr ⟨List.mem_of_getElem? (i := 599) (by decide +kernel), rfl⟩
theorem q600 : Cond.selects RX6 yX6_which yX6_which ∈ gw_tbl := List.mem_filter.mpr ⟨List.mem_of_getElem? (i := 600) (by decide +kernel), rfl⟩
theorem q601 : Cond.code yX6_which cX6_which 2 (some .int) ∈ gw_tbl := List.mem_filter.mpr ⟨List.mem_of_getElem? (i := 601) (by decide +kernel), rfl⟩
theorem q602 : Cond.methodLink RX6 185 yX6_origins ∈ gw_tbl := List.mem_filter.mpr ⟨List.mem_of_getElem? (i := 602) (by decide +kernel), rfl⟩
theorem q604 : Cond.instanceMethod yX6_origins ∈ gw_tbl := List.mem_filter.mpr ⟨List.mem_of_getElem? (i := 604) (by decide +kernel), rfl⟩
theorem q605 : Cond.code yX6_origins cX6_origins 3 (some .int) ∈ gw_tbl := List.mem_filter.mpr ⟨List.mem_of_getElem? (i := 605) (by decide +kernel), rfl⟩
theorem q606 : Cond.methodLink RX6 223 yX6_endOfSeen ∈ gw_tbl := List.mem_filter.mpr ⟨List.mem_of_getElem? (i := 606) (by decide +kernel), rfl⟩
theorem q608 : Cond.instanceMethod yX6_endOfSeen ∈ gw_tbl := List.mem_filter.mpr ⟨List.mem_of_getElem? (i := 608) (by decide +kernel), rfl⟩
theorem q609 : Cond.code yX6_endOfSeen cX6_endOfSeen 2 (some .int) ∈ gw_tbl := List.mem_filter.mpr ⟨List.mem_of_getElem? (i := 609) (by decide +kernel), rfl⟩
theorem q610 : Cond.methodLink RX6 188 yX6_presentStates ∈ gw_tbl := List.mem_filter.mpr ⟨List.mem_of_getElem? (i := 610) (by decide +kernel), rfl⟩
theorem q612 : Cond.instanceMethod yX6_presentStates ∈ gw_tbl := List.mem_filter.mpr ⟨List.mem_of_getElem? (i := 612) (by decide +kernel), rfl⟩
theorem q613 : Cond.code yX6_presentStates cX6_presentStates 4 (some .int) ∈ gw_tbl := List.mem_filter.mpr ⟨List.mem_of_getElem? (i := 613) (by decide +kernel), rfl⟩
theorem q614 : Cond.methodLink RL 81 yX6_ask ∈ gw_tbl := List.mem_filter.mpr ⟨List.mem_of_getElem? (i := 614) (by decide +kernel), rfl⟩
theorem q615 : Cond.instanceMethod yX6_ask ∈ gw_tbl := List.mem_filter.mpr ⟨List.mem_of_getElem? (i := 615) (by decide +kernel), rfl⟩
theorem q616 : Cond.selects RX6 yX6_ask yX6_ask ∈ gw_tbl := List.mem_filter.mpr ⟨List.mem_of_getElem? (i := 616) (by decide +kernel), rfl⟩
theorem q617 : Cond.code yX6_ask cX6_ask 6 (some .int) ∈ gw_tbl := List.mem_filter.mpr ⟨List.mem_of_getElem? (i := 617) (by decide +kernel), rfl⟩
theorem q618 : Cond.methodLink RX6 191 yJ6_bitCount_0f7a4 ∈ gw_tbl := List.mem_filter.mpr ⟨List.mem_of_getElem? (i := 618) (by decide +kernel), rfl⟩
theorem q619 : Cond.static yJ6_bitCount_0f7a4 ∈ gw_tbl := List.mem_filter.mpr ⟨List.mem_of_getElem? (i := 619) (by decide +kernel), rfl⟩
theorem q620 : Cond.code yJ6_bitCount_0f7a4 cJ6_bitCount_0f7a4 1 (some .int) ∈ gw_tbl := List.mem_filter.mpr ⟨List.mem_of_getElem? (i := 620) (by decide +kernel), rfl⟩
theorem q621 : Cond.constant RJ6 265 (Int32.ofInt (1431655765)) ∈ gw_tbl := List.mem_filter.mpr ⟨List.mem_of_getElem? (i := 621) (by decide +kernel), rfl⟩
theorem q622 : Cond.constant RJ6 266 (Int32.ofInt (858993459)) ∈ gw_tbl := List.mem_filter.mpr ⟨List.mem_of_getElem? (i := 622) (by decide +kernel), rfl⟩
theorem q623 : Cond.constant RJ6 267 (Int32.ofInt (252645135)) ∈ gw_tbl := List.mem_filter.mpr ⟨List.mem_of_getElem? (i := 623) (by decide +kernel), rfl⟩
theorem q624 : Cond.methodLink RX6 196 yX0_mostAlike ∈ gw_tbl := List.mem_filter.mpr ⟨List.mem_of_getElem? (i := 624) (by decide +kernel), rfl⟩
theorem q625 : Cond.instanceMethod yX0_mostAlike ∈ gw_tbl := List.mem_filter.mpr ⟨List.mem_of_getElem? (i := 625) (by decide +kernel), rfl⟩
theorem q626 : Cond.selects RX0 yX0_mostAlike yX0_mostAlike ∈ gw_tbl := List.mem_filter.mpr ⟨List.mem_of_getElem? (i := 626) (by decide +kernel), rfl⟩
theorem q627 : Cond.code yX0_mostAlike cX0_mostAlike 5 (some .int) ∈ gw_tbl := List.mem_filter.mpr ⟨List.mem_of_getElem? (i := 627) (by decide +kernel), rfl⟩
theorem q628 : Cond.methodLink RX0 79 yX0_wordWith ∈ gw_tbl := List.mem_filter.mpr ⟨List.mem_of_getElem? (i := 628) (by decide +kernel), rfl⟩
theorem q629 : Cond.methodLink RX0 82 yX0_withWord ∈ gw_tbl := List.mem_filter.mpr ⟨List.mem_of_getElem? (i := 629) (by decide +kernel), rfl⟩
theorem q631 : Cond.instanceMethod yX0_withWord ∈ gw_tbl := List.mem_filter.mpr ⟨List.mem_of_getElem? (i := 631) (by decide +kernel), rfl⟩
theorem q632 : Cond.code yX0_withWord cX0_withWord 6 (some .int) ∈ gw_tbl := List.mem_filter.mpr ⟨List.mem_of_getElem? (i := 632) (by decide +kernel), rfl⟩
theorem q633 : Cond.methodLink RX0 86 Lib.Math.max.name ∈ gw_tbl := List.mem_filter.mpr ⟨List.mem_of_getElem? (i := 633) (by decide +kernel), rfl⟩
theorem q634 : Cond.methodLink RL 85 yX6_keep ∈ gw_tbl := List.mem_filter.mpr ⟨List.mem_of_getElem? (i := 634) (by decide +kernel), rfl⟩
theorem q635 : Cond.instanceMethod yX6_keep ∈ gw_tbl := List.mem_filter.mpr ⟨List.mem_of_getElem? (i := 635) (by decide +kernel), rfl⟩
theorem q636 : Cond.selects RX6 yX6_keep yX6_keep ∈ gw_tbl := List.mem_filter.mpr ⟨List.mem_of_getElem? (i := 636) (by decide +kernel), rfl⟩
theorem q637 : Cond.code yX6_keep cX6_keep 3 (some .int) ∈ gw_tbl := List.mem_filter.mpr ⟨List.mem_of_getElem? (i := 637) (by decide +kernel), rfl⟩
theorem q638 : Cond.methodLink RX6 199 yX6_isNoImage ∈ gw_tbl := List.mem_filter.mpr ⟨List.mem_of_getElem? (i := 638) (by decide +kernel), rfl⟩
theorem q639 : Cond.static yX6_isNoImage ∈ gw_tbl := List.mem_filter.mpr ⟨List.mem_of_getElem? (i := 639) (by decide +kernel), rfl⟩
theorem q640 : Cond.code yX6_isNoImage cX6_isNoImage 1 (some .boolean) ∈ gw_tbl := List.mem_filter.mpr ⟨List.mem_of_getElem? (i := 640) (by decide +kernel), rfl⟩
theorem q641 : Cond.methodLink RL 89 yX6_back ∈ gw_tbl := List.mem_filter.mpr ⟨List.mem_of_getElem? (i := 641) (by decide +kernel), rfl⟩
theorem q642 : Cond.instanceMethod yX6_back ∈ gw_tbl := List.mem_filter.mpr ⟨List.mem_of_getElem? (i := 642) (by decide +kernel), rfl⟩
theorem q643 : Cond.selects RX6 yX6_back yX6_back ∈ gw_tbl := List.mem_filter.mpr ⟨List.mem_of_getElem? (i := 643) (by decide +kernel), rfl⟩
theorem q644 : Cond.code yX6_back cX6_back 2 (some .int) ∈ gw_tbl := List.mem_filter.mpr ⟨List.mem_of_getElem? (i := 644) (by decide +kernel), rfl⟩
theorem q645 : Cond.methodLink RL 93 yX6_count ∈ gw_tbl := List.mem_filter.mpr ⟨List.mem_of_getElem? (i := 645) (by decide +kernel), rfl⟩
theorem q646 : Cond.instanceMethod yX6_count ∈ gw_tbl := List.mem_filter.mpr ⟨List.mem_of_getElem? (i := 646) (by decide +kernel), rfl⟩
theorem q647 : Cond.selects RX6 yX6_count yX6_count ∈ gw_tbl := List.mem_filter.mpr ⟨List.mem_of_getElem? (i := 647) (by decide +kernel), rfl⟩
theorem q648 : Cond.code yX6_count cX6_count 2 (some .int) ∈ gw_tbl := List.mem_filter.mpr ⟨List.mem_of_getElem? (i := 648) (by decide +kernel), rfl⟩
theorem q649 : Cond.methodLink RX6 204 yX1_start ∈ gw_tbl := List.mem_filter.mpr ⟨List.mem_of_getElem? (i := 649) (by decide +kernel), rfl⟩
theorem q650 : Cond.methodLink RX6 210 yX3_turnedBits ∈ gw_tbl := List.mem_filter.mpr ⟨List.mem_of_getElem? (i := 650) (by decide +kernel), rfl⟩
theorem q651 : Cond.instanceMethod yX3_turnedBits ∈ gw_tbl := List.mem_filter.mpr ⟨List.mem_of_getElem? (i := 651) (by decide +kernel), rfl⟩
theorem q652 : Cond.selects RX3 yX3_turnedBits yX3_turnedBits ∈ gw_tbl := List.mem_filter.mpr ⟨List.mem_of_getElem? (i := 652) (by decide +kernel), rfl⟩
theorem q653 : Cond.code yX3_turnedBits cX3_turnedBits 3 (some .int) ∈ gw_tbl := List.mem_filter.mpr ⟨List.mem_of_getElem? (i := 653) (by decide +kernel), rfl⟩
theorem q654 : Cond.methodLink RX3 34 yJ6_bitCount_0f7a4 ∈ gw_tbl := List.mem_filter.mpr ⟨List.mem_of_getElem? (i := 654) (by decide +kernel), rfl⟩
theorem q655 : Cond.classLink RL 10 RX7 ∈ gw_tbl := List.mem_filter.mpr ⟨List.mem_of_getElem? (i := 655) (by decide +kernel), rfl⟩
theorem q656 : Cond.instantiable RX7 22 ∈ gw_tbl := List.mem_filter.mpr ⟨List.mem_of_getElem? (i := 656) (by decide +kernel), rfl⟩
theorem q657 : Cond.methodLink RL 12 yX7_init ∈ gw_tbl := List.mem_filter.mpr ⟨List.mem_of_getElem? (i := 657) (by decide +kernel), rfl⟩
theorem q658 : Cond.instanceMethod yX7_init ∈ gw_tbl := List.mem_filter.mpr ⟨List.mem_of_getElem? (i := 658) (by decide +kernel), rfl⟩
theorem q659 : Cond.code yX7_init cX7_init 1 none ∈ gw_tbl := List.mem_filter.mpr ⟨List.mem_of_getElem? (i := 659) (by decide +kernel), rfl⟩
theorem q660 : Cond.methodLink RX7 1 Lib.objectInit ∈ gw_tbl := List.mem_filter.mpr ⟨List.mem_of_getElem? (i := 660) (by decide +kernel), rfl⟩
theorem q661 : Cond.methodLink RX7 53 yX7_begins ∈ gw_tbl := List.mem_filter.mpr ⟨List.mem_of_getElem? (i := 661) (by decide +kernel), rfl⟩
theorem q663 : Cond.instanceMethod yX7_begins ∈ gw_tbl := List.mem_filter.mpr ⟨List.mem_of_getElem? (i := 663) (by decide +kernel), rfl⟩
theorem q664 : Cond.code yX7_begins cX7_begins 1 none ∈ gw_tbl := List.mem_filter.mpr ⟨List.mem_of_getElem? (i := 664) (by decide +kernel), rfl⟩
theorem q665 : Cond.methodLink RX7 56 yX7_finds ∈ gw_tbl := List.mem_filter.mpr ⟨List.mem_of_getElem? (i := 665) (by decide +kernel), rfl⟩
theorem q667 : Cond.instanceMethod yX7_finds ∈ gw_tbl := List.mem_filter.mpr ⟨List.mem_of_getElem? (i := 667) (by decide +kernel), rfl⟩
theorem q668 : Cond.code yX7_finds cX7_finds 7 none ∈ gw_tbl := List.mem_filter.mpr ⟨List.mem_of_getElem? (i := 668) (by decide +kernel), rfl⟩
theorem q669 : Cond.methodLink RX7 95 yX7_layArcs ∈ gw_tbl := List.mem_filter.mpr ⟨List.mem_of_getElem? (i := 669) (by decide +kernel), rfl⟩
theorem q671 : Cond.instanceMethod yX7_layArcs ∈ gw_tbl := List.mem_filter.mpr ⟨List.mem_of_getElem? (i := 671) (by decide +kernel), rfl⟩
theorem q672 : Cond.code yX7_layArcs cX7_layArcs 5 none ∈ gw_tbl := List.mem_filter.mpr ⟨List.mem_of_getElem? (i := 672) (by decide +kernel), rfl⟩
theorem q673 : Cond.methodLink RX7 82 yX7_states ∈ gw_tbl := List.mem_filter.mpr ⟨List.mem_of_getElem? (i := 673) (by decide +kernel), rfl⟩
theorem q675 : Cond.instanceMethod yX7_states ∈ gw_tbl := List.mem_filter.mpr ⟨List.mem_of_getElem? (i := 675) (by decide +kernel), rfl⟩
theorem q676 : Cond.code yX7_states cX7_states 1 (some .int) ∈ gw_tbl := List.mem_filter.mpr ⟨List.mem_of_getElem? (i := 676) (by decide +kernel), rfl⟩
theorem q677 : Cond.methodLink RX7 78 yX7_words ∈ gw_tbl := List.mem_filter.mpr ⟨List.mem_of_getElem? (i := 677) (by decide +kernel), rfl⟩
theorem q679 : Cond.instanceMethod yX7_words ∈ gw_tbl := List.mem_filter.mpr ⟨List.mem_of_getElem? (i := 679) (by decide +kernel), rfl⟩
theorem q680 : Cond.code yX7_words cX7_words 1 (some .int) ∈ gw_tbl := List.mem_filter.mpr ⟨List.mem_of_getElem? (i := 680) (by decide +kernel), rfl⟩
theorem q681 : Cond.methodLink RX7 85 yX7_stepOf ∈ gw_tbl := List.mem_filter.mpr ⟨List.mem_of_getElem? (i := 681) (by decide +kernel), rfl⟩
theorem q683 : Cond.instanceMethod yX7_stepOf ∈ gw_tbl := List.mem_filter.mpr ⟨List.mem_of_getElem? (i := 683) (by decide +kernel), rfl⟩
theorem q684 : Cond.code yX7_stepOf cX7_stepOf 4 (some .int) ∈ gw_tbl := List.mem_filter.mpr ⟨List.mem_of_getElem? (i := 684) (by decide +kernel), rfl⟩
theorem q685 : Cond.methodLink RX7 70 yX7_in ∈ gw_tbl := List.mem_filter.mpr ⟨List.mem_of_getElem? (i := 685) (by decide +kernel), rfl⟩
theorem q686 : Cond.static yX7_in ∈ gw_tbl := List.mem_filter.mpr ⟨List.mem_of_getElem? (i := 686) (by decide +kernel), rfl⟩
theorem q687 : Cond.code yX7_in cX7_in 6 (some .boolean) ∈ gw_tbl := List.mem_filter.mpr ⟨List.mem_of_getElem? (i := 687) (by decide +kernel), rfl⟩
theorem q688 : Cond.methodLink RX7 74 yX7_border ∈ gw_tbl := List.mem_filter.mpr ⟨List.mem_of_getElem? (i := 688) (by decide +kernel), rfl⟩
theorem q690 : Cond.instanceMethod yX7_border ∈ gw_tbl := List.mem_filter.mpr ⟨List.mem_of_getElem? (i := 690) (by decide +kernel), rfl⟩
theorem q691 : Cond.code yX7_border cX7_border 7 (some .int) ∈ gw_tbl := List.mem_filter.mpr ⟨List.mem_of_getElem? (i := 691) (by decide +kernel), rfl⟩
theorem q692 : Cond.methodLink RX7 66 yX7_banned ∈ gw_tbl := List.mem_filter.mpr ⟨List.mem_of_getElem? (i := 692) (by decide +kernel), rfl⟩
theorem q694 : Cond.instanceMethod yX7_banned ∈ gw_tbl := List.mem_filter.mpr ⟨List.mem_of_getElem? (i := 694) (by decide +kernel), rfl⟩
theorem q695 : Cond.code yX7_banned cX7_banned 2 (some .int) ∈ gw_tbl := List.mem_filter.mpr ⟨List.mem_of_getElem? (i := 695) (by decide +kernel), rfl⟩
theorem q696 : Cond.methodLink RX7 98 yX7_goodArcs ∈ gw_tbl := List.mem_filter.mpr ⟨List.mem_of_getElem? (i := 696) (by decide +kernel), rfl⟩
theorem q698 : Cond.instanceMethod yX7_goodArcs ∈ gw_tbl := List.mem_filter.mpr ⟨List.mem_of_getElem? (i := 698) (by decide +kernel), rfl⟩
theorem q699 : Cond.code yX7_goodArcs cX7_goodArcs 5 (some .int) ∈ gw_tbl := List.mem_filter.mpr ⟨List.mem_of_getElem? (i := 699) (by decide +kernel), rfl⟩
theorem q700 : Cond.methodLink RX7 89 yX7_lead ∈ gw_tbl := List.mem_filter.mpr ⟨List.mem_of_getElem? (i := 700) (by decide +kernel), rfl⟩
theorem q702 : Cond.instanceMethod yX7_lead ∈ gw_tbl := List.mem_filter.mpr ⟨List.mem_of_getElem? (i := 702) (by decide +kernel), rfl⟩
theorem q703 : Cond.code yX7_lead cX7_lead 3 (some .int) ∈ gw_tbl := List.mem_filter.mpr ⟨List.mem_of_getElem? (i := 703) (by decide +kernel), rfl⟩
theorem q704 : Cond.fieldLink RX7 7 "BannedRowsModel" "all" "[I" ∈ gw_tbl := List.mem_filter.mpr ⟨List.mem_of_getElem? (i := 704) (by decide +kernel), rfl⟩
theorem q705 : Cond.fieldLink RX7 13 "BannedRowsModel" "past" "[I" ∈ gw_tbl := List.mem_filter.mpr ⟨List.mem_of_getElem? (i := 705) (by decide +kernel), rfl⟩
theorem q706 : Cond.fieldLink RX7 63 "BannedRowsModel" "undone" "I" ∈ gw_tbl := List.mem_filter.mpr ⟨List.mem_of_getElem? (i := 706) (by decide +kernel), rfl⟩
theorem q707 : Cond.fieldLink RX7 16 "BannedRowsModel" "images" "[I" ∈ gw_tbl := List.mem_filter.mpr ⟨List.mem_of_getElem? (i := 707) (by decide +kernel), rfl⟩
theorem q708 : Cond.fieldLink RX7 19 "BannedRowsModel" "kept" "[Z" ∈ gw_tbl := List.mem_filter.mpr ⟨List.mem_of_getElem? (i := 708) (by decide +kernel), rfl⟩
theorem q709 : Cond.fieldLink RX7 23 "BannedRowsModel" "seen" "[I" ∈ gw_tbl := List.mem_filter.mpr ⟨List.mem_of_getElem? (i := 709) (by decide +kernel), rfl⟩
theorem q710 : Cond.fieldLink RX7 143 "BannedRowsModel" "seenMany" "I" ∈ gw_tbl := List.mem_filter.mpr ⟨List.mem_of_getElem? (i := 710) (by decide +kernel), rfl⟩
theorem q711 : Cond.fieldLink RX7 26 "BannedRowsModel" "text" "[I" ∈ gw_tbl := List.mem_filter.mpr ⟨List.mem_of_getElem? (i := 711) (by decide +kernel), rfl⟩
theorem q712 : Cond.fieldLink RX7 103 "BannedRowsModel" "textLong" "I" ∈ gw_tbl := List.mem_filter.mpr ⟨List.mem_of_getElem? (i := 712) (by decide +kernel), rfl⟩
theorem q713 : Cond.fieldLink RX7 29 "BannedRowsModel" "leads" "[I" ∈ gw_tbl := List.mem_filter.mpr ⟨List.mem_of_getElem? (i := 713) (by decide +kernel), rfl⟩
theorem q714 : Cond.fieldLink RX7 32 "BannedRowsModel" "tags" "[I" ∈ gw_tbl := List.mem_filter.mpr ⟨List.mem_of_getElem? (i := 714) (by decide +kernel), rfl⟩
theorem q715 : Cond.fieldLink RX7 92 "BannedRowsModel" "good" "I" ∈ gw_tbl := List.mem_filter.mpr ⟨List.mem_of_getElem? (i := 715) (by decide +kernel), rfl⟩
theorem q716 : Cond.fieldLink RX7 59 "BannedRowsModel" "begin" "I" ∈ gw_tbl := List.mem_filter.mpr ⟨List.mem_of_getElem? (i := 716) (by decide +kernel), rfl⟩
theorem q717 : Cond.fieldLink RX7 106 "BannedRowsModel" "spot" "I" ∈ gw_tbl := List.mem_filter.mpr ⟨List.mem_of_getElem? (i := 717) (by decide +kernel), rfl⟩
theorem q718 : Cond.fieldLink RX7 120 "BannedRowsModel" "taken" "I" ∈ gw_tbl := List.mem_filter.mpr ⟨List.mem_of_getElem? (i := 718) (by decide +kernel), rfl⟩
theorem q719 : Cond.fieldLink RX7 35 "BannedRowsModel" "next" "[I" ∈ gw_tbl := List.mem_filter.mpr ⟨List.mem_of_getElem? (i := 719) (by decide +kernel), rfl⟩
theorem q720 : Cond.fieldLink RX7 38 "BannedRowsModel" "weights" "[I" ∈ gw_tbl := List.mem_filter.mpr ⟨List.mem_of_getElem? (i := 720) (by decide +kernel), rfl⟩
theorem q721 : Cond.fieldLink RX7 41 "BannedRowsModel" "lighter" "[I" ∈ gw_tbl := List.mem_filter.mpr ⟨List.mem_of_getElem? (i := 721) (by decide +kernel), rfl⟩
theorem q722 : Cond.fieldLink RX7 44 "BannedRowsModel" "ways" "[I" ∈ gw_tbl := List.mem_filter.mpr ⟨List.mem_of_getElem? (i := 722) (by decide +kernel), rfl⟩
theorem q723 : Cond.fieldLink RX7 47 "BannedRowsModel" "nextWays" "[I" ∈ gw_tbl := List.mem_filter.mpr ⟨List.mem_of_getElem? (i := 723) (by decide +kernel), rfl⟩
theorem q724 : Cond.fieldLink RX7 50 "BannedRowsModel" "alike" "[Z" ∈ gw_tbl := List.mem_filter.mpr ⟨List.mem_of_getElem? (i := 724) (by decide +kernel), rfl⟩
theorem q770 : Cond.methodLink RL 17 yX7_type ∈ gw_tbl := List.mem_filter.mpr ⟨List.mem_of_getElem? (i := 770) (by decide +kernel), rfl⟩
theorem q771 : Cond.instanceMethod yX7_type ∈ gw_tbl := List.mem_filter.mpr ⟨List.mem_of_getElem? (i := 771) (by decide +kernel), rfl⟩
theorem q772 : Cond.selects RX7 yX7_type yX7_type ∈ gw_tbl := List.mem_filter.mpr ⟨List.mem_of_getElem? (i := 772) (by decide +kernel), rfl⟩
theorem q773 : Cond.code yX7_type cX7_type 2 (some .int) ∈ gw_tbl := List.mem_filter.mpr ⟨List.mem_of_getElem? (i := 773) (by decide +kernel), rfl⟩
theorem q774 : Cond.constantLong RX7 101 (Int64.ofInt (255)) ∈ gw_tbl := List.mem_filter.mpr ⟨List.mem_of_getElem? (i := 774) (by decide +kernel), rfl⟩
theorem q775 : Cond.methodLink RL 22 yX7_clear ∈ gw_tbl := List.mem_filter.mpr ⟨List.mem_of_getElem? (i := 775) (by decide +kernel), rfl⟩
theorem q776 : Cond.instanceMethod yX7_clear ∈ gw_tbl := List.mem_filter.mpr ⟨List.mem_of_getElem? (i := 776) (by decide +kernel), rfl⟩
theorem q777 : Cond.selects RX7 yX7_clear yX7_clear ∈ gw_tbl := List.mem_filter.mpr ⟨List.mem_of_getElem? (i := 777) (by decide +kernel), rfl⟩
theorem q778 : Cond.code yX7_clear cX7_clear 2 (some .int) ∈ gw_tbl := List.mem_filter.mpr ⟨List.mem_of_getElem? (i := 778) (by decide +kernel), rfl⟩
theorem q779 : Cond.methodLink RL 26 yX7_tells ∈ gw_tbl := List.mem_filter.mpr ⟨List.mem_of_getElem? (i := 779) (by decide +kernel), rfl⟩
theorem q780 : Cond.instanceMethod yX7_tells ∈ gw_tbl := List.mem_filter.mpr ⟨List.mem_of_getElem? (i := 780) (by decide +kernel), rfl⟩
theorem q781 : Cond.selects RX7 yX7_tells yX7_tells ∈ gw_tbl := List.mem_filter.mpr ⟨List.mem_of_getElem? (i := 781) (by decide +kernel), rfl⟩
theorem q782 : Cond.code yX7_tells cX7_tells 2 (some .int) ∈ gw_tbl := List.mem_filter.mpr ⟨List.mem_of_getElem? (i := 782) (by decide +kernel), rfl⟩
theorem q783 : Cond.methodLink RX7 137 yX7_takesAll ∈ gw_tbl := List.mem_filter.mpr ⟨List.mem_of_getElem? (i := 783) (by decide +kernel), rfl⟩
theorem q785 : Cond.instanceMethod yX7_takesAll ∈ gw_tbl := List.mem_filter.mpr ⟨List.mem_of_getElem? (i := 785) (by decide +kernel), rfl⟩
theorem q786 : Cond.code yX7_takesAll cX7_takesAll 3 (some .boolean) ∈ gw_tbl := List.mem_filter.mpr ⟨List.mem_of_getElem? (i := 786) (by decide +kernel), rfl⟩
theorem q787 : Cond.methodLink RX7 134 yX7_takesBan ∈ gw_tbl := List.mem_filter.mpr ⟨List.mem_of_getElem? (i := 787) (by decide +kernel), rfl⟩
theorem q789 : Cond.instanceMethod yX7_takesBan ∈ gw_tbl := List.mem_filter.mpr ⟨List.mem_of_getElem? (i := 789) (by decide +kernel), rfl⟩
theorem q790 : Cond.code yX7_takesBan cX7_takesBan 1 (some .boolean) ∈ gw_tbl := List.mem_filter.mpr ⟨List.mem_of_getElem? (i := 790) (by decide +kernel), rfl⟩
theorem q791 : Cond.methodLink RX7 123 yX7_takes ∈ gw_tbl := List.mem_filter.mpr ⟨List.mem_of_getElem? (i := 791) (by decide +kernel), rfl⟩
theorem q793 : Cond.instanceMethod yX7_takes ∈ gw_tbl := List.mem_filter.mpr ⟨List.mem_of_getElem? (i := 793) (by decide +kernel), rfl⟩
theorem q794 : Cond.code yX7_takes cX7_takes 2 (some .boolean) ∈ gw_tbl := List.mem_filter.mpr ⟨List.mem_of_getElem? (i := 794) (by decide +kernel), rfl⟩
theorem q795 : Cond.methodLink RX7 113 yX7_here ∈ gw_tbl := List.mem_filter.mpr ⟨List.mem_of_getElem? (i := 795) (by decide +kernel), rfl⟩
theorem q797 : Cond.instanceMethod yX7_here ∈ gw_tbl := List.mem_filter.mpr ⟨List.mem_of_getElem? (i := 797) (by decide +kernel), rfl⟩
theorem q798 : Cond.code yX7_here cX7_here 1 (some .int) ∈ gw_tbl := List.mem_filter.mpr ⟨List.mem_of_getElem? (i := 798) (by decide +kernel), rfl⟩
theorem q799 : Cond.methodLink RX7 126 yX7_takesNumber ∈ gw_tbl := List.mem_filter.mpr ⟨List.mem_of_getElem? (i := 799) (by decide +kernel), rfl⟩
theorem q801 : Cond.instanceMethod yX7_takesNumber ∈ gw_tbl := List.mem_filter.mpr ⟨List.mem_of_getElem? (i := 801) (by decide +kernel), rfl⟩
theorem q802 : Cond.code yX7_takesNumber cX7_takesNumber 4 (some .boolean) ∈ gw_tbl := List.mem_filter.mpr ⟨List.mem_of_getElem? (i := 802) (by decide +kernel), rfl⟩
theorem q803 : Cond.methodLink RX7 116 yX7_isFigure ∈ gw_tbl := List.mem_filter.mpr ⟨List.mem_of_getElem? (i := 803) (by decide +kernel), rfl⟩
theorem q805 : Cond.instanceMethod yX7_isFigure ∈ gw_tbl := List.mem_filter.mpr ⟨List.mem_of_getElem? (i := 805) (by decide +kernel), rfl⟩
theorem q806 : Cond.code yX7_isFigure cX7_isFigure 2 (some .boolean) ∈ gw_tbl := List.mem_filter.mpr ⟨List.mem_of_getElem? (i := 806) (by decide +kernel), rfl⟩
theorem q807 : Cond.constantLong RX7 109 (Int64.ofInt (48)) ∈ gw_tbl := List.mem_filter.mpr ⟨List.mem_of_getElem? (i := 807) (by decide +kernel), rfl⟩
theorem q808 : Cond.constantLong RX7 111 (Int64.ofInt (57)) ∈ gw_tbl := List.mem_filter.mpr ⟨List.mem_of_getElem? (i := 808) (by decide +kernel), rfl⟩
theorem q809 : Cond.methodLink RX7 130 yX7_takesBits ∈ gw_tbl := List.mem_filter.mpr ⟨List.mem_of_getElem? (i := 809) (by decide +kernel), rfl⟩
theorem q811 : Cond.instanceMethod yX7_takesBits ∈ gw_tbl := List.mem_filter.mpr ⟨List.mem_of_getElem? (i := 811) (by decide +kernel), rfl⟩
theorem q812 : Cond.code yX7_takesBits cX7_takesBits 5 (some .boolean) ∈ gw_tbl := List.mem_filter.mpr ⟨List.mem_of_getElem? (i := 812) (by decide +kernel), rfl⟩
theorem q813 : Cond.methodLink RX7 140 yX7_keepPast ∈ gw_tbl := List.mem_filter.mpr ⟨List.mem_of_getElem? (i := 813) (by decide +kernel), rfl⟩
theorem q815 : Cond.instanceMethod yX7_keepPast ∈ gw_tbl := List.mem_filter.mpr ⟨List.mem_of_getElem? (i := 815) (by decide +kernel), rfl⟩
theorem q816 : Cond.code yX7_keepPast cX7_keepPast 2 none ∈ gw_tbl := List.mem_filter.mpr ⟨List.mem_of_getElem? (i := 816) (by decide +kernel), rfl⟩
theorem q817 : Cond.methodLink RL 30 yX7_sends ∈ gw_tbl := List.mem_filter.mpr ⟨List.mem_of_getElem? (i := 817) (by decide +kernel), rfl⟩
theorem q818 : Cond.instanceMethod yX7_sends ∈ gw_tbl := List.mem_filter.mpr ⟨List.mem_of_getElem? (i := 818) (by decide +kernel), rfl⟩
theorem q819 : Cond.selects RX7 yX7_sends yX7_sends ∈ gw_tbl := List.mem_filter.mpr ⟨List.mem_of_getElem? (i := 819) (by decide +kernel), rfl⟩
theorem q820 : Cond.code yX7_sends cX7_sends 4 (some .int) ∈ gw_tbl := List.mem_filter.mpr ⟨List.mem_of_getElem? (i := 820) (by decide +kernel), rfl⟩
theorem q821 : Cond.methodLink RX7 146 yX7_wordFor ∈ gw_tbl := List.mem_filter.mpr ⟨List.mem_of_getElem? (i := 821) (by decide +kernel), rfl⟩
theorem q823 : Cond.instanceMethod yX7_wordFor ∈ gw_tbl := List.mem_filter.mpr ⟨List.mem_of_getElem? (i := 823) (by decide +kernel), rfl⟩
theorem q824 : Cond.code yX7_wordFor cX7_wordFor 5 (some .int) ∈ gw_tbl := List.mem_filter.mpr ⟨List.mem_of_getElem? (i := 824) (by decide +kernel), rfl⟩
theorem q825 : Cond.methodLink RX7 149 yX7_tag ∈ gw_tbl := List.mem_filter.mpr ⟨List.mem_of_getElem? (i := 825) (by decide +kernel), rfl⟩
theorem q827 : Cond.instanceMethod yX7_tag ∈ gw_tbl := List.mem_filter.mpr ⟨List.mem_of_getElem? (i := 827) (by decide +kernel), rfl⟩
theorem q828 : Cond.code yX7_tag cX7_tag 3 (some .int) ∈ gw_tbl := List.mem_filter.mpr ⟨List.mem_of_getElem? (i := 828) (by decide +kernel), rfl⟩
theorem q829 : Cond.methodLink RL 34 yX7_flips ∈ gw_tbl := List.mem_filter.mpr ⟨List.mem_of_getElem? (i := 829) (by decide +kernel), rfl⟩
theorem q830 : Cond.instanceMethod yX7_flips ∈ gw_tbl := List.mem_filter.mpr ⟨List.mem_of_getElem? (i := 830) (by decide +kernel), rfl⟩
theorem q831 : Cond.selects RX7 yX7_flips yX7_flips ∈ gw_tbl := List.mem_filter.mpr ⟨List.mem_of_getElem? (i := 831) (by decide +kernel), rfl⟩
theorem q832 : Cond.code yX7_flips cX7_flips 4 (some .int) ∈ gw_tbl := List.mem_filter.mpr ⟨List.mem_of_getElem? (i := 832) (by decide +kernel), rfl⟩
theorem q833 : Cond.methodLink RL 38 yX7_undo ∈ gw_tbl := List.mem_filter.mpr ⟨List.mem_of_getElem? (i := 833) (by decide +kernel), rfl⟩
theorem q834 : Cond.instanceMethod yX7_undo ∈ gw_tbl := List.mem_filter.mpr ⟨List.mem_of_getElem? (i := 834) (by decide +kernel), rfl⟩
theorem q835 : Cond.selects RX7 yX7_undo yX7_undo ∈ gw_tbl := List.mem_filter.mpr ⟨List.mem_of_getElem? (i := 835) (by decide +kernel), rfl⟩
theorem q836 : Cond.code yX7_undo cX7_undo 2 (some .int) ∈ gw_tbl := List.mem_filter.mpr ⟨List.mem_of_getElem? (i := 836) (by decide +kernel), rfl⟩
theorem q837 : Cond.methodLink RL 43 yX7_step ∈ gw_tbl := List.mem_filter.mpr ⟨List.mem_of_getElem? (i := 837) (by decide +kernel), rfl⟩
theorem q838 : Cond.instanceMethod yX7_step ∈ gw_tbl := List.mem_filter.mpr ⟨List.mem_of_getElem? (i := 838) (by decide +kernel), rfl⟩
theorem q839 : Cond.selects RX7 yX7_step yX7_step ∈ gw_tbl := List.mem_filter.mpr ⟨List.mem_of_getElem? (i := 839) (by decide +kernel), rfl⟩
theorem q840 : Cond.code yX7_step cX7_step 3 (some .int) ∈ gw_tbl := List.mem_filter.mpr ⟨List.mem_of_getElem? (i := 840) (by decide +kernel), rfl⟩
theorem q841 : Cond.methodLink RX7 152 yX7_isState ∈ gw_tbl := List.mem_filter.mpr ⟨List.mem_of_getElem? (i := 841) (by decide +kernel), rfl⟩
theorem q843 : Cond.instanceMethod yX7_isState ∈ gw_tbl := List.mem_filter.mpr ⟨List.mem_of_getElem? (i := 843) (by decide +kernel), rfl⟩
theorem q844 : Cond.code yX7_isState cX7_isState 2 (some .boolean) ∈ gw_tbl := List.mem_filter.mpr ⟨List.mem_of_getElem? (i := 844) (by decide +kernel), rfl⟩
theorem q845 : Cond.methodLink RL 48 yX7_arc ∈ gw_tbl := List.mem_filter.mpr ⟨List.mem_of_getElem? (i := 845) (by decide +kernel), rfl⟩
theorem q846 : Cond.instanceMethod yX7_arc ∈ gw_tbl := List.mem_filter.mpr ⟨List.mem_of_getElem? (i := 846) (by decide +kernel), rfl⟩
theorem q847 : Cond.selects RX7 yX7_arc yX7_arc ∈ gw_tbl := List.mem_filter.mpr ⟨List.mem_of_getElem? (i := 847) (by decide +kernel), rfl⟩
theorem q848 : Cond.code yX7_arc cX7_arc 4 (some .int) ∈ gw_tbl := List.mem_filter.mpr ⟨List.mem_of_getElem? (i := 848) (by decide +kernel), rfl⟩
theorem q849 : Cond.methodLink RL 52 yX7_state ∈ gw_tbl := List.mem_filter.mpr ⟨List.mem_of_getElem? (i := 849) (by decide +kernel), rfl⟩
theorem q850 : Cond.instanceMethod yX7_state ∈ gw_tbl := List.mem_filter.mpr ⟨List.mem_of_getElem? (i := 850) (by decide +kernel), rfl⟩
theorem q851 : Cond.selects RX7 yX7_state yX7_state ∈ gw_tbl := List.mem_filter.mpr ⟨List.mem_of_getElem? (i := 851) (by decide +kernel), rfl⟩
theorem q852 : Cond.code yX7_state cX7_state 5 (some .int) ∈ gw_tbl := List.mem_filter.mpr ⟨List.mem_of_getElem? (i := 852) (by decide +kernel), rfl⟩
theorem q853 : Cond.methodLink RL 56 yX7_weight ∈ gw_tbl := List.mem_filter.mpr ⟨List.mem_of_getElem? (i := 853) (by decide +kernel), rfl⟩
theorem q854 : Cond.instanceMethod yX7_weight ∈ gw_tbl := List.mem_filter.mpr ⟨List.mem_of_getElem? (i := 854) (by decide +kernel), rfl⟩
theorem q855 : Cond.selects RX7 yX7_weight yX7_weight ∈ gw_tbl := List.mem_filter.mpr ⟨List.mem_of_getElem? (i := 855) (by decide +kernel), rfl⟩
theorem q856 : Cond.code yX7_weight cX7_weight 6 (some .int) ∈ gw_tbl := List.mem_filter.mpr ⟨List.mem_of_getElem? (i := 856) (by decide +kernel), rfl⟩
theorem q857 : Cond.constantLong RX7 155 (Int64.ofInt (9)) ∈ gw_tbl := List.mem_filter.mpr ⟨List.mem_of_getElem? (i := 857) (by decide +kernel), rfl⟩
theorem q858 : Cond.methodLink RX7 157 yX7_weighs ∈ gw_tbl := List.mem_filter.mpr ⟨List.mem_of_getElem? (i := 858) (by decide +kernel), rfl⟩
theorem q860 : Cond.instanceMethod yX7_weighs ∈ gw_tbl := List.mem_filter.mpr ⟨List.mem_of_getElem? (i := 860) (by decide +kernel), rfl⟩
theorem q861 : Cond.code yX7_weighs cX7_weighs 6 none ∈ gw_tbl := List.mem_filter.mpr ⟨List.mem_of_getElem? (i := 861) (by decide +kernel), rfl⟩
theorem q862 : Cond.methodLink RL 60 yX7_rows ∈ gw_tbl := List.mem_filter.mpr ⟨List.mem_of_getElem? (i := 862) (by decide +kernel), rfl⟩
theorem q863 : Cond.instanceMethod yX7_rows ∈ gw_tbl := List.mem_filter.mpr ⟨List.mem_of_getElem? (i := 863) (by decide +kernel), rfl⟩
theorem q864 : Cond.selects RX7 yX7_rows yX7_rows ∈ gw_tbl := List.mem_filter.mpr ⟨List.mem_of_getElem? (i := 864) (by decide +kernel), rfl⟩
theorem q865 : Cond.code yX7_rows cX7_rows 5 (some .int) ∈ gw_tbl := List.mem_filter.mpr ⟨List.mem_of_getElem? (i := 865) (by decide +kernel), rfl⟩
theorem q866 : Cond.constantLong RX7 161 (Int64.ofInt (20)) ∈ gw_tbl := List.mem_filter.mpr ⟨List.mem_of_getElem? (i := 866) (by decide +kernel), rfl⟩
theorem q867 : Cond.methodLink RX7 163 yX7_start ∈ gw_tbl := List.mem_filter.mpr ⟨List.mem_of_getElem? (i := 867) (by decide +kernel), rfl⟩
theorem q869 : Cond.instanceMethod yX7_start ∈ gw_tbl := List.mem_filter.mpr ⟨List.mem_of_getElem? (i := 869) (by decide +kernel), rfl⟩
theorem q870 : Cond.code yX7_start cX7_start 1 (some .int) ∈ gw_tbl := List.mem_filter.mpr ⟨List.mem_of_getElem? (i := 870) (by decide +kernel), rfl⟩
theorem q871 : Cond.methodLink RL 64 yX7_word ∈ gw_tbl := List.mem_filter.mpr ⟨List.mem_of_getElem? (i := 871) (by decide +kernel), rfl⟩
theorem q872 : Cond.instanceMethod yX7_word ∈ gw_tbl := List.mem_filter.mpr ⟨List.mem_of_getElem? (i := 872) (by decide +kernel), rfl⟩
theorem q873 : Cond.selects RX7 yX7_word yX7_word ∈ gw_tbl := List.mem_filter.mpr ⟨List.mem_of_getElem? (i := 873) (by decide +kernel), rfl⟩
theorem q874 : Cond.code yX7_word cX7_word 3 (some .int) ∈ gw_tbl := List.mem_filter.mpr ⟨List.mem_of_getElem? (i := 874) (by decide +kernel), rfl⟩
theorem q875 : Cond.constantLong RX7 179 (Int64.ofInt (3)) ∈ gw_tbl := List.mem_filter.mpr ⟨List.mem_of_getElem? (i := 875) (by decide +kernel), rfl⟩
theorem q876 : Cond.methodLink RX7 181 yX7_byStates ∈ gw_tbl := List.mem_filter.mpr ⟨List.mem_of_getElem? (i := 876) (by decide +kernel), rfl⟩
theorem q878 : Cond.instanceMethod yX7_byStates ∈ gw_tbl := List.mem_filter.mpr ⟨List.mem_of_getElem? (i := 878) (by decide +kernel), rfl⟩
theorem q879 : Cond.code yX7_byStates cX7_byStates 5 (some .int) ∈ gw_tbl := List.mem_filter.mpr ⟨List.mem_of_getElem? (i := 879) (by decide +kernel), rfl⟩
theorem q880 : Cond.methodLink RX7 184 yX7_byWindow ∈ gw_tbl := List.mem_filter.mpr ⟨List.mem_of_getElem? (i := 880) (by decide +kernel), rfl⟩
theorem q882 : Cond.instanceMethod yX7_byWindow ∈ gw_tbl := List.mem_filter.mpr ⟨List.mem_of_getElem? (i := 882) (by decide +kernel), rfl⟩
theorem q883 : Cond.code yX7_byWindow cX7_byWindow 7 (some .int) ∈ gw_tbl := List.mem_filter.mpr ⟨List.mem_of_getElem? (i := 883) (by decide +kernel), rfl⟩
theorem q884 : Cond.methodLink RX7 176 yX7_window ∈ gw_tbl := List.mem_filter.mpr ⟨List.mem_of_getElem? (i := 884) (by decide +kernel), rfl⟩
theorem q886 : Cond.instanceMethod yX7_window ∈ gw_tbl := List.mem_filter.mpr ⟨List.mem_of_getElem? (i := 886) (by decide +kernel), rfl⟩
theorem q887 : Cond.code yX7_window cX7_window 2 (some .int) ∈ gw_tbl := List.mem_filter.mpr ⟨List.mem_of_getElem? (i := 887) (by decide +kernel), rfl⟩
theorem q888 : Cond.methodLink RX7 170 yX7_layAlike ∈ gw_tbl := List.mem_filter.mpr ⟨List.mem_of_getElem? (i := 888) (by decide +kernel), rfl⟩
theorem q890 : Cond.instanceMethod yX7_layAlike ∈ gw_tbl := List.mem_filter.mpr ⟨List.mem_of_getElem? (i := 890) (by decide +kernel), rfl⟩
theorem q891 : Cond.code yX7_layAlike cX7_layAlike 7 none ∈ gw_tbl := List.mem_filter.mpr ⟨List.mem_of_getElem? (i := 891) (by decide +kernel), rfl⟩
theorem q892 : Cond.methodLink RX7 166 yX7_goOn ∈ gw_tbl := List.mem_filter.mpr ⟨List.mem_of_getElem? (i := 892) (by decide +kernel), rfl⟩
theorem q894 : Cond.instanceMethod yX7_goOn ∈ gw_tbl := List.mem_filter.mpr ⟨List.mem_of_getElem? (i := 894) (by decide +kernel), rfl⟩
theorem q895 : Cond.code yX7_goOn cX7_goOn 6 (some .boolean) ∈ gw_tbl := List.mem_filter.mpr ⟨List.mem_of_getElem? (i := 895) (by decide +kernel), rfl⟩
theorem q896 : Cond.methodLink RX7 173 yX7_isWide ∈ gw_tbl := List.mem_filter.mpr ⟨List.mem_of_getElem? (i := 896) (by decide +kernel), rfl⟩
theorem q898 : Cond.instanceMethod yX7_isWide ∈ gw_tbl := List.mem_filter.mpr ⟨List.mem_of_getElem? (i := 898) (by decide +kernel), rfl⟩
theorem q899 : Cond.code yX7_isWide cX7_isWide 5 (some .boolean) ∈ gw_tbl := List.mem_filter.mpr ⟨List.mem_of_getElem? (i := 899) (by decide +kernel), rfl⟩
theorem q900 : Cond.methodLink RL 68 yX7_wrong ∈ gw_tbl := List.mem_filter.mpr ⟨List.mem_of_getElem? (i := 900) (by decide +kernel), rfl⟩
theorem q901 : Cond.instanceMethod yX7_wrong ∈ gw_tbl := List.mem_filter.mpr ⟨List.mem_of_getElem? (i := 901) (by decide +kernel), rfl⟩
theorem q902 : Cond.selects RX7 yX7_wrong yX7_wrong ∈ gw_tbl := List.mem_filter.mpr ⟨List.mem_of_getElem? (i := 902) (by decide +kernel), rfl⟩
theorem q903 : Cond.code yX7_wrong cX7_wrong 4 (some .int) ∈ gw_tbl := List.mem_filter.mpr ⟨List.mem_of_getElem? (i := 903) (by decide +kernel), rfl⟩
theorem q904 : Cond.methodLink RL 72 yX7_sees ∈ gw_tbl := List.mem_filter.mpr ⟨List.mem_of_getElem? (i := 904) (by decide +kernel), rfl⟩
theorem q905 : Cond.instanceMethod yX7_sees ∈ gw_tbl := List.mem_filter.mpr ⟨List.mem_of_getElem? (i := 905) (by decide +kernel), rfl⟩
theorem q906 : Cond.selects RX7 yX7_sees yX7_sees ∈ gw_tbl := List.mem_filter.mpr ⟨List.mem_of_getElem? (i := 906) (by decide +kernel), rfl⟩
theorem q907 : Cond.code yX7_sees cX7_sees 2 (some .int) ∈ gw_tbl := List.mem_filter.mpr ⟨List.mem_of_getElem? (i := 907) (by decide +kernel), rfl⟩
theorem q908 : Cond.methodLink RL 76 yX7_forget ∈ gw_tbl := List.mem_filter.mpr ⟨List.mem_of_getElem? (i := 908) (by decide +kernel), rfl⟩
theorem q909 : Cond.instanceMethod yX7_forget ∈ gw_tbl := List.mem_filter.mpr ⟨List.mem_of_getElem? (i := 909) (by decide +kernel), rfl⟩
theorem q910 : Cond.selects RX7 yX7_forget yX7_forget ∈ gw_tbl := List.mem_filter.mpr ⟨List.mem_of_getElem? (i := 910) (by decide +kernel), rfl⟩
theorem q911 : Cond.code yX7_forget cX7_forget 2 (some .int) ∈ gw_tbl := List.mem_filter.mpr ⟨List.mem_of_getElem? (i := 911) (by decide +kernel), rfl⟩
theorem q912 : Cond.methodLink RL 80 yX7_which ∈ gw_tbl := List.mem_filter.mpr ⟨List.mem_of_getElem? (i := 912) (by decide +kernel), rfl⟩
theorem q913 : Cond.instanceMethod yX7_which ∈ gw_tbl := List.mem_filter.mpr ⟨List.mem_of_getElem? (i := 913) (by decide +kernel), rfl⟩
theorem q914 : Cond.selects RX7 yX7_which yX7_which ∈ gw_tbl := List.mem_filter.mpr ⟨List.mem_of_getElem? (i := 914) (by decide +kernel), rfl⟩
theorem q915 : Cond.code yX7_which cX7_which 2 (some .int) ∈ gw_tbl := List.mem_filter.mpr ⟨List.mem_of_getElem? (i := 915) (by decide +kernel), rfl⟩
theorem q916 : Cond.methodLink RX7 187 yX7_statesBySeen ∈ gw_tbl := List.mem_filter.mpr ⟨List.mem_of_getElem? (i := 916) (by decide +kernel), rfl⟩
theorem q918 : Cond.instanceMethod yX7_statesBySeen ∈ gw_tbl := List.mem_filter.mpr ⟨List.mem_of_getElem? (i := 918) (by decide +kernel), rfl⟩
theorem q919 : Cond.code yX7_statesBySeen cX7_statesBySeen 6 (some .int) ∈ gw_tbl := List.mem_filter.mpr ⟨List.mem_of_getElem? (i := 919) (by decide +kernel), rfl⟩
theorem q920 : Cond.methodLink RL 84 yX7_ask ∈ gw_tbl := List.mem_filter.mpr ⟨List.mem_of_getElem? (i := 920) (by decide +kernel), rfl⟩
theorem q921 : Cond.instanceMethod yX7_ask ∈ gw_tbl := List.mem_filter.mpr ⟨List.mem_of_getElem? (i := 921) (by decide +kernel), rfl⟩
theorem q922 : Cond.selects RX7 yX7_ask yX7_ask ∈ gw_tbl := List.mem_filter.mpr ⟨List.mem_of_getElem? (i := 922) (by decide +kernel), rfl⟩
theorem q923 : Cond.code yX7_ask cX7_ask 9 (some .int) ∈ gw_tbl := List.mem_filter.mpr ⟨List.mem_of_getElem? (i := 923) (by decide +kernel), rfl⟩
theorem q924 : Cond.methodLink RL 88 yX7_keep ∈ gw_tbl := List.mem_filter.mpr ⟨List.mem_of_getElem? (i := 924) (by decide +kernel), rfl⟩
theorem q925 : Cond.instanceMethod yX7_keep ∈ gw_tbl := List.mem_filter.mpr ⟨List.mem_of_getElem? (i := 925) (by decide +kernel), rfl⟩
theorem q926 : Cond.selects RX7 yX7_keep yX7_keep ∈ gw_tbl := List.mem_filter.mpr ⟨List.mem_of_getElem? (i := 926) (by decide +kernel), rfl⟩
theorem q927 : Cond.code yX7_keep cX7_keep 3 (some .int) ∈ gw_tbl := List.mem_filter.mpr ⟨List.mem_of_getElem? (i := 927) (by decide +kernel), rfl⟩
theorem q928 : Cond.methodLink RL 92 yX7_back ∈ gw_tbl := List.mem_filter.mpr ⟨List.mem_of_getElem? (i := 928) (by decide +kernel), rfl⟩
theorem q929 : Cond.instanceMethod yX7_back ∈ gw_tbl := List.mem_filter.mpr ⟨List.mem_of_getElem? (i := 929) (by decide +kernel), rfl⟩
theorem q930 : Cond.selects RX7 yX7_back yX7_back ∈ gw_tbl := List.mem_filter.mpr ⟨List.mem_of_getElem? (i := 930) (by decide +kernel), rfl⟩
theorem q931 : Cond.code yX7_back cX7_back 3 (some .int) ∈ gw_tbl := List.mem_filter.mpr ⟨List.mem_of_getElem? (i := 931) (by decide +kernel), rfl⟩
theorem q932 : Cond.methodLink RL 96 yX7_count ∈ gw_tbl := List.mem_filter.mpr ⟨List.mem_of_getElem? (i := 932) (by decide +kernel), rfl⟩
theorem q933 : Cond.instanceMethod yX7_count ∈ gw_tbl := List.mem_filter.mpr ⟨List.mem_of_getElem? (i := 933) (by decide +kernel), rfl⟩
theorem q934 : Cond.selects RX7 yX7_count yX7_count ∈ gw_tbl := List.mem_filter.mpr ⟨List.mem_of_getElem? (i := 934) (by decide +kernel), rfl⟩
theorem q935 : Cond.code yX7_count cX7_count 2 (some .int) ∈ gw_tbl := List.mem_filter.mpr ⟨List.mem_of_getElem? (i := 935) (by decide +kernel), rfl⟩
theorem q936 : Cond.constantLong RX7 191 (Int64.ofInt (12)) ∈ gw_tbl := List.mem_filter.mpr ⟨List.mem_of_getElem? (i := 936) (by decide +kernel), rfl⟩
theorem q937 : Cond.methodLink RX7 193 yX7_otherBits ∈ gw_tbl := List.mem_filter.mpr ⟨List.mem_of_getElem? (i := 937) (by decide +kernel), rfl⟩
theorem q939 : Cond.instanceMethod yX7_otherBits ∈ gw_tbl := List.mem_filter.mpr ⟨List.mem_of_getElem? (i := 939) (by decide +kernel), rfl⟩
theorem q940 : Cond.code yX7_otherBits cX7_otherBits 4 (some .int) ∈ gw_tbl := List.mem_filter.mpr ⟨List.mem_of_getElem? (i := 940) (by decide +kernel), rfl⟩
def mX0_init : MD := (yX0_init, cX0_init, 1, none, { frames := 1, cells := 4, slots := 238, locals := 40 })
def mX0_build : MD := (yX0_build, cX0_build, 2, none, { frames := 5, cells := 0, slots := 0, locals := 116 })
def mX0_endOf : MD := (yX0_endOf, cX0_endOf, 3, (some .int), { frames := 0, cells := 0, slots := 0, locals := 0 })
def mX0_tagOf : MD := (yX0_tagOf, cX0_tagOf, 3, (some .int), { frames := 0, cells := 0, slots := 0, locals := 0 })
def mX0_isGood : MD := (yX0_isGood, cX0_isGood, 2, (some .boolean), { frames := 1, cells := 0, slots := 0, locals := 21 })
def mX0_arcsFrom : MD := (yX0_arcsFrom, cX0_arcsFrom, 4, (some .int), { frames := 1, cells := 0, slots := 0, locals := 22 })
def mX0_wordWith : MD := (yX0_wordWith, cX0_wordWith, 4, (some .int), { frames := 1, cells := 0, slots := 0, locals := 22 })
def mX0_follow : MD := (yX0_follow, cX0_follow, 7, (some .int), { frames := 1, cells := 0, slots := 0, locals := 22 })
def mX0_mostAlike : MD := (yX0_mostAlike, cX0_mostAlike, 5, (some .int), { frames := 3, cells := 0, slots := 0, locals := 70 })
def mX0_withWord : MD := (yX0_withWord, cX0_withWord, 6, (some .int), { frames := 2, cells := 0, slots := 0, locals := 45 })
def mX0_has : MD := (yX0_has, cX0_has, 2, (some .boolean), { frames := 0, cells := 0, slots := 0, locals := 0 })
def mX0_setEnds : MD := (yX0_setEnds, cX0_setEnds, 5, none, { frames := 4, cells := 0, slots := 0, locals := 92 })
def mX0_leadOver : MD := (yX0_leadOver, cX0_leadOver, 5, (some .int), { frames := 3, cells := 0, slots := 0, locals := 68 })
def mX0_setGood : MD := (yX0_setGood, cX0_setGood, 5, none, { frames := 2, cells := 0, slots := 0, locals := 45 })
def mX0_lowestGood : MD := (yX0_lowestGood, cX0_lowestGood, 2, (some .int), { frames := 1, cells := 0, slots := 0, locals := 21 })
def mX0_arcsToGood : MD := (yX0_arcsToGood, cX0_arcsToGood, 4, (some .int), { frames := 1, cells := 0, slots := 0, locals := 22 })
def mX0_setTags : MD := (yX0_setTags, cX0_setTags, 6, none, { frames := 1, cells := 0, slots := 0, locals := 22 })
def mX0_narrowestWindow : MD := (yX0_narrowestWindow, cX0_narrowestWindow, 2, (some .int), { frames := 3, cells := 0, slots := 0, locals := 70 })
def mX0_isDoubtful : MD := (yX0_isDoubtful, cX0_isDoubtful, 4, (some .boolean), { frames := 2, cells := 0, slots := 0, locals := 46 })
def mX0_goOnAlike : MD := (yX0_goOnAlike, cX0_goOnAlike, 5, (some .boolean), { frames := 1, cells := 0, slots := 0, locals := 22 })
def mX0_lengthenMates : MD := (yX0_lengthenMates, cX0_lengthenMates, 5, none, { frames := 2, cells := 0, slots := 0, locals := 46 })
def mX1_init : MD := (yX1_init, cX1_init, 1, none, { frames := 1, cells := 0, slots := 0, locals := 40 })
def mX1_setFirst : MD := (yX1_setFirst, cX1_setFirst, 1, none, { frames := 0, cells := 0, slots := 0, locals := 0 })
def mX1_copy : MD := (yX1_copy, cX1_copy, 2, none, { frames := 0, cells := 0, slots := 0, locals := 0 })
def mX1_tagCount : MD := (yX1_tagCount, cX1_tagCount, 1, (some .int), { frames := 0, cells := 0, slots := 0, locals := 0 })
def mX1_wordCount : MD := (yX1_wordCount, cX1_wordCount, 1, (some .int), { frames := 0, cells := 0, slots := 0, locals := 0 })
def mX1_stateCount : MD := (yX1_stateCount, cX1_stateCount, 1, (some .int), { frames := 0, cells := 0, slots := 0, locals := 0 })
def mX1_start : MD := (yX1_start, cX1_start, 1, (some .int), { frames := 0, cells := 0, slots := 0, locals := 0 })
def mX1_lead : MD := (yX1_lead, cX1_lead, 3, (some .int), { frames := 2, cells := 0, slots := 0, locals := 46 })
def mX1_leadOfRuns : MD := (yX1_leadOfRuns, cX1_leadOfRuns, 3, (some .int), { frames := 0, cells := 0, slots := 0, locals := 0 })
def mX1_leadOfCharge : MD := (yX1_leadOfCharge, cX1_leadOfCharge, 4, (some .int), { frames := 0, cells := 0, slots := 0, locals := 0 })
def mX1_leadOfWord : MD := (yX1_leadOfWord, cX1_leadOfWord, 6, (some .int), { frames := 1, cells := 0, slots := 0, locals := 21 })
def mX1_firstBits : MD := (yX1_firstBits, cX1_firstBits, 2, (some .int), { frames := 0, cells := 0, slots := 0, locals := 0 })
def mX2_init : MD := (yX2_init, cX2_init, 1, none, { frames := 2, cells := 5, slots := 82, locals := 60 })
def mX2_copy : MD := (yX2_copy, cX2_copy, 2, none, { frames := 2, cells := 0, slots := 0, locals := 61 })
def mX3_init : MD := (yX3_init, cX3_init, 1, none, { frames := 1, cells := 3, slots := 72, locals := 40 })
def mX3_empty : MD := (yX3_empty, cX3_empty, 2, none, { frames := 0, cells := 0, slots := 0, locals := 0 })
def mX3_copy : MD := (yX3_copy, cX3_copy, 2, none, { frames := 1, cells := 0, slots := 0, locals := 40 })
def mX3_append : MD := (yX3_append, cX3_append, 4, none, { frames := 0, cells := 0, slots := 0, locals := 0 })
def mX3_turn : MD := (yX3_turn, cX3_turn, 3, (some .int), { frames := 0, cells := 0, slots := 0, locals := 0 })
def mX3_wordAt : MD := (yX3_wordAt, cX3_wordAt, 2, (some .int), { frames := 0, cells := 0, slots := 0, locals := 0 })
def mX3_tagAt : MD := (yX3_tagAt, cX3_tagAt, 2, (some .int), { frames := 0, cells := 0, slots := 0, locals := 0 })
def mX3_turnedBits : MD := (yX3_turnedBits, cX3_turnedBits, 3, (some .int), { frames := 1, cells := 0, slots := 0, locals := 20 })
def mX4_init : MD := (yX4_init, cX4_init, 1, none, { frames := 1, cells := 2, slots := 14, locals := 40 })
def mX4_at : MD := (yX4_at, cX4_at, 2, (some .int), { frames := 0, cells := 0, slots := 0, locals := 0 })
def mX4_countRows : MD := (yX4_countRows, cX4_countRows, 5, (some .int), { frames := 4, cells := 0, slots := 0, locals := 92 })
def mX4_settle : MD := (yX4_settle, cX4_settle, 6, none, { frames := 3, cells := 0, slots := 0, locals := 70 })
def mX4_shareOf : MD := (yX4_shareOf, cX4_shareOf, 3, (some .int), { frames := 1, cells := 0, slots := 0, locals := 22 })
def mX4_setAll : MD := (yX4_setAll, cX4_setAll, 4, none, { frames := 0, cells := 0, slots := 0, locals := 0 })
def mX4_total : MD := (yX4_total, cX4_total, 3, (some .int), { frames := 0, cells := 0, slots := 0, locals := 0 })
def mX4_lengthenRows : MD := (yX4_lengthenRows, cX4_lengthenRows, 5, none, { frames := 3, cells := 0, slots := 0, locals := 68 })
def mX4_lessen : MD := (yX4_lessen, cX4_lessen, 5, (some .boolean), { frames := 2, cells := 0, slots := 0, locals := 46 })
def mX4_sumOver : MD := (yX4_sumOver, cX4_sumOver, 5, (some .int), { frames := 1, cells := 0, slots := 0, locals := 22 })
def mX5_init : MD := (yX5_init, cX5_init, 1, none, { frames := 1, cells := 1, slots := 60, locals := 40 })
def mX5_append : MD := (yX5_append, cX5_append, 2, none, { frames := 0, cells := 0, slots := 0, locals := 0 })
def mX5_readTo : MD := (yX5_readTo, cX5_readTo, 3, (some .int), { frames := 5, cells := 0, slots := 0, locals := 111 })
def mX5_letterAt : MD := (yX5_letterAt, cX5_letterAt, 2, (some .int), { frames := 0, cells := 0, slots := 0, locals := 0 })
def mX5_isFigure : MD := (yX5_isFigure, cX5_isFigure, 3, (some .boolean), { frames := 1, cells := 0, slots := 0, locals := 21 })
def mX5_isTokenStart : MD := (yX5_isTokenStart, cX5_isTokenStart, 2, (some .boolean), { frames := 2, cells := 0, slots := 0, locals := 43 })
def mX5_tokenLength : MD := (yX5_tokenLength, cX5_tokenLength, 3, (some .int), { frames := 2, cells := 0, slots := 0, locals := 43 })
def mX5_takes : MD := (yX5_takes, cX5_takes, 3, (some .boolean), { frames := 4, cells := 0, slots := 0, locals := 89 })
def mX5_takesSort : MD := (yX5_takesSort, cX5_takesSort, 3, (some .boolean), { frames := 0, cells := 0, slots := 0, locals := 0 })
def mX5_takesRate : MD := (yX5_takesRate, cX5_takesRate, 2, (some .boolean), { frames := 0, cells := 0, slots := 0, locals := 0 })
def mX5_figureAt : MD := (yX5_figureAt, cX5_figureAt, 5, (some .int), { frames := 3, cells := 0, slots := 0, locals := 65 })
def mX5_bitsAt : MD := (yX5_bitsAt, cX5_bitsAt, 6, (some .int), { frames := 1, cells := 0, slots := 0, locals := 21 })
def mX6_init : MD := (yX6_init, cX6_init, 2, none, { frames := 6, cells := 69, slots := 1104, locals := 137 })
def mX6_type : MD := (yX6_type, cX6_type, 2, (some .int), { frames := 1, cells := 0, slots := 0, locals := 21 })
def mX6_clear : MD := (yX6_clear, cX6_clear, 2, (some .int), { frames := 0, cells := 0, slots := 0, locals := 0 })
def mX6_tells : MD := (yX6_tells, cX6_tells, 3, (some .int), { frames := 6, cells := 0, slots := 0, locals := 137 })
def mX6_sends : MD := (yX6_sends, cX6_sends, 4, (some .int), { frames := 4, cells := 0, slots := 0, locals := 104 })
def mX6_flips : MD := (yX6_flips, cX6_flips, 3, (some .int), { frames := 4, cells := 0, slots := 0, locals := 104 })
def mX6_undo : MD := (yX6_undo, cX6_undo, 1, (some .int), { frames := 7, cells := 0, slots := 0, locals := 158 })
def mX6_step : MD := (yX6_step, cX6_step, 3, (some .int), { frames := 3, cells := 0, slots := 0, locals := 68 })
def mX6_arc : MD := (yX6_arc, cX6_arc, 4, (some .int), { frames := 2, cells := 0, slots := 0, locals := 41 })
def mX6_state : MD := (yX6_state, cX6_state, 3, (some .int), { frames := 2, cells := 0, slots := 0, locals := 45 })
def mX6_weight : MD := (yX6_weight, cX6_weight, 4, (some .int), { frames := 4, cells := 0, slots := 0, locals := 95 })
def mX6_rows : MD := (yX6_rows, cX6_rows, 2, (some .int), { frames := 5, cells := 0, slots := 0, locals := 116 })
def mX6_word : MD := (yX6_word, cX6_word, 3, (some .int), { frames := 3, cells := 0, slots := 0, locals := 71 })
def mX6_wrong : MD := (yX6_wrong, cX6_wrong, 5, (some .int), { frames := 3, cells := 0, slots := 0, locals := 71 })
def mX6_sees : MD := (yX6_sees, cX6_sees, 2, (some .int), { frames := 2, cells := 0, slots := 0, locals := 41 })
def mX6_forget : MD := (yX6_forget, cX6_forget, 2, (some .int), { frames := 0, cells := 0, slots := 0, locals := 0 })
def mX6_which : MD := (yX6_which, cX6_which, 2, (some .int), { frames := 4, cells := 0, slots := 0, locals := 92 })
def mX6_ask : MD := (yX6_ask, cX6_ask, 6, (some .int), { frames := 4, cells := 0, slots := 0, locals := 94 })
def mX6_keep : MD := (yX6_keep, cX6_keep, 3, (some .int), { frames := 3, cells := 0, slots := 0, locals := 82 })
def mX6_back : MD := (yX6_back, cX6_back, 2, (some .int), { frames := 7, cells := 0, slots := 0, locals := 158 })
def mX6_count : MD := (yX6_count, cX6_count, 2, (some .int), { frames := 2, cells := 0, slots := 0, locals := 42 })
def mX6_isNoState : MD := (yX6_isNoState, cX6_isNoState, 2, (some .boolean), { frames := 0, cells := 0, slots := 0, locals := 0 })
def mX6_isNoWord : MD := (yX6_isNoWord, cX6_isNoWord, 2, (some .boolean), { frames := 1, cells := 0, slots := 0, locals := 20 })
def mX6_isNoImage : MD := (yX6_isNoImage, cX6_isNoImage, 1, (some .boolean), { frames := 0, cells := 0, slots := 0, locals := 0 })
def mX6_remember : MD := (yX6_remember, cX6_remember, 3, none, { frames := 3, cells := 0, slots := 0, locals := 82 })
def mX6_become : MD := (yX6_become, cX6_become, 2, none, { frames := 6, cells := 0, slots := 0, locals := 137 })
def mX6_readByStates : MD := (yX6_readByStates, cX6_readByStates, 6, (some .int), { frames := 1, cells := 0, slots := 0, locals := 22 })
def mX6_readByWindow : MD := (yX6_readByWindow, cX6_readByWindow, 4, (some .int), { frames := 2, cells := 0, slots := 0, locals := 48 })
def mX6_origins : MD := (yX6_origins, cX6_origins, 3, (some .int), { frames := 3, cells := 0, slots := 0, locals := 69 })
def mX6_presentStates : MD := (yX6_presentStates, cX6_presentStates, 4, (some .int), { frames := 3, cells := 0, slots := 0, locals := 69 })
def mX6_endOfSeen : MD := (yX6_endOfSeen, cX6_endOfSeen, 2, (some .int), { frames := 2, cells := 0, slots := 0, locals := 48 })
def mX7_init : MD := (yX7_init, cX7_init, 1, none, { frames := 6, cells := 14, slots := 1232, locals := 140 })
def mX7_in : MD := (yX7_in, cX7_in, 6, (some .boolean), { frames := 0, cells := 0, slots := 0, locals := 0 })
def mX7_begins : MD := (yX7_begins, cX7_begins, 1, none, { frames := 5, cells := 0, slots := 0, locals := 120 })
def mX7_keepPast : MD := (yX7_keepPast, cX7_keepPast, 2, none, { frames := 0, cells := 0, slots := 0, locals := 0 })
def mX7_states : MD := (yX7_states, cX7_states, 1, (some .int), { frames := 0, cells := 0, slots := 0, locals := 0 })
def mX7_start : MD := (yX7_start, cX7_start, 1, (some .int), { frames := 0, cells := 0, slots := 0, locals := 0 })
def mX7_banned : MD := (yX7_banned, cX7_banned, 2, (some .int), { frames := 0, cells := 0, slots := 0, locals := 0 })
def mX7_border : MD := (yX7_border, cX7_border, 7, (some .int), { frames := 1, cells := 0, slots := 0, locals := 21 })
def mX7_stepOf : MD := (yX7_stepOf, cX7_stepOf, 4, (some .int), { frames := 2, cells := 0, slots := 0, locals := 47 })
def mX7_words : MD := (yX7_words, cX7_words, 1, (some .int), { frames := 0, cells := 0, slots := 0, locals := 0 })
def mX7_lead : MD := (yX7_lead, cX7_lead, 3, (some .int), { frames := 1, cells := 0, slots := 0, locals := 20 })
def mX7_tag : MD := (yX7_tag, cX7_tag, 3, (some .int), { frames := 1, cells := 0, slots := 0, locals := 20 })
def mX7_layArcs : MD := (yX7_layArcs, cX7_layArcs, 5, none, { frames := 3, cells := 0, slots := 0, locals := 70 })
def mX7_goodArcs : MD := (yX7_goodArcs, cX7_goodArcs, 5, (some .int), { frames := 2, cells := 0, slots := 0, locals := 42 })
def mX7_finds : MD := (yX7_finds, cX7_finds, 7, none, { frames := 4, cells := 0, slots := 0, locals := 94 })
def mX7_type : MD := (yX7_type, cX7_type, 2, (some .int), { frames := 1, cells := 0, slots := 0, locals := 25 })
def mX7_clear : MD := (yX7_clear, cX7_clear, 2, (some .int), { frames := 0, cells := 0, slots := 0, locals := 0 })
def mX7_here : MD := (yX7_here, cX7_here, 1, (some .int), { frames := 0, cells := 0, slots := 0, locals := 0 })
def mX7_isFigure : MD := (yX7_isFigure, cX7_isFigure, 2, (some .boolean), { frames := 1, cells := 0, slots := 0, locals := 25 })
def mX7_takes : MD := (yX7_takes, cX7_takes, 2, (some .boolean), { frames := 1, cells := 0, slots := 0, locals := 20 })
def mX7_takesNumber : MD := (yX7_takesNumber, cX7_takesNumber, 4, (some .boolean), { frames := 2, cells := 0, slots := 0, locals := 46 })
def mX7_takesBits : MD := (yX7_takesBits, cX7_takesBits, 5, (some .boolean), { frames := 2, cells := 0, slots := 0, locals := 46 })
def mX7_takesBan : MD := (yX7_takesBan, cX7_takesBan, 1, (some .boolean), { frames := 3, cells := 0, slots := 0, locals := 70 })
def mX7_takesAll : MD := (yX7_takesAll, cX7_takesAll, 3, (some .boolean), { frames := 4, cells := 0, slots := 0, locals := 90 })
def mX7_tells : MD := (yX7_tells, cX7_tells, 2, (some .int), { frames := 6, cells := 0, slots := 0, locals := 140 })
def mX7_sends : MD := (yX7_sends, cX7_sends, 4, (some .int), { frames := 5, cells := 0, slots := 0, locals := 120 })
def mX7_wordFor : MD := (yX7_wordFor, cX7_wordFor, 5, (some .int), { frames := 2, cells := 0, slots := 0, locals := 42 })
def mX7_flips : MD := (yX7_flips, cX7_flips, 4, (some .int), { frames := 1, cells := 0, slots := 0, locals := 25 })
def mX7_undo : MD := (yX7_undo, cX7_undo, 2, (some .int), { frames := 0, cells := 0, slots := 0, locals := 0 })
def mX7_isState : MD := (yX7_isState, cX7_isState, 2, (some .boolean), { frames := 1, cells := 0, slots := 0, locals := 25 })
def mX7_step : MD := (yX7_step, cX7_step, 3, (some .int), { frames := 3, cells := 0, slots := 0, locals := 70 })
def mX7_arc : MD := (yX7_arc, cX7_arc, 4, (some .int), { frames := 5, cells := 0, slots := 0, locals := 120 })
def mX7_state : MD := (yX7_state, cX7_state, 5, (some .int), { frames := 5, cells := 0, slots := 0, locals := 120 })
def mX7_weighs : MD := (yX7_weighs, cX7_weighs, 6, none, { frames := 2, cells := 0, slots := 0, locals := 42 })
def mX7_weight : MD := (yX7_weight, cX7_weight, 6, (some .int), { frames := 5, cells := 0, slots := 0, locals := 120 })
def mX7_rows : MD := (yX7_rows, cX7_rows, 5, (some .int), { frames := 3, cells := 0, slots := 0, locals := 70 })
def mX7_goOn : MD := (yX7_goOn, cX7_goOn, 6, (some .boolean), { frames := 2, cells := 0, slots := 0, locals := 42 })
def mX7_layAlike : MD := (yX7_layAlike, cX7_layAlike, 7, none, { frames := 3, cells := 0, slots := 0, locals := 67 })
def mX7_isWide : MD := (yX7_isWide, cX7_isWide, 5, (some .boolean), { frames := 3, cells := 0, slots := 0, locals := 67 })
def mX7_window : MD := (yX7_window, cX7_window, 2, (some .int), { frames := 4, cells := 0, slots := 0, locals := 93 })
def mX7_byStates : MD := (yX7_byStates, cX7_byStates, 5, (some .int), { frames := 2, cells := 0, slots := 0, locals := 42 })
def mX7_byWindow : MD := (yX7_byWindow, cX7_byWindow, 7, (some .int), { frames := 5, cells := 0, slots := 0, locals := 114 })
def mX7_word : MD := (yX7_word, cX7_word, 3, (some .int), { frames := 6, cells := 0, slots := 0, locals := 140 })
def mX7_wrong : MD := (yX7_wrong, cX7_wrong, 4, (some .int), { frames := 6, cells := 0, slots := 0, locals := 140 })
def mX7_sees : MD := (yX7_sees, cX7_sees, 2, (some .int), { frames := 1, cells := 0, slots := 0, locals := 25 })
def mX7_forget : MD := (yX7_forget, cX7_forget, 2, (some .int), { frames := 0, cells := 0, slots := 0, locals := 0 })
def mX7_statesBySeen : MD := (yX7_statesBySeen, cX7_statesBySeen, 6, (some .int), { frames := 2, cells := 0, slots := 0, locals := 42 })
def mX7_which : MD := (yX7_which, cX7_which, 2, (some .int), { frames := 5, cells := 0, slots := 0, locals := 120 })
def mX7_ask : MD := (yX7_ask, cX7_ask, 9, (some .int), { frames := 5, cells := 0, slots := 0, locals := 120 })
def mX7_keep : MD := (yX7_keep, cX7_keep, 3, (some .int), { frames := 1, cells := 0, slots := 0, locals := 25 })
def mX7_back : MD := (yX7_back, cX7_back, 3, (some .int), { frames := 1, cells := 0, slots := 0, locals := 25 })
def mX7_otherBits : MD := (yX7_otherBits, cX7_otherBits, 4, (some .int), { frames := 0, cells := 0, slots := 0, locals := 0 })
def mX7_count : MD := (yX7_count, cX7_count, 2, (some .int), { frames := 5, cells := 0, slots := 0, locals := 120 })
def mJ6_bitCount_0f7a4 : MD := (yJ6_bitCount_0f7a4, cJ6_bitCount_0f7a4, 1, (some .int), { frames := 0, cells := 0, slots := 0, locals := 0 })
def mL_law : MD := (yL_law, code, 4, (some .boolean), room_1)
theorem fX0_9 : FL RX0 9 0 4 := ⟨by decide, by decide, q203⟩
theorem fX0_15 : FL RX0 15 0 5 := ⟨by decide, by decide, q204⟩
theorem fX0_18 : FL RX0 18 0 6 := ⟨by decide, by decide, q205⟩
theorem fX0_21 : FL RX0 21 0 7 := ⟨by decide, by decide, q206⟩
theorem fX0_36 : FL RX0 36 0 0 := ⟨by decide, by decide, q194⟩
theorem fX0_57 : FL RX0 57 0 2 := ⟨by decide, by decide, q200⟩
theorem fX0_63 : FL RX0 63 0 3 := ⟨by decide, by decide, q201⟩
theorem fX0_66 : FL RX0 66 0 1 := ⟨by decide, by decide, q197⟩
theorem fX0_96 : FL RX0 96 1 4 := ⟨by decide, by decide, q134⟩
theorem fX1_14 : FL RX1 14 1 0 := ⟨by decide, by decide, q122⟩
theorem fX1_18 : FL RX1 18 1 1 := ⟨by decide, by decide, q124⟩
theorem fX1_21 : FL RX1 21 1 2 := ⟨by decide, by decide, q126⟩
theorem fX1_24 : FL RX1 24 1 3 := ⟨by decide, by decide, q128⟩
theorem fX1_27 : FL RX1 27 1 4 := ⟨by decide, by decide, q131⟩
theorem fX2_10 : FL RX2 10 2 0 := ⟨by decide, by decide, q179⟩
theorem fX2_19 : FL RX2 19 2 1 := ⟨by decide, by decide, q181⟩
theorem fX3_9 : FL RX3 9 3 0 := ⟨by decide, by decide, q160⟩
theorem fX3_15 : FL RX3 15 3 1 := ⟨by decide, by decide, q162⟩
theorem fX3_18 : FL RX3 18 3 2 := ⟨by decide, by decide, q163⟩
theorem fX3_21 : FL RX3 21 3 3 := ⟨by decide, by decide, q164⟩
theorem fX3_25 : FL RX3 25 3 4 := ⟨by decide, by decide, q166⟩
theorem fX4_9 : FL RX4 9 4 0 := ⟨by decide, by decide, q230⟩
theorem fX4_15 : FL RX4 15 4 1 := ⟨by decide, by decide, q231⟩
theorem fX4_35 : FL RX4 35 0 0 := ⟨by decide, by decide, q195⟩
theorem fX5_9 : FL RX5 9 5 0 := ⟨by decide, by decide, q94⟩
theorem fX5_15 : FL RX5 15 5 1 := ⟨by decide, by decide, q95⟩
theorem fX5_24 : FL RX5 24 5 2 := ⟨by decide, by decide, q97⟩
theorem fX5_27 : FL RX5 27 5 3 := ⟨by decide, by decide, q98⟩
theorem fX5_31 : FL RX5 31 5 4 := ⟨by decide, by decide, q99⟩
theorem fX5_56 : FL RX5 56 1 1 := ⟨by decide, by decide, q125⟩
theorem fX5_65 : FL RX5 65 1 2 := ⟨by decide, by decide, q127⟩
theorem fX5_74 : FL RX5 74 1 3 := ⟨by decide, by decide, q129⟩
theorem fX5_77 : FL RX5 77 1 4 := ⟨by decide, by decide, q133⟩
theorem fX5_83 : FL RX5 83 1 0 := ⟨by decide, by decide, q123⟩
theorem fX6_10 : FL RX6 10 6 0 := ⟨by decide, by decide, q334⟩
theorem fX6_19 : FL RX6 19 6 1 := ⟨by decide, by decide, q335⟩
theorem fX6_26 : FL RX6 26 6 2 := ⟨by decide, by decide, q336⟩
theorem fX6_33 : FL RX6 33 6 3 := ⟨by decide, by decide, q337⟩
theorem fX6_40 : FL RX6 40 6 4 := ⟨by decide, by decide, q338⟩
theorem fX6_44 : FL RX6 44 6 5 := ⟨by decide, by decide, q339⟩
theorem fX6_48 : FL RX6 48 6 7 := ⟨by decide, by decide, q341⟩
theorem fX6_51 : FL RX6 51 6 8 := ⟨by decide, by decide, q342⟩
theorem fX6_55 : FL RX6 55 6 9 := ⟨by decide, by decide, q343⟩
theorem fX6_59 : FL RX6 59 2 0 := ⟨by decide, by decide, q180⟩
theorem fX6_66 : FL RX6 66 2 1 := ⟨by decide, by decide, q182⟩
theorem fX6_70 : FL RX6 70 0 2 := ⟨by decide, by decide, q199⟩
theorem fX6_80 : FL RX6 80 5 1 := ⟨by decide, by decide, q96⟩
theorem fX6_96 : FL RX6 96 6 10 := ⟨by decide, by decide, q344⟩
theorem fX6_99 : FL RX6 99 0 0 := ⟨by decide, by decide, q196⟩
theorem fX6_106 : FL RX6 106 0 1 := ⟨by decide, by decide, q198⟩
theorem fX6_109 : FL RX6 109 3 3 := ⟨by decide, by decide, q165⟩
theorem fX6_110 : FL RX6 110 3 4 := ⟨by decide, by decide, q167⟩
theorem fX6_123 : FL RX6 123 1 4 := ⟨by decide, by decide, q132⟩
theorem fX6_129 : FL RX6 129 6 6 := ⟨by decide, by decide, q340⟩
theorem fX6_156 : FL RX6 156 1 3 := ⟨by decide, by decide, q130⟩
theorem fX6_207 : FL RX6 207 0 3 := ⟨by decide, by decide, q202⟩
theorem fX6_216 : FL RX6 216 3 0 := ⟨by decide, by decide, q161⟩
theorem fX7_7 : FL RX7 7 7 0 := ⟨by decide, by decide, q704⟩
theorem fX7_13 : FL RX7 13 7 1 := ⟨by decide, by decide, q705⟩
theorem fX7_16 : FL RX7 16 7 3 := ⟨by decide, by decide, q707⟩
theorem fX7_19 : FL RX7 19 7 4 := ⟨by decide, by decide, q708⟩
theorem fX7_23 : FL RX7 23 7 5 := ⟨by decide, by decide, q709⟩
theorem fX7_26 : FL RX7 26 7 7 := ⟨by decide, by decide, q711⟩
theorem fX7_29 : FL RX7 29 7 9 := ⟨by decide, by decide, q713⟩
theorem fX7_32 : FL RX7 32 7 10 := ⟨by decide, by decide, q714⟩
theorem fX7_35 : FL RX7 35 7 16 := ⟨by decide, by decide, q719⟩
theorem fX7_38 : FL RX7 38 7 17 := ⟨by decide, by decide, q720⟩
theorem fX7_41 : FL RX7 41 7 18 := ⟨by decide, by decide, q721⟩
theorem fX7_44 : FL RX7 44 7 19 := ⟨by decide, by decide, q722⟩
theorem fX7_47 : FL RX7 47 7 20 := ⟨by decide, by decide, q723⟩
theorem fX7_50 : FL RX7 50 7 21 := ⟨by decide, by decide, q724⟩
theorem fX7_59 : FL RX7 59 7 12 := ⟨by decide, by decide, q716⟩
theorem fX7_63 : FL RX7 63 7 2 := ⟨by decide, by decide, q706⟩
theorem fX7_92 : FL RX7 92 7 11 := ⟨by decide, by decide, q715⟩
theorem fX7_103 : FL RX7 103 7 8 := ⟨by decide, by decide, q712⟩
theorem fX7_106 : FL RX7 106 7 13 := ⟨by decide, by decide, q717⟩
theorem fX7_120 : FL RX7 120 7 15 := ⟨by decide, by decide, q718⟩
theorem fX7_143 : FL RX7 143 7 6 := ⟨by decide, by decide, q710⟩
theorem kX0_build_24 : CLV mX0_build 24 mX1_stateCount 0 := ⟨⟨q242, q71, q245, ⟨by decide, by decide, by decide +kernel⟩, ⟨Nat.le_of_ble_eq_true rfl, Nat.le_of_ble_eq_true rfl⟩⟩, q243, q244⟩
theorem kX0_build_40 : CLV mX0_build 40 mX0_setEnds 1 := ⟨⟨q249, q74, q252, ⟨by decide, by decide, by decide +kernel⟩, ⟨Nat.le_of_ble_eq_true rfl, Nat.le_of_ble_eq_true rfl⟩⟩, q251, q0⟩
theorem kX0_build_44 : CLV mX0_build 44 mX1_tagCount 0 := ⟨⟨q280, q71, q283, ⟨by decide, by decide, by decide +kernel⟩, ⟨Nat.le_of_ble_eq_true rfl, Nat.le_of_ble_eq_true rfl⟩⟩, q281, q282⟩
theorem kX0_build_47 : CLV mX0_build 47 mX0_setGood 1 := ⟨⟨q284, q74, q287, ⟨by decide, by decide, by decide +kernel⟩, ⟨Nat.le_of_ble_eq_true rfl, Nat.le_of_ble_eq_true rfl⟩⟩, q286, q5⟩
theorem kX0_build_51 : CLV mX0_build 51 mX0_setTags 1 := ⟨⟨q299, q74, q302, ⟨by decide, by decide, by decide +kernel⟩, ⟨Nat.le_of_ble_eq_true rfl, Nat.le_of_ble_eq_true rfl⟩⟩, q301, q7⟩
theorem kX0_build_54 : CLV mX0_build 54 mX0_lowestGood 0 := ⟨⟨q303, q74, q306, ⟨by decide, by decide, by decide +kernel⟩, ⟨Nat.le_of_ble_eq_true rfl, Nat.le_of_ble_eq_true rfl⟩⟩, q305, q8⟩
theorem kX0_build_60 : CLV mX0_build 60 mX0_narrowestWindow 0 := ⟨⟨q307, q74, q310, ⟨by decide, by decide, by decide +kernel⟩, ⟨Nat.le_of_ble_eq_true rfl, Nat.le_of_ble_eq_true rfl⟩⟩, q309, q9⟩
theorem kX0_isGood_69 : CLS mX0_isGood 69 mX0_has 2 := ⟨⟨q288, q74, q290, ⟨by decide, by decide, by decide +kernel⟩, ⟨Nat.le_of_ble_eq_true rfl, Nat.le_of_ble_eq_true rfl⟩⟩, q289⟩
theorem kX0_arcsFrom_73 : CLV mX0_arcsFrom 73 mX0_endOf 2 := ⟨⟨q295, q74, q298, ⟨by decide, by decide, by decide +kernel⟩, ⟨Nat.le_of_ble_eq_true rfl, Nat.le_of_ble_eq_true rfl⟩⟩, q296, q297⟩
theorem kX0_wordWith_76 : CLV mX0_wordWith 76 mX0_tagOf 2 := ⟨⟨q319, q74, q322, ⟨by decide, by decide, by decide +kernel⟩, ⟨Nat.le_of_ble_eq_true rfl, Nat.le_of_ble_eq_true rfl⟩⟩, q320, q321⟩
theorem kX0_follow_76 : CLV mX0_follow 76 mX0_tagOf 2 := ⟨⟨q319, q74, q322, ⟨by decide, by decide, by decide +kernel⟩, ⟨Nat.le_of_ble_eq_true rfl, Nat.le_of_ble_eq_true rfl⟩⟩, q320, q321⟩
theorem kX0_follow_73 : CLV mX0_follow 73 mX0_endOf 2 := ⟨⟨q295, q74, q298, ⟨by decide, by decide, by decide +kernel⟩, ⟨Nat.le_of_ble_eq_true rfl, Nat.le_of_ble_eq_true rfl⟩⟩, q296, q297⟩
theorem kX0_mostAlike_69 : CLS mX0_mostAlike 69 mX0_has 2 := ⟨⟨q288, q74, q290, ⟨by decide, by decide, by decide +kernel⟩, ⟨Nat.le_of_ble_eq_true rfl, Nat.le_of_ble_eq_true rfl⟩⟩, q289⟩
theorem kX0_mostAlike_79 : CLV mX0_mostAlike 79 mX0_wordWith 2 := ⟨⟨q628, q74, q455, ⟨by decide, by decide, by decide +kernel⟩, ⟨Nat.le_of_ble_eq_true rfl, Nat.le_of_ble_eq_true rfl⟩⟩, q453, q454⟩
theorem kX0_mostAlike_82 : CLV mX0_mostAlike 82 mX0_withWord 3 := ⟨⟨q629, q74, q632, ⟨by decide, by decide, by decide +kernel⟩, ⟨Nat.le_of_ble_eq_true rfl, Nat.le_of_ble_eq_true rfl⟩⟩, q631, q36⟩
theorem kX0_withWord_69 : CLS mX0_withWord 69 mX0_has 2 := ⟨⟨q288, q74, q290, ⟨by decide, by decide, by decide +kernel⟩, ⟨Nat.le_of_ble_eq_true rfl, Nat.le_of_ble_eq_true rfl⟩⟩, q289⟩
theorem kX0_withWord_79 : CLV mX0_withWord 79 mX0_wordWith 2 := ⟨⟨q628, q74, q455, ⟨by decide, by decide, by decide +kernel⟩, ⟨Nat.le_of_ble_eq_true rfl, Nat.le_of_ble_eq_true rfl⟩⟩, q453, q454⟩
theorem kX0_setEnds_89 : CLV mX0_setEnds 89 mX1_wordCount 0 := ⟨⟨q253, q71, q256, ⟨by decide, by decide, by decide +kernel⟩, ⟨Nat.le_of_ble_eq_true rfl, Nat.le_of_ble_eq_true rfl⟩⟩, q254, q255⟩
theorem kX0_setEnds_92 : CLS mX0_setEnds 92 mX0_leadOver 3 := ⟨⟨q257, q74, q259, ⟨by decide, by decide, by decide +kernel⟩, ⟨Nat.le_of_ble_eq_true rfl, Nat.le_of_ble_eq_true rfl⟩⟩, q258⟩
theorem kX0_leadOver_99 : CLV mX0_leadOver 99 mX1_lead 2 := ⟨⟨q260, q71, q263, ⟨by decide, by decide, by decide +kernel⟩, ⟨Nat.le_of_ble_eq_true rfl, Nat.le_of_ble_eq_true rfl⟩⟩, q261, q262⟩
theorem kX0_setGood_69 : CLS mX0_setGood 69 mX0_has 2 := ⟨⟨q288, q74, q290, ⟨by decide, by decide, by decide +kernel⟩, ⟨Nat.le_of_ble_eq_true rfl, Nat.le_of_ble_eq_true rfl⟩⟩, q289⟩
theorem kX0_setGood_102 : CLV mX0_setGood 102 mX0_arcsToGood 1 := ⟨⟨q291, q74, q294, ⟨by decide, by decide, by decide +kernel⟩, ⟨Nat.le_of_ble_eq_true rfl, Nat.le_of_ble_eq_true rfl⟩⟩, q293, q6⟩
theorem kX0_lowestGood_69 : CLS mX0_lowestGood 69 mX0_has 2 := ⟨⟨q288, q74, q290, ⟨by decide, by decide, by decide +kernel⟩, ⟨Nat.le_of_ble_eq_true rfl, Nat.le_of_ble_eq_true rfl⟩⟩, q289⟩
theorem kX0_arcsToGood_73 : CLV mX0_arcsToGood 73 mX0_endOf 2 := ⟨⟨q295, q74, q298, ⟨by decide, by decide, by decide +kernel⟩, ⟨Nat.le_of_ble_eq_true rfl, Nat.le_of_ble_eq_true rfl⟩⟩, q296, q297⟩
theorem kX0_arcsToGood_69 : CLS mX0_arcsToGood 69 mX0_has 2 := ⟨⟨q288, q74, q290, ⟨by decide, by decide, by decide +kernel⟩, ⟨Nat.le_of_ble_eq_true rfl, Nat.le_of_ble_eq_true rfl⟩⟩, q289⟩
theorem kX0_setTags_69 : CLS mX0_setTags 69 mX0_has 2 := ⟨⟨q288, q74, q290, ⟨by decide, by decide, by decide +kernel⟩, ⟨Nat.le_of_ble_eq_true rfl, Nat.le_of_ble_eq_true rfl⟩⟩, q289⟩
theorem kX0_setTags_73 : CLV mX0_setTags 73 mX0_endOf 2 := ⟨⟨q295, q74, q298, ⟨by decide, by decide, by decide +kernel⟩, ⟨Nat.le_of_ble_eq_true rfl, Nat.le_of_ble_eq_true rfl⟩⟩, q296, q297⟩
theorem kX0_narrowestWindow_106 : CLV mX0_narrowestWindow 106 mX0_isDoubtful 0 := ⟨⟨q311, q74, q314, ⟨by decide, by decide, by decide +kernel⟩, ⟨Nat.le_of_ble_eq_true rfl, Nat.le_of_ble_eq_true rfl⟩⟩, q313, q10⟩
theorem kX0_narrowestWindow_110 : CLV mX0_narrowestWindow 110 mX0_lengthenMates 0 := ⟨⟨q323, q74, q326, ⟨by decide, by decide, by decide +kernel⟩, ⟨Nat.le_of_ble_eq_true rfl, Nat.le_of_ble_eq_true rfl⟩⟩, q325, q12⟩
theorem kX0_isDoubtful_113 : CLV mX0_isDoubtful 113 mX0_goOnAlike 3 := ⟨⟨q315, q74, q318, ⟨by decide, by decide, by decide +kernel⟩, ⟨Nat.le_of_ble_eq_true rfl, Nat.le_of_ble_eq_true rfl⟩⟩, q317, q11⟩
theorem kX0_isDoubtful_76 : CLV mX0_isDoubtful 76 mX0_tagOf 2 := ⟨⟨q319, q74, q322, ⟨by decide, by decide, by decide +kernel⟩, ⟨Nat.le_of_ble_eq_true rfl, Nat.le_of_ble_eq_true rfl⟩⟩, q320, q321⟩
theorem kX0_goOnAlike_76 : CLV mX0_goOnAlike 76 mX0_tagOf 2 := ⟨⟨q319, q74, q322, ⟨by decide, by decide, by decide +kernel⟩, ⟨Nat.le_of_ble_eq_true rfl, Nat.le_of_ble_eq_true rfl⟩⟩, q320, q321⟩
theorem kX0_goOnAlike_73 : CLV mX0_goOnAlike 73 mX0_endOf 2 := ⟨⟨q295, q74, q298, ⟨by decide, by decide, by decide +kernel⟩, ⟨Nat.le_of_ble_eq_true rfl, Nat.le_of_ble_eq_true rfl⟩⟩, q296, q297⟩
theorem kX0_goOnAlike_69 : CLS mX0_goOnAlike 69 mX0_has 2 := ⟨⟨q288, q74, q290, ⟨by decide, by decide, by decide +kernel⟩, ⟨Nat.le_of_ble_eq_true rfl, Nat.le_of_ble_eq_true rfl⟩⟩, q289⟩
theorem kX0_lengthenMates_113 : CLV mX0_lengthenMates 113 mX0_goOnAlike 3 := ⟨⟨q315, q74, q318, ⟨by decide, by decide, by decide +kernel⟩, ⟨Nat.le_of_ble_eq_true rfl, Nat.le_of_ble_eq_true rfl⟩⟩, q317, q11⟩
theorem kX1_init_9 : CLV mX1_init 9 mX1_setFirst 0 := ⟨⟨q118, q71, q121, ⟨by decide, by decide, by decide +kernel⟩, ⟨Nat.le_of_ble_eq_true rfl, Nat.le_of_ble_eq_true rfl⟩⟩, q119, q120⟩
theorem kX1_lead_30 : CLV mX1_lead 30 mX1_leadOfRuns 2 := ⟨⟨q264, q71, q267, ⟨by decide, by decide, by decide +kernel⟩, ⟨Nat.le_of_ble_eq_true rfl, Nat.le_of_ble_eq_true rfl⟩⟩, q266, q1⟩
theorem kX1_lead_34 : CLV mX1_lead 34 mX1_leadOfCharge 2 := ⟨⟨q268, q71, q271, ⟨by decide, by decide, by decide +kernel⟩, ⟨Nat.le_of_ble_eq_true rfl, Nat.le_of_ble_eq_true rfl⟩⟩, q270, q2⟩
theorem kX1_lead_37 : CLV mX1_lead 37 mX1_leadOfWord 2 := ⟨⟨q272, q71, q275, ⟨by decide, by decide, by decide +kernel⟩, ⟨Nat.le_of_ble_eq_true rfl, Nat.le_of_ble_eq_true rfl⟩⟩, q274, q3⟩
theorem kX1_leadOfWord_40 : CLV mX1_leadOfWord 40 mX1_firstBits 1 := ⟨⟨q276, q71, q279, ⟨by decide, by decide, by decide +kernel⟩, ⟨Nat.le_of_ble_eq_true rfl, Nat.le_of_ble_eq_true rfl⟩⟩, q278, q4⟩
theorem kX2_init_9 : CLI mX2_init 9 mX1_init 0 := ⟨⟨q153, q71, q116, ⟨by decide, by decide, by decide +kernel⟩, ⟨Nat.le_of_ble_eq_true rfl, Nat.le_of_ble_eq_true rfl⟩⟩, q115, rfl⟩
theorem kX2_init_18 : CLI mX2_init 18 mX3_init 0 := ⟨⟨q156, q73, q158, ⟨by decide, by decide, by decide +kernel⟩, ⟨Nat.le_of_ble_eq_true rfl, Nat.le_of_ble_eq_true rfl⟩⟩, q157, rfl⟩
theorem kX2_copy_23 : CLV mX2_copy 23 mX1_copy 1 := ⟨⟨q437, q71, q440, ⟨by decide, by decide, by decide +kernel⟩, ⟨Nat.le_of_ble_eq_true rfl, Nat.le_of_ble_eq_true rfl⟩⟩, q438, q439⟩
theorem kX2_copy_27 : CLV mX2_copy 27 mX3_copy 1 := ⟨⟨q441, q73, q444, ⟨by decide, by decide, by decide +kernel⟩, ⟨Nat.le_of_ble_eq_true rfl, Nat.le_of_ble_eq_true rfl⟩⟩, q442, q443⟩
theorem kX3_turnedBits_34 : CLS mX3_turnedBits 34 mJ6_bitCount_0f7a4 1 := ⟨⟨q654, q79, q620, ⟨by decide, by decide, by decide +kernel⟩, ⟨Nat.le_of_ble_eq_true rfl, Nat.le_of_ble_eq_true rfl⟩⟩, q619⟩
theorem kX4_countRows_18 : CLV mX4_countRows 18 mX4_setAll 2 := ⟨⟨q516, q75, q519, ⟨by decide, by decide, by decide +kernel⟩, ⟨Nat.le_of_ble_eq_true rfl, Nat.le_of_ble_eq_true rfl⟩⟩, q518, q26⟩
theorem kX4_countRows_22 : CLV mX4_countRows 22 mX1_start 0 := ⟨⟨q552, q71, q555, ⟨by decide, by decide, by decide +kernel⟩, ⟨Nat.le_of_ble_eq_true rfl, Nat.le_of_ble_eq_true rfl⟩⟩, q553, q554⟩
theorem kX4_countRows_28 : CLV mX4_countRows 28 mX4_lengthenRows 1 := ⟨⟨q556, q75, q559, ⟨by decide, by decide, by decide +kernel⟩, ⟨Nat.le_of_ble_eq_true rfl, Nat.le_of_ble_eq_true rfl⟩⟩, q558, q30⟩
theorem kX4_countRows_32 : CLV mX4_countRows 32 mX4_total 0 := ⟨⟨q540, q75, q543, ⟨by decide, by decide, by decide +kernel⟩, ⟨Nat.le_of_ble_eq_true rfl, Nat.le_of_ble_eq_true rfl⟩⟩, q542, q29⟩
theorem kX4_settle_18 : CLV mX4_settle 18 mX4_setAll 2 := ⟨⟨q516, q75, q519, ⟨by decide, by decide, by decide +kernel⟩, ⟨Nat.le_of_ble_eq_true rfl, Nat.le_of_ble_eq_true rfl⟩⟩, q518, q26⟩
theorem kX4_settle_41 : CLV mX4_settle 41 mX4_lessen 2 := ⟨⟨q520, q75, q523, ⟨by decide, by decide, by decide +kernel⟩, ⟨Nat.le_of_ble_eq_true rfl, Nat.le_of_ble_eq_true rfl⟩⟩, q522, q27⟩
theorem kX4_shareOf_32 : CLV mX4_shareOf 32 mX4_total 0 := ⟨⟨q540, q75, q543, ⟨by decide, by decide, by decide +kernel⟩, ⟨Nat.le_of_ble_eq_true rfl, Nat.le_of_ble_eq_true rfl⟩⟩, q542, q29⟩
theorem kX4_shareOf_45 : CLV mX4_shareOf 45 mX4_at 1 := ⟨⟨q529, q75, q532, ⟨by decide, by decide, by decide +kernel⟩, ⟨Nat.le_of_ble_eq_true rfl, Nat.le_of_ble_eq_true rfl⟩⟩, q530, q531⟩
theorem kX4_lengthenRows_49 : CLV mX4_lengthenRows 49 mX1_stateCount 0 := ⟨⟨q560, q71, q245, ⟨by decide, by decide, by decide +kernel⟩, ⟨Nat.le_of_ble_eq_true rfl, Nat.le_of_ble_eq_true rfl⟩⟩, q243, q244⟩
theorem kX4_lengthenRows_52 : CLV mX4_lengthenRows 52 mX1_lead 2 := ⟨⟨q561, q71, q263, ⟨by decide, by decide, by decide +kernel⟩, ⟨Nat.le_of_ble_eq_true rfl, Nat.le_of_ble_eq_true rfl⟩⟩, q261, q262⟩
theorem kX4_lessen_62 : CLV mX4_lessen 62 mX4_sumOver 2 := ⟨⟨q524, q75, q527, ⟨by decide, by decide, by decide +kernel⟩, ⟨Nat.le_of_ble_eq_true rfl, Nat.le_of_ble_eq_true rfl⟩⟩, q526, q28⟩
theorem kX4_sumOver_71 : CLV mX4_sumOver 71 mX0_endOf 2 := ⟨⟨q528, q74, q298, ⟨by decide, by decide, by decide +kernel⟩, ⟨Nat.le_of_ble_eq_true rfl, Nat.le_of_ble_eq_true rfl⟩⟩, q296, q297⟩
theorem kX4_sumOver_45 : CLV mX4_sumOver 45 mX4_at 1 := ⟨⟨q529, q75, q532, ⟨by decide, by decide, by decide +kernel⟩, ⟨Nat.le_of_ble_eq_true rfl, Nat.le_of_ble_eq_true rfl⟩⟩, q530, q531⟩
theorem kX5_readTo_19 : CLV mX5_readTo 19 mX1_setFirst 0 := ⟨⟨q389, q71, q121, ⟨by decide, by decide, by decide +kernel⟩, ⟨Nat.le_of_ble_eq_true rfl, Nat.le_of_ble_eq_true rfl⟩⟩, q119, q120⟩
theorem kX5_readTo_34 : CLV mX5_readTo 34 mX5_isTokenStart 1 := ⟨⟨q390, q70, q393, ⟨by decide, by decide, by decide +kernel⟩, ⟨Nat.le_of_ble_eq_true rfl, Nat.le_of_ble_eq_true rfl⟩⟩, q392, q13⟩
theorem kX5_readTo_38 : CLV mX5_readTo 38 mX5_takes 2 := ⟨⟨q402, q70, q405, ⟨by decide, by decide, by decide +kernel⟩, ⟨Nat.le_of_ble_eq_true rfl, Nat.le_of_ble_eq_true rfl⟩⟩, q404, q16⟩
theorem kX5_isFigure_42 : CLV mX5_isFigure 42 mX5_letterAt 1 := ⟨⟨q394, q70, q397, ⟨by decide, by decide, by decide +kernel⟩, ⟨Nat.le_of_ble_eq_true rfl, Nat.le_of_ble_eq_true rfl⟩⟩, q396, q14⟩
theorem kX5_isTokenStart_42 : CLV mX5_isTokenStart 42 mX5_letterAt 1 := ⟨⟨q394, q70, q397, ⟨by decide, by decide, by decide +kernel⟩, ⟨Nat.le_of_ble_eq_true rfl, Nat.le_of_ble_eq_true rfl⟩⟩, q396, q14⟩
theorem kX5_isTokenStart_46 : CLV mX5_isTokenStart 46 mX5_isFigure 1 := ⟨⟨q398, q70, q401, ⟨by decide, by decide, by decide +kernel⟩, ⟨Nat.le_of_ble_eq_true rfl, Nat.le_of_ble_eq_true rfl⟩⟩, q400, q15⟩
theorem kX5_tokenLength_46 : CLV mX5_tokenLength 46 mX5_isFigure 1 := ⟨⟨q398, q70, q401, ⟨by decide, by decide, by decide +kernel⟩, ⟨Nat.le_of_ble_eq_true rfl, Nat.le_of_ble_eq_true rfl⟩⟩, q400, q15⟩
theorem kX5_takes_42 : CLV mX5_takes 42 mX5_letterAt 1 := ⟨⟨q394, q70, q397, ⟨by decide, by decide, by decide +kernel⟩, ⟨Nat.le_of_ble_eq_true rfl, Nat.le_of_ble_eq_true rfl⟩⟩, q396, q14⟩
theorem kX5_takes_49 : CLV mX5_takes 49 mX5_takesSort 2 := ⟨⟨q406, q70, q409, ⟨by decide, by decide, by decide +kernel⟩, ⟨Nat.le_of_ble_eq_true rfl, Nat.le_of_ble_eq_true rfl⟩⟩, q408, q17⟩
theorem kX5_takes_52 : CLV mX5_takes 52 mX5_figureAt 3 := ⟨⟨q410, q70, q413, ⟨by decide, by decide, by decide +kernel⟩, ⟨Nat.le_of_ble_eq_true rfl, Nat.le_of_ble_eq_true rfl⟩⟩, q412, q18⟩
theorem kX5_takes_68 : CLV mX5_takes 68 mX5_tokenLength 1 := ⟨⟨q414, q70, q417, ⟨by decide, by decide, by decide +kernel⟩, ⟨Nat.le_of_ble_eq_true rfl, Nat.le_of_ble_eq_true rfl⟩⟩, q416, q19⟩
theorem kX5_takes_71 : CLV mX5_takes 71 mX5_bitsAt 2 := ⟨⟨q421, q70, q424, ⟨by decide, by decide, by decide +kernel⟩, ⟨Nat.le_of_ble_eq_true rfl, Nat.le_of_ble_eq_true rfl⟩⟩, q423, q20⟩
theorem kX5_takes_80 : CLV mX5_takes 80 mX5_takesRate 1 := ⟨⟨q425, q70, q428, ⟨by decide, by decide, by decide +kernel⟩, ⟨Nat.le_of_ble_eq_true rfl, Nat.le_of_ble_eq_true rfl⟩⟩, q427, q21⟩
theorem kX5_figureAt_42 : CLV mX5_figureAt 42 mX5_letterAt 1 := ⟨⟨q394, q70, q397, ⟨by decide, by decide, by decide +kernel⟩, ⟨Nat.le_of_ble_eq_true rfl, Nat.le_of_ble_eq_true rfl⟩⟩, q396, q14⟩
theorem kX5_figureAt_68 : CLV mX5_figureAt 68 mX5_tokenLength 1 := ⟨⟨q414, q70, q417, ⟨by decide, by decide, by decide +kernel⟩, ⟨Nat.le_of_ble_eq_true rfl, Nat.le_of_ble_eq_true rfl⟩⟩, q416, q19⟩
theorem kX5_bitsAt_42 : CLV mX5_bitsAt 42 mX5_letterAt 1 := ⟨⟨q394, q70, q397, ⟨by decide, by decide, by decide +kernel⟩, ⟨Nat.le_of_ble_eq_true rfl, Nat.le_of_ble_eq_true rfl⟩⟩, q396, q14⟩
theorem kX6_init_9 : CLI mX6_init 9 mX5_init 0 := ⟨⟨q90, q70, q92, ⟨by decide, by decide, by decide +kernel⟩, ⟨Nat.le_of_ble_eq_true rfl, Nat.le_of_ble_eq_true rfl⟩⟩, q91, rfl⟩
theorem kX6_init_18 : CLI mX6_init 18 mX1_init 0 := ⟨⟨q114, q71, q116, ⟨by decide, by decide, by decide +kernel⟩, ⟨Nat.le_of_ble_eq_true rfl, Nat.le_of_ble_eq_true rfl⟩⟩, q115, rfl⟩
theorem kX6_init_25 : CLI mX6_init 25 mX2_init 0 := ⟨⟨q148, q72, q150, ⟨by decide, by decide, by decide +kernel⟩, ⟨Nat.le_of_ble_eq_true rfl, Nat.le_of_ble_eq_true rfl⟩⟩, q149, rfl⟩
theorem kX6_init_32 : CLI mX6_init 32 mX0_init 0 := ⟨⟨q190, q74, q192, ⟨by decide, by decide, by decide +kernel⟩, ⟨Nat.le_of_ble_eq_true rfl, Nat.le_of_ble_eq_true rfl⟩⟩, q191, rfl⟩
theorem kX6_init_39 : CLI mX6_init 39 mX4_init 0 := ⟨⟨q226, q75, q228, ⟨by decide, by decide, by decide +kernel⟩, ⟨Nat.le_of_ble_eq_true rfl, Nat.le_of_ble_eq_true rfl⟩⟩, q227, rfl⟩
theorem kX6_init_62 : CLV mX6_init 62 mX0_build 1 := ⟨⟨q238, q74, q241, ⟨by decide, by decide, by decide +kernel⟩, ⟨Nat.le_of_ble_eq_true rfl, Nat.le_of_ble_eq_true rfl⟩⟩, q239, q240⟩
theorem kX6_init_74 : CLV mX6_init 74 mX3_empty 1 := ⟨⟨q330, q73, q333, ⟨by decide, by decide, by decide +kernel⟩, ⟨Nat.le_of_ble_eq_true rfl, Nat.le_of_ble_eq_true rfl⟩⟩, q331, q332⟩
theorem kX6_type_83 : CLV mX6_type 83 mX5_append 1 := ⟨⟨q373, q70, q376, ⟨by decide, by decide, by decide +kernel⟩, ⟨Nat.le_of_ble_eq_true rfl, Nat.le_of_ble_eq_true rfl⟩⟩, q374, q375⟩
theorem kX6_tells_86 : CLV mX6_tells 86 mX5_readTo 1 := ⟨⟨q385, q70, q388, ⟨by decide, by decide, by decide +kernel⟩, ⟨Nat.le_of_ble_eq_true rfl, Nat.le_of_ble_eq_true rfl⟩⟩, q386, q387⟩
theorem kX6_tells_90 : CLV mX6_tells 90 mX6_remember 0 := ⟨⟨q429, q69, q432, ⟨by decide, by decide, by decide +kernel⟩, ⟨Nat.le_of_ble_eq_true rfl, Nat.le_of_ble_eq_true rfl⟩⟩, q431, q22⟩
theorem kX6_tells_93 : CLV mX6_tells 93 mX1_copy 1 := ⟨⟨q446, q71, q440, ⟨by decide, by decide, by decide +kernel⟩, ⟨Nat.le_of_ble_eq_true rfl, Nat.le_of_ble_eq_true rfl⟩⟩, q438, q439⟩
theorem kX6_tells_62 : CLV mX6_tells 62 mX0_build 1 := ⟨⟨q238, q74, q241, ⟨by decide, by decide, by decide +kernel⟩, ⟨Nat.le_of_ble_eq_true rfl, Nat.le_of_ble_eq_true rfl⟩⟩, q239, q240⟩
theorem kX6_tells_74 : CLV mX6_tells 74 mX3_empty 1 := ⟨⟨q330, q73, q333, ⟨by decide, by decide, by decide +kernel⟩, ⟨Nat.le_of_ble_eq_true rfl, Nat.le_of_ble_eq_true rfl⟩⟩, q331, q332⟩
theorem kX6_sends_102 : CLV mX6_sends 102 mX1_tagCount 0 := ⟨⟨q451, q71, q283, ⟨by decide, by decide, by decide +kernel⟩, ⟨Nat.le_of_ble_eq_true rfl, Nat.le_of_ble_eq_true rfl⟩⟩, q281, q282⟩
theorem kX6_sends_90 : CLV mX6_sends 90 mX6_remember 0 := ⟨⟨q429, q69, q432, ⟨by decide, by decide, by decide +kernel⟩, ⟨Nat.le_of_ble_eq_true rfl, Nat.le_of_ble_eq_true rfl⟩⟩, q431, q22⟩
theorem kX6_sends_113 : CLV mX6_sends 113 mX0_wordWith 2 := ⟨⟨q452, q74, q455, ⟨by decide, by decide, by decide +kernel⟩, ⟨Nat.le_of_ble_eq_true rfl, Nat.le_of_ble_eq_true rfl⟩⟩, q453, q454⟩
theorem kX6_sends_117 : CLV mX6_sends 117 mX0_endOf 2 := ⟨⟨q456, q74, q298, ⟨by decide, by decide, by decide +kernel⟩, ⟨Nat.le_of_ble_eq_true rfl, Nat.le_of_ble_eq_true rfl⟩⟩, q296, q297⟩
theorem kX6_sends_120 : CLV mX6_sends 120 mX3_append 3 := ⟨⟨q457, q73, q460, ⟨by decide, by decide, by decide +kernel⟩, ⟨Nat.le_of_ble_eq_true rfl, Nat.le_of_ble_eq_true rfl⟩⟩, q458, q459⟩
theorem kX6_flips_90 : CLV mX6_flips 90 mX6_remember 0 := ⟨⟨q429, q69, q432, ⟨by decide, by decide, by decide +kernel⟩, ⟨Nat.le_of_ble_eq_true rfl, Nat.le_of_ble_eq_true rfl⟩⟩, q431, q22⟩
theorem kX6_flips_126 : CLV mX6_flips 126 mX3_turn 2 := ⟨⟨q465, q73, q468, ⟨by decide, by decide, by decide +kernel⟩, ⟨Nat.le_of_ble_eq_true rfl, Nat.le_of_ble_eq_true rfl⟩⟩, q466, q467⟩
theorem kX6_undo_132 : CLV mX6_undo 132 mX6_become 1 := ⟨⟨q473, q69, q476, ⟨by decide, by decide, by decide +kernel⟩, ⟨Nat.le_of_ble_eq_true rfl, Nat.le_of_ble_eq_true rfl⟩⟩, q475, q23⟩
theorem kX6_step_136 : CLV mX6_step 136 mX6_isNoState 1 := ⟨⟨q481, q69, q484, ⟨by decide, by decide, by decide +kernel⟩, ⟨Nat.le_of_ble_eq_true rfl, Nat.le_of_ble_eq_true rfl⟩⟩, q483, q24⟩
theorem kX6_step_140 : CLV mX6_step 140 mX1_lead 2 := ⟨⟨q485, q71, q263, ⟨by decide, by decide, by decide +kernel⟩, ⟨Nat.le_of_ble_eq_true rfl, Nat.le_of_ble_eq_true rfl⟩⟩, q261, q262⟩
theorem kX6_arc_136 : CLV mX6_arc 136 mX6_isNoState 1 := ⟨⟨q481, q69, q484, ⟨by decide, by decide, by decide +kernel⟩, ⟨Nat.le_of_ble_eq_true rfl, Nat.le_of_ble_eq_true rfl⟩⟩, q483, q24⟩
theorem kX6_arc_143 : CLV mX6_arc 143 mX6_isNoWord 1 := ⟨⟨q490, q69, q493, ⟨by decide, by decide, by decide +kernel⟩, ⟨Nat.le_of_ble_eq_true rfl, Nat.le_of_ble_eq_true rfl⟩⟩, q492, q25⟩
theorem kX6_arc_117 : CLV mX6_arc 117 mX0_endOf 2 := ⟨⟨q456, q74, q298, ⟨by decide, by decide, by decide +kernel⟩, ⟨Nat.le_of_ble_eq_true rfl, Nat.le_of_ble_eq_true rfl⟩⟩, q296, q297⟩
theorem kX6_arc_146 : CLV mX6_arc 146 mX0_tagOf 2 := ⟨⟨q495, q74, q322, ⟨by decide, by decide, by decide +kernel⟩, ⟨Nat.le_of_ble_eq_true rfl, Nat.le_of_ble_eq_true rfl⟩⟩, q320, q321⟩
theorem kX6_state_136 : CLV mX6_state 136 mX6_isNoState 1 := ⟨⟨q481, q69, q484, ⟨by decide, by decide, by decide +kernel⟩, ⟨Nat.le_of_ble_eq_true rfl, Nat.le_of_ble_eq_true rfl⟩⟩, q483, q24⟩
theorem kX6_state_149 : CLV mX6_state 149 mX0_arcsFrom 1 := ⟨⟨q500, q74, q503, ⟨by decide, by decide, by decide +kernel⟩, ⟨Nat.le_of_ble_eq_true rfl, Nat.le_of_ble_eq_true rfl⟩⟩, q501, q502⟩
theorem kX6_state_153 : CLV mX6_state 153 mX0_isGood 1 := ⟨⟨q504, q74, q507, ⟨by decide, by decide, by decide +kernel⟩, ⟨Nat.le_of_ble_eq_true rfl, Nat.le_of_ble_eq_true rfl⟩⟩, q505, q506⟩
theorem kX6_weight_136 : CLV mX6_weight 136 mX6_isNoState 1 := ⟨⟨q481, q69, q484, ⟨by decide, by decide, by decide +kernel⟩, ⟨Nat.le_of_ble_eq_true rfl, Nat.le_of_ble_eq_true rfl⟩⟩, q483, q24⟩
theorem kX6_weight_159 : CLV mX6_weight 159 mX4_settle 3 := ⟨⟨q512, q75, q515, ⟨by decide, by decide, by decide +kernel⟩, ⟨Nat.le_of_ble_eq_true rfl, Nat.le_of_ble_eq_true rfl⟩⟩, q513, q514⟩
theorem kX6_weight_163 : CLV mX6_weight 163 mX4_at 1 := ⟨⟨q535, q75, q532, ⟨by decide, by decide, by decide +kernel⟩, ⟨Nat.le_of_ble_eq_true rfl, Nat.le_of_ble_eq_true rfl⟩⟩, q530, q531⟩
theorem kX6_weight_166 : CLV mX6_weight 166 mX4_shareOf 1 := ⟨⟨q536, q75, q539, ⟨by decide, by decide, by decide +kernel⟩, ⟨Nat.le_of_ble_eq_true rfl, Nat.le_of_ble_eq_true rfl⟩⟩, q537, q538⟩
theorem kX6_rows_169 : CLV mX6_rows 169 mX4_countRows 2 := ⟨⟨q548, q75, q551, ⟨by decide, by decide, by decide +kernel⟩, ⟨Nat.le_of_ble_eq_true rfl, Nat.le_of_ble_eq_true rfl⟩⟩, q549, q550⟩
theorem kX6_word_173 : CLV mX6_word 173 mX3_wordAt 1 := ⟨⟨q566, q73, q569, ⟨by decide, by decide, by decide +kernel⟩, ⟨Nat.le_of_ble_eq_true rfl, Nat.le_of_ble_eq_true rfl⟩⟩, q567, q568⟩
theorem kX6_word_176 : CLV mX6_word 176 mX3_tagAt 1 := ⟨⟨q570, q73, q573, ⟨by decide, by decide, by decide +kernel⟩, ⟨Nat.le_of_ble_eq_true rfl, Nat.le_of_ble_eq_true rfl⟩⟩, q571, q572⟩
theorem kX6_word_179 : CLV mX6_word 179 mX6_readByStates 1 := ⟨⟨q574, q69, q577, ⟨by decide, by decide, by decide +kernel⟩, ⟨Nat.le_of_ble_eq_true rfl, Nat.le_of_ble_eq_true rfl⟩⟩, q576, q31⟩
theorem kX6_word_182 : CLV mX6_word 182 mX6_readByWindow 1 := ⟨⟨q578, q69, q581, ⟨by decide, by decide, by decide +kernel⟩, ⟨Nat.le_of_ble_eq_true rfl, Nat.le_of_ble_eq_true rfl⟩⟩, q580, q32⟩
theorem kX6_wrong_179 : CLV mX6_wrong 179 mX6_readByStates 1 := ⟨⟨q574, q69, q577, ⟨by decide, by decide, by decide +kernel⟩, ⟨Nat.le_of_ble_eq_true rfl, Nat.le_of_ble_eq_true rfl⟩⟩, q576, q31⟩
theorem kX6_wrong_182 : CLV mX6_wrong 182 mX6_readByWindow 1 := ⟨⟨q578, q69, q581, ⟨by decide, by decide, by decide +kernel⟩, ⟨Nat.le_of_ble_eq_true rfl, Nat.le_of_ble_eq_true rfl⟩⟩, q580, q32⟩
theorem kX6_wrong_176 : CLV mX6_wrong 176 mX3_tagAt 1 := ⟨⟨q570, q73, q573, ⟨by decide, by decide, by decide +kernel⟩, ⟨Nat.le_of_ble_eq_true rfl, Nat.le_of_ble_eq_true rfl⟩⟩, q571, q572⟩
theorem kX6_sees_143 : CLV mX6_sees 143 mX6_isNoWord 1 := ⟨⟨q490, q69, q493, ⟨by decide, by decide, by decide +kernel⟩, ⟨Nat.le_of_ble_eq_true rfl, Nat.le_of_ble_eq_true rfl⟩⟩, q492, q25⟩
theorem kX6_which_185 : CLV mX6_which 185 mX6_origins 0 := ⟨⟨q602, q69, q605, ⟨by decide, by decide, by decide +kernel⟩, ⟨Nat.le_of_ble_eq_true rfl, Nat.le_of_ble_eq_true rfl⟩⟩, q604, q33⟩
theorem kX6_which_188 : CLV mX6_which 188 mX6_presentStates 0 := ⟨⟨q610, q69, q613, ⟨by decide, by decide, by decide +kernel⟩, ⟨Nat.le_of_ble_eq_true rfl, Nat.le_of_ble_eq_true rfl⟩⟩, q612, q35⟩
theorem kX6_ask_188 : CLV mX6_ask 188 mX6_presentStates 0 := ⟨⟨q610, q69, q613, ⟨by decide, by decide, by decide +kernel⟩, ⟨Nat.le_of_ble_eq_true rfl, Nat.le_of_ble_eq_true rfl⟩⟩, q612, q35⟩
theorem kX6_ask_191 : CLS mX6_ask 191 mJ6_bitCount_0f7a4 1 := ⟨⟨q618, q79, q620, ⟨by decide, by decide, by decide +kernel⟩, ⟨Nat.le_of_ble_eq_true rfl, Nat.le_of_ble_eq_true rfl⟩⟩, q619⟩
theorem kX6_ask_102 : CLV mX6_ask 102 mX1_tagCount 0 := ⟨⟨q451, q71, q283, ⟨by decide, by decide, by decide +kernel⟩, ⟨Nat.le_of_ble_eq_true rfl, Nat.le_of_ble_eq_true rfl⟩⟩, q281, q282⟩
theorem kX6_ask_196 : CLV mX6_ask 196 mX0_mostAlike 2 := ⟨⟨q624, q74, q627, ⟨by decide, by decide, by decide +kernel⟩, ⟨Nat.le_of_ble_eq_true rfl, Nat.le_of_ble_eq_true rfl⟩⟩, q625, q626⟩
theorem kX6_keep_199 : CLS mX6_keep 199 mX6_isNoImage 1 := ⟨⟨q638, q69, q640, ⟨by decide, by decide, by decide +kernel⟩, ⟨Nat.le_of_ble_eq_true rfl, Nat.le_of_ble_eq_true rfl⟩⟩, q639⟩
theorem kX6_keep_202 : CLV mX6_keep 202 mX2_copy 1 := ⟨⟨q433, q72, q436, ⟨by decide, by decide, by decide +kernel⟩, ⟨Nat.le_of_ble_eq_true rfl, Nat.le_of_ble_eq_true rfl⟩⟩, q434, q435⟩
theorem kX6_back_199 : CLS mX6_back 199 mX6_isNoImage 1 := ⟨⟨q638, q69, q640, ⟨by decide, by decide, by decide +kernel⟩, ⟨Nat.le_of_ble_eq_true rfl, Nat.le_of_ble_eq_true rfl⟩⟩, q639⟩
theorem kX6_back_132 : CLV mX6_back 132 mX6_become 1 := ⟨⟨q473, q69, q476, ⟨by decide, by decide, by decide +kernel⟩, ⟨Nat.le_of_ble_eq_true rfl, Nat.le_of_ble_eq_true rfl⟩⟩, q475, q23⟩
theorem kX6_count_204 : CLV mX6_count 204 mX1_start 0 := ⟨⟨q649, q71, q555, ⟨by decide, by decide, by decide +kernel⟩, ⟨Nat.le_of_ble_eq_true rfl, Nat.le_of_ble_eq_true rfl⟩⟩, q553, q554⟩
theorem kX6_count_210 : CLV mX6_count 210 mX3_turnedBits 0 := ⟨⟨q650, q73, q653, ⟨by decide, by decide, by decide +kernel⟩, ⟨Nat.le_of_ble_eq_true rfl, Nat.le_of_ble_eq_true rfl⟩⟩, q651, q652⟩
theorem kX6_isNoWord_213 : CLV mX6_isNoWord 213 mX1_wordCount 0 := ⟨⟨q494, q71, q256, ⟨by decide, by decide, by decide +kernel⟩, ⟨Nat.le_of_ble_eq_true rfl, Nat.le_of_ble_eq_true rfl⟩⟩, q254, q255⟩
theorem kX6_remember_202 : CLV mX6_remember 202 mX2_copy 1 := ⟨⟨q433, q72, q436, ⟨by decide, by decide, by decide +kernel⟩, ⟨Nat.le_of_ble_eq_true rfl, Nat.le_of_ble_eq_true rfl⟩⟩, q434, q435⟩
theorem kX6_become_202 : CLV mX6_become 202 mX2_copy 1 := ⟨⟨q433, q72, q436, ⟨by decide, by decide, by decide +kernel⟩, ⟨Nat.le_of_ble_eq_true rfl, Nat.le_of_ble_eq_true rfl⟩⟩, q434, q435⟩
theorem kX6_become_62 : CLV mX6_become 62 mX0_build 1 := ⟨⟨q238, q74, q241, ⟨by decide, by decide, by decide +kernel⟩, ⟨Nat.le_of_ble_eq_true rfl, Nat.le_of_ble_eq_true rfl⟩⟩, q239, q240⟩
theorem kX6_readByStates_173 : CLV mX6_readByStates 173 mX3_wordAt 1 := ⟨⟨q566, q73, q569, ⟨by decide, by decide, by decide +kernel⟩, ⟨Nat.le_of_ble_eq_true rfl, Nat.le_of_ble_eq_true rfl⟩⟩, q567, q568⟩
theorem kX6_readByStates_146 : CLV mX6_readByStates 146 mX0_tagOf 2 := ⟨⟨q495, q74, q322, ⟨by decide, by decide, by decide +kernel⟩, ⟨Nat.le_of_ble_eq_true rfl, Nat.le_of_ble_eq_true rfl⟩⟩, q320, q321⟩
theorem kX6_readByStates_117 : CLV mX6_readByStates 117 mX0_endOf 2 := ⟨⟨q456, q74, q298, ⟨by decide, by decide, by decide +kernel⟩, ⟨Nat.le_of_ble_eq_true rfl, Nat.le_of_ble_eq_true rfl⟩⟩, q296, q297⟩
theorem kX6_readByWindow_219 : CLV mX6_readByWindow 219 mX0_follow 4 := ⟨⟨q582, q74, q585, ⟨by decide, by decide, by decide +kernel⟩, ⟨Nat.le_of_ble_eq_true rfl, Nat.le_of_ble_eq_true rfl⟩⟩, q583, q584⟩
theorem kX6_readByWindow_173 : CLV mX6_readByWindow 173 mX3_wordAt 1 := ⟨⟨q566, q73, q569, ⟨by decide, by decide, by decide +kernel⟩, ⟨Nat.le_of_ble_eq_true rfl, Nat.le_of_ble_eq_true rfl⟩⟩, q567, q568⟩
theorem kX6_readByWindow_146 : CLV mX6_readByWindow 146 mX0_tagOf 2 := ⟨⟨q495, q74, q322, ⟨by decide, by decide, by decide +kernel⟩, ⟨Nat.le_of_ble_eq_true rfl, Nat.le_of_ble_eq_true rfl⟩⟩, q320, q321⟩
theorem kX6_origins_223 : CLV mX6_origins 223 mX6_endOfSeen 1 := ⟨⟨q606, q69, q609, ⟨by decide, by decide, by decide +kernel⟩, ⟨Nat.le_of_ble_eq_true rfl, Nat.le_of_ble_eq_true rfl⟩⟩, q608, q34⟩
theorem kX6_presentStates_223 : CLV mX6_presentStates 223 mX6_endOfSeen 1 := ⟨⟨q606, q69, q609, ⟨by decide, by decide, by decide +kernel⟩, ⟨Nat.le_of_ble_eq_true rfl, Nat.le_of_ble_eq_true rfl⟩⟩, q608, q34⟩
theorem kX6_endOfSeen_153 : CLV mX6_endOfSeen 153 mX0_isGood 1 := ⟨⟨q504, q74, q507, ⟨by decide, by decide, by decide +kernel⟩, ⟨Nat.le_of_ble_eq_true rfl, Nat.le_of_ble_eq_true rfl⟩⟩, q505, q506⟩
theorem kX6_endOfSeen_219 : CLV mX6_endOfSeen 219 mX0_follow 4 := ⟨⟨q582, q74, q585, ⟨by decide, by decide, by decide +kernel⟩, ⟨Nat.le_of_ble_eq_true rfl, Nat.le_of_ble_eq_true rfl⟩⟩, q583, q584⟩
theorem kX7_init_53 : CLV mX7_init 53 mX7_begins 0 := ⟨⟨q661, q78, q664, ⟨by decide, by decide, by decide +kernel⟩, ⟨Nat.le_of_ble_eq_true rfl, Nat.le_of_ble_eq_true rfl⟩⟩, q663, q37⟩
theorem kX7_begins_56 : CLV mX7_begins 56 mX7_finds 0 := ⟨⟨q665, q78, q668, ⟨by decide, by decide, by decide +kernel⟩, ⟨Nat.le_of_ble_eq_true rfl, Nat.le_of_ble_eq_true rfl⟩⟩, q667, q38⟩
theorem kX7_border_66 : CLV mX7_border 66 mX7_banned 1 := ⟨⟨q692, q78, q695, ⟨by decide, by decide, by decide +kernel⟩, ⟨Nat.le_of_ble_eq_true rfl, Nat.le_of_ble_eq_true rfl⟩⟩, q694, q44⟩
theorem kX7_stepOf_70 : CLS mX7_stepOf 70 mX7_in 3 := ⟨⟨q685, q78, q687, ⟨by decide, by decide, by decide +kernel⟩, ⟨Nat.le_of_ble_eq_true rfl, Nat.le_of_ble_eq_true rfl⟩⟩, q686⟩
theorem kX7_stepOf_74 : CLV mX7_stepOf 74 mX7_border 3 := ⟨⟨q688, q78, q691, ⟨by decide, by decide, by decide +kernel⟩, ⟨Nat.le_of_ble_eq_true rfl, Nat.le_of_ble_eq_true rfl⟩⟩, q690, q43⟩
theorem kX7_lead_78 : CLV mX7_lead 78 mX7_words 0 := ⟨⟨q677, q78, q680, ⟨by decide, by decide, by decide +kernel⟩, ⟨Nat.le_of_ble_eq_true rfl, Nat.le_of_ble_eq_true rfl⟩⟩, q679, q41⟩
theorem kX7_tag_78 : CLV mX7_tag 78 mX7_words 0 := ⟨⟨q677, q78, q680, ⟨by decide, by decide, by decide +kernel⟩, ⟨Nat.le_of_ble_eq_true rfl, Nat.le_of_ble_eq_true rfl⟩⟩, q679, q41⟩
theorem kX7_layArcs_82 : CLV mX7_layArcs 82 mX7_states 0 := ⟨⟨q673, q78, q676, ⟨by decide, by decide, by decide +kernel⟩, ⟨Nat.le_of_ble_eq_true rfl, Nat.le_of_ble_eq_true rfl⟩⟩, q675, q40⟩
theorem kX7_layArcs_78 : CLV mX7_layArcs 78 mX7_words 0 := ⟨⟨q677, q78, q680, ⟨by decide, by decide, by decide +kernel⟩, ⟨Nat.le_of_ble_eq_true rfl, Nat.le_of_ble_eq_true rfl⟩⟩, q679, q41⟩
theorem kX7_layArcs_85 : CLV mX7_layArcs 85 mX7_stepOf 2 := ⟨⟨q681, q78, q684, ⟨by decide, by decide, by decide +kernel⟩, ⟨Nat.le_of_ble_eq_true rfl, Nat.le_of_ble_eq_true rfl⟩⟩, q683, q42⟩
theorem kX7_goodArcs_78 : CLV mX7_goodArcs 78 mX7_words 0 := ⟨⟨q677, q78, q680, ⟨by decide, by decide, by decide +kernel⟩, ⟨Nat.le_of_ble_eq_true rfl, Nat.le_of_ble_eq_true rfl⟩⟩, q679, q41⟩
theorem kX7_goodArcs_89 : CLV mX7_goodArcs 89 mX7_lead 2 := ⟨⟨q700, q78, q703, ⟨by decide, by decide, by decide +kernel⟩, ⟨Nat.le_of_ble_eq_true rfl, Nat.le_of_ble_eq_true rfl⟩⟩, q702, q46⟩
theorem kX7_finds_95 : CLV mX7_finds 95 mX7_layArcs 0 := ⟨⟨q669, q78, q672, ⟨by decide, by decide, by decide +kernel⟩, ⟨Nat.le_of_ble_eq_true rfl, Nat.le_of_ble_eq_true rfl⟩⟩, q671, q39⟩
theorem kX7_finds_82 : CLV mX7_finds 82 mX7_states 0 := ⟨⟨q673, q78, q676, ⟨by decide, by decide, by decide +kernel⟩, ⟨Nat.le_of_ble_eq_true rfl, Nat.le_of_ble_eq_true rfl⟩⟩, q675, q40⟩
theorem kX7_finds_98 : CLV mX7_finds 98 mX7_goodArcs 1 := ⟨⟨q696, q78, q699, ⟨by decide, by decide, by decide +kernel⟩, ⟨Nat.le_of_ble_eq_true rfl, Nat.le_of_ble_eq_true rfl⟩⟩, q698, q45⟩
theorem kX7_finds_78 : CLV mX7_finds 78 mX7_words 0 := ⟨⟨q677, q78, q680, ⟨by decide, by decide, by decide +kernel⟩, ⟨Nat.le_of_ble_eq_true rfl, Nat.le_of_ble_eq_true rfl⟩⟩, q679, q41⟩
theorem kX7_finds_89 : CLV mX7_finds 89 mX7_lead 2 := ⟨⟨q700, q78, q703, ⟨by decide, by decide, by decide +kernel⟩, ⟨Nat.le_of_ble_eq_true rfl, Nat.le_of_ble_eq_true rfl⟩⟩, q702, q46⟩
theorem kX7_type_70 : CLS mX7_type 70 mX7_in 3 := ⟨⟨q685, q78, q687, ⟨by decide, by decide, by decide +kernel⟩, ⟨Nat.le_of_ble_eq_true rfl, Nat.le_of_ble_eq_true rfl⟩⟩, q686⟩
theorem kX7_isFigure_70 : CLS mX7_isFigure 70 mX7_in 3 := ⟨⟨q685, q78, q687, ⟨by decide, by decide, by decide +kernel⟩, ⟨Nat.le_of_ble_eq_true rfl, Nat.le_of_ble_eq_true rfl⟩⟩, q686⟩
theorem kX7_takes_113 : CLV mX7_takes 113 mX7_here 0 := ⟨⟨q795, q78, q798, ⟨by decide, by decide, by decide +kernel⟩, ⟨Nat.le_of_ble_eq_true rfl, Nat.le_of_ble_eq_true rfl⟩⟩, q797, q50⟩
theorem kX7_takesNumber_113 : CLV mX7_takesNumber 113 mX7_here 0 := ⟨⟨q795, q78, q798, ⟨by decide, by decide, by decide +kernel⟩, ⟨Nat.le_of_ble_eq_true rfl, Nat.le_of_ble_eq_true rfl⟩⟩, q797, q50⟩
theorem kX7_takesNumber_116 : CLV mX7_takesNumber 116 mX7_isFigure 1 := ⟨⟨q803, q78, q806, ⟨by decide, by decide, by decide +kernel⟩, ⟨Nat.le_of_ble_eq_true rfl, Nat.le_of_ble_eq_true rfl⟩⟩, q805, q52⟩
theorem kX7_takesNumber_70 : CLS mX7_takesNumber 70 mX7_in 3 := ⟨⟨q685, q78, q687, ⟨by decide, by decide, by decide +kernel⟩, ⟨Nat.le_of_ble_eq_true rfl, Nat.le_of_ble_eq_true rfl⟩⟩, q686⟩
theorem kX7_takesBits_113 : CLV mX7_takesBits 113 mX7_here 0 := ⟨⟨q795, q78, q798, ⟨by decide, by decide, by decide +kernel⟩, ⟨Nat.le_of_ble_eq_true rfl, Nat.le_of_ble_eq_true rfl⟩⟩, q797, q50⟩
theorem kX7_takesBits_116 : CLV mX7_takesBits 116 mX7_isFigure 1 := ⟨⟨q803, q78, q806, ⟨by decide, by decide, by decide +kernel⟩, ⟨Nat.le_of_ble_eq_true rfl, Nat.le_of_ble_eq_true rfl⟩⟩, q805, q52⟩
theorem kX7_takesBan_123 : CLV mX7_takesBan 123 mX7_takes 1 := ⟨⟨q791, q78, q794, ⟨by decide, by decide, by decide +kernel⟩, ⟨Nat.le_of_ble_eq_true rfl, Nat.le_of_ble_eq_true rfl⟩⟩, q793, q49⟩
theorem kX7_takesBan_126 : CLV mX7_takesBan 126 mX7_takesNumber 2 := ⟨⟨q799, q78, q802, ⟨by decide, by decide, by decide +kernel⟩, ⟨Nat.le_of_ble_eq_true rfl, Nat.le_of_ble_eq_true rfl⟩⟩, q801, q51⟩
theorem kX7_takesBan_130 : CLV mX7_takesBan 130 mX7_takesBits 0 := ⟨⟨q809, q78, q812, ⟨by decide, by decide, by decide +kernel⟩, ⟨Nat.le_of_ble_eq_true rfl, Nat.le_of_ble_eq_true rfl⟩⟩, q811, q53⟩
theorem kX7_takesAll_134 : CLV mX7_takesAll 134 mX7_takesBan 0 := ⟨⟨q787, q78, q790, ⟨by decide, by decide, by decide +kernel⟩, ⟨Nat.le_of_ble_eq_true rfl, Nat.le_of_ble_eq_true rfl⟩⟩, q789, q48⟩
theorem kX7_takesAll_123 : CLV mX7_takesAll 123 mX7_takes 1 := ⟨⟨q791, q78, q794, ⟨by decide, by decide, by decide +kernel⟩, ⟨Nat.le_of_ble_eq_true rfl, Nat.le_of_ble_eq_true rfl⟩⟩, q793, q49⟩
theorem kX7_takesAll_113 : CLV mX7_takesAll 113 mX7_here 0 := ⟨⟨q795, q78, q798, ⟨by decide, by decide, by decide +kernel⟩, ⟨Nat.le_of_ble_eq_true rfl, Nat.le_of_ble_eq_true rfl⟩⟩, q797, q50⟩
theorem kX7_takesAll_126 : CLV mX7_takesAll 126 mX7_takesNumber 2 := ⟨⟨q799, q78, q802, ⟨by decide, by decide, by decide +kernel⟩, ⟨Nat.le_of_ble_eq_true rfl, Nat.le_of_ble_eq_true rfl⟩⟩, q801, q51⟩
theorem kX7_tells_137 : CLV mX7_tells 137 mX7_takesAll 0 := ⟨⟨q783, q78, q786, ⟨by decide, by decide, by decide +kernel⟩, ⟨Nat.le_of_ble_eq_true rfl, Nat.le_of_ble_eq_true rfl⟩⟩, q785, q47⟩
theorem kX7_tells_140 : CLV mX7_tells 140 mX7_keepPast 0 := ⟨⟨q813, q78, q816, ⟨by decide, by decide, by decide +kernel⟩, ⟨Nat.le_of_ble_eq_true rfl, Nat.le_of_ble_eq_true rfl⟩⟩, q815, q54⟩
theorem kX7_tells_53 : CLV mX7_tells 53 mX7_begins 0 := ⟨⟨q661, q78, q664, ⟨by decide, by decide, by decide +kernel⟩, ⟨Nat.le_of_ble_eq_true rfl, Nat.le_of_ble_eq_true rfl⟩⟩, q663, q37⟩
theorem kX7_tells_82 : CLV mX7_tells 82 mX7_states 0 := ⟨⟨q673, q78, q676, ⟨by decide, by decide, by decide +kernel⟩, ⟨Nat.le_of_ble_eq_true rfl, Nat.le_of_ble_eq_true rfl⟩⟩, q675, q40⟩
theorem kX7_sends_70 : CLS mX7_sends 70 mX7_in 3 := ⟨⟨q685, q78, q687, ⟨by decide, by decide, by decide +kernel⟩, ⟨Nat.le_of_ble_eq_true rfl, Nat.le_of_ble_eq_true rfl⟩⟩, q686⟩
theorem kX7_sends_56 : CLV mX7_sends 56 mX7_finds 0 := ⟨⟨q665, q78, q668, ⟨by decide, by decide, by decide +kernel⟩, ⟨Nat.le_of_ble_eq_true rfl, Nat.le_of_ble_eq_true rfl⟩⟩, q667, q38⟩
theorem kX7_sends_146 : CLV mX7_sends 146 mX7_wordFor 2 := ⟨⟨q821, q78, q824, ⟨by decide, by decide, by decide +kernel⟩, ⟨Nat.le_of_ble_eq_true rfl, Nat.le_of_ble_eq_true rfl⟩⟩, q823, q55⟩
theorem kX7_sends_140 : CLV mX7_sends 140 mX7_keepPast 0 := ⟨⟨q813, q78, q816, ⟨by decide, by decide, by decide +kernel⟩, ⟨Nat.le_of_ble_eq_true rfl, Nat.le_of_ble_eq_true rfl⟩⟩, q815, q54⟩
theorem kX7_sends_89 : CLV mX7_sends 89 mX7_lead 2 := ⟨⟨q700, q78, q703, ⟨by decide, by decide, by decide +kernel⟩, ⟨Nat.le_of_ble_eq_true rfl, Nat.le_of_ble_eq_true rfl⟩⟩, q702, q46⟩
theorem kX7_wordFor_78 : CLV mX7_wordFor 78 mX7_words 0 := ⟨⟨q677, q78, q680, ⟨by decide, by decide, by decide +kernel⟩, ⟨Nat.le_of_ble_eq_true rfl, Nat.le_of_ble_eq_true rfl⟩⟩, q679, q41⟩
theorem kX7_wordFor_149 : CLV mX7_wordFor 149 mX7_tag 2 := ⟨⟨q825, q78, q828, ⟨by decide, by decide, by decide +kernel⟩, ⟨Nat.le_of_ble_eq_true rfl, Nat.le_of_ble_eq_true rfl⟩⟩, q827, q56⟩
theorem kX7_flips_70 : CLS mX7_flips 70 mX7_in 3 := ⟨⟨q685, q78, q687, ⟨by decide, by decide, by decide +kernel⟩, ⟨Nat.le_of_ble_eq_true rfl, Nat.le_of_ble_eq_true rfl⟩⟩, q686⟩
theorem kX7_flips_140 : CLV mX7_flips 140 mX7_keepPast 0 := ⟨⟨q813, q78, q816, ⟨by decide, by decide, by decide +kernel⟩, ⟨Nat.le_of_ble_eq_true rfl, Nat.le_of_ble_eq_true rfl⟩⟩, q815, q54⟩
theorem kX7_isState_82 : CLV mX7_isState 82 mX7_states 0 := ⟨⟨q673, q78, q676, ⟨by decide, by decide, by decide +kernel⟩, ⟨Nat.le_of_ble_eq_true rfl, Nat.le_of_ble_eq_true rfl⟩⟩, q675, q40⟩
theorem kX7_isState_70 : CLS mX7_isState 70 mX7_in 3 := ⟨⟨q685, q78, q687, ⟨by decide, by decide, by decide +kernel⟩, ⟨Nat.le_of_ble_eq_true rfl, Nat.le_of_ble_eq_true rfl⟩⟩, q686⟩
theorem kX7_step_152 : CLV mX7_step 152 mX7_isState 1 := ⟨⟨q841, q78, q844, ⟨by decide, by decide, by decide +kernel⟩, ⟨Nat.le_of_ble_eq_true rfl, Nat.le_of_ble_eq_true rfl⟩⟩, q843, q57⟩
theorem kX7_step_70 : CLS mX7_step 70 mX7_in 3 := ⟨⟨q685, q78, q687, ⟨by decide, by decide, by decide +kernel⟩, ⟨Nat.le_of_ble_eq_true rfl, Nat.le_of_ble_eq_true rfl⟩⟩, q686⟩
theorem kX7_step_85 : CLV mX7_step 85 mX7_stepOf 2 := ⟨⟨q681, q78, q684, ⟨by decide, by decide, by decide +kernel⟩, ⟨Nat.le_of_ble_eq_true rfl, Nat.le_of_ble_eq_true rfl⟩⟩, q683, q42⟩
theorem kX7_arc_152 : CLV mX7_arc 152 mX7_isState 1 := ⟨⟨q841, q78, q844, ⟨by decide, by decide, by decide +kernel⟩, ⟨Nat.le_of_ble_eq_true rfl, Nat.le_of_ble_eq_true rfl⟩⟩, q843, q57⟩
theorem kX7_arc_78 : CLV mX7_arc 78 mX7_words 0 := ⟨⟨q677, q78, q680, ⟨by decide, by decide, by decide +kernel⟩, ⟨Nat.le_of_ble_eq_true rfl, Nat.le_of_ble_eq_true rfl⟩⟩, q679, q41⟩
theorem kX7_arc_70 : CLS mX7_arc 70 mX7_in 3 := ⟨⟨q685, q78, q687, ⟨by decide, by decide, by decide +kernel⟩, ⟨Nat.le_of_ble_eq_true rfl, Nat.le_of_ble_eq_true rfl⟩⟩, q686⟩
theorem kX7_arc_56 : CLV mX7_arc 56 mX7_finds 0 := ⟨⟨q665, q78, q668, ⟨by decide, by decide, by decide +kernel⟩, ⟨Nat.le_of_ble_eq_true rfl, Nat.le_of_ble_eq_true rfl⟩⟩, q667, q38⟩
theorem kX7_arc_89 : CLV mX7_arc 89 mX7_lead 2 := ⟨⟨q700, q78, q703, ⟨by decide, by decide, by decide +kernel⟩, ⟨Nat.le_of_ble_eq_true rfl, Nat.le_of_ble_eq_true rfl⟩⟩, q702, q46⟩
theorem kX7_arc_149 : CLV mX7_arc 149 mX7_tag 2 := ⟨⟨q825, q78, q828, ⟨by decide, by decide, by decide +kernel⟩, ⟨Nat.le_of_ble_eq_true rfl, Nat.le_of_ble_eq_true rfl⟩⟩, q827, q56⟩
theorem kX7_state_152 : CLV mX7_state 152 mX7_isState 1 := ⟨⟨q841, q78, q844, ⟨by decide, by decide, by decide +kernel⟩, ⟨Nat.le_of_ble_eq_true rfl, Nat.le_of_ble_eq_true rfl⟩⟩, q843, q57⟩
theorem kX7_state_70 : CLS mX7_state 70 mX7_in 3 := ⟨⟨q685, q78, q687, ⟨by decide, by decide, by decide +kernel⟩, ⟨Nat.le_of_ble_eq_true rfl, Nat.le_of_ble_eq_true rfl⟩⟩, q686⟩
theorem kX7_state_56 : CLV mX7_state 56 mX7_finds 0 := ⟨⟨q665, q78, q668, ⟨by decide, by decide, by decide +kernel⟩, ⟨Nat.le_of_ble_eq_true rfl, Nat.le_of_ble_eq_true rfl⟩⟩, q667, q38⟩
theorem kX7_state_78 : CLV mX7_state 78 mX7_words 0 := ⟨⟨q677, q78, q680, ⟨by decide, by decide, by decide +kernel⟩, ⟨Nat.le_of_ble_eq_true rfl, Nat.le_of_ble_eq_true rfl⟩⟩, q679, q41⟩
theorem kX7_state_89 : CLV mX7_state 89 mX7_lead 2 := ⟨⟨q700, q78, q703, ⟨by decide, by decide, by decide +kernel⟩, ⟨Nat.le_of_ble_eq_true rfl, Nat.le_of_ble_eq_true rfl⟩⟩, q702, q46⟩
theorem kX7_weighs_82 : CLV mX7_weighs 82 mX7_states 0 := ⟨⟨q673, q78, q676, ⟨by decide, by decide, by decide +kernel⟩, ⟨Nat.le_of_ble_eq_true rfl, Nat.le_of_ble_eq_true rfl⟩⟩, q675, q40⟩
theorem kX7_weighs_78 : CLV mX7_weighs 78 mX7_words 0 := ⟨⟨q677, q78, q680, ⟨by decide, by decide, by decide +kernel⟩, ⟨Nat.le_of_ble_eq_true rfl, Nat.le_of_ble_eq_true rfl⟩⟩, q679, q41⟩
theorem kX7_weighs_89 : CLV mX7_weighs 89 mX7_lead 2 := ⟨⟨q700, q78, q703, ⟨by decide, by decide, by decide +kernel⟩, ⟨Nat.le_of_ble_eq_true rfl, Nat.le_of_ble_eq_true rfl⟩⟩, q702, q46⟩
theorem kX7_weight_152 : CLV mX7_weight 152 mX7_isState 1 := ⟨⟨q841, q78, q844, ⟨by decide, by decide, by decide +kernel⟩, ⟨Nat.le_of_ble_eq_true rfl, Nat.le_of_ble_eq_true rfl⟩⟩, q843, q57⟩
theorem kX7_weight_70 : CLS mX7_weight 70 mX7_in 3 := ⟨⟨q685, q78, q687, ⟨by decide, by decide, by decide +kernel⟩, ⟨Nat.le_of_ble_eq_true rfl, Nat.le_of_ble_eq_true rfl⟩⟩, q686⟩
theorem kX7_weight_56 : CLV mX7_weight 56 mX7_finds 0 := ⟨⟨q665, q78, q668, ⟨by decide, by decide, by decide +kernel⟩, ⟨Nat.le_of_ble_eq_true rfl, Nat.le_of_ble_eq_true rfl⟩⟩, q667, q38⟩
theorem kX7_weight_157 : CLV mX7_weight 157 mX7_weighs 1 := ⟨⟨q858, q78, q861, ⟨by decide, by decide, by decide +kernel⟩, ⟨Nat.le_of_ble_eq_true rfl, Nat.le_of_ble_eq_true rfl⟩⟩, q860, q58⟩
theorem kX7_weight_82 : CLV mX7_weight 82 mX7_states 0 := ⟨⟨q673, q78, q676, ⟨by decide, by decide, by decide +kernel⟩, ⟨Nat.le_of_ble_eq_true rfl, Nat.le_of_ble_eq_true rfl⟩⟩, q675, q40⟩
theorem kX7_rows_70 : CLS mX7_rows 70 mX7_in 3 := ⟨⟨q685, q78, q687, ⟨by decide, by decide, by decide +kernel⟩, ⟨Nat.le_of_ble_eq_true rfl, Nat.le_of_ble_eq_true rfl⟩⟩, q686⟩
theorem kX7_rows_82 : CLV mX7_rows 82 mX7_states 0 := ⟨⟨q673, q78, q676, ⟨by decide, by decide, by decide +kernel⟩, ⟨Nat.le_of_ble_eq_true rfl, Nat.le_of_ble_eq_true rfl⟩⟩, q675, q40⟩
theorem kX7_rows_163 : CLV mX7_rows 163 mX7_start 0 := ⟨⟨q867, q78, q870, ⟨by decide, by decide, by decide +kernel⟩, ⟨Nat.le_of_ble_eq_true rfl, Nat.le_of_ble_eq_true rfl⟩⟩, q869, q59⟩
theorem kX7_rows_85 : CLV mX7_rows 85 mX7_stepOf 2 := ⟨⟨q681, q78, q684, ⟨by decide, by decide, by decide +kernel⟩, ⟨Nat.le_of_ble_eq_true rfl, Nat.le_of_ble_eq_true rfl⟩⟩, q683, q42⟩
theorem kX7_goOn_149 : CLV mX7_goOn 149 mX7_tag 2 := ⟨⟨q825, q78, q828, ⟨by decide, by decide, by decide +kernel⟩, ⟨Nat.le_of_ble_eq_true rfl, Nat.le_of_ble_eq_true rfl⟩⟩, q827, q56⟩
theorem kX7_goOn_89 : CLV mX7_goOn 89 mX7_lead 2 := ⟨⟨q700, q78, q703, ⟨by decide, by decide, by decide +kernel⟩, ⟨Nat.le_of_ble_eq_true rfl, Nat.le_of_ble_eq_true rfl⟩⟩, q702, q46⟩
theorem kX7_layAlike_78 : CLV mX7_layAlike 78 mX7_words 0 := ⟨⟨q677, q78, q680, ⟨by decide, by decide, by decide +kernel⟩, ⟨Nat.le_of_ble_eq_true rfl, Nat.le_of_ble_eq_true rfl⟩⟩, q679, q41⟩
theorem kX7_layAlike_152 : CLV mX7_layAlike 152 mX7_isState 1 := ⟨⟨q841, q78, q844, ⟨by decide, by decide, by decide +kernel⟩, ⟨Nat.le_of_ble_eq_true rfl, Nat.le_of_ble_eq_true rfl⟩⟩, q843, q57⟩
theorem kX7_layAlike_166 : CLV mX7_layAlike 166 mX7_goOn 4 := ⟨⟨q892, q78, q895, ⟨by decide, by decide, by decide +kernel⟩, ⟨Nat.le_of_ble_eq_true rfl, Nat.le_of_ble_eq_true rfl⟩⟩, q894, q64⟩
theorem kX7_isWide_82 : CLV mX7_isWide 82 mX7_states 0 := ⟨⟨q673, q78, q676, ⟨by decide, by decide, by decide +kernel⟩, ⟨Nat.le_of_ble_eq_true rfl, Nat.le_of_ble_eq_true rfl⟩⟩, q675, q40⟩
theorem kX7_isWide_78 : CLV mX7_isWide 78 mX7_words 0 := ⟨⟨q677, q78, q680, ⟨by decide, by decide, by decide +kernel⟩, ⟨Nat.le_of_ble_eq_true rfl, Nat.le_of_ble_eq_true rfl⟩⟩, q679, q41⟩
theorem kX7_isWide_149 : CLV mX7_isWide 149 mX7_tag 2 := ⟨⟨q825, q78, q828, ⟨by decide, by decide, by decide +kernel⟩, ⟨Nat.le_of_ble_eq_true rfl, Nat.le_of_ble_eq_true rfl⟩⟩, q827, q56⟩
theorem kX7_isWide_166 : CLV mX7_isWide 166 mX7_goOn 4 := ⟨⟨q892, q78, q895, ⟨by decide, by decide, by decide +kernel⟩, ⟨Nat.le_of_ble_eq_true rfl, Nat.le_of_ble_eq_true rfl⟩⟩, q894, q64⟩
theorem kX7_window_170 : CLV mX7_window 170 mX7_layAlike 0 := ⟨⟨q888, q78, q891, ⟨by decide, by decide, by decide +kernel⟩, ⟨Nat.le_of_ble_eq_true rfl, Nat.le_of_ble_eq_true rfl⟩⟩, q890, q63⟩
theorem kX7_window_173 : CLV mX7_window 173 mX7_isWide 1 := ⟨⟨q896, q78, q899, ⟨by decide, by decide, by decide +kernel⟩, ⟨Nat.le_of_ble_eq_true rfl, Nat.le_of_ble_eq_true rfl⟩⟩, q898, q65⟩
theorem kX7_byStates_149 : CLV mX7_byStates 149 mX7_tag 2 := ⟨⟨q825, q78, q828, ⟨by decide, by decide, by decide +kernel⟩, ⟨Nat.le_of_ble_eq_true rfl, Nat.le_of_ble_eq_true rfl⟩⟩, q827, q56⟩
theorem kX7_byStates_89 : CLV mX7_byStates 89 mX7_lead 2 := ⟨⟨q700, q78, q703, ⟨by decide, by decide, by decide +kernel⟩, ⟨Nat.le_of_ble_eq_true rfl, Nat.le_of_ble_eq_true rfl⟩⟩, q702, q46⟩
theorem kX7_byWindow_176 : CLV mX7_byWindow 176 mX7_window 0 := ⟨⟨q884, q78, q887, ⟨by decide, by decide, by decide +kernel⟩, ⟨Nat.le_of_ble_eq_true rfl, Nat.le_of_ble_eq_true rfl⟩⟩, q886, q62⟩
theorem kX7_byWindow_82 : CLV mX7_byWindow 82 mX7_states 0 := ⟨⟨q673, q78, q676, ⟨by decide, by decide, by decide +kernel⟩, ⟨Nat.le_of_ble_eq_true rfl, Nat.le_of_ble_eq_true rfl⟩⟩, q675, q40⟩
theorem kX7_byWindow_149 : CLV mX7_byWindow 149 mX7_tag 2 := ⟨⟨q825, q78, q828, ⟨by decide, by decide, by decide +kernel⟩, ⟨Nat.le_of_ble_eq_true rfl, Nat.le_of_ble_eq_true rfl⟩⟩, q827, q56⟩
theorem kX7_byWindow_89 : CLV mX7_byWindow 89 mX7_lead 2 := ⟨⟨q700, q78, q703, ⟨by decide, by decide, by decide +kernel⟩, ⟨Nat.le_of_ble_eq_true rfl, Nat.le_of_ble_eq_true rfl⟩⟩, q702, q46⟩
theorem kX7_word_70 : CLS mX7_word 70 mX7_in 3 := ⟨⟨q685, q78, q687, ⟨by decide, by decide, by decide +kernel⟩, ⟨Nat.le_of_ble_eq_true rfl, Nat.le_of_ble_eq_true rfl⟩⟩, q686⟩
theorem kX7_word_56 : CLV mX7_word 56 mX7_finds 0 := ⟨⟨q665, q78, q668, ⟨by decide, by decide, by decide +kernel⟩, ⟨Nat.le_of_ble_eq_true rfl, Nat.le_of_ble_eq_true rfl⟩⟩, q667, q38⟩
theorem kX7_word_181 : CLV mX7_word 181 mX7_byStates 1 := ⟨⟨q876, q78, q879, ⟨by decide, by decide, by decide +kernel⟩, ⟨Nat.le_of_ble_eq_true rfl, Nat.le_of_ble_eq_true rfl⟩⟩, q878, q60⟩
theorem kX7_word_184 : CLV mX7_word 184 mX7_byWindow 1 := ⟨⟨q880, q78, q883, ⟨by decide, by decide, by decide +kernel⟩, ⟨Nat.le_of_ble_eq_true rfl, Nat.le_of_ble_eq_true rfl⟩⟩, q882, q61⟩
theorem kX7_wrong_70 : CLS mX7_wrong 70 mX7_in 3 := ⟨⟨q685, q78, q687, ⟨by decide, by decide, by decide +kernel⟩, ⟨Nat.le_of_ble_eq_true rfl, Nat.le_of_ble_eq_true rfl⟩⟩, q686⟩
theorem kX7_wrong_56 : CLV mX7_wrong 56 mX7_finds 0 := ⟨⟨q665, q78, q668, ⟨by decide, by decide, by decide +kernel⟩, ⟨Nat.le_of_ble_eq_true rfl, Nat.le_of_ble_eq_true rfl⟩⟩, q667, q38⟩
theorem kX7_wrong_181 : CLV mX7_wrong 181 mX7_byStates 1 := ⟨⟨q876, q78, q879, ⟨by decide, by decide, by decide +kernel⟩, ⟨Nat.le_of_ble_eq_true rfl, Nat.le_of_ble_eq_true rfl⟩⟩, q878, q60⟩
theorem kX7_wrong_184 : CLV mX7_wrong 184 mX7_byWindow 1 := ⟨⟨q880, q78, q883, ⟨by decide, by decide, by decide +kernel⟩, ⟨Nat.le_of_ble_eq_true rfl, Nat.le_of_ble_eq_true rfl⟩⟩, q882, q61⟩
theorem kX7_sees_78 : CLV mX7_sees 78 mX7_words 0 := ⟨⟨q677, q78, q680, ⟨by decide, by decide, by decide +kernel⟩, ⟨Nat.le_of_ble_eq_true rfl, Nat.le_of_ble_eq_true rfl⟩⟩, q679, q41⟩
theorem kX7_sees_70 : CLS mX7_sees 70 mX7_in 3 := ⟨⟨q685, q78, q687, ⟨by decide, by decide, by decide +kernel⟩, ⟨Nat.le_of_ble_eq_true rfl, Nat.le_of_ble_eq_true rfl⟩⟩, q686⟩
theorem kX7_statesBySeen_82 : CLV mX7_statesBySeen 82 mX7_states 0 := ⟨⟨q673, q78, q676, ⟨by decide, by decide, by decide +kernel⟩, ⟨Nat.le_of_ble_eq_true rfl, Nat.le_of_ble_eq_true rfl⟩⟩, q675, q40⟩
theorem kX7_statesBySeen_149 : CLV mX7_statesBySeen 149 mX7_tag 2 := ⟨⟨q825, q78, q828, ⟨by decide, by decide, by decide +kernel⟩, ⟨Nat.le_of_ble_eq_true rfl, Nat.le_of_ble_eq_true rfl⟩⟩, q827, q56⟩
theorem kX7_statesBySeen_89 : CLV mX7_statesBySeen 89 mX7_lead 2 := ⟨⟨q700, q78, q703, ⟨by decide, by decide, by decide +kernel⟩, ⟨Nat.le_of_ble_eq_true rfl, Nat.le_of_ble_eq_true rfl⟩⟩, q702, q46⟩
theorem kX7_which_70 : CLS mX7_which 70 mX7_in 3 := ⟨⟨q685, q78, q687, ⟨by decide, by decide, by decide +kernel⟩, ⟨Nat.le_of_ble_eq_true rfl, Nat.le_of_ble_eq_true rfl⟩⟩, q686⟩
theorem kX7_which_56 : CLV mX7_which 56 mX7_finds 0 := ⟨⟨q665, q78, q668, ⟨by decide, by decide, by decide +kernel⟩, ⟨Nat.le_of_ble_eq_true rfl, Nat.le_of_ble_eq_true rfl⟩⟩, q667, q38⟩
theorem kX7_which_187 : CLV mX7_which 187 mX7_statesBySeen 1 := ⟨⟨q916, q78, q919, ⟨by decide, by decide, by decide +kernel⟩, ⟨Nat.le_of_ble_eq_true rfl, Nat.le_of_ble_eq_true rfl⟩⟩, q918, q66⟩
theorem kX7_ask_56 : CLV mX7_ask 56 mX7_finds 0 := ⟨⟨q665, q78, q668, ⟨by decide, by decide, by decide +kernel⟩, ⟨Nat.le_of_ble_eq_true rfl, Nat.le_of_ble_eq_true rfl⟩⟩, q667, q38⟩
theorem kX7_ask_187 : CLV mX7_ask 187 mX7_statesBySeen 1 := ⟨⟨q916, q78, q919, ⟨by decide, by decide, by decide +kernel⟩, ⟨Nat.le_of_ble_eq_true rfl, Nat.le_of_ble_eq_true rfl⟩⟩, q918, q66⟩
theorem kX7_ask_78 : CLV mX7_ask 78 mX7_words 0 := ⟨⟨q677, q78, q680, ⟨by decide, by decide, by decide +kernel⟩, ⟨Nat.le_of_ble_eq_true rfl, Nat.le_of_ble_eq_true rfl⟩⟩, q679, q41⟩
theorem kX7_ask_82 : CLV mX7_ask 82 mX7_states 0 := ⟨⟨q673, q78, q676, ⟨by decide, by decide, by decide +kernel⟩, ⟨Nat.le_of_ble_eq_true rfl, Nat.le_of_ble_eq_true rfl⟩⟩, q675, q40⟩
theorem kX7_ask_149 : CLV mX7_ask 149 mX7_tag 2 := ⟨⟨q825, q78, q828, ⟨by decide, by decide, by decide +kernel⟩, ⟨Nat.le_of_ble_eq_true rfl, Nat.le_of_ble_eq_true rfl⟩⟩, q827, q56⟩
theorem kX7_keep_70 : CLS mX7_keep 70 mX7_in 3 := ⟨⟨q685, q78, q687, ⟨by decide, by decide, by decide +kernel⟩, ⟨Nat.le_of_ble_eq_true rfl, Nat.le_of_ble_eq_true rfl⟩⟩, q686⟩
theorem kX7_back_70 : CLS mX7_back 70 mX7_in 3 := ⟨⟨q685, q78, q687, ⟨by decide, by decide, by decide +kernel⟩, ⟨Nat.le_of_ble_eq_true rfl, Nat.le_of_ble_eq_true rfl⟩⟩, q686⟩
theorem kX7_count_70 : CLS mX7_count 70 mX7_in 3 := ⟨⟨q685, q78, q687, ⟨by decide, by decide, by decide +kernel⟩, ⟨Nat.le_of_ble_eq_true rfl, Nat.le_of_ble_eq_true rfl⟩⟩, q686⟩
theorem kX7_count_56 : CLV mX7_count 56 mX7_finds 0 := ⟨⟨q665, q78, q668, ⟨by decide, by decide, by decide +kernel⟩, ⟨Nat.le_of_ble_eq_true rfl, Nat.le_of_ble_eq_true rfl⟩⟩, q667, q38⟩
theorem kX7_count_82 : CLV mX7_count 82 mX7_states 0 := ⟨⟨q673, q78, q676, ⟨by decide, by decide, by decide +kernel⟩, ⟨Nat.le_of_ble_eq_true rfl, Nat.le_of_ble_eq_true rfl⟩⟩, q675, q40⟩
theorem kX7_count_163 : CLV mX7_count 163 mX7_start 0 := ⟨⟨q867, q78, q870, ⟨by decide, by decide, by decide +kernel⟩, ⟨Nat.le_of_ble_eq_true rfl, Nat.le_of_ble_eq_true rfl⟩⟩, q869, q59⟩
theorem kX7_count_176 : CLV mX7_count 176 mX7_window 0 := ⟨⟨q884, q78, q887, ⟨by decide, by decide, by decide +kernel⟩, ⟨Nat.le_of_ble_eq_true rfl, Nat.le_of_ble_eq_true rfl⟩⟩, q886, q62⟩
theorem kX7_count_193 : CLV mX7_count 193 mX7_otherBits 0 := ⟨⟨q937, q78, q940, ⟨by decide, by decide, by decide +kernel⟩, ⟨Nat.le_of_ble_eq_true rfl, Nat.le_of_ble_eq_true rfl⟩⟩, q939, q67⟩
theorem kL_law_9 : CLI mL_law 9 mX6_init 0 := ⟨⟨q82, q69, q84, ⟨by decide, by decide, by decide +kernel⟩, ⟨Nat.le_of_ble_eq_true rfl, Nat.le_of_ble_eq_true rfl⟩⟩, q83, rfl⟩
theorem kL_law_12 : CLI mL_law 12 mX7_init 0 := ⟨⟨q657, q78, q659, ⟨by decide, by decide, by decide +kernel⟩, ⟨Nat.le_of_ble_eq_true rfl, Nat.le_of_ble_eq_true rfl⟩⟩, q658, rfl⟩
theorem kL_law_13 : CLV mL_law 13 mX6_type 1 := ⟨⟨q369, q69, q372, ⟨by decide, by decide, by decide +kernel⟩, ⟨Nat.le_of_ble_eq_true rfl, Nat.le_of_ble_eq_true rfl⟩⟩, q370, q371⟩
theorem kL_law_17 : CLV mL_law 17 mX7_type 1 := ⟨⟨q770, q78, q773, ⟨by decide, by decide, by decide +kernel⟩, ⟨Nat.le_of_ble_eq_true rfl, Nat.le_of_ble_eq_true rfl⟩⟩, q771, q772⟩
theorem kL_law_18 : CLV mL_law 18 mX6_clear 0 := ⟨⟨q377, q69, q380, ⟨by decide, by decide, by decide +kernel⟩, ⟨Nat.le_of_ble_eq_true rfl, Nat.le_of_ble_eq_true rfl⟩⟩, q378, q379⟩
theorem kL_law_22 : CLV mL_law 22 mX7_clear 0 := ⟨⟨q775, q78, q778, ⟨by decide, by decide, by decide +kernel⟩, ⟨Nat.le_of_ble_eq_true rfl, Nat.le_of_ble_eq_true rfl⟩⟩, q776, q777⟩
theorem kL_law_23 : CLV mL_law 23 mX6_tells 0 := ⟨⟨q381, q69, q384, ⟨by decide, by decide, by decide +kernel⟩, ⟨Nat.le_of_ble_eq_true rfl, Nat.le_of_ble_eq_true rfl⟩⟩, q382, q383⟩
theorem kL_law_26 : CLV mL_law 26 mX7_tells 0 := ⟨⟨q779, q78, q782, ⟨by decide, by decide, by decide +kernel⟩, ⟨Nat.le_of_ble_eq_true rfl, Nat.le_of_ble_eq_true rfl⟩⟩, q780, q781⟩
theorem kL_law_27 : CLV mL_law 27 mX6_sends 1 := ⟨⟨q447, q69, q450, ⟨by decide, by decide, by decide +kernel⟩, ⟨Nat.le_of_ble_eq_true rfl, Nat.le_of_ble_eq_true rfl⟩⟩, q448, q449⟩
theorem kL_law_30 : CLV mL_law 30 mX7_sends 1 := ⟨⟨q817, q78, q820, ⟨by decide, by decide, by decide +kernel⟩, ⟨Nat.le_of_ble_eq_true rfl, Nat.le_of_ble_eq_true rfl⟩⟩, q818, q819⟩
theorem kL_law_31 : CLV mL_law 31 mX6_flips 1 := ⟨⟨q461, q69, q464, ⟨by decide, by decide, by decide +kernel⟩, ⟨Nat.le_of_ble_eq_true rfl, Nat.le_of_ble_eq_true rfl⟩⟩, q462, q463⟩
theorem kL_law_34 : CLV mL_law 34 mX7_flips 1 := ⟨⟨q829, q78, q832, ⟨by decide, by decide, by decide +kernel⟩, ⟨Nat.le_of_ble_eq_true rfl, Nat.le_of_ble_eq_true rfl⟩⟩, q830, q831⟩
theorem kL_law_35 : CLV mL_law 35 mX6_undo 0 := ⟨⟨q469, q69, q472, ⟨by decide, by decide, by decide +kernel⟩, ⟨Nat.le_of_ble_eq_true rfl, Nat.le_of_ble_eq_true rfl⟩⟩, q470, q471⟩
theorem kL_law_38 : CLV mL_law 38 mX7_undo 0 := ⟨⟨q833, q78, q836, ⟨by decide, by decide, by decide +kernel⟩, ⟨Nat.le_of_ble_eq_true rfl, Nat.le_of_ble_eq_true rfl⟩⟩, q834, q835⟩
theorem kL_law_39 : CLV mL_law 39 mX6_step 2 := ⟨⟨q477, q69, q480, ⟨by decide, by decide, by decide +kernel⟩, ⟨Nat.le_of_ble_eq_true rfl, Nat.le_of_ble_eq_true rfl⟩⟩, q478, q479⟩
theorem kL_law_43 : CLV mL_law 43 mX7_step 2 := ⟨⟨q837, q78, q840, ⟨by decide, by decide, by decide +kernel⟩, ⟨Nat.le_of_ble_eq_true rfl, Nat.le_of_ble_eq_true rfl⟩⟩, q838, q839⟩
theorem kL_law_44 : CLV mL_law 44 mX6_arc 3 := ⟨⟨q486, q69, q489, ⟨by decide, by decide, by decide +kernel⟩, ⟨Nat.le_of_ble_eq_true rfl, Nat.le_of_ble_eq_true rfl⟩⟩, q487, q488⟩
theorem kL_law_48 : CLV mL_law 48 mX7_arc 3 := ⟨⟨q845, q78, q848, ⟨by decide, by decide, by decide +kernel⟩, ⟨Nat.le_of_ble_eq_true rfl, Nat.le_of_ble_eq_true rfl⟩⟩, q846, q847⟩
theorem kL_law_49 : CLV mL_law 49 mX6_state 2 := ⟨⟨q496, q69, q499, ⟨by decide, by decide, by decide +kernel⟩, ⟨Nat.le_of_ble_eq_true rfl, Nat.le_of_ble_eq_true rfl⟩⟩, q497, q498⟩
theorem kL_law_52 : CLV mL_law 52 mX7_state 2 := ⟨⟨q849, q78, q852, ⟨by decide, by decide, by decide +kernel⟩, ⟨Nat.le_of_ble_eq_true rfl, Nat.le_of_ble_eq_true rfl⟩⟩, q850, q851⟩
theorem kL_law_53 : CLV mL_law 53 mX6_weight 3 := ⟨⟨q508, q69, q511, ⟨by decide, by decide, by decide +kernel⟩, ⟨Nat.le_of_ble_eq_true rfl, Nat.le_of_ble_eq_true rfl⟩⟩, q509, q510⟩
theorem kL_law_56 : CLV mL_law 56 mX7_weight 3 := ⟨⟨q853, q78, q856, ⟨by decide, by decide, by decide +kernel⟩, ⟨Nat.le_of_ble_eq_true rfl, Nat.le_of_ble_eq_true rfl⟩⟩, q854, q855⟩
theorem kL_law_57 : CLV mL_law 57 mX6_rows 1 := ⟨⟨q544, q69, q547, ⟨by decide, by decide, by decide +kernel⟩, ⟨Nat.le_of_ble_eq_true rfl, Nat.le_of_ble_eq_true rfl⟩⟩, q545, q546⟩
theorem kL_law_60 : CLV mL_law 60 mX7_rows 1 := ⟨⟨q862, q78, q865, ⟨by decide, by decide, by decide +kernel⟩, ⟨Nat.le_of_ble_eq_true rfl, Nat.le_of_ble_eq_true rfl⟩⟩, q863, q864⟩
theorem kL_law_61 : CLV mL_law 61 mX6_word 2 := ⟨⟨q562, q69, q565, ⟨by decide, by decide, by decide +kernel⟩, ⟨Nat.le_of_ble_eq_true rfl, Nat.le_of_ble_eq_true rfl⟩⟩, q563, q564⟩
theorem kL_law_64 : CLV mL_law 64 mX7_word 2 := ⟨⟨q871, q78, q874, ⟨by decide, by decide, by decide +kernel⟩, ⟨Nat.le_of_ble_eq_true rfl, Nat.le_of_ble_eq_true rfl⟩⟩, q872, q873⟩
theorem kL_law_65 : CLV mL_law 65 mX6_wrong 1 := ⟨⟨q586, q69, q589, ⟨by decide, by decide, by decide +kernel⟩, ⟨Nat.le_of_ble_eq_true rfl, Nat.le_of_ble_eq_true rfl⟩⟩, q587, q588⟩
theorem kL_law_68 : CLV mL_law 68 mX7_wrong 1 := ⟨⟨q900, q78, q903, ⟨by decide, by decide, by decide +kernel⟩, ⟨Nat.le_of_ble_eq_true rfl, Nat.le_of_ble_eq_true rfl⟩⟩, q901, q902⟩
theorem kL_law_69 : CLV mL_law 69 mX6_sees 1 := ⟨⟨q590, q69, q593, ⟨by decide, by decide, by decide +kernel⟩, ⟨Nat.le_of_ble_eq_true rfl, Nat.le_of_ble_eq_true rfl⟩⟩, q591, q592⟩
theorem kL_law_72 : CLV mL_law 72 mX7_sees 1 := ⟨⟨q904, q78, q907, ⟨by decide, by decide, by decide +kernel⟩, ⟨Nat.le_of_ble_eq_true rfl, Nat.le_of_ble_eq_true rfl⟩⟩, q905, q906⟩
theorem kL_law_73 : CLV mL_law 73 mX6_forget 0 := ⟨⟨q594, q69, q597, ⟨by decide, by decide, by decide +kernel⟩, ⟨Nat.le_of_ble_eq_true rfl, Nat.le_of_ble_eq_true rfl⟩⟩, q595, q596⟩
theorem kL_law_76 : CLV mL_law 76 mX7_forget 0 := ⟨⟨q908, q78, q911, ⟨by decide, by decide, by decide +kernel⟩, ⟨Nat.le_of_ble_eq_true rfl, Nat.le_of_ble_eq_true rfl⟩⟩, q909, q910⟩
theorem kL_law_77 : CLV mL_law 77 mX6_which 1 := ⟨⟨q598, q69, q601, ⟨by decide, by decide, by decide +kernel⟩, ⟨Nat.le_of_ble_eq_true rfl, Nat.le_of_ble_eq_true rfl⟩⟩, q599, q600⟩
theorem kL_law_80 : CLV mL_law 80 mX7_which 1 := ⟨⟨q912, q78, q915, ⟨by decide, by decide, by decide +kernel⟩, ⟨Nat.le_of_ble_eq_true rfl, Nat.le_of_ble_eq_true rfl⟩⟩, q913, q914⟩
theorem kL_law_81 : CLV mL_law 81 mX6_ask 0 := ⟨⟨q614, q69, q617, ⟨by decide, by decide, by decide +kernel⟩, ⟨Nat.le_of_ble_eq_true rfl, Nat.le_of_ble_eq_true rfl⟩⟩, q615, q616⟩
theorem kL_law_84 : CLV mL_law 84 mX7_ask 0 := ⟨⟨q920, q78, q923, ⟨by decide, by decide, by decide +kernel⟩, ⟨Nat.le_of_ble_eq_true rfl, Nat.le_of_ble_eq_true rfl⟩⟩, q921, q922⟩
theorem kL_law_85 : CLV mL_law 85 mX6_keep 1 := ⟨⟨q634, q69, q637, ⟨by decide, by decide, by decide +kernel⟩, ⟨Nat.le_of_ble_eq_true rfl, Nat.le_of_ble_eq_true rfl⟩⟩, q635, q636⟩
theorem kL_law_88 : CLV mL_law 88 mX7_keep 1 := ⟨⟨q924, q78, q927, ⟨by decide, by decide, by decide +kernel⟩, ⟨Nat.le_of_ble_eq_true rfl, Nat.le_of_ble_eq_true rfl⟩⟩, q925, q926⟩
theorem kL_law_89 : CLV mL_law 89 mX6_back 1 := ⟨⟨q641, q69, q644, ⟨by decide, by decide, by decide +kernel⟩, ⟨Nat.le_of_ble_eq_true rfl, Nat.le_of_ble_eq_true rfl⟩⟩, q642, q643⟩
theorem kL_law_92 : CLV mL_law 92 mX7_back 1 := ⟨⟨q928, q78, q931, ⟨by decide, by decide, by decide +kernel⟩, ⟨Nat.le_of_ble_eq_true rfl, Nat.le_of_ble_eq_true rfl⟩⟩, q929, q930⟩
theorem kL_law_93 : CLV mL_law 93 mX6_count 1 := ⟨⟨q645, q69, q648, ⟨by decide, by decide, by decide +kernel⟩, ⟨Nat.le_of_ble_eq_true rfl, Nat.le_of_ble_eq_true rfl⟩⟩, q646, q647⟩
theorem kL_law_96 : CLV mL_law 96 mX7_count 1 := ⟨⟨q932, q78, q935, ⟨by decide, by decide, by decide +kernel⟩, ⟨Nat.le_of_ble_eq_true rfl, Nat.le_of_ble_eq_true rfl⟩⟩, q933, q934⟩
end
section
/-! ===== calls that make no cell ===== -/
def retI (z : Int) (h : AH) : PT := fun r h' => r = some (aI z) ∧ h' = h
def retV (h : AH) : PT := fun r h' => r = none ∧ h' = h
theorem retI_mk {z z0 : Int} {h : AH} (e : z = z0) : retI z0 h (some (aI z)) h := ⟨by rw [e], rfl⟩
theorem retI_mk2 {z z0 : Int} {h h0 : AH} (e : z = z0) (e2 : h = h0) : retI z0 h0 (some (aI z)) h := ⟨by rw [e], e2⟩
def b2i (b : Bool) : Int := if b then 1 else 0
theorem b2i_01 (b : Bool) : b2i b = 0 ∨ b2i b = 1 := by cases b <;> simp [b2i]
theorem b2i_t : b2i true = 1 := rfl
theorem b2i_f : b2i false = 0 := rfl
theorem b2i_0 {b : Bool} : b2i b = 0 ↔ b = false := by cases b <;> simp [b2i]
theorem b2i_1 {b : Bool} : b2i b = 1 ↔ b = true := by cases b <;> simp [b2i]
theorem b2i_n0 {b : Bool} : ¬ b2i b = 0 ↔ b = true := by cases b <;> simp [b2i]
section WR
variable {g : GL} {M : MD} {kc ks pc q : Nat} {ls : List (Option AV)} {st : List AV} {h : AH} {P : PT}
theorem x_cp {M' : MD} {as : List AV} {P1 P2 : PT} (k : Cv g M' as h P1) (hp : ∀ r h', P1 r h' → P2 r h') : Cv g M' as h P2 := by
  intro p e ha hc hk s m args below hf happ hP hK
  obtain ⟨t, o, a1, a2, a3, ⟨⟨⟨r, h', c1, c2, c3, c4⟩, b3⟩, b4⟩⟩ := k p e ha hc hk s m args below hf happ hP hK
  exact ⟨t, o, a1, a2, a3, ⟨⟨⟨r, h', c1, c2, hp r h' c3, c4⟩, b3⟩, b4⟩⟩
theorem x_V {M' : MD} {idx n b ci N : Nat} {as rest : List AV} {P' : PT} (hd : decode M.2.1 pc = .ok (.invokevirtual idx, 3)) (hq : pc + 3 = q) (hm : CLV M idx M' n) (hC : Cv g M' (aR b :: as) h P') (hst0 : st = (aR b :: as).reverse ++ rest) (hn : as.length = n) (hc : h.1[b]? = some (ci + 3, N)) (h8 : ci < 8) (hcn : CNn ci = M'.1.cls) (hrest : (rest.map catA).sum ≤ 8) (hz : M'.2.2.2.2.cells = 0 ∧ M'.2.2.2.2.slots = 0) (hcells : kc ≤ M.2.2.2.2.cells ∧ ks ≤ M.2.2.2.2.slots)
    (kk : ∀ r h', P' r h' → Wv g M kc ks q ls (r.toList ++ rest) h' P) : Wv g M kc ks pc ls st h P := by
  refine x_callV hd hq hm hC hst0 hn hc h8 hcn hrest (by rw [hz.1, hz.2]; exact hcells) ?_
  rw [hz.1, hz.2]
  exact kk
theorem x_S {M' : MD} {idx n : Nat} {as rest : List AV} {P' : PT} (hd : decode M.2.1 pc = .ok (.invokestatic idx, 3)) (hq : pc + 3 = q) (hm : CLS M idx M' n) (hC : Cv g M' as h P') (hst0 : st = as.reverse ++ rest) (hn : as.length = n) (hrest : (rest.map catA).sum ≤ 8) (hz : M'.2.2.2.2.cells = 0 ∧ M'.2.2.2.2.slots = 0) (hcells : kc ≤ M.2.2.2.2.cells ∧ ks ≤ M.2.2.2.2.slots)
    (kk : ∀ r h', P' r h' → Wv g M kc ks q ls (r.toList ++ rest) h' P) : Wv g M kc ks pc ls st h P := by
  refine x_callS hd hq hm hC hst0 hn hrest (by rw [hz.1, hz.2]; exact hcells) ?_
  rw [hz.1, hz.2]
  exact kk
theorem x_VI {M' : MD} {idx n b ci N : Nat} {as rest : List AV} {z : Int} (hd : decode M.2.1 pc = .ok (.invokevirtual idx, 3)) (hq : pc + 3 = q) (hm : CLV M idx M' n) (hC : Cv g M' (aR b :: as) h (retI z h)) (hst0 : st = (aR b :: as).reverse ++ rest) (hn : as.length = n) (hc : h.1[b]? = some (ci + 3, N)) (h8 : ci < 8) (hcn : CNn ci = M'.1.cls) (hrest : (rest.map catA).sum ≤ 8) (hz : M'.2.2.2.2.cells = 0 ∧ M'.2.2.2.2.slots = 0) (hcells : kc ≤ M.2.2.2.2.cells ∧ ks ≤ M.2.2.2.2.slots)
    (kk : Wv g M kc ks q ls (aI z :: rest) h P) : Wv g M kc ks pc ls st h P :=
  x_V hd hq hm hC hst0 hn hc h8 hcn hrest hz hcells (fun r h' hp => by obtain ⟨rfl, rfl⟩ := hp; exact kk)
theorem x_SI {M' : MD} {idx n : Nat} {as rest : List AV} {z : Int} (hd : decode M.2.1 pc = .ok (.invokestatic idx, 3)) (hq : pc + 3 = q) (hm : CLS M idx M' n) (hC : Cv g M' as h (retI z h)) (hst0 : st = as.reverse ++ rest) (hn : as.length = n) (hrest : (rest.map catA).sum ≤ 8) (hz : M'.2.2.2.2.cells = 0 ∧ M'.2.2.2.2.slots = 0) (hcells : kc ≤ M.2.2.2.2.cells ∧ ks ≤ M.2.2.2.2.slots)
    (kk : Wv g M kc ks q ls (aI z :: rest) h P) : Wv g M kc ks pc ls st h P :=
  x_S hd hq hm hC hst0 hn hrest hz hcells (fun r h' hp => by obtain ⟨rfl, rfl⟩ := hp; exact kk)
/-- a loop that counts up -/
theorem x_up {S : Nat → Prop} (n : Nat) (hx : S n) (hs : ∀ i, i < n → S (i + 1) → S i) : ∀ i, i ≤ n → S i := by
  intro i hi
  obtain ⟨d, rfl⟩ : ∃ d, n = i + d := ⟨n - i, by omega⟩
  clear hi
  induction d generalizing i with
  | zero => exact hx
  | succ d ih => exact hs i (by omega) (ih (i + 1) (by rw [show i + 1 + d = i + (d + 1) by omega]; exact hx) (fun j hj => hs j (by omega)))
/-- a loop by a measure -/
theorem x_ms {σ : Type} {S : σ → Prop} (μ : σ → Nat) (hs : ∀ s, (∀ s', μ s' < μ s → S s') → S s) (s : σ) : S s :=
  (measure μ).wf.induction s hs
theorem inI_pw {s : Int} (h0 : 0 ≤ s) (h1 : s ≤ 20) : inI (1 * 2 ^ s.toNat) := by
  have : ∀ n : Nat, n ≤ 20 → inIb (1 * 2 ^ n) = true := by decide +kernel
  exact inI_b (this s.toNat (by omega))
theorem nn_dv {a s : Int} (h : 0 ≤ a) : 0 ≤ a / 2 ^ s.toNat := Int.ediv_nonneg h (Int.le_of_lt (Int.pow_pos (by decide)))
end WR
end
section
/-! ===== bits: rows and rules ===== -/
theorem and1 {a : Int} (h : 0 ≤ a) : ((a.toNat &&& (1 : Int).toNat : Nat) : Int) = a % 2 := by
  rw [show ((1 : Int).toNat) = 1 from rfl, Nat.and_one_is_mod]
  omega
theorem andM {a : Int} {k : Nat} (h : 0 ≤ a) : ((a.toNat &&& ((2 : Int) ^ k - 1).toNat : Nat) : Int) = a % 2 ^ k := by
  have e1 : ((2 : Int) ^ k - 1).toNat = 2 ^ k - 1 := by
    have h1 : (1 : Int) ≤ 2 ^ k := Int.pow_pos (by decide)
    have h2 : ((2 ^ k : Nat) : Int) = 2 ^ k := by simp
    have h3 : 1 ≤ 2 ^ k := Nat.one_le_two_pow
    omega
  rw [e1, Nat.and_two_pow_sub_one_eq_mod]
  have h2 : ((2 ^ k : Nat) : Int) = 2 ^ k := by simp
  rw [Int.natCast_emod, h2, Int.toNat_of_nonneg h]
theorem orP {a : Int} {k : Nat} (h : 0 ≤ a) (h2 : a < 2 ^ k) : ((a.toNat ||| ((2 : Int) ^ k).toNat : Nat) : Int) = a + 2 ^ k := by
  have h3 : ((2 ^ k : Nat) : Int) = 2 ^ k := by simp
  have e1 : ((2 : Int) ^ k).toNat = 2 ^ k := by omega
  have h4 : a.toNat < 2 ^ k := by omega
  rw [e1, Nat.or_comm]
  have := Nat.two_pow_add_eq_or_of_lt h4 1
  rw [Nat.mul_one] at this
  rw [← this]
  omega
section BT
variable {g : GL} {M : MD} {kc ks pc q : Nat} {ls : List (Option AV)} {st : List AV} {h : AH} {P : PT}
theorem x_and1 {a : Int} (hd : decode M.2.1 pc = .ok (.iand, 1)) (hq : pc + 1 = q) (h0 : 0 ≤ a) (kk : Wv g M kc ks q ls (aI (a % 2) :: st) h P) : Wv g M kc ks pc ls (aI 1 :: aI a :: st) h P := by
  refine x_and hd hq h0 (by decide) ?_
  rw [and1 h0]
  exact kk
theorem x_andM {a : Int} {k : Nat} (hd : decode M.2.1 pc = .ok (.iand, 1)) (hq : pc + 1 = q) (h0 : 0 ≤ a) (kk : Wv g M kc ks q ls (aI (a % 2 ^ k) :: st) h P) : Wv g M kc ks pc ls (aI (2 ^ k - 1) :: aI a :: st) h P := by
  refine x_and hd hq h0 (by have : (1 : Int) ≤ 2 ^ k := Int.pow_pos (by decide); omega) ?_
  rw [andM h0]
  exact kk
theorem x_pow {a : Int} (hd : decode M.2.1 pc = .ok (.ishl, 1)) (hq : pc + 1 = q) (h0 : 0 ≤ a) (h1 : a ≤ 20) (kk : Wv g M kc ks q ls (aI (2 ^ a.toNat) :: st) h P) : Wv g M kc ks pc ls (aI a :: aI 1 :: st) h P := by
  refine x_shl hd hq (by decide) h0 (by omega) (inI_pw h0 h1) ?_
  rw [Int.one_mul]
  exact kk
theorem x_orP {a : Int} {k : Nat} (hd : decode M.2.1 pc = .ok (.ior, 1)) (hq : pc + 1 = q) (h0 : 0 ≤ a) (h1 : a < 2 ^ k) (kk : Wv g M kc ks q ls (aI (a + 2 ^ k) :: st) h P) : Wv g M kc ks pc ls (aI (2 ^ k) :: aI a :: st) h P := by
  refine x_or hd hq h0 (Int.le_of_lt (Int.pow_pos (by decide))) ?_
  rw [orP h0 h1]
  exact kk
end BT
theorem pw_le {k n : Nat} (h : k ≤ n) : (2 : Int) ^ k ≤ 2 ^ n := by
  have : 2 ^ k ≤ 2 ^ n := Nat.pow_le_pow_right (by decide) h
  have h2 : ((2 ^ k : Nat) : Int) = 2 ^ k := by simp
  have h3 : ((2 ^ n : Nat) : Int) = 2 ^ n := by simp
  omega
theorem pw_pos (k : Nat) : (0 : Int) < 2 ^ k := Int.pow_pos (by decide)
/-- the number whose bits below n are f -/
def mk (f : Nat → Bool) : Nat → Int
  | 0 => 0
  | n + 1 => mk f n + (if f n then 2 ^ n else 0)
theorem mk_rng (f : Nat → Bool) : ∀ n, 0 ≤ mk f n ∧ mk f n < 2 ^ n
  | 0 => ⟨Int.le_refl _, by show (0 : Int) < 1; decide⟩
  | n + 1 => by
    have ih := mk_rng f n
    have e : (2 : Int) ^ (n + 1) = 2 ^ n + 2 ^ n := by rw [Int.pow_succ]; omega
    have hp := pw_pos n
    unfold mk
    rw [e]
    split <;> omega
theorem mk_bit (f : Nat → Bool) : ∀ n s, (mk f n / 2 ^ s) % 2 = if s < n ∧ f s = true then 1 else 0
  | 0, s => by simp [mk]
  | n + 1, s => by
    have ih := mk_bit f n s
    have hr := mk_rng f n
    have hp := pw_pos s
    unfold mk
    rcases Nat.lt_trichotomy s n with h | h | h
    · obtain ⟨d, rfl⟩ : ∃ d, n = s + 1 + d := ⟨n - s - 1, by omega⟩
      have e1 : (if f (s + 1 + d) then (2 : Int) ^ (s + 1 + d) else 0) = 2 ^ s * (2 * (if f (s + 1 + d) then 2 ^ d else 0)) := by
        split
        · rw [Int.pow_add, Int.pow_succ]; simp [Int.mul_assoc]
        · simp
      rw [e1, Int.add_mul_ediv_left _ _ (by omega)]
      have e2 : (mk f (s + 1 + d) / 2 ^ s + 2 * (if f (s + 1 + d) then 2 ^ d else 0)) % 2 = (mk f (s + 1 + d) / 2 ^ s) % 2 := by omega
      rw [e2, ih]
      by_cases hf : f s = true
      · rw [if_pos ⟨by omega, hf⟩, if_pos ⟨by omega, hf⟩]
      · rw [if_neg (fun z => hf z.2), if_neg (fun z => hf z.2)]
    · subst h
      by_cases hf : f s = true
      · rw [if_pos hf, if_pos ⟨by omega, hf⟩]
        have : (mk f s + 2 ^ s) / 2 ^ s = 1 := by
          rw [show mk f s + 2 ^ s = mk f s + 2 ^ s * 1 by omega, Int.add_mul_ediv_left _ _ (by omega), Int.ediv_eq_zero_of_lt hr.1 hr.2]
          rfl
        rw [this]; rfl
      · rw [if_neg hf, if_neg (fun z => hf z.2), Int.add_zero, Int.ediv_eq_zero_of_lt hr.1 hr.2]; rfl
    · have hle : (2 : Int) ^ (n + 1) ≤ 2 ^ s := pw_le (by omega)
      have e : (2 : Int) ^ (n + 1) = 2 ^ n + 2 ^ n := by rw [Int.pow_succ]; omega
      have hz : (mk f n + if f n = true then 2 ^ n else 0) / 2 ^ s = 0 := by
        have hp2 := pw_pos n
        apply Int.ediv_eq_zero_of_lt
        · split <;> omega
        · split <;> omega
      rw [hz, if_neg (by omega)]; rfl
theorem mk_cong {f g : Nat → Bool} : ∀ {n}, (∀ s, s < n → f s = g s) → mk f n = mk g n
  | 0, _ => rfl
  | n + 1, h => by
    unfold mk
    rw [mk_cong (fun s hs => h s (by omega)), h n (by omega)]
theorem mk_inj {f g : Nat → Bool} {n : Nat} (h : mk f n = mk g n) : ∀ s, s < n → f s = g s := by
  intro s hs
  have h1 := mk_bit f n s
  have h2 := mk_bit g n s
  rw [h] at h1
  rw [h1] at h2
  by_cases hf : f s = true <;> by_cases hg : g s = true <;> simp [hs, hf, hg] at h2 ⊢
theorem mk_no : ∀ n, mk (fun _ => false) n = 0
  | 0 => rfl
  | n + 1 => by unfold mk; simp [mk_no n]
theorem mk_0 {f : Nat → Bool} {n : Nat} : mk f n = 0 ↔ ∀ s, s < n → f s = false := by
  constructor
  · intro h s hs
    have h1 := mk_bit f n s
    rw [h] at h1
    by_cases hf : f s = true
    · rw [if_pos ⟨hs, hf⟩] at h1
      simp at h1
    · simpa using hf
  · intro h
    rw [mk_cong (g := fun _ => false) h, mk_no]
section GE
variable {g : GL} {M : MD} {kc ks pc q : Nat} {ls : List (Option AV)} {st : List AV} {sh : List (Nat × Nat)} {rf : Nat → Nat → Option Nat} {v : Nat → Nat → Int} {P : PT}
theorem x_getIe {idx ci k c : Nat} {z : Int} (hd : decode M.2.1 pc = .ok (.getfield idx, 3)) (hq : pc + 3 = q) (hf : FL M.1.cls idx ci k) (hc : sh[c]? = some (ci + 3, NFn ci)) (hi : isR (fty ci k) = false) (hv : v c k = z) (kk : Wv g M kc ks q ls (aI z :: st) (sh, rf, v) P) : Wv g M kc ks pc ls (aR c :: st) (sh, rf, v) P := x_getI hd hq hf hc hi (by rw [hv]; exact kk)
theorem x_ialde {c n : Nat} {i z : Int} (hd : decode M.2.1 pc = .ok (.iaload, 1)) (hq : pc + 1 = q) (hc : sh[c]? = some (0, n)) (h0 : 0 ≤ i) (h1 : i < n) (hv : v c i.toNat = z) (kk : Wv g M kc ks q ls (aI z :: st) (sh, rf, v) P) : Wv g M kc ks pc ls (aI i :: aR c :: st) (sh, rf, v) P := x_iald hd hq hc h0 h1 (by rw [hv]; exact kk)
theorem x_zalde {c n : Nat} {i z : Int} (hd : decode M.2.1 pc = .ok (.baload, 1)) (hq : pc + 1 = q) (hc : sh[c]? = some (1, n)) (h0 : 0 ≤ i) (h1 : i < n) (hv : v c i.toNat = z) (kk : Wv g M kc ks q ls (aI z :: st) (sh, rf, v) P) : Wv g M kc ks pc ls (aI i :: aR c :: st) (sh, rf, v) P := x_zald hd hq hc h0 h1 (by rw [hv]; exact kk)
theorem x_top {h : AH} {a b : Int} (e : a = b) (kk : Wv g M kc ks pc ls (aI b :: st) h P) : Wv g M kc ks pc ls (aI a :: st) h P := by rw [e]; exact kk
theorem x_heap {h h' : AH} (e : h = h') (kk : Wv g M kc ks pc ls st h' P) : Wv g M kc ks pc ls st h P := by rw [e]; exact kk
end GE
end
section
/-! ===== the class's cells ===== -/
def SHc : List (Nat × Nat) := [(9, 11), (8, 5), (0, 60), (4, 5), (5, 2), (4, 5), (6, 5), (0, 24), (0, 24), (0, 24), (3, 8), (0, 112), (0, 112), (0, 7), (0, 7), (7, 2), (0, 7), (0, 7), (2, 6), (5, 2), (4, 5), (6, 5), (0, 24), (0, 24), (0, 24), (5, 2), (4, 5), (6, 5), (0, 24), (0, 24), (0, 24), (5, 2), (4, 5), (6, 5), (0, 24), (0, 24), (0, 24), (5, 2), (4, 5), (6, 5), (0, 24), (0, 24), (0, 24), (5, 2), (4, 5), (6, 5), (0, 24), (0, 24), (0, 24), (5, 2), (4, 5), (6, 5), (0, 24), (0, 24), (0, 24), (2, 2), (5, 2), (4, 5), (6, 5), (0, 24), (0, 24), (0, 24), (5, 2), (4, 5), (6, 5), (0, 24), (0, 24), (0, 24), (1, 2), (0, 6)]
/-- where references lead that never change: (cell, field) -/
def RFl : Nat → Nat → Option Nat := fun c k => match c, k with
  | 0, 0 => some 1
  | 0, 1 => some 3
  | 0, 2 => some 4
  | 0, 3 => some 10
  | 0, 4 => some 15
  | 0, 5 => some 18
  | 0, 7 => some 55
  | 0, 8 => some 68
  | 0, 9 => some 69
  | 1, 0 => some 2
  | 4, 0 => some 5
  | 4, 1 => some 6
  | 6, 0 => some 7
  | 6, 1 => some 8
  | 6, 2 => some 9
  | 10, 4 => some 11
  | 10, 5 => some 12
  | 10, 6 => some 13
  | 10, 7 => some 14
  | 15, 0 => some 16
  | 15, 1 => some 17
  | 19, 0 => some 20
  | 19, 1 => some 21
  | 21, 0 => some 22
  | 21, 1 => some 23
  | 21, 2 => some 24
  | 25, 0 => some 26
  | 25, 1 => some 27
  | 27, 0 => some 28
  | 27, 1 => some 29
  | 27, 2 => some 30
  | 31, 0 => some 32
  | 31, 1 => some 33
  | 33, 0 => some 34
  | 33, 1 => some 35
  | 33, 2 => some 36
  | 37, 0 => some 38
  | 37, 1 => some 39
  | 39, 0 => some 40
  | 39, 1 => some 41
  | 39, 2 => some 42
  | 43, 0 => some 44
  | 43, 1 => some 45
  | 45, 0 => some 46
  | 45, 1 => some 47
  | 45, 2 => some 48
  | 49, 0 => some 50
  | 49, 1 => some 51
  | 51, 0 => some 52
  | 51, 1 => some 53
  | 51, 2 => some 54
  | 55, 0 => some 56
  | 55, 1 => some 62
  | 56, 0 => some 57
  | 56, 1 => some 58
  | 58, 0 => some 59
  | 58, 1 => some 60
  | 58, 2 => some 61
  | 62, 0 => some 63
  | 62, 1 => some 64
  | 64, 0 => some 65
  | 64, 1 => some 66
  | 64, 2 => some 67
  | _, _ => none
def Ext (sh : List (Nat × Nat)) : Prop := ∀ (c : Nat) (kl : Nat × Nat), SHc[c]? = some kl → sh[c]? = some kl
def Rok (rf : Nat → Nat → Option Nat) : Prop := ∀ (c k d : Nat), RFl c k = some d → rf c k = some d
abbrev Cfg : Type := Int × Int × Int × Int × Int
def banOf (v : Nat → Nat → Int) (c : Nat) : Cfg := (v c 0, v c 1, v c 2, v c 3, v c 4)
def VBan (so lo hi : Int) : Prop := (so = 0 ∧ 0 ≤ lo ∧ lo ≤ 3 ∧ lo ≤ hi ∧ 1 ≤ hi ∧ hi ≤ 5) ∨ (so = 1 ∧ 1 ≤ lo ∧ lo ≤ 3 ∧ hi = 3) ∨ (so = 2 ∧ 0 ≤ lo ∧ lo < 32 ∧ 2 ≤ hi ∧ hi ≤ 5)
def Vld (c : Cfg) : Prop := VBan c.1 c.2.1 c.2.2.1 ∧ 1 ≤ c.2.2.2.1 ∧ c.2.2.2.1 ≤ 3 ∧ 1 ≤ c.2.2.2.2 ∧ c.2.2.2.2 ≤ 4
def nst (so lo hi : Int) : Int := if so = 0 then hi + 1 else if so = 1 then 2 * lo + 1 else hi
theorem nst_rng {so lo hi : Int} (h : VBan so lo hi) : 2 ≤ nst so lo hi ∧ nst so lo hi ≤ 7 := by
  unfold nst
  rcases h with ⟨h1, h2⟩ | ⟨h1, h2⟩ | ⟨h1, h2⟩
  · rw [if_pos h1]; omega
  · rw [if_neg (by omega), if_pos h1]; omega
  · rw [if_neg (by omega), if_neg (by omega)]; omega
def fbits (lo hi n : Int) : Int := lo / 2 ^ (hi - n).toNat
def stW (lo hi latest : Int) : Nat → Int
  | 0 => 0
  | n + 1 => if latest % 2 ^ (n + 1) = fbits lo hi ((n + 1 : Nat) : Int) then (if ((n + 1 : Nat) : Int) = hi then -9 else ((n + 1 : Nat) : Int)) else stW lo hi latest n
def stR (lo hi s b : Int) : Int := if b = 0 then (if s < hi then s + 1 else -9) else (if lo ≤ s then 0 else -9)
def stC (lo s b : Int) : Int := if (if b = 1 then s + 1 else s - 1) < 0 ∨ 2 * lo < (if b = 1 then s + 1 else s - 1) then -9 else (if b = 1 then s + 1 else s - 1)
/-- where a bit leads -/
def stp (so lo hi s b : Int) : Int := if so = 0 then stR lo hi s b else if so = 1 then stC lo s b else stW lo hi (fbits lo hi s * 2 + b) (s + 1).toNat
section BAN
variable {g : GL} {sh : List (Nat × Nat)} {rf : Nat → Nat → Option Nat} {v : Nat → Nat → Int}

set_option maxHeartbeats 4000000 in
set_option maxRecDepth 100000 in
theorem c_tagCount {c : Nat} (hb : sh[c]? = some (4, 5)) (h0 : 0 ≤ v c 3) (h1 : v c 3 ≤ 20) : Cv g mX1_tagCount [aR c] (sh, rf, v) (retI (2 ^ (v c 3).toNat) (sh, rf, v)) := by
  refine x_entry (ls := [some (aR c)]) rfl rfl (Nat.le_of_ble_eq_true rfl) ?_
  refine x_ic (q := 1) dX1_tagCount_0 rfl rfl ?_
  refine x_al_n (q := 2) dX1_tagCount_1 rfl rfl ?_
  refine x_getI (q := 5) dX1_tagCount_2 rfl fX1_24 (by assumption) rfl ?_
  refine x_pow (q := 6) dX1_tagCount_5 rfl h0 h1 ?_
  exact x_iret dX1_tagCount_6 rfl rfl (Nat.zero_le _) (retI_mk (by rfl))
set_option maxHeartbeats 4000000 in
set_option maxRecDepth 100000 in
theorem c_wordCount {c : Nat} (hb : sh[c]? = some (4, 5)) (h0 : 0 ≤ v c 4) (h1 : v c 4 ≤ 20) : Cv g mX1_wordCount [aR c] (sh, rf, v) (retI (2 ^ (v c 4).toNat) (sh, rf, v)) := by
  refine x_entry (ls := [some (aR c)]) rfl rfl (Nat.le_of_ble_eq_true rfl) ?_
  refine x_ic (q := 1) dX1_wordCount_0 rfl rfl ?_
  refine x_al_n (q := 2) dX1_wordCount_1 rfl rfl ?_
  refine x_getI (q := 5) dX1_wordCount_2 rfl fX1_27 (by assumption) rfl ?_
  refine x_pow (q := 6) dX1_wordCount_5 rfl h0 h1 ?_
  exact x_iret dX1_wordCount_6 rfl rfl (Nat.zero_le _) (retI_mk (by rfl))
set_option maxHeartbeats 4000000 in
set_option maxRecDepth 100000 in
theorem c_stateCount {c : Nat} (hb : sh[c]? = some (4, 5)) (hv : VBan (v c 0) (v c 1) (v c 2)) : Cv g mX1_stateCount [aR c] (sh, rf, v) (retI (nst (v c 0) (v c 1) (v c 2)) (sh, rf, v)) := by
  refine x_entry (ls := [some (aR c)]) rfl rfl (Nat.le_of_ble_eq_true rfl) ?_
  refine x_al_n (q := 1) dX1_stateCount_0 rfl rfl ?_
  refine x_getI (q := 4) dX1_stateCount_1 rfl fX1_14 (by assumption) rfl ?_
  rcases hv with hv | hv | hv
  · have hs := hv.1
    rw [hs]
    refine x_look (t := 32) dX1_stateCount_4 rfl rfl rfl ?_
    refine x_al_n (q := 33) dX1_stateCount_32 rfl rfl ?_
    refine x_getI (q := 36) dX1_stateCount_33 rfl fX1_21 (by assumption) rfl ?_
    refine x_ic (q := 37) dX1_stateCount_36 rfl rfl ?_
    refine x_add (q := 38) dX1_stateCount_37 rfl ⟨by omega, by omega⟩ ?_
    exact x_iret dX1_stateCount_38 rfl rfl (Nat.zero_le _) (retI_mk (by unfold nst; rfl))
  · have hs := hv.1
    rw [hs]
    refine x_look (t := 39) dX1_stateCount_4 rfl rfl rfl ?_
    refine x_ic (q := 40) dX1_stateCount_39 rfl rfl ?_
    refine x_al_n (q := 41) dX1_stateCount_40 rfl rfl ?_
    refine x_getI (q := 44) dX1_stateCount_41 rfl fX1_18 (by assumption) rfl ?_
    refine x_mul (q := 45) dX1_stateCount_44 rfl ⟨by omega, by omega⟩ ?_
    refine x_ic (q := 46) dX1_stateCount_45 rfl rfl ?_
    refine x_add (q := 47) dX1_stateCount_46 rfl ⟨by omega, by omega⟩ ?_
    exact x_iret dX1_stateCount_47 rfl rfl (Nat.zero_le _) (retI_mk (by unfold nst; rfl))
  · have hs := hv.1
    rw [hs]
    refine x_look (t := 48) dX1_stateCount_4 rfl rfl rfl ?_
    refine x_al_n (q := 49) dX1_stateCount_48 rfl rfl ?_
    refine x_getI (q := 52) dX1_stateCount_49 rfl fX1_21 (by assumption) rfl ?_
    exact x_iret dX1_stateCount_52 rfl rfl (Nat.zero_le _) (retI_mk (by unfold nst; rfl))
set_option maxHeartbeats 4000000 in
set_option maxRecDepth 100000 in
theorem c_start {c : Nat} (hb : sh[c]? = some (4, 5)) : Cv g mX1_start [aR c] (sh, rf, v) (retI (if v c 0 = 1 then v c 1 else 0) (sh, rf, v)) := by
  refine x_entry (ls := [some (aR c)]) rfl rfl (Nat.le_of_ble_eq_true rfl) ?_
  refine x_al_n (q := 1) dX1_start_0 rfl rfl ?_
  refine x_getI (q := 4) dX1_start_1 rfl fX1_14 (by assumption) rfl ?_
  refine x_ic (q := 5) dX1_start_4 rfl rfl ?_
  refine x_ic_ne (t := 15) (q := 8) dX1_start_5 rfl rfl (fun c_5 => ?_) (fun c_5 => ?_)
  · skip
    refine x_ic (q := 16) dX1_start_15 rfl rfl ?_
    exact x_iret dX1_start_16 rfl rfl (Nat.zero_le _) (retI_mk (by first | rw [if_pos c_5] | rw [if_neg c_5]))
  · skip
    refine x_al_n (q := 9) dX1_start_8 rfl rfl ?_
    refine x_getI (q := 12) dX1_start_9 rfl fX1_18 (by assumption) rfl ?_
    refine x_goto (t := 16) dX1_start_12 rfl ?_
    exact x_iret dX1_start_16 rfl rfl (Nat.zero_le _) (retI_mk (by first | rw [if_pos c_5] | rw [if_neg c_5]))
set_option maxHeartbeats 4000000 in
set_option maxRecDepth 100000 in
theorem c_leadOfRuns {c : Nat} {s b : Int} (hb : sh[c]? = some (4, 5)) (h0 : 0 ≤ s) (h1 : s ≤ 20) : Cv g mX1_leadOfRuns [aR c, aI s, aI b] (sh, rf, v) (retI (stR (v c 1) (v c 2) s b) (sh, rf, v)) := by
  refine x_entry (ls := [some (aR c), some (aI s), some (aI b)]) rfl rfl (Nat.le_of_ble_eq_true rfl) ?_
  refine x_il_n (q := 1) dX1_leadOfRuns_0 rfl rfl ?_
  refine x_if_ne (t := 21) (q := 4) dX1_leadOfRuns_1 rfl rfl (fun c_1 => ?_) (fun c_1 => ?_)
  · skip
    refine x_il_n (q := 22) dX1_leadOfRuns_21 rfl rfl ?_
    refine x_al_n (q := 23) dX1_leadOfRuns_22 rfl rfl ?_
    refine x_getI (q := 26) dX1_leadOfRuns_23 rfl fX1_18 (by assumption) rfl ?_
    refine x_ic_lt (t := 33) (q := 29) dX1_leadOfRuns_26 rfl rfl (fun c_26 => ?_) (fun c_26 => ?_)
    · skip
      refine x_bi (q := 35) dX1_leadOfRuns_33 rfl rfl ?_
      exact x_iret dX1_leadOfRuns_35 rfl rfl (Nat.zero_le _) (retI_mk (by unfold stR; (repeat' split) <;> omega))
    · skip
      refine x_ic (q := 30) dX1_leadOfRuns_29 rfl rfl ?_
      refine x_goto (t := 35) dX1_leadOfRuns_30 rfl ?_
      exact x_iret dX1_leadOfRuns_35 rfl rfl (Nat.zero_le _) (retI_mk (by unfold stR; (repeat' split) <;> omega))
  · skip
    refine x_il_n (q := 5) dX1_leadOfRuns_4 rfl rfl ?_
    refine x_al_n (q := 6) dX1_leadOfRuns_5 rfl rfl ?_
    refine x_getI (q := 9) dX1_leadOfRuns_6 rfl fX1_21 (by assumption) rfl ?_
    refine x_ic_ge (t := 18) (q := 12) dX1_leadOfRuns_9 rfl rfl (fun c_9 => ?_) (fun c_9 => ?_)
    · skip
      refine x_bi (q := 20) dX1_leadOfRuns_18 rfl rfl ?_
      exact x_iret dX1_leadOfRuns_20 rfl rfl (Nat.zero_le _) (retI_mk (by unfold stR; (repeat' split) <;> omega))
    · skip
      refine x_il_n (q := 13) dX1_leadOfRuns_12 rfl rfl ?_
      refine x_ic (q := 14) dX1_leadOfRuns_13 rfl rfl ?_
      refine x_add (q := 15) dX1_leadOfRuns_14 rfl ⟨by omega, by omega⟩ ?_
      refine x_goto (t := 20) dX1_leadOfRuns_15 rfl ?_
      exact x_iret dX1_leadOfRuns_20 rfl rfl (Nat.zero_le _) (retI_mk (by unfold stR; (repeat' split) <;> omega))
set_option maxHeartbeats 4000000 in
set_option maxRecDepth 100000 in
theorem c_leadOfCharge {c : Nat} {s b : Int} (hb : sh[c]? = some (4, 5)) (h0 : 0 ≤ s) (h1 : s ≤ 20) (h2 : 0 ≤ v c 1) (h3 : v c 1 ≤ 20) : Cv g mX1_leadOfCharge [aR c, aI s, aI b] (sh, rf, v) (retI (stC (v c 1) s b) (sh, rf, v)) := by
  refine x_entry (ls := [some (aR c), some (aI s), some (aI b), none]) rfl rfl (Nat.le_of_ble_eq_true rfl) ?_
  refine x_il_n (q := 1) dX1_leadOfCharge_0 rfl rfl ?_
  refine x_ic (q := 2) dX1_leadOfCharge_1 rfl rfl ?_
  refine x_ic_ne (t := 11) (q := 5) dX1_leadOfCharge_2 rfl rfl (fun c_2 => ?_) (fun c_2 => ?_)
  · skip
    refine x_il_n (q := 12) dX1_leadOfCharge_11 rfl rfl ?_
    refine x_ic (q := 13) dX1_leadOfCharge_12 rfl rfl ?_
    refine x_sub (q := 14) dX1_leadOfCharge_13 rfl ⟨by omega, by omega⟩ ?_
    refine x_is3 (q := 15) dX1_leadOfCharge_14 rfl rfl ?_
    refine x_il_n (q := 16) dX1_leadOfCharge_15 rfl rfl ?_
    refine x_if_lt (t := 29) (q := 19) dX1_leadOfCharge_16 rfl rfl (fun c_16 => ?_) (fun c_16 => ?_)
    · skip
      refine x_bi (q := 31) dX1_leadOfCharge_29 rfl rfl ?_
      refine x_goto (t := 35) dX1_leadOfCharge_31 rfl ?_
      exact x_iret dX1_leadOfCharge_35 rfl rfl (Nat.zero_le _) (retI_mk (by unfold stC; (repeat' split) <;> omega))
    · skip
      refine x_il_n (q := 20) dX1_leadOfCharge_19 rfl rfl ?_
      refine x_ic (q := 21) dX1_leadOfCharge_20 rfl rfl ?_
      refine x_al_n (q := 22) dX1_leadOfCharge_21 rfl rfl ?_
      refine x_getI (q := 25) dX1_leadOfCharge_22 rfl fX1_18 (by assumption) rfl ?_
      refine x_mul (q := 26) dX1_leadOfCharge_25 rfl ⟨by omega, by omega⟩ ?_
      refine x_ic_le (t := 34) (q := 29) dX1_leadOfCharge_26 rfl rfl (fun c_26 => ?_) (fun c_26 => ?_)
      · skip
        refine x_il_n (q := 35) dX1_leadOfCharge_34 rfl rfl ?_
        exact x_iret dX1_leadOfCharge_35 rfl rfl (Nat.zero_le _) (retI_mk (by unfold stC; (repeat' split) <;> omega))
      · skip
        refine x_bi (q := 31) dX1_leadOfCharge_29 rfl rfl ?_
        refine x_goto (t := 35) dX1_leadOfCharge_31 rfl ?_
        exact x_iret dX1_leadOfCharge_35 rfl rfl (Nat.zero_le _) (retI_mk (by unfold stC; (repeat' split) <;> omega))
  · skip
    refine x_il_n (q := 6) dX1_leadOfCharge_5 rfl rfl ?_
    refine x_ic (q := 7) dX1_leadOfCharge_6 rfl rfl ?_
    refine x_add (q := 8) dX1_leadOfCharge_7 rfl ⟨by omega, by omega⟩ ?_
    refine x_goto (t := 14) dX1_leadOfCharge_8 rfl ?_
    refine x_is3 (q := 15) dX1_leadOfCharge_14 rfl rfl ?_
    refine x_il_n (q := 16) dX1_leadOfCharge_15 rfl rfl ?_
    refine x_if_lt (t := 29) (q := 19) dX1_leadOfCharge_16 rfl rfl (fun c_16 => ?_) (fun c_16 => ?_)
    · skip
      refine x_bi (q := 31) dX1_leadOfCharge_29 rfl rfl ?_
      refine x_goto (t := 35) dX1_leadOfCharge_31 rfl ?_
      exact x_iret dX1_leadOfCharge_35 rfl rfl (Nat.zero_le _) (retI_mk (by unfold stC; (repeat' split) <;> omega))
    · skip
      refine x_il_n (q := 20) dX1_leadOfCharge_19 rfl rfl ?_
      refine x_ic (q := 21) dX1_leadOfCharge_20 rfl rfl ?_
      refine x_al_n (q := 22) dX1_leadOfCharge_21 rfl rfl ?_
      refine x_getI (q := 25) dX1_leadOfCharge_22 rfl fX1_18 (by assumption) rfl ?_
      refine x_mul (q := 26) dX1_leadOfCharge_25 rfl ⟨by omega, by omega⟩ ?_
      refine x_ic_le (t := 34) (q := 29) dX1_leadOfCharge_26 rfl rfl (fun c_26 => ?_) (fun c_26 => ?_)
      · skip
        refine x_il_n (q := 35) dX1_leadOfCharge_34 rfl rfl ?_
        exact x_iret dX1_leadOfCharge_35 rfl rfl (Nat.zero_le _) (retI_mk (by unfold stC; (repeat' split) <;> omega))
      · skip
        refine x_bi (q := 31) dX1_leadOfCharge_29 rfl rfl ?_
        refine x_goto (t := 35) dX1_leadOfCharge_31 rfl ?_
        exact x_iret dX1_leadOfCharge_35 rfl rfl (Nat.zero_le _) (retI_mk (by unfold stC; (repeat' split) <;> omega))
set_option maxHeartbeats 4000000 in
set_option maxRecDepth 100000 in
theorem c_firstBits {c : Nat} {n : Int} (hb : sh[c]? = some (4, 5)) (h0 : 0 ≤ v c 1) (h1 : 0 ≤ n) (h2 : n ≤ v c 2) (h3 : v c 2 ≤ 20) : Cv g mX1_firstBits [aR c, aI n] (sh, rf, v) (retI (fbits (v c 1) (v c 2) n) (sh, rf, v)) := by
  refine x_entry (ls := [some (aR c), some (aI n)]) rfl rfl (Nat.le_of_ble_eq_true rfl) ?_
  refine x_al_n (q := 1) dX1_firstBits_0 rfl rfl ?_
  refine x_getI (q := 4) dX1_firstBits_1 rfl fX1_18 (by assumption) rfl ?_
  refine x_al_n (q := 5) dX1_firstBits_4 rfl rfl ?_
  refine x_getI (q := 8) dX1_firstBits_5 rfl fX1_21 (by assumption) rfl ?_
  refine x_il_n (q := 9) dX1_firstBits_8 rfl rfl ?_
  refine x_sub (q := 10) dX1_firstBits_9 rfl ⟨by omega, by omega⟩ ?_
  refine x_shr (q := 11) dX1_firstBits_10 rfl (by omega) (by omega) (by omega) ?_
  exact x_iret dX1_firstBits_11 rfl rfl (Nat.zero_le _) (retI_mk (by rfl))
theorem fb_rng {lo hi n : Int} (h0 : 0 ≤ lo) (h1 : lo < 32) : 0 ≤ fbits lo hi n ∧ fbits lo hi n < 32 := by
  unfold fbits
  have hp := pw_pos (hi - n).toNat
  exact ⟨Int.ediv_nonneg h0 (Int.le_of_lt hp), Int.lt_of_le_of_lt (Int.ediv_le_self _ h0) h1⟩
theorem or_bit {a b : Int} (h0 : 0 ≤ a) (h1 : a < 32) (hb : b = 0 ∨ b = 1) : (((a * 2 ^ (1 : Int).toNat).toNat ||| b.toNat : Nat) : Int) = a * 2 + b := by
  have : ∀ n : Nat, n < 32 → ((((n : Int) * 2 ^ (1 : Int).toNat).toNat ||| (0 : Int).toNat : Nat) : Int) = (n : Int) * 2 + 0 ∧ ((((n : Int) * 2 ^ (1 : Int).toNat).toNat ||| (1 : Int).toNat : Nat) : Int) = (n : Int) * 2 + 1 := by decide +kernel
  obtain ⟨n, rfl⟩ := Int.eq_ofNat_of_zero_le h0
  have h2 := this n (by omega)
  rcases hb with rfl | rfl
  · exact h2.1
  · exact h2.2
set_option maxHeartbeats 4000000 in
set_option maxRecDepth 100000 in
theorem c_leadOfWord {c : Nat} {s b : Int} (hb : sh[c]? = some (4, 5)) (h0 : 0 ≤ s) (h1 : s < v c 2) (hb2 : b = 0 ∨ b = 1) (h2 : 0 ≤ v c 1) (h3 : v c 1 < 32) (h4 : v c 2 ≤ 5) : Cv g mX1_leadOfWord [aR c, aI s, aI b] (sh, rf, v) (retI (stW (v c 1) (v c 2) (fbits (v c 1) (v c 2) s * 2 + b) (s + 1).toNat) (sh, rf, v)) := by
  have hf := fb_rng (lo := v c 1) (hi := v c 2) (n := s) h2 h3
  refine x_entry (ls := [some (aR c), some (aI s), some (aI b), none, none, none]) rfl rfl (Nat.le_of_ble_eq_true rfl) ?_
  have key : ∀ n : Nat, (n : Int) ≤ v c 2 → ∀ o : Option AV, Wv g mX1_leadOfWord 0 0 15 [some (aR c), some (aI s), some (aI b), some (aI (fbits (v c 1) (v c 2) s * 2 + b)), some (aI (n : Int)), o] [] (sh, rf, v) (retI (stW (v c 1) (v c 2) (fbits (v c 1) (v c 2) s * 2 + b) n) (sh, rf, v)) := by
    intro n
    induction n with
    | zero =>
      intro hn o
      refine x_il (q := 17) dX1_leadOfWord_15 rfl rfl ?_
      refine x_if_le (t := 64) (q := 20) dX1_leadOfWord_17 rfl rfl (fun c_17 => ?_) (fun c_17 => ?_)
      · skip
        refine x_ic (q := 65) dX1_leadOfWord_64 rfl rfl ?_
        exact x_iret dX1_leadOfWord_65 rfl rfl (Nat.zero_le _) (retI_mk (by rfl))
      · skip
        exact absurd c_17 (by omega)
    | succ n ih =>
      intro hn o
      refine x_il (q := 17) dX1_leadOfWord_15 rfl rfl ?_
      refine x_if_le (t := 64) (q := 20) dX1_leadOfWord_17 rfl rfl (fun c_17 => ?_) (fun c_17 => ?_)
      · skip
        exact absurd c_17 (by omega)
      · skip
        refine x_il_n (q := 21) dX1_leadOfWord_20 rfl rfl ?_
        refine x_ic (q := 22) dX1_leadOfWord_21 rfl rfl ?_
        refine x_il (q := 24) dX1_leadOfWord_22 rfl rfl ?_
        refine x_pow (q := 25) dX1_leadOfWord_24 rfl (by omega) (by omega) ?_
        rw [Int.toNat_natCast]
        refine x_ic (q := 26) dX1_leadOfWord_25 rfl rfl ?_
        refine x_sub (q := 27) dX1_leadOfWord_26 rfl ⟨by have := pw_pos (n + 1); omega, by have := pw_le (k := n + 1) (n := 20) (by omega); omega⟩ ?_
        refine x_andM (q := 28) dX1_leadOfWord_27 rfl (by omega) ?_
        refine x_is5 (q := 30) dX1_leadOfWord_28 rfl rfl ?_
        refine x_il (q := 32) dX1_leadOfWord_30 rfl rfl ?_
        refine x_al_n (q := 33) dX1_leadOfWord_32 rfl rfl ?_
        refine x_il (q := 35) dX1_leadOfWord_33 rfl rfl ?_
        refine x_VI (q := 38) (ci := 1) dX1_leadOfWord_35 rfl kX1_leadOfWord_40 (c_firstBits (n := ((n + 1 : Nat) : Int)) hb h2 (by omega) (by omega) (by omega)) rfl rfl (by assumption) (by decide) rfl (Nat.le_of_ble_eq_true rfl) ⟨rfl, rfl⟩ ⟨Nat.zero_le _, Nat.zero_le _⟩ ?_
        refine x_ic_ne (t := 58) (q := 41) dX1_leadOfWord_38 rfl rfl (fun c_38 => ?_) (fun c_38 => ?_)
        · skip
          refine x_ii4 (q := 61) dX1_leadOfWord_58 rfl rfl ⟨by omega, by omega⟩ ?_
          refine x_goto (t := 15) dX1_leadOfWord_61 rfl ?_
          rw [show ((n + 1 : Nat) : Int) + -1 = (n : Int) by omega]
          unfold stW
          rw [if_neg c_38]
          exact ih (by omega) _
        · skip
          refine x_il (q := 43) dX1_leadOfWord_41 rfl rfl ?_
          refine x_al_n (q := 44) dX1_leadOfWord_43 rfl rfl ?_
          refine x_getI (q := 47) dX1_leadOfWord_44 rfl fX1_21 (by assumption) rfl ?_
          refine x_ic_ne (t := 55) (q := 50) dX1_leadOfWord_47 rfl rfl (fun c_47 => ?_) (fun c_47 => ?_)
          · skip
            refine x_il (q := 57) dX1_leadOfWord_55 rfl rfl ?_
            exact x_iret dX1_leadOfWord_57 rfl rfl (Nat.zero_le _) (retI_mk (by unfold stW; rw [if_pos c_38]; first | rw [if_pos c_47] | rw [if_neg c_47]))
          · skip
            refine x_bi (q := 52) dX1_leadOfWord_50 rfl rfl ?_
            refine x_goto (t := 57) dX1_leadOfWord_52 rfl ?_
            exact x_iret dX1_leadOfWord_57 rfl rfl (Nat.zero_le _) (retI_mk (by unfold stW; rw [if_pos c_38]; first | rw [if_pos c_47] | rw [if_neg c_47]))
  refine x_al_n (q := 1) dX1_leadOfWord_0 rfl rfl ?_
  refine x_il_n (q := 2) dX1_leadOfWord_1 rfl rfl ?_
  refine x_VI (q := 5) (ci := 1) dX1_leadOfWord_2 rfl kX1_leadOfWord_40 (c_firstBits hb h2 (by omega) (by omega) (by omega)) rfl rfl (by assumption) (by decide) rfl (Nat.le_of_ble_eq_true rfl) ⟨rfl, rfl⟩ ⟨Nat.zero_le _, Nat.zero_le _⟩ ?_
  refine x_ic (q := 6) dX1_leadOfWord_5 rfl rfl ?_
  refine x_shl (q := 7) dX1_leadOfWord_6 rfl (by omega) (by decide) (by decide) (show inI (_ * 2) from ⟨by omega, by omega⟩) ?_
  refine x_il_n (q := 8) dX1_leadOfWord_7 rfl rfl ?_
  refine x_or (q := 9) dX1_leadOfWord_8 rfl (show (0 : Int) ≤ _ * 2 by omega) (by omega) ?_
  rw [or_bit hf.1 hf.2 hb2]
  refine x_is3 (q := 10) dX1_leadOfWord_9 rfl rfl ?_
  refine x_il_n (q := 11) dX1_leadOfWord_10 rfl rfl ?_
  refine x_ic (q := 12) dX1_leadOfWord_11 rfl rfl ?_
  refine x_add (q := 13) dX1_leadOfWord_12 rfl ⟨by omega, by omega⟩ ?_
  refine x_is4 (q := 15) dX1_leadOfWord_13 rfl rfl ?_
  have hk := key (s + 1).toNat (by omega) none
  rw [Int.toNat_of_nonneg (by omega)] at hk
  exact hk
set_option maxHeartbeats 4000000 in
set_option maxRecDepth 100000 in
theorem c_lead {c : Nat} {s b : Int} (hb : sh[c]? = some (4, 5)) (hv : VBan (v c 0) (v c 1) (v c 2)) (h0 : 0 ≤ s) (h1 : s < nst (v c 0) (v c 1) (v c 2)) (hb2 : b = 0 ∨ b = 1) : Cv g mX1_lead [aR c, aI s, aI b] (sh, rf, v) (retI (stp (v c 0) (v c 1) (v c 2) s b) (sh, rf, v)) := by
  have hn := nst_rng hv
  refine x_entry (ls := [some (aR c), some (aI s), some (aI b)]) rfl rfl (Nat.le_of_ble_eq_true rfl) ?_
  refine x_al_n (q := 1) dX1_lead_0 rfl rfl ?_
  refine x_getI (q := 4) dX1_lead_1 rfl fX1_14 (by assumption) rfl ?_
  rcases hv with hv | hv | hv
  · have hs := hv.1
    rw [hs]
    refine x_look (t := 32) dX1_lead_4 rfl rfl rfl ?_
    refine x_al_n (q := 33) dX1_lead_32 rfl rfl ?_
    refine x_il_n (q := 34) dX1_lead_33 rfl rfl ?_
    refine x_il_n (q := 35) dX1_lead_34 rfl rfl ?_
    refine x_VI (q := 38) (ci := 1) dX1_lead_35 rfl kX1_lead_30 (c_leadOfRuns hb h0 (by omega)) rfl rfl (by assumption) (by decide) rfl (Nat.le_of_ble_eq_true rfl) ⟨rfl, rfl⟩ ⟨Nat.zero_le _, Nat.zero_le _⟩ ?_
    exact x_iret dX1_lead_38 rfl rfl (Nat.zero_le _) (retI_mk (by unfold stp; rfl))
  · have hs := hv.1
    rw [hs]
    refine x_look (t := 39) dX1_lead_4 rfl rfl rfl ?_
    refine x_al_n (q := 40) dX1_lead_39 rfl rfl ?_
    refine x_il_n (q := 41) dX1_lead_40 rfl rfl ?_
    refine x_il_n (q := 42) dX1_lead_41 rfl rfl ?_
    refine x_VI (q := 45) (ci := 1) dX1_lead_42 rfl kX1_lead_34 (c_leadOfCharge hb h0 (by omega) (by omega) (by omega)) rfl rfl (by assumption) (by decide) rfl (Nat.le_of_ble_eq_true rfl) ⟨rfl, rfl⟩ ⟨Nat.zero_le _, Nat.zero_le _⟩ ?_
    exact x_iret dX1_lead_45 rfl rfl (Nat.zero_le _) (retI_mk (by unfold stp; rfl))
  · have hs := hv.1
    rw [hs]
    refine x_look (t := 46) dX1_lead_4 rfl rfl rfl ?_
    have hnst : nst (v c 0) (v c 1) (v c 2) = v c 2 := by unfold nst; rw [hs]; rfl
    refine x_al_n (q := 47) dX1_lead_46 rfl rfl ?_
    refine x_il_n (q := 48) dX1_lead_47 rfl rfl ?_
    refine x_il_n (q := 49) dX1_lead_48 rfl rfl ?_
    refine x_VI (q := 52) (ci := 1) dX1_lead_49 rfl kX1_lead_37 (c_leadOfWord hb h0 (by omega) hb2 (by omega) (by omega) (by omega)) rfl rfl (by assumption) (by decide) rfl (Nat.le_of_ble_eq_true rfl) ⟨rfl, rfl⟩ ⟨Nat.zero_le _, Nat.zero_le _⟩ ?_
    exact x_iret dX1_lead_52 rfl rfl (Nat.zero_le _) (retI_mk (by unfold stp; rfl))
def setBan (v : Nat → Nat → Int) (c : Nat) (z : Cfg) : Nat → Nat → Int := up (up (up (up (up v c 0 z.1) c 1 z.2.1) c 2 z.2.2.1) c 3 z.2.2.2.1) c 4 z.2.2.2.2
theorem setBan_n {v : Nat → Nat → Int} {c d : Nat} {z : Cfg} (h : d ≠ c) : setBan v c z d = v d := by unfold setBan; rw [up_n _ _ _ h, up_n _ _ _ h, up_n _ _ _ h, up_n _ _ _ h, up_n _ _ _ h]
theorem setBan_b {v : Nat → Nat → Int} {c : Nat} {z : Cfg} : banOf (setBan v c z) c = z := by simp [banOf, setBan, up]
set_option maxHeartbeats 4000000 in
set_option maxRecDepth 100000 in
theorem c_setFirst {c : Nat} (hb : sh[c]? = some (4, 5)) : Cv g mX1_setFirst [aR c] (sh, rf, v) (retV (sh, rf, setBan v c (0, 1, 3, 1, 2))) := by
  refine x_entry (ls := [some (aR c)]) rfl rfl (Nat.le_of_ble_eq_true rfl) ?_
  refine x_al_n (q := 1) dX1_setFirst_0 rfl rfl ?_
  refine x_ic (q := 2) dX1_setFirst_1 rfl rfl ?_
  refine x_putI (q := 5) dX1_setFirst_2 rfl fX1_14 (by assumption) (.inl rfl) rfl ?_
  refine x_al_n (q := 6) dX1_setFirst_5 rfl rfl ?_
  refine x_ic (q := 7) dX1_setFirst_6 rfl rfl ?_
  refine x_putI (q := 10) dX1_setFirst_7 rfl fX1_18 (by assumption) (.inl rfl) rfl ?_
  refine x_al_n (q := 11) dX1_setFirst_10 rfl rfl ?_
  refine x_ic (q := 12) dX1_setFirst_11 rfl rfl ?_
  refine x_putI (q := 15) dX1_setFirst_12 rfl fX1_21 (by assumption) (.inl rfl) rfl ?_
  refine x_al_n (q := 16) dX1_setFirst_15 rfl rfl ?_
  refine x_ic (q := 17) dX1_setFirst_16 rfl rfl ?_
  refine x_putI (q := 20) dX1_setFirst_17 rfl fX1_24 (by assumption) (.inl rfl) rfl ?_
  refine x_al_n (q := 21) dX1_setFirst_20 rfl rfl ?_
  refine x_ic (q := 22) dX1_setFirst_21 rfl rfl ?_
  refine x_putI (q := 25) dX1_setFirst_22 rfl fX1_27 (by assumption) (.inl rfl) rfl ?_
  exact x_vret dX1_setFirst_25 rfl rfl (Nat.zero_le _) (by exact ⟨rfl, rfl⟩)
set_option maxHeartbeats 4000000 in
set_option maxRecDepth 100000 in
theorem c_banInit {c : Nat} (hb : sh[c]? = some (4, 5)) : Cv g mX1_init [aR c] (sh, rf, v) (retV (sh, rf, setBan v c (0, 1, 3, 1, 2))) := by
  refine x_entry (ls := [some (aR c)]) rfl rfl (Nat.le_of_ble_eq_true rfl) ?_
  refine x_al_n (q := 1) dX1_init_0 rfl rfl ?_
  refine x_obj (q := 4) dX1_init_1 rfl q117 q86 q87 (Nat.le_of_ble_eq_true rfl) (Nat.le_of_ble_eq_true rfl) (Nat.le_of_ble_eq_true rfl) ?_
  refine x_al_n (q := 5) dX1_init_4 rfl rfl ?_
  refine x_V (q := 8) (ci := 1) dX1_init_5 rfl kX1_init_9 (c_setFirst hb) rfl rfl (by assumption) (by decide) rfl (Nat.le_of_ble_eq_true rfl) ⟨rfl, rfl⟩ ⟨Nat.zero_le _, Nat.zero_le _⟩ (fun r1 h1 hp => ?_)
  obtain ⟨rfl, rfl⟩ := hp
  exact x_vret dX1_init_8 rfl rfl (Nat.zero_le _) (by exact ⟨rfl, rfl⟩)
set_option maxHeartbeats 4000000 in
set_option maxRecDepth 100000 in
theorem c_banCopy {c d : Nat} (hb : sh[c]? = some (4, 5)) (hd : sh[d]? = some (4, 5)) (hcd : d ≠ c) : Cv g mX1_copy [aR c, aR d] (sh, rf, v) (retV (sh, rf, setBan v c (banOf v d))) := by
  refine x_entry (ls := [some (aR c), some (aR d)]) rfl rfl (Nat.le_of_ble_eq_true rfl) ?_
  refine x_al_n (q := 1) dX1_copy_0 rfl rfl ?_
  refine x_al_n (q := 2) dX1_copy_1 rfl rfl ?_
  refine x_getI (q := 5) dX1_copy_2 rfl fX1_14 (by assumption) rfl ?_
  refine x_putI (q := 8) dX1_copy_5 rfl fX1_14 (by assumption) (.inl rfl) rfl ?_
  refine x_al_n (q := 9) dX1_copy_8 rfl rfl ?_
  refine x_al_n (q := 10) dX1_copy_9 rfl rfl ?_
  refine x_getI (q := 13) dX1_copy_10 rfl fX1_18 (by assumption) rfl ?_
  refine x_putI (q := 16) dX1_copy_13 rfl fX1_18 (by assumption) (.inl rfl) rfl ?_
  refine x_al_n (q := 17) dX1_copy_16 rfl rfl ?_
  refine x_al_n (q := 18) dX1_copy_17 rfl rfl ?_
  refine x_getI (q := 21) dX1_copy_18 rfl fX1_21 (by assumption) rfl ?_
  refine x_putI (q := 24) dX1_copy_21 rfl fX1_21 (by assumption) (.inl rfl) rfl ?_
  refine x_al_n (q := 25) dX1_copy_24 rfl rfl ?_
  refine x_al_n (q := 26) dX1_copy_25 rfl rfl ?_
  refine x_getI (q := 29) dX1_copy_26 rfl fX1_24 (by assumption) rfl ?_
  refine x_putI (q := 32) dX1_copy_29 rfl fX1_24 (by assumption) (.inl rfl) rfl ?_
  refine x_al_n (q := 33) dX1_copy_32 rfl rfl ?_
  refine x_al_n (q := 34) dX1_copy_33 rfl rfl ?_
  refine x_getI (q := 37) dX1_copy_34 rfl fX1_27 (by assumption) rfl ?_
  refine x_putI (q := 40) dX1_copy_37 rfl fX1_27 (by assumption) (.inl rfl) rfl ?_
  exact x_vret dX1_copy_40 rfl rfl (Nat.zero_le _) (by refine ⟨rfl, ?_⟩; simp only [setBan, banOf, up_n _ _ _ hcd])
end BAN
end
section
/-! ===== Integer.bitCount, Line, Held ===== -/
def pcnt (x : Int) : Int := x % 2 + x / 2 % 2 + x / 4 % 2 + x / 8 % 2 + x / 16 % 2 + x / 32 % 2 + x / 64 % 2
set_option maxHeartbeats 4000000 in
set_option maxRecDepth 100000 in
theorem c_bitCount {g : GL} {h : AH} {z : Int} (h0 : 0 ≤ z) (h1 : z < 128) : Cv g mJ6_bitCount_0f7a4 [aI z] h (retI (pcnt z) h) := by
  refine x_entry (ls := [some (aI z)]) rfl rfl (Nat.le_of_ble_eq_true rfl) ?_
  refine x_il_n (q := 1) dJ6_bitCount_0f7a4_0 rfl rfl ?_
  refine x_il_n (q := 2) dJ6_bitCount_0f7a4_1 rfl rfl ?_
  refine x_ic (q := 3) dJ6_bitCount_0f7a4_2 rfl rfl ?_
  refine x_ushrG (q := 4) dJ6_bitCount_0f7a4_3 rfl ?_
  refine x_ldcw (q := 7) dJ6_bitCount_0f7a4_4 rfl q621 rfl ?_
  refine x_andG (q := 8) dJ6_bitCount_0f7a4_7 rfl ?_
  refine x_subG (q := 9) dJ6_bitCount_0f7a4_8 rfl ?_
  refine x_is0 (q := 10) dJ6_bitCount_0f7a4_9 rfl ?_
  refine x_il_n (q := 11) dJ6_bitCount_0f7a4_10 rfl rfl ?_
  refine x_ldcw (q := 14) dJ6_bitCount_0f7a4_11 rfl q622 rfl ?_
  refine x_andG (q := 15) dJ6_bitCount_0f7a4_14 rfl ?_
  refine x_il_n (q := 16) dJ6_bitCount_0f7a4_15 rfl rfl ?_
  refine x_ic (q := 17) dJ6_bitCount_0f7a4_16 rfl rfl ?_
  refine x_ushrG (q := 18) dJ6_bitCount_0f7a4_17 rfl ?_
  refine x_ldcw (q := 21) dJ6_bitCount_0f7a4_18 rfl q622 rfl ?_
  refine x_andG (q := 22) dJ6_bitCount_0f7a4_21 rfl ?_
  refine x_addw (q := 23) dJ6_bitCount_0f7a4_22 rfl ?_
  refine x_is0 (q := 24) dJ6_bitCount_0f7a4_23 rfl ?_
  refine x_il_n (q := 25) dJ6_bitCount_0f7a4_24 rfl rfl ?_
  refine x_il_n (q := 26) dJ6_bitCount_0f7a4_25 rfl rfl ?_
  refine x_ic (q := 27) dJ6_bitCount_0f7a4_26 rfl rfl ?_
  refine x_ushrG (q := 28) dJ6_bitCount_0f7a4_27 rfl ?_
  refine x_addw (q := 29) dJ6_bitCount_0f7a4_28 rfl ?_
  refine x_ldcw (q := 32) dJ6_bitCount_0f7a4_29 rfl q623 rfl ?_
  refine x_andG (q := 33) dJ6_bitCount_0f7a4_32 rfl ?_
  refine x_is0 (q := 34) dJ6_bitCount_0f7a4_33 rfl ?_
  refine x_il_n (q := 35) dJ6_bitCount_0f7a4_34 rfl rfl ?_
  refine x_il_n (q := 36) dJ6_bitCount_0f7a4_35 rfl rfl ?_
  refine x_bi (q := 38) dJ6_bitCount_0f7a4_36 rfl rfl ?_
  refine x_ushrG (q := 39) dJ6_bitCount_0f7a4_38 rfl ?_
  refine x_addw (q := 40) dJ6_bitCount_0f7a4_39 rfl ?_
  refine x_is0 (q := 41) dJ6_bitCount_0f7a4_40 rfl ?_
  refine x_il_n (q := 42) dJ6_bitCount_0f7a4_41 rfl rfl ?_
  refine x_il_n (q := 43) dJ6_bitCount_0f7a4_42 rfl rfl ?_
  refine x_bi (q := 45) dJ6_bitCount_0f7a4_43 rfl rfl ?_
  refine x_ushrG (q := 46) dJ6_bitCount_0f7a4_45 rfl ?_
  refine x_addw (q := 47) dJ6_bitCount_0f7a4_46 rfl ?_
  refine x_is0 (q := 48) dJ6_bitCount_0f7a4_47 rfl ?_
  refine x_il_n (q := 49) dJ6_bitCount_0f7a4_48 rfl rfl ?_
  refine x_bi (q := 51) dJ6_bitCount_0f7a4_49 rfl rfl ?_
  refine x_andG (q := 52) dJ6_bitCount_0f7a4_51 rfl ?_
  exact x_iret dJ6_bitCount_0f7a4_52 rfl rfl (Nat.zero_le _) (retI_mk (by obtain ⟨n, rfl⟩ := Int.eq_ofNat_of_zero_le h0; have hn : n < 128 := (by omega); clear h0 h1; revert n; decide +kernel))
def LineAt (sh : List (Nat × Nat)) (rf : Nat → Nat → Option Nat) (l : Nat) : Prop := sh[l]? = some (6, 5) ∧ sh[l + 1]? = some (0, 24) ∧ sh[l + 2]? = some (0, 24) ∧ sh[l + 3]? = some (0, 24) ∧ rf l 0 = some (l + 1) ∧ rf l 1 = some (l + 2) ∧ rf l 2 = some (l + 3)
def HeldAt (sh : List (Nat × Nat)) (rf : Nat → Nat → Option Nat) (e : Nat) : Prop := sh[e]? = some (5, 2) ∧ sh[e + 1]? = some (4, 5) ∧ rf e 0 = some (e + 1) ∧ rf e 1 = some (e + 2) ∧ LineAt sh rf (e + 2)
section LIN
variable {g : GL} {sh : List (Nat × Nat)} {rf : Nat → Nat → Option Nat} {v : Nat → Nat → Int}

set_option maxHeartbeats 4000000 in
set_option maxRecDepth 100000 in
theorem c_empty {l : Nat} {b : Int} (hl : LineAt sh rf l) : Cv g mX3_empty [aR l, aI b] (sh, rf, v) (retV (sh, rf, up (up v l 3 0) l 4 b)) := by
  obtain ⟨a1, a2, a3, a4, a5, a6, a7⟩ := hl
  refine x_entry (ls := [some (aR l), some (aI b)]) rfl rfl (Nat.le_of_ble_eq_true rfl) ?_
  refine x_al_n (q := 1) dX3_empty_0 rfl rfl ?_
  refine x_ic (q := 2) dX3_empty_1 rfl rfl ?_
  refine x_putI (q := 5) dX3_empty_2 rfl fX3_21 (by assumption) (.inl rfl) rfl ?_
  refine x_al_n (q := 6) dX3_empty_5 rfl rfl ?_
  refine x_il_n (q := 7) dX3_empty_6 rfl rfl ?_
  refine x_putI (q := 10) dX3_empty_7 rfl fX3_25 (by assumption) (.inl rfl) rfl ?_
  exact x_vret dX3_empty_10 rfl rfl (Nat.zero_le _) (by exact ⟨rfl, rfl⟩)
set_option maxHeartbeats 4000000 in
set_option maxRecDepth 100000 in
theorem c_wordAt {l : Nat} {i : Int} (hl : LineAt sh rf l) : Cv g mX3_wordAt [aR l, aI i] (sh, rf, v) (retI (if 0 ≤ i ∧ i < 24 then v (l + 1) i.toNat else -9) (sh, rf, v)) := by
  obtain ⟨a1, a2, a3, a4, a5, a6, a7⟩ := hl
  refine x_entry (ls := [some (aR l), some (aI i)]) rfl rfl (Nat.le_of_ble_eq_true rfl) ?_
  refine x_il_n (q := 1) dX3_wordAt_0 rfl rfl ?_
  refine x_if_lt (t := 10) (q := 4) dX3_wordAt_1 rfl rfl (fun c_1 => ?_) (fun c_1 => ?_)
  · skip
    refine x_bi (q := 12) dX3_wordAt_10 rfl rfl ?_
    refine x_goto (t := 21) dX3_wordAt_12 rfl ?_
    exact x_iret dX3_wordAt_21 rfl rfl (Nat.zero_le _) (retI_mk (by first | rw [if_neg (by omega)] | rw [if_pos (by omega)]))
  · skip
    refine x_il_n (q := 5) dX3_wordAt_4 rfl rfl ?_
    refine x_bi (q := 7) dX3_wordAt_5 rfl rfl ?_
    refine x_ic_lt (t := 15) (q := 10) dX3_wordAt_7 rfl rfl (fun c_7 => ?_) (fun c_7 => ?_)
    · skip
      refine x_al_n (q := 16) dX3_wordAt_15 rfl rfl ?_
      refine x_getR (q := 19) (o := some (l + 1)) dX3_wordAt_16 rfl fX3_9 (by assumption) rfl (by assumption) ?_
      refine x_il_n (q := 20) dX3_wordAt_19 rfl rfl ?_
      refine x_iald (q := 21) dX3_wordAt_20 rfl (by assumption) (by omega) (by omega) ?_
      exact x_iret dX3_wordAt_21 rfl rfl (Nat.zero_le _) (retI_mk (by first | rw [if_neg (by omega)] | rw [if_pos (by omega)]))
    · skip
      refine x_bi (q := 12) dX3_wordAt_10 rfl rfl ?_
      refine x_goto (t := 21) dX3_wordAt_12 rfl ?_
      exact x_iret dX3_wordAt_21 rfl rfl (Nat.zero_le _) (retI_mk (by first | rw [if_neg (by omega)] | rw [if_pos (by omega)]))
set_option maxHeartbeats 4000000 in
set_option maxRecDepth 100000 in
theorem c_tagAt {l : Nat} {i : Int} (hl : LineAt sh rf l) : Cv g mX3_tagAt [aR l, aI i] (sh, rf, v) (retI (if 0 ≤ i ∧ i < 24 then v (l + 3) i.toNat else -9) (sh, rf, v)) := by
  obtain ⟨a1, a2, a3, a4, a5, a6, a7⟩ := hl
  refine x_entry (ls := [some (aR l), some (aI i)]) rfl rfl (Nat.le_of_ble_eq_true rfl) ?_
  refine x_il_n (q := 1) dX3_tagAt_0 rfl rfl ?_
  refine x_if_lt (t := 10) (q := 4) dX3_tagAt_1 rfl rfl (fun c_1 => ?_) (fun c_1 => ?_)
  · skip
    refine x_bi (q := 12) dX3_tagAt_10 rfl rfl ?_
    refine x_goto (t := 21) dX3_tagAt_12 rfl ?_
    exact x_iret dX3_tagAt_21 rfl rfl (Nat.zero_le _) (retI_mk (by first | rw [if_neg (by omega)] | rw [if_pos (by omega)]))
  · skip
    refine x_il_n (q := 5) dX3_tagAt_4 rfl rfl ?_
    refine x_bi (q := 7) dX3_tagAt_5 rfl rfl ?_
    refine x_ic_lt (t := 15) (q := 10) dX3_tagAt_7 rfl rfl (fun c_7 => ?_) (fun c_7 => ?_)
    · skip
      refine x_al_n (q := 16) dX3_tagAt_15 rfl rfl ?_
      refine x_getR (q := 19) (o := some (l + 3)) dX3_tagAt_16 rfl fX3_18 (by assumption) rfl (by assumption) ?_
      refine x_il_n (q := 20) dX3_tagAt_19 rfl rfl ?_
      refine x_iald (q := 21) dX3_tagAt_20 rfl (by assumption) (by omega) (by omega) ?_
      exact x_iret dX3_tagAt_21 rfl rfl (Nat.zero_le _) (retI_mk (by first | rw [if_neg (by omega)] | rw [if_pos (by omega)]))
    · skip
      refine x_bi (q := 12) dX3_tagAt_10 rfl rfl ?_
      refine x_goto (t := 21) dX3_tagAt_12 rfl ?_
      exact x_iret dX3_tagAt_21 rfl rfl (Nat.zero_le _) (retI_mk (by first | rw [if_neg (by omega)] | rw [if_pos (by omega)]))
def appL (v : Nat → Nat → Int) (l : Nat) (s t n : Int) : Nat → Nat → Int := up (up (up (up (up v (l + 1) (v l 3).toNat s) (l + 2) (v l 3).toNat s) (l + 3) (v l 3).toNat t) l 3 (v l 3 + 1)) l 4 n
set_option maxHeartbeats 4000000 in
set_option maxRecDepth 100000 in
theorem c_append {l : Nat} {s t n : Int} (hl : LineAt sh rf l) (h0 : 0 ≤ v l 3) (h1 : v l 3 < 24) : Cv g mX3_append [aR l, aI s, aI t, aI n] (sh, rf, v) (retV (sh, rf, appL v l s t n)) := by
  obtain ⟨a1, a2, a3, a4, a5, a6, a7⟩ := hl
  refine x_entry (ls := [some (aR l), some (aI s), some (aI t), some (aI n)]) rfl rfl (Nat.le_of_ble_eq_true rfl) ?_
  refine x_al_n (q := 1) dX3_append_0 rfl rfl ?_
  refine x_getI (q := 4) dX3_append_1 rfl fX3_21 (by assumption) rfl ?_
  refine x_if_lt (t := 16) (q := 7) dX3_append_4 rfl rfl (fun c_4 => ?_) (fun c_4 => ?_)
  · skip
    exact absurd c_4 (by omega)
  · skip
    refine x_al_n (q := 8) dX3_append_7 rfl rfl ?_
    refine x_getI (q := 11) dX3_append_8 rfl fX3_21 (by assumption) rfl ?_
    refine x_bi (q := 13) dX3_append_11 rfl rfl ?_
    refine x_ic_lt (t := 17) (q := 16) dX3_append_13 rfl rfl (fun c_13 => ?_) (fun c_13 => ?_)
    · skip
      refine x_al_n (q := 18) dX3_append_17 rfl rfl ?_
      refine x_getR (q := 21) (o := some (l + 1)) dX3_append_18 rfl fX3_9 (by assumption) rfl (by assumption) ?_
      refine x_al_n (q := 22) dX3_append_21 rfl rfl ?_
      refine x_getI (q := 25) dX3_append_22 rfl fX3_21 (by assumption) rfl ?_
      refine x_il_n (q := 26) dX3_append_25 rfl rfl ?_
      refine x_iast (q := 27) dX3_append_26 rfl (by assumption) (by omega) (by omega) ?_
      refine x_al_n (q := 28) dX3_append_27 rfl rfl ?_
      refine x_getR (q := 31) (o := some (l + 2)) dX3_append_28 rfl fX3_15 (by assumption) rfl (by assumption) ?_
      refine x_al_n (q := 32) dX3_append_31 rfl rfl ?_
      refine x_getIe (q := 35) (z := v l 3) dX3_append_32 rfl fX3_21 (by assumption) rfl (by simp [up]) ?_
      refine x_il_n (q := 36) dX3_append_35 rfl rfl ?_
      refine x_iast (q := 37) dX3_append_36 rfl (by assumption) (by omega) (by omega) ?_
      refine x_al_n (q := 38) dX3_append_37 rfl rfl ?_
      refine x_getR (q := 41) (o := some (l + 3)) dX3_append_38 rfl fX3_18 (by assumption) rfl (by assumption) ?_
      refine x_al_n (q := 42) dX3_append_41 rfl rfl ?_
      refine x_getIe (q := 45) (z := v l 3) dX3_append_42 rfl fX3_21 (by assumption) rfl (by simp [up]) ?_
      refine x_il_n (q := 46) dX3_append_45 rfl rfl ?_
      refine x_iast (q := 47) dX3_append_46 rfl (by assumption) (by omega) (by omega) ?_
      refine x_al_n (q := 48) dX3_append_47 rfl rfl ?_
      refine x_dup (q := 49) dX3_append_48 rfl rfl ?_
      refine x_getIe (q := 52) (z := v l 3) dX3_append_49 rfl fX3_21 (by assumption) rfl (by simp [up]) ?_
      refine x_ic (q := 53) dX3_append_52 rfl rfl ?_
      refine x_add (q := 54) dX3_append_53 rfl ⟨by omega, by omega⟩ ?_
      refine x_putI (q := 57) dX3_append_54 rfl fX3_21 (by assumption) (.inl rfl) rfl ?_
      refine x_al_n (q := 58) dX3_append_57 rfl rfl ?_
      refine x_il_n (q := 59) dX3_append_58 rfl rfl ?_
      refine x_putI (q := 62) dX3_append_59 rfl fX3_25 (by assumption) (.inl rfl) rfl ?_
      exact x_vret dX3_append_62 rfl rfl (Nat.zero_le _) (by exact ⟨rfl, rfl⟩)
    · skip
      exact absurd h1 c_13
set_option maxHeartbeats 4000000 in
set_option maxRecDepth 100000 in
theorem c_turn {l : Nat} {i p : Int} (hl : LineAt sh rf l) (h0 : 0 ≤ i) (h1 : i < 24) (h2 : 0 ≤ p) (h3 : p ≤ 20) (h4 : 0 ≤ v (l + 1) i.toNat) : Cv g mX3_turn [aR l, aI i, aI p] (sh, rf, v) (retI (((v (l + 1) i.toNat).toNat ^^^ (2 ^ p.toNat : Int).toNat : Nat) / 2 ^ p.toNat % 2) (sh, rf, up v (l + 1) i.toNat ((v (l + 1) i.toNat).toNat ^^^ (2 ^ p.toNat : Int).toNat : Nat))) := by
  obtain ⟨a1, a2, a3, a4, a5, a6, a7⟩ := hl
  refine x_entry (ls := [some (aR l), some (aI i), some (aI p)]) rfl rfl (Nat.le_of_ble_eq_true rfl) ?_
  refine x_il_n (q := 1) dX3_turn_0 rfl rfl ?_
  refine x_if_lt (t := 10) (q := 4) dX3_turn_1 rfl rfl (fun c_1 => ?_) (fun c_1 => ?_)
  · skip
    exact absurd c_1 (by omega)
  · skip
    refine x_il_n (q := 5) dX3_turn_4 rfl rfl ?_
    refine x_bi (q := 7) dX3_turn_5 rfl rfl ?_
    refine x_ic_lt (t := 12) (q := 10) dX3_turn_7 rfl rfl (fun c_7 => ?_) (fun c_7 => ?_)
    · skip
      refine x_al_n (q := 13) dX3_turn_12 rfl rfl ?_
      refine x_getR (q := 16) (o := some (l + 1)) dX3_turn_13 rfl fX3_9 (by assumption) rfl (by assumption) ?_
      refine x_il_n (q := 17) dX3_turn_16 rfl rfl ?_
      refine x_dup2 (q := 18) dX3_turn_17 rfl rfl rfl ?_
      refine x_iald (q := 19) dX3_turn_18 rfl (by assumption) (by omega) (by omega) ?_
      refine x_ic (q := 20) dX3_turn_19 rfl rfl ?_
      refine x_il_n (q := 21) dX3_turn_20 rfl rfl ?_
      refine x_pow (q := 22) dX3_turn_21 rfl h2 h3 ?_
      refine x_xor (q := 23) dX3_turn_22 rfl h4 (Int.le_of_lt (pw_pos _)) ?_
      refine x_iast (q := 24) dX3_turn_23 rfl (by assumption) (by omega) (by omega) ?_
      refine x_al_n (q := 25) dX3_turn_24 rfl rfl ?_
      refine x_getR (q := 28) (o := some (l + 1)) dX3_turn_25 rfl fX3_9 (by assumption) rfl (by assumption) ?_
      refine x_il_n (q := 29) dX3_turn_28 rfl rfl ?_
      refine x_ialde (q := 30) (z := ((v (l + 1) i.toNat).toNat ^^^ (2 ^ p.toNat : Int).toNat : Nat)) dX3_turn_29 rfl (by assumption) (by omega) (by omega) (by simp [up]) ?_
      refine x_il_n (q := 31) dX3_turn_30 rfl rfl ?_
      refine x_shr (q := 32) dX3_turn_31 rfl (by omega) (by omega) (by omega) ?_
      refine x_ic (q := 33) dX3_turn_32 rfl rfl ?_
      refine x_and1 (q := 34) dX3_turn_33 rfl (by first | exact nn_dv (by omega) | omega) ?_
      exact x_iret dX3_turn_34 rfl rfl (Nat.zero_le _) (retI_mk (by rfl))
    · skip
      exact absurd h1 c_7
def tbits (v : Nat → Nat → Int) (l : Nat) : Nat → Int
  | 0 => 0
  | n + 1 => tbits v l n + pcnt (((v (l + 1) n).toNat ^^^ (v (l + 2) n).toNat : Nat) : Int)
theorem pcnt_rng {x : Int} : 0 ≤ pcnt x ∧ pcnt x ≤ 7 := by unfold pcnt; omega
theorem tbits_rng {l : Nat} : ∀ n, 0 ≤ tbits v l n ∧ tbits v l n ≤ 7 * n
  | 0 => by simp [tbits]
  | n + 1 => by
    have h1 := tbits_rng (l := l) n
    have h2 := pcnt_rng (x := (((v (l + 1) n).toNat ^^^ (v (l + 2) n).toNat : Nat) : Int))
    unfold tbits
    omega
theorem xor16 {a b : Int} (h0 : 0 ≤ a) (h1 : a < 16) (h2 : 0 ≤ b) (h3 : b < 16) : ((a.toNat ^^^ b.toNat : Nat) : Int) < 16 := by
  have := Nat.xor_lt_two_pow (n := 4) (x := a.toNat) (y := b.toNat) (by omega) (by omega)
  omega
set_option maxHeartbeats 4000000 in
set_option maxRecDepth 100000 in
theorem c_turnedBits {l : Nat} (hl : LineAt sh rf l) (h0 : 0 ≤ v l 3) (h1 : v l 3 ≤ 24) (hw : ∀ j : Nat, (j : Int) < v l 3 → 0 ≤ v (l + 1) j ∧ v (l + 1) j < 16 ∧ 0 ≤ v (l + 2) j ∧ v (l + 2) j < 16) : Cv g mX3_turnedBits [aR l] (sh, rf, v) (retI (tbits v l (v l 3).toNat) (sh, rf, v)) := by
  obtain ⟨a1, a2, a3, a4, a5, a6, a7⟩ := hl
  refine x_entry (ls := [some (aR l), none, none]) rfl rfl (Nat.le_of_ble_eq_true rfl) ?_
  refine x_ic (q := 1) dX3_turnedBits_0 rfl rfl ?_
  refine x_is1 (q := 2) dX3_turnedBits_1 rfl rfl ?_
  refine x_ic (q := 3) dX3_turnedBits_2 rfl rfl ?_
  refine x_is2 (q := 4) dX3_turnedBits_3 rfl rfl ?_
  refine x_up (S := fun i => Wv g mX3_turnedBits 0 0 4 [some (aR l), some (aI (tbits v l i)), some (aI (i : Int))] [] (sh, rf, v) (retI (tbits v l (v l 3).toNat) (sh, rf, v))) (v l 3).toNat ?_ ?_ 0 (Nat.zero_le _)
  · have hb := tbits_rng (v := v) (l := l) (v l 3).toNat
    refine x_il_n (q := 5) dX3_turnedBits_4 rfl rfl ?_
    refine x_al_n (q := 6) dX3_turnedBits_5 rfl rfl ?_
    refine x_getI (q := 9) dX3_turnedBits_6 rfl fX3_21 (by assumption) rfl ?_
    refine x_ic_ge (t := 43) (q := 12) dX3_turnedBits_9 rfl rfl (fun c_9 => ?_) (fun c_9 => ?_)
    · skip
      refine x_il_n (q := 44) dX3_turnedBits_43 rfl rfl ?_
      exact x_iret dX3_turnedBits_44 rfl rfl (Nat.zero_le _) (retI_mk (by rfl))
    · skip
      exact absurd (by omega) c_9
  · intro i hi ih
    have hb := tbits_rng (v := v) (l := l) i
    have hwi := hw i (by omega)
    have hx := xor16 hwi.1 hwi.2.1 hwi.2.2.1 hwi.2.2.2
    refine x_il_n (q := 5) dX3_turnedBits_4 rfl rfl ?_
    refine x_al_n (q := 6) dX3_turnedBits_5 rfl rfl ?_
    refine x_getI (q := 9) dX3_turnedBits_6 rfl fX3_21 (by assumption) rfl ?_
    refine x_ic_ge (t := 43) (q := 12) dX3_turnedBits_9 rfl rfl (fun c_9 => ?_) (fun c_9 => ?_)
    · skip
      exact absurd c_9 (by omega)
    · skip
      refine x_il_n (q := 13) dX3_turnedBits_12 rfl rfl ?_
      refine x_bi (q := 15) dX3_turnedBits_13 rfl rfl ?_
      refine x_ic_ge (t := 43) (q := 18) dX3_turnedBits_15 rfl rfl (fun c_15 => ?_) (fun c_15 => ?_)
      · skip
        exact absurd c_15 (by omega)
      · skip
        refine x_il_n (q := 19) dX3_turnedBits_18 rfl rfl ?_
        refine x_al_n (q := 20) dX3_turnedBits_19 rfl rfl ?_
        refine x_getR (q := 23) (o := some (l + 1)) dX3_turnedBits_20 rfl fX3_9 (by assumption) rfl (by assumption) ?_
        refine x_il_n (q := 24) dX3_turnedBits_23 rfl rfl ?_
        refine x_ialde (q := 25) (z := v (l + 1) i) dX3_turnedBits_24 rfl (by assumption) (by omega) (by omega) (by rw [Int.toNat_natCast]) ?_
        refine x_al_n (q := 26) dX3_turnedBits_25 rfl rfl ?_
        refine x_getR (q := 29) (o := some (l + 2)) dX3_turnedBits_26 rfl fX3_15 (by assumption) rfl (by assumption) ?_
        refine x_il_n (q := 30) dX3_turnedBits_29 rfl rfl ?_
        refine x_ialde (q := 31) (z := v (l + 2) i) dX3_turnedBits_30 rfl (by assumption) (by omega) (by omega) (by rw [Int.toNat_natCast]) ?_
        refine x_xor (q := 32) dX3_turnedBits_31 rfl (by first | exact nn_dv (by omega) | omega) (by first | decide | exact nn_dv (by omega) | omega) ?_
        refine x_SI (q := 35) dX3_turnedBits_32 rfl kX3_turnedBits_34 (c_bitCount (by omega) (by omega)) rfl rfl (Nat.le_of_ble_eq_true rfl) ⟨rfl, rfl⟩ ⟨Nat.zero_le _, Nat.zero_le _⟩ ?_
        have hpc := pcnt_rng (x := (((v (l + 1) i).toNat ^^^ (v (l + 2) i).toNat : Nat) : Int))
        refine x_add (q := 36) dX3_turnedBits_35 rfl ⟨by omega, by omega⟩ ?_
        refine x_is1 (q := 37) dX3_turnedBits_36 rfl rfl ?_
        refine x_ii2 (q := 40) dX3_turnedBits_37 rfl rfl ⟨by omega, by omega⟩ ?_
        refine x_goto (t := 4) dX3_turnedBits_40 rfl ?_
        exact ih
theorem banOf_cong {v v2 : Nat → Nat → Int} {c : Nat} (h : v2 c = v c) : banOf v2 c = banOf v c := by unfold banOf; rw [h]
def SameL (v : Nat → Nat → Int) (m : Nat) (v' : Nat → Nat → Int) (l : Nat) : Prop := v' l 3 = v m 3 ∧ v' l 4 = v m 4 ∧ ∀ j, j < 24 → v' (l + 1) j = v (m + 1) j ∧ v' (l + 2) j = v (m + 2) j ∧ v' (l + 3) j = v (m + 3) j
def SameH (v : Nat → Nat → Int) (d : Nat) (v' : Nat → Nat → Int) (e : Nat) : Prop := banOf v' (e + 1) = banOf v (d + 1) ∧ SameL v (d + 2) v' (e + 2)
def putL (P : (Nat → Nat → Int) → Prop) (sh : List (Nat × Nat)) (rf : Nat → Nat → Option Nat) : PT := fun r h' => r = none ∧ ∃ v', h' = (sh, rf, v') ∧ P v'
set_option maxHeartbeats 4000000 in
set_option maxRecDepth 100000 in
theorem c_lineCopy {l m : Nat} (hl : LineAt sh rf l) (hm : LineAt sh rf m) (hlm : l + 4 ≤ m ∨ m + 4 ≤ l) : Cv g mX3_copy [aR l, aR m] (sh, rf, v) (putL (fun v' => SameL v m v' l ∧ ∀ c, c < l ∨ l + 4 ≤ c → v' c = v c) sh rf) := by
  obtain ⟨a1, a2, a3, a4, a5, a6, a7⟩ := hl
  obtain ⟨b1, b2, b3, b4, b5, b6, b7⟩ := hm
  refine x_entry (ls := [some (aR l), some (aR m)]) rfl rfl (Nat.le_of_ble_eq_true rfl) ?_
  refine x_al_n (q := 1) dX3_copy_0 rfl rfl ?_
  refine x_getR (q := 4) (o := some (m + 1)) dX3_copy_1 rfl fX3_9 (by assumption) rfl (by assumption) ?_
  refine x_ic (q := 5) dX3_copy_4 rfl rfl ?_
  refine x_al_n (q := 6) dX3_copy_5 rfl rfl ?_
  refine x_getR (q := 9) (o := some (l + 1)) dX3_copy_6 rfl fX3_9 (by assumption) rfl (by assumption) ?_
  refine x_ic (q := 10) dX3_copy_9 rfl rfl ?_
  refine x_bi (q := 12) dX3_copy_10 rfl rfl ?_
  refine x_copy (q := 15) dX3_copy_12 rfl q445 q329 q328 q77 (by assumption) (by assumption) (by decide) (by decide) (by decide) (Nat.le_of_ble_eq_true rfl) (Nat.le_of_ble_eq_true rfl) (Nat.le_of_ble_eq_true rfl) ?_
  refine x_al_n (q := 16) dX3_copy_15 rfl rfl ?_
  refine x_getR (q := 19) (o := some (m + 2)) dX3_copy_16 rfl fX3_15 (by assumption) rfl (by assumption) ?_
  refine x_ic (q := 20) dX3_copy_19 rfl rfl ?_
  refine x_al_n (q := 21) dX3_copy_20 rfl rfl ?_
  refine x_getR (q := 24) (o := some (l + 2)) dX3_copy_21 rfl fX3_15 (by assumption) rfl (by assumption) ?_
  refine x_ic (q := 25) dX3_copy_24 rfl rfl ?_
  refine x_bi (q := 27) dX3_copy_25 rfl rfl ?_
  refine x_copy (q := 30) dX3_copy_27 rfl q445 q329 q328 q77 (by assumption) (by assumption) (by decide) (by decide) (by decide) (Nat.le_of_ble_eq_true rfl) (Nat.le_of_ble_eq_true rfl) (Nat.le_of_ble_eq_true rfl) ?_
  refine x_al_n (q := 31) dX3_copy_30 rfl rfl ?_
  refine x_getR (q := 34) (o := some (m + 3)) dX3_copy_31 rfl fX3_18 (by assumption) rfl (by assumption) ?_
  refine x_ic (q := 35) dX3_copy_34 rfl rfl ?_
  refine x_al_n (q := 36) dX3_copy_35 rfl rfl ?_
  refine x_getR (q := 39) (o := some (l + 3)) dX3_copy_36 rfl fX3_18 (by assumption) rfl (by assumption) ?_
  refine x_ic (q := 40) dX3_copy_39 rfl rfl ?_
  refine x_bi (q := 42) dX3_copy_40 rfl rfl ?_
  refine x_copy (q := 45) dX3_copy_42 rfl q445 q329 q328 q77 (by assumption) (by assumption) (by decide) (by decide) (by decide) (Nat.le_of_ble_eq_true rfl) (Nat.le_of_ble_eq_true rfl) (Nat.le_of_ble_eq_true rfl) ?_
  refine x_al_n (q := 46) dX3_copy_45 rfl rfl ?_
  refine x_al_n (q := 47) dX3_copy_46 rfl rfl ?_
  refine x_getIe (q := 50) (z := v m 3) dX3_copy_47 rfl fX3_21 (by assumption) rfl (by simp only [upR]; repeat rw [if_neg (by omega)]) ?_
  refine x_putI (q := 53) dX3_copy_50 rfl fX3_21 (by assumption) (.inl rfl) rfl ?_
  refine x_al_n (q := 54) dX3_copy_53 rfl rfl ?_
  refine x_al_n (q := 55) dX3_copy_54 rfl rfl ?_
  refine x_getIe (q := 58) (z := v m 4) dX3_copy_55 rfl fX3_25 (by assumption) rfl (by simp only [upR, up]; repeat rw [if_neg (by omega)]) ?_
  refine x_putI (q := 61) dX3_copy_58 rfl fX3_25 (by assumption) (.inl rfl) rfl ?_
  exact x_vret dX3_copy_61 rfl rfl (Nat.zero_le _) (by refine ⟨rfl, _, rfl, ⟨?_, ?_, fun j hj => ⟨?_, ?_, ?_⟩⟩, fun c hc => ?_⟩ <;> simp only [upR, up] <;> first | (simp; done) | (have z1 : m ≠ l := (by omega); have z2 : m + 1 ≠ l := (by omega); have z3 : m + 2 ≠ l := (by omega); have z4 : m + 3 ≠ l := (by omega); have z5 : m + 1 ≠ l + 2 := (by omega); have z6 : m + 2 ≠ l + 1 := (by omega); have z7 : m + 3 ≠ l + 1 := (by omega); have z8 : m + 3 ≠ l + 2 := (by omega); have z9 : m + 1 ≠ l + 3 := (by omega); have z10 : m + 2 ≠ l + 3 := (by omega); simp [z1, z2, z3, z4, z5, z6, z7, z8, z9, z10, hj]; done) | (have y1 : c ≠ l := (by omega); have y2 : c ≠ l + 1 := (by omega); have y3 : c ≠ l + 2 := (by omega); have y4 : c ≠ l + 3 := (by omega); simp [y1, y2, y3, y4]))
set_option maxHeartbeats 4000000 in
set_option maxRecDepth 100000 in
theorem c_heldCopy {e d : Nat} (he : HeldAt sh rf e) (hd : HeldAt sh rf d) (hed : e + 6 ≤ d ∨ d + 6 ≤ e) : Cv g mX2_copy [aR e, aR d] (sh, rf, v) (putL (fun v' => SameH v d v' e ∧ ∀ c, c < e + 1 ∨ e + 6 ≤ c → v' c = v c) sh rf) := by
  obtain ⟨a1, a2, a3, a4, a5⟩ := he
  obtain ⟨b1, b2, b3, b4, b5⟩ := hd
  have a6 := a5.1
  refine x_entry (ls := [some (aR e), some (aR d)]) rfl rfl (Nat.le_of_ble_eq_true rfl) ?_
  refine x_al_n (q := 1) dX2_copy_0 rfl rfl ?_
  refine x_getR (q := 4) (o := some (e + 1)) dX2_copy_1 rfl fX2_10 (by assumption) rfl (by assumption) ?_
  refine x_al_n (q := 5) dX2_copy_4 rfl rfl ?_
  refine x_getR (q := 8) (o := some (d + 1)) dX2_copy_5 rfl fX2_10 (by assumption) rfl (by assumption) ?_
  refine x_V (q := 11) (ci := 1) dX2_copy_8 rfl kX2_copy_23 (c_banCopy (c := e + 1) (d := d + 1) a2 b2 (by omega)) rfl rfl (by assumption) (by decide) rfl (Nat.le_of_ble_eq_true rfl) ⟨rfl, rfl⟩ ⟨Nat.zero_le _, Nat.zero_le _⟩ (fun r1 h1 hp => ?_)
  obtain ⟨rfl, rfl⟩ := hp
  refine x_al_n (q := 12) dX2_copy_11 rfl rfl ?_
  refine x_getR (q := 15) (o := some (e + 2)) dX2_copy_12 rfl fX2_19 (by assumption) rfl (by assumption) ?_
  refine x_al_n (q := 16) dX2_copy_15 rfl rfl ?_
  refine x_getR (q := 19) (o := some (d + 2)) dX2_copy_16 rfl fX2_19 (by assumption) rfl (by assumption) ?_
  refine x_V (q := 22) (ci := 3) dX2_copy_19 rfl kX2_copy_27 (c_lineCopy (l := e + 2) (m := d + 2) a5 b5 (by omega)) rfl rfl (by assumption) (by decide) rfl (Nat.le_of_ble_eq_true rfl) ⟨rfl, rfl⟩ ⟨Nat.zero_le _, Nat.zero_le _⟩ (fun r1 h1 hp => ?_)
  obtain ⟨rfl, v2, rfl, hs, hk⟩ := hp
  refine x_vret dX2_copy_22 rfl rfl (Nat.zero_le _) ?_
  refine ⟨rfl, v2, rfl, ⟨?_, ?_⟩, fun c hc => ?_⟩
  · have : banOf v2 (e + 1) = banOf (setBan v (e + 1) (banOf v (d + 1))) (e + 1) := banOf_cong (hk (e + 1) (by omega))
    rw [this, setBan_b]
  · obtain ⟨s1, s2, s3⟩ := hs
    have n0 : setBan v (e + 1) (banOf v (d + 1)) (d + 2) = v (d + 2) := setBan_n (by omega)
    have n1 : setBan v (e + 1) (banOf v (d + 1)) (d + 2 + 1) = v (d + 2 + 1) := setBan_n (by omega)
    have n2 : setBan v (e + 1) (banOf v (d + 1)) (d + 2 + 2) = v (d + 2 + 2) := setBan_n (by omega)
    have n3 : setBan v (e + 1) (banOf v (d + 1)) (d + 2 + 3) = v (d + 2 + 3) := setBan_n (by omega)
    rw [n0] at s1 s2
    rw [n1, n2, n3] at s3
    exact ⟨s1, s2, s3⟩
  · rw [hk c (by omega)]
    exact setBan_n (by omega)
end LIN
end
section
/-! ===== what follows from a ban: arcs, good states, tags, window ===== -/
def LO (so lo hi w : Int) : Nat → Int → Int
  | 0, x => x
  | k + 1, x => if x = -9 then -9 else LO so lo hi w k (stp so lo hi x (w / 2 ^ k % 2))
theorem LO_9 (so lo hi w : Int) : ∀ k, LO so lo hi w k (-9) = -9
  | 0 => rfl
  | k + 1 => by unfold LO; rw [if_pos rfl]
theorem stW_rng (lo hi x : Int) (hh : 0 < hi) : ∀ n : Nat, (n : Int) ≤ hi → stW lo hi x n = -9 ∨ (0 ≤ stW lo hi x n ∧ stW lo hi x n < hi)
  | 0, h => by
    unfold stW
    right; omega
  | n + 1, h => by
    unfold stW
    split
    · split
      · exact .inl rfl
      · right; omega
    · exact stW_rng lo hi x hh n (by omega)
theorem stp_rng {so lo hi s b : Int} (hv : VBan so lo hi) (h0 : 0 ≤ s) (h1 : s < nst so lo hi) : stp so lo hi s b = -9 ∨ (0 ≤ stp so lo hi s b ∧ stp so lo hi s b < nst so lo hi) := by
  unfold stp
  unfold nst at h1 ⊢
  rcases hv with hv | hv | hv
  · rw [if_pos hv.1] at h1 ⊢
    rw [if_pos hv.1]
    unfold stR
    (repeat' split) <;> omega
  · rw [if_neg (by omega), if_pos hv.1] at h1 ⊢
    rw [if_neg (by omega), if_pos hv.1]
    unfold stC
    (repeat' split) <;> omega
  · rw [if_neg (by omega), if_neg (by omega)] at h1 ⊢
    rw [if_neg (by omega), if_neg (by omega)]
    exact stW_rng _ _ _ (by omega) _ (by omega)
theorem LO_rng {so lo hi w : Int} (hv : VBan so lo hi) : ∀ (k : Nat) (x : Int), (x = -9 ∨ (0 ≤ x ∧ x < nst so lo hi)) → LO so lo hi w k x = -9 ∨ (0 ≤ LO so lo hi w k x ∧ LO so lo hi w k x < nst so lo hi)
  | 0, x, h => h
  | k + 1, x, h => by
    unfold LO
    split
    · exact .inl rfl
    · rename_i hx
      rcases h with h | h
      · exact absurd h hx
      · exact LO_rng hv k _ (stp_rng hv h.1 h.2)
/-- the arcs: where the arc of s over w leads, -9 if there is none -/
def eT (c : Cfg) (s w : Nat) : Int := if (s : Int) < nst c.1 c.2.1 c.2.2.1 ∧ (w : Int) < 2 ^ c.2.2.2.2.toNat then LO c.1 c.2.1 c.2.2.1 w c.2.2.2.2.toNat s else -9
def nS (c : Cfg) : Nat := (nst c.1 c.2.1 c.2.2.1).toNat
theorem nS_rng {c : Cfg} (h : Vld c) : 2 ≤ nS c ∧ nS c ≤ 7 ∧ ((nS c : Nat) : Int) = nst c.1 c.2.1 c.2.2.1 := by
  have := nst_rng h.1
  unfold nS
  omega
theorem eT_rng {c : Cfg} (h : Vld c) (s w : Nat) : eT c s w = -9 ∨ (0 ≤ eT c s w ∧ eT c s w < nS c) := by
  have hn := nS_rng h
  unfold eT
  split
  · rename_i h1
    rw [hn.2.2]
    exact LO_rng h.1 _ _ (.inr ⟨by omega, h1.1⟩)
  · exact .inl rfl
def cnt (f : Nat → Bool) : Nat → Int
  | 0 => 0
  | n + 1 => cnt f n + b2i (f n)
theorem b2i_rng (b : Bool) : 0 ≤ b2i b ∧ b2i b ≤ 1 := by cases b <;> simp [b2i]
theorem cnt_rng (f : Nat → Bool) : ∀ n, 0 ≤ cnt f n ∧ cnt f n ≤ n
  | 0 => by simp [cnt]
  | n + 1 => by
    have := cnt_rng f n
    have := b2i_rng (f n)
    unfold cnt
    omega
theorem cnt_cong {f g : Nat → Bool} : ∀ {n}, (∀ s, s < n → f s = g s) → cnt f n = cnt g n
  | 0, _ => rfl
  | n + 1, h => by
    unfold cnt
    rw [cnt_cong (fun s hs => h s (by omega)), h n (by omega)]
theorem cnt_le {f g : Nat → Bool} : ∀ {n}, (∀ s, s < n → f s = true → g s = true) → cnt f n ≤ cnt g n
  | 0, _ => Int.le_refl _
  | n + 1, h => by
    have h1 := cnt_le (n := n) (fun s hs => h s (by omega))
    have h2 := h n (by omega)
    unfold cnt
    cases hf : f n <;> cases hg : g n <;> simp_all [b2i] <;> omega
theorem cnt_lt {f g : Nat → Bool} : ∀ {n}, (∀ s, s < n → f s = true → g s = true) → (∃ s, s < n ∧ f s ≠ g s) → cnt f n < cnt g n
  | 0, _, h => by obtain ⟨s, hs, -⟩ := h; omega
  | n + 1, h, ⟨s, hs, hne⟩ => by
    have h2 := h n (by omega)
    have h3 := cnt_le (n := n) (fun s hs => h s (by omega))
    unfold cnt
    by_cases hn : f n = g n
    · have h1 := cnt_lt (n := n) (fun s hs => h s (by omega)) ⟨s, by
        rcases Nat.lt_or_ge s n with q | q
        · exact q
        · have : s = n := by omega
          subst this
          exact absurd hn hne, hne⟩
      rw [hn]; omega
    · cases hf : f n <;> cases hg : g n <;> simp_all [b2i] <;> omega
/-- the first of k places from i on, -9 if none -/
def fi (f : Nat → Bool) : Nat → Nat → Int
  | _, 0 => -9
  | i, k + 1 => if f i then (i : Int) else fi f (i + 1) k
theorem fi_cong {f g : Nat → Bool} : ∀ {i k}, (∀ s, i ≤ s → s < i + k → f s = g s) → fi f i k = fi g i k
  | i, 0, _ => rfl
  | i, k + 1, h => by
    unfold fi
    rw [h i (by omega) (by omega), fi_cong (fun s h1 h2 => h s (by omega) (by omega))]
/-- a state is in the set f of n -/
def inS (f : Nat → Bool) (n : Nat) (x : Int) : Bool := decide (0 ≤ x ∧ x < n) && f x.toNat
def hasB (bits s : Int) : Bool := decide (0 ≤ s ∧ s < 7 ∧ bits / 2 ^ s.toNat % 2 = 1)
theorem has_mk {f : Nat → Bool} {n : Nat} (hn : n ≤ 7) (s : Int) : hasB (mk f n) s = inS f n s := by
  unfold hasB inS
  by_cases h0 : 0 ≤ s
  · obtain ⟨k, rfl⟩ := Int.eq_ofNat_of_zero_le h0
    rw [Int.toNat_natCast, mk_bit]
    by_cases hk : k < n <;> by_cases hf : f k = true <;> simp [hk, hf] <;> omega
  · rw [decide_eq_false (by omega), decide_eq_false (by omega)]; rfl
/-- a round: those that have enough arcs to those left -/
def rnd (e : Nat → Nat → Int) (n : Nat) (need : Int) (f : Nat → Bool) : Nat → Bool := fun s => inS f n s && decide (need ≤ cnt (fun w => inS f n (e s w)) 16)
def gk (e : Nat → Nat → Int) (n : Nat) (need : Int) : Nat → Nat → Bool
  | 0 => fun _ => true
  | k + 1 => rnd e n need (gk e n need k)
theorem inS_cong {f g : Nat → Bool} {n : Nat} (h : ∀ s, s < n → f s = g s) (x : Int) : inS f n x = inS g n x := by
  unfold inS
  by_cases hx : 0 ≤ x ∧ x < n
  · rw [h x.toNat (by omega)]
  · rw [decide_eq_false hx]; rfl
theorem rnd_cong {e : Nat → Nat → Int} {n : Nat} {need : Int} {f g : Nat → Bool} (h : ∀ s, s < n → f s = g s) (s : Nat) : rnd e n need f s = rnd e n need g s := by
  unfold rnd
  rw [inS_cong h, cnt_cong (fun w _ => inS_cong h (e s w))]
theorem inS_nat {f : Nat → Bool} {n s : Nat} (h : s < n) : inS f n s = f s := by
  unfold inS
  rw [decide_eq_true (by omega), Int.toNat_natCast]; rfl
theorem gk_fix {e : Nat → Nat → Int} {n : Nat} {need : Int} {k : Nat} (h : ∀ s, s < n → gk e n need (k + 1) s = gk e n need k s) : ∀ j s, s < n → gk e n need (k + j) s = gk e n need k s
  | 0, _, _ => rfl
  | j + 1, s, hs => by
    have ih := gk_fix h j
    show rnd e n need (gk e n need (k + j)) s = _
    rw [rnd_cong ih]
    exact h s hs
theorem gk_sub {e : Nat → Nat → Int} {n : Nat} {need : Int} {k : Nat} : ∀ s, s < n → gk e n need (k + 1) s = true → gk e n need k s = true := by
  intro s hs h
  unfold gk rnd at h
  rw [inS_nat hs] at h
  simp at h
  exact h.1
theorem gk_dec {e : Nat → Nat → Int} {n : Nat} {need : Int} : ∀ k : Nat, (∃ j, j ≤ k ∧ ∀ s, s < n → gk e n need (j + 1) s = gk e n need j s) ∨ cnt (gk e n need (k + 1)) n ≤ (n : Int) - ((k + 1 : Nat) : Int) := by
  intro k
  induction k with
  | zero =>
    by_cases h : ∀ s, s < n → gk e n need 1 s = gk e n need 0 s
    · exact .inl ⟨0, Nat.le_refl _, h⟩
    · right
      have h1 : ∃ s, s < n ∧ gk e n need 1 s ≠ gk e n need 0 s := by simpa using h
      have h2 : cnt (gk e n need 1) n < cnt (gk e n need 0) n := cnt_lt (n := n) (fun s hs => gk_sub s hs) h1
      have h3 := (cnt_rng (gk e n need 0) n).2
      show cnt (gk e n need 1) n ≤ (n : Int) - ((1 : Nat) : Int)
      omega
  | succ k ih =>
    rcases ih with ⟨j, hj, h⟩ | ih
    · exact .inl ⟨j, by omega, h⟩
    · by_cases h : ∀ s, s < n → gk e n need (k + 2) s = gk e n need (k + 1) s
      · exact .inl ⟨k + 1, Nat.le_refl _, h⟩
      · right
        have h1 : ∃ s, s < n ∧ gk e n need (k + 2) s ≠ gk e n need (k + 1) s := by simpa using h
        have h2 : cnt (gk e n need (k + 2)) n < cnt (gk e n need (k + 1)) n := cnt_lt (n := n) (fun s hs => gk_sub s hs) h1
        show cnt (gk e n need (k + 2)) n ≤ _
        omega
/-- the good states: eight rounds reach them -/
def gd (e : Nat → Nat → Int) (n : Nat) (need : Int) : Nat → Bool := gk e n need 8
theorem gd_fix {e : Nat → Nat → Int} {n : Nat} {need : Int} (hn : n ≤ 7) {k : Nat} (h : ∀ s, s < n → gk e n need (k + 1) s = gk e n need k s) : ∀ s, s < n → gk e n need k s = gd e n need s := by
  intro s hs
  have hex : ∃ j, j ≤ 7 ∧ ∀ s, s < n → gk e n need (j + 1) s = gk e n need j s := by
    rcases gk_dec (e := e) (n := n) (need := need) 7 with h | h
    · exact h
    · have := (cnt_rng (gk e n need 8) n).1
      simp only [Nat.reduceAdd] at h
      omega
  obtain ⟨j, hj, h2⟩ := hex
  have e1 := gk_fix h2 (8 - j) s hs
  rw [show j + (8 - j) = 8 by omega] at e1
  rcases Nat.le_total j k with q | q
  · have e2 := gk_fix h2 (k - j) s hs
    rw [show j + (k - j) = k by omega] at e2
    unfold gd
    rw [e1, e2]
  · have e2 := gk_fix h (8 - k) s hs
    rw [show k + (8 - k) = 8 by omega] at e2
    unfold gd
    rw [e2]
theorem gk_ends {e : Nat → Nat → Int} {n : Nat} {need : Int} (hn : n ≤ 7) : ∃ j, j ≤ 7 ∧ ∀ s, s < n → gk e n need (j + 1) s = gk e n need j s := by
  rcases gk_dec (e := e) (n := n) (need := need) 7 with h | h
  · exact h
  · have := (cnt_rng (gk e n need 8) n).1
    simp only [Nat.reduceAdd] at h
    omega
theorem gd_rnd {e : Nat → Nat → Int} {n : Nat} {need : Int} (hn : n ≤ 7) {s : Nat} (hs : s < n) (h : gd e n need s = true) : need ≤ cnt (fun w => inS (gd e n need) n (e s w)) 16 := by
  obtain ⟨j, hj, h2⟩ := gk_ends (e := e) (n := n) (need := need) hn
  have e1 := gk_fix h2 (8 - j)
  have e2 := gk_fix h2 (9 - j)
  rw [show j + (8 - j) = 8 by omega] at e1
  rw [show j + (9 - j) = 9 by omega] at e2
  have h3 : gk e n need 9 s = true := by rw [e2 s hs, ← e1 s hs]; exact h
  unfold gk rnd at h3
  simp at h3
  exact h3.2
/-- tags: a w: whether the arc over w leads to a good one from a good one -/
def tcn (a : Nat → Bool) (need : Int) : Nat → Int
  | 0 => 0
  | w + 1 => tcn a need w + b2i (a w && decide (tcn a need w < need))
def tg (a : Nat → Bool) (need : Int) (w : Nat) : Int := if (a w && decide (tcn a need w < need)) = true then tcn a need w else -9
theorem tcn_rng (a : Nat → Bool) (need : Int) (hn : 0 ≤ need) : ∀ w, 0 ≤ tcn a need w ∧ tcn a need w ≤ w ∧ tcn a need w ≤ need
  | 0 => by simp [tcn]; exact hn
  | w + 1 => by
    have h1 := tcn_rng a need hn w
    have h2 := b2i_rng (a w && decide (tcn a need w < need))
    unfold tcn
    by_cases h : tcn a need w < need
    · omega
    · have : (a w && decide (tcn a need w < need)) = false := by simp [h]
      rw [this]; simp [b2i]; omega
end
section
/-! ===== Arcs ===== -/
def endF (v : Nat → Nat → Int) (s w : Int) : Int := if 0 ≤ s ∧ s < 7 ∧ 0 ≤ w ∧ w < 16 then v 11 (s * 16 + w).toNat else -9
def tagF (v : Nat → Nat → Int) (s w : Int) : Int := if 0 ≤ s ∧ s < 7 ∧ 0 ≤ w ∧ w < 16 then v 12 (s * 16 + w).toNat else -9
theorem cnt_t {f : Nat → Bool} {n : Nat} (h : f n = true) : cnt f (n + 1) = cnt f n + 1 := by show cnt f n + b2i (f n) = _; rw [h]; rfl
theorem cnt_f {f : Nat → Bool} {n : Nat} (h : f n = false) : cnt f (n + 1) = cnt f n := by show cnt f n + b2i (f n) = _; rw [h]; simp [b2i]
theorem fi_t {f : Nat → Bool} {i k : Nat} (h : f i = true) : fi f i (k + 1) = i := by unfold fi; rw [if_pos h]
theorem fi_f {f : Nat → Bool} {i k : Nat} (h : f i = false) : fi f i (k + 1) = fi f (i + 1) k := by
  show (if f i then (i : Int) else fi f (i + 1) k) = _
  rw [if_neg (by rw [h]; decide)]
theorem up_at (v : Nat → Nat → Int) (c k : Nat) (z : Int) (j : Nat) : up v c k z c j = if j = k then z else v c j := by simp [up]
theorem eT_in {c : Cfg} {s w : Nat} (h1 : (s : Int) < nst c.1 c.2.1 c.2.2.1) (h2 : (w : Int) < 2 ^ c.2.2.2.2.toNat) : eT c s w = LO c.1 c.2.1 c.2.2.1 w c.2.2.2.2.toNat s := by unfold eT; rw [if_pos ⟨h1, h2⟩]
theorem eT_o1 {c : Cfg} {s w : Nat} (h1 : ¬ (s : Int) < nst c.1 c.2.1 c.2.2.1) : eT c s w = -9 := by unfold eT; rw [if_neg (fun h => h1 h.1)]
theorem eT_o2 {c : Cfg} {s w : Nat} (h1 : ¬ (w : Int) < 2 ^ c.2.2.2.2.toNat) : eT c s w = -9 := by unfold eT; rw [if_neg (fun h => h1 h.2)]
section ARC
variable {g : GL} {sh : List (Nat × Nat)} {rf : Nat → Nat → Option Nat} {v : Nat → Nat → Int}

set_option maxHeartbeats 4000000 in
set_option maxRecDepth 100000 in
theorem c_endOf (hs : Ext sh) (hr : Rok rf) {s w : Int} : Cv g mX0_endOf [aR 10, aI s, aI w] (sh, rf, v) (retI (endF v s w) (sh, rf, v)) := by
  refine x_entry (ls := [some (aR 10), some (aI s), some (aI w)]) rfl rfl (Nat.le_of_ble_eq_true rfl) ?_
  refine x_il_n (q := 1) dX0_endOf_0 rfl rfl ?_
  refine x_if_lt (t := 20) (q := 4) dX0_endOf_1 rfl rfl (fun c_1 => ?_) (fun c_1 => ?_)
  · skip
    refine x_bi (q := 22) dX0_endOf_20 rfl rfl ?_
    exact x_iret dX0_endOf_22 rfl rfl (Nat.zero_le _) (retI_mk (by first | rw [endF, if_neg (by omega)] | rw [endF, if_pos (by omega)]))
  · skip
    refine x_il_n (q := 5) dX0_endOf_4 rfl rfl ?_
    refine x_bi (q := 7) dX0_endOf_5 rfl rfl ?_
    refine x_ic_ge (t := 20) (q := 10) dX0_endOf_7 rfl rfl (fun c_7 => ?_) (fun c_7 => ?_)
    · skip
      refine x_bi (q := 22) dX0_endOf_20 rfl rfl ?_
      exact x_iret dX0_endOf_22 rfl rfl (Nat.zero_le _) (retI_mk (by first | rw [endF, if_neg (by omega)] | rw [endF, if_pos (by omega)]))
    · skip
      refine x_il_n (q := 11) dX0_endOf_10 rfl rfl ?_
      refine x_if_lt (t := 20) (q := 14) dX0_endOf_11 rfl rfl (fun c_11 => ?_) (fun c_11 => ?_)
      · skip
        refine x_bi (q := 22) dX0_endOf_20 rfl rfl ?_
        exact x_iret dX0_endOf_22 rfl rfl (Nat.zero_le _) (retI_mk (by first | rw [endF, if_neg (by omega)] | rw [endF, if_pos (by omega)]))
      · skip
        refine x_il_n (q := 15) dX0_endOf_14 rfl rfl ?_
        refine x_bi (q := 17) dX0_endOf_15 rfl rfl ?_
        refine x_ic_lt (t := 23) (q := 20) dX0_endOf_17 rfl rfl (fun c_17 => ?_) (fun c_17 => ?_)
        · skip
          refine x_al_n (q := 24) dX0_endOf_23 rfl rfl ?_
          refine x_getR (q := 27) (o := some (11)) dX0_endOf_24 rfl fX0_9 (hs _ _ rfl) rfl (hr _ _ _ rfl) ?_
          refine x_il_n (q := 28) dX0_endOf_27 rfl rfl ?_
          refine x_bi (q := 30) dX0_endOf_28 rfl rfl ?_
          refine x_mul (q := 31) dX0_endOf_30 rfl ⟨by omega, by omega⟩ ?_
          refine x_il_n (q := 32) dX0_endOf_31 rfl rfl ?_
          refine x_add (q := 33) dX0_endOf_32 rfl ⟨by omega, by omega⟩ ?_
          refine x_iald (q := 34) dX0_endOf_33 rfl (hs _ _ rfl) (by omega) (by omega) ?_
          exact x_iret dX0_endOf_34 rfl rfl (Nat.zero_le _) (retI_mk (by first | rw [endF, if_neg (by omega)] | rw [endF, if_pos (by omega)]))
        · skip
          refine x_bi (q := 22) dX0_endOf_20 rfl rfl ?_
          exact x_iret dX0_endOf_22 rfl rfl (Nat.zero_le _) (retI_mk (by first | rw [endF, if_neg (by omega)] | rw [endF, if_pos (by omega)]))
set_option maxHeartbeats 4000000 in
set_option maxRecDepth 100000 in
theorem c_tagOf (hs : Ext sh) (hr : Rok rf) {s w : Int} : Cv g mX0_tagOf [aR 10, aI s, aI w] (sh, rf, v) (retI (tagF v s w) (sh, rf, v)) := by
  refine x_entry (ls := [some (aR 10), some (aI s), some (aI w)]) rfl rfl (Nat.le_of_ble_eq_true rfl) ?_
  refine x_il_n (q := 1) dX0_tagOf_0 rfl rfl ?_
  refine x_if_lt (t := 20) (q := 4) dX0_tagOf_1 rfl rfl (fun c_1 => ?_) (fun c_1 => ?_)
  · skip
    refine x_bi (q := 22) dX0_tagOf_20 rfl rfl ?_
    exact x_iret dX0_tagOf_22 rfl rfl (Nat.zero_le _) (retI_mk (by first | rw [tagF, if_neg (by omega)] | rw [tagF, if_pos (by omega)]))
  · skip
    refine x_il_n (q := 5) dX0_tagOf_4 rfl rfl ?_
    refine x_bi (q := 7) dX0_tagOf_5 rfl rfl ?_
    refine x_ic_ge (t := 20) (q := 10) dX0_tagOf_7 rfl rfl (fun c_7 => ?_) (fun c_7 => ?_)
    · skip
      refine x_bi (q := 22) dX0_tagOf_20 rfl rfl ?_
      exact x_iret dX0_tagOf_22 rfl rfl (Nat.zero_le _) (retI_mk (by first | rw [tagF, if_neg (by omega)] | rw [tagF, if_pos (by omega)]))
    · skip
      refine x_il_n (q := 11) dX0_tagOf_10 rfl rfl ?_
      refine x_if_lt (t := 20) (q := 14) dX0_tagOf_11 rfl rfl (fun c_11 => ?_) (fun c_11 => ?_)
      · skip
        refine x_bi (q := 22) dX0_tagOf_20 rfl rfl ?_
        exact x_iret dX0_tagOf_22 rfl rfl (Nat.zero_le _) (retI_mk (by first | rw [tagF, if_neg (by omega)] | rw [tagF, if_pos (by omega)]))
      · skip
        refine x_il_n (q := 15) dX0_tagOf_14 rfl rfl ?_
        refine x_bi (q := 17) dX0_tagOf_15 rfl rfl ?_
        refine x_ic_lt (t := 23) (q := 20) dX0_tagOf_17 rfl rfl (fun c_17 => ?_) (fun c_17 => ?_)
        · skip
          refine x_al_n (q := 24) dX0_tagOf_23 rfl rfl ?_
          refine x_getR (q := 27) (o := some (12)) dX0_tagOf_24 rfl fX0_15 (hs _ _ rfl) rfl (hr _ _ _ rfl) ?_
          refine x_il_n (q := 28) dX0_tagOf_27 rfl rfl ?_
          refine x_bi (q := 30) dX0_tagOf_28 rfl rfl ?_
          refine x_mul (q := 31) dX0_tagOf_30 rfl ⟨by omega, by omega⟩ ?_
          refine x_il_n (q := 32) dX0_tagOf_31 rfl rfl ?_
          refine x_add (q := 33) dX0_tagOf_32 rfl ⟨by omega, by omega⟩ ?_
          refine x_iald (q := 34) dX0_tagOf_33 rfl (hs _ _ rfl) (by omega) (by omega) ?_
          exact x_iret dX0_tagOf_34 rfl rfl (Nat.zero_le _) (retI_mk (by first | rw [tagF, if_neg (by omega)] | rw [tagF, if_pos (by omega)]))
        · skip
          refine x_bi (q := 22) dX0_tagOf_20 rfl rfl ?_
          exact x_iret dX0_tagOf_22 rfl rfl (Nat.zero_le _) (retI_mk (by first | rw [tagF, if_neg (by omega)] | rw [tagF, if_pos (by omega)]))
set_option maxHeartbeats 4000000 in
set_option maxRecDepth 100000 in
theorem c_has  {b s : Int} {h : AH} (h0 : 0 ≤ b) : Cv g mX0_has [aI b, aI s] h (retI (b2i (hasB b s)) h) := by
  refine x_entry (ls := [some (aI b), some (aI s)]) rfl rfl (Nat.le_of_ble_eq_true rfl) ?_
  refine x_il_n (q := 1) dX0_has_0 rfl rfl ?_
  refine x_if_lt (t := 23) (q := 4) dX0_has_1 rfl rfl (fun c_1 => ?_) (fun c_1 => ?_)
  · skip
    refine x_ic (q := 24) dX0_has_23 rfl rfl ?_
    exact x_zret dX0_has_24 rfl (by first | exact .inl rfl | exact .inr rfl | exact b2i_01 _) rfl (Nat.zero_le _) (retI_mk (by first | (rw [hasB, decide_eq_true ⟨by omega, by omega, by omega⟩]; rfl) | (rw [hasB, decide_eq_false (by omega)]; rfl)))
  · skip
    refine x_il_n (q := 5) dX0_has_4 rfl rfl ?_
    refine x_bi (q := 7) dX0_has_5 rfl rfl ?_
    refine x_ic_ge (t := 23) (q := 10) dX0_has_7 rfl rfl (fun c_7 => ?_) (fun c_7 => ?_)
    · skip
      refine x_ic (q := 24) dX0_has_23 rfl rfl ?_
      exact x_zret dX0_has_24 rfl (by first | exact .inl rfl | exact .inr rfl | exact b2i_01 _) rfl (Nat.zero_le _) (retI_mk (by first | (rw [hasB, decide_eq_true ⟨by omega, by omega, by omega⟩]; rfl) | (rw [hasB, decide_eq_false (by omega)]; rfl)))
    · skip
      refine x_il_n (q := 11) dX0_has_10 rfl rfl ?_
      refine x_il_n (q := 12) dX0_has_11 rfl rfl ?_
      refine x_shr (q := 13) dX0_has_12 rfl (by omega) (by omega) (by omega) ?_
      refine x_ic (q := 14) dX0_has_13 rfl rfl ?_
      refine x_and1 (q := 15) dX0_has_14 rfl (by first | exact nn_dv (by omega) | omega) ?_
      refine x_ic (q := 16) dX0_has_15 rfl rfl ?_
      refine x_ic_ne (t := 23) (q := 19) dX0_has_16 rfl rfl (fun c_16 => ?_) (fun c_16 => ?_)
      · skip
        refine x_ic (q := 24) dX0_has_23 rfl rfl ?_
        exact x_zret dX0_has_24 rfl (by first | exact .inl rfl | exact .inr rfl | exact b2i_01 _) rfl (Nat.zero_le _) (retI_mk (by first | (rw [hasB, decide_eq_true ⟨by omega, by omega, by omega⟩]; rfl) | (rw [hasB, decide_eq_false (by omega)]; rfl)))
      · skip
        refine x_ic (q := 20) dX0_has_19 rfl rfl ?_
        refine x_goto (t := 24) dX0_has_20 rfl ?_
        exact x_zret dX0_has_24 rfl (by first | exact .inl rfl | exact .inr rfl | exact b2i_01 _) rfl (Nat.zero_le _) (retI_mk (by first | (rw [hasB, decide_eq_true ⟨by omega, by omega, by omega⟩]; rfl) | (rw [hasB, decide_eq_false (by omega)]; rfl)))
set_option maxHeartbeats 4000000 in
set_option maxRecDepth 100000 in
theorem c_isGood (hs : Ext sh) (hr : Rok rf) {s : Int} (h0 : 0 ≤ v 10 1) : Cv g mX0_isGood [aR 10, aI s] (sh, rf, v) (retI (b2i (hasB (v 10 1) s)) (sh, rf, v)) := by
  refine x_entry (ls := [some (aR 10), some (aI s)]) rfl rfl (Nat.le_of_ble_eq_true rfl) ?_
  refine x_al_n (q := 1) dX0_isGood_0 rfl rfl ?_
  refine x_getI (q := 4) dX0_isGood_1 rfl fX0_66 (hs _ _ rfl) rfl ?_
  refine x_il_n (q := 5) dX0_isGood_4 rfl rfl ?_
  refine x_SI (q := 8) dX0_isGood_5 rfl kX0_isGood_69 (c_has h0) rfl rfl (Nat.le_of_ble_eq_true rfl) ⟨rfl, rfl⟩ ⟨Nat.zero_le _, Nat.zero_le _⟩ ?_
  exact x_zret dX0_isGood_8 rfl (by first | exact .inl rfl | exact .inr rfl | exact b2i_01 _) rfl (Nat.zero_le _) (retI_mk (by rfl))
set_option maxHeartbeats 4000000 in
set_option maxRecDepth 100000 in
theorem c_arcsFrom (hs : Ext sh) (hr : Rok rf) {s : Int} : Cv g mX0_arcsFrom [aR 10, aI s] (sh, rf, v) (retI (cnt (fun w => !decide (endF v s w = -9)) 16) (sh, rf, v)) := by
  refine x_entry (ls := [some (aR 10), some (aI s), none, none]) rfl rfl (Nat.le_of_ble_eq_true rfl) ?_
  refine x_ic (q := 1) dX0_arcsFrom_0 rfl rfl ?_
  refine x_is2 (q := 2) dX0_arcsFrom_1 rfl rfl ?_
  refine x_ic (q := 3) dX0_arcsFrom_2 rfl rfl ?_
  refine x_is3 (q := 4) dX0_arcsFrom_3 rfl rfl ?_
  refine x_up (S := fun i => Wv g mX0_arcsFrom 0 0 4 [some (aR 10), some (aI s), some (aI (cnt (fun w => !decide (endF v s w = -9)) i)), some (aI (i : Int))] [] (sh, rf, v) (retI (cnt (fun w => !decide (endF v s w = -9)) 16) (sh, rf, v))) 16 ?_ ?_ 0 (by decide)
  · skip
    refine x_il_n (q := 5) dX0_arcsFrom_4 rfl rfl ?_
    refine x_bi (q := 7) dX0_arcsFrom_5 rfl rfl ?_
    refine x_ic_ge (t := 30) (q := 10) dX0_arcsFrom_7 rfl rfl (fun c_7 => ?_) (fun c_7 => ?_)
    · skip
      refine x_il_n (q := 31) dX0_arcsFrom_30 rfl rfl ?_
      exact x_iret dX0_arcsFrom_31 rfl rfl (Nat.zero_le _) (retI_mk (by rfl))
    · skip
      exact absurd (by decide) c_7
  · intro i hi ih
    have hb := cnt_rng (fun w => !decide (endF v s w = -9)) i
    refine x_il_n (q := 5) dX0_arcsFrom_4 rfl rfl ?_
    refine x_bi (q := 7) dX0_arcsFrom_5 rfl rfl ?_
    refine x_ic_ge (t := 30) (q := 10) dX0_arcsFrom_7 rfl rfl (fun c_7 => ?_) (fun c_7 => ?_)
    · skip
      exact absurd c_7 (by omega)
    · skip
      refine x_al_n (q := 11) dX0_arcsFrom_10 rfl rfl ?_
      refine x_il_n (q := 12) dX0_arcsFrom_11 rfl rfl ?_
      refine x_il_n (q := 13) dX0_arcsFrom_12 rfl rfl ?_
      refine x_VI (q := 16) (ci := 0) dX0_arcsFrom_13 rfl kX0_arcsFrom_73 (c_endOf hs hr) rfl rfl (hs _ _ rfl) (by decide) rfl (Nat.le_of_ble_eq_true rfl) ⟨rfl, rfl⟩ ⟨Nat.zero_le _, Nat.zero_le _⟩ ?_
      refine x_bi (q := 18) dX0_arcsFrom_16 rfl rfl ?_
      refine x_ic_eq (t := 24) (q := 21) dX0_arcsFrom_18 rfl rfl (fun c_18 => ?_) (fun c_18 => ?_)
      · skip
        rw [cnt_f (by simp [c_18])] at ih
        refine x_ii3 (q := 27) dX0_arcsFrom_24 rfl rfl ⟨by omega, by omega⟩ ?_
        refine x_goto (t := 4) dX0_arcsFrom_27 rfl ?_
        exact ih
      · skip
        rw [cnt_t (by simp [c_18])] at ih
        refine x_ii2 (q := 24) dX0_arcsFrom_21 rfl rfl ⟨by omega, by omega⟩ ?_
        refine x_ii3 (q := 27) dX0_arcsFrom_24 rfl rfl ⟨by omega, by omega⟩ ?_
        refine x_goto (t := 4) dX0_arcsFrom_27 rfl ?_
        exact ih
set_option maxHeartbeats 4000000 in
set_option maxRecDepth 100000 in
theorem c_wordWith (hs : Ext sh) (hr : Rok rf) {s t : Int} : Cv g mX0_wordWith [aR 10, aI s, aI t] (sh, rf, v) ((retI (fi (fun w => decide (tagF v s w = t)) 0 16) (sh, rf, v))) := by
  refine x_entry (ls := [some (aR 10), some (aI s), some (aI t), none]) rfl rfl (Nat.le_of_ble_eq_true rfl) ?_
  refine x_ic (q := 1) dX0_wordWith_0 rfl rfl ?_
  refine x_is3 (q := 2) dX0_wordWith_1 rfl rfl ?_
  refine x_up (S := fun i => ∀ k, i + k = 16 → Wv g mX0_wordWith 0 0 2 [some (aR 10), some (aI s), some (aI t), some (aI (i : Int))] [] (sh, rf, v) (retI (fi (fun w => decide (tagF v s w = t)) i k) (sh, rf, v))) 16 ?_ ?_ 0 (by decide) 16 rfl
  · intro k hk
    obtain rfl : k = 0 := by omega
    refine x_il_n (q := 3) dX0_wordWith_2 rfl rfl ?_
    refine x_bi (q := 5) dX0_wordWith_3 rfl rfl ?_
    refine x_ic_ge (t := 26) (q := 8) dX0_wordWith_5 rfl rfl (fun c_5 => ?_) (fun c_5 => ?_)
    · skip
      refine x_bi (q := 28) dX0_wordWith_26 rfl rfl ?_
      exact x_iret dX0_wordWith_28 rfl rfl (Nat.zero_le _) (retI_mk (by rfl))
    · skip
      exact absurd (by decide) c_5
  · intro i hi ih k hk
    obtain ⟨k, rfl⟩ : ∃ j, k = j + 1 := ⟨15 - i, by omega⟩
    have ih := ih k (by omega)
    refine x_il_n (q := 3) dX0_wordWith_2 rfl rfl ?_
    refine x_bi (q := 5) dX0_wordWith_3 rfl rfl ?_
    refine x_ic_ge (t := 26) (q := 8) dX0_wordWith_5 rfl rfl (fun c_5 => ?_) (fun c_5 => ?_)
    · skip
      exact absurd c_5 (by omega)
    · skip
      refine x_al_n (q := 9) dX0_wordWith_8 rfl rfl ?_
      refine x_il_n (q := 10) dX0_wordWith_9 rfl rfl ?_
      refine x_il_n (q := 11) dX0_wordWith_10 rfl rfl ?_
      refine x_VI (q := 14) (ci := 0) dX0_wordWith_11 rfl kX0_wordWith_76 (c_tagOf hs hr) rfl rfl (hs _ _ rfl) (by decide) rfl (Nat.le_of_ble_eq_true rfl) ⟨rfl, rfl⟩ ⟨Nat.zero_le _, Nat.zero_le _⟩ ?_
      refine x_il_n (q := 15) dX0_wordWith_14 rfl rfl ?_
      refine x_ic_ne (t := 20) (q := 18) dX0_wordWith_15 rfl rfl (fun c_15 => ?_) (fun c_15 => ?_)
      · skip
        rw [fi_f (by simp [c_15])]
        refine x_ii3 (q := 23) dX0_wordWith_20 rfl rfl ⟨by omega, by omega⟩ ?_
        refine x_goto (t := 2) dX0_wordWith_23 rfl ?_
        exact ih
      · skip
        rw [fi_t (by simp [c_15])]
        refine x_il_n (q := 19) dX0_wordWith_18 rfl rfl ?_
        exact x_iret dX0_wordWith_19 rfl rfl (Nat.zero_le _) (retI_mk (by rfl))
def folw (v : Nat → Nat → Int) (c : Nat) : Nat → Nat → Int → Int
  | 0, _, x => x
  | k + 1, i, x => if tagF v x (v c i) = -9 then -9 else folw v c k (i + 1) (endF v x (v c i))
set_option maxHeartbeats 4000000 in
set_option maxRecDepth 100000 in
theorem c_follow (hs : Ext sh) (hr : Rok rf) {s : Int} {c a n m : Nat} (hc0 : sh[c]? = some (0, m)) (hm : a + n ≤ m) (hm2 : m < 1000) : Cv g mX0_follow [aR 10, aI s, aR c, aI (a : Int), aI (n : Int)] (sh, rf, v) (retI (folw v c n a s) (sh, rf, v)) := by
  refine x_entry (ls := [some (aR 10), some (aI s), some (aR c), some (aI (a : Int)), some (aI (n : Int)), none, none]) rfl rfl (Nat.le_of_ble_eq_true rfl) ?_
  refine x_il_n (q := 1) dX0_follow_0 rfl rfl ?_
  refine x_if_lt (t := 13) (q := 4) dX0_follow_1 rfl rfl (fun c_1 => ?_) (fun c_1 => ?_)
  · skip
    exact absurd c_1 (by omega)
  · skip
    refine x_il_n (q := 5) dX0_follow_4 rfl rfl ?_
    refine x_il (q := 7) dX0_follow_5 rfl rfl ?_
    refine x_add (q := 8) dX0_follow_7 rfl ⟨by omega, by omega⟩ ?_
    refine x_al_n (q := 9) dX0_follow_8 rfl rfl ?_
    refine x_alen (q := 10) dX0_follow_9 rfl hc0 (by decide) (by omega) ?_
    refine x_ic_le (t := 16) (q := 13) dX0_follow_10 rfl rfl (fun c_10 => ?_) (fun c_10 => ?_)
    · skip
      refine x_il_n (q := 17) dX0_follow_16 rfl rfl ?_
      refine x_is5 (q := 19) dX0_follow_17 rfl rfl ?_
      refine x_il_n (q := 20) dX0_follow_19 rfl rfl ?_
      refine x_is6 (q := 22) dX0_follow_20 rfl rfl ?_
      have key : ∀ (k i : Nat) (x : Int), i + k = a + n → Wv g mX0_follow 0 0 22 [some (aR 10), some (aI s), some (aR c), some (aI (a : Int)), some (aI (n : Int)), some (aI x), some (aI (i : Int))] [] (sh, rf, v) (retI (folw v c k i x) (sh, rf, v)) := by
        intro k
        induction k with
        | zero =>
          intro i x hi
          refine x_il (q := 24) dX0_follow_22 rfl rfl ?_
          refine x_il_n (q := 25) dX0_follow_24 rfl rfl ?_
          refine x_il (q := 27) dX0_follow_25 rfl rfl ?_
          refine x_add (q := 28) dX0_follow_27 rfl ⟨by omega, by omega⟩ ?_
          refine x_ic_ge (t := 67) (q := 31) dX0_follow_28 rfl rfl (fun c_28 => ?_) (fun c_28 => ?_)
          · skip
            refine x_il (q := 69) dX0_follow_67 rfl rfl ?_
            exact x_iret dX0_follow_69 rfl rfl (Nat.zero_le _) (retI_mk (by rfl))
          · skip
            exact absurd (by omega) c_28
        | succ k ih =>
          intro i x hi
          refine x_il (q := 24) dX0_follow_22 rfl rfl ?_
          refine x_il_n (q := 25) dX0_follow_24 rfl rfl ?_
          refine x_il (q := 27) dX0_follow_25 rfl rfl ?_
          refine x_add (q := 28) dX0_follow_27 rfl ⟨by omega, by omega⟩ ?_
          refine x_ic_ge (t := 67) (q := 31) dX0_follow_28 rfl rfl (fun c_28 => ?_) (fun c_28 => ?_)
          · skip
            exact absurd c_28 (by omega)
          · skip
            refine x_al_n (q := 32) dX0_follow_31 rfl rfl ?_
            refine x_il (q := 34) dX0_follow_32 rfl rfl ?_
            refine x_al_n (q := 35) dX0_follow_34 rfl rfl ?_
            refine x_il (q := 37) dX0_follow_35 rfl rfl ?_
            refine x_ialde (q := 38) (z := v c i) dX0_follow_37 rfl (by first | exact hc0 | exact hs _ _ rfl) (by omega) (by omega) (by rw [Int.toNat_natCast]) ?_
            refine x_VI (q := 41) (ci := 0) dX0_follow_38 rfl kX0_follow_76 (c_tagOf hs hr) rfl rfl (by first | exact hc0 | exact hs _ _ rfl) (by decide) rfl (Nat.le_of_ble_eq_true rfl) ⟨rfl, rfl⟩ ⟨Nat.zero_le _, Nat.zero_le _⟩ ?_
            refine x_bi (q := 43) dX0_follow_41 rfl rfl ?_
            refine x_ic_ne (t := 49) (q := 46) dX0_follow_43 rfl rfl (fun c_43 => ?_) (fun c_43 => ?_)
            · skip
              refine x_al_n (q := 50) dX0_follow_49 rfl rfl ?_
              refine x_il (q := 52) dX0_follow_50 rfl rfl ?_
              refine x_al_n (q := 53) dX0_follow_52 rfl rfl ?_
              refine x_il (q := 55) dX0_follow_53 rfl rfl ?_
              refine x_ialde (q := 56) (z := v c i) dX0_follow_55 rfl (by first | exact hc0 | exact hs _ _ rfl) (by omega) (by omega) (by rw [Int.toNat_natCast]) ?_
              refine x_VI (q := 59) (ci := 0) dX0_follow_56 rfl kX0_follow_73 (c_endOf hs hr) rfl rfl (by first | exact hc0 | exact hs _ _ rfl) (by decide) rfl (Nat.le_of_ble_eq_true rfl) ⟨rfl, rfl⟩ ⟨Nat.zero_le _, Nat.zero_le _⟩ ?_
              refine x_is5 (q := 61) dX0_follow_59 rfl rfl ?_
              refine x_ii6 (q := 64) dX0_follow_61 rfl rfl ⟨by omega, by omega⟩ ?_
              refine x_goto (t := 22) dX0_follow_64 rfl ?_
              have h9 := ih (i + 1) (endF v x (v c i)) (by omega)
              unfold folw
              rw [if_neg (by omega)]
              exact h9
            · skip
              refine x_bi (q := 48) dX0_follow_46 rfl rfl ?_
              exact x_iret dX0_follow_48 rfl rfl (Nat.zero_le _) (retI_mk (by unfold folw; rw [if_pos (by omega)]))
      exact key n a s (by omega)
    · skip
      exact absurd (by omega) c_10
set_option maxHeartbeats 4000000 in
set_option maxRecDepth 100000 in
theorem c_leadOver  {c : Nat} {s w : Int} (hb : sh[c]? = some (4, 5)) (hv : VBan (v c 0) (v c 1) (v c 2)) (h0 : 0 ≤ s) (h1 : s < nst (v c 0) (v c 1) (v c 2)) (h2 : 0 ≤ w) (h3 : 0 ≤ v c 4) (h4 : v c 4 ≤ 20) : Cv g mX0_leadOver [aR c, aI s, aI w] (sh, rf, v) (retI (LO (v c 0) (v c 1) (v c 2) w (v c 4).toNat s) (sh, rf, v)) := by
  have key : ∀ (k : Nat) (x : Int), k ≤ 20 → (x = -9 ∨ (0 ≤ x ∧ x < nst (v c 0) (v c 1) (v c 2))) → Wv g mX0_leadOver 0 0 10 [some (aR c), some (aI s), some (aI w), some (aI x), some (aI ((k : Int) - 1))] [] (sh, rf, v) (retI (LO (v c 0) (v c 1) (v c 2) w k x) (sh, rf, v)) := by
    intro k
    induction k with
    | zero =>
      intro x hk hx
      refine x_il (q := 12) dX0_leadOver_10 rfl rfl ?_
      refine x_if_lt (t := 39) (q := 15) dX0_leadOver_12 rfl rfl (fun c_12 => ?_) (fun c_12 => ?_)
      · skip
        refine x_il_n (q := 40) dX0_leadOver_39 rfl rfl ?_
        exact x_iret dX0_leadOver_40 rfl rfl (Nat.zero_le _) (retI_mk (by rfl))
      · skip
        exact absurd (by decide) c_12
    | succ k ih =>
      intro x hk hx
      refine x_il (q := 12) dX0_leadOver_10 rfl rfl ?_
      refine x_if_lt (t := 39) (q := 15) dX0_leadOver_12 rfl rfl (fun c_12 => ?_) (fun c_12 => ?_)
      · skip
        exact absurd c_12 (by omega)
      · skip
        refine x_il_n (q := 16) dX0_leadOver_15 rfl rfl ?_
        refine x_bi (q := 18) dX0_leadOver_16 rfl rfl ?_
        refine x_ic_eq (t := 39) (q := 21) dX0_leadOver_18 rfl rfl (fun c_18 => ?_) (fun c_18 => ?_)
        · skip
          refine x_il_n (q := 40) dX0_leadOver_39 rfl rfl ?_
          exact x_iret dX0_leadOver_40 rfl rfl (Nat.zero_le _) (retI_mk (by unfold LO; rw [if_pos c_18]; exact c_18))
        · skip
          refine x_al_n (q := 22) dX0_leadOver_21 rfl rfl ?_
          refine x_il_n (q := 23) dX0_leadOver_22 rfl rfl ?_
          refine x_il_n (q := 24) dX0_leadOver_23 rfl rfl ?_
          refine x_il (q := 26) dX0_leadOver_24 rfl rfl ?_
          refine x_shr (q := 27) dX0_leadOver_26 rfl h2 (by omega) (by omega) ?_
          rw [show (((k + 1 : Nat) : Int) - 1).toNat = k by omega]
          refine x_ic (q := 28) dX0_leadOver_27 rfl rfl ?_
          refine x_and1 (q := 29) dX0_leadOver_28 rfl (Int.ediv_nonneg h2 (Int.le_of_lt (pw_pos k))) ?_
          refine x_VI (q := 32) (ci := 1) dX0_leadOver_29 rfl kX0_leadOver_99 (c_lead hb hv (by omega) (by omega) (by omega)) rfl rfl hb (by decide) rfl (Nat.le_of_ble_eq_true rfl) ⟨rfl, rfl⟩ ⟨Nat.zero_le _, Nat.zero_le _⟩ ?_
          have hr0 := stp_rng (b := w / 2 ^ k % 2) hv (show 0 ≤ x by omega) (by omega)
          refine x_is3 (q := 33) dX0_leadOver_32 rfl rfl ?_
          refine x_ii4 (q := 36) dX0_leadOver_33 rfl rfl ⟨by omega, by omega⟩ ?_
          refine x_goto (t := 10) dX0_leadOver_36 rfl ?_
          unfold LO
          rw [if_neg c_18]
          have h9 := ih _ (by omega) hr0
          rw [show ((k + 1 : Nat) : Int) - 1 + -1 = (k : Int) - 1 by omega]
          exact h9
  refine x_entry (ls := [some (aR c), some (aI s), some (aI w), none, none]) rfl rfl (Nat.le_of_ble_eq_true rfl) ?_
  refine x_il_n (q := 1) dX0_leadOver_0 rfl rfl ?_
  refine x_is3 (q := 2) dX0_leadOver_1 rfl rfl ?_
  refine x_al_n (q := 3) dX0_leadOver_2 rfl rfl ?_
  refine x_getI (q := 6) dX0_leadOver_3 rfl fX0_96 hb rfl ?_
  refine x_ic (q := 7) dX0_leadOver_6 rfl rfl ?_
  refine x_sub (q := 8) dX0_leadOver_7 rfl ⟨by omega, by omega⟩ ?_
  refine x_is4 (q := 10) dX0_leadOver_8 rfl rfl ?_
  have h9 := key (v c 4).toNat s (by omega) (.inr ⟨h0, h1⟩)
  rw [Int.toNat_of_nonneg h3] at h9
  exact h9
def rowE (c : Cfg) (j : Nat) : Int := eT c (j / 16) (j % 16)
set_option maxHeartbeats 4000000 in
set_option maxRecDepth 100000 in
theorem c_setEnds (hs : Ext sh) (hr : Rok rf) {c : Nat} (hb : sh[c]? = some (4, 5)) (hc11 : c ≠ 11) (hv : Vld (banOf v c)) (hn : v 10 0 = nst (v c 0) (v c 1) (v c 2)) : Cv g mX0_setEnds [aR 10, aR c] (sh, rf, v) (putL (fun u => (∀ j, j < 112 → u 11 j = rowE (banOf v c) j) ∧ ∀ d, d ≠ 11 → u d = v d) sh rf) := by
  obtain ⟨hv, hp1, hp2, hq1, hq2⟩ := hv
  dsimp only [banOf] at hv hp1 hp2 hq1 hq2
  have hn2 := nst_rng hv
  refine x_entry (ls := [some (aR 10), some (aR c), none, none, none]) rfl rfl (Nat.le_of_ble_eq_true rfl) ?_
  refine x_ic (q := 1) dX0_setEnds_0 rfl rfl ?_
  refine x_is2 (q := 2) dX0_setEnds_1 rfl rfl ?_
  refine x_up (S := fun s => ∀ (u : Nat → Nat → Int) (o1 o2 : Option AV), ((∀ j, j < 16 * s → u 11 j = rowE (banOf v c) j) ∧ ∀ d, d ≠ 11 → u d = v d) → Wv g mX0_setEnds 0 0 2 [some (aR 10), some (aR c), some (aI (s : Int)), o1, o2] [] (sh, rf, u) (putL (fun u => (∀ j, j < 112 → u 11 j = rowE (banOf v c) j) ∧ ∀ d, d ≠ 11 → u d = v d) sh rf)) 7 ?_ ?_ 0 (by decide) v none none ⟨fun j hj => by omega, fun _ _ => rfl⟩
  · intro u o1 o2 ⟨hu1, hu2⟩
    refine x_il_n (q := 3) dX0_setEnds_2 rfl rfl ?_
    refine x_bi (q := 5) dX0_setEnds_3 rfl rfl ?_
    refine x_ic_ge (t := 78) (q := 8) dX0_setEnds_5 rfl rfl (fun c_5 => ?_) (fun c_5 => ?_)
    · skip
      exact x_vret dX0_setEnds_78 rfl rfl (Nat.zero_le _) (by exact ⟨rfl, u, rfl, fun j hj => hu1 j (by omega), hu2⟩)
    · skip
      exact absurd (by decide) c_5
  · intro s hs7 ihs u o1 o2 ⟨hu1, hu2⟩
    refine x_il_n (q := 3) dX0_setEnds_2 rfl rfl ?_
    refine x_bi (q := 5) dX0_setEnds_3 rfl rfl ?_
    refine x_ic_ge (t := 78) (q := 8) dX0_setEnds_5 rfl rfl (fun c_5 => ?_) (fun c_5 => ?_)
    · skip
      exact absurd c_5 (by omega)
    · skip
      refine x_ic (q := 9) dX0_setEnds_8 rfl rfl ?_
      refine x_is3 (q := 10) dX0_setEnds_9 rfl rfl ?_
      refine x_up (S := fun w => ∀ (u : Nat → Nat → Int) (o2 : Option AV), ((∀ j, j < 16 * s + w → u 11 j = rowE (banOf v c) j) ∧ ∀ d, d ≠ 11 → u d = v d) → Wv g mX0_setEnds 0 0 10 [some (aR 10), some (aR c), some (aI (s : Int)), some (aI (w : Int)), o2] [] (sh, rf, u) (putL (fun u => (∀ j, j < 112 → u 11 j = rowE (banOf v c) j) ∧ ∀ d, d ≠ 11 → u d = v d) sh rf)) 16 ?_ ?_ 0 (by decide) u o2 ⟨fun j hj => hu1 j (by omega), hu2⟩
      · intro u o2 ⟨hu1, hu2⟩
        refine x_il_n (q := 11) dX0_setEnds_10 rfl rfl ?_
        refine x_bi (q := 13) dX0_setEnds_11 rfl rfl ?_
        refine x_ic_ge (t := 72) (q := 16) dX0_setEnds_13 rfl rfl (fun c_13 => ?_) (fun c_13 => ?_)
        · skip
          refine x_ii2 (q := 75) dX0_setEnds_72 rfl rfl ⟨by omega, by omega⟩ ?_
          refine x_goto (t := 2) dX0_setEnds_75 rfl ?_
          exact ihs u _ _ ⟨fun j hj => hu1 j (by omega), hu2⟩
        · skip
          exact absurd (by decide) c_13
      · intro w hw16 ih u o2 ⟨hu1, hu2⟩
        refine x_il_n (q := 11) dX0_setEnds_10 rfl rfl ?_
        refine x_bi (q := 13) dX0_setEnds_11 rfl rfl ?_
        refine x_ic_ge (t := 72) (q := 16) dX0_setEnds_13 rfl rfl (fun c_13 => ?_) (fun c_13 => ?_)
        · skip
          exact absurd c_13 (by omega)
        · skip
          refine x_il_n (q := 17) dX0_setEnds_16 rfl rfl ?_
          refine x_al_n (q := 18) dX0_setEnds_17 rfl rfl ?_
          refine x_getIe (q := 21) (z := nst (v c 0) (v c 1) (v c 2)) dX0_setEnds_18 rfl fX0_36 (by first | exact hs _ _ rfl | exact hb) rfl (by rw [hu2 10 (by decide)]; exact hn) ?_
          refine x_ic_ge (t := 36) (q := 24) dX0_setEnds_21 rfl rfl (fun c_21 => ?_) (fun c_21 => ?_)
          · skip
            have hT : rowE (banOf v c) (16 * s + w) = -9 := eT_o1 (c := banOf v c) (by show ¬ (((16 * s + w) / 16 : Nat) : Int) < nst (v c 0) (v c 1) (v c 2); omega)
            refine x_ic (q := 37) dX0_setEnds_36 rfl rfl ?_
            refine x_is4 (q := 39) dX0_setEnds_37 rfl rfl ?_
            refine x_al_n (q := 40) dX0_setEnds_39 rfl rfl ?_
            refine x_getR (q := 43) (o := some (11)) dX0_setEnds_40 rfl fX0_9 (by first | exact hs _ _ rfl | exact hb) rfl (hr _ _ _ rfl) ?_
            refine x_il_n (q := 44) dX0_setEnds_43 rfl rfl ?_
            refine x_bi (q := 46) dX0_setEnds_44 rfl rfl ?_
            refine x_mul (q := 47) dX0_setEnds_46 rfl ⟨by omega, by omega⟩ ?_
            refine x_il_n (q := 48) dX0_setEnds_47 rfl rfl ?_
            refine x_add (q := 49) dX0_setEnds_48 rfl ⟨by omega, by omega⟩ ?_
            refine x_il (q := 51) dX0_setEnds_49 rfl rfl ?_
            refine x_if_eq (t := 63) (q := 54) dX0_setEnds_51 rfl rfl (fun c_51 => ?_) (fun c_51 => ?_)
            · skip
              refine x_bi (q := 65) dX0_setEnds_63 rfl rfl ?_
              rw [← hT]
              refine x_iast (q := 66) dX0_setEnds_65 rfl (by first | exact hs _ _ rfl | exact hb) (by omega) (by omega) ?_
              refine x_ii3 (q := 69) dX0_setEnds_66 rfl rfl ⟨by omega, by omega⟩ ?_
              refine x_goto (t := 10) dX0_setEnds_69 rfl ?_
              refine ih _ _ ⟨fun j hj => ?_, fun d hd => ?_⟩
              · rw [up_at]
                by_cases hj2 : j = 16 * s + w
                · rw [if_pos (by omega), hj2]
                · rw [if_neg (by omega)]
                  exact hu1 j (by omega)
              · rw [up_n _ _ _ hd]
                exact hu2 d hd
            · skip
              exact absurd c_51 (by decide)
          · skip
            refine x_il_n (q := 25) dX0_setEnds_24 rfl rfl ?_
            refine x_al_n (q := 26) dX0_setEnds_25 rfl rfl ?_
            refine x_VI (q := 29) (ci := 1) dX0_setEnds_26 rfl kX0_setEnds_89 (c_wordCount hb (by rw [hu2 c hc11]; omega) (by rw [hu2 c hc11]; omega)) rfl rfl (by first | exact hs _ _ rfl | exact hb) (by decide) rfl (Nat.le_of_ble_eq_true rfl) ⟨rfl, rfl⟩ ⟨Nat.zero_le _, Nat.zero_le _⟩ ?_
            rw [show u c 4 = v c 4 by rw [hu2 c hc11]]
            refine x_ic_ge (t := 36) (q := 32) dX0_setEnds_29 rfl rfl (fun c_29 => ?_) (fun c_29 => ?_)
            · skip
              have hT : rowE (banOf v c) (16 * s + w) = -9 := eT_o2 (c := banOf v c) (by show ¬ (((16 * s + w) % 16 : Nat) : Int) < 2 ^ (v c 4).toNat; rw [show (16 * s + w) % 16 = w by omega]; omega)
              refine x_ic (q := 37) dX0_setEnds_36 rfl rfl ?_
              refine x_is4 (q := 39) dX0_setEnds_37 rfl rfl ?_
              refine x_al_n (q := 40) dX0_setEnds_39 rfl rfl ?_
              refine x_getR (q := 43) (o := some (11)) dX0_setEnds_40 rfl fX0_9 (by first | exact hs _ _ rfl | exact hb) rfl (hr _ _ _ rfl) ?_
              refine x_il_n (q := 44) dX0_setEnds_43 rfl rfl ?_
              refine x_bi (q := 46) dX0_setEnds_44 rfl rfl ?_
              refine x_mul (q := 47) dX0_setEnds_46 rfl ⟨by omega, by omega⟩ ?_
              refine x_il_n (q := 48) dX0_setEnds_47 rfl rfl ?_
              refine x_add (q := 49) dX0_setEnds_48 rfl ⟨by omega, by omega⟩ ?_
              refine x_il (q := 51) dX0_setEnds_49 rfl rfl ?_
              refine x_if_eq (t := 63) (q := 54) dX0_setEnds_51 rfl rfl (fun c_51 => ?_) (fun c_51 => ?_)
              · skip
                refine x_bi (q := 65) dX0_setEnds_63 rfl rfl ?_
                rw [← hT]
                refine x_iast (q := 66) dX0_setEnds_65 rfl (by first | exact hs _ _ rfl | exact hb) (by omega) (by omega) ?_
                refine x_ii3 (q := 69) dX0_setEnds_66 rfl rfl ⟨by omega, by omega⟩ ?_
                refine x_goto (t := 10) dX0_setEnds_69 rfl ?_
                refine ih _ _ ⟨fun j hj => ?_, fun d hd => ?_⟩
                · rw [up_at]
                  by_cases hj2 : j = 16 * s + w
                  · rw [if_pos (by omega), hj2]
                  · rw [if_neg (by omega)]
                    exact hu1 j (by omega)
                · rw [up_n _ _ _ hd]
                  exact hu2 d hd
              · skip
                exact absurd c_51 (by decide)
            · skip
              have hT : rowE (banOf v c) (16 * s + w) = LO (v c 0) (v c 1) (v c 2) (w : Int) (v c 4).toNat (s : Int) := by unfold rowE; rw [show (16 * s + w) % 16 = w by omega, show (16 * s + w) / 16 = s by omega]; exact eT_in (c := banOf v c) (show (s : Int) < nst (v c 0) (v c 1) (v c 2) by omega) (show (w : Int) < 2 ^ (v c 4).toNat by omega)
              refine x_ic (q := 33) dX0_setEnds_32 rfl rfl ?_
              refine x_goto (t := 37) dX0_setEnds_33 rfl ?_
              refine x_is4 (q := 39) dX0_setEnds_37 rfl rfl ?_
              refine x_al_n (q := 40) dX0_setEnds_39 rfl rfl ?_
              refine x_getR (q := 43) (o := some (11)) dX0_setEnds_40 rfl fX0_9 (by first | exact hs _ _ rfl | exact hb) rfl (hr _ _ _ rfl) ?_
              refine x_il_n (q := 44) dX0_setEnds_43 rfl rfl ?_
              refine x_bi (q := 46) dX0_setEnds_44 rfl rfl ?_
              refine x_mul (q := 47) dX0_setEnds_46 rfl ⟨by omega, by omega⟩ ?_
              refine x_il_n (q := 48) dX0_setEnds_47 rfl rfl ?_
              refine x_add (q := 49) dX0_setEnds_48 rfl ⟨by omega, by omega⟩ ?_
              refine x_il (q := 51) dX0_setEnds_49 rfl rfl ?_
              refine x_if_eq (t := 63) (q := 54) dX0_setEnds_51 rfl rfl (fun c_51 => ?_) (fun c_51 => ?_)
              · skip
                exact absurd c_51 (by decide)
              · skip
                refine x_al_n (q := 55) dX0_setEnds_54 rfl rfl ?_
                refine x_il_n (q := 56) dX0_setEnds_55 rfl rfl ?_
                refine x_il_n (q := 57) dX0_setEnds_56 rfl rfl ?_
                refine x_SI (q := 60) dX0_setEnds_57 rfl kX0_setEnds_92 (c_leadOver hb (by rw [hu2 c hc11]; exact hv) (by omega) (by rw [hu2 c hc11]; omega) (by omega) (by rw [hu2 c hc11]; omega) (by rw [hu2 c hc11]; omega)) rfl rfl (Nat.le_of_ble_eq_true rfl) ⟨rfl, rfl⟩ ⟨Nat.zero_le _, Nat.zero_le _⟩ ?_
                rw [show LO (u c 0) (u c 1) (u c 2) (w : Int) (u c 4).toNat (s : Int) = rowE (banOf v c) (16 * s + w) by rw [hu2 c hc11, hT]]
                refine x_goto (t := 65) dX0_setEnds_60 rfl ?_
                refine x_iast (q := 66) dX0_setEnds_65 rfl (by first | exact hs _ _ rfl | exact hb) (by omega) (by omega) ?_
                refine x_ii3 (q := 69) dX0_setEnds_66 rfl rfl ⟨by omega, by omega⟩ ?_
                refine x_goto (t := 10) dX0_setEnds_69 rfl ?_
                refine ih _ _ ⟨fun j hj => ?_, fun d hd => ?_⟩
                · rw [up_at]
                  by_cases hj2 : j = 16 * s + w
                  · rw [if_pos (by omega), hj2]
                  · rw [if_neg (by omega)]
                    exact hu1 j (by omega)
                · rw [up_n _ _ _ hd]
                  exact hu2 d hd
end ARC
end
section
/-! ===== Arcs: good states, tags ===== -/
theorem up_up (v : Nat → Nat → Int) (c k : Nat) (a b : Int) : up (up v c k a) c k b = up v c k b := by
  funext d j
  unfold up
  by_cases hd : d = c
  · subst hd
    simp only [if_true]
    by_cases hj : j = k <;> simp [hj]
  · simp [hd]
theorem up_same (v : Nat → Nat → Int) (c k : Nat) : up v c k (v c k) = v := by
  funext d j
  unfold up
  by_cases hd : d = c
  · subst hd
    simp only [if_true]
    by_cases hj : j = k <;> simp [hj]
  · simp [hd]
theorem mk_all : ∀ n, mk (fun _ => true) n = 2 ^ n - 1
  | 0 => rfl
  | n + 1 => by
    unfold mk
    rw [mk_all n, if_pos rfl, Int.pow_succ]
    omega
def RowE (v : Nat → Nat → Int) (e : Nat → Nat → Int) : Prop := ∀ j, j < 112 → v 11 j = e (j / 16) (j % 16)
theorem endF_e {v : Nat → Nat → Int} {e : Nat → Nat → Int} (h : RowE v e) {s w : Nat} (hs : s < 7) (hw : w < 16) : endF v s w = e s w := by
  unfold endF
  rw [if_pos (by omega), show ((s : Int) * 16 + w).toNat = 16 * s + w by omega, h _ (by omega), show (16 * s + w) / 16 = s by omega, show (16 * s + w) % 16 = w by omega]
theorem RowE.up10 {v : Nat → Nat → Int} {e : Nat → Nat → Int} (h : RowE v e) (k : Nat) (z : Int) : RowE (up v 10 k z) e := by
  intro j hj
  rw [up_n _ _ _ (by decide)]
  exact h j hj
theorem mk_s (f : Nat → Bool) (n : Nat) : mk f (n + 1) = mk f n + (if f n then 2 ^ n else 0) := rfl
section GOOD
variable {g : GL} {sh : List (Nat × Nat)} {rf : Nat → Nat → Option Nat} {v : Nat → Nat → Int} {e : Nat → Nat → Int} {f : Nat → Bool} {n : Nat}

set_option maxHeartbeats 4000000 in
set_option maxRecDepth 100000 in
theorem c_arcsToGood (hs : Ext sh) (hr : Rok rf) {s : Nat} (hs7 : s < 7) (hE : RowE v e) (hg : v 10 1 = mk f n) (hn : n ≤ 7) : Cv g mX0_arcsToGood [aR 10, aI (s : Int)] (sh, rf, v) (retI (cnt (fun w => inS f n (e s w)) 16) (sh, rf, v)) := by
  have hm := mk_rng f n
  refine x_entry (ls := [some (aR 10), some (aI (s : Int)), none, none]) rfl rfl (Nat.le_of_ble_eq_true rfl) ?_
  refine x_ic (q := 1) dX0_arcsToGood_0 rfl rfl ?_
  refine x_is2 (q := 2) dX0_arcsToGood_1 rfl rfl ?_
  refine x_ic (q := 3) dX0_arcsToGood_2 rfl rfl ?_
  refine x_is3 (q := 4) dX0_arcsToGood_3 rfl rfl ?_
  refine x_up (S := fun i => Wv g mX0_arcsToGood 0 0 4 [some (aR 10), some (aI (s : Int)), some (aI (cnt (fun w => inS f n (e s w)) i)), some (aI (i : Int))] [] (sh, rf, v) (retI (cnt (fun w => inS f n (e s w)) 16) (sh, rf, v))) 16 ?_ ?_ 0 (by decide)
  · skip
    refine x_il_n (q := 5) dX0_arcsToGood_4 rfl rfl ?_
    refine x_bi (q := 7) dX0_arcsToGood_5 rfl rfl ?_
    refine x_ic_ge (t := 35) (q := 10) dX0_arcsToGood_7 rfl rfl (fun c_7 => ?_) (fun c_7 => ?_)
    · skip
      refine x_il_n (q := 36) dX0_arcsToGood_35 rfl rfl ?_
      exact x_iret dX0_arcsToGood_36 rfl rfl (Nat.zero_le _) (retI_mk (by rfl))
    · skip
      exact absurd (by decide) c_7
  · intro i hi ih
    have hb := cnt_rng (fun w => inS f n (e s w)) i
    refine x_il_n (q := 5) dX0_arcsToGood_4 rfl rfl ?_
    refine x_bi (q := 7) dX0_arcsToGood_5 rfl rfl ?_
    refine x_ic_ge (t := 35) (q := 10) dX0_arcsToGood_7 rfl rfl (fun c_7 => ?_) (fun c_7 => ?_)
    · skip
      exact absurd c_7 (by omega)
    · skip
      refine x_al_n (q := 11) dX0_arcsToGood_10 rfl rfl ?_
      refine x_getIe (q := 14) (z := mk f n) dX0_arcsToGood_11 rfl fX0_66 (hs _ _ rfl) rfl (hg) ?_
      refine x_al_n (q := 15) dX0_arcsToGood_14 rfl rfl ?_
      refine x_il_n (q := 16) dX0_arcsToGood_15 rfl rfl ?_
      refine x_il_n (q := 17) dX0_arcsToGood_16 rfl rfl ?_
      refine x_VI (q := 20) (ci := 0) dX0_arcsToGood_17 rfl kX0_arcsToGood_73 (c_endOf hs hr) rfl rfl (hs _ _ rfl) (by decide) rfl (Nat.le_of_ble_eq_true rfl) ⟨rfl, rfl⟩ ⟨Nat.zero_le _, Nat.zero_le _⟩ ?_
      rw [endF_e hE hs7 hi]
      refine x_SI (q := 23) dX0_arcsToGood_20 rfl kX0_arcsToGood_69 (c_has hm.1) rfl rfl (Nat.le_of_ble_eq_true rfl) ⟨rfl, rfl⟩ ⟨Nat.zero_le _, Nat.zero_le _⟩ ?_
      rw [has_mk hn]
      refine x_if_eq (t := 29) (q := 26) dX0_arcsToGood_23 rfl rfl (fun c_23 => ?_) (fun c_23 => ?_)
      · skip
        rw [cnt_f (b2i_0.mp c_23)] at ih
        refine x_ii3 (q := 32) dX0_arcsToGood_29 rfl rfl ⟨by omega, by omega⟩ ?_
        refine x_goto (t := 4) dX0_arcsToGood_32 rfl ?_
        exact ih
      · skip
        rw [cnt_t (b2i_n0.mp c_23)] at ih
        refine x_ii2 (q := 29) dX0_arcsToGood_26 rfl rfl ⟨by omega, by omega⟩ ?_
        refine x_ii3 (q := 32) dX0_arcsToGood_29 rfl rfl ⟨by omega, by omega⟩ ?_
        refine x_goto (t := 4) dX0_arcsToGood_32 rfl ?_
        exact ih
set_option maxHeartbeats 4000000 in
set_option maxRecDepth 100000 in
theorem c_setGood (hs : Ext sh) (hr : Rok rf) {d : Int} (hE : RowE v e) (hst : v 10 0 = (n : Int)) (hn : n ≤ 7) : Cv g mX0_setGood [aR 10, aI d] (sh, rf, v) (retV (sh, rf, up v 10 1 (mk (gd e n d) n))) := by
  refine x_entry (ls := [some (aR 10), some (aI d), none, none, none]) rfl rfl (Nat.le_of_ble_eq_true rfl) ?_
  refine x_al_n (q := 1) dX0_setGood_0 rfl rfl ?_
  refine x_ic (q := 2) dX0_setGood_1 rfl rfl ?_
  refine x_al_n (q := 3) dX0_setGood_2 rfl rfl ?_
  refine x_getIe (q := 6) (z := (n : Int)) dX0_setGood_3 rfl fX0_36 (hs _ _ rfl) rfl (hst) ?_
  refine x_pow (q := 7) dX0_setGood_6 rfl (by omega) (by omega) ?_
  rw [Int.toNat_natCast]
  refine x_ic (q := 8) dX0_setGood_7 rfl rfl ?_
  refine x_sub (q := 9) dX0_setGood_8 rfl ⟨by have := pw_pos n; omega, by have := pw_le (k := n) (n := 20) (by omega); omega⟩ ?_
  rw [← mk_all n]
  refine x_putI (q := 12) dX0_setGood_9 rfl fX0_66 (hs _ _ rfl) (.inl rfl) rfl ?_
  refine x_ic (q := 13) dX0_setGood_12 rfl rfl ?_
  refine x_is2 (q := 14) dX0_setGood_13 rfl rfl ?_
  refine x_up (S := fun k => ∀ o1 o2 : Option AV, Wv g mX0_setGood 0 0 14 [some (aR 10), some (aI d), some (aI (k : Int)), o1, o2] [] (sh, rf, (up v 10 1 (mk (gk e n d k) n))) (retV (sh, rf, up v 10 1 (mk (gd e n d) n)))) 8 ?_ ?_ 0 (by decide) none none
  · intro o1 o2
    refine x_il_n (q := 15) dX0_setGood_14 rfl rfl ?_
    refine x_bi (q := 17) dX0_setGood_15 rfl rfl ?_
    refine x_ic_gt (t := 91) (q := 20) dX0_setGood_17 rfl rfl (fun c_17 => ?_) (fun c_17 => ?_)
    · skip
      exact x_vret dX0_setGood_91 rfl rfl (Nat.zero_le _) (by exact ⟨rfl, rfl⟩)
    · skip
      exact absurd (by decide) c_17
  · intro k hk8 ihk o1 o2
    refine x_il_n (q := 15) dX0_setGood_14 rfl rfl ?_
    refine x_bi (q := 17) dX0_setGood_15 rfl rfl ?_
    refine x_ic_gt (t := 91) (q := 20) dX0_setGood_17 rfl rfl (fun c_17 => ?_) (fun c_17 => ?_)
    · skip
      exact absurd c_17 (by omega)
    · skip
      refine x_ic (q := 21) dX0_setGood_20 rfl rfl ?_
      refine x_is3 (q := 22) dX0_setGood_21 rfl rfl ?_
      refine x_ic (q := 23) dX0_setGood_22 rfl rfl ?_
      refine x_is4 (q := 25) dX0_setGood_23 rfl rfl ?_
      refine x_up (S := fun s => Wv g mX0_setGood 0 0 25 [some (aR 10), some (aI d), some (aI (k : Int)), some (aI (mk (gk e n d (k + 1)) s)), some (aI (s : Int))] [] (sh, rf, (up v 10 1 (mk (gk e n d k) n))) (retV (sh, rf, up v 10 1 (mk (gd e n d) n)))) n ?_ ?_ 0 (Nat.zero_le _)
      · skip
        refine x_il (q := 27) dX0_setGood_25 rfl rfl ?_
        refine x_al_n (q := 28) dX0_setGood_27 rfl rfl ?_
        refine x_getIe (q := 31) (z := (n : Int)) dX0_setGood_28 rfl fX0_36 (hs _ _ rfl) rfl (by rw [up_at, if_neg (by decide)]; exact hst) ?_
        refine x_ic_ge (t := 69) (q := 34) dX0_setGood_31 rfl rfl (fun c_31 => ?_) (fun c_31 => ?_)
        · skip
          refine x_il_n (q := 70) dX0_setGood_69 rfl rfl ?_
          refine x_al_n (q := 71) dX0_setGood_70 rfl rfl ?_
          refine x_getIe (q := 74) (z := mk (gk e n d k) n) dX0_setGood_71 rfl fX0_66 (hs _ _ rfl) rfl (by rw [up_at, if_pos rfl]) ?_
          refine x_ic_ne (t := 80) (q := 77) dX0_setGood_74 rfl rfl (fun c_74 => ?_) (fun c_74 => ?_)
          · skip
            refine x_al_n (q := 81) dX0_setGood_80 rfl rfl ?_
            refine x_il_n (q := 82) dX0_setGood_81 rfl rfl ?_
            refine x_putI (q := 85) dX0_setGood_82 rfl fX0_66 (hs _ _ rfl) (.inl rfl) rfl ?_
            rw [up_up]
            refine x_ii2 (q := 88) dX0_setGood_85 rfl rfl ⟨by omega, by omega⟩ ?_
            refine x_goto (t := 14) dX0_setGood_88 rfl ?_
            exact ihk _ _
          · skip
            have hfx : mk (gk e n d k) n = mk (gd e n d) n := mk_cong (gd_fix hn (mk_inj c_74))
            rw [hfx]
            refine x_goto (t := 91) dX0_setGood_77 rfl ?_
            exact x_vret dX0_setGood_91 rfl rfl (Nat.zero_le _) (by exact ⟨rfl, rfl⟩)
        · skip
          exact absurd (by omega) c_31
      · intro s hsn ih
        have hmk := mk_rng (gk e n d k) n
        have hml := mk_rng (gk e n d (k + 1)) s
        refine x_il (q := 27) dX0_setGood_25 rfl rfl ?_
        refine x_al_n (q := 28) dX0_setGood_27 rfl rfl ?_
        refine x_getIe (q := 31) (z := (n : Int)) dX0_setGood_28 rfl fX0_36 (hs _ _ rfl) rfl (by rw [up_at, if_neg (by decide)]; exact hst) ?_
        refine x_ic_ge (t := 69) (q := 34) dX0_setGood_31 rfl rfl (fun c_31 => ?_) (fun c_31 => ?_)
        · skip
          exact absurd c_31 (by omega)
        · skip
          refine x_al_n (q := 35) dX0_setGood_34 rfl rfl ?_
          refine x_getIe (q := 38) (z := mk (gk e n d k) n) dX0_setGood_35 rfl fX0_66 (hs _ _ rfl) rfl (by rw [up_at, if_pos rfl]) ?_
          refine x_il (q := 40) dX0_setGood_38 rfl rfl ?_
          refine x_SI (q := 43) dX0_setGood_40 rfl kX0_setGood_69 (c_has hmk.1) rfl rfl (Nat.le_of_ble_eq_true rfl) ⟨rfl, rfl⟩ ⟨Nat.zero_le _, Nat.zero_le _⟩ ?_
          rw [has_mk hn]
          refine x_if_eq (t := 63) (q := 46) dX0_setGood_43 rfl rfl (fun c_43 => ?_) (fun c_43 => ?_)
          · skip
            rw [mk_s, if_neg (show ¬ gk e n d (k + 1) s = true by show ¬ (inS _ n s && _) = true; rw [b2i_0.mp c_43]; simp), Int.add_zero] at ih
            refine x_ii4 (q := 66) dX0_setGood_63 rfl rfl ⟨by omega, by omega⟩ ?_
            refine x_goto (t := 25) dX0_setGood_66 rfl ?_
            exact ih
          · skip
            refine x_al_n (q := 47) dX0_setGood_46 rfl rfl ?_
            refine x_il (q := 49) dX0_setGood_47 rfl rfl ?_
            refine x_VI (q := 52) (ci := 0) dX0_setGood_49 rfl kX0_setGood_102 (c_arcsToGood hs hr (e := e) (f := gk e n d k) (n := n) (by omega) (hE.up10 _ _) (by rw [up_at, if_pos rfl]) hn) rfl rfl (hs _ _ rfl) (by decide) rfl (Nat.le_of_ble_eq_true rfl) ⟨rfl, rfl⟩ ⟨Nat.zero_le _, Nat.zero_le _⟩ ?_
            refine x_il_n (q := 53) dX0_setGood_52 rfl rfl ?_
            refine x_ic_lt (t := 63) (q := 56) dX0_setGood_53 rfl rfl (fun c_53 => ?_) (fun c_53 => ?_)
            · skip
              rw [mk_s, if_neg (show ¬ gk e n d (k + 1) s = true by show ¬ (inS _ n s && decide _) = true; rw [decide_eq_false (by omega)]; simp), Int.add_zero] at ih
              refine x_ii4 (q := 66) dX0_setGood_63 rfl rfl ⟨by omega, by omega⟩ ?_
              refine x_goto (t := 25) dX0_setGood_66 rfl ?_
              exact ih
            · skip
              rw [mk_s, if_pos (show gk e n d (k + 1) s = true by show (inS _ n s && decide _) = true; rw [decide_eq_true (by omega), b2i_n0.mp c_43]; rfl)] at ih
              refine x_il_n (q := 57) dX0_setGood_56 rfl rfl ?_
              refine x_ic (q := 58) dX0_setGood_57 rfl rfl ?_
              refine x_il (q := 60) dX0_setGood_58 rfl rfl ?_
              refine x_pow (q := 61) dX0_setGood_60 rfl (by omega) (by omega) ?_
              rw [Int.toNat_natCast]
              refine x_orP (q := 62) dX0_setGood_61 rfl hml.1 hml.2 ?_
              refine x_is3 (q := 63) dX0_setGood_62 rfl rfl ?_
              refine x_ii4 (q := 66) dX0_setGood_63 rfl rfl ⟨by omega, by omega⟩ ?_
              refine x_goto (t := 25) dX0_setGood_66 rfl ?_
              exact ih
set_option maxHeartbeats 4000000 in
set_option maxRecDepth 100000 in
theorem c_lowestGood (hs : Ext sh) (hr : Rok rf) (hst : v 10 0 = (n : Int)) (hg : v 10 1 = mk f n) (hn : n ≤ 7) : Cv g mX0_lowestGood [aR 10] (sh, rf, v) (retI (fi f 0 n) (sh, rf, v)) := by
  have hm := mk_rng f n
  refine x_entry (ls := [some (aR 10), none]) rfl rfl (Nat.le_of_ble_eq_true rfl) ?_
  refine x_ic (q := 1) dX0_lowestGood_0 rfl rfl ?_
  refine x_is1 (q := 2) dX0_lowestGood_1 rfl rfl ?_
  refine x_up (S := fun i => ∀ k, i + k = n → Wv g mX0_lowestGood 0 0 2 [some (aR 10), some (aI (i : Int))] [] (sh, rf, v) (retI (fi f i k) (sh, rf, v))) n ?_ ?_ 0 (Nat.zero_le _) n (Nat.zero_add _)
  · intro k hk
    obtain rfl : k = 0 := by omega
    refine x_il_n (q := 3) dX0_lowestGood_2 rfl rfl ?_
    refine x_al_n (q := 4) dX0_lowestGood_3 rfl rfl ?_
    refine x_getIe (q := 7) (z := (n : Int)) dX0_lowestGood_4 rfl fX0_36 (hs _ _ rfl) rfl (hst) ?_
    refine x_ic_ge (t := 29) (q := 10) dX0_lowestGood_7 rfl rfl (fun c_7 => ?_) (fun c_7 => ?_)
    · skip
      refine x_bi (q := 31) dX0_lowestGood_29 rfl rfl ?_
      exact x_iret dX0_lowestGood_31 rfl rfl (Nat.zero_le _) (retI_mk (by rfl))
    · skip
      exact absurd (Int.le_refl _) c_7
  · intro i hi ih k hk
    obtain ⟨k, rfl⟩ : ∃ j, k = j + 1 := ⟨n - i - 1, by omega⟩
    have ih := ih k (by omega)
    refine x_il_n (q := 3) dX0_lowestGood_2 rfl rfl ?_
    refine x_al_n (q := 4) dX0_lowestGood_3 rfl rfl ?_
    refine x_getIe (q := 7) (z := (n : Int)) dX0_lowestGood_4 rfl fX0_36 (hs _ _ rfl) rfl (hst) ?_
    refine x_ic_ge (t := 29) (q := 10) dX0_lowestGood_7 rfl rfl (fun c_7 => ?_) (fun c_7 => ?_)
    · skip
      exact absurd c_7 (by omega)
    · skip
      refine x_al_n (q := 11) dX0_lowestGood_10 rfl rfl ?_
      refine x_getIe (q := 14) (z := mk f n) dX0_lowestGood_11 rfl fX0_66 (hs _ _ rfl) rfl (hg) ?_
      refine x_il_n (q := 15) dX0_lowestGood_14 rfl rfl ?_
      refine x_SI (q := 18) dX0_lowestGood_15 rfl kX0_lowestGood_69 (c_has hm.1) rfl rfl (Nat.le_of_ble_eq_true rfl) ⟨rfl, rfl⟩ ⟨Nat.zero_le _, Nat.zero_le _⟩ ?_
      rw [has_mk hn]
      refine x_if_eq (t := 23) (q := 21) dX0_lowestGood_18 rfl rfl (fun c_18 => ?_) (fun c_18 => ?_)
      · skip
        rw [fi_f (by rw [inS_nat hi] at c_18; exact b2i_0.mp c_18)]
        refine x_ii1 (q := 26) dX0_lowestGood_23 rfl rfl ⟨by omega, by omega⟩ ?_
        refine x_goto (t := 2) dX0_lowestGood_26 rfl ?_
        exact ih
      · skip
        rw [fi_t (by rw [inS_nat hi] at c_18; exact b2i_n0.mp c_18)]
        refine x_il_n (q := 22) dX0_lowestGood_21 rfl rfl ?_
        exact x_iret dX0_lowestGood_22 rfl rfl (Nat.zero_le _) (retI_mk (by rfl))
/-- whether the arc of s over w leads from a good state to a good one -/
def aG (e : Nat → Nat → Int) (f : Nat → Bool) (n s w : Nat) : Bool := inS f n s && inS f n (e s w)
def RowT (v : Nat → Nat → Int) (e : Nat → Nat → Int) (f : Nat → Bool) (n : Nat) (d : Int) : Prop := ∀ j, j < 112 → v 12 j = tg (aG e f n (j / 16)) d (j % 16)
set_option maxHeartbeats 4000000 in
set_option maxRecDepth 100000 in
theorem c_setTags (hs : Ext sh) (hr : Rok rf) {d : Int} (hd0 : 0 ≤ d) (hE : RowE v e) (hg : v 10 1 = mk f n) (hn : n ≤ 7) : Cv g mX0_setTags [aR 10, aI d] (sh, rf, v) (putL (fun u => RowT u e f n d ∧ ∀ c, c ≠ 12 → u c = v c) sh rf) := by
  have hm := mk_rng f n
  refine x_entry (ls := [some (aR 10), some (aI d), none, none, none, none]) rfl rfl (Nat.le_of_ble_eq_true rfl) ?_
  refine x_ic (q := 1) dX0_setTags_0 rfl rfl ?_
  refine x_is2 (q := 2) dX0_setTags_1 rfl rfl ?_
  refine x_up (S := fun s => ∀ (u : Nat → Nat → Int) (o1 o2 o3 : Option AV), ((∀ j, j < 16 * s → u 12 j = tg (aG e f n (j / 16)) d (j % 16)) ∧ ∀ c, c ≠ 12 → u c = v c) → Wv g mX0_setTags 0 0 2 [some (aR 10), some (aI d), some (aI (s : Int)), o1, o2, o3] [] (sh, rf, u) (putL (fun u => RowT u e f n d ∧ ∀ c, c ≠ 12 → u c = v c) sh rf)) 7 ?_ ?_ 0 (by decide) v none none none ⟨fun j hj => by omega, fun _ _ => rfl⟩
  · intro u o1 o2 o3 ⟨hu1, hu2⟩
    refine x_il_n (q := 3) dX0_setTags_2 rfl rfl ?_
    refine x_bi (q := 5) dX0_setTags_3 rfl rfl ?_
    refine x_ic_ge (t := 103) (q := 8) dX0_setTags_5 rfl rfl (fun c_5 => ?_) (fun c_5 => ?_)
    · skip
      exact x_vret dX0_setTags_103 rfl rfl (Nat.zero_le _) (by exact ⟨rfl, u, rfl, fun j hj => hu1 j (by omega), hu2⟩)
    · skip
      exact absurd (by decide) c_5
  · intro s hs7 ihs u o1 o2 o3 ⟨hu1, hu2⟩
    refine x_il_n (q := 3) dX0_setTags_2 rfl rfl ?_
    refine x_bi (q := 5) dX0_setTags_3 rfl rfl ?_
    refine x_ic_ge (t := 103) (q := 8) dX0_setTags_5 rfl rfl (fun c_5 => ?_) (fun c_5 => ?_)
    · skip
      exact absurd c_5 (by omega)
    · skip
      refine x_ic (q := 9) dX0_setTags_8 rfl rfl ?_
      refine x_is3 (q := 10) dX0_setTags_9 rfl rfl ?_
      refine x_ic (q := 11) dX0_setTags_10 rfl rfl ?_
      refine x_is4 (q := 13) dX0_setTags_11 rfl rfl ?_
      refine x_up (S := fun w => ∀ (u : Nat → Nat → Int) (o3 : Option AV), ((∀ j, j < 16 * s + w → u 12 j = tg (aG e f n (j / 16)) d (j % 16)) ∧ ∀ c, c ≠ 12 → u c = v c) → Wv g mX0_setTags 0 0 13 [some (aR 10), some (aI d), some (aI (s : Int)), some (aI (tcn (aG e f n s) d w)), some (aI (w : Int)), o3] [] (sh, rf, u) (putL (fun u => RowT u e f n d ∧ ∀ c, c ≠ 12 → u c = v c) sh rf)) 16 ?_ ?_ 0 (by decide) u o3 ⟨fun j hj => hu1 j (by omega), hu2⟩
      · intro u o3 ⟨hu1, hu2⟩
        refine x_il (q := 15) dX0_setTags_13 rfl rfl ?_
        refine x_bi (q := 17) dX0_setTags_15 rfl rfl ?_
        refine x_ic_ge (t := 97) (q := 20) dX0_setTags_17 rfl rfl (fun c_17 => ?_) (fun c_17 => ?_)
        · skip
          refine x_ii2 (q := 100) dX0_setTags_97 rfl rfl ⟨by omega, by omega⟩ ?_
          refine x_goto (t := 2) dX0_setTags_100 rfl ?_
          exact ihs u _ _ _ ⟨fun j hj => hu1 j (by omega), hu2⟩
        · skip
          exact absurd (by decide) c_17
      · intro w hw16 ih u o3 ⟨hu1, hu2⟩
        have hb := tcn_rng (aG e f n s) d hd0 w
        refine x_il (q := 15) dX0_setTags_13 rfl rfl ?_
        refine x_bi (q := 17) dX0_setTags_15 rfl rfl ?_
        refine x_ic_ge (t := 97) (q := 20) dX0_setTags_17 rfl rfl (fun c_17 => ?_) (fun c_17 => ?_)
        · skip
          exact absurd c_17 (by omega)
        · skip
          refine x_al_n (q := 21) dX0_setTags_20 rfl rfl ?_
          refine x_getIe (q := 24) (z := mk f n) dX0_setTags_21 rfl fX0_66 (hs _ _ rfl) rfl (by rw [hu2 10 (by decide)]; exact hg) ?_
          refine x_il_n (q := 25) dX0_setTags_24 rfl rfl ?_
          refine x_SI (q := 28) dX0_setTags_25 rfl kX0_setTags_69 (c_has hm.1) rfl rfl (Nat.le_of_ble_eq_true rfl) ⟨rfl, rfl⟩ ⟨Nat.zero_le _, Nat.zero_le _⟩ ?_
          rw [has_mk hn]
          refine x_if_eq (t := 57) (q := 31) dX0_setTags_28 rfl rfl (fun c_28 => ?_) (fun c_28 => ?_)
          · skip
            have hT : (aG e f n s w && decide (tcn (aG e f n s) d w < d)) = false := by unfold aG; rw [b2i_0.mp c_28]; rfl
            refine x_ic (q := 58) dX0_setTags_57 rfl rfl ?_
            refine x_is5 (q := 60) dX0_setTags_58 rfl rfl ?_
            refine x_al_n (q := 61) dX0_setTags_60 rfl rfl ?_
            refine x_getR (q := 64) (o := some (12)) dX0_setTags_61 rfl fX0_15 (hs _ _ rfl) rfl (hr _ _ _ rfl) ?_
            refine x_il_n (q := 65) dX0_setTags_64 rfl rfl ?_
            refine x_bi (q := 67) dX0_setTags_65 rfl rfl ?_
            refine x_mul (q := 68) dX0_setTags_67 rfl ⟨by omega, by omega⟩ ?_
            refine x_il (q := 70) dX0_setTags_68 rfl rfl ?_
            refine x_add (q := 71) dX0_setTags_70 rfl ⟨by omega, by omega⟩ ?_
            refine x_il (q := 73) dX0_setTags_71 rfl rfl ?_
            refine x_if_eq (t := 80) (q := 76) dX0_setTags_73 rfl rfl (fun c_73 => ?_) (fun c_73 => ?_)
            · skip
              refine x_bi (q := 82) dX0_setTags_80 rfl rfl ?_
              refine x_iast (q := 83) dX0_setTags_82 rfl (hs _ _ rfl) (by omega) (by omega) ?_
              refine x_il (q := 85) dX0_setTags_83 rfl rfl ?_
              refine x_if_eq (t := 91) (q := 88) dX0_setTags_85 rfl rfl (fun c_85 => ?_) (fun c_85 => ?_)
              · skip
                refine x_ii4 (q := 94) dX0_setTags_91 rfl rfl ⟨by omega, by omega⟩ ?_
                refine x_goto (t := 13) dX0_setTags_94 rfl ?_
                have hC : tcn (aG e f n s) d (w + 1) = tcn (aG e f n s) d w := by show tcn (aG e f n s) d w + b2i (aG e f n s w && decide (tcn (aG e f n s) d w < d)) = _; rw [hT]; simp [b2i]
                rw [← hC]
                refine ih _ _ ⟨fun j hj => ?_, fun c hc => ?_⟩
                · rw [up_at]
                  by_cases hj2 : j = 16 * s + w
                  · rw [if_pos (by omega), hj2, show (16 * s + w) / 16 = s by omega, show (16 * s + w) % 16 = w by omega]
                    unfold tg
                    rw [if_neg (by rw [hT]; decide)]
                  · rw [if_neg (by omega)]
                    exact hu1 j (by omega)
                · rw [up_n _ _ _ hc]
                  exact hu2 c hc
              · skip
                exact absurd c_85 (by decide)
            · skip
              exact absurd c_73 (by decide)
          · skip
            refine x_al_n (q := 32) dX0_setTags_31 rfl rfl ?_
            refine x_getIe (q := 35) (z := mk f n) dX0_setTags_32 rfl fX0_66 (hs _ _ rfl) rfl (by rw [hu2 10 (by decide)]; exact hg) ?_
            refine x_al_n (q := 36) dX0_setTags_35 rfl rfl ?_
            refine x_il_n (q := 37) dX0_setTags_36 rfl rfl ?_
            refine x_il (q := 39) dX0_setTags_37 rfl rfl ?_
            refine x_VI (q := 42) (ci := 0) dX0_setTags_39 rfl kX0_setTags_73 (c_endOf hs hr) rfl rfl (hs _ _ rfl) (by decide) rfl (Nat.le_of_ble_eq_true rfl) ⟨rfl, rfl⟩ ⟨Nat.zero_le _, Nat.zero_le _⟩ ?_
            rw [endF_e (v := u) (e := e) (fun j hj => by rw [hu2 11 (by decide)]; exact hE j hj) hs7 hw16]
            refine x_SI (q := 45) dX0_setTags_42 rfl kX0_setTags_69 (c_has hm.1) rfl rfl (Nat.le_of_ble_eq_true rfl) ⟨rfl, rfl⟩ ⟨Nat.zero_le _, Nat.zero_le _⟩ ?_
            rw [has_mk hn]
            refine x_if_eq (t := 57) (q := 48) dX0_setTags_45 rfl rfl (fun c_45 => ?_) (fun c_45 => ?_)
            · skip
              have hT : (aG e f n s w && decide (tcn (aG e f n s) d w < d)) = false := by unfold aG; rw [b2i_0.mp c_45]; simp
              refine x_ic (q := 58) dX0_setTags_57 rfl rfl ?_
              refine x_is5 (q := 60) dX0_setTags_58 rfl rfl ?_
              refine x_al_n (q := 61) dX0_setTags_60 rfl rfl ?_
              refine x_getR (q := 64) (o := some (12)) dX0_setTags_61 rfl fX0_15 (hs _ _ rfl) rfl (hr _ _ _ rfl) ?_
              refine x_il_n (q := 65) dX0_setTags_64 rfl rfl ?_
              refine x_bi (q := 67) dX0_setTags_65 rfl rfl ?_
              refine x_mul (q := 68) dX0_setTags_67 rfl ⟨by omega, by omega⟩ ?_
              refine x_il (q := 70) dX0_setTags_68 rfl rfl ?_
              refine x_add (q := 71) dX0_setTags_70 rfl ⟨by omega, by omega⟩ ?_
              refine x_il (q := 73) dX0_setTags_71 rfl rfl ?_
              refine x_if_eq (t := 80) (q := 76) dX0_setTags_73 rfl rfl (fun c_73 => ?_) (fun c_73 => ?_)
              · skip
                refine x_bi (q := 82) dX0_setTags_80 rfl rfl ?_
                refine x_iast (q := 83) dX0_setTags_82 rfl (hs _ _ rfl) (by omega) (by omega) ?_
                refine x_il (q := 85) dX0_setTags_83 rfl rfl ?_
                refine x_if_eq (t := 91) (q := 88) dX0_setTags_85 rfl rfl (fun c_85 => ?_) (fun c_85 => ?_)
                · skip
                  refine x_ii4 (q := 94) dX0_setTags_91 rfl rfl ⟨by omega, by omega⟩ ?_
                  refine x_goto (t := 13) dX0_setTags_94 rfl ?_
                  have hC : tcn (aG e f n s) d (w + 1) = tcn (aG e f n s) d w := by show tcn (aG e f n s) d w + b2i (aG e f n s w && decide (tcn (aG e f n s) d w < d)) = _; rw [hT]; simp [b2i]
                  rw [← hC]
                  refine ih _ _ ⟨fun j hj => ?_, fun c hc => ?_⟩
                  · rw [up_at]
                    by_cases hj2 : j = 16 * s + w
                    · rw [if_pos (by omega), hj2, show (16 * s + w) / 16 = s by omega, show (16 * s + w) % 16 = w by omega]
                      unfold tg
                      rw [if_neg (by rw [hT]; decide)]
                    · rw [if_neg (by omega)]
                      exact hu1 j (by omega)
                  · rw [up_n _ _ _ hc]
                    exact hu2 c hc
                · skip
                  exact absurd c_85 (by decide)
              · skip
                exact absurd c_73 (by decide)
            · skip
              refine x_il_n (q := 49) dX0_setTags_48 rfl rfl ?_
              refine x_il_n (q := 50) dX0_setTags_49 rfl rfl ?_
              refine x_ic_ge (t := 57) (q := 53) dX0_setTags_50 rfl rfl (fun c_50 => ?_) (fun c_50 => ?_)
              · skip
                have hT : (aG e f n s w && decide (tcn (aG e f n s) d w < d)) = false := by rw [decide_eq_false (by omega)]; simp
                refine x_ic (q := 58) dX0_setTags_57 rfl rfl ?_
                refine x_is5 (q := 60) dX0_setTags_58 rfl rfl ?_
                refine x_al_n (q := 61) dX0_setTags_60 rfl rfl ?_
                refine x_getR (q := 64) (o := some (12)) dX0_setTags_61 rfl fX0_15 (hs _ _ rfl) rfl (hr _ _ _ rfl) ?_
                refine x_il_n (q := 65) dX0_setTags_64 rfl rfl ?_
                refine x_bi (q := 67) dX0_setTags_65 rfl rfl ?_
                refine x_mul (q := 68) dX0_setTags_67 rfl ⟨by omega, by omega⟩ ?_
                refine x_il (q := 70) dX0_setTags_68 rfl rfl ?_
                refine x_add (q := 71) dX0_setTags_70 rfl ⟨by omega, by omega⟩ ?_
                refine x_il (q := 73) dX0_setTags_71 rfl rfl ?_
                refine x_if_eq (t := 80) (q := 76) dX0_setTags_73 rfl rfl (fun c_73 => ?_) (fun c_73 => ?_)
                · skip
                  refine x_bi (q := 82) dX0_setTags_80 rfl rfl ?_
                  refine x_iast (q := 83) dX0_setTags_82 rfl (hs _ _ rfl) (by omega) (by omega) ?_
                  refine x_il (q := 85) dX0_setTags_83 rfl rfl ?_
                  refine x_if_eq (t := 91) (q := 88) dX0_setTags_85 rfl rfl (fun c_85 => ?_) (fun c_85 => ?_)
                  · skip
                    refine x_ii4 (q := 94) dX0_setTags_91 rfl rfl ⟨by omega, by omega⟩ ?_
                    refine x_goto (t := 13) dX0_setTags_94 rfl ?_
                    have hC : tcn (aG e f n s) d (w + 1) = tcn (aG e f n s) d w := by show tcn (aG e f n s) d w + b2i (aG e f n s w && decide (tcn (aG e f n s) d w < d)) = _; rw [hT]; simp [b2i]
                    rw [← hC]
                    refine ih _ _ ⟨fun j hj => ?_, fun c hc => ?_⟩
                    · rw [up_at]
                      by_cases hj2 : j = 16 * s + w
                      · rw [if_pos (by omega), hj2, show (16 * s + w) / 16 = s by omega, show (16 * s + w) % 16 = w by omega]
                        unfold tg
                        rw [if_neg (by rw [hT]; decide)]
                      · rw [if_neg (by omega)]
                        exact hu1 j (by omega)
                    · rw [up_n _ _ _ hc]
                      exact hu2 c hc
                  · skip
                    exact absurd c_85 (by decide)
                · skip
                  exact absurd c_73 (by decide)
              · skip
                have hT : (aG e f n s w && decide (tcn (aG e f n s) d w < d)) = true := by rw [decide_eq_true (by omega)]; unfold aG; rw [b2i_n0.mp c_45, b2i_n0.mp c_28]; rfl
                refine x_ic (q := 54) dX0_setTags_53 rfl rfl ?_
                refine x_goto (t := 58) dX0_setTags_54 rfl ?_
                refine x_is5 (q := 60) dX0_setTags_58 rfl rfl ?_
                refine x_al_n (q := 61) dX0_setTags_60 rfl rfl ?_
                refine x_getR (q := 64) (o := some (12)) dX0_setTags_61 rfl fX0_15 (hs _ _ rfl) rfl (hr _ _ _ rfl) ?_
                refine x_il_n (q := 65) dX0_setTags_64 rfl rfl ?_
                refine x_bi (q := 67) dX0_setTags_65 rfl rfl ?_
                refine x_mul (q := 68) dX0_setTags_67 rfl ⟨by omega, by omega⟩ ?_
                refine x_il (q := 70) dX0_setTags_68 rfl rfl ?_
                refine x_add (q := 71) dX0_setTags_70 rfl ⟨by omega, by omega⟩ ?_
                refine x_il (q := 73) dX0_setTags_71 rfl rfl ?_
                refine x_if_eq (t := 80) (q := 76) dX0_setTags_73 rfl rfl (fun c_73 => ?_) (fun c_73 => ?_)
                · skip
                  exact absurd c_73 (by decide)
                · skip
                  refine x_il_n (q := 77) dX0_setTags_76 rfl rfl ?_
                  refine x_goto (t := 82) dX0_setTags_77 rfl ?_
                  refine x_iast (q := 83) dX0_setTags_82 rfl (hs _ _ rfl) (by omega) (by omega) ?_
                  refine x_il (q := 85) dX0_setTags_83 rfl rfl ?_
                  refine x_if_eq (t := 91) (q := 88) dX0_setTags_85 rfl rfl (fun c_85 => ?_) (fun c_85 => ?_)
                  · skip
                    exact absurd c_85 (by decide)
                  · skip
                    refine x_ii3 (q := 91) dX0_setTags_88 rfl rfl ⟨by omega, by omega⟩ ?_
                    refine x_ii4 (q := 94) dX0_setTags_91 rfl rfl ⟨by omega, by omega⟩ ?_
                    refine x_goto (t := 13) dX0_setTags_94 rfl ?_
                    have hC : tcn (aG e f n s) d (w + 1) = tcn (aG e f n s) d w + 1 := by show tcn (aG e f n s) d w + b2i (aG e f n s w && decide (tcn (aG e f n s) d w < d)) = _; rw [hT]; rfl
                    rw [← hC]
                    refine ih _ _ ⟨fun j hj => ?_, fun c hc => ?_⟩
                    · rw [up_at]
                      by_cases hj2 : j = 16 * s + w
                      · rw [if_pos (by omega), hj2, show (16 * s + w) / 16 = s by omega, show (16 * s + w) % 16 = w by omega]
                        unfold tg
                        rw [if_pos hT]
                      · rw [if_neg (by omega)]
                        exact hu1 j (by omega)
                    · rw [up_n _ _ _ hc]
                      exact hu2 c hc
end GOOD
end
