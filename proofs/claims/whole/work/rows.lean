section
-- ===== PART A: goes FIRST, ahead of the names: the tables' words, and 'selects' of the private methods out of them =====
/-- a private method of a class that the tables say can be made, by its rows of tables_1 -/
def lw_okq (q : MethodName × Nat) : Prop := (q.1.cls ≠ "java/lang/invoke/MethodHandle" ∧ q.1.cls ≠ "java/lang/invoke/VarHandle") ∧ Cond.instantiable q.1.cls q.2 ∈ tables_1 ∧ Cond.privateMethod q.1 ∈ tables_1 ∧ Cond.instanceMethod q.1 ∈ tables_1
theorem lw_p0 : lw_okq (⟨"WrittenMoves$Reader", "advance", "()V"⟩, 11) := ⟨⟨by decide +kernel, by decide +kernel⟩, List.mem_of_getElem? (i := 157) (by decide +kernel), List.mem_of_getElem? (i := 467) (by decide +kernel), List.mem_of_getElem? (i := 468) (by decide +kernel)⟩
theorem lw_p1 : lw_okq (⟨"WrittenMoves$Reader", "takeRule", "()Z"⟩, 11) := ⟨⟨by decide +kernel, by decide +kernel⟩, List.mem_of_getElem? (i := 157) (by decide +kernel), List.mem_of_getElem? (i := 474) (by decide +kernel), List.mem_of_getElem? (i := 475) (by decide +kernel)⟩
theorem lw_p2 : lw_okq (⟨"WrittenMoves$Reader", "readBoardLine", "()Z"⟩, 11) := ⟨⟨by decide +kernel, by decide +kernel⟩, List.mem_of_getElem? (i := 157) (by decide +kernel), List.mem_of_getElem? (i := 570) (by decide +kernel), List.mem_of_getElem? (i := 571) (by decide +kernel)⟩
theorem lw_p3 : lw_okq (⟨"WrittenMoves$Reader", "isWord", "(Ljava/lang/String;)Z"⟩, 11) := ⟨⟨by decide +kernel, by decide +kernel⟩, List.mem_of_getElem? (i := 157) (by decide +kernel), List.mem_of_getElem? (i := 575) (by decide +kernel), List.mem_of_getElem? (i := 576) (by decide +kernel)⟩
theorem lw_p4 : lw_okq (⟨"WrittenMoves$Reader", "readSize", "()Z"⟩, 11) := ⟨⟨by decide +kernel, by decide +kernel⟩, List.mem_of_getElem? (i := 157) (by decide +kernel), List.mem_of_getElem? (i := 600) (by decide +kernel), List.mem_of_getElem? (i := 601) (by decide +kernel)⟩
theorem lw_p5 : lw_okq (⟨"WrittenMoves$Reader", "takeNumber", "(II)I"⟩, 11) := ⟨⟨by decide +kernel, by decide +kernel⟩, List.mem_of_getElem? (i := 157) (by decide +kernel), List.mem_of_getElem? (i := 604) (by decide +kernel), List.mem_of_getElem? (i := 605) (by decide +kernel)⟩
theorem lw_p6 : lw_okq (⟨"WrittenMoves$Reader", "note", "(II)V"⟩, 11) := ⟨⟨by decide +kernel, by decide +kernel⟩, List.mem_of_getElem? (i := 157) (by decide +kernel), List.mem_of_getElem? (i := 608) (by decide +kernel), List.mem_of_getElem? (i := 609) (by decide +kernel)⟩
theorem lw_p7 : lw_okq (⟨"WrittenMoves$Reader", "takeMark", "()Z"⟩, 11) := ⟨⟨by decide +kernel, by decide +kernel⟩, List.mem_of_getElem? (i := 157) (by decide +kernel), List.mem_of_getElem? (i := 612) (by decide +kernel), List.mem_of_getElem? (i := 613) (by decide +kernel)⟩
theorem lw_p8 : lw_okq (⟨"WrittenMoves$Reader", "readMan", "()Z"⟩, 11) := ⟨⟨by decide +kernel, by decide +kernel⟩, List.mem_of_getElem? (i := 157) (by decide +kernel), List.mem_of_getElem? (i := 617) (by decide +kernel), List.mem_of_getElem? (i := 618) (by decide +kernel)⟩
theorem lw_p9 : lw_okq (⟨"WrittenMoves$Reader", "readFields", "()J"⟩, 11) := ⟨⟨by decide +kernel, by decide +kernel⟩, List.mem_of_getElem? (i := 157) (by decide +kernel), List.mem_of_getElem? (i := 626) (by decide +kernel), List.mem_of_getElem? (i := 627) (by decide +kernel)⟩
theorem lw_p10 : lw_okq (⟨"WrittenMoves$Reader", "readGameLine", "()Z"⟩, 11) := ⟨⟨by decide +kernel, by decide +kernel⟩, List.mem_of_getElem? (i := 157) (by decide +kernel), List.mem_of_getElem? (i := 634) (by decide +kernel), List.mem_of_getElem? (i := 635) (by decide +kernel)⟩
theorem lw_p11 : lw_okq (⟨"WrittenMoves$Ground", "layNeighbours", "(LWrittenMoves$Board;JJ)V"⟩, 5) := ⟨⟨by decide +kernel, by decide +kernel⟩, List.mem_of_getElem? (i := 213) (by decide +kernel), List.mem_of_getElem? (i := 735) (by decide +kernel), List.mem_of_getElem? (i := 736) (by decide +kernel)⟩
theorem lw_p12 : lw_okq (⟨"WrittenMoves$Walk", "setAside", "(LWrittenMoves$Ground;I)V"⟩, 5) := ⟨⟨by decide +kernel, by decide +kernel⟩, List.mem_of_getElem? (i := 278) (by decide +kernel), List.mem_of_getElem? (i := 754) (by decide +kernel), List.mem_of_getElem? (i := 755) (by decide +kernel)⟩
theorem lw_p13 : lw_okq (⟨"WrittenMoves$Walk", "goSteps", "(LWrittenMoves$Ground;I)V"⟩, 5) := ⟨⟨by decide +kernel, by decide +kernel⟩, List.mem_of_getElem? (i := 278) (by decide +kernel), List.mem_of_getElem? (i := 759) (by decide +kernel), List.mem_of_getElem? (i := 760) (by decide +kernel)⟩
theorem lw_p14 : lw_okq (⟨"WrittenMoves$Walk", "here", "()J"⟩, 5) := ⟨⟨by decide +kernel, by decide +kernel⟩, List.mem_of_getElem? (i := 278) (by decide +kernel), List.mem_of_getElem? (i := 763) (by decide +kernel), List.mem_of_getElem? (i := 764) (by decide +kernel)⟩
theorem lw_p15 : lw_okq (⟨"WrittenMoves$Walk", "goOn", "(LWrittenMoves$Ground;)V"⟩, 5) := ⟨⟨by decide +kernel, by decide +kernel⟩, List.mem_of_getElem? (i := 278) (by decide +kernel), List.mem_of_getElem? (i := 771) (by decide +kernel), List.mem_of_getElem? (i := 772) (by decide +kernel)⟩
def lw_privs_1 : List (MethodName × Nat) := [(⟨"WrittenMoves$Reader", "advance", "()V"⟩, 11), (⟨"WrittenMoves$Reader", "takeRule", "()Z"⟩, 11), (⟨"WrittenMoves$Reader", "readBoardLine", "()Z"⟩, 11), (⟨"WrittenMoves$Reader", "isWord", "(Ljava/lang/String;)Z"⟩, 11), (⟨"WrittenMoves$Reader", "readSize", "()Z"⟩, 11), (⟨"WrittenMoves$Reader", "takeNumber", "(II)I"⟩, 11), (⟨"WrittenMoves$Reader", "note", "(II)V"⟩, 11), (⟨"WrittenMoves$Reader", "takeMark", "()Z"⟩, 11), (⟨"WrittenMoves$Reader", "readMan", "()Z"⟩, 11), (⟨"WrittenMoves$Reader", "readFields", "()J"⟩, 11), (⟨"WrittenMoves$Reader", "readGameLine", "()Z"⟩, 11), (⟨"WrittenMoves$Ground", "layNeighbours", "(LWrittenMoves$Board;JJ)V"⟩, 5), (⟨"WrittenMoves$Walk", "setAside", "(LWrittenMoves$Ground;I)V"⟩, 5), (⟨"WrittenMoves$Walk", "goSteps", "(LWrittenMoves$Ground;I)V"⟩, 5), (⟨"WrittenMoves$Walk", "here", "()J"⟩, 5), (⟨"WrittenMoves$Walk", "goOn", "(LWrittenMoves$Ground;)V"⟩, 5)]
theorem lw_r1 : ∀ q ∈ lw_privs_1, lw_okq q := List.forall_mem_cons.mpr ⟨lw_p0, List.forall_mem_cons.mpr ⟨lw_p1, List.forall_mem_cons.mpr ⟨lw_p2, List.forall_mem_cons.mpr ⟨lw_p3, List.forall_mem_cons.mpr ⟨lw_p4, List.forall_mem_cons.mpr ⟨lw_p5, List.forall_mem_cons.mpr ⟨lw_p6, List.forall_mem_cons.mpr ⟨lw_p7, List.forall_mem_cons.mpr ⟨lw_p8, List.forall_mem_cons.mpr ⟨lw_p9, List.forall_mem_cons.mpr ⟨lw_p10, List.forall_mem_cons.mpr ⟨lw_p11, List.forall_mem_cons.mpr ⟨lw_p12, List.forall_mem_cons.mpr ⟨lw_p13, List.forall_mem_cons.mpr ⟨lw_p14, List.forall_mem_cons.mpr ⟨lw_p15, fun _ h => absurd h List.not_mem_nil⟩⟩⟩⟩⟩⟩⟩⟩⟩⟩⟩⟩⟩⟩⟩⟩
theorem lw_p16 : lw_okq (⟨"WrittenMoves$Walk", "stay", "(J)V"⟩, 5) := ⟨⟨by decide +kernel, by decide +kernel⟩, List.mem_of_getElem? (i := 278) (by decide +kernel), List.mem_of_getElem? (i := 775) (by decide +kernel), List.mem_of_getElem? (i := 776) (by decide +kernel)⟩
theorem lw_p17 : lw_okq (⟨"WrittenMoves$Walk", "addQuoteIfCan", "(LWrittenMoves$Ground;J)V"⟩, 5) := ⟨⟨by decide +kernel, by decide +kernel⟩, List.mem_of_getElem? (i := 278) (by decide +kernel), List.mem_of_getElem? (i := 779) (by decide +kernel), List.mem_of_getElem? (i := 780) (by decide +kernel)⟩
theorem lw_p18 : lw_okq (⟨"WrittenMoves$Walk", "keepAside", "(II)V"⟩, 5) := ⟨⟨by decide +kernel, by decide +kernel⟩, List.mem_of_getElem? (i := 278) (by decide +kernel), List.mem_of_getElem? (i := 784) (by decide +kernel), List.mem_of_getElem? (i := 785) (by decide +kernel)⟩
theorem lw_p19 : lw_okq (⟨"WrittenMoves$Walk", "addAll", "(LWrittenMoves$Ground;J)V"⟩, 5) := ⟨⟨by decide +kernel, by decide +kernel⟩, List.mem_of_getElem? (i := 278) (by decide +kernel), List.mem_of_getElem? (i := 793) (by decide +kernel), List.mem_of_getElem? (i := 794) (by decide +kernel)⟩
theorem lw_p20 : lw_okq (⟨"WrittenMoves", "canTrace", "(IIII)Z"⟩, 8) := ⟨⟨by decide +kernel, by decide +kernel⟩, List.mem_of_getElem? (i := 23) (by decide +kernel), List.mem_of_getElem? (i := 801) (by decide +kernel), List.mem_of_getElem? (i := 802) (by decide +kernel)⟩
theorem lw_p21 : lw_okq (⟨"WrittenMoves$Trace", "spread", "(J)V"⟩, 8) := ⟨⟨by decide +kernel, by decide +kernel⟩, List.mem_of_getElem? (i := 207) (by decide +kernel), List.mem_of_getElem? (i := 810) (by decide +kernel), List.mem_of_getElem? (i := 811) (by decide +kernel)⟩
theorem lw_p22 : lw_okq (⟨"WrittenMoves$Trace", "put", "(IZ)V"⟩, 8) := ⟨⟨by decide +kernel, by decide +kernel⟩, List.mem_of_getElem? (i := 207) (by decide +kernel), List.mem_of_getElem? (i := 816) (by decide +kernel), List.mem_of_getElem? (i := 817) (by decide +kernel)⟩
theorem lw_p23 : lw_okq (⟨"WrittenMoves$Trace", "weighOne", "(IIII)V"⟩, 8) := ⟨⟨by decide +kernel, by decide +kernel⟩, List.mem_of_getElem? (i := 207) (by decide +kernel), List.mem_of_getElem? (i := 820) (by decide +kernel), List.mem_of_getElem? (i := 821) (by decide +kernel)⟩
theorem lw_p24 : lw_okq (⟨"WrittenMoves$Trace", "weighSteps", "(III)Z"⟩, 8) := ⟨⟨by decide +kernel, by decide +kernel⟩, List.mem_of_getElem? (i := 207) (by decide +kernel), List.mem_of_getElem? (i := 828) (by decide +kernel), List.mem_of_getElem? (i := 829) (by decide +kernel)⟩
theorem lw_p25 : lw_okq (⟨"WrittenMoves$Trace", "join", "(III)V"⟩, 8) := ⟨⟨by decide +kernel, by decide +kernel⟩, List.mem_of_getElem? (i := 207) (by decide +kernel), List.mem_of_getElem? (i := 837) (by decide +kernel), List.mem_of_getElem? (i := 838) (by decide +kernel)⟩
theorem lw_p26 : lw_okq (⟨"WrittenMoves$Trace", "weighOn", "(IIII)V"⟩, 8) := ⟨⟨by decide +kernel, by decide +kernel⟩, List.mem_of_getElem? (i := 207) (by decide +kernel), List.mem_of_getElem? (i := 842) (by decide +kernel), List.mem_of_getElem? (i := 843) (by decide +kernel)⟩
theorem lw_p27 : lw_okq (⟨"WrittenMoves$Trace", "followOn", "(II)I"⟩, 8) := ⟨⟨by decide +kernel, by decide +kernel⟩, List.mem_of_getElem? (i := 207) (by decide +kernel), List.mem_of_getElem? (i := 846) (by decide +kernel), List.mem_of_getElem? (i := 847) (by decide +kernel)⟩
theorem lw_p28 : lw_okq (⟨"WrittenMoves$Trace", "reach", "(I)I"⟩, 8) := ⟨⟨by decide +kernel, by decide +kernel⟩, List.mem_of_getElem? (i := 207) (by decide +kernel), List.mem_of_getElem? (i := 850) (by decide +kernel), List.mem_of_getElem? (i := 851) (by decide +kernel)⟩
theorem lw_p29 : lw_okq (⟨"WrittenMoves$Trace", "firstSide", "(II)I"⟩, 8) := ⟨⟨by decide +kernel, by decide +kernel⟩, List.mem_of_getElem? (i := 207) (by decide +kernel), List.mem_of_getElem? (i := 866) (by decide +kernel), List.mem_of_getElem? (i := 867) (by decide +kernel)⟩
theorem lw_p30 : lw_okq (⟨"WrittenMoves$Stand", "isStanding", "(II)Z"⟩, 5) := ⟨⟨by decide +kernel, by decide +kernel⟩, List.mem_of_getElem? (i := 326) (by decide +kernel), List.mem_of_getElem? (i := 903) (by decide +kernel), List.mem_of_getElem? (i := 904) (by decide +kernel)⟩
theorem lw_p31 : lw_okq (⟨"WrittenMoves$Stand", "go", "(II)V"⟩, 5) := ⟨⟨by decide +kernel, by decide +kernel⟩, List.mem_of_getElem? (i := 326) (by decide +kernel), List.mem_of_getElem? (i := 925) (by decide +kernel), List.mem_of_getElem? (i := 926) (by decide +kernel)⟩
def lw_privs_2 : List (MethodName × Nat) := [(⟨"WrittenMoves$Walk", "stay", "(J)V"⟩, 5), (⟨"WrittenMoves$Walk", "addQuoteIfCan", "(LWrittenMoves$Ground;J)V"⟩, 5), (⟨"WrittenMoves$Walk", "keepAside", "(II)V"⟩, 5), (⟨"WrittenMoves$Walk", "addAll", "(LWrittenMoves$Ground;J)V"⟩, 5), (⟨"WrittenMoves", "canTrace", "(IIII)Z"⟩, 8), (⟨"WrittenMoves$Trace", "spread", "(J)V"⟩, 8), (⟨"WrittenMoves$Trace", "put", "(IZ)V"⟩, 8), (⟨"WrittenMoves$Trace", "weighOne", "(IIII)V"⟩, 8), (⟨"WrittenMoves$Trace", "weighSteps", "(III)Z"⟩, 8), (⟨"WrittenMoves$Trace", "join", "(III)V"⟩, 8), (⟨"WrittenMoves$Trace", "weighOn", "(IIII)V"⟩, 8), (⟨"WrittenMoves$Trace", "followOn", "(II)I"⟩, 8), (⟨"WrittenMoves$Trace", "reach", "(I)I"⟩, 8), (⟨"WrittenMoves$Trace", "firstSide", "(II)I"⟩, 8), (⟨"WrittenMoves$Stand", "isStanding", "(II)Z"⟩, 5), (⟨"WrittenMoves$Stand", "go", "(II)V"⟩, 5)]
theorem lw_r2 : ∀ q ∈ lw_privs_2, lw_okq q := List.forall_mem_cons.mpr ⟨lw_p16, List.forall_mem_cons.mpr ⟨lw_p17, List.forall_mem_cons.mpr ⟨lw_p18, List.forall_mem_cons.mpr ⟨lw_p19, List.forall_mem_cons.mpr ⟨lw_p20, List.forall_mem_cons.mpr ⟨lw_p21, List.forall_mem_cons.mpr ⟨lw_p22, List.forall_mem_cons.mpr ⟨lw_p23, List.forall_mem_cons.mpr ⟨lw_p24, List.forall_mem_cons.mpr ⟨lw_p25, List.forall_mem_cons.mpr ⟨lw_p26, List.forall_mem_cons.mpr ⟨lw_p27, List.forall_mem_cons.mpr ⟨lw_p28, List.forall_mem_cons.mpr ⟨lw_p29, List.forall_mem_cons.mpr ⟨lw_p30, List.forall_mem_cons.mpr ⟨lw_p31, fun _ h => absurd h List.not_mem_nil⟩⟩⟩⟩⟩⟩⟩⟩⟩⟩⟩⟩⟩⟩⟩⟩
theorem lw_p32 : lw_okq (⟨"WrittenMoves$Listing", "written", "()J"⟩, 6) := ⟨⟨by decide +kernel, by decide +kernel⟩, List.mem_of_getElem? (i := 269) (by decide +kernel), List.mem_of_getElem? (i := 1006) (by decide +kernel), List.mem_of_getElem? (i := 1007) (by decide +kernel)⟩
theorem lw_p33 : lw_okq (⟨"WrittenMoves$Listing", "isNew", "(J)Z"⟩, 6) := ⟨⟨by decide +kernel, by decide +kernel⟩, List.mem_of_getElem? (i := 269) (by decide +kernel), List.mem_of_getElem? (i := 1049) (by decide +kernel), List.mem_of_getElem? (i := 1050) (by decide +kernel)⟩
theorem lw_p34 : lw_okq (⟨"WrittenMoves$Contest", "firstGood", "(I)I"⟩, 7) := ⟨⟨by decide +kernel, by decide +kernel⟩, List.mem_of_getElem? (i := 374) (by decide +kernel), List.mem_of_getElem? (i := 1076) (by decide +kernel), List.mem_of_getElem? (i := 1077) (by decide +kernel)⟩
theorem lw_p35 : lw_okq (⟨"WrittenMoves$Contest", "winsBehind", "(IJZ)Z"⟩, 7) := ⟨⟨by decide +kernel, by decide +kernel⟩, List.mem_of_getElem? (i := 374) (by decide +kernel), List.mem_of_getElem? (i := 1080) (by decide +kernel), List.mem_of_getElem? (i := 1081) (by decide +kernel)⟩
theorem lw_p36 : lw_okq (⟨"WrittenMoves$Contest", "winsAt", "(II)Z"⟩, 7) := ⟨⟨by decide +kernel, by decide +kernel⟩, List.mem_of_getElem? (i := 374) (by decide +kernel), List.mem_of_getElem? (i := 1084) (by decide +kernel), List.mem_of_getElem? (i := 1085) (by decide +kernel)⟩
theorem lw_p37 : lw_okq (⟨"WrittenMoves$Contest", "allGood", "(I)Z"⟩, 7) := ⟨⟨by decide +kernel, by decide +kernel⟩, List.mem_of_getElem? (i := 374) (by decide +kernel), List.mem_of_getElem? (i := 1095) (by decide +kernel), List.mem_of_getElem? (i := 1096) (by decide +kernel)⟩
theorem lw_p38 : lw_okq (⟨"WrittenMoves$Play", "below", "(I)I"⟩, 4) := ⟨⟨by decide +kernel, by decide +kernel⟩, List.mem_of_getElem? (i := 320) (by decide +kernel), List.mem_of_getElem? (i := 1116) (by decide +kernel), List.mem_of_getElem? (i := 1117) (by decide +kernel)⟩
theorem lw_p39 : lw_okq (⟨"WrittenMovesModel", "four", "(I)V"⟩, 75) := ⟨⟨by decide +kernel, by decide +kernel⟩, List.mem_of_getElem? (i := 1143) (by decide +kernel), List.mem_of_getElem? (i := 1379) (by decide +kernel), List.mem_of_getElem? (i := 1380) (by decide +kernel)⟩
theorem lw_p40 : lw_okq (⟨"WrittenMovesModel", "is", "(II)Z"⟩, 75) := ⟨⟨by decide +kernel, by decide +kernel⟩, List.mem_of_getElem? (i := 1143) (by decide +kernel), List.mem_of_getElem? (i := 1397) (by decide +kernel), List.mem_of_getElem? (i := 1398) (by decide +kernel)⟩
theorem lw_p41 : lw_okq (⟨"WrittenMovesModel", "readText", "(I)Z"⟩, 75) := ⟨⟨by decide +kernel, by decide +kernel⟩, List.mem_of_getElem? (i := 1143) (by decide +kernel), List.mem_of_getElem? (i := 1401) (by decide +kernel), List.mem_of_getElem? (i := 1402) (by decide +kernel)⟩
theorem lw_p42 : lw_okq (⟨"WrittenMovesModel", "token", "()V"⟩, 75) := ⟨⟨by decide +kernel, by decide +kernel⟩, List.mem_of_getElem? (i := 1143) (by decide +kernel), List.mem_of_getElem? (i := 1405) (by decide +kernel), List.mem_of_getElem? (i := 1406) (by decide +kernel)⟩
theorem lw_p43 : lw_okq (⟨"WrittenMovesModel", "see", "()I"⟩, 75) := ⟨⟨by decide +kernel, by decide +kernel⟩, List.mem_of_getElem? (i := 1143) (by decide +kernel), List.mem_of_getElem? (i := 1409) (by decide +kernel), List.mem_of_getElem? (i := 1410) (by decide +kernel)⟩
theorem lw_p44 : lw_okq (⟨"WrittenMovesModel", "ruleText", "()Z"⟩, 75) := ⟨⟨by decide +kernel, by decide +kernel⟩, List.mem_of_getElem? (i := 1143) (by decide +kernel), List.mem_of_getElem? (i := 1413) (by decide +kernel), List.mem_of_getElem? (i := 1414) (by decide +kernel)⟩
theorem lw_p45 : lw_okq (⟨"WrittenMovesModel", "takeRule", "()Z"⟩, 75) := ⟨⟨by decide +kernel, by decide +kernel⟩, List.mem_of_getElem? (i := 1143) (by decide +kernel), List.mem_of_getElem? (i := 1417) (by decide +kernel), List.mem_of_getElem? (i := 1418) (by decide +kernel)⟩
theorem lw_p46 : lw_okq (⟨"WrittenMovesModel", "stops", "()Z"⟩, 75) := ⟨⟨by decide +kernel, by decide +kernel⟩, List.mem_of_getElem? (i := 1143) (by decide +kernel), List.mem_of_getElem? (i := 1421) (by decide +kernel), List.mem_of_getElem? (i := 1422) (by decide +kernel)⟩
theorem lw_p47 : lw_okq (⟨"WrittenMovesModel", "lines", "(I)Z"⟩, 75) := ⟨⟨by decide +kernel, by decide +kernel⟩, List.mem_of_getElem? (i := 1143) (by decide +kernel), List.mem_of_getElem? (i := 1428) (by decide +kernel), List.mem_of_getElem? (i := 1429) (by decide +kernel)⟩
def lw_privs_3 : List (MethodName × Nat) := [(⟨"WrittenMoves$Listing", "written", "()J"⟩, 6), (⟨"WrittenMoves$Listing", "isNew", "(J)Z"⟩, 6), (⟨"WrittenMoves$Contest", "firstGood", "(I)I"⟩, 7), (⟨"WrittenMoves$Contest", "winsBehind", "(IJZ)Z"⟩, 7), (⟨"WrittenMoves$Contest", "winsAt", "(II)Z"⟩, 7), (⟨"WrittenMoves$Contest", "allGood", "(I)Z"⟩, 7), (⟨"WrittenMoves$Play", "below", "(I)I"⟩, 4), (⟨"WrittenMovesModel", "four", "(I)V"⟩, 75), (⟨"WrittenMovesModel", "is", "(II)Z"⟩, 75), (⟨"WrittenMovesModel", "readText", "(I)Z"⟩, 75), (⟨"WrittenMovesModel", "token", "()V"⟩, 75), (⟨"WrittenMovesModel", "see", "()I"⟩, 75), (⟨"WrittenMovesModel", "ruleText", "()Z"⟩, 75), (⟨"WrittenMovesModel", "takeRule", "()Z"⟩, 75), (⟨"WrittenMovesModel", "stops", "()Z"⟩, 75), (⟨"WrittenMovesModel", "lines", "(I)Z"⟩, 75)]
theorem lw_r3 : ∀ q ∈ lw_privs_3, lw_okq q := List.forall_mem_cons.mpr ⟨lw_p32, List.forall_mem_cons.mpr ⟨lw_p33, List.forall_mem_cons.mpr ⟨lw_p34, List.forall_mem_cons.mpr ⟨lw_p35, List.forall_mem_cons.mpr ⟨lw_p36, List.forall_mem_cons.mpr ⟨lw_p37, List.forall_mem_cons.mpr ⟨lw_p38, List.forall_mem_cons.mpr ⟨lw_p39, List.forall_mem_cons.mpr ⟨lw_p40, List.forall_mem_cons.mpr ⟨lw_p41, List.forall_mem_cons.mpr ⟨lw_p42, List.forall_mem_cons.mpr ⟨lw_p43, List.forall_mem_cons.mpr ⟨lw_p44, List.forall_mem_cons.mpr ⟨lw_p45, List.forall_mem_cons.mpr ⟨lw_p46, List.forall_mem_cons.mpr ⟨lw_p47, fun _ h => absurd h List.not_mem_nil⟩⟩⟩⟩⟩⟩⟩⟩⟩⟩⟩⟩⟩⟩⟩⟩
theorem lw_p48 : lw_okq (⟨"WrittenMovesModel", "boardLine", "(JI)Z"⟩, 75) := ⟨⟨by decide +kernel, by decide +kernel⟩, List.mem_of_getElem? (i := 1143) (by decide +kernel), List.mem_of_getElem? (i := 1432) (by decide +kernel), List.mem_of_getElem? (i := 1433) (by decide +kernel)⟩
theorem lw_p49 : lw_okq (⟨"WrittenMovesModel", "later", "(II)V"⟩, 75) := ⟨⟨by decide +kernel, by decide +kernel⟩, List.mem_of_getElem? (i := 1143) (by decide +kernel), List.mem_of_getElem? (i := 1440) (by decide +kernel), List.mem_of_getElem? (i := 1441) (by decide +kernel)⟩
theorem lw_p50 : lw_okq (⟨"WrittenMovesModel", "take", "(II)Z"⟩, 75) := ⟨⟨by decide +kernel, by decide +kernel⟩, List.mem_of_getElem? (i := 1143) (by decide +kernel), List.mem_of_getElem? (i := 1444) (by decide +kernel), List.mem_of_getElem? (i := 1445) (by decide +kernel)⟩
theorem lw_p51 : lw_okq (⟨"WrittenMovesModel", "takeField", "()Z"⟩, 75) := ⟨⟨by decide +kernel, by decide +kernel⟩, List.mem_of_getElem? (i := 1143) (by decide +kernel), List.mem_of_getElem? (i := 1448) (by decide +kernel), List.mem_of_getElem? (i := 1449) (by decide +kernel)⟩
theorem lw_p52 : lw_okq (⟨"WrittenMovesModel", "gameLine", "(JI)Z"⟩, 75) := ⟨⟨by decide +kernel, by decide +kernel⟩, List.mem_of_getElem? (i := 1143) (by decide +kernel), List.mem_of_getElem? (i := 1452) (by decide +kernel), List.mem_of_getElem? (i := 1453) (by decide +kernel)⟩
theorem lw_p53 : lw_okq (⟨"WrittenMovesModel", "isWrongBoard", "()Z"⟩, 75) := ⟨⟨by decide +kernel, by decide +kernel⟩, List.mem_of_getElem? (i := 1143) (by decide +kernel), List.mem_of_getElem? (i := 1458) (by decide +kernel), List.mem_of_getElem? (i := 1459) (by decide +kernel)⟩
theorem lw_p54 : lw_okq (⟨"WrittenMovesModel", "store", "([III)V"⟩, 75) := ⟨⟨by decide +kernel, by decide +kernel⟩, List.mem_of_getElem? (i := 1143) (by decide +kernel), List.mem_of_getElem? (i := 1462) (by decide +kernel), List.mem_of_getElem? (i := 1463) (by decide +kernel)⟩
theorem lw_p55 : lw_okq (⟨"WrittenMovesModel", "hand", "(I)Z"⟩, 75) := ⟨⟨by decide +kernel, by decide +kernel⟩, List.mem_of_getElem? (i := 1143) (by decide +kernel), List.mem_of_getElem? (i := 1474) (by decide +kernel), List.mem_of_getElem? (i := 1475) (by decide +kernel)⟩
theorem lw_p56 : lw_okq (⟨"WrittenMovesModel", "manAt", "(I)I"⟩, 75) := ⟨⟨by decide +kernel, by decide +kernel⟩, List.mem_of_getElem? (i := 1143) (by decide +kernel), List.mem_of_getElem? (i := 1488) (by decide +kernel), List.mem_of_getElem? (i := 1489) (by decide +kernel)⟩
theorem lw_p57 : lw_okq (⟨"WrittenMovesModel", "lay", "(III)Z"⟩, 75) := ⟨⟨by decide +kernel, by decide +kernel⟩, List.mem_of_getElem? (i := 1143) (by decide +kernel), List.mem_of_getElem? (i := 1504) (by decide +kernel), List.mem_of_getElem? (i := 1505) (by decide +kernel)⟩
theorem lw_p58 : lw_okq (⟨"WrittenMovesModel", "layRule", "(I)V"⟩, 75) := ⟨⟨by decide +kernel, by decide +kernel⟩, List.mem_of_getElem? (i := 1143) (by decide +kernel), List.mem_of_getElem? (i := 1508) (by decide +kernel), List.mem_of_getElem? (i := 1509) (by decide +kernel)⟩
theorem lw_p59 : lw_okq (⟨"WrittenMovesModel", "endsOf", "(I)J"⟩, 75) := ⟨⟨by decide +kernel, by decide +kernel⟩, List.mem_of_getElem? (i := 1143) (by decide +kernel), List.mem_of_getElem? (i := 1512) (by decide +kernel), List.mem_of_getElem? (i := 1513) (by decide +kernel)⟩
theorem lw_p60 : lw_okq (⟨"WrittenMovesModel", "look", "(I)V"⟩, 75) := ⟨⟨by decide +kernel, by decide +kernel⟩, List.mem_of_getElem? (i := 1143) (by decide +kernel), List.mem_of_getElem? (i := 1516) (by decide +kernel), List.mem_of_getElem? (i := 1517) (by decide +kernel)⟩
theorem lw_p61 : lw_okq (⟨"WrittenMovesModel", "endsFrom", "(I)J"⟩, 75) := ⟨⟨by decide +kernel, by decide +kernel⟩, List.mem_of_getElem? (i := 1143) (by decide +kernel), List.mem_of_getElem? (i := 1520) (by decide +kernel), List.mem_of_getElem? (i := 1521) (by decide +kernel)⟩
theorem lw_p62 : lw_okq (⟨"WrittenMovesModel", "any", "(I[J[J)V"⟩, 75) := ⟨⟨by decide +kernel, by decide +kernel⟩, List.mem_of_getElem? (i := 1143) (by decide +kernel), List.mem_of_getElem? (i := 1530) (by decide +kernel), List.mem_of_getElem? (i := 1531) (by decide +kernel)⟩
theorem lw_p63 : lw_okq (⟨"WrittenMovesModel", "quote", "([J[J)V"⟩, 75) := ⟨⟨by decide +kernel, by decide +kernel⟩, List.mem_of_getElem? (i := 1143) (by decide +kernel), List.mem_of_getElem? (i := 1534) (by decide +kernel), List.mem_of_getElem? (i := 1535) (by decide +kernel)⟩
def lw_privs_4 : List (MethodName × Nat) := [(⟨"WrittenMovesModel", "boardLine", "(JI)Z"⟩, 75), (⟨"WrittenMovesModel", "later", "(II)V"⟩, 75), (⟨"WrittenMovesModel", "take", "(II)Z"⟩, 75), (⟨"WrittenMovesModel", "takeField", "()Z"⟩, 75), (⟨"WrittenMovesModel", "gameLine", "(JI)Z"⟩, 75), (⟨"WrittenMovesModel", "isWrongBoard", "()Z"⟩, 75), (⟨"WrittenMovesModel", "store", "([III)V"⟩, 75), (⟨"WrittenMovesModel", "hand", "(I)Z"⟩, 75), (⟨"WrittenMovesModel", "manAt", "(I)I"⟩, 75), (⟨"WrittenMovesModel", "lay", "(III)Z"⟩, 75), (⟨"WrittenMovesModel", "layRule", "(I)V"⟩, 75), (⟨"WrittenMovesModel", "endsOf", "(I)J"⟩, 75), (⟨"WrittenMovesModel", "look", "(I)V"⟩, 75), (⟨"WrittenMovesModel", "endsFrom", "(I)J"⟩, 75), (⟨"WrittenMovesModel", "any", "(I[J[J)V"⟩, 75), (⟨"WrittenMovesModel", "quote", "([J[J)V"⟩, 75)]
theorem lw_r4 : ∀ q ∈ lw_privs_4, lw_okq q := List.forall_mem_cons.mpr ⟨lw_p48, List.forall_mem_cons.mpr ⟨lw_p49, List.forall_mem_cons.mpr ⟨lw_p50, List.forall_mem_cons.mpr ⟨lw_p51, List.forall_mem_cons.mpr ⟨lw_p52, List.forall_mem_cons.mpr ⟨lw_p53, List.forall_mem_cons.mpr ⟨lw_p54, List.forall_mem_cons.mpr ⟨lw_p55, List.forall_mem_cons.mpr ⟨lw_p56, List.forall_mem_cons.mpr ⟨lw_p57, List.forall_mem_cons.mpr ⟨lw_p58, List.forall_mem_cons.mpr ⟨lw_p59, List.forall_mem_cons.mpr ⟨lw_p60, List.forall_mem_cons.mpr ⟨lw_p61, List.forall_mem_cons.mpr ⟨lw_p62, List.forall_mem_cons.mpr ⟨lw_p63, fun _ h => absurd h List.not_mem_nil⟩⟩⟩⟩⟩⟩⟩⟩⟩⟩⟩⟩⟩⟩⟩⟩
theorem lw_p64 : lw_okq (⟨"WrittenMovesModel", "maybe", "(I[J[J)V"⟩, 75) := ⟨⟨by decide +kernel, by decide +kernel⟩, List.mem_of_getElem? (i := 1143) (by decide +kernel), List.mem_of_getElem? (i := 1541) (by decide +kernel), List.mem_of_getElem? (i := 1542) (by decide +kernel)⟩
theorem lw_p65 : lw_okq (⟨"WrittenMovesModel", "plain", "(I[J[J)V"⟩, 75) := ⟨⟨by decide +kernel, by decide +kernel⟩, List.mem_of_getElem? (i := 1143) (by decide +kernel), List.mem_of_getElem? (i := 1545) (by decide +kernel), List.mem_of_getElem? (i := 1546) (by decide +kernel)⟩
theorem lw_p66 : lw_okq (⟨"WrittenMovesModel", "plainAt", "(III[J)V"⟩, 75) := ⟨⟨by decide +kernel, by decide +kernel⟩, List.mem_of_getElem? (i := 1143) (by decide +kernel), List.mem_of_getElem? (i := 1549) (by decide +kernel), List.mem_of_getElem? (i := 1550) (by decide +kernel)⟩
theorem lw_p67 : lw_okq (⟨"WrittenMovesModel", "stepsTo", "(II[J)V"⟩, 75) := ⟨⟨by decide +kernel, by decide +kernel⟩, List.mem_of_getElem? (i := 1143) (by decide +kernel), List.mem_of_getElem? (i := 1553) (by decide +kernel), List.mem_of_getElem? (i := 1554) (by decide +kernel)⟩
theorem lw_p68 : lw_okq (⟨"WrittenMovesModel", "step", "(II)I"⟩, 75) := ⟨⟨by decide +kernel, by decide +kernel⟩, List.mem_of_getElem? (i := 1143) (by decide +kernel), List.mem_of_getElem? (i := 1557) (by decide +kernel), List.mem_of_getElem? (i := 1558) (by decide +kernel)⟩
theorem lw_p69 : lw_okq (⟨"WrittenMovesModel", "next", "(II)I"⟩, 75) := ⟨⟨by decide +kernel, by decide +kernel⟩, List.mem_of_getElem? (i := 1143) (by decide +kernel), List.mem_of_getElem? (i := 1561) (by decide +kernel), List.mem_of_getElem? (i := 1562) (by decide +kernel)⟩
theorem lw_p70 : lw_okq (⟨"WrittenMovesModel", "endsThere", "(I)Z"⟩, 75) := ⟨⟨by decide +kernel, by decide +kernel⟩, List.mem_of_getElem? (i := 1143) (by decide +kernel), List.mem_of_getElem? (i := 1565) (by decide +kernel), List.mem_of_getElem? (i := 1566) (by decide +kernel)⟩
theorem lw_p71 : lw_okq (⟨"WrittenMovesModel", "goesOn", "(II[J)V"⟩, 75) := ⟨⟨by decide +kernel, by decide +kernel⟩, List.mem_of_getElem? (i := 1143) (by decide +kernel), List.mem_of_getElem? (i := 1569) (by decide +kernel), List.mem_of_getElem? (i := 1570) (by decide +kernel)⟩
theorem lw_p72 : lw_okq (⟨"WrittenMovesModel", "isBeside", "(I)Z"⟩, 75) := ⟨⟨by decide +kernel, by decide +kernel⟩, List.mem_of_getElem? (i := 1143) (by decide +kernel), List.mem_of_getElem? (i := 1573) (by decide +kernel), List.mem_of_getElem? (i := 1574) (by decide +kernel)⟩
theorem lw_p73 : lw_okq (⟨"WrittenMovesModel", "maybeQuote", "([J[J)V"⟩, 75) := ⟨⟨by decide +kernel, by decide +kernel⟩, List.mem_of_getElem? (i := 1143) (by decide +kernel), List.mem_of_getElem? (i := 1583) (by decide +kernel), List.mem_of_getElem? (i := 1584) (by decide +kernel)⟩
theorem lw_p74 : lw_okq (⟨"WrittenMovesModel", "findPaths", "(I)V"⟩, 75) := ⟨⟨by decide +kernel, by decide +kernel⟩, List.mem_of_getElem? (i := 1143) (by decide +kernel), List.mem_of_getElem? (i := 1592) (by decide +kernel), List.mem_of_getElem? (i := 1593) (by decide +kernel)⟩
theorem lw_p75 : lw_okq (⟨"WrittenMovesModel", "pathsBy", "(IZ)V"⟩, 75) := ⟨⟨by decide +kernel, by decide +kernel⟩, List.mem_of_getElem? (i := 1143) (by decide +kernel), List.mem_of_getElem? (i := 1596) (by decide +kernel), List.mem_of_getElem? (i := 1597) (by decide +kernel)⟩
theorem lw_p76 : lw_okq (⟨"WrittenMovesModel", "pathBy", "(II)Z"⟩, 75) := ⟨⟨by decide +kernel, by decide +kernel⟩, List.mem_of_getElem? (i := 1143) (by decide +kernel), List.mem_of_getElem? (i := 1600) (by decide +kernel), List.mem_of_getElem? (i := 1601) (by decide +kernel)⟩
theorem lw_p77 : lw_okq (⟨"WrittenMovesModel", "goesTo", "(IIIIJ)Z"⟩, 75) := ⟨⟨by decide +kernel, by decide +kernel⟩, List.mem_of_getElem? (i := 1143) (by decide +kernel), List.mem_of_getElem? (i := 1605) (by decide +kernel), List.mem_of_getElem? (i := 1606) (by decide +kernel)⟩
theorem lw_p78 : lw_okq (⟨"WrittenMovesModel", "endsAt", "(IIIJ)V"⟩, 75) := ⟨⟨by decide +kernel, by decide +kernel⟩, List.mem_of_getElem? (i := 1143) (by decide +kernel), List.mem_of_getElem? (i := 1609) (by decide +kernel), List.mem_of_getElem? (i := 1610) (by decide +kernel)⟩
theorem lw_p79 : lw_okq (⟨"WrittenMovesModel", "comesTo", "(IIIIJ)V"⟩, 75) := ⟨⟨by decide +kernel, by decide +kernel⟩, List.mem_of_getElem? (i := 1143) (by decide +kernel), List.mem_of_getElem? (i := 1616) (by decide +kernel), List.mem_of_getElem? (i := 1617) (by decide +kernel)⟩
def lw_privs_5 : List (MethodName × Nat) := [(⟨"WrittenMovesModel", "maybe", "(I[J[J)V"⟩, 75), (⟨"WrittenMovesModel", "plain", "(I[J[J)V"⟩, 75), (⟨"WrittenMovesModel", "plainAt", "(III[J)V"⟩, 75), (⟨"WrittenMovesModel", "stepsTo", "(II[J)V"⟩, 75), (⟨"WrittenMovesModel", "step", "(II)I"⟩, 75), (⟨"WrittenMovesModel", "next", "(II)I"⟩, 75), (⟨"WrittenMovesModel", "endsThere", "(I)Z"⟩, 75), (⟨"WrittenMovesModel", "goesOn", "(II[J)V"⟩, 75), (⟨"WrittenMovesModel", "isBeside", "(I)Z"⟩, 75), (⟨"WrittenMovesModel", "maybeQuote", "([J[J)V"⟩, 75), (⟨"WrittenMovesModel", "findPaths", "(I)V"⟩, 75), (⟨"WrittenMovesModel", "pathsBy", "(IZ)V"⟩, 75), (⟨"WrittenMovesModel", "pathBy", "(II)Z"⟩, 75), (⟨"WrittenMovesModel", "goesTo", "(IIIIJ)Z"⟩, 75), (⟨"WrittenMovesModel", "endsAt", "(IIIJ)V"⟩, 75), (⟨"WrittenMovesModel", "comesTo", "(IIIIJ)V"⟩, 75)]
theorem lw_r5 : ∀ q ∈ lw_privs_5, lw_okq q := List.forall_mem_cons.mpr ⟨lw_p64, List.forall_mem_cons.mpr ⟨lw_p65, List.forall_mem_cons.mpr ⟨lw_p66, List.forall_mem_cons.mpr ⟨lw_p67, List.forall_mem_cons.mpr ⟨lw_p68, List.forall_mem_cons.mpr ⟨lw_p69, List.forall_mem_cons.mpr ⟨lw_p70, List.forall_mem_cons.mpr ⟨lw_p71, List.forall_mem_cons.mpr ⟨lw_p72, List.forall_mem_cons.mpr ⟨lw_p73, List.forall_mem_cons.mpr ⟨lw_p74, List.forall_mem_cons.mpr ⟨lw_p75, List.forall_mem_cons.mpr ⟨lw_p76, List.forall_mem_cons.mpr ⟨lw_p77, List.forall_mem_cons.mpr ⟨lw_p78, List.forall_mem_cons.mpr ⟨lw_p79, fun _ h => absurd h List.not_mem_nil⟩⟩⟩⟩⟩⟩⟩⟩⟩⟩⟩⟩⟩⟩⟩⟩
theorem lw_p80 : lw_okq (⟨"WrittenMovesModel", "pathOn", "(IIIIJ)Z"⟩, 75) := ⟨⟨by decide +kernel, by decide +kernel⟩, List.mem_of_getElem? (i := 1143) (by decide +kernel), List.mem_of_getElem? (i := 1620) (by decide +kernel), List.mem_of_getElem? (i := 1621) (by decide +kernel)⟩
theorem lw_p81 : lw_okq (⟨"WrittenMovesModel", "moves", "()I"⟩, 75) := ⟨⟨by decide +kernel, by decide +kernel⟩, List.mem_of_getElem? (i := 1143) (by decide +kernel), List.mem_of_getElem? (i := 1633) (by decide +kernel), List.mem_of_getElem? (i := 1634) (by decide +kernel)⟩
theorem lw_p82 : lw_okq (⟨"WrittenMovesModel", "moveOf", "(II)I"⟩, 75) := ⟨⟨by decide +kernel, by decide +kernel⟩, List.mem_of_getElem? (i := 1143) (by decide +kernel), List.mem_of_getElem? (i := 1637) (by decide +kernel), List.mem_of_getElem? (i := 1638) (by decide +kernel)⟩
theorem lw_p83 : lw_okq (⟨"WrittenMovesModel", "play", "(I)I"⟩, 75) := ⟨⟨by decide +kernel, by decide +kernel⟩, List.mem_of_getElem? (i := 1143) (by decide +kernel), List.mem_of_getElem? (i := 1645) (by decide +kernel), List.mem_of_getElem? (i := 1646) (by decide +kernel)⟩
theorem lw_p84 : lw_okq (⟨"WrittenMovesModel", "canMove", "(I)Z"⟩, 75) := ⟨⟨by decide +kernel, by decide +kernel⟩, List.mem_of_getElem? (i := 1143) (by decide +kernel), List.mem_of_getElem? (i := 1649) (by decide +kernel), List.mem_of_getElem? (i := 1650) (by decide +kernel)⟩
theorem lw_p85 : lw_okq (⟨"WrittenMovesModel", "isOver", "()Z"⟩, 75) := ⟨⟨by decide +kernel, by decide +kernel⟩, List.mem_of_getElem? (i := 1143) (by decide +kernel), List.mem_of_getElem? (i := 1653) (by decide +kernel), List.mem_of_getElem? (i := 1654) (by decide +kernel)⟩
theorem lw_p86 : lw_okq (⟨"WrittenMovesModel", "menOf", "(I)I"⟩, 75) := ⟨⟨by decide +kernel, by decide +kernel⟩, List.mem_of_getElem? (i := 1143) (by decide +kernel), List.mem_of_getElem? (i := 1657) (by decide +kernel), List.mem_of_getElem? (i := 1658) (by decide +kernel)⟩
theorem lw_p87 : lw_okq (⟨"WrittenMovesModel", "layMove", "(I)V"⟩, 75) := ⟨⟨by decide +kernel, by decide +kernel⟩, List.mem_of_getElem? (i := 1143) (by decide +kernel), List.mem_of_getElem? (i := 1661) (by decide +kernel), List.mem_of_getElem? (i := 1662) (by decide +kernel)⟩
theorem lw_p88 : lw_okq (⟨"WrittenMovesModel", "layQuote", "(I)V"⟩, 75) := ⟨⟨by decide +kernel, by decide +kernel⟩, List.mem_of_getElem? (i := 1143) (by decide +kernel), List.mem_of_getElem? (i := 1665) (by decide +kernel), List.mem_of_getElem? (i := 1666) (by decide +kernel)⟩
theorem lw_p89 : lw_okq (⟨"WrittenMovesModel", "nextMan", "(I)I"⟩, 75) := ⟨⟨by decide +kernel, by decide +kernel⟩, List.mem_of_getElem? (i := 1143) (by decide +kernel), List.mem_of_getElem? (i := 1669) (by decide +kernel), List.mem_of_getElem? (i := 1670) (by decide +kernel)⟩
theorem lw_p90 : lw_okq (⟨"WrittenMovesModel", "obeys", "(I)V"⟩, 75) := ⟨⟨by decide +kernel, by decide +kernel⟩, List.mem_of_getElem? (i := 1143) (by decide +kernel), List.mem_of_getElem? (i := 1673) (by decide +kernel), List.mem_of_getElem? (i := 1674) (by decide +kernel)⟩
theorem lw_p91 : lw_okq (⟨"WrittenMovesModel", "goes", "(II)V"⟩, 75) := ⟨⟨by decide +kernel, by decide +kernel⟩, List.mem_of_getElem? (i := 1143) (by decide +kernel), List.mem_of_getElem? (i := 1677) (by decide +kernel), List.mem_of_getElem? (i := 1678) (by decide +kernel)⟩
theorem lw_p92 : lw_okq (⟨"WrittenMovesModel", "layGame", "(III)Z"⟩, 75) := ⟨⟨by decide +kernel, by decide +kernel⟩, List.mem_of_getElem? (i := 1143) (by decide +kernel), List.mem_of_getElem? (i := 1685) (by decide +kernel), List.mem_of_getElem? (i := 1686) (by decide +kernel)⟩
theorem lw_p93 : lw_okq (⟨"WrittenMovesModel", "tells", "(I)I"⟩, 75) := ⟨⟨by decide +kernel, by decide +kernel⟩, List.mem_of_getElem? (i := 1143) (by decide +kernel), List.mem_of_getElem? (i := 1689) (by decide +kernel), List.mem_of_getElem? (i := 1690) (by decide +kernel)⟩
theorem lw_p94 : lw_okq (⟨"WrittenMovesModel", "isMove", "(III)Z"⟩, 75) := ⟨⟨by decide +kernel, by decide +kernel⟩, List.mem_of_getElem? (i := 1143) (by decide +kernel), List.mem_of_getElem? (i := 1701) (by decide +kernel), List.mem_of_getElem? (i := 1702) (by decide +kernel)⟩
theorem lw_p95 : lw_okq (⟨"WrittenMovesModel", "goodOf", "(J)J"⟩, 75) := ⟨⟨by decide +kernel, by decide +kernel⟩, List.mem_of_getElem? (i := 1143) (by decide +kernel), List.mem_of_getElem? (i := 1709) (by decide +kernel), List.mem_of_getElem? (i := 1710) (by decide +kernel)⟩
def lw_privs_6 : List (MethodName × Nat) := [(⟨"WrittenMovesModel", "pathOn", "(IIIIJ)Z"⟩, 75), (⟨"WrittenMovesModel", "moves", "()I"⟩, 75), (⟨"WrittenMovesModel", "moveOf", "(II)I"⟩, 75), (⟨"WrittenMovesModel", "play", "(I)I"⟩, 75), (⟨"WrittenMovesModel", "canMove", "(I)Z"⟩, 75), (⟨"WrittenMovesModel", "isOver", "()Z"⟩, 75), (⟨"WrittenMovesModel", "menOf", "(I)I"⟩, 75), (⟨"WrittenMovesModel", "layMove", "(I)V"⟩, 75), (⟨"WrittenMovesModel", "layQuote", "(I)V"⟩, 75), (⟨"WrittenMovesModel", "nextMan", "(I)I"⟩, 75), (⟨"WrittenMovesModel", "obeys", "(I)V"⟩, 75), (⟨"WrittenMovesModel", "goes", "(II)V"⟩, 75), (⟨"WrittenMovesModel", "layGame", "(III)Z"⟩, 75), (⟨"WrittenMovesModel", "tells", "(I)I"⟩, 75), (⟨"WrittenMovesModel", "isMove", "(III)Z"⟩, 75), (⟨"WrittenMovesModel", "goodOf", "(J)J"⟩, 75)]
theorem lw_r6 : ∀ q ∈ lw_privs_6, lw_okq q := List.forall_mem_cons.mpr ⟨lw_p80, List.forall_mem_cons.mpr ⟨lw_p81, List.forall_mem_cons.mpr ⟨lw_p82, List.forall_mem_cons.mpr ⟨lw_p83, List.forall_mem_cons.mpr ⟨lw_p84, List.forall_mem_cons.mpr ⟨lw_p85, List.forall_mem_cons.mpr ⟨lw_p86, List.forall_mem_cons.mpr ⟨lw_p87, List.forall_mem_cons.mpr ⟨lw_p88, List.forall_mem_cons.mpr ⟨lw_p89, List.forall_mem_cons.mpr ⟨lw_p90, List.forall_mem_cons.mpr ⟨lw_p91, List.forall_mem_cons.mpr ⟨lw_p92, List.forall_mem_cons.mpr ⟨lw_p93, List.forall_mem_cons.mpr ⟨lw_p94, List.forall_mem_cons.mpr ⟨lw_p95, fun _ h => absurd h List.not_mem_nil⟩⟩⟩⟩⟩⟩⟩⟩⟩⟩⟩⟩⟩⟩⟩⟩
theorem lw_p96 : lw_okq (⟨"WrittenMovesModel", "isMan", "(II)Z"⟩, 75) := ⟨⟨by decide +kernel, by decide +kernel⟩, List.mem_of_getElem? (i := 1143) (by decide +kernel), List.mem_of_getElem? (i := 1721) (by decide +kernel), List.mem_of_getElem? (i := 1722) (by decide +kernel)⟩
theorem lw_p97 : lw_okq (⟨"WrittenMovesModel", "findRule", "(IIJ)Z"⟩, 75) := ⟨⟨by decide +kernel, by decide +kernel⟩, List.mem_of_getElem? (i := 1143) (by decide +kernel), List.mem_of_getElem? (i := 1725) (by decide +kernel), List.mem_of_getElem? (i := 1726) (by decide +kernel)⟩
theorem lw_p98 : lw_okq (⟨"WrittenMovesModel", "layNumber", "(II)V"⟩, 75) := ⟨⟨by decide +kernel, by decide +kernel⟩, List.mem_of_getElem? (i := 1143) (by decide +kernel), List.mem_of_getElem? (i := 1732) (by decide +kernel), List.mem_of_getElem? (i := 1733) (by decide +kernel)⟩
theorem lw_p99 : lw_okq (⟨"WrittenMovesModel", "ruleAt", "(I)I"⟩, 75) := ⟨⟨by decide +kernel, by decide +kernel⟩, List.mem_of_getElem? (i := 1143) (by decide +kernel), List.mem_of_getElem? (i := 1736) (by decide +kernel), List.mem_of_getElem? (i := 1737) (by decide +kernel)⟩
theorem lw_p100 : lw_okq (⟨"WrittenMovesModel", "endsAlone", "(II)J"⟩, 75) := ⟨⟨by decide +kernel, by decide +kernel⟩, List.mem_of_getElem? (i := 1143) (by decide +kernel), List.mem_of_getElem? (i := 1752) (by decide +kernel), List.mem_of_getElem? (i := 1753) (by decide +kernel)⟩
theorem lw_p101 : lw_okq (⟨"WrittenMovesModel", "isNew", "(J)Z"⟩, 75) := ⟨⟨by decide +kernel, by decide +kernel⟩, List.mem_of_getElem? (i := 1143) (by decide +kernel), List.mem_of_getElem? (i := 1760) (by decide +kernel), List.mem_of_getElem? (i := 1761) (by decide +kernel)⟩
theorem lw_p102 : lw_okq (⟨"WrittenMovesModel", "canAsk", "(III)Z"⟩, 75) := ⟨⟨by decide +kernel, by decide +kernel⟩, List.mem_of_getElem? (i := 1143) (by decide +kernel), List.mem_of_getElem? (i := 1769) (by decide +kernel), List.mem_of_getElem? (i := 1770) (by decide +kernel)⟩
theorem lw_p103 : lw_okq (⟨"WrittenMovesModel", "findWin", "(III)Z"⟩, 75) := ⟨⟨by decide +kernel, by decide +kernel⟩, List.mem_of_getElem? (i := 1143) (by decide +kernel), List.mem_of_getElem? (i := 1773) (by decide +kernel), List.mem_of_getElem? (i := 1774) (by decide +kernel)⟩
theorem lw_p104 : lw_okq (⟨"WrittenMovesModel", "keepMen", "(I)V"⟩, 75) := ⟨⟨by decide +kernel, by decide +kernel⟩, List.mem_of_getElem? (i := 1143) (by decide +kernel), List.mem_of_getElem? (i := 1777) (by decide +kernel), List.mem_of_getElem? (i := 1778) (by decide +kernel)⟩
theorem lw_p105 : lw_okq (⟨"WrittenMovesModel", "backTo", "(I)V"⟩, 75) := ⟨⟨by decide +kernel, by decide +kernel⟩, List.mem_of_getElem? (i := 1143) (by decide +kernel), List.mem_of_getElem? (i := 1781) (by decide +kernel), List.mem_of_getElem? (i := 1782) (by decide +kernel)⟩
theorem lw_p106 : lw_okq (⟨"WrittenMovesModel", "winsBy", "(JI)Z"⟩, 75) := ⟨⟨by decide +kernel, by decide +kernel⟩, List.mem_of_getElem? (i := 1143) (by decide +kernel), List.mem_of_getElem? (i := 1785) (by decide +kernel), List.mem_of_getElem? (i := 1786) (by decide +kernel)⟩
theorem lw_p107 : lw_okq (⟨"WrittenMovesModel", "obeyed", "(II)I"⟩, 75) := ⟨⟨by decide +kernel, by decide +kernel⟩, List.mem_of_getElem? (i := 1143) (by decide +kernel), List.mem_of_getElem? (i := 1789) (by decide +kernel), List.mem_of_getElem? (i := 1790) (by decide +kernel)⟩
theorem lw_p108 : lw_okq (⟨"WrittenMovesModel", "other", "(IZ)Z"⟩, 75) := ⟨⟨by decide +kernel, by decide +kernel⟩, List.mem_of_getElem? (i := 1143) (by decide +kernel), List.mem_of_getElem? (i := 1793) (by decide +kernel), List.mem_of_getElem? (i := 1794) (by decide +kernel)⟩
theorem lw_p109 : lw_okq (⟨"WrittenMovesModel", "findChoices", "(I)V"⟩, 75) := ⟨⟨by decide +kernel, by decide +kernel⟩, List.mem_of_getElem? (i := 1143) (by decide +kernel), List.mem_of_getElem? (i := 1797) (by decide +kernel), List.mem_of_getElem? (i := 1798) (by decide +kernel)⟩
theorem lw_p110 : lw_okq (⟨"WrittenMovesModel", "standsAgainst", "(IJZ)Z"⟩, 75) := ⟨⟨by decide +kernel, by decide +kernel⟩, List.mem_of_getElem? (i := 1143) (by decide +kernel), List.mem_of_getElem? (i := 1801) (by decide +kernel), List.mem_of_getElem? (i := 1802) (by decide +kernel)⟩
theorem lw_p111 : lw_okq (⟨"WrittenMovesModel", "side1", "(I)Z"⟩, 75) := ⟨⟨by decide +kernel, by decide +kernel⟩, List.mem_of_getElem? (i := 1143) (by decide +kernel), List.mem_of_getElem? (i := 1805) (by decide +kernel), List.mem_of_getElem? (i := 1806) (by decide +kernel)⟩
def lw_privs_7 : List (MethodName × Nat) := [(⟨"WrittenMovesModel", "isMan", "(II)Z"⟩, 75), (⟨"WrittenMovesModel", "findRule", "(IIJ)Z"⟩, 75), (⟨"WrittenMovesModel", "layNumber", "(II)V"⟩, 75), (⟨"WrittenMovesModel", "ruleAt", "(I)I"⟩, 75), (⟨"WrittenMovesModel", "endsAlone", "(II)J"⟩, 75), (⟨"WrittenMovesModel", "isNew", "(J)Z"⟩, 75), (⟨"WrittenMovesModel", "canAsk", "(III)Z"⟩, 75), (⟨"WrittenMovesModel", "findWin", "(III)Z"⟩, 75), (⟨"WrittenMovesModel", "keepMen", "(I)V"⟩, 75), (⟨"WrittenMovesModel", "backTo", "(I)V"⟩, 75), (⟨"WrittenMovesModel", "winsBy", "(JI)Z"⟩, 75), (⟨"WrittenMovesModel", "obeyed", "(II)I"⟩, 75), (⟨"WrittenMovesModel", "other", "(IZ)Z"⟩, 75), (⟨"WrittenMovesModel", "findChoices", "(I)V"⟩, 75), (⟨"WrittenMovesModel", "standsAgainst", "(IJZ)Z"⟩, 75), (⟨"WrittenMovesModel", "side1", "(I)Z"⟩, 75)]
theorem lw_r7 : ∀ q ∈ lw_privs_7, lw_okq q := List.forall_mem_cons.mpr ⟨lw_p96, List.forall_mem_cons.mpr ⟨lw_p97, List.forall_mem_cons.mpr ⟨lw_p98, List.forall_mem_cons.mpr ⟨lw_p99, List.forall_mem_cons.mpr ⟨lw_p100, List.forall_mem_cons.mpr ⟨lw_p101, List.forall_mem_cons.mpr ⟨lw_p102, List.forall_mem_cons.mpr ⟨lw_p103, List.forall_mem_cons.mpr ⟨lw_p104, List.forall_mem_cons.mpr ⟨lw_p105, List.forall_mem_cons.mpr ⟨lw_p106, List.forall_mem_cons.mpr ⟨lw_p107, List.forall_mem_cons.mpr ⟨lw_p108, List.forall_mem_cons.mpr ⟨lw_p109, List.forall_mem_cons.mpr ⟨lw_p110, List.forall_mem_cons.mpr ⟨lw_p111, fun _ h => absurd h List.not_mem_nil⟩⟩⟩⟩⟩⟩⟩⟩⟩⟩⟩⟩⟩⟩⟩⟩
theorem lw_p112 : lw_okq (⟨"WrittenMovesModel", "winsAtOnce", "(IJ)Z"⟩, 75) := ⟨⟨by decide +kernel, by decide +kernel⟩, List.mem_of_getElem? (i := 1143) (by decide +kernel), List.mem_of_getElem? (i := 1809) (by decide +kernel), List.mem_of_getElem? (i := 1810) (by decide +kernel)⟩
theorem lw_p113 : lw_okq (⟨"WrittenMovesModel", "draw", "(I)I"⟩, 75) := ⟨⟨by decide +kernel, by decide +kernel⟩, List.mem_of_getElem? (i := 1143) (by decide +kernel), List.mem_of_getElem? (i := 1821) (by decide +kernel), List.mem_of_getElem? (i := 1822) (by decide +kernel)⟩
theorem lw_p114 : lw_okq (⟨"WrittenMovesModel", "copyAll", "(II)V"⟩, 75) := ⟨⟨by decide +kernel, by decide +kernel⟩, List.mem_of_getElem? (i := 1143) (by decide +kernel), List.mem_of_getElem? (i := 1837) (by decide +kernel), List.mem_of_getElem? (i := 1838) (by decide +kernel)⟩
def lw_privs_8 : List (MethodName × Nat) := [(⟨"WrittenMovesModel", "winsAtOnce", "(IJ)Z"⟩, 75), (⟨"WrittenMovesModel", "draw", "(I)I"⟩, 75), (⟨"WrittenMovesModel", "copyAll", "(II)V"⟩, 75)]
theorem lw_r8 : ∀ q ∈ lw_privs_8, lw_okq q := List.forall_mem_cons.mpr ⟨lw_p112, List.forall_mem_cons.mpr ⟨lw_p113, List.forall_mem_cons.mpr ⟨lw_p114, fun _ h => absurd h List.not_mem_nil⟩⟩⟩
def lw_privs : List (MethodName × Nat) := lw_privs_1 ++ (lw_privs_2 ++ (lw_privs_3 ++ (lw_privs_4 ++ (lw_privs_5 ++ (lw_privs_6 ++ (lw_privs_7 ++ (lw_privs_8)))))))
def lw_tbl : List Cond := k2_sels lw_privs ++ tables_1
theorem lw_privs_ok : ∀ q ∈ lw_privs, lw_okq q := by
  show ∀ q ∈ lw_privs_1 ++ (lw_privs_2 ++ (lw_privs_3 ++ (lw_privs_4 ++ (lw_privs_5 ++ (lw_privs_6 ++ (lw_privs_7 ++ (lw_privs_8))))))), lw_okq q
  exact List.forall_mem_append.mpr ⟨lw_r1, List.forall_mem_append.mpr ⟨lw_r2, List.forall_mem_append.mpr ⟨lw_r3, List.forall_mem_append.mpr ⟨lw_r4, List.forall_mem_append.mpr ⟨lw_r5, List.forall_mem_append.mpr ⟨lw_r6, List.forall_mem_append.mpr ⟨lw_r7, lw_r8⟩⟩⟩⟩⟩⟩⟩
-- ===== end of PART A
end
section
/-! ===== ENGINE 1: whole numbers behind the machine's ints ===== -/
def iI (z : Int) : Int32 := Int32.ofInt z
def inR (z : Int) : Prop := -2147483648 ≤ z ∧ z ≤ 2147483647
theorem iI_toInt {z : Int} (h : inR z) : (iI z).toInt = z := Int32.toInt_ofInt_of_le (by have := h.1; omega) (by have := h.2; omega)
theorem iI_of (x : Int32) : iI x.toInt = x := Int32.ofInt_toInt x
theorem inR_toInt (x : Int32) : inR x.toInt := ⟨by have := Int32.le_toInt x; omega, by have := Int32.toInt_lt x; omega⟩
theorem iI_add (a b : Int) : iI a + iI b = iI (a + b) := (Int32.ofInt_add a b).symm
theorem iI_sub (a b : Int) : iI a - iI b = iI (a - b) := (Int32.ofInt_sub a b).symm
theorem iI_mul (a b : Int) : iI a * iI b = iI (a * b) := (Int32.ofInt_mul a b).symm
theorem iI_neg (a : Int) : - iI a = iI (-a) := (Int32.ofInt_neg a).symm
theorem iI_lt {a b : Int} (ha : inR a) (hb : inR b) : iI a < iI b ↔ a < b := by rw [Int32.lt_iff_toInt_lt, iI_toInt ha, iI_toInt hb]
theorem iI_le {a b : Int} (ha : inR a) (hb : inR b) : iI a ≤ iI b ↔ a ≤ b := by rw [Int32.le_iff_toInt_le, iI_toInt ha, iI_toInt hb]
theorem iI_eq {a b : Int} (ha : inR a) (hb : inR b) : iI a = iI b ↔ a = b := ⟨fun h => by have h1 := congrArg Int32.toInt h; rwa [iI_toInt ha, iI_toInt hb] at h1, fun h => h ▸ rfl⟩
theorem iI_zero : iI 0 = 0 := rfl
theorem inR_0 : inR 0 := ⟨by decide, by decide⟩
theorem iI_nat {z : Int} (h : inR z) : (iI z).toNatClampNeg = z.toNat := by
  show (iI z).toInt.toNat = z.toNat
  rw [iI_toInt h]
theorem iI_in {z : Int} {n : Nat} (h0 : 0 ≤ z) (h1 : z < n) (hn : n ≤ 2147483647) : vp_in (iI z) n := by
  have hr : inR z := ⟨by omega, by omega⟩
  exact vp_in_iff.mpr ⟨by rw [iI_toInt hr]; exact h0, by rw [iI_toInt hr]; exact h1⟩
theorem iI_div {a b : Int} (ha : 0 ≤ a) (hb : 0 < b) (ra : inR a) (rb : inR b) : iI a / iI b = iI (a / b) := by
  apply Int32.toInt_inj.mp
  have h1 : iI b ≠ -1 := by
    intro h
    have := congrArg Int32.toInt h
    rw [iI_toInt rb] at this
    have h2 : (-1 : Int32).toInt = -1 := by decide
    omega
  have hd0 : 0 ≤ a / b := Int.ediv_nonneg ha (by omega)
  have hd1 : a / b ≤ a := Int.ediv_le_self b ha
  rw [Int32.toInt_div_of_ne_right _ _ h1, iI_toInt ra, iI_toInt rb, iI_toInt ⟨by have := ra.1; omega, by have := ra.2; omega⟩, Int.tdiv_eq_ediv_of_nonneg ha]
theorem iI_ne0 {b : Int} (hb : ¬ b = 0) (rb : inR b) : ¬ iI b = 0 := fun h => hb ((iI_eq rb inR_0).mp h)
theorem iI_rem {a b : Int} (ha : 0 ≤ a) (hb : 0 < b) (ra : inR a) (rb : inR b) : iI a - iI a / iI b * iI b = iI (a % b) := by
  rw [iI_div ha hb ra rb, iI_mul, iI_sub]
  congr 1
  have := Int.emod_add_mul_ediv a b
  rw [Int.mul_comm] at this
  omega
/-! ===== ENGINE 2: a world of fixed shape, its contents by cell and place ===== -/
abbrev XT : Type := (Nat → Nat → Int) × (Nat → Nat → Int64) × (Nat → Nat → Option Nat)
/-- class numbers and slots; classes; how many cells; their shapes (kind, class, length); kinds of fields; addresses; array classes, element types -/
abbrev WT : Type := va_G × List vw_C × Nat × (Nat → Nat × Nat × Nat) × (Nat → Nat → Nat) × (Nat → Nat) × (Nat → ClassId) × (Nat → FieldType)
abbrev wD (w : WT) : va_G := w.1
abbrev wC (w : WT) : List vw_C := w.2.1
abbrev wN (w : WT) : Nat := w.2.2.1
abbrev wS (w : WT) : Nat → Nat × Nat × Nat := w.2.2.2.1
abbrev wF (w : WT) : Nat → Nat → Nat := w.2.2.2.2.1
abbrev wA (w : WT) : Nat → Nat := w.2.2.2.2.2.1
abbrev wY (w : WT) : Nat → ClassId := w.2.2.2.2.2.2.1
abbrev wT (w : WT) : Nat → FieldType := w.2.2.2.2.2.2.2
/-- a value with cells by their numbers, as the machine has it -/
def czV (w : WT) (v : Value) : Value := match v with
  | .ref k => .ref (wA w k)
  | v => v
theorem czV_cat (w : WT) (v : Value) : (czV w v).category = v.category := by cases v <;> rfl
theorem czV_rf (w : WT) (r : Option Nat) : czV w (va_rf r) = va_rf (r.map (wA w)) := by cases r <;> rfl
def fvX (w : WT) (X : XT) (k i : Nat) : Value := match wF w (wS w k).2.1 i with
  | 0 => .int (iI (X.1 k i))
  | 1 => .long (X.2.1 k i)
  | _ => va_rf ((X.2.2 k i).map (wA w))
def ceX (w : WT) (X : XT) (k : Nat) : va_E := match (wS w k).1 with
  | 0 => .inr ((wS w k).2.1, (List.range (wS w k).2.2).map (fvX w X k))
  | 1 => .inl (wY w k, (wS w k).2.2, .inl (fun i => iI (X.1 k i)))
  | 2 => .inl (wY w k, (wS w k).2.2, .inr (.inl (fun i => X.2.1 k i)))
  | _ => .inl (wY w k, (wS w k).2.2, .inr (.inr (.inr (.inr (fun i => (X.2.2 k i).map (wA w))))))
def wsX (w : WT) (X : XT) : va_W := (List.range (wN w)).map (fun k => (wA w k, ceX w X k))
theorem wsX_at {w : WT} {X : XT} {k : Nat} (hk : k < wN w) : (wsX w X)[k]? = some (wA w k, ceX w X k) := by
  unfold wsX
  rw [List.getElem?_map, List.getElem?_range hk]
  rfl
theorem wsX_len {w : WT} {X : XT} : (wsX w X).length = wN w := by simp [wsX]
theorem wsX_inv {w : WT} {X : XT} {k : Nat} {q : Nat × va_E} (h : (wsX w X)[k]? = some q) : k < wN w ∧ q = (wA w k, ceX w X k) := by
  have hk : k < wN w := by rw [← wsX_len (w := w) (X := X)]; exact (List.getElem?_eq_some_iff.mp h).1
  rw [wsX_at hk] at h
  exact ⟨hk, (Option.some.inj h).symm⟩
theorem wsX_set {w : WT} {X X' : XT} {k : Nat} (hk : k < wN w) (ho : ∀ j, j ≠ k → ceX w X' j = ceX w X j) : (wsX w X).set k (wA w k, ceX w X' k) = wsX w X' := by
  apply List.ext_getElem?
  intro j
  by_cases hj : j = k
  · subst hj
    rw [List.getElem?_set_self (by rw [wsX_len]; exact hk), wsX_at hk]
  · rw [List.getElem?_set_ne (Ne.symm hj)]
    by_cases hl : j < wN w
    · rw [wsX_at hl, wsX_at hl, ho j hj]
    · rw [List.getElem?_eq_none (by rw [wsX_len]; omega), List.getElem?_eq_none (by rw [wsX_len]; omega)]
def upI (X : XT) (k i : Nat) (z : Int) : XT := (fun a b => cond (Nat.beq a k && Nat.beq b i) z (X.1 a b), X.2)
def upL (X : XT) (k i : Nat) (z : Int64) : XT := (X.1, fun a b => cond (Nat.beq a k && Nat.beq b i) z (X.2.1 a b), X.2.2)
def upR (X : XT) (k i : Nat) (z : Option Nat) : XT := (X.1, X.2.1, fun a b => cond (Nat.beq a k && Nat.beq b i) z (X.2.2 a b))
theorem beq_ne {a b : Nat} (h : a ≠ b) : Nat.beq a b = false := by
  cases hb : Nat.beq a b with
  | false => rfl
  | true => exact absurd (Nat.eq_of_beq_eq_true hb) h
theorem beq_self (a : Nat) : Nat.beq a a = true := Nat.beq_refl a
theorem upI_o {w : WT} {X : XT} {k i : Nat} {z : Int} : ∀ j, j ≠ k → ceX w (upI X k i z) j = ceX w X j := by
  intro j hj
  have h1 : ∀ b, (upI X k i z).1 j b = X.1 j b := fun b => by
    show cond (Nat.beq j k && Nat.beq b i) z (X.1 j b) = X.1 j b
    rw [beq_ne hj]; rfl
  have h2 : fvX w (upI X k i z) j = fvX w X j := by
    funext b
    unfold fvX
    rw [h1 b]
    rfl
  unfold ceX
  rw [h2]
  simp only [h1]
  rfl
theorem upL_o {w : WT} {X : XT} {k i : Nat} {z : Int64} : ∀ j, j ≠ k → ceX w (upL X k i z) j = ceX w X j := by
  intro j hj
  have h1 : ∀ b, (upL X k i z).2.1 j b = X.2.1 j b := fun b => by
    show cond (Nat.beq j k && Nat.beq b i) z (X.2.1 j b) = X.2.1 j b
    rw [beq_ne hj]; rfl
  have h2 : fvX w (upL X k i z) j = fvX w X j := by
    funext b
    unfold fvX
    rw [h1 b]
    rfl
  unfold ceX
  rw [h2]
  simp only [h1]
  rfl
theorem upR_o {w : WT} {X : XT} {k i : Nat} {z : Option Nat} : ∀ j, j ≠ k → ceX w (upR X k i z) j = ceX w X j := by
  intro j hj
  have h1 : ∀ b, (upR X k i z).2.2 j b = X.2.2 j b := fun b => by
    show cond (Nat.beq j k && Nat.beq b i) z (X.2.2 j b) = X.2.2 j b
    rw [beq_ne hj]; rfl
  have h2 : fvX w (upR X k i z) j = fvX w X j := by
    funext b
    unfold fvX
    rw [h1 b]
    rfl
  unfold ceX
  rw [h2]
  simp only [h1]
  rfl
theorem upI_s (X : XT) (k i : Nat) (z : Int) (b : Nat) : (upI X k i z).1 k b = if b = i then z else X.1 k b := by
  show cond (Nat.beq k k && Nat.beq b i) z (X.1 k b) = _
  rw [beq_self]
  by_cases h : b = i
  · subst h; rw [beq_self]; simp
  · rw [beq_ne h]; simp [h]
theorem upL_s (X : XT) (k i : Nat) (z : Int64) (b : Nat) : (upL X k i z).2.1 k b = if b = i then z else X.2.1 k b := by
  show cond (Nat.beq k k && Nat.beq b i) z (X.2.1 k b) = _
  rw [beq_self]
  by_cases h : b = i
  · subst h; rw [beq_self]; simp
  · rw [beq_ne h]; simp [h]
theorem upR_s (X : XT) (k i : Nat) (z : Option Nat) (b : Nat) : (upR X k i z).2.2 k b = if b = i then z else X.2.2 k b := by
  show cond (Nat.beq k k && Nat.beq b i) z (X.2.2 k b) = _
  rw [beq_self]
  by_cases h : b = i
  · subst h; rw [beq_self]; simp
  · rw [beq_ne h]; simp [h]
theorem map_set {α : Type} (f g : Nat → α) (n i : Nat) (v : α) (hg : ∀ b, g b = if b = i then v else f b) : ((List.range n).map f).set i v = (List.range n).map g := by
  apply List.ext_getElem?
  intro j
  by_cases hl : j < n
  · by_cases hj : j = i
    · subst hj
      rw [List.getElem?_set_self (by simpa using hl), List.getElem?_map, List.getElem?_range hl]
      simp [hg]
    · rw [List.getElem?_set_ne (Ne.symm hj), List.getElem?_map, List.getElem?_map, List.getElem?_range hl]
      simp [hg, hj]
  · rw [List.getElem?_eq_none (by simp; omega), List.getElem?_eq_none (by simp; omega)]
/-- what is fixed of a world at a state: the tables of its classes and arrays, its addresses apart -/
def FxW (w : WT) (s : State) : Prop := (∀ (c : Nat) (q : vw_C), (wC w)[c]? = some q → u_Kn s q.1 q.2.1 q.2.2 ((wD w).1 c) ((wD w).2 c)) ∧ (∀ k, k < wN w → (wS w k).1 ≠ 0 → ArrOfT s (wY w k) (wT w k) ∧ va_RA s (wY w k) (wT w k)) ∧ (∀ i j, i < wN w → j < wN w → wA w i = wA w j → i = j)
def AW (w : WT) : Nat → Prop := fun q => ∃ k, k < wN w ∧ q = wA w k
theorem FxW.moved {w : WT} {u U : State} (hvm : u.vm.Alike U.vm) (h : FxW w u) : FxW w U := ⟨fun c q hq => u_Kn_moved hvm (h.1 c q hq), fun k hk hs => ⟨arrOfT_moved hvm (h.2.1 k hk hs).1, (h.2.1 k hk hs).2.moved hvm⟩, h.2.2⟩
theorem FxW.K0 {w : WT} {s : State} (h : FxW w s) : va_K (wD w) (wC w) [] s := ⟨h.1, fun k q hk => by simp at hk⟩
theorem FxW.K1 {w : WT} {s : State} (h : FxW w s) {k : Nat} (hk : k < wN w) (hs : (wS w k).1 ≠ 0) : va_K (wD w) (wC w) [(wY w k, wT w k)] s := by
  refine ⟨h.1, fun j q hj => ?_⟩
  cases j with
  | zero => cases hj; exact h.2.1 k hk hs
  | succ j => simp at hj
theorem FxW.D {w : WT} {s : State} (h : FxW w s) (X : XT) : va_D (AW w) (wsX w X) := by
  refine ⟨fun i j a b hi hj hab => ?_, fun k q hk => ?_⟩
  · obtain ⟨h1, rfl⟩ := wsX_inv hi
    obtain ⟨h2, rfl⟩ := wsX_inv hj
    exact h.2.2 i j h1 h2 hab
  · obtain ⟨h1, rfl⟩ := wsX_inv hk
    exact ⟨k, h1, rfl⟩
/-! ===== ENGINE 3: locals as a list by place ===== -/
def isC2 (v : Value) : Bool := match v with
  | .long _ => true
  | .double _ => true
  | _ => false
theorem isC2_cat (v : Value) : isC2 v = (v.category == 2) := by cases v <;> rfl
def lkp : List (Nat × Value) → Nat → Option Value
  | [], _ => none
  | (j, v) :: t, i => cond (Nat.beq j i) (some v) (lkp t i)
def lrm1 (i : Nat) : List (Nat × Value) → List (Nat × Value)
  | [] => []
  | (j, v) :: t => cond (Nat.beq j i || (Nat.beq (j + 1) i && isC2 v)) (lrm1 i t) ((j, v) :: lrm1 i t)
def lrm2 (i : Nat) : List (Nat × Value) → List (Nat × Value)
  | [] => []
  | (j, v) :: t => cond (Nat.beq j i || (Nat.beq j (i + 1) || (Nat.beq (j + 1) i && isC2 v))) (lrm2 i t) ((j, v) :: lrm2 i t)
def lst1 (i : Nat) (v : Value) (l : List (Nat × Value)) : List (Nat × Value) := (i, v) :: lrm1 i l
def lst2 (i : Nat) (v : Value) (l : List (Nat × Value)) : List (Nat × Value) := (i, v) :: lrm2 i l
def lvC (w : WT) (l : List (Nat × Value)) : List (Nat × Value) := l.map (fun q => (q.1, czV w q.2))
theorem lkp_mem : ∀ {l : List (Nat × Value)} {i : Nat} {v : Value}, lkp l i = some v → (i, v) ∈ l
  | [], _, _, h => by cases h
  | (j, u) :: t, i, v, h => by
    unfold lkp at h
    cases hb : Nat.beq j i with
    | true =>
      rw [hb] at h
      have := Nat.eq_of_beq_eq_true hb
      subst this
      cases h
      exact List.mem_cons_self
    | false =>
      rw [hb] at h
      exact List.mem_cons_of_mem _ (lkp_mem h)
theorem lkp_at {w : WT} {ls : Array Slot} {nL : Nat} {l : List (Nat × Value)} {i : Nat} {v : Value} (h : lv_has ls nL (lvC w l)) (hk : lkp l i = some v) : ls[i]? = some (.val (czV w v)) :=
  h.2.2 (i, czV w v) (List.mem_map.mpr ⟨(i, v), lkp_mem hk, rfl⟩)
theorem beq_iff (a b : Nat) : (a == b) = Nat.beq a b := by
  by_cases h : a = b
  · subst h; rw [beq_self]; exact beq_self_eq_true a
  · rw [beq_ne h]; exact beq_eq_false_iff_ne.mpr h
theorem lrm1_eq (w : WT) (i : Nat) : ∀ l : List (Nat × Value), (lvC w l).filter (fun q => !(q.1 == i) && !(q.1 + 1 == i && q.2.category == 2)) = lvC w (lrm1 i l)
  | [] => rfl
  | (j, v) :: t => by
    have ih := lrm1_eq w i t
    show List.filter _ ((j, czV w v) :: lvC w t) = lvC w (cond (Nat.beq j i || (Nat.beq (j + 1) i && isC2 v)) (lrm1 i t) ((j, v) :: lrm1 i t))
    rw [List.filter_cons]
    simp only [beq_iff, czV_cat] at ih ⊢
    rw [ih, isC2_cat, beq_iff v.category 2]
    cases Nat.beq j i <;> cases Nat.beq (j + 1) i <;> cases Nat.beq v.category 2 <;> rfl
theorem lrm2_eq (w : WT) (i : Nat) : ∀ l : List (Nat × Value), (lvC w l).filter (fun q => !(q.1 == i) && (!(q.1 == i + 1) && !(q.1 + 1 == i && q.2.category == 2))) = lvC w (lrm2 i l)
  | [] => rfl
  | (j, v) :: t => by
    have ih := lrm2_eq w i t
    show List.filter _ ((j, czV w v) :: lvC w t) = lvC w (cond (Nat.beq j i || (Nat.beq j (i + 1) || (Nat.beq (j + 1) i && isC2 v))) (lrm2 i t) ((j, v) :: lrm2 i t))
    rw [List.filter_cons]
    simp only [beq_iff, czV_cat] at ih ⊢
    rw [ih, isC2_cat, beq_iff v.category 2]
    cases Nat.beq j i <;> cases Nat.beq j (i + 1) <;> cases Nat.beq (j + 1) i <;> cases Nat.beq v.category 2 <;> rfl
def lpick (l : List (Nat × Value)) (is : List Nat) : List (Nat × Value) := is.filterMap (fun i => (lkp l i).map (fun v => (i, v)))
theorem lpick_has {w : WT} {ls : Array Slot} {nL : Nat} {l : List (Nat × Value)} (h : lv_has ls nL (lvC w l)) (is : List Nat) : lv_has ls nL (lvC w (lpick l is)) := by
  refine ⟨h.1, h.2.1, fun q hq => ?_⟩
  obtain ⟨⟨i, v⟩, h1, rfl⟩ := List.mem_map.mp hq
  obtain ⟨j, -, h2⟩ := List.mem_filterMap.mp h1
  cases hk : lkp l j with
  | none => rw [hk] at h2; cases h2
  | some u =>
    rw [hk] at h2
    cases h2
    exact lkp_at h hk
end
section
/-! ===== ENGINE 4: the walk over a world of fixed shape ===== -/
/-- the tables' words that a callee may ask again -/
def lw_g : List Cond := lw_tbl.filter goodWord
theorem lw_gi {x : Cond} (i : Nat) (h : lw_tbl[i]? = some x) (hg : goodWord x = true) : x ∈ lw_g := List.mem_filter.mpr ⟨List.mem_of_getElem? h, hg⟩
abbrev ET : Type := Program × Launch × Env × Room × State × MethodId × Array Value × List Frame × Method × Code
def QX (w : WT) (Qp : Option Value → XT → Prop) : Array Value → State → Outcome → State → Prop := fun _ st oc t => (∃ (r : Option Value) (X' : XT), oc = .returned (r.map (czV w)) ∧ Qp r X' ∧ va_P (wD w) (wC w) (wsX w X') t.heap) ∧ va_F (AW w) st t
def Wx (E : ET) (w : WT) (Qp : Option Value → XT → Prop) (nL : Nat) (X : XT) (pc : Nat) (lv : List (Nat × Value)) (st : List Value) : Prop := match E with
  | (p, l, e, R, s, m, args, below, meth, c) => ∀ (H : Heap) (locs : List Loc) (ls : Array Slot), va_P (wD w) (wC w) (wsX w X) H → va_S (AW w) s.heap H locs → lv_has ls nL (lvC w lv) → W p l e R s m args below meth c H locs 0 0 (MQ below (QX w Qp) args s 0 0 (AW w)) (F0 m pc ls (st.map (czV w)))
def CX (E : ET) (w : WT) (cc : ByteArray) (nL : Nat) (own : String) (ret : Option FieldType) (rm : Room) : Prop := match E with
  | (p, _, _, R, s, m, args, _, meth, c) => p.tables.exec = Jvm.exec ∧ c.code = cc ∧ c.maxLocals = nL ∧ s.vm.findClass own = some m.cls ∧ (∀ x ∈ lw_g, x.before args s = true) ∧ FxW w s ∧ meth.sig.returnType = ret ∧ meth.locks = false ∧ R = rm
/-- a field's own rows in the tables -/
def FKw (w : WT) (own : String) (idx ci n i fk : Nat) : Prop := ∃ (C : String) (T : u_T), (wC w)[ci]? = some (C, T, n) ∧ i < n ∧ wF w ci i = fk ∧ (∀ x ∈ u_ws C T n, x ∈ lw_g) ∧ Cond.fieldLink own idx C (T i).2.1 (T i).2.2.1 ∈ lw_g ∧ (T i).1 = C
def PKw (w : WT) (own : String) (idx ci n i fk : Nat) (ty : FieldType) : Prop := ∃ (C : String) (T : u_T) (ty0 : Nat → FieldType), (wC w)[ci]? = some (C, T, n) ∧ i < n ∧ wF w ci i = fk ∧ (∀ x ∈ u_ws C T n, x ∈ lw_g) ∧ Cond.fieldLink own idx C (T i).2.1 (T i).2.2.1 ∈ lw_g ∧ (T i).1 = C ∧ (∀ k, k < n → parseFieldDescriptor (T k).2.2.1 = some (ty0 k)) ∧ (∀ a, a < n → ∀ b, b < n → a ≠ b → (T a).2.1 ≠ (T b).2.1) ∧ (T i).2.2.2 = false ∧ ty0 i = ty
section XR
variable {E : ET} {w : WT} {Qp : Option Value → XT → Prop} {nL : Nat} {X : XT} {pc : Nat} {lv : List (Nat × Value)} {st : List Value} {cc : ByteArray} {own : String} {ret : Option FieldType} {rm : Room}
theorem Wx_pick (is : List Nat) (k : Wx E w Qp nL X pc (lpick lv is) st) : Wx E w Qp nL X pc lv st := by
  obtain ⟨p, l, e, R, s, m, args, below, meth, c⟩ := E
  intro H locs ls hP hS hl
  exact k H locs ls hP hS (lpick_has hl is)
theorem Wx_lv {lv' : List (Nat × Value)} (h : lv = lv') (k : Wx E w Qp nL X pc lv' st) : Wx E w Qp nL X pc lv st := h ▸ k
theorem Wx_X {X' : XT} (h : X = X') (k : Wx E w Qp nL X' pc lv st) : Wx E w Qp nL X pc lv st := h ▸ k
theorem Wx_post {Qp' : Option Value → XT → Prop} (h : ∀ r X, Qp r X → Qp' r X) (k : Wx E w Qp nL X pc lv st) : Wx E w Qp' nL X pc lv st := by
  obtain ⟨p, l, e, R, s, m, args, below, meth, c⟩ := E
  intro H locs ls hP hS hl T hT Y
  obtain ⟨t, a, o, b1, b2, ⟨⟨r, X1, c1, c2, c3⟩, c4⟩, L, d⟩ := k H locs ls hP hS hl T hT Y
  exact ⟨t, a, o, b1, b2, ⟨⟨r, X1, c1, h r X1 c2, c3⟩, c4⟩, L, d⟩
theorem x_topi {x : Int32} (k : ∀ z : Int, inR z → iI z = x → Wx E w Qp nL X pc lv (.int (iI z) :: st)) : Wx E w Qp nL X pc lv (.int x :: st) := by
  have h := k x.toInt (inR_toInt x) (iI_of x)
  rwa [iI_of] at h
theorem x_gen {z : Int} (k : ∀ y : Int, y = z → Wx E w Qp nL X pc lv (.int (iI y) :: st)) : Wx E w Qp nL X pc lv (.int (iI z) :: st) := k z rfl
theorem x_genL {z : Int64} (k : ∀ y : Int64, y = z → Wx E w Qp nL X pc lv (.long y :: st)) : Wx E w Qp nL X pc lv (.long z :: st) := k z rfl
theorem x_eq {a b : Int} (h : a = b) (k : Wx E w Qp nL X pc lv (.int (iI b) :: st)) : Wx E w Qp nL X pc lv (.int (iI a) :: st) := h ▸ k
theorem x_iconst (C : CX E w cc nL own ret rm) {n : Int} (hd : decode cc pc = .ok (.iconst n, 1)) (kk : Wx E w Qp nL X (pc + 1) lv (.int (iI n) :: st)) : Wx E w Qp nL X pc lv (st) := by
  obtain ⟨p, l, e, R, s, m, args, below, meth, c⟩ := E
  intro H locs ls hP hS hl
  exact lv_iconst C.1 C.2.1 hd rfl (kk H locs ls hP hS hl)
theorem x_bipush (C : CX E w cc nL own ret rm) {n : Int} (hd : decode cc pc = .ok (.bipush n, 2)) (hn : Int8.minValue.toInt ≤ n ∧ n ≤ Int8.maxValue.toInt) (kk : Wx E w Qp nL X (pc + 2) lv (.int (iI n) :: st)) : Wx E w Qp nL X pc lv (st) := by
  obtain ⟨p, l, e, R, s, m, args, below, meth, c⟩ := E
  intro H locs ls hP hS hl
  exact lv_bipush C.1 C.2.1 hd (Int8.toInt32_ofInt hn.1 hn.2) (kk H locs ls hP hS hl)
theorem x_sipush (C : CX E w cc nL own ret rm) {n : Int} (hd : decode cc pc = .ok (.sipush n, 3)) (hn : Int16.minValue.toInt ≤ n ∧ n ≤ Int16.maxValue.toInt) (kk : Wx E w Qp nL X (pc + 3) lv (.int (iI n) :: st)) : Wx E w Qp nL X pc lv (st) := by
  obtain ⟨p, l, e, R, s, m, args, below, meth, c⟩ := E
  intro H locs ls hP hS hl
  exact lv_sipush C.1 C.2.1 hd (Int16.toInt32_ofInt hn.1 hn.2) (kk H locs ls hP hS hl)
theorem x_lconst (C : CX E w cc nL own ret rm) {n : Fin 2} (hd : decode cc pc = .ok (.lconst n, 1)) (kk : Wx E w Qp nL X (pc + 1) lv (.long (Int64.ofNat n) :: st)) : Wx E w Qp nL X pc lv (st) := by
  obtain ⟨p, l, e, R, s, m, args, below, meth, c⟩ := E
  intro H locs ls hP hS hl
  exact lv_lconst C.1 C.2.1 hd rfl (kk H locs ls hP hS hl)
theorem x_ldc (C : CX E w cc nL own ret rm) {idx : Nat} {z : Int} (hd : decode cc pc = .ok (.ldc idx, 2)) (hc : Cond.constant own idx (iI z) ∈ lw_g) (kk : Wx E w Qp nL X (pc + 2) lv (.int (iI z) :: st)) : Wx E w Qp nL X pc lv (st) := by
  obtain ⟨p, l, e, R, s, m, args, below, meth, c⟩ := E
  intro H locs ls hP hS hl
  exact lv_ldc C.1 C.2.1 C.2.2.2.1 (C.2.2.2.2.1 _ hc) hd (kk H locs ls hP hS hl)
theorem x_ldc2 (C : CX E w cc nL own ret rm) {idx : Nat} {v : Int64} (hd : decode cc pc = .ok (.ldc2_w idx, 3)) (hc : Cond.constantLong own idx v ∈ lw_g) (kk : Wx E w Qp nL X (pc + 3) lv (.long v :: st)) : Wx E w Qp nL X pc lv (st) := by
  obtain ⟨p, l, e, R, s, m, args, below, meth, c⟩ := E
  intro H locs ls hP hS hl
  exact lv_ldc2 C.1 C.2.1 C.2.2.2.1 (C.2.2.2.2.1 _ hc) hd (kk H locs ls hP hS hl)
theorem x_iload_n (C : CX E w cc nL own ret rm) {k : Fin 4} {i : Nat} {x : Int32} (hd : decode cc pc = .ok (.iload_n k, 1)) (hi : (k : Nat) = i) (hx : lkp lv i = some (.int x)) (kk : Wx E w Qp nL X (pc + 1) lv (.int x :: st)) : Wx E w Qp nL X pc lv (st) := by
  obtain ⟨p, l, e, R, s, m, args, below, meth, c⟩ := E
  intro H locs ls hP hS hl
  exact lv_iload_n C.1 C.2.1 hd hi (lkp_at hl hx) (kk H locs ls hP hS hl)
theorem x_iload (C : CX E w cc nL own ret rm) {i : Nat} {x : Int32} (hd : decode cc pc = .ok (.iload i, 2)) (hx : lkp lv i = some (.int x)) (kk : Wx E w Qp nL X (pc + 2) lv (.int x :: st)) : Wx E w Qp nL X pc lv (st) := by
  obtain ⟨p, l, e, R, s, m, args, below, meth, c⟩ := E
  intro H locs ls hP hS hl
  exact lv_iload C.1 C.2.1 hd (lkp_at hl hx) (kk H locs ls hP hS hl)
theorem x_lload_n (C : CX E w cc nL own ret rm) {k : Fin 4} {i : Nat} {x : Int64} (hd : decode cc pc = .ok (.lload_n k, 1)) (hi : (k : Nat) = i) (hx : lkp lv i = some (.long x)) (kk : Wx E w Qp nL X (pc + 1) lv (.long x :: st)) : Wx E w Qp nL X pc lv (st) := by
  obtain ⟨p, l, e, R, s, m, args, below, meth, c⟩ := E
  intro H locs ls hP hS hl
  exact lv_lload_n C.1 C.2.1 hd hi (lkp_at hl hx) (kk H locs ls hP hS hl)
theorem x_lload (C : CX E w cc nL own ret rm) {i : Nat} {x : Int64} (hd : decode cc pc = .ok (.lload i, 2)) (hx : lkp lv i = some (.long x)) (kk : Wx E w Qp nL X (pc + 2) lv (.long x :: st)) : Wx E w Qp nL X pc lv (st) := by
  obtain ⟨p, l, e, R, s, m, args, below, meth, c⟩ := E
  intro H locs ls hP hS hl
  exact lv_lload C.1 C.2.1 hd (lkp_at hl hx) (kk H locs ls hP hS hl)
theorem x_aload_n (C : CX E w cc nL own ret rm) {k : Fin 4} {i : Nat} {x : Nat} (hd : decode cc pc = .ok (.aload_n k, 1)) (hi : (k : Nat) = i) (hx : lkp lv i = some (.ref x)) (kk : Wx E w Qp nL X (pc + 1) lv (.ref x :: st)) : Wx E w Qp nL X pc lv (st) := by
  obtain ⟨p, l, e, R, s, m, args, below, meth, c⟩ := E
  intro H locs ls hP hS hl
  exact lv_aload_n C.1 C.2.1 hd hi (lkp_at hl hx) (kk H locs ls hP hS hl)
theorem x_aload (C : CX E w cc nL own ret rm) {i : Nat} {x : Nat} (hd : decode cc pc = .ok (.aload i, 2)) (hx : lkp lv i = some (.ref x)) (kk : Wx E w Qp nL X (pc + 2) lv (.ref x :: st)) : Wx E w Qp nL X pc lv (st) := by
  obtain ⟨p, l, e, R, s, m, args, below, meth, c⟩ := E
  intro H locs ls hP hS hl
  exact lv_aload C.1 C.2.1 hd (lkp_at hl hx) (kk H locs ls hP hS hl)
theorem x_aload_nN (C : CX E w cc nL own ret rm) {k : Fin 4} {i : Nat} (hd : decode cc pc = .ok (.aload_n k, 1)) (hi : (k : Nat) = i) (hx : lkp lv i = some .null) (kk : Wx E w Qp nL X (pc + 1) lv (.null :: st)) : Wx E w Qp nL X pc lv (st) := by
  obtain ⟨p, l, e, R, s, m, args, below, meth, c⟩ := E
  intro H locs ls hP hS hl
  exact lv_aload_nN C.1 C.2.1 hd hi (lkp_at hl hx) (kk H locs ls hP hS hl)
theorem x_aloadN (C : CX E w cc nL own ret rm) {i : Nat} (hd : decode cc pc = .ok (.aload i, 2)) (hx : lkp lv i = some .null) (kk : Wx E w Qp nL X (pc + 2) lv (.null :: st)) : Wx E w Qp nL X pc lv (st) := by
  obtain ⟨p, l, e, R, s, m, args, below, meth, c⟩ := E
  intro H locs ls hP hS hl
  exact lv_aloadN C.1 C.2.1 hd (lkp_at hl hx) (kk H locs ls hP hS hl)
theorem x_istore_n (C : CX E w cc nL own ret rm) {k : Fin 4} {i : Nat} {x : Int32} {lv' : List (Nat × Value)} (hd : decode cc pc = .ok (.istore_n k, 1)) (hi : (k : Nat) = i) (hn : i < nL) (hv : lst1 i (.int x) lv = lv') (kk : Wx E w Qp nL X (pc + 1) lv' (st)) : Wx E w Qp nL X pc lv (.int x :: st) := by
  obtain ⟨p, l, e, R, s, m, args, below, meth, c⟩ := E
  intro H locs ls hP hS hl
  subst hv
  exact lv_istore_n (lv' := lvC w (lst1 i (.int x) lv)) C.1 C.2.1 hd hi hl hn (by rw [lrm1_eq]; rfl) (fun ls' hl' => kk H locs ls' hP hS hl')
theorem x_istore (C : CX E w cc nL own ret rm) {i : Nat} {x : Int32} {lv' : List (Nat × Value)} (hd : decode cc pc = .ok (.istore i, 2)) (hn : i < nL) (hv : lst1 i (.int x) lv = lv') (kk : Wx E w Qp nL X (pc + 2) lv' (st)) : Wx E w Qp nL X pc lv (.int x :: st) := by
  obtain ⟨p, l, e, R, s, m, args, below, meth, c⟩ := E
  intro H locs ls hP hS hl
  subst hv
  exact lv_istore (lv' := lvC w (lst1 i (.int x) lv)) C.1 C.2.1 hd hl hn (by rw [lrm1_eq]; rfl) (fun ls' hl' => kk H locs ls' hP hS hl')
theorem x_lstore_n (C : CX E w cc nL own ret rm) {k : Fin 4} {i : Nat} {x : Int64} {lv' : List (Nat × Value)} (hd : decode cc pc = .ok (.lstore_n k, 1)) (hi : (k : Nat) = i) (hn : i + 1 < nL) (hv : lst2 i (.long x) lv = lv') (kk : Wx E w Qp nL X (pc + 1) lv' (st)) : Wx E w Qp nL X pc lv (.long x :: st) := by
  obtain ⟨p, l, e, R, s, m, args, below, meth, c⟩ := E
  intro H locs ls hP hS hl
  subst hv
  exact lv_lstore_n (lv' := lvC w (lst2 i (.long x) lv)) C.1 C.2.1 hd hi hl hn (by rw [lrm2_eq]; rfl) (fun ls' hl' => kk H locs ls' hP hS hl')
theorem x_lstore (C : CX E w cc nL own ret rm) {i : Nat} {x : Int64} {lv' : List (Nat × Value)} (hd : decode cc pc = .ok (.lstore i, 2)) (hn : i + 1 < nL) (hv : lst2 i (.long x) lv = lv') (kk : Wx E w Qp nL X (pc + 2) lv' (st)) : Wx E w Qp nL X pc lv (.long x :: st) := by
  obtain ⟨p, l, e, R, s, m, args, below, meth, c⟩ := E
  intro H locs ls hP hS hl
  subst hv
  exact lv_lstore (lv' := lvC w (lst2 i (.long x) lv)) C.1 C.2.1 hd hl hn (by rw [lrm2_eq]; rfl) (fun ls' hl' => kk H locs ls' hP hS hl')
theorem x_astore_n (C : CX E w cc nL own ret rm) {k : Fin 4} {i : Nat} {x : Nat} {lv' : List (Nat × Value)} (hd : decode cc pc = .ok (.astore_n k, 1)) (hi : (k : Nat) = i) (hn : i < nL) (hv : lst1 i (.ref x) lv = lv') (kk : Wx E w Qp nL X (pc + 1) lv' (st)) : Wx E w Qp nL X pc lv (.ref x :: st) := by
  obtain ⟨p, l, e, R, s, m, args, below, meth, c⟩ := E
  intro H locs ls hP hS hl
  subst hv
  exact lv_astore_n (lv' := lvC w (lst1 i (.ref x) lv)) C.1 C.2.1 hd hi hl hn (by rw [lrm1_eq]; rfl) (fun ls' hl' => kk H locs ls' hP hS hl')
theorem x_astore (C : CX E w cc nL own ret rm) {i : Nat} {x : Nat} {lv' : List (Nat × Value)} (hd : decode cc pc = .ok (.astore i, 2)) (hn : i < nL) (hv : lst1 i (.ref x) lv = lv') (kk : Wx E w Qp nL X (pc + 2) lv' (st)) : Wx E w Qp nL X pc lv (.ref x :: st) := by
  obtain ⟨p, l, e, R, s, m, args, below, meth, c⟩ := E
  intro H locs ls hP hS hl
  subst hv
  exact lv_astore (lv' := lvC w (lst1 i (.ref x) lv)) C.1 C.2.1 hd hl hn (by rw [lrm1_eq]; rfl) (fun ls' hl' => kk H locs ls' hP hS hl')
theorem x_astore_nN (C : CX E w cc nL own ret rm) {k : Fin 4} {i : Nat} {lv' : List (Nat × Value)} (hd : decode cc pc = .ok (.astore_n k, 1)) (hi : (k : Nat) = i) (hn : i < nL) (hv : lst1 i .null lv = lv') (kk : Wx E w Qp nL X (pc + 1) lv' (st)) : Wx E w Qp nL X pc lv (.null :: st) := by
  obtain ⟨p, l, e, R, s, m, args, below, meth, c⟩ := E
  intro H locs ls hP hS hl
  subst hv
  exact lv_astore_nN (lv' := lvC w (lst1 i .null lv)) C.1 C.2.1 hd hi hl hn (by rw [lrm1_eq]; rfl) (fun ls' hl' => kk H locs ls' hP hS hl')
theorem x_astoreN (C : CX E w cc nL own ret rm) {i : Nat} {lv' : List (Nat × Value)} (hd : decode cc pc = .ok (.astore i, 2)) (hn : i < nL) (hv : lst1 i .null lv = lv') (kk : Wx E w Qp nL X (pc + 2) lv' (st)) : Wx E w Qp nL X pc lv (.null :: st) := by
  obtain ⟨p, l, e, R, s, m, args, below, meth, c⟩ := E
  intro H locs ls hP hS hl
  subst hv
  exact lv_astoreN (lv' := lvC w (lst1 i .null lv)) C.1 C.2.1 hd hl hn (by rw [lrm1_eq]; rfl) (fun ls' hl' => kk H locs ls' hP hS hl')
theorem x_iinc (C : CX E w cc nL own ret rm) {i : Nat} {n z : Int} {lv' : List (Nat × Value)} (hd : decode cc pc = .ok (.iinc i n, 3)) (hx : lkp lv i = some (.int (iI z))) (hn : i < nL) (hv : lst1 i (.int (iI (z + n))) lv = lv') (kk : Wx E w Qp nL X (pc + 3) lv' (st)) : Wx E w Qp nL X pc lv (st) := by
  obtain ⟨p, l, e, R, s, m, args, below, meth, c⟩ := E
  intro H locs ls hP hS hl
  subst hv
  obtain ⟨k, hk⟩ := List.getElem?_of_mem (List.mem_map.mpr ⟨(i, .int (iI z)), lkp_mem hx, rfl⟩ : (i, czV w (.int (iI z))) ∈ lvC w lv)
  exact lv_iinc (v := iI (z + n)) (lv' := lvC w (lst1 i (.int (iI (z + n))) lv)) C.1 C.2.1 hd hl (k := k) hk (iI_add z n) hn (by rw [lrm1_eq]; rfl) (fun ls' hl' => kk H locs ls' hP hS hl')
theorem x_iadd (C : CX E w cc nL own ret rm) {a b : Int} (hd : decode cc pc = .ok (.iadd, 1)) (kk : Wx E w Qp nL X (pc + 1) lv (.int (iI (a + b)) :: st)) : Wx E w Qp nL X pc lv (.int (iI b) :: .int (iI a) :: st) := by
  obtain ⟨p, l, e, R, s, m, args, below, meth, c⟩ := E
  intro H locs ls hP hS hl
  refine lv_iadd C.1 C.2.1 hd ?_
  rw [iI_add]
  exact kk H locs ls hP hS hl
theorem x_isub (C : CX E w cc nL own ret rm) {a b : Int} (hd : decode cc pc = .ok (.isub, 1)) (kk : Wx E w Qp nL X (pc + 1) lv (.int (iI (a - b)) :: st)) : Wx E w Qp nL X pc lv (.int (iI b) :: .int (iI a) :: st) := by
  obtain ⟨p, l, e, R, s, m, args, below, meth, c⟩ := E
  intro H locs ls hP hS hl
  refine lv_isub C.1 C.2.1 hd ?_
  rw [iI_sub]
  exact kk H locs ls hP hS hl
theorem x_imul (C : CX E w cc nL own ret rm) {a b : Int} (hd : decode cc pc = .ok (.imul, 1)) (kk : Wx E w Qp nL X (pc + 1) lv (.int (iI (a * b)) :: st)) : Wx E w Qp nL X pc lv (.int (iI b) :: .int (iI a) :: st) := by
  obtain ⟨p, l, e, R, s, m, args, below, meth, c⟩ := E
  intro H locs ls hP hS hl
  refine lv_imul C.1 C.2.1 hd ?_
  rw [iI_mul]
  exact kk H locs ls hP hS hl
theorem x_ineg (C : CX E w cc nL own ret rm) {a : Int} (hd : decode cc pc = .ok (.ineg, 1)) (kk : Wx E w Qp nL X (pc + 1) lv (.int (iI (-a)) :: st)) : Wx E w Qp nL X pc lv (.int (iI a) :: st) := by
  obtain ⟨p, l, e, R, s, m, args, below, meth, c⟩ := E
  intro H locs ls hP hS hl
  refine lv_ineg C.1 C.2.1 hd ?_
  rw [iI_neg]
  exact kk H locs ls hP hS hl
theorem x_idiv (C : CX E w cc nL own ret rm) {a b : Int} (hd : decode cc pc = .ok (.idiv, 1)) (ha : 0 ≤ a) (hb : 0 < b) (ra : inR a) (rb : inR b) (kk : Wx E w Qp nL X (pc + 1) lv (.int (iI (a / b)) :: st)) : Wx E w Qp nL X pc lv (.int (iI b) :: .int (iI a) :: st) := by
  obtain ⟨p, l, e, R, s, m, args, below, meth, c⟩ := E
  intro H locs ls hP hS hl
  refine lv_idiv C.1 C.2.1 hd (iI_ne0 (by omega) rb) ?_
  rw [iI_div ha hb ra rb]
  exact kk H locs ls hP hS hl
theorem x_irem (C : CX E w cc nL own ret rm) {a b : Int} (hd : decode cc pc = .ok (.irem, 1)) (ha : 0 ≤ a) (hb : 0 < b) (ra : inR a) (rb : inR b) (kk : Wx E w Qp nL X (pc + 1) lv (.int (iI (a % b)) :: st)) : Wx E w Qp nL X pc lv (.int (iI b) :: .int (iI a) :: st) := by
  obtain ⟨p, l, e, R, s, m, args, below, meth, c⟩ := E
  intro H locs ls hP hS hl
  refine lv_irem C.1 C.2.1 hd (iI_ne0 (by omega) rb) ?_
  rw [iI_rem ha hb ra rb]
  exact kk H locs ls hP hS hl
theorem x_iand (C : CX E w cc nL own ret rm) {x y : Int32} (hd : decode cc pc = .ok (.iand, 1)) (kk : Wx E w Qp nL X (pc + 1) lv (.int (x &&& y) :: st)) : Wx E w Qp nL X pc lv (.int y :: .int x :: st) := by
  obtain ⟨p, l, e, R, s, m, args, below, meth, c⟩ := E
  intro H locs ls hP hS hl
  exact lv_iand C.1 C.2.1 hd (kk H locs ls hP hS hl)
theorem x_ior (C : CX E w cc nL own ret rm) {x y : Int32} (hd : decode cc pc = .ok (.ior, 1)) (kk : Wx E w Qp nL X (pc + 1) lv (.int (x ||| y) :: st)) : Wx E w Qp nL X pc lv (.int y :: .int x :: st) := by
  obtain ⟨p, l, e, R, s, m, args, below, meth, c⟩ := E
  intro H locs ls hP hS hl
  exact lv_ior C.1 C.2.1 hd (kk H locs ls hP hS hl)
theorem x_ixor (C : CX E w cc nL own ret rm) {x y : Int32} (hd : decode cc pc = .ok (.ixor, 1)) (kk : Wx E w Qp nL X (pc + 1) lv (.int (x ^^^ y) :: st)) : Wx E w Qp nL X pc lv (.int y :: .int x :: st) := by
  obtain ⟨p, l, e, R, s, m, args, below, meth, c⟩ := E
  intro H locs ls hP hS hl
  exact lv_ixor C.1 C.2.1 hd (kk H locs ls hP hS hl)
theorem x_ishl (C : CX E w cc nL own ret rm) {x y : Int32} (hd : decode cc pc = .ok (.ishl, 1)) (kk : Wx E w Qp nL X (pc + 1) lv (.int (x <<< (y &&& 31)) :: st)) : Wx E w Qp nL X pc lv (.int y :: .int x :: st) := by
  obtain ⟨p, l, e, R, s, m, args, below, meth, c⟩ := E
  intro H locs ls hP hS hl
  exact lv_ishl C.1 C.2.1 hd (kk H locs ls hP hS hl)
theorem x_ishr (C : CX E w cc nL own ret rm) {x y : Int32} (hd : decode cc pc = .ok (.ishr, 1)) (kk : Wx E w Qp nL X (pc + 1) lv (.int (x >>> (y &&& 31)) :: st)) : Wx E w Qp nL X pc lv (.int y :: .int x :: st) := by
  obtain ⟨p, l, e, R, s, m, args, below, meth, c⟩ := E
  intro H locs ls hP hS hl
  exact lv_ishr C.1 C.2.1 hd (kk H locs ls hP hS hl)
theorem x_iushr (C : CX E w cc nL own ret rm) {x y : Int32} (hd : decode cc pc = .ok (.iushr, 1)) (kk : Wx E w Qp nL X (pc + 1) lv (.int ((x.toUInt32 >>> (y.toUInt32 &&& Int32.toUInt32 31)).toInt32) :: st)) : Wx E w Qp nL X pc lv (.int y :: .int x :: st) := by
  obtain ⟨p, l, e, R, s, m, args, below, meth, c⟩ := E
  intro H locs ls hP hS hl
  exact lv_iushr C.1 C.2.1 hd rfl (kk H locs ls hP hS hl)
theorem x_ladd (C : CX E w cc nL own ret rm) {x y : Int64} (hd : decode cc pc = .ok (.ladd, 1)) (kk : Wx E w Qp nL X (pc + 1) lv (.long (x + y) :: st)) : Wx E w Qp nL X pc lv (.long y :: .long x :: st) := by
  obtain ⟨p, l, e, R, s, m, args, below, meth, c⟩ := E
  intro H locs ls hP hS hl
  exact lv_ladd C.1 C.2.1 hd (kk H locs ls hP hS hl)
theorem x_lsub (C : CX E w cc nL own ret rm) {x y : Int64} (hd : decode cc pc = .ok (.lsub, 1)) (kk : Wx E w Qp nL X (pc + 1) lv (.long (x - y) :: st)) : Wx E w Qp nL X pc lv (.long y :: .long x :: st) := by
  obtain ⟨p, l, e, R, s, m, args, below, meth, c⟩ := E
  intro H locs ls hP hS hl
  exact lv_lsub C.1 C.2.1 hd (kk H locs ls hP hS hl)
theorem x_lmul (C : CX E w cc nL own ret rm) {x y : Int64} (hd : decode cc pc = .ok (.lmul, 1)) (kk : Wx E w Qp nL X (pc + 1) lv (.long (x * y) :: st)) : Wx E w Qp nL X pc lv (.long y :: .long x :: st) := by
  obtain ⟨p, l, e, R, s, m, args, below, meth, c⟩ := E
  intro H locs ls hP hS hl
  exact lv_lmul C.1 C.2.1 hd (kk H locs ls hP hS hl)
theorem x_land (C : CX E w cc nL own ret rm) {x y : Int64} (hd : decode cc pc = .ok (.land, 1)) (kk : Wx E w Qp nL X (pc + 1) lv (.long (x &&& y) :: st)) : Wx E w Qp nL X pc lv (.long y :: .long x :: st) := by
  obtain ⟨p, l, e, R, s, m, args, below, meth, c⟩ := E
  intro H locs ls hP hS hl
  exact lv_land C.1 C.2.1 hd (kk H locs ls hP hS hl)
theorem x_lor (C : CX E w cc nL own ret rm) {x y : Int64} (hd : decode cc pc = .ok (.lor, 1)) (kk : Wx E w Qp nL X (pc + 1) lv (.long (x ||| y) :: st)) : Wx E w Qp nL X pc lv (.long y :: .long x :: st) := by
  obtain ⟨p, l, e, R, s, m, args, below, meth, c⟩ := E
  intro H locs ls hP hS hl
  exact lv_lor C.1 C.2.1 hd (kk H locs ls hP hS hl)
theorem x_lxor (C : CX E w cc nL own ret rm) {x y : Int64} (hd : decode cc pc = .ok (.lxor, 1)) (kk : Wx E w Qp nL X (pc + 1) lv (.long (x ^^^ y) :: st)) : Wx E w Qp nL X pc lv (.long y :: .long x :: st) := by
  obtain ⟨p, l, e, R, s, m, args, below, meth, c⟩ := E
  intro H locs ls hP hS hl
  exact lv_lxor C.1 C.2.1 hd (kk H locs ls hP hS hl)
theorem x_lshl (C : CX E w cc nL own ret rm) {x : Int64} {y : Int32} (hd : decode cc pc = .ok (.lshl, 1)) (kk : Wx E w Qp nL X (pc + 1) lv (.long (x <<< (y.toInt64 &&& 63)) :: st)) : Wx E w Qp nL X pc lv (.int y :: .long x :: st) := by
  obtain ⟨p, l, e, R, s, m, args, below, meth, c⟩ := E
  intro H locs ls hP hS hl
  exact lv_lshl C.1 C.2.1 hd rfl (kk H locs ls hP hS hl)
theorem x_lshr (C : CX E w cc nL own ret rm) {x : Int64} {y : Int32} (hd : decode cc pc = .ok (.lshr, 1)) (kk : Wx E w Qp nL X (pc + 1) lv (.long (x >>> (y.toInt64 &&& 63)) :: st)) : Wx E w Qp nL X pc lv (.int y :: .long x :: st) := by
  obtain ⟨p, l, e, R, s, m, args, below, meth, c⟩ := E
  intro H locs ls hP hS hl
  exact lv_lshr C.1 C.2.1 hd rfl (kk H locs ls hP hS hl)
theorem x_lushr (C : CX E w cc nL own ret rm) {x : Int64} {y : Int32} (hd : decode cc pc = .ok (.lushr, 1)) (kk : Wx E w Qp nL X (pc + 1) lv (.long ((x.toUInt64 >>> (y.toInt64.toUInt64 &&& Int64.toUInt64 63)).toInt64) :: st)) : Wx E w Qp nL X pc lv (.int y :: .long x :: st) := by
  obtain ⟨p, l, e, R, s, m, args, below, meth, c⟩ := E
  intro H locs ls hP hS hl
  exact lv_lushr C.1 C.2.1 hd rfl (kk H locs ls hP hS hl)
theorem x_i2l (C : CX E w cc nL own ret rm) {x : Int32} (hd : decode cc pc = .ok (.i2l, 1)) (kk : Wx E w Qp nL X (pc + 1) lv (.long x.toInt64 :: st)) : Wx E w Qp nL X pc lv (.int x :: st) := by
  obtain ⟨p, l, e, R, s, m, args, below, meth, c⟩ := E
  intro H locs ls hP hS hl
  exact lv_i2l C.1 C.2.1 hd rfl (kk H locs ls hP hS hl)
theorem x_l2i (C : CX E w cc nL own ret rm) {x : Int64} (hd : decode cc pc = .ok (.l2i, 1)) (kk : Wx E w Qp nL X (pc + 1) lv (.int x.toInt32 :: st)) : Wx E w Qp nL X pc lv (.long x :: st) := by
  obtain ⟨p, l, e, R, s, m, args, below, meth, c⟩ := E
  intro H locs ls hP hS hl
  exact lv_l2i C.1 C.2.1 hd rfl (kk H locs ls hP hS hl)
theorem x_i2b (C : CX E w cc nL own ret rm) {x : Int32} (hd : decode cc pc = .ok (.i2b, 1)) (kk : Wx E w Qp nL X (pc + 1) lv (.int x.toInt8.toInt32 :: st)) : Wx E w Qp nL X pc lv (.int x :: st) := by
  obtain ⟨p, l, e, R, s, m, args, below, meth, c⟩ := E
  intro H locs ls hP hS hl
  exact lv_i2b C.1 C.2.1 hd rfl (kk H locs ls hP hS hl)
theorem x_i2c (C : CX E w cc nL own ret rm) {x : Int32} (hd : decode cc pc = .ok (.i2c, 1)) (kk : Wx E w Qp nL X (pc + 1) lv (.int (x.toUInt32 % 65536).toInt32 :: st)) : Wx E w Qp nL X pc lv (.int x :: st) := by
  obtain ⟨p, l, e, R, s, m, args, below, meth, c⟩ := E
  intro H locs ls hP hS hl
  exact lv_i2c C.1 C.2.1 hd rfl (kk H locs ls hP hS hl)
theorem x_lcmp (C : CX E w cc nL own ret rm) {x y : Int64} (hd : decode cc pc = .ok (.lcmp, 1)) (kk : Wx E w Qp nL X (pc + 1) lv (.int (lg_cmp x y) :: st)) : Wx E w Qp nL X pc lv (.long y :: .long x :: st) := by
  obtain ⟨p, l, e, R, s, m, args, below, meth, c⟩ := E
  intro H locs ls hP hS hl
  exact W.lcmp C.1 C.2.1 hd (kk H locs ls hP hS hl)
theorem x_dup (C : CX E w cc nL own ret rm) {v : Value} (hd : decode cc pc = .ok (.dup, 1)) (hv : v.category = 1) (kk : Wx E w Qp nL X (pc + 1) lv (v :: v :: st)) : Wx E w Qp nL X pc lv (v :: st) := by
  obtain ⟨p, l, e, R, s, m, args, below, meth, c⟩ := E
  intro H locs ls hP hS hl
  exact lv_dup C.1 C.2.1 hd (by rw [czV_cat]; exact hv) (kk H locs ls hP hS hl)
theorem x_pop (C : CX E w cc nL own ret rm) {v : Value} (hd : decode cc pc = .ok (.pop, 1)) (hv : v.category = 1) (kk : Wx E w Qp nL X (pc + 1) lv (st)) : Wx E w Qp nL X pc lv (v :: st) := by
  obtain ⟨p, l, e, R, s, m, args, below, meth, c⟩ := E
  intro H locs ls hP hS hl
  exact lv_pop C.1 C.2.1 hd (by rw [czV_cat]; exact hv) (kk H locs ls hP hS hl)
theorem x_dup2_11 (C : CX E w cc nL own ret rm) {v u : Value} (hd : decode cc pc = .ok (.dup2, 1)) (hv : v.category = 1) (hu : u.category = 1) (kk : Wx E w Qp nL X (pc + 1) lv (v :: u :: v :: u :: st)) : Wx E w Qp nL X pc lv (v :: u :: st) := by
  obtain ⟨p, l, e, R, s, m, args, below, meth, c⟩ := E
  intro H locs ls hP hS hl
  exact lv_dup2_11 C.1 C.2.1 hd (by rw [czV_cat]; exact hv) (by rw [czV_cat]; exact hu) (kk H locs ls hP hS hl)
theorem x_dup2_2 (C : CX E w cc nL own ret rm) {v : Value} (hd : decode cc pc = .ok (.dup2, 1)) (hv : v.category = 2) (kk : Wx E w Qp nL X (pc + 1) lv (v :: v :: st)) : Wx E w Qp nL X pc lv (v :: st) := by
  obtain ⟨p, l, e, R, s, m, args, below, meth, c⟩ := E
  intro H locs ls hP hS hl
  exact lv_dup2_2 C.1 C.2.1 hd (by rw [czV_cat]; exact hv) (kk H locs ls hP hS hl)
theorem x_null (C : CX E w cc nL own ret rm) (hd : decode cc pc = .ok (.aconst_null, 1)) (kk : Wx E w Qp nL X (pc + 1) lv (.null :: st)) : Wx E w Qp nL X pc lv (st) := by
  obtain ⟨p, l, e, R, s, m, args, below, meth, c⟩ := E
  intro H locs ls hP hS hl
  exact lv_null C.1 C.2.1 hd (kk H locs ls hP hS hl)
theorem x_goto (C : CX E w cc nL own ret rm) {off : Int} {tgt : Nat} (hd : decode cc pc = .ok (.goto off, 3)) (ht : (pc : Int) + off = (tgt : Int)) (kk : Wx E w Qp nL X tgt lv (st)) : Wx E w Qp nL X pc lv (st) := by
  obtain ⟨p, l, e, R, s, m, args, below, meth, c⟩ := E
  intro H locs ls hP hS hl
  exact lv_goto C.1 C.2.1 hd ht (kk H locs ls hP hS hl)
theorem x_ifnullR (C : CX E w cc nL own ret rm) {x : Nat} {off : Int} (hd : decode cc pc = .ok (.ifnull off, 3)) (kk : Wx E w Qp nL X (pc + 3) lv (st)) : Wx E w Qp nL X pc lv (.ref x :: st) := by
  obtain ⟨p, l, e, R, s, m, args, below, meth, c⟩ := E
  intro H locs ls hP hS hl
  exact lv_ifnull C.1 C.2.1 hd (kk H locs ls hP hS hl)
theorem x_ifnullN (C : CX E w cc nL own ret rm) {off : Int} {tgt : Nat} (hd : decode cc pc = .ok (.ifnull off, 3)) (ht : (pc : Int) + off = (tgt : Int)) (kk : Wx E w Qp nL X tgt lv (st)) : Wx E w Qp nL X pc lv (.null :: st) := by
  obtain ⟨p, l, e, R, s, m, args, below, meth, c⟩ := E
  intro H locs ls hP hS hl
  exact lv_ifnullN C.1 C.2.1 hd ht (kk H locs ls hP hS hl)
theorem x_ifnonnullR (C : CX E w cc nL own ret rm) {x : Nat} {off : Int} {tgt : Nat} (hd : decode cc pc = .ok (.ifnonnull off, 3)) (ht : (pc : Int) + off = (tgt : Int)) (kk : Wx E w Qp nL X tgt lv (st)) : Wx E w Qp nL X pc lv (.ref x :: st) := by
  obtain ⟨p, l, e, R, s, m, args, below, meth, c⟩ := E
  intro H locs ls hP hS hl
  exact lv_ifnonnull C.1 C.2.1 hd ht (kk H locs ls hP hS hl)
theorem x_ifnonnullN (C : CX E w cc nL own ret rm) {off : Int} (hd : decode cc pc = .ok (.ifnonnull off, 3)) (kk : Wx E w Qp nL X (pc + 3) lv (st)) : Wx E w Qp nL X pc lv (.null :: st) := by
  obtain ⟨p, l, e, R, s, m, args, below, meth, c⟩ := E
  intro H locs ls hP hS hl
  exact lv_ifnonnullN C.1 C.2.1 hd (kk H locs ls hP hS hl)
theorem x_if_eq (C : CX E w cc nL own ret rm) {a : Int} {off : Int} {tgt : Nat} (hd : decode cc pc = .ok (.ifCond .eq off, 3)) (ht : (pc : Int) + off = (tgt : Int)) (ra : inR a) (kt : a = 0 → Wx E w Qp nL X tgt lv (st)) (kf : ¬ (a = 0) → Wx E w Qp nL X (pc + 3) lv (st)) : Wx E w Qp nL X pc lv (.int (iI a) :: st) := by
  obtain ⟨p, l, e, R, s, m, args, below, meth, c⟩ := E
  intro H locs ls hP hS hl
  exact lv_if_eq C.1 C.2.1 hd ht (fun h => kt ((iI_eq ra inR_0).mp h) H locs ls hP hS hl) (fun h => kf (fun q => h ((iI_eq ra inR_0).mpr q)) H locs ls hP hS hl)
theorem x_icmp_eq (C : CX E w cc nL own ret rm) {a b : Int} {off : Int} {tgt : Nat} (hd : decode cc pc = .ok (.if_icmp .eq off, 3)) (ht : (pc : Int) + off = (tgt : Int)) (ra : inR a) (rb : inR b) (kt : a = b → Wx E w Qp nL X tgt lv (st)) (kf : ¬ (a = b) → Wx E w Qp nL X (pc + 3) lv (st)) : Wx E w Qp nL X pc lv (.int (iI b) :: .int (iI a) :: st) := by
  obtain ⟨p, l, e, R, s, m, args, below, meth, c⟩ := E
  intro H locs ls hP hS hl
  exact lv_icmp_eq C.1 C.2.1 hd ht (fun h => kt ((iI_eq ra rb).mp h) H locs ls hP hS hl) (fun h => kf (fun q => h ((iI_eq ra rb).mpr q)) H locs ls hP hS hl)
theorem x_if_ne (C : CX E w cc nL own ret rm) {a : Int} {off : Int} {tgt : Nat} (hd : decode cc pc = .ok (.ifCond .ne off, 3)) (ht : (pc : Int) + off = (tgt : Int)) (ra : inR a) (kt : ¬ a = 0 → Wx E w Qp nL X tgt lv (st)) (kf : a = 0 → Wx E w Qp nL X (pc + 3) lv (st)) : Wx E w Qp nL X pc lv (.int (iI a) :: st) := by
  obtain ⟨p, l, e, R, s, m, args, below, meth, c⟩ := E
  intro H locs ls hP hS hl
  exact lv_if_ne C.1 C.2.1 hd ht (fun h => kt (fun q => h ((iI_eq ra inR_0).mpr q)) H locs ls hP hS hl) (fun h => kf ((iI_eq ra inR_0).mp h) H locs ls hP hS hl)
theorem x_icmp_ne (C : CX E w cc nL own ret rm) {a b : Int} {off : Int} {tgt : Nat} (hd : decode cc pc = .ok (.if_icmp .ne off, 3)) (ht : (pc : Int) + off = (tgt : Int)) (ra : inR a) (rb : inR b) (kt : ¬ a = b → Wx E w Qp nL X tgt lv (st)) (kf : a = b → Wx E w Qp nL X (pc + 3) lv (st)) : Wx E w Qp nL X pc lv (.int (iI b) :: .int (iI a) :: st) := by
  obtain ⟨p, l, e, R, s, m, args, below, meth, c⟩ := E
  intro H locs ls hP hS hl
  exact lv_icmp_ne C.1 C.2.1 hd ht (fun h => kt (fun q => h ((iI_eq ra rb).mpr q)) H locs ls hP hS hl) (fun h => kf ((iI_eq ra rb).mp h) H locs ls hP hS hl)
theorem x_if_lt (C : CX E w cc nL own ret rm) {a : Int} {off : Int} {tgt : Nat} (hd : decode cc pc = .ok (.ifCond .lt off, 3)) (ht : (pc : Int) + off = (tgt : Int)) (ra : inR a) (kt : a < 0 → Wx E w Qp nL X tgt lv (st)) (kf : ¬ (a < 0) → Wx E w Qp nL X (pc + 3) lv (st)) : Wx E w Qp nL X pc lv (.int (iI a) :: st) := by
  obtain ⟨p, l, e, R, s, m, args, below, meth, c⟩ := E
  intro H locs ls hP hS hl
  exact lv_if_lt C.1 C.2.1 hd ht (fun h => kt ((iI_lt ra inR_0).mp h) H locs ls hP hS hl) (fun h => kf (fun q => h ((iI_lt ra inR_0).mpr q)) H locs ls hP hS hl)
theorem x_icmp_lt (C : CX E w cc nL own ret rm) {a b : Int} {off : Int} {tgt : Nat} (hd : decode cc pc = .ok (.if_icmp .lt off, 3)) (ht : (pc : Int) + off = (tgt : Int)) (ra : inR a) (rb : inR b) (kt : a < b → Wx E w Qp nL X tgt lv (st)) (kf : ¬ (a < b) → Wx E w Qp nL X (pc + 3) lv (st)) : Wx E w Qp nL X pc lv (.int (iI b) :: .int (iI a) :: st) := by
  obtain ⟨p, l, e, R, s, m, args, below, meth, c⟩ := E
  intro H locs ls hP hS hl
  exact lv_icmp_lt C.1 C.2.1 hd ht (fun h => kt ((iI_lt ra rb).mp h) H locs ls hP hS hl) (fun h => kf (fun q => h ((iI_lt ra rb).mpr q)) H locs ls hP hS hl)
theorem x_if_ge (C : CX E w cc nL own ret rm) {a : Int} {off : Int} {tgt : Nat} (hd : decode cc pc = .ok (.ifCond .ge off, 3)) (ht : (pc : Int) + off = (tgt : Int)) (ra : inR a) (kt : 0 ≤ a → Wx E w Qp nL X tgt lv (st)) (kf : ¬ (0 ≤ a) → Wx E w Qp nL X (pc + 3) lv (st)) : Wx E w Qp nL X pc lv (.int (iI a) :: st) := by
  obtain ⟨p, l, e, R, s, m, args, below, meth, c⟩ := E
  intro H locs ls hP hS hl
  exact lv_if_ge C.1 C.2.1 hd ht (fun h => kt ((iI_le inR_0 ra).mp h) H locs ls hP hS hl) (fun h => kf (fun q => h ((iI_le inR_0 ra).mpr q)) H locs ls hP hS hl)
theorem x_icmp_ge (C : CX E w cc nL own ret rm) {a b : Int} {off : Int} {tgt : Nat} (hd : decode cc pc = .ok (.if_icmp .ge off, 3)) (ht : (pc : Int) + off = (tgt : Int)) (ra : inR a) (rb : inR b) (kt : b ≤ a → Wx E w Qp nL X tgt lv (st)) (kf : ¬ (b ≤ a) → Wx E w Qp nL X (pc + 3) lv (st)) : Wx E w Qp nL X pc lv (.int (iI b) :: .int (iI a) :: st) := by
  obtain ⟨p, l, e, R, s, m, args, below, meth, c⟩ := E
  intro H locs ls hP hS hl
  exact lv_icmp_ge C.1 C.2.1 hd ht (fun h => kt ((iI_le rb ra).mp h) H locs ls hP hS hl) (fun h => kf (fun q => h ((iI_le rb ra).mpr q)) H locs ls hP hS hl)
theorem x_if_gt (C : CX E w cc nL own ret rm) {a : Int} {off : Int} {tgt : Nat} (hd : decode cc pc = .ok (.ifCond .gt off, 3)) (ht : (pc : Int) + off = (tgt : Int)) (ra : inR a) (kt : 0 < a → Wx E w Qp nL X tgt lv (st)) (kf : ¬ (0 < a) → Wx E w Qp nL X (pc + 3) lv (st)) : Wx E w Qp nL X pc lv (.int (iI a) :: st) := by
  obtain ⟨p, l, e, R, s, m, args, below, meth, c⟩ := E
  intro H locs ls hP hS hl
  exact lv_if_gt C.1 C.2.1 hd ht (fun h => kt ((iI_lt inR_0 ra).mp h) H locs ls hP hS hl) (fun h => kf (fun q => h ((iI_lt inR_0 ra).mpr q)) H locs ls hP hS hl)
theorem x_icmp_gt (C : CX E w cc nL own ret rm) {a b : Int} {off : Int} {tgt : Nat} (hd : decode cc pc = .ok (.if_icmp .gt off, 3)) (ht : (pc : Int) + off = (tgt : Int)) (ra : inR a) (rb : inR b) (kt : b < a → Wx E w Qp nL X tgt lv (st)) (kf : ¬ (b < a) → Wx E w Qp nL X (pc + 3) lv (st)) : Wx E w Qp nL X pc lv (.int (iI b) :: .int (iI a) :: st) := by
  obtain ⟨p, l, e, R, s, m, args, below, meth, c⟩ := E
  intro H locs ls hP hS hl
  exact lv_icmp_gt C.1 C.2.1 hd ht (fun h => kt ((iI_lt rb ra).mp h) H locs ls hP hS hl) (fun h => kf (fun q => h ((iI_lt rb ra).mpr q)) H locs ls hP hS hl)
theorem x_if_le (C : CX E w cc nL own ret rm) {a : Int} {off : Int} {tgt : Nat} (hd : decode cc pc = .ok (.ifCond .le off, 3)) (ht : (pc : Int) + off = (tgt : Int)) (ra : inR a) (kt : a ≤ 0 → Wx E w Qp nL X tgt lv (st)) (kf : ¬ (a ≤ 0) → Wx E w Qp nL X (pc + 3) lv (st)) : Wx E w Qp nL X pc lv (.int (iI a) :: st) := by
  obtain ⟨p, l, e, R, s, m, args, below, meth, c⟩ := E
  intro H locs ls hP hS hl
  exact lv_if_le C.1 C.2.1 hd ht (fun h => kt ((iI_le ra inR_0).mp h) H locs ls hP hS hl) (fun h => kf (fun q => h ((iI_le ra inR_0).mpr q)) H locs ls hP hS hl)
theorem x_icmp_le (C : CX E w cc nL own ret rm) {a b : Int} {off : Int} {tgt : Nat} (hd : decode cc pc = .ok (.if_icmp .le off, 3)) (ht : (pc : Int) + off = (tgt : Int)) (ra : inR a) (rb : inR b) (kt : a ≤ b → Wx E w Qp nL X tgt lv (st)) (kf : ¬ (a ≤ b) → Wx E w Qp nL X (pc + 3) lv (st)) : Wx E w Qp nL X pc lv (.int (iI b) :: .int (iI a) :: st) := by
  obtain ⟨p, l, e, R, s, m, args, below, meth, c⟩ := E
  intro H locs ls hP hS hl
  exact lv_icmp_le C.1 C.2.1 hd ht (fun h => kt ((iI_le ra rb).mp h) H locs ls hP hS hl) (fun h => kf (fun q => h ((iI_le ra rb).mpr q)) H locs ls hP hS hl)
end XR
end
section
/-! ===== ENGINE 5: cells ===== -/
theorem ceX_obj {w : WT} {X : XT} {k ci n : Nat} (hs : wS w k = (0, ci, n)) : ceX w X k = .inr (ci, (List.range n).map (fvX w X k)) := by unfold ceX; rw [hs]; rfl
theorem ceX_arrI {w : WT} {X : XT} {k q n : Nat} (hs : wS w k = (1, q, n)) : ceX w X k = .inl (wY w k, n, .inl (fun i => iI (X.1 k i))) := by unfold ceX; rw [hs]; rfl
theorem ceX_arrL {w : WT} {X : XT} {k q n : Nat} (hs : wS w k = (2, q, n)) : ceX w X k = .inl (wY w k, n, .inr (.inl (fun i => X.2.1 k i))) := by unfold ceX; rw [hs]; rfl
theorem ceX_arrR {w : WT} {X : XT} {k q n : Nat} (hs : wS w k = (3, q, n)) : ceX w X k = .inl (wY w k, n, .inr (.inr (.inr (.inr (fun i => (X.2.2 k i).map (wA w)))))) := by unfold ceX; rw [hs]; rfl
theorem fvX_I {w : WT} {X : XT} {k ci n i : Nat} (hs : wS w k = (0, ci, n)) (hf : wF w ci i = 0) : fvX w X k i = .int (iI (X.1 k i)) := by unfold fvX; rw [hs]; simp only [hf]
theorem fvX_L {w : WT} {X : XT} {k ci n i : Nat} (hs : wS w k = (0, ci, n)) (hf : wF w ci i = 1) : fvX w X k i = .long (X.2.1 k i) := by unfold fvX; rw [hs]; simp only [hf]
theorem fvX_R {w : WT} {X : XT} {k ci n i : Nat} (hs : wS w k = (0, ci, n)) (hf : wF w ci i = 2) : fvX w X k i = va_rf ((X.2.2 k i).map (wA w)) := by unfold fvX; rw [hs]; simp only [hf]
theorem rg_at {α : Type} (f : Nat → α) {n i : Nat} (h : i < n) : ((List.range n).map f)[i]? = some (f i) := by rw [List.getElem?_map, List.getElem?_range h]; rfl
theorem ce_upI {w : WT} {X : XT} {k ci n i : Nat} {z : Int} (hs : wS w k = (0, ci, n)) (hf : wF w ci i = 0) : ((List.range n).map (fvX w X k)).set i (.int (iI z)) = (List.range n).map (fvX w (upI X k i z) k) := by
  refine map_set _ _ _ _ _ (fun b => ?_)
  by_cases h : b = i
  · subst h
    rw [fvX_I hs hf, upI_s]
    simp
  · rw [if_neg h]
    unfold fvX
    rw [upI_s, if_neg h]
    rfl
theorem ce_upL {w : WT} {X : XT} {k ci n i : Nat} {z : Int64} (hs : wS w k = (0, ci, n)) (hf : wF w ci i = 1) : ((List.range n).map (fvX w X k)).set i (.long z) = (List.range n).map (fvX w (upL X k i z) k) := by
  refine map_set _ _ _ _ _ (fun b => ?_)
  by_cases h : b = i
  · subst h
    rw [fvX_L hs hf, upL_s]
    simp
  · rw [if_neg h]
    unfold fvX
    rw [upL_s, if_neg h]
    rfl
theorem ce_upR {w : WT} {X : XT} {k ci n i : Nat} {z : Option Nat} (hs : wS w k = (0, ci, n)) (hf : wF w ci i = 2) : ((List.range n).map (fvX w X k)).set i (va_rf (z.map (wA w))) = (List.range n).map (fvX w (upR X k i z) k) := by
  refine map_set _ _ _ _ _ (fun b => ?_)
  by_cases h : b = i
  · subst h
    rw [fvX_R hs hf, upR_s]
    simp
  · rw [if_neg h]
    unfold fvX
    rw [upR_s, if_neg h]
    rfl
theorem ar_upI (X : XT) (k i : Nat) (z : Int) : upd (fun b => iI (X.1 k b)) i (iI z) = fun b => iI ((upI X k i z).1 k b) := by
  funext b
  rw [upI_s]
  unfold upd
  by_cases h : b = i <;> simp [h]
theorem ar_upL (X : XT) (k i : Nat) (z : Int64) : vp_updL (fun b => X.2.1 k b) i z = fun b => (upL X k i z).2.1 k b := by
  funext b
  rw [upL_s]
  unfold vp_updL
  by_cases h : b = i <;> simp [h]
section XH
variable {E : ET} {w : WT} {Qp : Option Value → XT → Prop} {nL : Nat} {X : XT} {pc : Nat} {lv : List (Nat × Value)} {st : List Value} {cc : ByteArray} {own : String} {ret : Option FieldType} {rm : Room}
theorem x_getI (C : CX E w cc nL own ret rm) {k ci n i idx : Nat} (hF : FKw w own idx ci n i 0) (hk : k < wN w) (hs : wS w k = (0, ci, n)) (hd : decode cc pc = .ok (.getfield idx, 3)) (kk : Wx E w Qp nL X (pc + 3) lv (.int (iI (X.1 k i)) :: st)) : Wx E w Qp nL X pc lv (.ref k :: st) := by
  obtain ⟨p, l, e, R, s, m, args, below, meth, c⟩ := E
  intro H locs ls hP hS hl
  obtain ⟨Cn, T, h1, h2, h3, h4, h5, h6⟩ := hF
  have he := wsX_at (X := X) hk
  rw [ceX_obj hs] at he
  exact va_get C.1 C.2.1 C.2.2.2.2.1 h4 C.2.2.2.1 C.2.2.2.2.2.1.K0 hP k he h1 i h2 (C.2.2.2.2.1 _ h5) (fun x hx => by rw [h6] at hx; exact hx) (rg_at _ h2) hd (by rw [fvX_I hs h3]; exact kk H locs ls hP hS hl)
theorem x_getL (C : CX E w cc nL own ret rm) {k ci n i idx : Nat} (hF : FKw w own idx ci n i 1) (hk : k < wN w) (hs : wS w k = (0, ci, n)) (hd : decode cc pc = .ok (.getfield idx, 3)) (kk : Wx E w Qp nL X (pc + 3) lv (.long (X.2.1 k i) :: st)) : Wx E w Qp nL X pc lv (.ref k :: st) := by
  obtain ⟨p, l, e, R, s, m, args, below, meth, c⟩ := E
  intro H locs ls hP hS hl
  obtain ⟨Cn, T, h1, h2, h3, h4, h5, h6⟩ := hF
  have he := wsX_at (X := X) hk
  rw [ceX_obj hs] at he
  exact va_get C.1 C.2.1 C.2.2.2.2.1 h4 C.2.2.2.1 C.2.2.2.2.2.1.K0 hP k he h1 i h2 (C.2.2.2.2.1 _ h5) (fun x hx => by rw [h6] at hx; exact hx) (rg_at _ h2) hd (by rw [fvX_L hs h3]; exact kk H locs ls hP hS hl)
theorem x_getR (C : CX E w cc nL own ret rm) {k ci n i idx : Nat} {r : Option Nat} (hF : FKw w own idx ci n i 2) (hk : k < wN w) (hs : wS w k = (0, ci, n)) (hr : X.2.2 k i = r) (hd : decode cc pc = .ok (.getfield idx, 3)) (kk : Wx E w Qp nL X (pc + 3) lv (va_rf r :: st)) : Wx E w Qp nL X pc lv (.ref k :: st) := by
  obtain ⟨p, l, e, R, s, m, args, below, meth, c⟩ := E
  intro H locs ls hP hS hl
  obtain ⟨Cn, T, h1, h2, h3, h4, h5, h6⟩ := hF
  have he := wsX_at (X := X) hk
  rw [ceX_obj hs] at he
  subst hr
  exact va_get C.1 C.2.1 C.2.2.2.2.1 h4 C.2.2.2.1 C.2.2.2.2.2.1.K0 hP k he h1 i h2 (C.2.2.2.2.1 _ h5) (fun x hx => by rw [h6] at hx; exact hx) (rg_at _ h2) hd (by rw [fvX_R hs h3, ← czV_rf]; exact kk H locs ls hP hS hl)
theorem x_getRs (C : CX E w cc nL own ret rm) {k ci n i idx r : Nat} (hF : FKw w own idx ci n i 2) (hk : k < wN w) (hs : wS w k = (0, ci, n)) (hr : X.2.2 k i = some r) (hd : decode cc pc = .ok (.getfield idx, 3)) (kk : Wx E w Qp nL X (pc + 3) lv (.ref r :: st)) : Wx E w Qp nL X pc lv (.ref k :: st) := x_getR C hF hk hs hr hd kk
theorem x_putI (C : CX E w cc nL own ret rm) {k ci n i idx : Nat} {z : Int} (hF : PKw w own idx ci n i 0 .int) (hk : k < wN w) (hs : wS w k = (0, ci, n)) (hd : decode cc pc = .ok (.putfield idx, 3)) (kk : Wx E w Qp nL (upI X k i z) (pc + 3) lv st) : Wx E w Qp nL X pc lv (.int (iI z) :: .ref k :: st) := by
  obtain ⟨p, l, e, R, s, m, args, below, meth, c⟩ := E
  intro H locs ls hP hS hl
  obtain ⟨Cn, T, ty0, h1, h2, h3, h4, h5, h6, h7, h8, h9, h10⟩ := hF
  have he := wsX_at (X := X) hk
  rw [ceX_obj hs] at he
  refine va_put (v := .int (iI z)) (ty := .int) C.1 C.2.1 C.2.2.2.2.1 h4 ty0 h7 h8 C.2.2.2.1 C.2.2.2.2.2.1.K0 hP (C.2.2.2.2.2.1.D X) hS k he h1 i h2 (C.2.2.2.2.1 _ h5) (fun x hx => by rw [h6] at hx; exact hx) h9 (by rw [h7 i h2, h10]) rfl rfl (by simpa using h2) hd (fun H1 locs1 q1 q2 q3 => kk H1 locs1 ls ?_ q3 hl)
  rw [ce_upI hs h3, ← ceX_obj (X := upI X k i z) hs, wsX_set hk upI_o] at q1
  exact q1
theorem x_putL (C : CX E w cc nL own ret rm) {k ci n i idx : Nat} {z : Int64} (hF : PKw w own idx ci n i 1 .long) (hk : k < wN w) (hs : wS w k = (0, ci, n)) (hd : decode cc pc = .ok (.putfield idx, 3)) (kk : Wx E w Qp nL (upL X k i z) (pc + 3) lv st) : Wx E w Qp nL X pc lv (.long z :: .ref k :: st) := by
  obtain ⟨p, l, e, R, s, m, args, below, meth, c⟩ := E
  intro H locs ls hP hS hl
  obtain ⟨Cn, T, ty0, h1, h2, h3, h4, h5, h6, h7, h8, h9, h10⟩ := hF
  have he := wsX_at (X := X) hk
  rw [ceX_obj hs] at he
  refine va_put (v := .long z) (ty := .long) C.1 C.2.1 C.2.2.2.2.1 h4 ty0 h7 h8 C.2.2.2.1 C.2.2.2.2.2.1.K0 hP (C.2.2.2.2.2.1.D X) hS k he h1 i h2 (C.2.2.2.2.1 _ h5) (fun x hx => by rw [h6] at hx; exact hx) h9 (by rw [h7 i h2, h10]) rfl rfl (by simpa using h2) hd (fun H1 locs1 q1 q2 q3 => kk H1 locs1 ls ?_ q3 hl)
  rw [ce_upL hs h3, ← ceX_obj (X := upL X k i z) hs, wsX_set hk upL_o] at q1
  exact q1
theorem x_putR (C : CX E w cc nL own ret rm) {k ci n i idx j : Nat} {ty : FieldType} (hF : PKw w own idx ci n i 2 ty) (hty : (∃ q, ty = .object q) ∨ ∃ q, ty = .array q) (hk : k < wN w) (hs : wS w k = (0, ci, n)) (hd : decode cc pc = .ok (.putfield idx, 3)) (kk : Wx E w Qp nL (upR X k i (some j)) (pc + 3) lv st) : Wx E w Qp nL X pc lv (.ref j :: .ref k :: st) := by
  obtain ⟨p, l, e, R, s, m, args, below, meth, c⟩ := E
  intro H locs ls hP hS hl
  obtain ⟨Cn, T, ty0, h1, h2, h3, h4, h5, h6, h7, h8, h9, h10⟩ := hF
  have he := wsX_at (X := X) hk
  rw [ceX_obj hs] at he
  have hn : narrow ty (.ref (wA w j)) = .ref (wA w j) := by rcases hty with ⟨q, rfl⟩ | ⟨q, rfl⟩ <;> rfl
  have hf : fits ty (.ref (wA w j)) = true := by rcases hty with ⟨q, rfl⟩ | ⟨q, rfl⟩ <;> rfl
  refine va_put (v := .ref (wA w j)) (ty := ty) C.1 C.2.1 C.2.2.2.2.1 h4 ty0 h7 h8 C.2.2.2.1 C.2.2.2.2.2.1.K0 hP (C.2.2.2.2.2.1.D X) hS k he h1 i h2 (C.2.2.2.2.1 _ h5) (fun x hx => by rw [h6] at hx; exact hx) h9 (by rw [h7 i h2, h10]) hn hf (by simpa using h2) hd (fun H1 locs1 q1 q2 q3 => kk H1 locs1 ls ?_ q3 hl)
  have e1 : Value.ref (wA w j) = va_rf ((some j).map (wA w)) := rfl
  rw [e1, ce_upR hs h3, ← ceX_obj (X := upR X k i (some j)) hs, wsX_set hk upR_o] at q1
  exact q1
theorem x_iald (C : CX E w cc nL own ret rm) {k q n : Nat} {z : Int} (hk : k < wN w) (hs : wS w k = (1, q, n)) (ht : wT w k = .int) (hn : n ≤ 2147483647) (h0 : 0 ≤ z) (h1 : z < n) (hd : decode cc pc = .ok (.iaload, 1)) (kk : Wx E w Qp nL X (pc + 1) lv (.int (iI (X.1 k z.toNat)) :: st)) : Wx E w Qp nL X pc lv (.int (iI z) :: .ref k :: st) := by
  obtain ⟨p, l, e, R, s, m, args, below, meth, c⟩ := E
  intro H locs ls hP hS hl
  have he := wsX_at (X := X) hk
  rw [ceX_arrI hs] at he
  refine va_iald C.1 C.2.1 (C.2.2.2.2.2.1.K1 hk (by rw [hs]; show (1 : Nat) ≠ 0; decide)) hP k 0 he (by rw [ht]; rfl) (iI_in h0 h1 hn) hd ?_
  rw [iI_nat ⟨by omega, by omega⟩]
  exact kk H locs ls hP hS hl
theorem x_bald (C : CX E w cc nL own ret rm) {k q n : Nat} {z : Int} (hk : k < wN w) (hs : wS w k = (1, q, n)) (ht : wT w k = .byte) (hn : n ≤ 2147483647) (h0 : 0 ≤ z) (h1 : z < n) (hd : decode cc pc = .ok (.baload, 1)) (kk : Wx E w Qp nL X (pc + 1) lv (.int (iI (X.1 k z.toNat)) :: st)) : Wx E w Qp nL X pc lv (.int (iI z) :: .ref k :: st) := by
  obtain ⟨p, l, e, R, s, m, args, below, meth, c⟩ := E
  intro H locs ls hP hS hl
  have he := wsX_at (X := X) hk
  rw [ceX_arrI hs] at he
  refine va_bald C.1 C.2.1 (C.2.2.2.2.2.1.K1 hk (by rw [hs]; show (1 : Nat) ≠ 0; decide)) hP k 0 he (by rw [ht]; rfl) (iI_in h0 h1 hn) hd ?_
  rw [iI_nat ⟨by omega, by omega⟩]
  exact kk H locs ls hP hS hl
theorem x_zald (C : CX E w cc nL own ret rm) {k q n : Nat} {z : Int} (hk : k < wN w) (hs : wS w k = (1, q, n)) (ht : wT w k = .boolean) (hn : n ≤ 2147483647) (h0 : 0 ≤ z) (h1 : z < n) (hd : decode cc pc = .ok (.baload, 1)) (kk : Wx E w Qp nL X (pc + 1) lv (.int (iI (X.1 k z.toNat)) :: st)) : Wx E w Qp nL X pc lv (.int (iI z) :: .ref k :: st) := by
  obtain ⟨p, l, e, R, s, m, args, below, meth, c⟩ := E
  intro H locs ls hP hS hl
  have he := wsX_at (X := X) hk
  rw [ceX_arrI hs] at he
  refine va_zald C.1 C.2.1 (C.2.2.2.2.2.1.K1 hk (by rw [hs]; show (1 : Nat) ≠ 0; decide)) hP k 0 he (by rw [ht]; rfl) (iI_in h0 h1 hn) hd ?_
  rw [iI_nat ⟨by omega, by omega⟩]
  exact kk H locs ls hP hS hl
theorem x_lald (C : CX E w cc nL own ret rm) {k q n : Nat} {z : Int} (hk : k < wN w) (hs : wS w k = (2, q, n)) (ht : wT w k = .long) (hn : n ≤ 2147483647) (h0 : 0 ≤ z) (h1 : z < n) (hd : decode cc pc = .ok (.laload, 1)) (kk : Wx E w Qp nL X (pc + 1) lv (.long (X.2.1 k z.toNat) :: st)) : Wx E w Qp nL X pc lv (.int (iI z) :: .ref k :: st) := by
  obtain ⟨p, l, e, R, s, m, args, below, meth, c⟩ := E
  intro H locs ls hP hS hl
  have he := wsX_at (X := X) hk
  rw [ceX_arrL hs] at he
  refine va_lald C.1 C.2.1 (C.2.2.2.2.2.1.K1 hk (by rw [hs]; show (2 : Nat) ≠ 0; decide)) hP k 0 he (by rw [ht]; rfl) (iI_in h0 h1 hn) hd ?_
  rw [iI_nat ⟨by omega, by omega⟩]
  exact kk H locs ls hP hS hl
theorem x_aald (C : CX E w cc nL own ret rm) {k q n : Nat} {z : Int} {S : String} {r : Option Nat} (hk : k < wN w) (hs : wS w k = (3, q, n)) (ht : wT w k = .object S) (hn : n ≤ 2147483647) (h0 : 0 ≤ z) (h1 : z < n) (hr : X.2.2 k z.toNat = r) (hd : decode cc pc = .ok (.aaload, 1)) (kk : Wx E w Qp nL X (pc + 1) lv (va_rf r :: st)) : Wx E w Qp nL X pc lv (.int (iI z) :: .ref k :: st) := by
  obtain ⟨p, l, e, R, s, m, args, below, meth, c⟩ := E
  intro H locs ls hP hS hl
  have he := wsX_at (X := X) hk
  rw [ceX_arrR hs] at he
  refine va_aldq C.1 C.2.1 (C.2.2.2.2.2.1.K1 hk (by rw [hs]; show (3 : Nat) ≠ 0; decide)) hP k 0 he (by rw [ht]; rfl) (iI_in h0 h1 hn) hd ?_
  subst hr
  rw [iI_nat ⟨by omega, by omega⟩, ← czV_rf]
  exact kk H locs ls hP hS hl
theorem x_iast (C : CX E w cc nL own ret rm) {k q n : Nat} {z v : Int} (hk : k < wN w) (hs : wS w k = (1, q, n)) (ht : wT w k = .int) (hn : n ≤ 2147483647) (h0 : 0 ≤ z) (h1 : z < n) (hd : decode cc pc = .ok (.iastore, 1)) (kk : Wx E w Qp nL (upI X k z.toNat v) (pc + 1) lv st) : Wx E w Qp nL X pc lv (.int (iI v) :: .int (iI z) :: .ref k :: st) := by
  obtain ⟨p, l, e, R, s, m, args, below, meth, c⟩ := E
  intro H locs ls hP hS hl
  have he := wsX_at (X := X) hk
  rw [ceX_arrI hs] at he
  refine va_iast C.1 C.2.1 (C.2.2.2.2.2.1.K1 hk (by rw [hs]; show (1 : Nat) ≠ 0; decide)) hP (C.2.2.2.2.2.1.D X) hS k 0 he (by rw [ht]; rfl) (iI_in h0 h1 hn) hd (fun H1 locs1 q1 q2 q3 => kk H1 locs1 ls ?_ q3 hl)
  rw [iI_nat ⟨by omega, by omega⟩, ar_upI, ← ceX_arrI (X := upI X k z.toNat v) hs, wsX_set hk upI_o] at q1
  exact q1
theorem nar_b {v : Int} (h : -128 ≤ v ∧ v ≤ 127) : vp_nar .byte (iI v) = iI v := by
  rw [vp_nar_byte]
  have h1 : (iI v).toInt8 = Int8.ofInt v := by unfold iI; exact Int32.toInt8_ofInt
  rw [h1]
  exact Int8.toInt32_ofInt h.1 h.2
theorem nar_z {v : Int} (h : v = 0 ∨ v = 1) : vp_nar .boolean (iI v) = iI v := by rcases h with rfl | rfl <;> decide
theorem x_bast (C : CX E w cc nL own ret rm) {k q n : Nat} {z v : Int} (hk : k < wN w) (hs : wS w k = (1, q, n)) (ht : wT w k = .byte) (hn : n ≤ 2147483647) (h0 : 0 ≤ z) (h1 : z < n) (hv : -128 ≤ v ∧ v ≤ 127) (hd : decode cc pc = .ok (.bastore, 1)) (kk : Wx E w Qp nL (upI X k z.toNat v) (pc + 1) lv st) : Wx E w Qp nL X pc lv (.int (iI v) :: .int (iI z) :: .ref k :: st) := by
  obtain ⟨p, l, e, R, s, m, args, below, meth, c⟩ := E
  intro H locs ls hP hS hl
  have he := wsX_at (X := X) hk
  rw [ceX_arrI hs] at he
  refine va_bast C.1 C.2.1 (C.2.2.2.2.2.1.K1 hk (by rw [hs]; show (1 : Nat) ≠ 0; decide)) hP (C.2.2.2.2.2.1.D X) hS k 0 he (by rw [ht]; rfl) (iI_in h0 h1 hn) hd (fun H1 locs1 q1 q2 q3 => kk H1 locs1 ls ?_ q3 hl)
  rw [nar_b hv, iI_nat ⟨by omega, by omega⟩, ar_upI, ← ceX_arrI (X := upI X k z.toNat v) hs, wsX_set hk upI_o] at q1
  exact q1
theorem x_zast (C : CX E w cc nL own ret rm) {k q n : Nat} {z v : Int} (hk : k < wN w) (hs : wS w k = (1, q, n)) (ht : wT w k = .boolean) (hn : n ≤ 2147483647) (h0 : 0 ≤ z) (h1 : z < n) (hv : v = 0 ∨ v = 1) (hd : decode cc pc = .ok (.bastore, 1)) (kk : Wx E w Qp nL (upI X k z.toNat v) (pc + 1) lv st) : Wx E w Qp nL X pc lv (.int (iI v) :: .int (iI z) :: .ref k :: st) := by
  obtain ⟨p, l, e, R, s, m, args, below, meth, c⟩ := E
  intro H locs ls hP hS hl
  have he := wsX_at (X := X) hk
  rw [ceX_arrI hs] at he
  refine va_zast C.1 C.2.1 (C.2.2.2.2.2.1.K1 hk (by rw [hs]; show (1 : Nat) ≠ 0; decide)) hP (C.2.2.2.2.2.1.D X) hS k 0 he (by rw [ht]; rfl) (iI_in h0 h1 hn) hd (fun H1 locs1 q1 q2 q3 => kk H1 locs1 ls ?_ q3 hl)
  rw [nar_z hv, iI_nat ⟨by omega, by omega⟩, ar_upI, ← ceX_arrI (X := upI X k z.toNat v) hs, wsX_set hk upI_o] at q1
  exact q1
theorem x_last (C : CX E w cc nL own ret rm) {k q n : Nat} {z : Int} {v : Int64} (hk : k < wN w) (hs : wS w k = (2, q, n)) (ht : wT w k = .long) (hn : n ≤ 2147483647) (h0 : 0 ≤ z) (h1 : z < n) (hd : decode cc pc = .ok (.lastore, 1)) (kk : Wx E w Qp nL (upL X k z.toNat v) (pc + 1) lv st) : Wx E w Qp nL X pc lv (.long v :: .int (iI z) :: .ref k :: st) := by
  obtain ⟨p, l, e, R, s, m, args, below, meth, c⟩ := E
  intro H locs ls hP hS hl
  have he := wsX_at (X := X) hk
  rw [ceX_arrL hs] at he
  refine va_last C.1 C.2.1 (C.2.2.2.2.2.1.K1 hk (by rw [hs]; show (2 : Nat) ≠ 0; decide)) hP (C.2.2.2.2.2.1.D X) hS k 0 he (by rw [ht]; rfl) (iI_in h0 h1 hn) hd (fun H1 locs1 q1 q2 q3 => kk H1 locs1 ls ?_ q3 hl)
  rw [iI_nat ⟨by omega, by omega⟩, ar_upL, ← ceX_arrL (X := upL X k z.toNat v) hs, wsX_set hk upL_o] at q1
  exact q1
-- ends
theorem x_iret (C : CX E w cc nL own (some .int) rm) {x : Int32} (hd : decode cc pc = .ok (.ireturn, 1)) (hq : Qp (some (.int x)) X) : Wx E w Qp nL X pc lv [.int x] := by
  obtain ⟨p, l, e, R, s, m, args, below, meth, c⟩ := E
  intro H locs ls hP hS hl
  exact W.iret C.1 C.2.1 C.2.2.2.2.2.2.1 (fun t ht hW => ⟨⟨some (.int x), X, rfl, hq, by rw [ht]; exact hP⟩, hS.F ht⟩) hS.2.2 hd C.2.2.2.2.2.2.2.1
theorem x_zret (C : CX E w cc nL own (some .boolean) rm) {v : Int} (hv : v = 0 ∨ v = 1) (hd : decode cc pc = .ok (.ireturn, 1)) (hq : Qp (some (.int (iI v))) X) : Wx E w Qp nL X pc lv [.int (iI v)] := by
  obtain ⟨p, l, e, R, s, m, args, below, meth, c⟩ := E
  intro H locs ls hP hS hl
  exact W.zret C.1 C.2.1 C.2.2.2.2.2.2.1 (by rcases hv with rfl | rfl <;> rfl) (fun t ht hW => ⟨⟨some (.int (iI v)), X, rfl, hq, by rw [ht]; exact hP⟩, hS.F ht⟩) hS.2.2 hd C.2.2.2.2.2.2.2.1
theorem x_lret (C : CX E w cc nL own (some .long) rm) {x : Int64} (hd : decode cc pc = .ok (.lreturn, 1)) (hq : Qp (some (.long x)) X) : Wx E w Qp nL X pc lv [.long x] := by
  obtain ⟨p, l, e, R, s, m, args, below, meth, c⟩ := E
  intro H locs ls hP hS hl
  exact W.lret C.1 C.2.1 C.2.2.2.2.2.2.1 (fun t ht hW => ⟨⟨some (.long x), X, rfl, hq, by rw [ht]; exact hP⟩, hS.F ht⟩) hS.2.2 hd C.2.2.2.2.2.2.2.1
theorem x_vret (C : CX E w cc nL own none rm) (hd : decode cc pc = .ok (.return_, 1)) (hq : Qp none X) : Wx E w Qp nL X pc lv [] := by
  obtain ⟨p, l, e, R, s, m, args, below, meth, c⟩ := E
  intro H locs ls hP hS hl
  exact W.vret C.1 C.2.1 C.2.2.2.2.2.2.1 (fun t ht hW => ⟨⟨none, X, rfl, hq, by rw [ht]; exact hP⟩, hS.F ht⟩) hS.2.2 hd C.2.2.2.2.2.2.2.1
theorem x_aret {S : String} (C : CX E w cc nL own (some (.object S)) rm) {r : Option Nat} (hd : decode cc pc = .ok (.areturn, 1)) (hq : Qp (some (va_rf r)) X) : Wx E w Qp nL X pc lv [va_rf r] := by
  obtain ⟨p, l, e, R, s, m, args, below, meth, c⟩ := E
  intro H locs ls hP hS hl
  have hv : czV w (va_rf r) = .null ∨ ∃ a, czV w (va_rf r) = .ref a := by
    cases r with
    | none => exact Or.inl rfl
    | some a => exact Or.inr ⟨_, rfl⟩
  exact W.aret C.1 C.2.1 C.2.2.2.2.2.2.1 (Or.inl ⟨_, rfl⟩) hv (fun t ht hW => ⟨⟨some (va_rf r), X, rfl, hq, by rw [ht]; exact hP⟩, hS.F ht⟩) hS.2.2 hd C.2.2.2.2.2.2.2.1
end XH
end
section
/-! ===== ENGINE 6: contracts and calls ===== -/
theorem lw_good : ∀ x ∈ lw_g, goodWord x = true := fun x h => (List.mem_filter.mp h).2
theorem lw_goodIn {y : MethodName} {b : ByteArray} {mL : Nat} {rt : Option FieldType} (h : Cond.code y b mL rt ∈ lw_g) : GoodIn lw_g (Cond.code y b mL rt :: lw_g) := by
  intro x hx
  rcases List.mem_cons.mp hx with rfl | hx
  · exact ⟨h, good_of_word (lw_good _ h)⟩
  · exact ⟨hx, good_of_word (lw_good _ hx)⟩
/-- a method's contract over a world of fixed shape: from the values av and the contents X it returns, and what it answers and leaves is as 'post' says; nothing outside the world changes -/
def MetX (w : WT) (y : MethodName) (b : ByteArray) (mL : Nat) (rt : Option FieldType) (fr lo : Nat) (av : List Value) (X : XT) (post : Option Value → XT → Prop) : Prop :=
  ∀ l : Launch, Met l y (Cond.code y b mL rt :: lw_g) { frames := fr, cells := 0, slots := 0, locals := lo } (va_Pc (av.map (czV w)) (fun U => va_P (wD w) (wC w) (wsX w X) U.heap ∧ FxW w U)) (QX w post) 0 0 (AW w)
theorem lv_args_cz (w : WT) : ∀ (av : List Value) (i : Nat), lv_args i (av.map (czV w)) = lvC w (lv_args i av)
  | [], _ => rfl
  | v :: vs, i => by
    show (i, czV w v) :: lv_args (if (czV w v).category = 2 then i + 2 else i + 1) (vs.map (czV w)) = (i, czV w v) :: lvC w (lv_args (if v.category = 2 then i + 2 else i + 1) vs)
    rw [czV_cat, lv_args_cz w vs]
theorem lg_sl_cz (w : WT) : ∀ av : List Value, (lg_sl (av.map (czV w))).length = (lg_sl av).length
  | [] => rfl
  | v :: vs => by
    have ih := lg_sl_cz w vs
    show ((if (czV w v).category = 2 then [Slot.val (czV w v), .second] else [Slot.val (czV w v)]) ++ lg_sl (vs.map (czV w))).length = ((if v.category = 2 then [Slot.val v, .second] else [Slot.val v]) ++ lg_sl vs).length
    rw [List.length_append, List.length_append, ih, czV_cat]
    split <;> rfl
theorem cat_cz (w : WT) (l : List Value) : ((l.map (czV w)).map fun v => v.category).sum = (l.map fun v => v.category).sum := by
  rw [List.map_map]
  congr 1
  exact List.map_congr_left (fun v _ => czV_cat w v)
theorem MetX.mk {w : WT} {y : MethodName} {b : ByteArray} {mL : Nat} {rt : Option FieldType} {fr lo : Nat} {av : List Value} {X : XT} {post : Option Value → XT → Prop} {own : String} (hy : plainName y.cls = true) (hown : y.cls = own) (hlen : (lg_sl av).length ≤ mL)
    (body : ∀ E : ET, CX E w b mL own rt { frames := fr, cells := 0, slots := 0, locals := lo } → Wx E w post mL X 0 (lv_args 0 av) []) : MetX w y b mL rt fr lo av X post := by
  intro l
  refine Met.ofW (cc := b) (maxL := mL) (ret := rt) hy rfl ?_
  intro p e s m args below meth c s₁ B hml hv
  obtain ⟨rfl, hP, hF⟩ := hv
  have hts := atoms_spec (ws := Cond.code y b mL rt :: lw_g) B.pre
  have K := body (p, l, e, { frames := fr, cells := 0, slots := 0, locals := lo }, s, m, (av.map (czV w)).toArray, below, meth, c) ⟨B.exec, B.bytes, hml, by rw [← hown]; exact findClass_of_methodNamed B.named, fun x hx => hts x (List.mem_cons_of_mem _ hx), hF, B.returns, B.notSynchronized, rfl⟩
  rw [lg_entry_eq]
  have hl := lv_entry (av.map (czV w)) (n := mL) (by rw [lg_sl_cz]; exact hlen)
  rw [lv_args_cz] at hl
  exact K s.heap [] _ hP va_S.rf hl
theorem MetX.imp {w : WT} {y : MethodName} {b : ByteArray} {mL : Nat} {rt : Option FieldType} {fr lo : Nat} {av : List Value} {X : XT} {post post' : Option Value → XT → Prop} (h : ∀ r X, post r X → post' r X) (M : MetX w y b mL rt fr lo av X post) : MetX w y b mL rt fr lo av X post' := by
  intro l p e a1 a2 a3 s m args below hf a4 a5 a6
  obtain ⟨k, o, h1, h2, h3, ⟨⟨r, X1, c1, c2, c3⟩, c4⟩, d⟩ := M l p e a1 a2 a3 s m args below hf a4 a5 a6
  exact ⟨k, o, h1, h2, h3, ⟨⟨r, X1, c1, h r X1 c2, c3⟩, c4⟩, d⟩
section XC
variable {p : Program} {l : Launch} {e : Env} {R : Room} {s : State} {m : MethodId} {args : Array Value} {below : List Frame} {meth : Method} {c : Code} {H : Heap} {locs : List Loc} {Q : State → Prop} {k0 n0 : Nat}
theorem va_callX {w : WT} {post : Option Value → XT → Prop} {pc : Nat} {ls : Array Slot} {rest st0 : List Value} {a : Array Value} {A0 : Nat → Prop} {H0 : Heap} {free : Addr → Prop} (hr : va_Run p l e R s m args below meth c H locs k0 n0 0 0 (F0 m pc ls st0) rest (QX w post a) free) (hS : va_S A0 H0 H locs) (hA : ∀ q, AW w q → A0 q) (hf : ∀ q, free q → A0 q)
    (kk : ∀ (r : Option Value) (X' : XT) (H1 : Heap) (locs1 : List Loc), post r X' → va_P (wD w) (wC w) (wsX w X') H1 → H.size ≤ H1.size → (∀ q : Nat, q < H.size → ¬ AW w q → H1[q]? = H[q]?) → va_S A0 H0 H1 locs1 → W p l e R s m args below meth c H1 locs1 k0 n0 Q (F0 m (pc + 3) ls ((r.map (czV w)).toList ++ rest))) : W p l e R s m args below meth c H locs k0 n0 Q (F0 m pc ls st0) := by
  intro T hT X
  obtain ⟨v, st₀, t, T', L, h0, X', hL, e1, e2, ⟨⟨r, X1, hv, hp, hb⟩, hz, hk⟩, st⟩ := hr T hT X
  have hv : v = r.map (czV w) := by cases hv; rfl
  subst hv
  rw [h0] at hz hk
  obtain ⟨t2, a1, b1⟩ := kk r X1 T'.heap (locs ++ L) hp (by rw [e1]; exact hb) (by rw [e1]; exact hz) (fun q h1 h2 => by rw [e1]; exact hk q h1 h2)
    ⟨Nat.le_trans hS.1 (by rw [e1]; exact hz), fun q h1 h2 => by rw [e1, hk q (Nat.lt_of_lt_of_le h1 hS.1) (fun z => h2 (hA q z))]; exact hS.2.1 q h1 h2, fun q hq => by
      rcases List.mem_append.mp hq with h | h
      · exact hS.2.2 q h
      · exact hf _ (hL q h)⟩ T' rfl X'
  exact ⟨t2, st t2 a1, b1⟩
end XC
/-- a call's own rows in the tables -/
def CKB (own : String) (idx : Nat) (y : MethodName) (b : ByteArray) (mL : Nat) (rt : Option FieldType) (n : Nat) : Prop := Cond.code y b mL rt ∈ lw_g ∧ Cond.initialized y.cls ∈ lw_g ∧ (y.cls ≠ "java/lang/invoke/MethodHandle" ∧ y.cls ≠ "java/lang/invoke/VarHandle") ∧ (parseMethodDescriptor y.desc).map (fun d => d.parameters.length) = some n ∧ Cond.methodLink own idx y ∈ lw_g
theorem CKB.B {R : Room} {s : State} {args : Array Value} {own : String} {idx : Nat} {y : MethodName} {b : ByteArray} {mL : Nat} {rt : Option FieldType} {n fr lo : Nat} (h : CKB own idx y b mL rt n) (hts : ∀ x ∈ lw_g, x.before args s = true) (hR : fr + 1 ≤ R.frames ∧ 8 + (mL + 11) + lo ≤ R.locals) : CallB R s args own idx y b mL rt (Cond.code y b mL rt :: lw_g) { frames := fr, cells := 0, slots := 0, locals := lo } 0 0 n := by
  refine ⟨rfl, rfl, hR.1, hR.2, pay_in hts (lw_goodIn h.1), List.mem_cons_self, hts _ h.1, hts _ h.2.1, h.2.2.1, fun sig hs => ?_, hts _ h.2.2.2.2⟩
  have h2 := h.2.2.2.1
  rw [hs] at h2
  exact (Option.some.inj h2).symm
theorem blind_X {w : WT} {av : List Value} {X : XT} : FrameBlind (va_Pc (av.map (czV w)) (fun U => va_P (wD w) (wC w) (wsX w X) U.heap ∧ FxW w U)) :=
  fun a U g mk h => ⟨h.1, h.2.1, FxW.moved (u := U) (U := U.calling g mk a) (Vm.Alike.refl U.vm) h.2.2⟩
section XD
variable {E : ET} {w : WT} {Qp : Option Value → XT → Prop} {nL : Nat} {X : XT} {pc : Nat} {lv : List (Nat × Value)} {st : List Value} {cc : ByteArray} {own : String} {ret : Option FieldType} {rm : Room}
theorem x_callV (C : CX E w cc nL own ret rm) {y : MethodName} {b : ByteArray} {mL k ci n nn idx fr lo : Nat} {rt : Option FieldType} {Cn : String} {T : u_T} {As rest : List Value} {post : Option Value → XT → Prop} (M : MetX w y b mL rt fr lo (.ref k :: As) X post) (hw : CKB own idx y b mL rt n) (hi : Cond.instanceMethod y ∈ lw_g) (hse : Cond.selects Cn y y ∈ lw_g) (hk : k < wN w) (hs : wS w k = (0, ci, nn)) (hcl : (wC w)[ci]? = some (Cn, T, nn))
    (hst : st = As.reverse ++ .ref k :: rest) (hn : As.length = n) (hsum : (rest.map fun v => v.category).sum ≤ 8) (hR : fr + 1 ≤ rm.frames ∧ 8 + (mL + 11) + lo ≤ rm.locals) (hd : decode cc pc = .ok (.invokevirtual idx, 3)) (kk : ∀ (r : Option Value) (X' : XT), post r X' → Wx E w Qp nL X' (pc + 3) lv (r.toList ++ rest)) : Wx E w Qp nL X pc lv st := by
  obtain ⟨p, l, e, R, s, m, args, below, meth, c⟩ := E
  intro H locs ls hP hS hl
  obtain ⟨hx, hb, hml, hown, hts, hF, hret, hlk, hRm⟩ := id C
  have hRm : R = rm := hRm
  subst hRm
  subst hst
  have he := wsX_at (X := X) hk
  rw [ceX_obj hs] at he
  refine va_callX (va_runV (As := As.map (czV w)) (rest := rest.map (czV w)) ⟨hx, hb, hml, hown, hts⟩ (M l) ⟨hw.B hts hR, hts _ hi, hts _ hse⟩ ⟨blind_X, va_recv hF.K0 hP hcl he, fun U hU hW => ⟨by simp [czV], by rw [hU]; exact hP, hF.moved hW.alike⟩⟩ rfl (by rw [List.length_map]; exact hn) hl.1 (by simp [czV, List.map_reverse]) (lv_room (by rw [cat_cz]; exact hsum)) hd ⟨Nat.zero_le _, Nat.zero_le _⟩) hS (fun q h => h) (fun q h => h) (fun r X' H1 locs1 hp hP1 _ _ hS1 => ?_)
  have h := kk r X' hp H1 locs1 ls hP1 hS1 hl
  have e1 : (r.toList ++ rest).map (czV w) = (r.map (czV w)).toList ++ rest.map (czV w) := by cases r <;> rfl
  rw [e1] at h
  exact h
theorem x_callS (C : CX E w cc nL own ret rm) {y : MethodName} {b : ByteArray} {mL n idx fr lo : Nat} {rt : Option FieldType} {As rest : List Value} {post : Option Value → XT → Prop} (M : MetX w y b mL rt fr lo As X post) (hw : CKB own idx y b mL rt n) (hi : Cond.static y ∈ lw_g)
    (hst : st = As.reverse ++ rest) (hn : As.length = n) (hsum : (rest.map fun v => v.category).sum ≤ 8) (hR : fr + 1 ≤ rm.frames ∧ 8 + (mL + 11) + lo ≤ rm.locals) (hd : decode cc pc = .ok (.invokestatic idx, 3)) (kk : ∀ (r : Option Value) (X' : XT), post r X' → Wx E w Qp nL X' (pc + 3) lv (r.toList ++ rest)) : Wx E w Qp nL X pc lv st := by
  obtain ⟨p, l, e, R, s, m, args, below, meth, c⟩ := E
  intro H locs ls hP hS hl
  obtain ⟨hx, hb, hml, hown, hts, hF, hret, hlk, hRm⟩ := id C
  have hRm : R = rm := hRm
  subst hRm
  subst hst
  refine va_callX (va_runS (As := As.map (czV w)) (rest := rest.map (czV w)) ⟨hx, hb, hml, hown, hts⟩ (M l) ⟨hw.B hts hR, hts _ hi⟩ ⟨blind_X, fun U hU hW => ⟨rfl, by rw [hU]; exact hP, hF.moved hW.alike⟩⟩ rfl (by rw [List.length_map]; exact hn) hl.1 (by simp [List.map_reverse]) (lv_room (by rw [cat_cz]; exact hsum)) hd ⟨Nat.zero_le _, Nat.zero_le _⟩) hS (fun q h => h) (fun q h => h) (fun r X' H1 locs1 hp hP1 _ _ hS1 => ?_)
  have h := kk r X' hp H1 locs1 ls hP1 hS1 hl
  have e1 : (r.toList ++ rest).map (czV w) = (r.map (czV w)).toList ++ rest.map (czV w) := by cases r <;> rfl
  rw [e1] at h
  exact h
end XD
end
section
theorem tst_1 : (lw_tbl.filter (fun x => !goodWord x)).length = 0 := by decide +kernel
theorem tst_2 : (lw_tbl.filter (fun x => !goodWord x)).length = 7 := by decide +kernel
end
