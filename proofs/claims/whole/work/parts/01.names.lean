-- ===== PART A: goes FIRST, ahead of the names: the tables' words, and 'selects' of the private methods out of them =====
/-- a private method of a class that the tables say can be made, by its rows of tables_1 -/
def lw_okq (q : MethodName × Nat) : Prop := (q.1.cls ≠ "java/lang/invoke/MethodHandle" ∧ q.1.cls ≠ "java/lang/invoke/VarHandle") ∧ Cond.instantiable q.1.cls q.2 ∈ tables_1 ∧ Cond.privateMethod q.1 ∈ tables_1 ∧ Cond.instanceMethod q.1 ∈ tables_1
theorem lw_p0 : lw_okq (⟨"WireWatch$Net", "measureFrom", "(I)V"⟩, 11) := ⟨⟨by decide +kernel, by decide +kernel⟩, List.mem_of_getElem? (i := 27) (by decide +kernel), List.mem_of_getElem? (i := 382) (by decide +kernel), List.mem_of_getElem? (i := 383) (by decide +kernel)⟩
theorem lw_p1 : lw_okq (⟨"WireWatch$Net", "measureAround", "(II)V"⟩, 11) := ⟨⟨by decide +kernel, by decide +kernel⟩, List.mem_of_getElem? (i := 27) (by decide +kernel), List.mem_of_getElem? (i := 387) (by decide +kernel), List.mem_of_getElem? (i := 388) (by decide +kernel)⟩
theorem lw_p2 : lw_okq (⟨"WireWatch$Net", "firstNearer", "(I)I"⟩, 11) := ⟨⟨by decide +kernel, by decide +kernel⟩, List.mem_of_getElem? (i := 27) (by decide +kernel), List.mem_of_getElem? (i := 391) (by decide +kernel), List.mem_of_getElem? (i := 392) (by decide +kernel)⟩
theorem lw_p3 : lw_okq (⟨"WireWatch", "talkAt", "(I)LWireWatch$Talk;"⟩, 15) := ⟨⟨by decide +kernel, by decide +kernel⟩, List.mem_of_getElem? (i := 19) (by decide +kernel), List.mem_of_getElem? (i := 461) (by decide +kernel), List.mem_of_getElem? (i := 462) (by decide +kernel)⟩
theorem lw_p4 : lw_okq (⟨"WireWatch", "sheetAt", "(I)LWireWatch$Sheet;"⟩, 15) := ⟨⟨by decide +kernel, by decide +kernel⟩, List.mem_of_getElem? (i := 19) (by decide +kernel), List.mem_of_getElem? (i := 465) (by decide +kernel), List.mem_of_getElem? (i := 466) (by decide +kernel)⟩
theorem lw_p5 : lw_okq (⟨"WireWatch", "againstTaking", "(LWireWatch$Sheet;III)I"⟩, 15) := ⟨⟨by decide +kernel, by decide +kernel⟩, List.mem_of_getElem? (i := 19) (by decide +kernel), List.mem_of_getElem? (i := 472) (by decide +kernel), List.mem_of_getElem? (i := 473) (by decide +kernel)⟩
theorem lw_p6 : lw_okq (⟨"WireWatch", "faulted", "(I)I"⟩, 15) := ⟨⟨by decide +kernel, by decide +kernel⟩, List.mem_of_getElem? (i := 19) (by decide +kernel), List.mem_of_getElem? (i := 483) (by decide +kernel), List.mem_of_getElem? (i := 484) (by decide +kernel)⟩
theorem lw_p7 : lw_okq (⟨"WireWatch$Talk", "seeByte", "(II)V"⟩, 10) := ⟨⟨by decide +kernel, by decide +kernel⟩, List.mem_of_getElem? (i := 411) (by decide +kernel), List.mem_of_getElem? (i := 505) (by decide +kernel), List.mem_of_getElem? (i := 506) (by decide +kernel)⟩
theorem lw_p8 : lw_okq (⟨"WireWatch", "rowAt", "(I)LWireWatch$Row;"⟩, 15) := ⟨⟨by decide +kernel, by decide +kernel⟩, List.mem_of_getElem? (i := 19) (by decide +kernel), List.mem_of_getElem? (i := 563) (by decide +kernel), List.mem_of_getElem? (i := 564) (by decide +kernel)⟩
theorem lw_p9 : lw_okq (⟨"WireWatch$Row", "isAt", "(LWireWatch$Talk;II)Z"⟩, 2) := ⟨⟨by decide +kernel, by decide +kernel⟩, List.mem_of_getElem? (i := 543) (by decide +kernel), List.mem_of_getElem? (i := 572) (by decide +kernel), List.mem_of_getElem? (i := 573) (by decide +kernel)⟩
theorem lw_p10 : lw_okq (⟨"WireWatch", "scanOne", "(III)V"⟩, 15) := ⟨⟨by decide +kernel, by decide +kernel⟩, List.mem_of_getElem? (i := 19) (by decide +kernel), List.mem_of_getElem? (i := 585) (by decide +kernel), List.mem_of_getElem? (i := 586) (by decide +kernel)⟩
theorem lw_p11 : lw_okq (⟨"WireWatch$ChainText", "readSpan", "(LWireWatch$Sheet;III)I"⟩, 3) := ⟨⟨by decide +kernel, by decide +kernel⟩, List.mem_of_getElem? (i := 127) (by decide +kernel), List.mem_of_getElem? (i := 628) (by decide +kernel), List.mem_of_getElem? (i := 629) (by decide +kernel)⟩
theorem lw_p12 : lw_okq (⟨"WireWatch$Findings", "isChainFrom", "(ILWireWatch$ChainText;)Z"⟩, 6) := ⟨⟨by decide +kernel, by decide +kernel⟩, List.mem_of_getElem? (i := 97) (by decide +kernel), List.mem_of_getElem? (i := 636) (by decide +kernel), List.mem_of_getElem? (i := 637) (by decide +kernel)⟩
theorem lw_p13 : lw_okq (⟨"WireWatch$Findings", "earliest", "(IIIJ)I"⟩, 6) := ⟨⟨by decide +kernel, by decide +kernel⟩, List.mem_of_getElem? (i := 97) (by decide +kernel), List.mem_of_getElem? (i := 640) (by decide +kernel), List.mem_of_getElem? (i := 641) (by decide +kernel)⟩
theorem lw_p14 : lw_okq (⟨"WireWatch$Hours", "sumOf", "(II)I"⟩, 2) := ⟨⟨by decide +kernel, by decide +kernel⟩, List.mem_of_getElem? (i := 146) (by decide +kernel), List.mem_of_getElem? (i := 669) (by decide +kernel), List.mem_of_getElem? (i := 670) (by decide +kernel)⟩
theorem lw_p15 : lw_okq (⟨"WireWatch$Sketch", "indexOf", "(I)I"⟩, 4) := ⟨⟨by decide +kernel, by decide +kernel⟩, List.mem_of_getElem? (i := 160) (by decide +kernel), List.mem_of_getElem? (i := 706) (by decide +kernel), List.mem_of_getElem? (i := 707) (by decide +kernel)⟩
def lw_privs_1 : List (MethodName × Nat) := [(⟨"WireWatch$Net", "measureFrom", "(I)V"⟩, 11), (⟨"WireWatch$Net", "measureAround", "(II)V"⟩, 11), (⟨"WireWatch$Net", "firstNearer", "(I)I"⟩, 11), (⟨"WireWatch", "talkAt", "(I)LWireWatch$Talk;"⟩, 15), (⟨"WireWatch", "sheetAt", "(I)LWireWatch$Sheet;"⟩, 15), (⟨"WireWatch", "againstTaking", "(LWireWatch$Sheet;III)I"⟩, 15), (⟨"WireWatch", "faulted", "(I)I"⟩, 15), (⟨"WireWatch$Talk", "seeByte", "(II)V"⟩, 10), (⟨"WireWatch", "rowAt", "(I)LWireWatch$Row;"⟩, 15), (⟨"WireWatch$Row", "isAt", "(LWireWatch$Talk;II)Z"⟩, 2), (⟨"WireWatch", "scanOne", "(III)V"⟩, 15), (⟨"WireWatch$ChainText", "readSpan", "(LWireWatch$Sheet;III)I"⟩, 3), (⟨"WireWatch$Findings", "isChainFrom", "(ILWireWatch$ChainText;)Z"⟩, 6), (⟨"WireWatch$Findings", "earliest", "(IIIJ)I"⟩, 6), (⟨"WireWatch$Hours", "sumOf", "(II)I"⟩, 2), (⟨"WireWatch$Sketch", "indexOf", "(I)I"⟩, 4)]
theorem lw_r1 : ∀ q ∈ lw_privs_1, lw_okq q := List.forall_mem_cons.mpr ⟨lw_p0, List.forall_mem_cons.mpr ⟨lw_p1, List.forall_mem_cons.mpr ⟨lw_p2, List.forall_mem_cons.mpr ⟨lw_p3, List.forall_mem_cons.mpr ⟨lw_p4, List.forall_mem_cons.mpr ⟨lw_p5, List.forall_mem_cons.mpr ⟨lw_p6, List.forall_mem_cons.mpr ⟨lw_p7, List.forall_mem_cons.mpr ⟨lw_p8, List.forall_mem_cons.mpr ⟨lw_p9, List.forall_mem_cons.mpr ⟨lw_p10, List.forall_mem_cons.mpr ⟨lw_p11, List.forall_mem_cons.mpr ⟨lw_p12, List.forall_mem_cons.mpr ⟨lw_p13, List.forall_mem_cons.mpr ⟨lw_p14, List.forall_mem_cons.mpr ⟨lw_p15, fun _ h => absurd h List.not_mem_nil⟩⟩⟩⟩⟩⟩⟩⟩⟩⟩⟩⟩⟩⟩⟩⟩
theorem lw_p16 : lw_okq (⟨"WireWatch$Trap", "hasBarred", "(LWireWatch$Sheet;II)Z"⟩, 6) := ⟨⟨by decide +kernel, by decide +kernel⟩, List.mem_of_getElem? (i := 179) (by decide +kernel), List.mem_of_getElem? (i := 764) (by decide +kernel), List.mem_of_getElem? (i := 765) (by decide +kernel)⟩
theorem lw_p17 : lw_okq (⟨"WireWatch$Trap", "newState", "(II)I"⟩, 6) := ⟨⟨by decide +kernel, by decide +kernel⟩, List.mem_of_getElem? (i := 179) (by decide +kernel), List.mem_of_getElem? (i := 773) (by decide +kernel), List.mem_of_getElem? (i := 774) (by decide +kernel)⟩
theorem lw_p18 : lw_okq (⟨"WireWatch$Trap", "canGo", "(II)Z"⟩, 6) := ⟨⟨by decide +kernel, by decide +kernel⟩, List.mem_of_getElem? (i := 179) (by decide +kernel), List.mem_of_getElem? (i := 785) (by decide +kernel), List.mem_of_getElem? (i := 786) (by decide +kernel)⟩
theorem lw_p19 : lw_okq (⟨"WireWatch", "areDoors", "(I)Z"⟩, 15) := ⟨⟨by decide +kernel, by decide +kernel⟩, List.mem_of_getElem? (i := 19) (by decide +kernel), List.mem_of_getElem? (i := 819) (by decide +kernel), List.mem_of_getElem? (i := 820) (by decide +kernel)⟩
theorem lw_p20 : lw_okq (⟨"WireWatch", "lostBy", "(I)J"⟩, 15) := ⟨⟨by decide +kernel, by decide +kernel⟩, List.mem_of_getElem? (i := 19) (by decide +kernel), List.mem_of_getElem? (i := 894) (by decide +kernel), List.mem_of_getElem? (i := 895) (by decide +kernel)⟩
theorem lw_p21 : lw_okq (⟨"WireWatch", "tellingOfCarried", "(LWireWatch$Talk;)I"⟩, 15) := ⟨⟨by decide +kernel, by decide +kernel⟩, List.mem_of_getElem? (i := 19) (by decide +kernel), List.mem_of_getElem? (i := 907) (by decide +kernel), List.mem_of_getElem? (i := 908) (by decide +kernel)⟩
theorem lw_p22 : lw_okq (⟨"WireWatch", "leave", "(I)V"⟩, 15) := ⟨⟨by decide +kernel, by decide +kernel⟩, List.mem_of_getElem? (i := 19) (by decide +kernel), List.mem_of_getElem? (i := 911) (by decide +kernel), List.mem_of_getElem? (i := 912) (by decide +kernel)⟩
theorem lw_p23 : lw_okq (⟨"WireWatch", "tellingOfSealed", "(LWireWatch$Talk;)I"⟩, 15) := ⟨⟨by decide +kernel, by decide +kernel⟩, List.mem_of_getElem? (i := 19) (by decide +kernel), List.mem_of_getElem? (i := 915) (by decide +kernel), List.mem_of_getElem? (i := 916) (by decide +kernel)⟩
theorem lw_p24 : lw_okq (⟨"WireWatch", "tellingOfTalk", "(LWireWatch$Talk;)I"⟩, 15) := ⟨⟨by decide +kernel, by decide +kernel⟩, List.mem_of_getElem? (i := 19) (by decide +kernel), List.mem_of_getElem? (i := 919) (by decide +kernel), List.mem_of_getElem? (i := 920) (by decide +kernel)⟩
theorem lw_p25 : lw_okq (⟨"WireWatchModel", "noRoad", "(II)Z"⟩, 55) := ⟨⟨by decide +kernel, by decide +kernel⟩, List.mem_of_getElem? (i := 943) (by decide +kernel), List.mem_of_getElem? (i := 1134) (by decide +kernel), List.mem_of_getElem? (i := 1135) (by decide +kernel)⟩
theorem lw_p26 : lw_okq (⟨"WireWatchModel", "layFar", "(IIZ)V"⟩, 55) := ⟨⟨by decide +kernel, by decide +kernel⟩, List.mem_of_getElem? (i := 943) (by decide +kernel), List.mem_of_getElem? (i := 1151) (by decide +kernel), List.mem_of_getElem? (i := 1152) (by decide +kernel)⟩
theorem lw_p27 : lw_okq (⟨"WireWatchModel", "isOpen", "(IIIZ)Z"⟩, 55) := ⟨⟨by decide +kernel, by decide +kernel⟩, List.mem_of_getElem? (i := 943) (by decide +kernel), List.mem_of_getElem? (i := 1155) (by decide +kernel), List.mem_of_getElem? (i := 1156) (by decide +kernel)⟩
theorem lw_p28 : lw_okq (⟨"WireWatchModel", "nextOn", "(I)I"⟩, 55) := ⟨⟨by decide +kernel, by decide +kernel⟩, List.mem_of_getElem? (i := 943) (by decide +kernel), List.mem_of_getElem? (i := 1159) (by decide +kernel), List.mem_of_getElem? (i := 1160) (by decide +kernel)⟩
theorem lw_p29 : lw_okq (⟨"WireWatchModel", "noTalk", "(I)Z"⟩, 55) := ⟨⟨by decide +kernel, by decide +kernel⟩, List.mem_of_getElem? (i := 943) (by decide +kernel), List.mem_of_getElem? (i := 1176) (by decide +kernel), List.mem_of_getElem? (i := 1177) (by decide +kernel)⟩
theorem lw_p30 : lw_okq (⟨"WireWatchModel", "refused", "(I)I"⟩, 55) := ⟨⟨by decide +kernel, by decide +kernel⟩, List.mem_of_getElem? (i := 943) (by decide +kernel), List.mem_of_getElem? (i := 1184) (by decide +kernel), List.mem_of_getElem? (i := 1185) (by decide +kernel)⟩
theorem lw_p31 : lw_okq (⟨"WireWatchModel", "barred", "(IIIJ)I"⟩, 55) := ⟨⟨by decide +kernel, by decide +kernel⟩, List.mem_of_getElem? (i := 943) (by decide +kernel), List.mem_of_getElem? (i := 1193) (by decide +kernel), List.mem_of_getElem? (i := 1194) (by decide +kernel)⟩
def lw_privs_2 : List (MethodName × Nat) := [(⟨"WireWatch$Trap", "hasBarred", "(LWireWatch$Sheet;II)Z"⟩, 6), (⟨"WireWatch$Trap", "newState", "(II)I"⟩, 6), (⟨"WireWatch$Trap", "canGo", "(II)Z"⟩, 6), (⟨"WireWatch", "areDoors", "(I)Z"⟩, 15), (⟨"WireWatch", "lostBy", "(I)J"⟩, 15), (⟨"WireWatch", "tellingOfCarried", "(LWireWatch$Talk;)I"⟩, 15), (⟨"WireWatch", "leave", "(I)V"⟩, 15), (⟨"WireWatch", "tellingOfSealed", "(LWireWatch$Talk;)I"⟩, 15), (⟨"WireWatch", "tellingOfTalk", "(LWireWatch$Talk;)I"⟩, 15), (⟨"WireWatchModel", "noRoad", "(II)Z"⟩, 55), (⟨"WireWatchModel", "layFar", "(IIZ)V"⟩, 55), (⟨"WireWatchModel", "isOpen", "(IIIZ)Z"⟩, 55), (⟨"WireWatchModel", "nextOn", "(I)I"⟩, 55), (⟨"WireWatchModel", "noTalk", "(I)Z"⟩, 55), (⟨"WireWatchModel", "refused", "(I)I"⟩, 55), (⟨"WireWatchModel", "barred", "(IIIJ)I"⟩, 55)]
theorem lw_r2 : ∀ q ∈ lw_privs_2, lw_okq q := List.forall_mem_cons.mpr ⟨lw_p16, List.forall_mem_cons.mpr ⟨lw_p17, List.forall_mem_cons.mpr ⟨lw_p18, List.forall_mem_cons.mpr ⟨lw_p19, List.forall_mem_cons.mpr ⟨lw_p20, List.forall_mem_cons.mpr ⟨lw_p21, List.forall_mem_cons.mpr ⟨lw_p22, List.forall_mem_cons.mpr ⟨lw_p23, List.forall_mem_cons.mpr ⟨lw_p24, List.forall_mem_cons.mpr ⟨lw_p25, List.forall_mem_cons.mpr ⟨lw_p26, List.forall_mem_cons.mpr ⟨lw_p27, List.forall_mem_cons.mpr ⟨lw_p28, List.forall_mem_cons.mpr ⟨lw_p29, List.forall_mem_cons.mpr ⟨lw_p30, List.forall_mem_cons.mpr ⟨lw_p31, fun _ h => absurd h List.not_mem_nil⟩⟩⟩⟩⟩⟩⟩⟩⟩⟩⟩⟩⟩⟩⟩⟩
theorem lw_p32 : lw_okq (⟨"WireWatchModel", "failed", "(I)I"⟩, 55) := ⟨⟨by decide +kernel, by decide +kernel⟩, List.mem_of_getElem? (i := 943) (by decide +kernel), List.mem_of_getElem? (i := 1197) (by decide +kernel), List.mem_of_getElem? (i := 1198) (by decide +kernel)⟩
theorem lw_p33 : lw_okq (⟨"WireWatchModel", "areCells", "(IIII)Z"⟩, 55) := ⟨⟨by decide +kernel, by decide +kernel⟩, List.mem_of_getElem? (i := 943) (by decide +kernel), List.mem_of_getElem? (i := 1205) (by decide +kernel), List.mem_of_getElem? (i := 1206) (by decide +kernel)⟩
theorem lw_p34 : lw_okq (⟨"WireWatchModel", "isSeen", "(I)Z"⟩, 55) := ⟨⟨by decide +kernel, by decide +kernel⟩, List.mem_of_getElem? (i := 943) (by decide +kernel), List.mem_of_getElem? (i := 1209) (by decide +kernel), List.mem_of_getElem? (i := 1210) (by decide +kernel)⟩
theorem lw_p35 : lw_okq (⟨"WireWatchModel", "take", "(III)V"⟩, 55) := ⟨⟨by decide +kernel, by decide +kernel⟩, List.mem_of_getElem? (i := 943) (by decide +kernel), List.mem_of_getElem? (i := 1213) (by decide +kernel), List.mem_of_getElem? (i := 1214) (by decide +kernel)⟩
theorem lw_p36 : lw_okq (⟨"WireWatchModel", "joinedOf", "(I)I"⟩, 55) := ⟨⟨by decide +kernel, by decide +kernel⟩, List.mem_of_getElem? (i := 943) (by decide +kernel), List.mem_of_getElem? (i := 1221) (by decide +kernel), List.mem_of_getElem? (i := 1222) (by decide +kernel)⟩
theorem lw_p37 : lw_okq (⟨"WireWatchModel", "lengthOf", "(I)I"⟩, 55) := ⟨⟨by decide +kernel, by decide +kernel⟩, List.mem_of_getElem? (i := 943) (by decide +kernel), List.mem_of_getElem? (i := 1225) (by decide +kernel), List.mem_of_getElem? (i := 1226) (by decide +kernel)⟩
theorem lw_p38 : lw_okq (⟨"WireWatchModel", "byteAt", "(III)I"⟩, 55) := ⟨⟨by decide +kernel, by decide +kernel⟩, List.mem_of_getElem? (i := 943) (by decide +kernel), List.mem_of_getElem? (i := 1234) (by decide +kernel), List.mem_of_getElem? (i := 1235) (by decide +kernel)⟩
theorem lw_p39 : lw_okq (⟨"WireWatchModel", "noRow", "(I)Z"⟩, 55) := ⟨⟨by decide +kernel, by decide +kernel⟩, List.mem_of_getElem? (i := 943) (by decide +kernel), List.mem_of_getElem? (i := 1247) (by decide +kernel), List.mem_of_getElem? (i := 1248) (by decide +kernel)⟩
theorem lw_p40 : lw_okq (⟨"WireWatchModel", "fitsOf", "(IIII)I"⟩, 55) := ⟨⟨by decide +kernel, by decide +kernel⟩, List.mem_of_getElem? (i := 943) (by decide +kernel), List.mem_of_getElem? (i := 1251) (by decide +kernel), List.mem_of_getElem? (i := 1252) (by decide +kernel)⟩
theorem lw_p41 : lw_okq (⟨"WireWatchModel", "doesFit", "(IIIII)Z"⟩, 55) := ⟨⟨by decide +kernel, by decide +kernel⟩, List.mem_of_getElem? (i := 943) (by decide +kernel), List.mem_of_getElem? (i := 1255) (by decide +kernel), List.mem_of_getElem? (i := 1256) (by decide +kernel)⟩
theorem lw_p42 : lw_okq (⟨"WireWatchModel", "isFound", "(II)Z"⟩, 55) := ⟨⟨by decide +kernel, by decide +kernel⟩, List.mem_of_getElem? (i := 943) (by decide +kernel), List.mem_of_getElem? (i := 1263) (by decide +kernel), List.mem_of_getElem? (i := 1264) (by decide +kernel)⟩
theorem lw_p43 : lw_okq (⟨"WireWatchModel", "readChain", "(II)I"⟩, 55) := ⟨⟨by decide +kernel, by decide +kernel⟩, List.mem_of_getElem? (i := 943) (by decide +kernel), List.mem_of_getElem? (i := 1293) (by decide +kernel), List.mem_of_getElem? (i := 1294) (by decide +kernel)⟩
theorem lw_p44 : lw_okq (⟨"WireWatchModel", "hasFrom", "(II)Z"⟩, 55) := ⟨⟨by decide +kernel, by decide +kernel⟩, List.mem_of_getElem? (i := 943) (by decide +kernel), List.mem_of_getElem? (i := 1299) (by decide +kernel), List.mem_of_getElem? (i := 1300) (by decide +kernel)⟩
theorem lw_p45 : lw_okq (⟨"WireWatchModel", "findAfter", "(III)I"⟩, 55) := ⟨⟨by decide +kernel, by decide +kernel⟩, List.mem_of_getElem? (i := 943) (by decide +kernel), List.mem_of_getElem? (i := 1303) (by decide +kernel), List.mem_of_getElem? (i := 1304) (by decide +kernel)⟩
theorem lw_p46 : lw_okq (⟨"WireWatchModel", "sumIn", "(II)I"⟩, 55) := ⟨⟨by decide +kernel, by decide +kernel⟩, List.mem_of_getElem? (i := 943) (by decide +kernel), List.mem_of_getElem? (i := 1320) (by decide +kernel), List.mem_of_getElem? (i := 1321) (by decide +kernel)⟩
theorem lw_p47 : lw_okq (⟨"WireWatchModel", "thingOf", "(I)I"⟩, 55) := ⟨⟨by decide +kernel, by decide +kernel⟩, List.mem_of_getElem? (i := 943) (by decide +kernel), List.mem_of_getElem? (i := 1344) (by decide +kernel), List.mem_of_getElem? (i := 1345) (by decide +kernel)⟩
def lw_privs_3 : List (MethodName × Nat) := [(⟨"WireWatchModel", "failed", "(I)I"⟩, 55), (⟨"WireWatchModel", "areCells", "(IIII)Z"⟩, 55), (⟨"WireWatchModel", "isSeen", "(I)Z"⟩, 55), (⟨"WireWatchModel", "take", "(III)V"⟩, 55), (⟨"WireWatchModel", "joinedOf", "(I)I"⟩, 55), (⟨"WireWatchModel", "lengthOf", "(I)I"⟩, 55), (⟨"WireWatchModel", "byteAt", "(III)I"⟩, 55), (⟨"WireWatchModel", "noRow", "(I)Z"⟩, 55), (⟨"WireWatchModel", "fitsOf", "(IIII)I"⟩, 55), (⟨"WireWatchModel", "doesFit", "(IIIII)Z"⟩, 55), (⟨"WireWatchModel", "isFound", "(II)Z"⟩, 55), (⟨"WireWatchModel", "readChain", "(II)I"⟩, 55), (⟨"WireWatchModel", "hasFrom", "(II)Z"⟩, 55), (⟨"WireWatchModel", "findAfter", "(III)I"⟩, 55), (⟨"WireWatchModel", "sumIn", "(II)I"⟩, 55), (⟨"WireWatchModel", "thingOf", "(I)I"⟩, 55)]
theorem lw_r3 : ∀ q ∈ lw_privs_3, lw_okq q := List.forall_mem_cons.mpr ⟨lw_p32, List.forall_mem_cons.mpr ⟨lw_p33, List.forall_mem_cons.mpr ⟨lw_p34, List.forall_mem_cons.mpr ⟨lw_p35, List.forall_mem_cons.mpr ⟨lw_p36, List.forall_mem_cons.mpr ⟨lw_p37, List.forall_mem_cons.mpr ⟨lw_p38, List.forall_mem_cons.mpr ⟨lw_p39, List.forall_mem_cons.mpr ⟨lw_p40, List.forall_mem_cons.mpr ⟨lw_p41, List.forall_mem_cons.mpr ⟨lw_p42, List.forall_mem_cons.mpr ⟨lw_p43, List.forall_mem_cons.mpr ⟨lw_p44, List.forall_mem_cons.mpr ⟨lw_p45, List.forall_mem_cons.mpr ⟨lw_p46, List.forall_mem_cons.mpr ⟨lw_p47, fun _ h => absurd h List.not_mem_nil⟩⟩⟩⟩⟩⟩⟩⟩⟩⟩⟩⟩⟩⟩⟩⟩
theorem lw_p48 : lw_okq (⟨"WireWatchModel", "toldOf", "(I)I"⟩, 55) := ⟨⟨by decide +kernel, by decide +kernel⟩, List.mem_of_getElem? (i := 943) (by decide +kernel), List.mem_of_getElem? (i := 1351) (by decide +kernel), List.mem_of_getElem? (i := 1352) (by decide +kernel)⟩
theorem lw_p49 : lw_okq (⟨"WireWatchModel", "isBarred", "(II)Z"⟩, 55) := ⟨⟨by decide +kernel, by decide +kernel⟩, List.mem_of_getElem? (i := 943) (by decide +kernel), List.mem_of_getElem? (i := 1373) (by decide +kernel), List.mem_of_getElem? (i := 1374) (by decide +kernel)⟩
theorem lw_p50 : lw_okq (⟨"WireWatchModel", "noGrowing", "(II)I"⟩, 55) := ⟨⟨by decide +kernel, by decide +kernel⟩, List.mem_of_getElem? (i := 943) (by decide +kernel), List.mem_of_getElem? (i := 1382) (by decide +kernel), List.mem_of_getElem? (i := 1383) (by decide +kernel)⟩
theorem lw_p51 : lw_okq (⟨"WireWatchModel", "noState", "(I)Z"⟩, 55) := ⟨⟨by decide +kernel, by decide +kernel⟩, List.mem_of_getElem? (i := 943) (by decide +kernel), List.mem_of_getElem? (i := 1394) (by decide +kernel), List.mem_of_getElem? (i := 1395) (by decide +kernel)⟩
theorem lw_p52 : lw_okq (⟨"WireWatchModel", "areDoors", "(I)Z"⟩, 55) := ⟨⟨by decide +kernel, by decide +kernel⟩, List.mem_of_getElem? (i := 943) (by decide +kernel), List.mem_of_getElem? (i := 1414) (by decide +kernel), List.mem_of_getElem? (i := 1415) (by decide +kernel)⟩
theorem lw_p53 : lw_okq (⟨"WireWatchModel", "stillBy", "(I)I"⟩, 55) := ⟨⟨by decide +kernel, by decide +kernel⟩, List.mem_of_getElem? (i := 943) (by decide +kernel), List.mem_of_getElem? (i := 1418) (by decide +kernel), List.mem_of_getElem? (i := 1419) (by decide +kernel)⟩
theorem lw_p54 : lw_okq (⟨"WireWatchModel", "harmOf", "(I)I"⟩, 55) := ⟨⟨by decide +kernel, by decide +kernel⟩, List.mem_of_getElem? (i := 943) (by decide +kernel), List.mem_of_getElem? (i := 1422) (by decide +kernel), List.mem_of_getElem? (i := 1423) (by decide +kernel)⟩
theorem lw_p55 : lw_okq (⟨"WireWatchModel", "areParted", "(III)Z"⟩, 55) := ⟨⟨by decide +kernel, by decide +kernel⟩, List.mem_of_getElem? (i := 943) (by decide +kernel), List.mem_of_getElem? (i := 1434) (by decide +kernel), List.mem_of_getElem? (i := 1435) (by decide +kernel)⟩
theorem lw_p56 : lw_okq (⟨"WireWatchModel", "noCell", "(II)I"⟩, 55) := ⟨⟨by decide +kernel, by decide +kernel⟩, List.mem_of_getElem? (i := 943) (by decide +kernel), List.mem_of_getElem? (i := 1469) (by decide +kernel), List.mem_of_getElem? (i := 1470) (by decide +kernel)⟩
theorem lw_p57 : lw_okq (⟨"WireWatchModel", "failedLong", "(I)J"⟩, 55) := ⟨⟨by decide +kernel, by decide +kernel⟩, List.mem_of_getElem? (i := 943) (by decide +kernel), List.mem_of_getElem? (i := 1477) (by decide +kernel), List.mem_of_getElem? (i := 1478) (by decide +kernel)⟩
theorem lw_p58 : lw_okq (⟨"WireWatchModel", "traced", "(I)V"⟩, 55) := ⟨⟨by decide +kernel, by decide +kernel⟩, List.mem_of_getElem? (i := 943) (by decide +kernel), List.mem_of_getElem? (i := 1489) (by decide +kernel), List.mem_of_getElem? (i := 1490) (by decide +kernel)⟩
def lw_privs_4 : List (MethodName × Nat) := [(⟨"WireWatchModel", "toldOf", "(I)I"⟩, 55), (⟨"WireWatchModel", "isBarred", "(II)Z"⟩, 55), (⟨"WireWatchModel", "noGrowing", "(II)I"⟩, 55), (⟨"WireWatchModel", "noState", "(I)Z"⟩, 55), (⟨"WireWatchModel", "areDoors", "(I)Z"⟩, 55), (⟨"WireWatchModel", "stillBy", "(I)I"⟩, 55), (⟨"WireWatchModel", "harmOf", "(I)I"⟩, 55), (⟨"WireWatchModel", "areParted", "(III)Z"⟩, 55), (⟨"WireWatchModel", "noCell", "(II)I"⟩, 55), (⟨"WireWatchModel", "failedLong", "(I)J"⟩, 55), (⟨"WireWatchModel", "traced", "(I)V"⟩, 55)]
theorem lw_r4 : ∀ q ∈ lw_privs_4, lw_okq q := List.forall_mem_cons.mpr ⟨lw_p48, List.forall_mem_cons.mpr ⟨lw_p49, List.forall_mem_cons.mpr ⟨lw_p50, List.forall_mem_cons.mpr ⟨lw_p51, List.forall_mem_cons.mpr ⟨lw_p52, List.forall_mem_cons.mpr ⟨lw_p53, List.forall_mem_cons.mpr ⟨lw_p54, List.forall_mem_cons.mpr ⟨lw_p55, List.forall_mem_cons.mpr ⟨lw_p56, List.forall_mem_cons.mpr ⟨lw_p57, List.forall_mem_cons.mpr ⟨lw_p58, fun _ h => absurd h List.not_mem_nil⟩⟩⟩⟩⟩⟩⟩⟩⟩⟩⟩
def lw_privs : List (MethodName × Nat) := lw_privs_1 ++ (lw_privs_2 ++ (lw_privs_3 ++ (lw_privs_4)))
def lw_tbl : List Cond := k2_sels lw_privs ++ tables_1
theorem lw_privs_ok : ∀ q ∈ lw_privs, lw_okq q := by
  show ∀ q ∈ lw_privs_1 ++ (lw_privs_2 ++ (lw_privs_3 ++ (lw_privs_4))), lw_okq q
  exact List.forall_mem_append.mpr ⟨lw_r1, List.forall_mem_append.mpr ⟨lw_r2, List.forall_mem_append.mpr ⟨lw_r3, lw_r4⟩⟩⟩

/-! ===== BEGIN words of one list among another's, by their places ===== -/
theorem goodIn_r {big : List Cond} (ws : List Cond) (ps : List Nat) (hp : ws = ps.filterMap (fun i => big[i]?)) (h : ws.all goodWord = true) : GoodIn big ws := by
  intro w hw
  have h1 := List.all_eq_true.mp h w hw
  rw [hp] at hw
  obtain ⟨i, -, hi⟩ := List.mem_filterMap.mp hw
  have hm : w ∈ big := by first | exact List.mem_of_getElem? hi | exact List.getElem?_mem hi
  exact ⟨hm, good_of_word h1⟩
theorem goodIn_app {big a b : List Cond} (ha : GoodIn big a) (hb : GoodIn big b) : GoodIn big (a ++ b) := fun w h => (List.mem_append.mp h).elim (ha w) (hb w)
theorem goodIn_ca {big a b : List Cond} {c : Cond} (ha : GoodIn big (c :: a)) (hb : GoodIn big b) : GoodIn big (c :: (a ++ b)) := fun w h => (List.mem_cons.mp h).elim (fun e => ha w (List.mem_cons.mpr (Or.inl e))) (fun h => (List.mem_append.mp h).elim (fun h => ha w (List.mem_cons.mpr (Or.inr h))) (hb w))
theorem goodIn_sub {big ws : List Cond} (hm : ∀ w ∈ ws, w ∈ big) (h : ws.all goodWord = true) : GoodIn big ws := fun w hw => ⟨hm w hw, good_of_word (List.all_eq_true.mp h w hw)⟩
/-! ===== END ===== -/

/-! ===== BEGIN printed: names, fields, word lists, decode rows ===== -/
def RX0 : String := "WireWatch$ChainText"
def TX0 : u_T := fun k => match k with
  | 0 => ("WireWatch$ChainText", "links", "[I", true)
  | 1 => ("WireWatch$ChainText", "size", "I", false)
  | _ => ("WireWatch$ChainText", "span", "I", false)
def tyX0 : Nat → FieldType := fun k => match k with
  | 0 => .array .int
  | 1 => .int
  | _ => .int
abbrev wsX00 : List Cond := u_ws RX0 TX0 3
theorem nmX0 : ∀ a, a < 3 → ∀ b, b < 3 → a ≠ b → (TX0 a).2.1 ≠ (TX0 b).2.1 := by decide +kernel
theorem tyX0_ok : ∀ k, k < 3 → parseFieldDescriptor (TX0 k).2.2.1 = some (tyX0 k) := by decide +kernel
abbrev cX0_init : ByteArray := prog_2_method_1_code
def yX0_init : MethodName := ⟨RX0, "<init>", "()V"⟩
abbrev cX0_read : ByteArray := prog_2_method_2_code
def yX0_read : MethodName := ⟨RX0, "read", "(LWireWatch$Sheet;III)I"⟩
abbrev cX0_readSpan : ByteArray := prog_2_method_3_code
def yX0_readSpan : MethodName := ⟨RX0, "readSpan", "(LWireWatch$Sheet;III)I"⟩
def RX1 : String := "WireWatch$Findings"
def TX1 : u_T := fun k => match k with
  | 0 => ("WireWatch$Findings", "rowOf", "[I", true)
  | 1 => ("WireWatch$Findings", "talkOf", "[I", true)
  | 2 => ("WireWatch$Findings", "machineOf", "[I", true)
  | 3 => ("WireWatch$Findings", "tickOf", "[I", true)
  | 4 => ("WireWatch$Findings", "verdict", "[I", true)
  | _ => ("WireWatch$Findings", "found", "I", false)
def tyX1 : Nat → FieldType := fun k => match k with
  | 0 => .array .int
  | 1 => .array .int
  | 2 => .array .int
  | 3 => .array .int
  | 4 => .array .int
  | _ => .int
abbrev wsX10 : List Cond := u_ws RX1 TX1 6
theorem nmX1 : ∀ a, a < 6 → ∀ b, b < 6 → a ≠ b → (TX1 a).2.1 ≠ (TX1 b).2.1 := by decide +kernel
theorem tyX1_ok : ∀ k, k < 6 → parseFieldDescriptor (TX1 k).2.2.1 = some (tyX1 k) := by decide +kernel
abbrev cX1_init : ByteArray := prog_3_method_1_code
def yX1_init : MethodName := ⟨RX1, "<init>", "()V"⟩
abbrev cX1_isThere : ByteArray := prog_3_method_2_code
def yX1_isThere : MethodName := ⟨RX1, "isThere", "(II)Z"⟩
abbrev cX1_keep : ByteArray := prog_3_method_3_code
def yX1_keep : MethodName := ⟨RX1, "keep", "(ILWireWatch$Talk;I)V"⟩
abbrev cX1_countOf : ByteArray := prog_3_method_4_code
def yX1_countOf : MethodName := ⟨RX1, "countOf", "(II)I"⟩
abbrev cX1_machinesWith : ByteArray := prog_3_method_5_code
def yX1_machinesWith : MethodName := ⟨RX1, "machinesWith", "(LWireWatch$ChainText;)I"⟩
abbrev cX1_isChainFrom : ByteArray := prog_3_method_6_code
def yX1_isChainFrom : MethodName := ⟨RX1, "isChainFrom", "(ILWireWatch$ChainText;)Z"⟩
abbrev cX1_earliest : ByteArray := prog_3_method_7_code
def yX1_earliest : MethodName := ⟨RX1, "earliest", "(IIIJ)I"⟩
def RX2 : String := "WireWatch$Hours"
def TX2 : u_T := fun k => match k with
  | 0 => ("WireWatch$Hours", "counts", "[I", true)
  | _ => ("WireWatch$Hours", "groupOf", "[I", true)
def tyX2 : Nat → FieldType := fun k => match k with
  | 0 => .array .int
  | _ => .array .int
abbrev wsX20 : List Cond := u_ws RX2 TX2 2
theorem nmX2 : ∀ a, a < 2 → ∀ b, b < 2 → a ≠ b → (TX2 a).2.1 ≠ (TX2 b).2.1 := by decide +kernel
theorem tyX2_ok : ∀ k, k < 2 → parseFieldDescriptor (TX2 k).2.2.1 = some (tyX2 k) := by decide +kernel
abbrev cX2_init : ByteArray := prog_4_method_1_code
def yX2_init : MethodName := ⟨RX2, "<init>", "()V"⟩
abbrev cX2_change : ByteArray := prog_4_method_2_code
def yX2_change : MethodName := ⟨RX2, "change", "(III)I"⟩
abbrev cX2_sumOf : ByteArray := prog_4_method_3_code
def yX2_sumOf : MethodName := ⟨RX2, "sumOf", "(II)I"⟩
abbrev cX2_setsAsLarge : ByteArray := prog_4_method_4_code
def yX2_setsAsLarge : MethodName := ⟨RX2, "setsAsLarge", "(I)I"⟩
abbrev cX2_setsAsGreat : ByteArray := prog_4_method_5_code
def yX2_setsAsGreat : MethodName := ⟨RX2, "setsAsGreat", "(II)I"⟩
abbrev cX2_setsWith : ByteArray := prog_4_method_6_code
def yX2_setsWith : MethodName := ⟨RX2, "setsWith", "([IIIII)I"⟩
abbrev cX2_likesOf : ByteArray := prog_4_method_7_code
def yX2_likesOf : MethodName := ⟨RX2, "likesOf", "(II)I"⟩
def RX3 : String := "WireWatch$Keepers"
def TX3 : u_T := fun k => match k with
  | 0 => ("WireWatch$Keepers", "till", "[I", true)
  | 1 => ("WireWatch$Keepers", "kept", "[I", true)
  | 2 => ("WireWatch$Keepers", "keptBarred", "[I", true)
  | _ => ("WireWatch$Keepers", "keptByAll", "I", false)
def tyX3 : Nat → FieldType := fun k => match k with
  | 0 => .array .int
  | 1 => .array .int
  | 2 => .array .int
  | _ => .int
abbrev wsX30 : List Cond := u_ws RX3 TX3 4
theorem nmX3 : ∀ a, a < 4 → ∀ b, b < 4 → a ≠ b → (TX3 a).2.1 ≠ (TX3 b).2.1 := by decide +kernel
theorem tyX3_ok : ∀ k, k < 4 → parseFieldDescriptor (TX3 k).2.2.1 = some (tyX3 k) := by decide +kernel
abbrev cX3_init : ByteArray := prog_5_method_1_code
def yX3_init : MethodName := ⟨RX3, "<init>", "()V"⟩
abbrev cX3_allow : ByteArray := prog_5_method_2_code
def yX3_allow : MethodName := ⟨RX3, "allow", "(III)I"⟩
abbrev cX3_keepLook : ByteArray := prog_5_method_3_code
def yX3_keepLook : MethodName := ⟨RX3, "keepLook", "(III)I"⟩
def RX4 : String := "WireWatch$Net"
def TX4 : u_T := fun k => match k with
  | 0 => ("WireWatch$Net", "roadsOf", "[I", true)
  | 1 => ("WireWatch$Net", "postsOf", "[I", true)
  | 2 => ("WireWatch$Net", "doorFrom", "[I", true)
  | 3 => ("WireWatch$Net", "doorTo", "[I", true)
  | 4 => ("WireWatch$Net", "open", "[I", true)
  | 5 => ("WireWatch$Net", "farFromEnd", "[I", true)
  | 6 => ("WireWatch$Net", "onWay", "[I", true)
  | 7 => ("WireWatch$Net", "wayRoads", "I", false)
  | 8 => ("WireWatch$Net", "roadCount", "I", false)
  | 9 => ("WireWatch$Net", "doors", "I", false)
  | _ => ("WireWatch$Net", "shutDoors", "I", false)
def tyX4 : Nat → FieldType := fun k => match k with
  | 0 => .array .int
  | 1 => .array .int
  | 2 => .array .int
  | 3 => .array .int
  | 4 => .array .int
  | 5 => .array .int
  | 6 => .array .int
  | 7 => .int
  | 8 => .int
  | 9 => .int
  | _ => .int
abbrev wsX40 : List Cond := u_ws RX4 TX4 11
theorem nmX4 : ∀ a, a < 11 → ∀ b, b < 11 → a ≠ b → (TX4 a).2.1 ≠ (TX4 b).2.1 := by decide +kernel
theorem tyX4_ok : ∀ k, k < 11 → parseFieldDescriptor (TX4 k).2.2.1 = some (tyX4 k) := by decide +kernel
abbrev cX4_init : ByteArray := prog_6_method_1_code
def yX4_init : MethodName := ⟨RX4, "<init>", "()V"⟩
abbrev cX4_hasRoad : ByteArray := prog_6_method_2_code
def yX4_hasRoad : MethodName := ⟨RX4, "hasRoad", "(II)Z"⟩
abbrev cX4_hasPost : ByteArray := prog_6_method_3_code
def yX4_hasPost : MethodName := ⟨RX4, "hasPost", "(II)Z"⟩
abbrev cX4_layRoad : ByteArray := prog_6_method_4_code
def yX4_layRoad : MethodName := ⟨RX4, "layRoad", "(II)V"⟩
abbrev cX4_takeRoad : ByteArray := prog_6_method_5_code
def yX4_takeRoad : MethodName := ⟨RX4, "takeRoad", "(II)V"⟩
abbrev cX4_turnPost : ByteArray := prog_6_method_6_code
def yX4_turnPost : MethodName := ⟨RX4, "turnPost", "(II)V"⟩
abbrev cX4_doorBetween : ByteArray := prog_6_method_7_code
def yX4_doorBetween : MethodName := ⟨RX4, "doorBetween", "(II)I"⟩
abbrev cX4_doorOn : ByteArray := prog_6_method_8_code
def yX4_doorOn : MethodName := ⟨RX4, "doorOn", "(II)I"⟩
abbrev cX4_doorStands : ByteArray := prog_6_method_9_code
def yX4_doorStands : MethodName := ⟨RX4, "doorStands", "(I)Z"⟩
abbrev cX4_isShut : ByteArray := prog_6_method_10_code
def yX4_isShut : MethodName := ⟨RX4, "isShut", "(I)Z"⟩
abbrev cX4_turnDoor : ByteArray := prog_6_method_11_code
def yX4_turnDoor : MethodName := ⟨RX4, "turnDoor", "(I)V"⟩
abbrev cX4_openRoads : ByteArray := prog_6_method_12_code
def yX4_openRoads : MethodName := ⟨RX4, "openRoads", "(I)V"⟩
abbrev cX4_leavePosts : ByteArray := prog_6_method_13_code
def yX4_leavePosts : MethodName := ⟨RX4, "leavePosts", "()V"⟩
abbrev cX4_reach : ByteArray := prog_6_method_14_code
def yX4_reach : MethodName := ⟨RX4, "reach", "(I)I"⟩
abbrev cX4_parts : ByteArray := prog_6_method_15_code
def yX4_parts : MethodName := ⟨RX4, "parts", "(II)Z"⟩
abbrev cX4_findWay : ByteArray := prog_6_method_16_code
def yX4_findWay : MethodName := ⟨RX4, "findWay", "(II)Z"⟩
abbrev cX4_measureFrom : ByteArray := prog_6_method_17_code
def yX4_measureFrom : MethodName := ⟨RX4, "measureFrom", "(I)V"⟩
abbrev cX4_measureAround : ByteArray := prog_6_method_18_code
def yX4_measureAround : MethodName := ⟨RX4, "measureAround", "(II)V"⟩
abbrev cX4_firstNearer : ByteArray := prog_6_method_19_code
def yX4_firstNearer : MethodName := ⟨RX4, "firstNearer", "(I)I"⟩
abbrev cX4_wayHasPost : ByteArray := prog_6_method_20_code
def yX4_wayHasPost : MethodName := ⟨RX4, "wayHasPost", "()Z"⟩
def RX5 : String := "WireWatch$Row"
def TX5 : u_T := fun k => match k with
  | 0 => ("WireWatch$Row", "wanted", "[I", true)
  | _ => ("WireWatch$Row", "size", "I", true)
def tyX5 : Nat → FieldType := fun k => match k with
  | 0 => .array .int
  | _ => .int
abbrev wsX50 : List Cond := u_ws RX5 TX5 2
theorem nmX5 : ∀ a, a < 2 → ∀ b, b < 2 → a ≠ b → (TX5 a).2.1 ≠ (TX5 b).2.1 := by decide +kernel
theorem tyX5_ok : ∀ k, k < 2 → parseFieldDescriptor (TX5 k).2.2.1 = some (tyX5 k) := by decide +kernel
abbrev cX5_init : ByteArray := prog_7_method_1_code
def yX5_init : MethodName := ⟨RX5, "<init>", "(LWireWatch$Sheet;II)V"⟩
abbrev cX5_isAt : ByteArray := prog_7_method_2_code
def yX5_isAt : MethodName := ⟨RX5, "isAt", "(LWireWatch$Talk;II)Z"⟩
abbrev cX5_placesIn : ByteArray := prog_7_method_3_code
def yX5_placesIn : MethodName := ⟨RX5, "placesIn", "(LWireWatch$Talk;I)I"⟩
abbrev cX5_firstIn : ByteArray := prog_7_method_4_code
def yX5_firstIn : MethodName := ⟨RX5, "firstIn", "(LWireWatch$Talk;I)I"⟩
def RX6 : String := "WireWatch$Sheet"
def TX6 : u_T := fun k => match k with
  | 0 => ("WireWatch$Sheet", "values", "[I", true)
  | 1 => ("WireWatch$Sheet", "has", "Z", false)
  | 2 => ("WireWatch$Sheet", "lane", "I", false)
  | _ => ("WireWatch$Sheet", "size", "I", false)
def tyX6 : Nat → FieldType := fun k => match k with
  | 0 => .array .int
  | 1 => .boolean
  | 2 => .int
  | _ => .int
abbrev wsX60 : List Cond := u_ws RX6 TX6 4
theorem nmX6 : ∀ a, a < 4 → ∀ b, b < 4 → a ≠ b → (TX6 a).2.1 ≠ (TX6 b).2.1 := by decide +kernel
theorem tyX6_ok : ∀ k, k < 4 → parseFieldDescriptor (TX6 k).2.2.1 = some (tyX6 k) := by decide +kernel
abbrev cX6_init : ByteArray := prog_8_method_1_code
def yX6_init : MethodName := ⟨RX6, "<init>", "()V"⟩
abbrev cX6_begin : ByteArray := prog_8_method_2_code
def yX6_begin : MethodName := ⟨RX6, "begin", "(II)V"⟩
abbrev cX6_isOfOther : ByteArray := prog_8_method_3_code
def yX6_isOfOther : MethodName := ⟨RX6, "isOfOther", "(I)Z"⟩
abbrev cX6_spans : ByteArray := prog_8_method_4_code
def yX6_spans : MethodName := ⟨RX6, "spans", "(II)Z"⟩
abbrev cX6_areAllIn : ByteArray := prog_8_method_5_code
def yX6_areAllIn : MethodName := ⟨RX6, "areAllIn", "(IIII)Z"⟩
abbrev cX6_cut : ByteArray := prog_8_method_6_code
def yX6_cut : MethodName := ⟨RX6, "cut", "(I)I"⟩
def RX7 : String := "WireWatch$Sketch"
def TX7 : u_T := fun k => match k with
  | 0 => ("WireWatch$Sketch", "numbers", "[I", true)
  | 1 => ("WireWatch$Sketch", "things", "[I", true)
  | 2 => ("WireWatch$Sketch", "times", "[I", true)
  | _ => ("WireWatch$Sketch", "known", "I", false)
def tyX7 : Nat → FieldType := fun k => match k with
  | 0 => .array .int
  | 1 => .array .int
  | 2 => .array .int
  | _ => .int
abbrev wsX70 : List Cond := u_ws RX7 TX7 4
theorem nmX7 : ∀ a, a < 4 → ∀ b, b < 4 → a ≠ b → (TX7 a).2.1 ≠ (TX7 b).2.1 := by decide +kernel
theorem tyX7_ok : ∀ k, k < 4 → parseFieldDescriptor (TX7 k).2.2.1 = some (tyX7 k) := by decide +kernel
abbrev cX7_init : ByteArray := prog_9_method_1_code
def yX7_init : MethodName := ⟨RX7, "<init>", "()V"⟩
abbrev cX7_isThing : ByteArray := prog_9_method_2_code
def yX7_isThing : MethodName := ⟨RX7, "isThing", "(I)Z"⟩
abbrev cX7_spotOf : ByteArray := prog_9_method_3_code
def yX7_spotOf : MethodName := ⟨RX7, "spotOf", "(II)I"⟩
abbrev cX7_indexOf : ByteArray := prog_9_method_4_code
def yX7_indexOf : MethodName := ⟨RX7, "indexOf", "(I)I"⟩
abbrev cX7_take : ByteArray := prog_9_method_5_code
def yX7_take : MethodName := ⟨RX7, "take", "(II)Z"⟩
abbrev cX7_toldOf : ByteArray := prog_9_method_6_code
def yX7_toldOf : MethodName := ⟨RX7, "toldOf", "(I)I"⟩
abbrev cX7_trulyOf : ByteArray := prog_9_method_7_code
def yX7_trulyOf : MethodName := ⟨RX7, "trulyOf", "(I)I"⟩
abbrev cX7_missed : ByteArray := prog_9_method_8_code
def yX7_missed : MethodName := ⟨RX7, "missed", "()I"⟩
def RX8 : String := "WireWatch$Talk"
def TX8 : u_T := fun k => match k with
  | 0 => ("WireWatch$Talk", "number", "I", true)
  | 1 => ("WireWatch$Talk", "kind", "I", true)
  | 2 => ("WireWatch$Talk", "from", "I", true)
  | 3 => ("WireWatch$Talk", "to", "I", true)
  | 4 => ("WireWatch$Talk", "first", "[I", true)
  | 5 => ("WireWatch$Talk", "second", "[I", true)
  | 6 => ("WireWatch$Talk", "end", "I", false)
  | 7 => ("WireWatch$Talk", "more", "I", false)
  | 8 => ("WireWatch$Talk", "unseen", "I", false)
  | _ => ("WireWatch$Talk", "latestTick", "I", false)
def tyX8 : Nat → FieldType := fun k => match k with
  | 0 => .int
  | 1 => .int
  | 2 => .int
  | 3 => .int
  | 4 => .array .int
  | 5 => .array .int
  | 6 => .int
  | 7 => .int
  | 8 => .int
  | _ => .int
abbrev wsX80 : List Cond := u_ws RX8 TX8 10
theorem nmX8 : ∀ a, a < 10 → ∀ b, b < 10 → a ≠ b → (TX8 a).2.1 ≠ (TX8 b).2.1 := by decide +kernel
theorem tyX8_ok : ∀ k, k < 10 → parseFieldDescriptor (TX8 k).2.2.1 = some (tyX8 k) := by decide +kernel
abbrev cX8_init : ByteArray := prog_10_method_1_code
def yX8_init : MethodName := ⟨RX8, "<init>", "(IIII)V"⟩
abbrev cX8_isSealed : ByteArray := prog_10_method_2_code
def yX8_isSealed : MethodName := ⟨RX8, "isSealed", "()Z"⟩
abbrev cX8_see : ByteArray := prog_10_method_3_code
def yX8_see : MethodName := ⟨RX8, "see", "(IILWireWatch$Sheet;II)V"⟩
abbrev cX8_seeByte : ByteArray := prog_10_method_4_code
def yX8_seeByte : MethodName := ⟨RX8, "seeByte", "(II)V"⟩
abbrev cX8_byteAt : ByteArray := prog_10_method_5_code
def yX8_byteAt : MethodName := ⟨RX8, "byteAt", "(II)I"⟩
abbrev cX8_joined : ByteArray := prog_10_method_6_code
def yX8_joined : MethodName := ⟨RX8, "joined", "()I"⟩
abbrev cX8_length : ByteArray := prog_10_method_7_code
def yX8_length : MethodName := ⟨RX8, "length", "()I"⟩
abbrev cX8_twofold : ByteArray := prog_10_method_8_code
def yX8_twofold : MethodName := ⟨RX8, "twofold", "()I"⟩
def RX9 : String := "WireWatch$Trap"
def TX9 : u_T := fun k => match k with
  | 0 => ("WireWatch$Trap", "leads", "[I", true)
  | 1 => ("WireWatch$Trap", "cameBy", "[I", true)
  | 2 => ("WireWatch$Trap", "answers", "[I", true)
  | 3 => ("WireWatch$Trap", "depths", "[I", true)
  | 4 => ("WireWatch$Trap", "states", "I", false)
  | _ => ("WireWatch$Trap", "barred", "I", false)
def tyX9 : Nat → FieldType := fun k => match k with
  | 0 => .array .int
  | 1 => .array .int
  | 2 => .array .int
  | 3 => .array .int
  | 4 => .int
  | _ => .int
abbrev wsX90 : List Cond := u_ws RX9 TX9 6
theorem nmX9 : ∀ a, a < 6 → ∀ b, b < 6 → a ≠ b → (TX9 a).2.1 ≠ (TX9 b).2.1 := by decide +kernel
theorem tyX9_ok : ∀ k, k < 6 → parseFieldDescriptor (TX9 k).2.2.1 = some (tyX9 k) := by decide +kernel
abbrev cX9_init : ByteArray := prog_11_method_1_code
def yX9_init : MethodName := ⟨RX9, "<init>", "()V"⟩
abbrev cX9_isBarred : ByteArray := prog_11_method_2_code
def yX9_isBarred : MethodName := ⟨RX9, "isBarred", "(II)Z"⟩
abbrev cX9_turnBar : ByteArray := prog_11_method_3_code
def yX9_turnBar : MethodName := ⟨RX9, "turnBar", "(II)V"⟩
abbrev cX9_leadsTo : ByteArray := prog_11_method_4_code
def yX9_leadsTo : MethodName := ⟨RX9, "leadsTo", "(II)I"⟩
abbrev cX9_growBy : ByteArray := prog_11_method_5_code
def yX9_growBy : MethodName := ⟨RX9, "growBy", "(LWireWatch$Sheet;II)I"⟩
abbrev cX9_hasBarred : ByteArray := prog_11_method_6_code
def yX9_hasBarred : MethodName := ⟨RX9, "hasBarred", "(LWireWatch$Sheet;II)Z"⟩
abbrev cX9_newState : ByteArray := prog_11_method_7_code
def yX9_newState : MethodName := ⟨RX9, "newState", "(II)I"⟩
abbrev cX9_canGo : ByteArray := prog_11_method_8_code
def yX9_canGo : MethodName := ⟨RX9, "canGo", "(II)Z"⟩
abbrev cX9_goneAlong : ByteArray := prog_11_method_9_code
def yX9_goneAlong : MethodName := ⟨RX9, "goneAlong", "(LWireWatch$Sheet;II)I"⟩
abbrev cX9_rowsOf : ByteArray := prog_11_method_10_code
def yX9_rowsOf : MethodName := ⟨RX9, "rowsOf", "(I)I"⟩
def RX10 : String := "WireWatch$Works"
def TX10 : u_T := fun k => match k with
  | 0 => ("WireWatch$Works", "workFrom", "[I", true)
  | 1 => ("WireWatch$Works", "workTo", "[I", true)
  | 2 => ("WireWatch$Works", "weights", "[I", true)
  | _ => ("WireWatch$Works", "kept", "I", false)
def tyX10 : Nat → FieldType := fun k => match k with
  | 0 => .array .int
  | 1 => .array .int
  | 2 => .array .int
  | _ => .int
abbrev wsX100 : List Cond := u_ws RX10 TX10 4
theorem nmX10 : ∀ a, a < 4 → ∀ b, b < 4 → a ≠ b → (TX10 a).2.1 ≠ (TX10 b).2.1 := by decide +kernel
theorem tyX10_ok : ∀ k, k < 4 → parseFieldDescriptor (TX10 k).2.2.1 = some (tyX10 k) := by decide +kernel
abbrev cX10_init : ByteArray := prog_12_method_1_code
def yX10_init : MethodName := ⟨RX10, "<init>", "()V"⟩
abbrev cX10_keep : ByteArray := prog_12_method_2_code
def yX10_keep : MethodName := ⟨RX10, "keep", "(III)I"⟩
abbrev cX10_stoppedIn : ByteArray := prog_12_method_3_code
def yX10_stoppedIn : MethodName := ⟨RX10, "stoppedIn", "(LWireWatch$Net;)I"⟩
abbrev cX10_weightOf : ByteArray := prog_12_method_4_code
def yX10_weightOf : MethodName := ⟨RX10, "weightOf", "(I)I"⟩
def RX11 : String := "WireWatch"
def TX11 : u_T := fun k => match k with
  | 0 => ("WireWatch", "net", "LWireWatch$Net;", true)
  | 1 => ("WireWatch", "works", "LWireWatch$Works;", true)
  | 2 => ("WireWatch", "talks", "[LWireWatch$Talk;", true)
  | 3 => ("WireWatch", "patterns", "[LWireWatch$Row;", true)
  | 4 => ("WireWatch", "findings", "LWireWatch$Findings;", true)
  | 5 => ("WireWatch", "text", "LWireWatch$ChainText;", true)
  | 6 => ("WireWatch", "hoursKept", "LWireWatch$Hours;", true)
  | 7 => ("WireWatch", "sketch", "LWireWatch$Sketch;", true)
  | 8 => ("WireWatch", "trap", "LWireWatch$Trap;", true)
  | 9 => ("WireWatch", "keepers", "LWireWatch$Keepers;", true)
  | 10 => ("WireWatch", "sheets", "[LWireWatch$Sheet;", true)
  | 11 => ("WireWatch", "talkCount", "I", false)
  | 12 => ("WireWatch", "rowCount", "I", false)
  | 13 => ("WireWatch", "traceLeft", "I", false)
  | _ => ("WireWatch", "latestFault", "I", false)
def tyX11 : Nat → FieldType := fun k => match k with
  | 0 => .object "WireWatch$Net"
  | 1 => .object "WireWatch$Works"
  | 2 => .array (.object "WireWatch$Talk")
  | 3 => .array (.object "WireWatch$Row")
  | 4 => .object "WireWatch$Findings"
  | 5 => .object "WireWatch$ChainText"
  | 6 => .object "WireWatch$Hours"
  | 7 => .object "WireWatch$Sketch"
  | 8 => .object "WireWatch$Trap"
  | 9 => .object "WireWatch$Keepers"
  | 10 => .array (.object "WireWatch$Sheet")
  | 11 => .int
  | 12 => .int
  | 13 => .int
  | _ => .int
abbrev wsX110 : List Cond := u_ws RX11 TX11 15
theorem nmX11 : ∀ a, a < 15 → ∀ b, b < 15 → a ≠ b → (TX11 a).2.1 ≠ (TX11 b).2.1 := by decide +kernel
theorem tyX11_ok : ∀ k, k < 15 → parseFieldDescriptor (TX11 k).2.2.1 = some (tyX11 k) := by decide +kernel
abbrev cX11_init : ByteArray := prog_1_method_1_code
def yX11_init : MethodName := ⟨RX11, "<init>", "()V"⟩
abbrev cX11_isIn : ByteArray := prog_1_method_2_code
def yX11_isIn : MethodName := ⟨RX11, "isIn", "(III)Z"⟩
abbrev cX11_isMachine : ByteArray := prog_1_method_3_code
def yX11_isMachine : MethodName := ⟨RX11, "isMachine", "(I)Z"⟩
abbrev cX11_areMachines : ByteArray := prog_1_method_4_code
def yX11_areMachines : MethodName := ⟨RX11, "areMachines", "(II)Z"⟩
abbrev cX11_isTick : ByteArray := prog_1_method_5_code
def yX11_isTick : MethodName := ⟨RX11, "isTick", "(I)Z"⟩
abbrev cX11_isLane : ByteArray := prog_1_method_6_code
def yX11_isLane : MethodName := ⟨RX11, "isLane", "(I)Z"⟩
abbrev cX11_isHourSet : ByteArray := prog_1_method_7_code
def yX11_isHourSet : MethodName := ⟨RX11, "isHourSet", "(I)Z"⟩
abbrev cX11_areApart : ByteArray := prog_1_method_8_code
def yX11_areApart : MethodName := ⟨RX11, "areApart", "(II)Z"⟩
abbrev cX11_areDoors : ByteArray := prog_1_method_9_code
def yX11_areDoors : MethodName := ⟨RX11, "areDoors", "(I)Z"⟩
abbrev cX11_talkAt : ByteArray := prog_1_method_10_code
def yX11_talkAt : MethodName := ⟨RX11, "talkAt", "(I)LWireWatch$Talk;"⟩
abbrev cX11_rowAt : ByteArray := prog_1_method_11_code
def yX11_rowAt : MethodName := ⟨RX11, "rowAt", "(I)LWireWatch$Row;"⟩
abbrev cX11_sheetAt : ByteArray := prog_1_method_12_code
def yX11_sheetAt : MethodName := ⟨RX11, "sheetAt", "(I)LWireWatch$Sheet;"⟩
abbrev cX11_greatestShared : ByteArray := prog_1_method_13_code
def yX11_greatestShared : MethodName := ⟨RX11, "greatestShared", "(JJ)J"⟩
abbrev cX11_share : ByteArray := prog_1_method_14_code
def yX11_share : MethodName := ⟨RX11, "share", "(JJI)J"⟩
abbrev cX11_road : ByteArray := prog_1_method_15_code
def yX11_road : MethodName := ⟨RX11, "road", "(IIZ)I"⟩
abbrev cX11_post : ByteArray := prog_1_method_16_code
def yX11_post : MethodName := ⟨RX11, "post", "(IIZ)I"⟩
abbrev cX11_door : ByteArray := prog_1_method_17_code
def yX11_door : MethodName := ⟨RX11, "door", "(II)I"⟩
abbrev cX11_shut : ByteArray := prog_1_method_18_code
def yX11_shut : MethodName := ⟨RX11, "shut", "(IZ)I"⟩
abbrev cX11_way : ByteArray := prog_1_method_19_code
def yX11_way : MethodName := ⟨RX11, "way", "(III)I"⟩
abbrev cX11_blind : ByteArray := prog_1_method_20_code
def yX11_blind : MethodName := ⟨RX11, "blind", "(II)I"⟩
abbrev cX11_talk : ByteArray := prog_1_method_21_code
def yX11_talk : MethodName := ⟨RX11, "talk", "(III)I"⟩
abbrev cX11_piece : ByteArray := prog_1_method_22_code
def yX11_piece : MethodName := ⟨RX11, "piece", "(IIIIIII)I"⟩
abbrev cX11_about : ByteArray := prog_1_method_23_code
def yX11_about : MethodName := ⟨RX11, "about", "(II)I"⟩
abbrev cX11_at : ByteArray := prog_1_method_24_code
def yX11_at : MethodName := ⟨RX11, "at", "(III)I"⟩
abbrev cX11_row : ByteArray := prog_1_method_25_code
def yX11_row : MethodName := ⟨RX11, "row", "(IIII)I"⟩
abbrev cX11_fits : ByteArray := prog_1_method_26_code
def yX11_fits : MethodName := ⟨RX11, "fits", "(IIII)I"⟩
abbrev cX11_scan : ByteArray := prog_1_method_27_code
def yX11_scan : MethodName := ⟨RX11, "scan", "(I)I"⟩
abbrev cX11_scanOne : ByteArray := prog_1_method_28_code
def yX11_scanOne : MethodName := ⟨RX11, "scanOne", "(III)V"⟩
abbrev cX11_finding : ByteArray := prog_1_method_29_code
def yX11_finding : MethodName := ⟨RX11, "finding", "(II)I"⟩
abbrev cX11_clear : ByteArray := prog_1_method_30_code
def yX11_clear : MethodName := ⟨RX11, "clear", "(II)I"⟩
abbrev cX11_nothing : ByteArray := prog_1_method_31_code
def yX11_nothing : MethodName := ⟨RX11, "nothing", "(II)J"⟩
abbrev cX11_chain : ByteArray := prog_1_method_32_code
def yX11_chain : MethodName := ⟨RX11, "chain", "(IIII)I"⟩
abbrev cX11_count : ByteArray := prog_1_method_33_code
def yX11_count : MethodName := ⟨RX11, "count", "(III)I"⟩
abbrev cX11_odds : ByteArray := prog_1_method_34_code
def yX11_odds : MethodName := ⟨RX11, "odds", "(III)J"⟩
abbrev cX11_group : ByteArray := prog_1_method_35_code
def yX11_group : MethodName := ⟨RX11, "group", "(II)I"⟩
abbrev cX11_likes : ByteArray := prog_1_method_36_code
def yX11_likes : MethodName := ⟨RX11, "likes", "(II)I"⟩
abbrev cX11_put : ByteArray := prog_1_method_37_code
def yX11_put : MethodName := ⟨RX11, "put", "(II)I"⟩
abbrev cX11_told : ByteArray := prog_1_method_38_code
def yX11_told : MethodName := ⟨RX11, "told", "(II)I"⟩
abbrev cX11_miss : ByteArray := prog_1_method_39_code
def yX11_miss : MethodName := ⟨RX11, "miss", "()I"⟩
abbrev cX11_isSign : ByteArray := prog_1_method_40_code
def yX11_isSign : MethodName := ⟨RX11, "isSign", "(I)Z"⟩
abbrev cX11_bar : ByteArray := prog_1_method_41_code
def yX11_bar : MethodName := ⟨RX11, "bar", "(IIZ)I"⟩
abbrev cX11_grow : ByteArray := prog_1_method_42_code
def yX11_grow : MethodName := ⟨RX11, "grow", "(IIII)I"⟩
abbrev cX11_gone : ByteArray := prog_1_method_43_code
def yX11_gone : MethodName := ⟨RX11, "gone", "(IIII)I"⟩
abbrev cX11_answer : ByteArray := prog_1_method_44_code
def yX11_answer : MethodName := ⟨RX11, "answer", "(II)I"⟩
abbrev cX11_next : ByteArray := prog_1_method_45_code
def yX11_next : MethodName := ⟨RX11, "next", "(II)I"⟩
abbrev cX11_rows : ByteArray := prog_1_method_46_code
def yX11_rows : MethodName := ⟨RX11, "rows", "(I)I"⟩
abbrev cX11_work : ByteArray := prog_1_method_47_code
def yX11_work : MethodName := ⟨RX11, "work", "(III)I"⟩
abbrev cX11_still : ByteArray := prog_1_method_48_code
def yX11_still : MethodName := ⟨RX11, "still", "(II)I"⟩
abbrev cX11_parted : ByteArray := prog_1_method_49_code
def yX11_parted : MethodName := ⟨RX11, "parted", "(III)I"⟩
abbrev cX11_least : ByteArray := prog_1_method_50_code
def yX11_least : MethodName := ⟨RX11, "least", "(III)I"⟩
abbrev cX11_may : ByteArray := prog_1_method_51_code
def yX11_may : MethodName := ⟨RX11, "may", "(III)I"⟩
abbrev cX11_look : ByteArray := prog_1_method_52_code
def yX11_look : MethodName := ⟨RX11, "look", "(III)I"⟩
abbrev cX11_looks : ByteArray := prog_1_method_53_code
def yX11_looks : MethodName := ⟨RX11, "looks", "(II)I"⟩
abbrev cX11_faulted : ByteArray := prog_1_method_54_code
def yX11_faulted : MethodName := ⟨RX11, "faulted", "(I)I"⟩
abbrev cX11_lostBy : ByteArray := prog_1_method_55_code
def yX11_lostBy : MethodName := ⟨RX11, "lostBy", "(I)J"⟩
abbrev cX11_againstTaking : ByteArray := prog_1_method_56_code
def yX11_againstTaking : MethodName := ⟨RX11, "againstTaking", "(LWireWatch$Sheet;III)I"⟩
abbrev cX11_sheet : ByteArray := prog_1_method_57_code
def yX11_sheet : MethodName := ⟨RX11, "sheet", "(III)I"⟩
abbrev cX11_lose : ByteArray := prog_1_method_58_code
def yX11_lose : MethodName := ⟨RX11, "lose", "(I)I"⟩
abbrev cX11_set : ByteArray := prog_1_method_59_code
def yX11_set : MethodName := ⟨RX11, "set", "(III)I"⟩
abbrev cX11_cell : ByteArray := prog_1_method_60_code
def yX11_cell : MethodName := ⟨RX11, "cell", "(III)J"⟩
abbrev cX11_copy : ByteArray := prog_1_method_61_code
def yX11_copy : MethodName := ⟨RX11, "copy", "(IIIII)I"⟩
abbrev cX11_tell : ByteArray := prog_1_method_62_code
def yX11_tell : MethodName := ⟨RX11, "tell", "(I)I"⟩
abbrev cX11_leave : ByteArray := prog_1_method_63_code
def yX11_leave : MethodName := ⟨RX11, "leave", "(I)V"⟩
abbrev cX11_tellingOfTalk : ByteArray := prog_1_method_64_code
def yX11_tellingOfTalk : MethodName := ⟨RX11, "tellingOfTalk", "(LWireWatch$Talk;)I"⟩
abbrev cX11_tellingOfSealed : ByteArray := prog_1_method_65_code
def yX11_tellingOfSealed : MethodName := ⟨RX11, "tellingOfSealed", "(LWireWatch$Talk;)I"⟩
abbrev cX11_tellingOfCarried : ByteArray := prog_1_method_66_code
def yX11_tellingOfCarried : MethodName := ⟨RX11, "tellingOfCarried", "(LWireWatch$Talk;)I"⟩
abbrev cX11_call : ByteArray := prog_1_method_67_code
def yX11_call : MethodName := ⟨RX11, "call", "(I)I"⟩
abbrev cX11_as : ByteArray := prog_1_method_68_code
def yX11_as : MethodName := ⟨RX11, "as", "(II)I"⟩
abbrev cX11_trace : ByteArray := prog_1_method_69_code
def yX11_trace : MethodName := ⟨RX11, "trace", "()I"⟩
abbrev cX11_fault : ByteArray := prog_1_method_70_code
def yX11_fault : MethodName := ⟨RX11, "fault", "()I"⟩
abbrev cX11_many : ByteArray := prog_1_method_71_code
def yX11_many : MethodName := ⟨RX11, "many", "(I)I"⟩
def RX12 : String := "WireWatchModel"
def TX12 : u_T := fun k => match k with
  | 0 => ("WireWatchModel", "fault", "I", false)
  | 1 => ("WireWatchModel", "roadsOf", "[I", true)
  | 2 => ("WireWatchModel", "postsOf", "[I", true)
  | 3 => ("WireWatchModel", "doorAt", "[I", true)
  | 4 => ("WireWatchModel", "doors", "I", false)
  | 5 => ("WireWatchModel", "doorA", "[I", true)
  | 6 => ("WireWatchModel", "doorB", "[I", true)
  | 7 => ("WireWatchModel", "shutDoors", "I", false)
  | 8 => ("WireWatchModel", "far", "[I", true)
  | 9 => ("WireWatchModel", "talks", "I", false)
  | 10 => ("WireWatchModel", "talkKind", "[I", true)
  | 11 => ("WireWatchModel", "talkFrom", "[I", true)
  | 12 => ("WireWatchModel", "talkTo", "[I", true)
  | 13 => ("WireWatchModel", "firstByte", "[I", true)
  | 14 => ("WireWatchModel", "secondByte", "[I", true)
  | 15 => ("WireWatchModel", "moreOf", "[I", true)
  | 16 => ("WireWatchModel", "unseenOf", "[I", true)
  | 17 => ("WireWatchModel", "latestOf", "[I", true)
  | 18 => ("WireWatchModel", "rowMany", "I", false)
  | 19 => ("WireWatchModel", "rowSize", "[I", true)
  | 20 => ("WireWatchModel", "rowCell", "[I", true)
  | 21 => ("WireWatchModel", "findings", "I", false)
  | 22 => ("WireWatchModel", "findRow", "[I", true)
  | 23 => ("WireWatchModel", "findTalk", "[I", true)
  | 24 => ("WireWatchModel", "findTick", "[I", true)
  | 25 => ("WireWatchModel", "findIs", "[I", true)
  | 26 => ("WireWatchModel", "chainMany", "I", false)
  | 27 => ("WireWatchModel", "chainRow", "[I", true)
  | 28 => ("WireWatchModel", "span", "I", false)
  | 29 => ("WireWatchModel", "used", "J", false)
  | 30 => ("WireWatchModel", "countAt", "[I", true)
  | 31 => ("WireWatchModel", "groupOf", "[I", true)
  | 32 => ("WireWatchModel", "sketch", "[I", true)
  | 33 => ("WireWatchModel", "things", "I", false)
  | 34 => ("WireWatchModel", "thing", "[I", true)
  | 35 => ("WireWatchModel", "truly", "[I", true)
  | 36 => ("WireWatchModel", "stateMany", "I", false)
  | 37 => ("WireWatchModel", "leadsTo", "[I", true)
  | 38 => ("WireWatchModel", "answerOf", "[I", true)
  | 39 => ("WireWatchModel", "barredPairs", "I", false)
  | 40 => ("WireWatchModel", "comes", "[I", true)
  | 41 => ("WireWatchModel", "comesThen", "[I", true)
  | 42 => ("WireWatchModel", "works", "I", false)
  | 43 => ("WireWatchModel", "workA", "[I", true)
  | 44 => ("WireWatchModel", "workB", "[I", true)
  | 45 => ("WireWatchModel", "workWeight", "[I", true)
  | 46 => ("WireWatchModel", "tillOf", "[I", true)
  | 47 => ("WireWatchModel", "looks", "I", false)
  | 48 => ("WireWatchModel", "lookBy", "[I", true)
  | 49 => ("WireWatchModel", "lookMay", "[Z", true)
  | 50 => ("WireWatchModel", "sheetSize", "[I", true)
  | 51 => ("WireWatchModel", "sheetLane", "[I", true)
  | 52 => ("WireWatchModel", "sheet", "[I", true)
  | 53 => ("WireWatchModel", "hands", "[I", true)
  | _ => ("WireWatchModel", "traceNow", "I", false)
def tyX12 : Nat → FieldType := fun k => match k with
  | 0 => .int
  | 1 => .array .int
  | 2 => .array .int
  | 3 => .array .int
  | 4 => .int
  | 5 => .array .int
  | 6 => .array .int
  | 7 => .int
  | 8 => .array .int
  | 9 => .int
  | 10 => .array .int
  | 11 => .array .int
  | 12 => .array .int
  | 13 => .array .int
  | 14 => .array .int
  | 15 => .array .int
  | 16 => .array .int
  | 17 => .array .int
  | 18 => .int
  | 19 => .array .int
  | 20 => .array .int
  | 21 => .int
  | 22 => .array .int
  | 23 => .array .int
  | 24 => .array .int
  | 25 => .array .int
  | 26 => .int
  | 27 => .array .int
  | 28 => .int
  | 29 => .long
  | 30 => .array .int
  | 31 => .array .int
  | 32 => .array .int
  | 33 => .int
  | 34 => .array .int
  | 35 => .array .int
  | 36 => .int
  | 37 => .array .int
  | 38 => .array .int
  | 39 => .int
  | 40 => .array .int
  | 41 => .array .int
  | 42 => .int
  | 43 => .array .int
  | 44 => .array .int
  | 45 => .array .int
  | 46 => .array .int
  | 47 => .int
  | 48 => .array .int
  | 49 => .array .boolean
  | 50 => .array .int
  | 51 => .array .int
  | 52 => .array .int
  | 53 => .array .int
  | _ => .int
abbrev wsX120 : List Cond := u_ws RX12 TX12 55
theorem nmX12 : ∀ a, a < 55 → ∀ b, b < 55 → a ≠ b → (TX12 a).2.1 ≠ (TX12 b).2.1 := by decide +kernel
theorem tyX12_ok : ∀ k, k < 55 → parseFieldDescriptor (TX12 k).2.2.1 = some (tyX12 k) := by decide +kernel
abbrev cX12_init : ByteArray := prog_14_method_1_code
def yX12_init : MethodName := ⟨RX12, "<init>", "()V"⟩
abbrev cX12_in : ByteArray := prog_14_method_2_code
def yX12_in : MethodName := ⟨RX12, "in", "(JJJ)Z"⟩
abbrev cX12_lost : ByteArray := prog_14_method_3_code
def yX12_lost : MethodName := ⟨RX12, "lost", "()J"⟩
abbrev cX12_hasBit : ByteArray := prog_14_method_4_code
def yX12_hasBit : MethodName := ⟨RX12, "hasBit", "(II)Z"⟩
abbrev cX12_bits : ByteArray := prog_14_method_5_code
def yX12_bits : MethodName := ⟨RX12, "bits", "(I)I"⟩
abbrev cX12_lesser : ByteArray := prog_14_method_6_code
def yX12_lesser : MethodName := ⟨RX12, "lesser", "(II)I"⟩
abbrev cX12_common : ByteArray := prog_14_method_7_code
def yX12_common : MethodName := ⟨RX12, "common", "(JJ)J"⟩
abbrev cX12_share : ByteArray := prog_14_method_8_code
def yX12_share : MethodName := ⟨RX12, "share", "(JJI)J"⟩
abbrev cX12_isTick : ByteArray := prog_14_method_9_code
def yX12_isTick : MethodName := ⟨RX12, "isTick", "(I)Z"⟩
abbrev cX12_refused : ByteArray := prog_14_method_10_code
def yX12_refused : MethodName := ⟨RX12, "refused", "(I)I"⟩
abbrev cX12_failed : ByteArray := prog_14_method_11_code
def yX12_failed : MethodName := ⟨RX12, "failed", "(I)I"⟩
abbrev cX12_failedLong : ByteArray := prog_14_method_12_code
def yX12_failedLong : MethodName := ⟨RX12, "failedLong", "(I)J"⟩
abbrev cX12_barred : ByteArray := prog_14_method_13_code
def yX12_barred : MethodName := ⟨RX12, "barred", "(IIIJ)I"⟩
abbrev cX12_areCells : ByteArray := prog_14_method_14_code
def yX12_areCells : MethodName := ⟨RX12, "areCells", "(IIII)Z"⟩
abbrev cX12_noMachine : ByteArray := prog_14_method_15_code
def yX12_noMachine : MethodName := ⟨RX12, "noMachine", "(I)Z"⟩
abbrev cX12_road : ByteArray := prog_14_method_16_code
def yX12_road : MethodName := ⟨RX12, "road", "(IIZ)I"⟩
abbrev cX12_noRoad : ByteArray := prog_14_method_17_code
def yX12_noRoad : MethodName := ⟨RX12, "noRoad", "(II)Z"⟩
abbrev cX12_post : ByteArray := prog_14_method_18_code
def yX12_post : MethodName := ⟨RX12, "post", "(IIZ)I"⟩
abbrev cX12_door : ByteArray := prog_14_method_19_code
def yX12_door : MethodName := ⟨RX12, "door", "(II)I"⟩
abbrev cX12_shut : ByteArray := prog_14_method_20_code
def yX12_shut : MethodName := ⟨RX12, "shut", "(IZ)I"⟩
abbrev cX12_isOpen : ByteArray := prog_14_method_21_code
def yX12_isOpen : MethodName := ⟨RX12, "isOpen", "(IIIZ)Z"⟩
abbrev cX12_layFar : ByteArray := prog_14_method_22_code
def yX12_layFar : MethodName := ⟨RX12, "layFar", "(IIZ)V"⟩
abbrev cX12_nextOn : ByteArray := prog_14_method_23_code
def yX12_nextOn : MethodName := ⟨RX12, "nextOn", "(I)I"⟩
abbrev cX12_way : ByteArray := prog_14_method_24_code
def yX12_way : MethodName := ⟨RX12, "way", "(III)I"⟩
abbrev cX12_blind : ByteArray := prog_14_method_25_code
def yX12_blind : MethodName := ⟨RX12, "blind", "(II)I"⟩
abbrev cX12_noTalk : ByteArray := prog_14_method_26_code
def yX12_noTalk : MethodName := ⟨RX12, "noTalk", "(I)Z"⟩
abbrev cX12_talk : ByteArray := prog_14_method_27_code
def yX12_talk : MethodName := ⟨RX12, "talk", "(III)I"⟩
abbrev cX12_isSeen : ByteArray := prog_14_method_28_code
def yX12_isSeen : MethodName := ⟨RX12, "isSeen", "(I)Z"⟩
abbrev cX12_take : ByteArray := prog_14_method_29_code
def yX12_take : MethodName := ⟨RX12, "take", "(III)V"⟩
abbrev cX12_piece : ByteArray := prog_14_method_30_code
def yX12_piece : MethodName := ⟨RX12, "piece", "(IIIIIII)I"⟩
abbrev cX12_joinedOf : ByteArray := prog_14_method_31_code
def yX12_joinedOf : MethodName := ⟨RX12, "joinedOf", "(I)I"⟩
abbrev cX12_lengthOf : ByteArray := prog_14_method_32_code
def yX12_lengthOf : MethodName := ⟨RX12, "lengthOf", "(I)I"⟩
abbrev cX12_about : ByteArray := prog_14_method_33_code
def yX12_about : MethodName := ⟨RX12, "about", "(II)I"⟩
abbrev cX12_byteAt : ByteArray := prog_14_method_34_code
def yX12_byteAt : MethodName := ⟨RX12, "byteAt", "(III)I"⟩
abbrev cX12_at : ByteArray := prog_14_method_35_code
def yX12_at : MethodName := ⟨RX12, "at", "(III)I"⟩
abbrev cX12_noRow : ByteArray := prog_14_method_36_code
def yX12_noRow : MethodName := ⟨RX12, "noRow", "(I)Z"⟩
abbrev cX12_row : ByteArray := prog_14_method_37_code
def yX12_row : MethodName := ⟨RX12, "row", "(IIII)I"⟩
abbrev cX12_doesFit : ByteArray := prog_14_method_38_code
def yX12_doesFit : MethodName := ⟨RX12, "doesFit", "(IIIII)Z"⟩
abbrev cX12_fitsOf : ByteArray := prog_14_method_39_code
def yX12_fitsOf : MethodName := ⟨RX12, "fitsOf", "(IIII)I"⟩
abbrev cX12_fits : ByteArray := prog_14_method_40_code
def yX12_fits : MethodName := ⟨RX12, "fits", "(IIII)I"⟩
abbrev cX12_isFound : ByteArray := prog_14_method_41_code
def yX12_isFound : MethodName := ⟨RX12, "isFound", "(II)Z"⟩
abbrev cX12_scan : ByteArray := prog_14_method_42_code
def yX12_scan : MethodName := ⟨RX12, "scan", "(I)I"⟩
abbrev cX12_finding : ByteArray := prog_14_method_43_code
def yX12_finding : MethodName := ⟨RX12, "finding", "(II)I"⟩
abbrev cX12_clear : ByteArray := prog_14_method_44_code
def yX12_clear : MethodName := ⟨RX12, "clear", "(II)I"⟩
abbrev cX12_nothing : ByteArray := prog_14_method_45_code
def yX12_nothing : MethodName := ⟨RX12, "nothing", "(II)J"⟩
abbrev cX12_readChain : ByteArray := prog_14_method_46_code
def yX12_readChain : MethodName := ⟨RX12, "readChain", "(II)I"⟩
abbrev cX12_findAfter : ByteArray := prog_14_method_47_code
def yX12_findAfter : MethodName := ⟨RX12, "findAfter", "(III)I"⟩
abbrev cX12_hasFrom : ByteArray := prog_14_method_48_code
def yX12_hasFrom : MethodName := ⟨RX12, "hasFrom", "(II)Z"⟩
abbrev cX12_chain : ByteArray := prog_14_method_49_code
def yX12_chain : MethodName := ⟨RX12, "chain", "(IIII)I"⟩
abbrev cX12_areHours : ByteArray := prog_14_method_50_code
def yX12_areHours : MethodName := ⟨RX12, "areHours", "(I)Z"⟩
abbrev cX12_count : ByteArray := prog_14_method_51_code
def yX12_count : MethodName := ⟨RX12, "count", "(III)I"⟩
abbrev cX12_sumIn : ByteArray := prog_14_method_52_code
def yX12_sumIn : MethodName := ⟨RX12, "sumIn", "(II)I"⟩
abbrev cX12_odds : ByteArray := prog_14_method_53_code
def yX12_odds : MethodName := ⟨RX12, "odds", "(III)J"⟩
abbrev cX12_group : ByteArray := prog_14_method_54_code
def yX12_group : MethodName := ⟨RX12, "group", "(II)I"⟩
abbrev cX12_likes : ByteArray := prog_14_method_55_code
def yX12_likes : MethodName := ⟨RX12, "likes", "(II)I"⟩
abbrev cX12_placeIn : ByteArray := prog_14_method_56_code
def yX12_placeIn : MethodName := ⟨RX12, "placeIn", "(II)I"⟩
abbrev cX12_toldOf : ByteArray := prog_14_method_57_code
def yX12_toldOf : MethodName := ⟨RX12, "toldOf", "(I)I"⟩
abbrev cX12_thingOf : ByteArray := prog_14_method_58_code
def yX12_thingOf : MethodName := ⟨RX12, "thingOf", "(I)I"⟩
abbrev cX12_isThing : ByteArray := prog_14_method_59_code
def yX12_isThing : MethodName := ⟨RX12, "isThing", "(I)Z"⟩
abbrev cX12_put : ByteArray := prog_14_method_60_code
def yX12_put : MethodName := ⟨RX12, "put", "(II)I"⟩
abbrev cX12_told : ByteArray := prog_14_method_61_code
def yX12_told : MethodName := ⟨RX12, "told", "(II)I"⟩
abbrev cX12_miss : ByteArray := prog_14_method_62_code
def yX12_miss : MethodName := ⟨RX12, "miss", "()I"⟩
abbrev cX12_isSign : ByteArray := prog_14_method_63_code
def yX12_isSign : MethodName := ⟨RX12, "isSign", "(I)Z"⟩
abbrev cX12_isBarred : ByteArray := prog_14_method_64_code
def yX12_isBarred : MethodName := ⟨RX12, "isBarred", "(II)Z"⟩
abbrev cX12_bar : ByteArray := prog_14_method_65_code
def yX12_bar : MethodName := ⟨RX12, "bar", "(IIZ)I"⟩
abbrev cX12_noGrowing : ByteArray := prog_14_method_66_code
def yX12_noGrowing : MethodName := ⟨RX12, "noGrowing", "(II)I"⟩
abbrev cX12_grow : ByteArray := prog_14_method_67_code
def yX12_grow : MethodName := ⟨RX12, "grow", "(IIII)I"⟩
abbrev cX12_gone : ByteArray := prog_14_method_68_code
def yX12_gone : MethodName := ⟨RX12, "gone", "(IIII)I"⟩
abbrev cX12_noState : ByteArray := prog_14_method_69_code
def yX12_noState : MethodName := ⟨RX12, "noState", "(I)Z"⟩
abbrev cX12_answer : ByteArray := prog_14_method_70_code
def yX12_answer : MethodName := ⟨RX12, "answer", "(II)I"⟩
abbrev cX12_next : ByteArray := prog_14_method_71_code
def yX12_next : MethodName := ⟨RX12, "next", "(II)I"⟩
abbrev cX12_rows : ByteArray := prog_14_method_72_code
def yX12_rows : MethodName := ⟨RX12, "rows", "(I)I"⟩
abbrev cX12_work : ByteArray := prog_14_method_73_code
def yX12_work : MethodName := ⟨RX12, "work", "(III)I"⟩
abbrev cX12_areDoors : ByteArray := prog_14_method_74_code
def yX12_areDoors : MethodName := ⟨RX12, "areDoors", "(I)Z"⟩
abbrev cX12_stillBy : ByteArray := prog_14_method_75_code
def yX12_stillBy : MethodName := ⟨RX12, "stillBy", "(I)I"⟩
abbrev cX12_harmOf : ByteArray := prog_14_method_76_code
def yX12_harmOf : MethodName := ⟨RX12, "harmOf", "(I)I"⟩
abbrev cX12_still : ByteArray := prog_14_method_77_code
def yX12_still : MethodName := ⟨RX12, "still", "(II)I"⟩
abbrev cX12_areApart : ByteArray := prog_14_method_78_code
def yX12_areApart : MethodName := ⟨RX12, "areApart", "(II)Z"⟩
abbrev cX12_areParted : ByteArray := prog_14_method_79_code
def yX12_areParted : MethodName := ⟨RX12, "areParted", "(III)Z"⟩
abbrev cX12_parted : ByteArray := prog_14_method_80_code
def yX12_parted : MethodName := ⟨RX12, "parted", "(III)I"⟩
abbrev cX12_least : ByteArray := prog_14_method_81_code
def yX12_least : MethodName := ⟨RX12, "least", "(III)I"⟩
abbrev cX12_noKeeper : ByteArray := prog_14_method_82_code
def yX12_noKeeper : MethodName := ⟨RX12, "noKeeper", "(I)Z"⟩
abbrev cX12_may : ByteArray := prog_14_method_83_code
def yX12_may : MethodName := ⟨RX12, "may", "(III)I"⟩
abbrev cX12_look : ByteArray := prog_14_method_84_code
def yX12_look : MethodName := ⟨RX12, "look", "(III)I"⟩
abbrev cX12_looks : ByteArray := prog_14_method_85_code
def yX12_looks : MethodName := ⟨RX12, "looks", "(II)I"⟩
abbrev cX12_noSheet : ByteArray := prog_14_method_86_code
def yX12_noSheet : MethodName := ⟨RX12, "noSheet", "(I)Z"⟩
abbrev cX12_sheet : ByteArray := prog_14_method_87_code
def yX12_sheet : MethodName := ⟨RX12, "sheet", "(III)I"⟩
abbrev cX12_lose : ByteArray := prog_14_method_88_code
def yX12_lose : MethodName := ⟨RX12, "lose", "(I)I"⟩
abbrev cX12_noCell : ByteArray := prog_14_method_89_code
def yX12_noCell : MethodName := ⟨RX12, "noCell", "(II)I"⟩
abbrev cX12_set : ByteArray := prog_14_method_90_code
def yX12_set : MethodName := ⟨RX12, "set", "(III)I"⟩
abbrev cX12_cell : ByteArray := prog_14_method_91_code
def yX12_cell : MethodName := ⟨RX12, "cell", "(III)J"⟩
abbrev cX12_isBeyond : ByteArray := prog_14_method_92_code
def yX12_isBeyond : MethodName := ⟨RX12, "isBeyond", "(IJI)Z"⟩
abbrev cX12_copy : ByteArray := prog_14_method_93_code
def yX12_copy : MethodName := ⟨RX12, "copy", "(IIIII)I"⟩
abbrev cX12_traced : ByteArray := prog_14_method_94_code
def yX12_traced : MethodName := ⟨RX12, "traced", "(I)V"⟩
abbrev cX12_tell : ByteArray := prog_14_method_95_code
def yX12_tell : MethodName := ⟨RX12, "tell", "(I)I"⟩
abbrev cX12_call : ByteArray := prog_14_method_96_code
def yX12_call : MethodName := ⟨RX12, "call", "(I)I"⟩
abbrev cX12_as : ByteArray := prog_14_method_97_code
def yX12_as : MethodName := ⟨RX12, "as", "(II)I"⟩
abbrev cX12_trace : ByteArray := prog_14_method_98_code
def yX12_trace : MethodName := ⟨RX12, "trace", "()I"⟩
abbrev cX12_fault : ByteArray := prog_14_method_99_code
def yX12_fault : MethodName := ⟨RX12, "fault", "()I"⟩
abbrev cX12_many : ByteArray := prog_14_method_100_code
def yX12_many : MethodName := ⟨RX12, "many", "(I)I"⟩
def RJ6 : String := "java/lang/Integer"
abbrev cJ6_bitCount_0f7a4 : ByteArray := prog_15_method_49_code
def yJ6_bitCount_0f7a4 : MethodName := ⟨RJ6, "bitCount", "(I)I"⟩
def RJ9 : String := "java/lang/Math"
abbrev cJ9_max_7cf53 : ByteArray := prog_16_method_65_code
def yJ9_max_7cf53 : MethodName := ⟨RJ9, "max", "(II)I"⟩
abbrev cJ9_min_7cf53 : ByteArray := prog_16_method_69_code
def yJ9_min_7cf53 : MethodName := ⟨RJ9, "min", "(II)I"⟩
def RJ10 : String := "java/lang/System"
def RJ7 : String := "java/util/Arrays"
abbrev cJ7_fill_53178 : ByteArray := prog_18_method_103_code
def yJ7_fill_53178 : MethodName := ⟨RJ7, "fill", "([II)V"⟩
def RL : String := "WireWatchLaw"
abbrev cL_law : ByteArray := code
def yL_law : MethodName := ⟨RL, "law", "([I)Z"⟩
abbrev vwCl : List vw_C := [(RX0, TX0, 3), (RX1, TX1, 6), (RX2, TX2, 2), (RX3, TX3, 4), (RX4, TX4, 11), (RX5, TX5, 2), (RX6, TX6, 4), (RX7, TX7, 4), (RX8, TX8, 10), (RX9, TX9, 6), (RX10, TX10, 4), (RX11, TX11, 15), (RX12, TX12, 55)]
def RN : Nat → String
  | 0 => RX0
  | 1 => RX1
  | 2 => RX2
  | 3 => RX3
  | 4 => RX4
  | 5 => RX5
  | 6 => RX6
  | 7 => RX7
  | 8 => RX8
  | 9 => RX9
  | 10 => RX10
  | 11 => RX11
  | 12 => RX12
  | 13 => RL
  | 14 => RJ6
  | 15 => RJ7
  | 16 => RJ9
  | _ => ""
def TN : Nat → u_T
  | 0 => TX0
  | 1 => TX1
  | 2 => TX2
  | 3 => TX3
  | 4 => TX4
  | 5 => TX5
  | 6 => TX6
  | 7 => TX7
  | 8 => TX8
  | 9 => TX9
  | 10 => TX10
  | 11 => TX11
  | _ => TX12
def tyN : Nat → (Nat → FieldType)
  | 0 => tyX0
  | 1 => tyX1
  | 2 => tyX2
  | 3 => tyX3
  | 4 => tyX4
  | 5 => tyX5
  | 6 => tyX6
  | 7 => tyX7
  | 8 => tyX8
  | 9 => tyX9
  | 10 => tyX10
  | 11 => tyX11
  | _ => tyX12
def nN : Nat → Nat
  | 0 => 3
  | 1 => 6
  | 2 => 2
  | 3 => 4
  | 4 => 11
  | 5 => 2
  | 6 => 4
  | 7 => 4
  | 8 => 10
  | 9 => 6
  | 10 => 4
  | 11 => 15
  | _ => 55
theorem vwCl_at : ∀ ci, ci < 13 → vwCl[ci]? = some (RN ci, TN ci, nN ci)
  | 0, _ => rfl
  | 1, _ => rfl
  | 2, _ => rfl
  | 3, _ => rfl
  | 4, _ => rfl
  | 5, _ => rfl
  | 6, _ => rfl
  | 7, _ => rfl
  | 8, _ => rfl
  | 9, _ => rfl
  | 10, _ => rfl
  | 11, _ => rfl
  | 12, _ => rfl
  | n + 13, h => absurd h (by omega)
theorem tyN_ok : ∀ ci, ci < 13 → ∀ k, k < nN ci → parseFieldDescriptor (TN ci k).2.2.1 = some (tyN ci k)
  | 0, _ => tyX0_ok
  | 1, _ => tyX1_ok
  | 2, _ => tyX2_ok
  | 3, _ => tyX3_ok
  | 4, _ => tyX4_ok
  | 5, _ => tyX5_ok
  | 6, _ => tyX6_ok
  | 7, _ => tyX7_ok
  | 8, _ => tyX8_ok
  | 9, _ => tyX9_ok
  | 10, _ => tyX10_ok
  | 11, _ => tyX11_ok
  | 12, _ => tyX12_ok
  | n + 13, h => absurd h (by omega)
theorem nmN_ok : ∀ ci, ci < 13 → ∀ a, a < nN ci → ∀ b, b < nN ci → a ≠ b → (TN ci a).2.1 ≠ (TN ci b).2.1
  | 0, _ => nmX0
  | 1, _ => nmX1
  | 2, _ => nmX2
  | 3, _ => nmX3
  | 4, _ => nmX4
  | 5, _ => nmX5
  | 6, _ => nmX6
  | 7, _ => nmX7
  | 8, _ => nmX8
  | 9, _ => nmX9
  | 10, _ => nmX10
  | 11, _ => nmX11
  | 12, _ => nmX12
  | n + 13, h => absurd h (by omega)
/-- the tables' words that stay true as a method runs -/
def tgw : List Cond := lw_tbl.filter goodWord
theorem tgw_at {i : Nat} {w : Cond} (h : lw_tbl[i]? = some w) (g : goodWord w = true) : w ∈ tgw := List.mem_filter.mpr ⟨List.mem_of_getElem? h, g⟩
theorem tgw_good : GoodIn tgw tgw := fun w h => ⟨h, good_of_word (List.mem_filter.mp h).2⟩
theorem lays_of {C : String} {T : u_T} {N : Nat} (ps : List Nat) (h : (List.range N).map (fun k => some (u_lay C T k)) = ps.map (fun i => lw_tbl[i]?)) (hg : (u_ws C T N).all goodWord = true) : ∀ w ∈ u_ws C T N, w ∈ tgw := by
  intro w hw
  have hg' := List.all_eq_true.mp hg w hw
  obtain ⟨k, hk, rfl⟩ := List.mem_map.mp hw
  have h1 : some (u_lay C T k) ∈ (List.range N).map (fun k => some (u_lay C T k)) := List.mem_map.mpr ⟨k, hk, rfl⟩
  rw [h] at h1
  obtain ⟨i, -, hi⟩ := List.mem_map.mp h1
  exact tgw_at hi hg'
theorem inT0 : ∀ w ∈ u_ws RX0 TX0 3, w ∈ tgw := lays_of [197, 199, 201] (by decide +kernel) (by decide +kernel)
theorem inT1 : ∀ w ∈ u_ws RX1 TX1 6, w ∈ tgw := lays_of [172, 174, 176, 178, 180, 182] (by decide +kernel) (by decide +kernel)
theorem inT2 : ∀ w ∈ u_ws RX2 TX2 2, w ∈ tgw := lays_of [213, 215] (by decide +kernel) (by decide +kernel)
theorem inT3 : ∀ w ∈ u_ws RX3 TX3 4, w ∈ tgw := lays_of [280, 282, 284, 286] (by decide +kernel) (by decide +kernel)
theorem inT4 : ∀ w ∈ u_ws RX4 TX4 11, w ∈ tgw := lays_of [107, 109, 111, 113, 115, 117, 119, 121, 123, 125, 127] (by decide +kernel) (by decide +kernel)
theorem inT5 : ∀ w ∈ u_ws RX5 TX5 2, w ∈ tgw := lays_of [612, 614] (by decide +kernel) (by decide +kernel)
theorem inT6 : ∀ w ∈ u_ws RX6 TX6 4, w ∈ tgw := lays_of [307, 309, 311, 313] (by decide +kernel) (by decide +kernel)
theorem inT7 : ∀ w ∈ u_ws RX7 TX7 4, w ∈ tgw := lays_of [228, 230, 232, 234] (by decide +kernel) (by decide +kernel)
theorem inT8 : ∀ w ∈ u_ws RX8 TX8 10, w ∈ tgw := lays_of [494, 496, 498, 500, 502, 504, 506, 508, 510, 512] (by decide +kernel) (by decide +kernel)
theorem inT9 : ∀ w ∈ u_ws RX9 TX9 6, w ∈ tgw := lays_of [251, 253, 255, 257, 259, 261] (by decide +kernel) (by decide +kernel)
theorem inT10 : ∀ w ∈ u_ws RX10 TX10 4, w ∈ tgw := lays_of [142, 144, 146, 148] (by decide +kernel) (by decide +kernel)
theorem inT11 : ∀ w ∈ u_ws RX11 TX11 15, w ∈ tgw := lays_of [331, 333, 335, 337, 339, 341, 343, 345, 347, 349, 351, 353, 355, 357, 359] (by decide +kernel) (by decide +kernel)
theorem inT12 : ∀ w ∈ u_ws RX12 TX12 55, w ∈ tgw := lays_of [1062, 1064, 1066, 1068, 1070, 1072, 1074, 1076, 1078, 1080, 1082, 1084, 1086, 1088, 1090, 1092, 1094, 1096, 1098, 1100, 1102, 1104, 1106, 1108, 1110, 1112, 1114, 1116, 1118, 1120, 1122, 1124, 1126, 1128, 1130, 1132, 1134, 1136, 1138, 1140, 1142, 1144, 1146, 1148, 1150, 1152, 1154, 1156, 1158, 1160, 1162, 1164, 1166, 1168, 1170] (by decide +kernel) (by decide +kernel)
theorem inT : ∀ ci, ci < 13 → ∀ w ∈ u_ws (RN ci) (TN ci) (nN ci), w ∈ tgw
  | 0, _ => inT0
  | 1, _ => inT1
  | 2, _ => inT2
  | 3, _ => inT3
  | 4, _ => inT4
  | 5, _ => inT5
  | 6, _ => inT6
  | 7, _ => inT7
  | 8, _ => inT8
  | 9, _ => inT9
  | 10, _ => inT10
  | 11, _ => inT11
  | 12, _ => inT12
  | n + 13, h => absurd h (by omega)
/-- which field a pool entry names: own class, entry; class, place, is it an int, is it final; the word's place -/
def fresL : List (Nat × Nat × Nat × Nat × Nat × Bool × Nat) := [(4, 9, 4, 0, 0, true, 91), (4, 15, 4, 1, 0, true, 92), (4, 18, 4, 2, 0, true, 93), (4, 21, 4, 3, 0, true, 94), (4, 24, 4, 4, 0, true, 95), (4, 27, 4, 5, 0, true, 96), (4, 30, 4, 6, 0, true, 97), (11, 150, 4, 6, 0, true, 98), (4, 62, 4, 7, 1, false, 99), (11, 147, 4, 7, 1, false, 100), (4, 33, 4, 8, 1, false, 101), (11, 442, 4, 8, 1, false, 102), (4, 44, 4, 9, 1, false, 103), (11, 94, 4, 9, 1, false, 104), (4, 41, 4, 10, 1, false, 105), (11, 365, 4, 10, 1, false, 106), (10, 9, 10, 0, 0, true, 137), (10, 15, 10, 1, 0, true, 138), (10, 18, 10, 2, 0, true, 139), (10, 21, 10, 3, 1, false, 140), (11, 445, 10, 3, 1, false, 141), (1, 9, 1, 0, 0, true, 161), (11, 259, 1, 0, 0, true, 162), (1, 15, 1, 1, 0, true, 163), (11, 262, 1, 1, 0, true, 164), (1, 18, 1, 2, 0, true, 165), (1, 21, 1, 3, 0, true, 166), (11, 265, 1, 3, 0, true, 167), (1, 24, 1, 4, 0, true, 168), (11, 268, 1, 4, 0, true, 169), (1, 27, 1, 5, 1, false, 170), (11, 245, 1, 5, 1, false, 171), (0, 11, 0, 0, 0, true, 191), (1, 39, 0, 0, 0, true, 192), (0, 15, 0, 1, 1, false, 193), (1, 48, 0, 1, 1, false, 194), (0, 19, 0, 2, 1, false, 195), (1, 55, 0, 2, 1, false, 196), (2, 9, 2, 0, 0, true, 210), (2, 15, 2, 1, 0, true, 211), (11, 298, 2, 1, 0, true, 212), (7, 11, 7, 0, 0, true, 224), (7, 15, 7, 1, 0, true, 225), (7, 18, 7, 2, 0, true, 226), (7, 31, 7, 3, 1, false, 227), (9, 9, 9, 0, 0, true, 243), (9, 15, 9, 1, 0, true, 244), (9, 18, 9, 2, 0, true, 245), (11, 338, 9, 2, 0, true, 246), (9, 21, 9, 3, 0, true, 247), (9, 24, 9, 4, 1, false, 248), (11, 335, 9, 4, 1, false, 249), (9, 28, 9, 5, 1, false, 250), (3, 9, 3, 0, 0, true, 273), (3, 15, 3, 1, 0, true, 274), (11, 379, 3, 1, 0, true, 275), (3, 18, 3, 2, 0, true, 276), (11, 382, 3, 2, 0, true, 277), (3, 27, 3, 3, 1, false, 278), (11, 447, 3, 3, 1, false, 279), (6, 9, 6, 0, 0, true, 296), (5, 19, 6, 0, 0, true, 297), (0, 22, 6, 0, 0, true, 298), (8, 40, 6, 0, 0, true, 299), (9, 35, 6, 0, 0, true, 300), (11, 404, 6, 0, 0, true, 301), (6, 15, 6, 1, 1, false, 302), (11, 394, 6, 1, 1, false, 303), (6, 19, 6, 2, 1, false, 304), (11, 414, 6, 2, 1, false, 305), (6, 23, 6, 3, 1, false, 306), (11, 14, 11, 0, 0, true, 316), (11, 21, 11, 1, 0, true, 317), (11, 27, 11, 2, 0, true, 318), (11, 33, 11, 3, 0, true, 319), (11, 40, 11, 4, 0, true, 320), (11, 47, 11, 5, 0, true, 321), (11, 54, 11, 6, 0, true, 322), (11, 61, 11, 7, 0, true, 323), (11, 68, 11, 8, 0, true, 324), (11, 75, 11, 9, 0, true, 325), (11, 81, 11, 10, 0, true, 326), (11, 98, 11, 11, 1, false, 327), (11, 101, 11, 12, 1, false, 328), (11, 433, 11, 13, 1, false, 329), (11, 167, 11, 14, 1, false, 330), (8, 22, 8, 0, 1, true, 476), (1, 31, 8, 0, 1, true, 477), (11, 439, 8, 0, 1, true, 478), (8, 25, 8, 1, 1, true, 479), (11, 206, 8, 1, 1, true, 480), (8, 28, 8, 2, 1, true, 481), (1, 36, 8, 2, 1, true, 482), (11, 189, 8, 2, 1, true, 483), (8, 31, 8, 3, 1, true, 484), (11, 192, 8, 3, 1, true, 485), (8, 9, 8, 4, 0, true, 486), (8, 15, 8, 5, 0, true, 487), (8, 49, 8, 6, 1, false, 488), (8, 58, 8, 7, 1, false, 489), (11, 219, 8, 7, 1, false, 490), (11, 199, 8, 8, 1, false, 491), (8, 18, 8, 9, 1, false, 492), (11, 222, 8, 9, 1, false, 493), (5, 9, 5, 0, 0, true, 610), (5, 15, 5, 1, 1, true, 611), (12, 147, 12, 0, 1, false, 1007), (12, 7, 12, 1, 0, true, 1008), (12, 13, 12, 2, 0, true, 1009), (12, 16, 12, 3, 0, true, 1010), (12, 183, 12, 4, 1, false, 1011), (12, 19, 12, 5, 0, true, 1012), (12, 22, 12, 6, 0, true, 1013), (12, 177, 12, 7, 1, false, 1014), (12, 25, 12, 8, 0, true, 1015), (12, 199, 12, 9, 1, false, 1016), (12, 28, 12, 10, 0, true, 1017), (12, 31, 12, 11, 0, true, 1018), (12, 34, 12, 12, 0, true, 1019), (12, 37, 12, 13, 0, true, 1020), (12, 40, 12, 14, 0, true, 1021), (12, 43, 12, 15, 0, true, 1022), (12, 46, 12, 16, 0, true, 1023), (12, 49, 12, 17, 0, true, 1024), (12, 242, 12, 18, 1, false, 1025), (12, 52, 12, 19, 0, true, 1026), (12, 55, 12, 20, 0, true, 1027), (12, 258, 12, 21, 1, false, 1028), (12, 58, 12, 22, 0, true, 1029), (12, 61, 12, 23, 0, true, 1030), (12, 64, 12, 24, 0, true, 1031), (12, 67, 12, 25, 0, true, 1032), (12, 268, 12, 26, 1, false, 1033), (12, 70, 12, 27, 0, true, 1034), (12, 271, 12, 28, 1, false, 1035), (12, 278, 12, 29, 2, false, 1036), (12, 73, 12, 30, 0, true, 1037), (12, 76, 12, 31, 0, true, 1038), (12, 79, 12, 32, 0, true, 1039), (12, 313, 12, 33, 1, false, 1040), (12, 82, 12, 34, 0, true, 1041), (12, 85, 12, 35, 0, true, 1042), (12, 131, 12, 36, 1, false, 1043), (12, 88, 12, 37, 0, true, 1044), (12, 91, 12, 38, 0, true, 1045), (12, 329, 12, 39, 1, false, 1046), (12, 94, 12, 40, 0, true, 1047), (12, 97, 12, 41, 0, true, 1048), (12, 346, 12, 42, 1, false, 1049), (12, 100, 12, 43, 0, true, 1050), (12, 103, 12, 44, 0, true, 1051), (12, 106, 12, 45, 0, true, 1052), (12, 109, 12, 46, 0, true, 1053), (12, 370, 12, 47, 1, false, 1054), (12, 112, 12, 48, 0, true, 1055), (12, 115, 12, 49, 0, true, 1056), (12, 119, 12, 50, 0, true, 1057), (12, 122, 12, 51, 0, true, 1058), (12, 125, 12, 52, 0, true, 1059), (12, 128, 12, 53, 0, true, 1060), (12, 380, 12, 54, 1, false, 1061)]
def fres (o idx : Nat) : Option (Nat × Nat × Nat × Bool) := (fresL.find? (fun q => q.1 == o && q.2.1 == idx)).map (fun q => (q.2.2.1, q.2.2.2.1, q.2.2.2.2.1, q.2.2.2.2.2.1))
def kdT : FieldType → Nat
  | .int => 1
  | .boolean => 1
  | .long => 2
  | _ => 0
def okF (q : Nat × Nat × Nat × Nat × Nat × Bool × Nat) : Bool := match q with
  | (o, idx, ci, k, i, f, ps) => decide (lw_tbl[ps]? = some (Cond.fieldLink (RN o) idx (TN ci k).1 (TN ci k).2.1 (TN ci k).2.2.1)) && decide (ci < 13) && decide (k < nN ci) && (kdT (tyN ci k) == i) && ((TN ci k).2.2.2 == f) && decide ((TN ci k).1 = RN ci)
theorem fresL_ok : fresL.all okF = true := by decide +kernel
theorem fres_ok {o idx ci k i : Nat} {f : Bool} (h : fres o idx = some (ci, k, i, f)) : Cond.fieldLink (RN o) idx (TN ci k).1 (TN ci k).2.1 (TN ci k).2.2.1 ∈ tgw ∧ ci < 13 ∧ k < nN ci ∧ kdT (tyN ci k) = i ∧ (TN ci k).2.2.2 = f ∧ (TN ci k).1 = RN ci := by
  unfold fres at h
  cases hq : fresL.find? (fun q => q.1 == o && q.2.1 == idx) with
  | none => rw [hq] at h; cases h
  | some q =>
    rw [hq] at h
    obtain ⟨o', idx', ci', k', i', f', ps⟩ := q
    have h1 := List.find?_some hq
    have h2 := List.all_eq_true.mp fresL_ok _ (List.mem_of_find?_eq_some hq)
    simp only [Bool.and_eq_true, beq_iff_eq] at h1
    obtain ⟨rfl, rfl⟩ := h1
    cases h
    simp only [okF, Bool.and_eq_true, decide_eq_true_eq, beq_iff_eq] at h2
    obtain ⟨⟨⟨⟨⟨h3, h4⟩, h5⟩, h6⟩, h7⟩, h8⟩ := h2
    exact ⟨tgw_at h3 rfl, h4, h5, h6, h7, h8⟩
/-- the methods: name, code, locals, what is returned; the places of the words code, static or instance, selects, initialised; static; parameters; class -/
def mtab : List (MethodName × ByteArray × Nat × Option FieldType) := [(yX0_init, cX0_init, 1, none),
  (yX0_read, cX0_read, 8, (some .int)),
  (yX0_readSpan, cX0_readSpan, 7, (some .int)),
  (yX1_init, cX1_init, 1, none),
  (yX1_isThere, cX1_isThere, 4, (some .boolean)),
  (yX1_keep, cX1_keep, 4, none),
  (yX1_countOf, cX1_countOf, 5, (some .int)),
  (yX1_machinesWith, cX1_machinesWith, 4, (some .int)),
  (yX1_isChainFrom, cX1_isChainFrom, 8, (some .boolean)),
  (yX1_earliest, cX1_earliest, 10, (some .int)),
  (yX2_init, cX2_init, 1, none),
  (yX2_change, cX2_change, 5, (some .int)),
  (yX2_sumOf, cX2_sumOf, 5, (some .int)),
  (yX2_setsAsLarge, cX2_setsAsLarge, 3, (some .int)),
  (yX2_setsAsGreat, cX2_setsAsGreat, 3, (some .int)),
  (yX2_setsWith, cX2_setsWith, 7, (some .int)),
  (yX2_likesOf, cX2_likesOf, 6, (some .int)),
  (yX3_init, cX3_init, 1, none),
  (yX3_allow, cX3_allow, 5, (some .int)),
  (yX3_keepLook, cX3_keepLook, 4, (some .int)),
  (yX4_init, cX4_init, 1, none),
  (yX4_hasRoad, cX4_hasRoad, 3, (some .boolean)),
  (yX4_hasPost, cX4_hasPost, 3, (some .boolean)),
  (yX4_layRoad, cX4_layRoad, 3, none),
  (yX4_takeRoad, cX4_takeRoad, 4, none),
  (yX4_turnPost, cX4_turnPost, 3, none),
  (yX4_doorBetween, cX4_doorBetween, 4, (some .int)),
  (yX4_doorOn, cX4_doorOn, 4, (some .int)),
  (yX4_doorStands, cX4_doorStands, 2, (some .boolean)),
  (yX4_isShut, cX4_isShut, 2, (some .boolean)),
  (yX4_turnDoor, cX4_turnDoor, 2, none),
  (yX4_openRoads, cX4_openRoads, 4, none),
  (yX4_leavePosts, cX4_leavePosts, 2, none),
  (yX4_reach, cX4_reach, 7, (some .int)),
  (yX4_parts, cX4_parts, 3, (some .boolean)),
  (yX4_findWay, cX4_findWay, 4, (some .boolean)),
  (yX4_measureFrom, cX4_measureFrom, 4, none),
  (yX4_measureAround, cX4_measureAround, 4, none),
  (yX4_firstNearer, cX4_firstNearer, 3, (some .int)),
  (yX4_wayHasPost, cX4_wayHasPost, 2, (some .boolean)),
  (yX5_init, cX5_init, 4, none),
  (yX5_isAt, cX5_isAt, 5, (some .boolean)),
  (yX5_placesIn, cX5_placesIn, 6, (some .int)),
  (yX5_firstIn, cX5_firstIn, 5, (some .int)),
  (yX6_init, cX6_init, 1, none),
  (yX6_begin, cX6_begin, 3, none),
  (yX6_isOfOther, cX6_isOfOther, 2, (some .boolean)),
  (yX6_spans, cX6_spans, 3, (some .boolean)),
  (yX6_areAllIn, cX6_areAllIn, 6, (some .boolean)),
  (yX6_cut, cX6_cut, 2, (some .int)),
  (yX7_init, cX7_init, 1, none),
  (yX7_isThing, cX7_isThing, 1, (some .boolean)),
  (yX7_spotOf, cX7_spotOf, 2, (some .int)),
  (yX7_indexOf, cX7_indexOf, 3, (some .int)),
  (yX7_take, cX7_take, 5, (some .boolean)),
  (yX7_toldOf, cX7_toldOf, 4, (some .int)),
  (yX7_trulyOf, cX7_trulyOf, 3, (some .int)),
  (yX7_missed, cX7_missed, 3, (some .int)),
  (yX8_init, cX8_init, 5, none),
  (yX8_isSealed, cX8_isSealed, 1, (some .boolean)),
  (yX8_see, cX8_see, 7, none),
  (yX8_seeByte, cX8_seeByte, 3, none),
  (yX8_byteAt, cX8_byteAt, 3, (some .int)),
  (yX8_joined, cX8_joined, 2, (some .int)),
  (yX8_length, cX8_length, 1, (some .int)),
  (yX8_twofold, cX8_twofold, 3, (some .int)),
  (yX9_init, cX9_init, 1, none),
  (yX9_isBarred, cX9_isBarred, 3, (some .boolean)),
  (yX9_turnBar, cX9_turnBar, 3, none),
  (yX9_leadsTo, cX9_leadsTo, 3, (some .int)),
  (yX9_growBy, cX9_growBy, 7, (some .int)),
  (yX9_hasBarred, cX9_hasBarred, 5, (some .boolean)),
  (yX9_newState, cX9_newState, 3, (some .int)),
  (yX9_canGo, cX9_canGo, 3, (some .boolean)),
  (yX9_goneAlong, cX9_goneAlong, 7, (some .int)),
  (yX9_rowsOf, cX9_rowsOf, 5, (some .int)),
  (yX10_init, cX10_init, 1, none),
  (yX10_keep, cX10_keep, 4, (some .int)),
  (yX10_stoppedIn, cX10_stoppedIn, 4, (some .int)),
  (yX10_weightOf, cX10_weightOf, 4, (some .int)),
  (yX11_init, cX11_init, 2, none),
  (yX11_isIn, cX11_isIn, 3, (some .boolean)),
  (yX11_isMachine, cX11_isMachine, 1, (some .boolean)),
  (yX11_areMachines, cX11_areMachines, 2, (some .boolean)),
  (yX11_isTick, cX11_isTick, 1, (some .boolean)),
  (yX11_isLane, cX11_isLane, 1, (some .boolean)),
  (yX11_isHourSet, cX11_isHourSet, 1, (some .boolean)),
  (yX11_areApart, cX11_areApart, 2, (some .boolean)),
  (yX11_areDoors, cX11_areDoors, 2, (some .boolean)),
  (yX11_talkAt, cX11_talkAt, 2, (some (.object "WireWatch$Talk"))),
  (yX11_rowAt, cX11_rowAt, 2, (some (.object "WireWatch$Row"))),
  (yX11_sheetAt, cX11_sheetAt, 2, (some (.object "WireWatch$Sheet"))),
  (yX11_greatestShared, cX11_greatestShared, 11, (some .long)),
  (yX11_share, cX11_share, 7, (some .long)),
  (yX11_road, cX11_road, 4, (some .int)),
  (yX11_post, cX11_post, 4, (some .int)),
  (yX11_door, cX11_door, 3, (some .int)),
  (yX11_shut, cX11_shut, 3, (some .int)),
  (yX11_way, cX11_way, 4, (some .int)),
  (yX11_blind, cX11_blind, 3, (some .int)),
  (yX11_talk, cX11_talk, 4, (some .int)),
  (yX11_piece, cX11_piece, 11, (some .int)),
  (yX11_about, cX11_about, 4, (some .int)),
  (yX11_at, cX11_at, 5, (some .int)),
  (yX11_row, cX11_row, 7, (some .int)),
  (yX11_fits, cX11_fits, 7, (some .int)),
  (yX11_scan, cX11_scan, 5, (some .int)),
  (yX11_scanOne, cX11_scanOne, 6, none),
  (yX11_finding, cX11_finding, 3, (some .int)),
  (yX11_clear, cX11_clear, 4, (some .int)),
  (yX11_nothing, cX11_nothing, 5, (some .long)),
  (yX11_chain, cX11_chain, 8, (some .int)),
  (yX11_count, cX11_count, 4, (some .int)),
  (yX11_odds, cX11_odds, 4, (some .long)),
  (yX11_group, cX11_group, 4, (some .int)),
  (yX11_likes, cX11_likes, 3, (some .int)),
  (yX11_put, cX11_put, 3, (some .int)),
  (yX11_told, cX11_told, 3, (some .int)),
  (yX11_miss, cX11_miss, 1, (some .int)),
  (yX11_isSign, cX11_isSign, 1, (some .boolean)),
  (yX11_bar, cX11_bar, 4, (some .int)),
  (yX11_grow, cX11_grow, 7, (some .int)),
  (yX11_gone, cX11_gone, 7, (some .int)),
  (yX11_answer, cX11_answer, 4, (some .int)),
  (yX11_next, cX11_next, 4, (some .int)),
  (yX11_rows, cX11_rows, 2, (some .int)),
  (yX11_work, cX11_work, 4, (some .int)),
  (yX11_still, cX11_still, 4, (some .int)),
  (yX11_parted, cX11_parted, 4, (some .int)),
  (yX11_least, cX11_least, 8, (some .int)),
  (yX11_may, cX11_may, 4, (some .int)),
  (yX11_look, cX11_look, 5, (some .int)),
  (yX11_looks, cX11_looks, 3, (some .int)),
  (yX11_faulted, cX11_faulted, 2, (some .int)),
  (yX11_lostBy, cX11_lostBy, 2, (some .long)),
  (yX11_againstTaking, cX11_againstTaking, 5, (some .int)),
  (yX11_sheet, cX11_sheet, 5, (some .int)),
  (yX11_lose, cX11_lose, 3, (some .int)),
  (yX11_set, cX11_set, 5, (some .int)),
  (yX11_cell, cX11_cell, 5, (some .long)),
  (yX11_copy, cX11_copy, 8, (some .int)),
  (yX11_tell, cX11_tell, 3, (some .int)),
  (yX11_leave, cX11_leave, 2, none),
  (yX11_tellingOfTalk, cX11_tellingOfTalk, 2, (some .int)),
  (yX11_tellingOfSealed, cX11_tellingOfSealed, 2, (some .int)),
  (yX11_tellingOfCarried, cX11_tellingOfCarried, 3, (some .int)),
  (yX11_call, cX11_call, 3, (some .int)),
  (yX11_as, cX11_as, 4, (some .int)),
  (yX11_trace, cX11_trace, 1, (some .int)),
  (yX11_fault, cX11_fault, 1, (some .int)),
  (yX11_many, cX11_many, 2, (some .int)),
  (yX12_init, cX12_init, 2, none),
  (yX12_in, cX12_in, 6, (some .boolean)),
  (yX12_lost, cX12_lost, 0, (some .long)),
  (yX12_hasBit, cX12_hasBit, 2, (some .boolean)),
  (yX12_bits, cX12_bits, 3, (some .int)),
  (yX12_lesser, cX12_lesser, 2, (some .int)),
  (yX12_common, cX12_common, 10, (some .long)),
  (yX12_share, cX12_share, 5, (some .long)),
  (yX12_isTick, cX12_isTick, 1, (some .boolean)),
  (yX12_refused, cX12_refused, 2, (some .int)),
  (yX12_failed, cX12_failed, 2, (some .int)),
  (yX12_failedLong, cX12_failedLong, 2, (some .long)),
  (yX12_barred, cX12_barred, 6, (some .int)),
  (yX12_areCells, cX12_areCells, 7, (some .boolean)),
  (yX12_noMachine, cX12_noMachine, 1, (some .boolean)),
  (yX12_road, cX12_road, 4, (some .int)),
  (yX12_noRoad, cX12_noRoad, 3, (some .boolean)),
  (yX12_post, cX12_post, 4, (some .int)),
  (yX12_door, cX12_door, 3, (some .int)),
  (yX12_shut, cX12_shut, 3, (some .int)),
  (yX12_isOpen, cX12_isOpen, 6, (some .boolean)),
  (yX12_layFar, cX12_layFar, 7, none),
  (yX12_nextOn, cX12_nextOn, 3, (some .int)),
  (yX12_way, cX12_way, 7, (some .int)),
  (yX12_blind, cX12_blind, 3, (some .int)),
  (yX12_noTalk, cX12_noTalk, 2, (some .boolean)),
  (yX12_talk, cX12_talk, 4, (some .int)),
  (yX12_isSeen, cX12_isSeen, 5, (some .boolean)),
  (yX12_take, cX12_take, 5, none),
  (yX12_piece, cX12_piece, 10, (some .int)),
  (yX12_joinedOf, cX12_joinedOf, 3, (some .int)),
  (yX12_lengthOf, cX12_lengthOf, 4, (some .int)),
  (yX12_about, cX12_about, 5, (some .int)),
  (yX12_byteAt, cX12_byteAt, 5, (some .int)),
  (yX12_at, cX12_at, 4, (some .int)),
  (yX12_noRow, cX12_noRow, 2, (some .boolean)),
  (yX12_row, cX12_row, 7, (some .int)),
  (yX12_doesFit, cX12_doesFit, 9, (some .boolean)),
  (yX12_fitsOf, cX12_fitsOf, 9, (some .int)),
  (yX12_fits, cX12_fits, 5, (some .int)),
  (yX12_isFound, cX12_isFound, 5, (some .boolean)),
  (yX12_scan, cX12_scan, 6, (some .int)),
  (yX12_finding, cX12_finding, 3, (some .int)),
  (yX12_clear, cX12_clear, 4, (some .int)),
  (yX12_nothing, cX12_nothing, 6, (some .long)),
  (yX12_readChain, cX12_readChain, 7, (some .int)),
  (yX12_findAfter, cX12_findAfter, 7, (some .int)),
  (yX12_hasFrom, cX12_hasFrom, 6, (some .boolean)),
  (yX12_chain, cX12_chain, 10, (some .int)),
  (yX12_areHours, cX12_areHours, 1, (some .boolean)),
  (yX12_count, cX12_count, 5, (some .int)),
  (yX12_sumIn, cX12_sumIn, 5, (some .int)),
  (yX12_odds, cX12_odds, 9, (some .long)),
  (yX12_group, cX12_group, 4, (some .int)),
  (yX12_likes, cX12_likes, 5, (some .int)),
  (yX12_placeIn, cX12_placeIn, 4, (some .int)),
  (yX12_toldOf, cX12_toldOf, 2, (some .int)),
  (yX12_thingOf, cX12_thingOf, 3, (some .int)),
  (yX12_isThing, cX12_isThing, 1, (some .boolean)),
  (yX12_put, cX12_put, 5, (some .int)),
  (yX12_told, cX12_told, 4, (some .int)),
  (yX12_miss, cX12_miss, 3, (some .int)),
  (yX12_isSign, cX12_isSign, 1, (some .boolean)),
  (yX12_isBarred, cX12_isBarred, 3, (some .boolean)),
  (yX12_bar, cX12_bar, 4, (some .int)),
  (yX12_noGrowing, cX12_noGrowing, 6, (some .int)),
  (yX12_grow, cX12_grow, 11, (some .int)),
  (yX12_gone, cX12_gone, 10, (some .int)),
  (yX12_noState, cX12_noState, 2, (some .boolean)),
  (yX12_answer, cX12_answer, 4, (some .int)),
  (yX12_next, cX12_next, 3, (some .int)),
  (yX12_rows, cX12_rows, 7, (some .int)),
  (yX12_work, cX12_work, 4, (some .int)),
  (yX12_areDoors, cX12_areDoors, 2, (some .boolean)),
  (yX12_stillBy, cX12_stillBy, 4, (some .int)),
  (yX12_harmOf, cX12_harmOf, 4, (some .int)),
  (yX12_still, cX12_still, 4, (some .int)),
  (yX12_areApart, cX12_areApart, 2, (some .boolean)),
  (yX12_areParted, cX12_areParted, 7, (some .boolean)),
  (yX12_parted, cX12_parted, 4, (some .int)),
  (yX12_least, cX12_least, 8, (some .int)),
  (yX12_noKeeper, cX12_noKeeper, 1, (some .boolean)),
  (yX12_may, cX12_may, 5, (some .int)),
  (yX12_look, cX12_look, 4, (some .int)),
  (yX12_looks, cX12_looks, 5, (some .int)),
  (yX12_noSheet, cX12_noSheet, 1, (some .boolean)),
  (yX12_sheet, cX12_sheet, 5, (some .int)),
  (yX12_lose, cX12_lose, 3, (some .int)),
  (yX12_noCell, cX12_noCell, 3, (some .int)),
  (yX12_set, cX12_set, 4, (some .int)),
  (yX12_cell, cX12_cell, 4, (some .long)),
  (yX12_isBeyond, cX12_isBeyond, 4, (some .boolean)),
  (yX12_copy, cX12_copy, 7, (some .int)),
  (yX12_traced, cX12_traced, 2, none),
  (yX12_tell, cX12_tell, 4, (some .int)),
  (yX12_call, cX12_call, 2, (some .int)),
  (yX12_as, cX12_as, 3, (some .int)),
  (yX12_trace, cX12_trace, 1, (some .int)),
  (yX12_fault, cX12_fault, 1, (some .int)),
  (yX12_many, cX12_many, 4, (some .int)),
  (yJ6_bitCount_0f7a4, cJ6_bitCount_0f7a4, 1, (some .int)),
  (yJ9_max_7cf53, cJ9_max_7cf53, 2, (some .int)),
  (yJ9_min_7cf53, cJ9_min_7cf53, 2, (some .int)),
  (yJ7_fill_53178, cJ7_fill_53178, 4, none)]
def mpos : List (Nat × Nat × Nat × Nat × Bool × Nat × Nat) := [(189, 188, 0, 64, false, 0, 0), (685, 683, 684, 64, false, 4, 0), (689, 688, 11, 64, false, 4, 0), (159, 158, 0, 63, false, 0, 1), (650, 648, 649, 63, false, 2, 1), (654, 652, 653, 63, false, 3, 1), (671, 669, 670, 63, false, 2, 1), (693, 691, 692, 63, false, 1, 1), (697, 696, 12, 63, false, 2, 1), (701, 700, 13, 63, false, 4, 1), (208, 207, 0, 65, false, 0, 2), (709, 707, 708, 65, false, 3, 2), (730, 729, 14, 65, false, 2, 2), (737, 735, 736, 65, false, 1, 2), (720, 718, 719, 65, false, 2, 2), (733, 732, 0, 65, true, 5, 2), (751, 749, 750, 65, false, 2, 2), (268, 267, 0, 68, false, 0, 3), (914, 912, 913, 68, false, 3, 3), (922, 920, 921, 68, false, 3, 3), (89, 88, 0, 61, false, 0, 4), (378, 376, 377, 61, false, 2, 4), (398, 396, 397, 61, false, 2, 4), (382, 380, 381, 61, false, 2, 4), (386, 384, 385, 61, false, 2, 4), (402, 400, 401, 61, false, 2, 4), (390, 388, 389, 61, false, 2, 4), (410, 408, 409, 61, false, 2, 4), (418, 416, 417, 61, false, 1, 4), (423, 421, 422, 61, false, 1, 4), (427, 425, 426, 61, false, 1, 4), (439, 437, 438, 61, false, 1, 4), (461, 459, 460, 61, false, 0, 4), (465, 463, 464, 61, false, 1, 4), (888, 886, 887, 61, false, 2, 4), (435, 433, 434, 61, false, 2, 4), (443, 442, 0, 61, false, 1, 4), (448, 447, 1, 61, false, 2, 4), (452, 451, 2, 61, false, 1, 4), (557, 555, 556, 61, false, 0, 4), (605, 604, 0, 74, false, 3, 5), (633, 632, 9, 74, false, 3, 5), (628, 626, 627, 74, false, 2, 5), (638, 636, 637, 74, false, 2, 5), (294, 293, 0, 70, false, 0, 6), (934, 932, 933, 70, false, 2, 6), (540, 538, 539, 70, false, 1, 6), (548, 546, 547, 70, false, 2, 6), (552, 550, 551, 70, false, 4, 6), (947, 945, 946, 70, false, 1, 6), (222, 221, 0, 66, false, 0, 7), (758, 757, 0, 66, true, 1, 7), (770, 769, 0, 66, true, 2, 7), (767, 766, 15, 66, false, 1, 7), (763, 761, 762, 66, false, 2, 7), (778, 776, 777, 66, false, 1, 7), (789, 787, 788, 66, false, 1, 7), (797, 795, 796, 66, false, 0, 7), (473, 472, 0, 72, false, 4, 8), (593, 591, 592, 72, false, 0, 8), (562, 560, 561, 72, false, 5, 8), (566, 565, 7, 72, false, 2, 8), (597, 595, 596, 72, false, 2, 8), (577, 575, 576, 72, false, 0, 8), (581, 579, 580, 72, false, 0, 8), (585, 583, 584, 72, false, 0, 8), (241, 240, 0, 67, false, 0, 9), (809, 807, 808, 67, false, 2, 9), (813, 811, 812, 67, false, 2, 9), (830, 828, 829, 67, false, 2, 9), (821, 819, 820, 67, false, 3, 9), (825, 824, 16, 67, false, 3, 9), (834, 833, 17, 67, false, 2, 9), (846, 845, 18, 67, false, 2, 9), (842, 840, 841, 67, false, 3, 9), (863, 861, 862, 67, false, 1, 9), (135, 134, 0, 62, false, 0, 10), (872, 870, 871, 62, false, 3, 10), (884, 882, 883, 62, false, 1, 10), (893, 891, 892, 62, false, 1, 10), (81, 80, 0, 60, false, 0, 11), (374, 373, 0, 60, true, 3, 11), (371, 370, 0, 60, true, 1, 11), (368, 367, 0, 60, true, 2, 11), (529, 528, 0, 60, true, 1, 11), (536, 535, 0, 60, true, 1, 11), (716, 715, 0, 60, true, 1, 11), (900, 899, 0, 60, true, 2, 11), (880, 879, 19, 60, false, 1, 11), (522, 521, 3, 60, false, 1, 11), (624, 623, 8, 60, false, 1, 11), (526, 525, 4, 60, false, 1, 11), (677, 676, 0, 60, true, 2, 11), (674, 673, 0, 60, true, 3, 11), (365, 363, 364, 60, false, 3, 11), (394, 392, 393, 60, false, 3, 11), (406, 404, 405, 60, false, 2, 11), (414, 412, 413, 60, false, 2, 11), (431, 429, 430, 60, false, 3, 11), (456, 454, 455, 60, false, 2, 11), (469, 467, 468, 60, false, 3, 11), (518, 516, 517, 60, false, 7, 11), (573, 571, 572, 60, false, 2, 11), (589, 587, 588, 60, false, 3, 11), (601, 599, 600, 60, false, 4, 11), (620, 618, 619, 60, false, 4, 11), (642, 640, 641, 60, false, 1, 11), (646, 645, 10, 60, false, 3, 11), (658, 656, 657, 60, false, 2, 11), (662, 660, 661, 60, false, 2, 11), (666, 664, 665, 60, false, 2, 11), (681, 679, 680, 60, false, 4, 11), (705, 703, 704, 60, false, 3, 11), (713, 711, 712, 60, false, 3, 11), (743, 741, 742, 60, false, 2, 11), (747, 745, 746, 60, false, 2, 11), (755, 753, 754, 60, false, 2, 11), (785, 783, 784, 60, false, 2, 11), (793, 791, 792, 60, false, 0, 11), (805, 804, 0, 60, true, 1, 11), (802, 800, 801, 60, false, 3, 11), (817, 815, 816, 60, false, 4, 11), (838, 836, 837, 60, false, 4, 11), (850, 848, 849, 60, false, 2, 11), (854, 852, 853, 60, false, 2, 11), (859, 857, 858, 60, false, 1, 11), (868, 866, 867, 60, false, 3, 11), (876, 874, 875, 60, false, 2, 11), (897, 895, 896, 60, false, 3, 11), (905, 903, 904, 60, false, 3, 11), (910, 908, 909, 60, false, 3, 11), (918, 916, 917, 60, false, 3, 11), (926, 924, 925, 60, false, 2, 11), (544, 543, 6, 60, false, 1, 11), (955, 954, 20, 60, false, 1, 11), (533, 532, 5, 60, false, 4, 11), (930, 928, 929, 60, false, 3, 11), (939, 937, 938, 60, false, 1, 11), (943, 941, 942, 60, false, 3, 11), (951, 949, 950, 60, false, 3, 11), (959, 957, 958, 60, false, 5, 11), (964, 962, 963, 60, false, 1, 11), (972, 971, 22, 60, false, 1, 11), (980, 979, 24, 60, false, 1, 11), (976, 975, 23, 60, false, 1, 11), (968, 967, 21, 60, false, 1, 11), (984, 982, 983, 60, false, 1, 11), (988, 986, 987, 60, false, 2, 11), (992, 990, 991, 60, false, 0, 11), (996, 994, 995, 60, false, 0, 11), (1000, 998, 999, 60, false, 1, 11), (1005, 1004, 0, 71, false, 0, 12), (1184, 1183, 0, 71, true, 3, 12), (1339, 1338, 0, 71, true, 0, 12), (1187, 1186, 0, 71, true, 2, 12), (1384, 1383, 0, 71, true, 1, 12), (1415, 1414, 0, 71, true, 2, 12), (1346, 1345, 0, 71, true, 2, 12), (1343, 1342, 0, 71, true, 3, 12), (1249, 1248, 0, 71, true, 1, 12), (1245, 1244, 30, 71, false, 1, 12), (1258, 1257, 32, 71, false, 1, 12), (1538, 1537, 57, 71, false, 1, 12), (1254, 1253, 31, 71, false, 4, 12), (1266, 1265, 33, 71, false, 4, 12), (1180, 1179, 0, 71, true, 1, 12), (1177, 1175, 1176, 71, false, 3, 12), (1195, 1194, 25, 71, false, 2, 12), (1191, 1189, 1190, 71, false, 3, 12), (1199, 1197, 1198, 71, false, 2, 12), (1203, 1201, 1202, 71, false, 2, 12), (1216, 1215, 27, 71, false, 4, 12), (1212, 1211, 26, 71, false, 3, 12), (1220, 1219, 28, 71, false, 1, 12), (1207, 1205, 1206, 71, false, 3, 12), (1224, 1222, 1223, 71, false, 2, 12), (1237, 1236, 29, 71, false, 1, 12), (1228, 1226, 1227, 71, false, 3, 12), (1270, 1269, 34, 71, false, 1, 12), (1274, 1273, 35, 71, false, 3, 12), (1233, 1231, 1232, 71, false, 7, 12), (1282, 1281, 36, 71, false, 1, 12), (1286, 1285, 37, 71, false, 1, 12), (1278, 1276, 1277, 71, false, 2, 12), (1295, 1294, 38, 71, false, 3, 12), (1290, 1288, 1289, 71, false, 3, 12), (1308, 1307, 39, 71, false, 1, 12), (1299, 1297, 1298, 71, false, 4, 12), (1316, 1315, 41, 71, false, 5, 12), (1312, 1311, 40, 71, false, 4, 12), (1304, 1302, 1303, 71, false, 4, 12), (1324, 1323, 42, 71, false, 2, 12), (1320, 1318, 1319, 71, false, 1, 12), (1328, 1326, 1327, 71, false, 2, 12), (1332, 1330, 1331, 71, false, 2, 12), (1336, 1334, 1335, 71, false, 2, 12), (1354, 1353, 43, 71, false, 2, 12), (1364, 1363, 45, 71, false, 3, 12), (1360, 1359, 44, 71, false, 2, 12), (1350, 1348, 1349, 71, false, 4, 12), (1376, 1375, 0, 71, true, 1, 12), (1368, 1366, 1367, 71, false, 3, 12), (1381, 1380, 46, 71, false, 2, 12), (1373, 1371, 1372, 71, false, 3, 12), (1388, 1386, 1387, 71, false, 2, 12), (1392, 1390, 1391, 71, false, 2, 12), (1408, 1407, 0, 71, true, 2, 12), (1412, 1411, 48, 71, false, 1, 12), (1405, 1404, 47, 71, false, 1, 12), (1399, 1398, 0, 71, true, 1, 12), (1396, 1394, 1395, 71, false, 2, 12), (1419, 1417, 1418, 71, false, 2, 12), (1423, 1421, 1422, 71, false, 0, 12), (1430, 1429, 0, 71, true, 1, 12), (1434, 1433, 49, 71, false, 2, 12), (1427, 1425, 1426, 71, false, 3, 12), (1443, 1442, 50, 71, false, 2, 12), (1438, 1436, 1437, 71, false, 4, 12), (1447, 1445, 1446, 71, false, 4, 12), (1455, 1454, 51, 71, false, 1, 12), (1451, 1449, 1450, 71, false, 2, 12), (1459, 1457, 1458, 71, false, 2, 12), (1463, 1461, 1462, 71, false, 1, 12), (1467, 1465, 1466, 71, false, 3, 12), (1475, 1474, 52, 71, false, 1, 12), (1479, 1478, 53, 71, false, 1, 12), (1483, 1482, 54, 71, false, 1, 12), (1471, 1469, 1470, 71, false, 2, 12), (1490, 1489, 0, 71, true, 2, 12), (1495, 1494, 55, 71, false, 3, 12), (1487, 1485, 1486, 71, false, 3, 12), (1499, 1497, 1498, 71, false, 3, 12), (1506, 1505, 0, 71, true, 1, 12), (1503, 1501, 1502, 71, false, 3, 12), (1510, 1508, 1509, 71, false, 3, 12), (1514, 1512, 1513, 71, false, 2, 12), (1240, 1239, 0, 71, true, 1, 12), (1518, 1516, 1517, 71, false, 3, 12), (1522, 1520, 1521, 71, false, 1, 12), (1530, 1529, 56, 71, false, 2, 12), (1526, 1524, 1525, 71, false, 3, 12), (1534, 1532, 1533, 71, false, 3, 12), (1261, 1260, 0, 71, true, 3, 12), (1542, 1540, 1541, 71, false, 5, 12), (1550, 1549, 58, 71, false, 1, 12), (1546, 1544, 1545, 71, false, 1, 12), (1554, 1552, 1553, 71, false, 1, 12), (1558, 1556, 1557, 71, false, 2, 12), (1562, 1560, 1561, 71, false, 0, 12), (1566, 1564, 1565, 71, false, 0, 12), (1570, 1568, 1569, 71, false, 1, 12), (723, 722, 0, 76, true, 1, 14), (569, 568, 0, 73, true, 2, 16), (781, 780, 0, 73, true, 2, 16), (272, 271, 0, 69, true, 2, 15)]
def yM (k : Nat) : MethodName := (mtab.getD k (yX0_init, cX0_init, 0, none)).1
def cM (k : Nat) : ByteArray := (mtab.getD k (yX0_init, cX0_init, 0, none)).2.1
def lM (k : Nat) : Nat := (mtab.getD k (yX0_init, cX0_init, 0, none)).2.2.1
def rM (k : Nat) : Option FieldType := (mtab.getD k (yX0_init, cX0_init, 0, none)).2.2.2
def sM (k : Nat) : Bool := (mpos.getD k (0, 0, 0, 0, false, 0, 0)).2.2.2.2.1
def pM (k : Nat) : Nat := (mpos.getD k (0, 0, 0, 0, false, 0, 0)).2.2.2.2.2.1
def oM (k : Nat) : Nat := (mpos.getD k (0, 0, 0, 0, false, 0, 0)).2.2.2.2.2.2
def okM (k : Nat) : Bool := match mpos.getD k (0, 0, 0, 0, false, 0, 0) with
  | (_, ps, pl, pi, st, np, oc) => decide (lw_tbl[ps]? = some (if st = true then Cond.static (yM k) else Cond.instanceMethod (yM k))) && decide (lw_tbl[pi]? = some (Cond.initialized (yM k).cls))
    && (st || (yM k).name == "<init>" || decide (lw_tbl[pl]? = some (Cond.selects (RN oc) (yM k) (yM k)))) && decide ((yM k).cls = RN oc) && decide ((yM k).cls ≠ "java/lang/invoke/MethodHandle" ∧ (yM k).cls ≠ "java/lang/invoke/VarHandle" ∧ (parseMethodDescriptor (yM k).desc).map (fun d => d.parameters.length) = some np) && decide (lM k ≤ 40) && (st || decide (oc < 13))
theorem okM_0 : ∀ k, k < 64 → okM (0 + k) = true := by decide +kernel
theorem okM_1 : ∀ k, k < 64 → okM (64 + k) = true := by decide +kernel
theorem okM_2 : ∀ k, k < 64 → okM (128 + k) = true := by decide +kernel
theorem okM_3 : ∀ k, k < 63 → okM (192 + k) = true := by decide +kernel
theorem okM_all {k : Nat} (h : k < 255) : okM k = true := by
  rcases Nat.lt_or_ge k 64 with q | q
  · have := okM_0 (k - 0) (by omega)
    rwa [show 0 + (k - 0) = k by omega] at this
  rcases Nat.lt_or_ge k 128 with q | q
  · have := okM_1 (k - 64) (by omega)
    rwa [show 64 + (k - 64) = k by omega] at this
  rcases Nat.lt_or_ge k 192 with q | q
  · have := okM_2 (k - 128) (by omega)
    rwa [show 128 + (k - 128) = k by omega] at this
  rcases Nat.lt_or_ge k 255 with q | q
  · have := okM_3 (k - 192) (by omega)
    rwa [show 192 + (k - 192) = k by omega] at this
  omega
set_option maxRecDepth 100000 in
theorem mc_0 : lw_tbl[189]? = some (Cond.code yX0_init cX0_init 1 none) := by rfl
set_option maxRecDepth 100000 in
theorem mc_1 : lw_tbl[685]? = some (Cond.code yX0_read cX0_read 8 (some .int)) := by rfl
set_option maxRecDepth 100000 in
theorem mc_2 : lw_tbl[689]? = some (Cond.code yX0_readSpan cX0_readSpan 7 (some .int)) := by rfl
set_option maxRecDepth 100000 in
theorem mc_3 : lw_tbl[159]? = some (Cond.code yX1_init cX1_init 1 none) := by rfl
set_option maxRecDepth 100000 in
theorem mc_4 : lw_tbl[650]? = some (Cond.code yX1_isThere cX1_isThere 4 (some .boolean)) := by rfl
set_option maxRecDepth 100000 in
theorem mc_5 : lw_tbl[654]? = some (Cond.code yX1_keep cX1_keep 4 none) := by rfl
set_option maxRecDepth 100000 in
theorem mc_6 : lw_tbl[671]? = some (Cond.code yX1_countOf cX1_countOf 5 (some .int)) := by rfl
set_option maxRecDepth 100000 in
theorem mc_7 : lw_tbl[693]? = some (Cond.code yX1_machinesWith cX1_machinesWith 4 (some .int)) := by rfl
set_option maxRecDepth 100000 in
theorem mc_8 : lw_tbl[697]? = some (Cond.code yX1_isChainFrom cX1_isChainFrom 8 (some .boolean)) := by rfl
set_option maxRecDepth 100000 in
theorem mc_9 : lw_tbl[701]? = some (Cond.code yX1_earliest cX1_earliest 10 (some .int)) := by rfl
set_option maxRecDepth 100000 in
theorem mc_10 : lw_tbl[208]? = some (Cond.code yX2_init cX2_init 1 none) := by rfl
set_option maxRecDepth 100000 in
theorem mc_11 : lw_tbl[709]? = some (Cond.code yX2_change cX2_change 5 (some .int)) := by rfl
set_option maxRecDepth 100000 in
theorem mc_12 : lw_tbl[730]? = some (Cond.code yX2_sumOf cX2_sumOf 5 (some .int)) := by rfl
set_option maxRecDepth 100000 in
theorem mc_13 : lw_tbl[737]? = some (Cond.code yX2_setsAsLarge cX2_setsAsLarge 3 (some .int)) := by rfl
set_option maxRecDepth 100000 in
theorem mc_14 : lw_tbl[720]? = some (Cond.code yX2_setsAsGreat cX2_setsAsGreat 3 (some .int)) := by rfl
set_option maxRecDepth 100000 in
theorem mc_15 : lw_tbl[733]? = some (Cond.code yX2_setsWith cX2_setsWith 7 (some .int)) := by rfl
set_option maxRecDepth 100000 in
theorem mc_16 : lw_tbl[751]? = some (Cond.code yX2_likesOf cX2_likesOf 6 (some .int)) := by rfl
set_option maxRecDepth 100000 in
theorem mc_17 : lw_tbl[268]? = some (Cond.code yX3_init cX3_init 1 none) := by rfl
set_option maxRecDepth 100000 in
theorem mc_18 : lw_tbl[914]? = some (Cond.code yX3_allow cX3_allow 5 (some .int)) := by rfl
set_option maxRecDepth 100000 in
theorem mc_19 : lw_tbl[922]? = some (Cond.code yX3_keepLook cX3_keepLook 4 (some .int)) := by rfl
set_option maxRecDepth 100000 in
theorem mc_20 : lw_tbl[89]? = some (Cond.code yX4_init cX4_init 1 none) := by rfl
set_option maxRecDepth 100000 in
theorem mc_21 : lw_tbl[378]? = some (Cond.code yX4_hasRoad cX4_hasRoad 3 (some .boolean)) := by rfl
set_option maxRecDepth 100000 in
theorem mc_22 : lw_tbl[398]? = some (Cond.code yX4_hasPost cX4_hasPost 3 (some .boolean)) := by rfl
set_option maxRecDepth 100000 in
theorem mc_23 : lw_tbl[382]? = some (Cond.code yX4_layRoad cX4_layRoad 3 none) := by rfl
set_option maxRecDepth 100000 in
theorem mc_24 : lw_tbl[386]? = some (Cond.code yX4_takeRoad cX4_takeRoad 4 none) := by rfl
set_option maxRecDepth 100000 in
theorem mc_25 : lw_tbl[402]? = some (Cond.code yX4_turnPost cX4_turnPost 3 none) := by rfl
set_option maxRecDepth 100000 in
theorem mc_26 : lw_tbl[390]? = some (Cond.code yX4_doorBetween cX4_doorBetween 4 (some .int)) := by rfl
set_option maxRecDepth 100000 in
theorem mc_27 : lw_tbl[410]? = some (Cond.code yX4_doorOn cX4_doorOn 4 (some .int)) := by rfl
set_option maxRecDepth 100000 in
theorem mc_28 : lw_tbl[418]? = some (Cond.code yX4_doorStands cX4_doorStands 2 (some .boolean)) := by rfl
set_option maxRecDepth 100000 in
theorem mc_29 : lw_tbl[423]? = some (Cond.code yX4_isShut cX4_isShut 2 (some .boolean)) := by rfl
set_option maxRecDepth 100000 in
theorem mc_30 : lw_tbl[427]? = some (Cond.code yX4_turnDoor cX4_turnDoor 2 none) := by rfl
set_option maxRecDepth 100000 in
theorem mc_31 : lw_tbl[439]? = some (Cond.code yX4_openRoads cX4_openRoads 4 none) := by rfl
set_option maxRecDepth 100000 in
theorem mc_32 : lw_tbl[461]? = some (Cond.code yX4_leavePosts cX4_leavePosts 2 none) := by rfl
set_option maxRecDepth 100000 in
theorem mc_33 : lw_tbl[465]? = some (Cond.code yX4_reach cX4_reach 7 (some .int)) := by rfl
set_option maxRecDepth 100000 in
theorem mc_34 : lw_tbl[888]? = some (Cond.code yX4_parts cX4_parts 3 (some .boolean)) := by rfl
set_option maxRecDepth 100000 in
theorem mc_35 : lw_tbl[435]? = some (Cond.code yX4_findWay cX4_findWay 4 (some .boolean)) := by rfl
set_option maxRecDepth 100000 in
theorem mc_36 : lw_tbl[443]? = some (Cond.code yX4_measureFrom cX4_measureFrom 4 none) := by rfl
set_option maxRecDepth 100000 in
theorem mc_37 : lw_tbl[448]? = some (Cond.code yX4_measureAround cX4_measureAround 4 none) := by rfl
set_option maxRecDepth 100000 in
theorem mc_38 : lw_tbl[452]? = some (Cond.code yX4_firstNearer cX4_firstNearer 3 (some .int)) := by rfl
set_option maxRecDepth 100000 in
theorem mc_39 : lw_tbl[557]? = some (Cond.code yX4_wayHasPost cX4_wayHasPost 2 (some .boolean)) := by rfl
set_option maxRecDepth 100000 in
theorem mc_40 : lw_tbl[605]? = some (Cond.code yX5_init cX5_init 4 none) := by rfl
set_option maxRecDepth 100000 in
theorem mc_41 : lw_tbl[633]? = some (Cond.code yX5_isAt cX5_isAt 5 (some .boolean)) := by rfl
set_option maxRecDepth 100000 in
theorem mc_42 : lw_tbl[628]? = some (Cond.code yX5_placesIn cX5_placesIn 6 (some .int)) := by rfl
set_option maxRecDepth 100000 in
theorem mc_43 : lw_tbl[638]? = some (Cond.code yX5_firstIn cX5_firstIn 5 (some .int)) := by rfl
set_option maxRecDepth 100000 in
theorem mc_44 : lw_tbl[294]? = some (Cond.code yX6_init cX6_init 1 none) := by rfl
set_option maxRecDepth 100000 in
theorem mc_45 : lw_tbl[934]? = some (Cond.code yX6_begin cX6_begin 3 none) := by rfl
set_option maxRecDepth 100000 in
theorem mc_46 : lw_tbl[540]? = some (Cond.code yX6_isOfOther cX6_isOfOther 2 (some .boolean)) := by rfl
set_option maxRecDepth 100000 in
theorem mc_47 : lw_tbl[548]? = some (Cond.code yX6_spans cX6_spans 3 (some .boolean)) := by rfl
set_option maxRecDepth 100000 in
theorem mc_48 : lw_tbl[552]? = some (Cond.code yX6_areAllIn cX6_areAllIn 6 (some .boolean)) := by rfl
set_option maxRecDepth 100000 in
theorem mc_49 : lw_tbl[947]? = some (Cond.code yX6_cut cX6_cut 2 (some .int)) := by rfl
set_option maxRecDepth 100000 in
theorem mc_50 : lw_tbl[222]? = some (Cond.code yX7_init cX7_init 1 none) := by rfl
set_option maxRecDepth 100000 in
theorem mc_51 : lw_tbl[758]? = some (Cond.code yX7_isThing cX7_isThing 1 (some .boolean)) := by rfl
set_option maxRecDepth 100000 in
theorem mc_52 : lw_tbl[770]? = some (Cond.code yX7_spotOf cX7_spotOf 2 (some .int)) := by rfl
set_option maxRecDepth 100000 in
theorem mc_53 : lw_tbl[767]? = some (Cond.code yX7_indexOf cX7_indexOf 3 (some .int)) := by rfl
set_option maxRecDepth 100000 in
theorem mc_54 : lw_tbl[763]? = some (Cond.code yX7_take cX7_take 5 (some .boolean)) := by rfl
set_option maxRecDepth 100000 in
theorem mc_55 : lw_tbl[778]? = some (Cond.code yX7_toldOf cX7_toldOf 4 (some .int)) := by rfl
set_option maxRecDepth 100000 in
theorem mc_56 : lw_tbl[789]? = some (Cond.code yX7_trulyOf cX7_trulyOf 3 (some .int)) := by rfl
set_option maxRecDepth 100000 in
theorem mc_57 : lw_tbl[797]? = some (Cond.code yX7_missed cX7_missed 3 (some .int)) := by rfl
set_option maxRecDepth 100000 in
theorem mc_58 : lw_tbl[473]? = some (Cond.code yX8_init cX8_init 5 none) := by rfl
set_option maxRecDepth 100000 in
theorem mc_59 : lw_tbl[593]? = some (Cond.code yX8_isSealed cX8_isSealed 1 (some .boolean)) := by rfl
set_option maxRecDepth 100000 in
theorem mc_60 : lw_tbl[562]? = some (Cond.code yX8_see cX8_see 7 none) := by rfl
set_option maxRecDepth 100000 in
theorem mc_61 : lw_tbl[566]? = some (Cond.code yX8_seeByte cX8_seeByte 3 none) := by rfl
set_option maxRecDepth 100000 in
theorem mc_62 : lw_tbl[597]? = some (Cond.code yX8_byteAt cX8_byteAt 3 (some .int)) := by rfl
set_option maxRecDepth 100000 in
theorem mc_63 : lw_tbl[577]? = some (Cond.code yX8_joined cX8_joined 2 (some .int)) := by rfl
set_option maxRecDepth 100000 in
theorem mc_64 : lw_tbl[581]? = some (Cond.code yX8_length cX8_length 1 (some .int)) := by rfl
set_option maxRecDepth 100000 in
theorem mc_65 : lw_tbl[585]? = some (Cond.code yX8_twofold cX8_twofold 3 (some .int)) := by rfl
set_option maxRecDepth 100000 in
theorem mc_66 : lw_tbl[241]? = some (Cond.code yX9_init cX9_init 1 none) := by rfl
set_option maxRecDepth 100000 in
theorem mc_67 : lw_tbl[809]? = some (Cond.code yX9_isBarred cX9_isBarred 3 (some .boolean)) := by rfl
set_option maxRecDepth 100000 in
theorem mc_68 : lw_tbl[813]? = some (Cond.code yX9_turnBar cX9_turnBar 3 none) := by rfl
set_option maxRecDepth 100000 in
theorem mc_69 : lw_tbl[830]? = some (Cond.code yX9_leadsTo cX9_leadsTo 3 (some .int)) := by rfl
set_option maxRecDepth 100000 in
theorem mc_70 : lw_tbl[821]? = some (Cond.code yX9_growBy cX9_growBy 7 (some .int)) := by rfl
set_option maxRecDepth 100000 in
theorem mc_71 : lw_tbl[825]? = some (Cond.code yX9_hasBarred cX9_hasBarred 5 (some .boolean)) := by rfl
set_option maxRecDepth 100000 in
theorem mc_72 : lw_tbl[834]? = some (Cond.code yX9_newState cX9_newState 3 (some .int)) := by rfl
set_option maxRecDepth 100000 in
theorem mc_73 : lw_tbl[846]? = some (Cond.code yX9_canGo cX9_canGo 3 (some .boolean)) := by rfl
set_option maxRecDepth 100000 in
theorem mc_74 : lw_tbl[842]? = some (Cond.code yX9_goneAlong cX9_goneAlong 7 (some .int)) := by rfl
set_option maxRecDepth 100000 in
theorem mc_75 : lw_tbl[863]? = some (Cond.code yX9_rowsOf cX9_rowsOf 5 (some .int)) := by rfl
set_option maxRecDepth 100000 in
theorem mc_76 : lw_tbl[135]? = some (Cond.code yX10_init cX10_init 1 none) := by rfl
set_option maxRecDepth 100000 in
theorem mc_77 : lw_tbl[872]? = some (Cond.code yX10_keep cX10_keep 4 (some .int)) := by rfl
set_option maxRecDepth 100000 in
theorem mc_78 : lw_tbl[884]? = some (Cond.code yX10_stoppedIn cX10_stoppedIn 4 (some .int)) := by rfl
set_option maxRecDepth 100000 in
theorem mc_79 : lw_tbl[893]? = some (Cond.code yX10_weightOf cX10_weightOf 4 (some .int)) := by rfl
set_option maxRecDepth 100000 in
theorem mc_80 : lw_tbl[81]? = some (Cond.code yX11_init cX11_init 2 none) := by rfl
set_option maxRecDepth 100000 in
theorem mc_81 : lw_tbl[374]? = some (Cond.code yX11_isIn cX11_isIn 3 (some .boolean)) := by rfl
set_option maxRecDepth 100000 in
theorem mc_82 : lw_tbl[371]? = some (Cond.code yX11_isMachine cX11_isMachine 1 (some .boolean)) := by rfl
set_option maxRecDepth 100000 in
theorem mc_83 : lw_tbl[368]? = some (Cond.code yX11_areMachines cX11_areMachines 2 (some .boolean)) := by rfl
set_option maxRecDepth 100000 in
theorem mc_84 : lw_tbl[529]? = some (Cond.code yX11_isTick cX11_isTick 1 (some .boolean)) := by rfl
set_option maxRecDepth 100000 in
theorem mc_85 : lw_tbl[536]? = some (Cond.code yX11_isLane cX11_isLane 1 (some .boolean)) := by rfl
set_option maxRecDepth 100000 in
theorem mc_86 : lw_tbl[716]? = some (Cond.code yX11_isHourSet cX11_isHourSet 1 (some .boolean)) := by rfl
set_option maxRecDepth 100000 in
theorem mc_87 : lw_tbl[900]? = some (Cond.code yX11_areApart cX11_areApart 2 (some .boolean)) := by rfl
set_option maxRecDepth 100000 in
theorem mc_88 : lw_tbl[880]? = some (Cond.code yX11_areDoors cX11_areDoors 2 (some .boolean)) := by rfl
set_option maxRecDepth 100000 in
theorem mc_89 : lw_tbl[522]? = some (Cond.code yX11_talkAt cX11_talkAt 2 (some (.object "WireWatch$Talk"))) := by rfl
set_option maxRecDepth 100000 in
theorem mc_90 : lw_tbl[624]? = some (Cond.code yX11_rowAt cX11_rowAt 2 (some (.object "WireWatch$Row"))) := by rfl
set_option maxRecDepth 100000 in
theorem mc_91 : lw_tbl[526]? = some (Cond.code yX11_sheetAt cX11_sheetAt 2 (some (.object "WireWatch$Sheet"))) := by rfl
set_option maxRecDepth 100000 in
theorem mc_92 : lw_tbl[677]? = some (Cond.code yX11_greatestShared cX11_greatestShared 11 (some .long)) := by rfl
set_option maxRecDepth 100000 in
theorem mc_93 : lw_tbl[674]? = some (Cond.code yX11_share cX11_share 7 (some .long)) := by rfl
set_option maxRecDepth 100000 in
theorem mc_94 : lw_tbl[365]? = some (Cond.code yX11_road cX11_road 4 (some .int)) := by rfl
set_option maxRecDepth 100000 in
theorem mc_95 : lw_tbl[394]? = some (Cond.code yX11_post cX11_post 4 (some .int)) := by rfl
set_option maxRecDepth 100000 in
theorem mc_96 : lw_tbl[406]? = some (Cond.code yX11_door cX11_door 3 (some .int)) := by rfl
set_option maxRecDepth 100000 in
theorem mc_97 : lw_tbl[414]? = some (Cond.code yX11_shut cX11_shut 3 (some .int)) := by rfl
set_option maxRecDepth 100000 in
theorem mc_98 : lw_tbl[431]? = some (Cond.code yX11_way cX11_way 4 (some .int)) := by rfl
set_option maxRecDepth 100000 in
theorem mc_99 : lw_tbl[456]? = some (Cond.code yX11_blind cX11_blind 3 (some .int)) := by rfl
set_option maxRecDepth 100000 in
theorem mc_100 : lw_tbl[469]? = some (Cond.code yX11_talk cX11_talk 4 (some .int)) := by rfl
set_option maxRecDepth 100000 in
theorem mc_101 : lw_tbl[518]? = some (Cond.code yX11_piece cX11_piece 11 (some .int)) := by rfl
set_option maxRecDepth 100000 in
theorem mc_102 : lw_tbl[573]? = some (Cond.code yX11_about cX11_about 4 (some .int)) := by rfl
set_option maxRecDepth 100000 in
theorem mc_103 : lw_tbl[589]? = some (Cond.code yX11_at cX11_at 5 (some .int)) := by rfl
set_option maxRecDepth 100000 in
theorem mc_104 : lw_tbl[601]? = some (Cond.code yX11_row cX11_row 7 (some .int)) := by rfl
set_option maxRecDepth 100000 in
theorem mc_105 : lw_tbl[620]? = some (Cond.code yX11_fits cX11_fits 7 (some .int)) := by rfl
set_option maxRecDepth 100000 in
theorem mc_106 : lw_tbl[642]? = some (Cond.code yX11_scan cX11_scan 5 (some .int)) := by rfl
set_option maxRecDepth 100000 in
theorem mc_107 : lw_tbl[646]? = some (Cond.code yX11_scanOne cX11_scanOne 6 none) := by rfl
set_option maxRecDepth 100000 in
theorem mc_108 : lw_tbl[658]? = some (Cond.code yX11_finding cX11_finding 3 (some .int)) := by rfl
set_option maxRecDepth 100000 in
theorem mc_109 : lw_tbl[662]? = some (Cond.code yX11_clear cX11_clear 4 (some .int)) := by rfl
set_option maxRecDepth 100000 in
theorem mc_110 : lw_tbl[666]? = some (Cond.code yX11_nothing cX11_nothing 5 (some .long)) := by rfl
set_option maxRecDepth 100000 in
theorem mc_111 : lw_tbl[681]? = some (Cond.code yX11_chain cX11_chain 8 (some .int)) := by rfl
set_option maxRecDepth 100000 in
theorem mc_112 : lw_tbl[705]? = some (Cond.code yX11_count cX11_count 4 (some .int)) := by rfl
set_option maxRecDepth 100000 in
theorem mc_113 : lw_tbl[713]? = some (Cond.code yX11_odds cX11_odds 4 (some .long)) := by rfl
set_option maxRecDepth 100000 in
theorem mc_114 : lw_tbl[743]? = some (Cond.code yX11_group cX11_group 4 (some .int)) := by rfl
set_option maxRecDepth 100000 in
theorem mc_115 : lw_tbl[747]? = some (Cond.code yX11_likes cX11_likes 3 (some .int)) := by rfl
set_option maxRecDepth 100000 in
theorem mc_116 : lw_tbl[755]? = some (Cond.code yX11_put cX11_put 3 (some .int)) := by rfl
set_option maxRecDepth 100000 in
theorem mc_117 : lw_tbl[785]? = some (Cond.code yX11_told cX11_told 3 (some .int)) := by rfl
set_option maxRecDepth 100000 in
theorem mc_118 : lw_tbl[793]? = some (Cond.code yX11_miss cX11_miss 1 (some .int)) := by rfl
set_option maxRecDepth 100000 in
theorem mc_119 : lw_tbl[805]? = some (Cond.code yX11_isSign cX11_isSign 1 (some .boolean)) := by rfl
set_option maxRecDepth 100000 in
theorem mc_120 : lw_tbl[802]? = some (Cond.code yX11_bar cX11_bar 4 (some .int)) := by rfl
set_option maxRecDepth 100000 in
theorem mc_121 : lw_tbl[817]? = some (Cond.code yX11_grow cX11_grow 7 (some .int)) := by rfl
set_option maxRecDepth 100000 in
theorem mc_122 : lw_tbl[838]? = some (Cond.code yX11_gone cX11_gone 7 (some .int)) := by rfl
set_option maxRecDepth 100000 in
theorem mc_123 : lw_tbl[850]? = some (Cond.code yX11_answer cX11_answer 4 (some .int)) := by rfl
set_option maxRecDepth 100000 in
theorem mc_124 : lw_tbl[854]? = some (Cond.code yX11_next cX11_next 4 (some .int)) := by rfl
set_option maxRecDepth 100000 in
theorem mc_125 : lw_tbl[859]? = some (Cond.code yX11_rows cX11_rows 2 (some .int)) := by rfl
set_option maxRecDepth 100000 in
theorem mc_126 : lw_tbl[868]? = some (Cond.code yX11_work cX11_work 4 (some .int)) := by rfl
set_option maxRecDepth 100000 in
theorem mc_127 : lw_tbl[876]? = some (Cond.code yX11_still cX11_still 4 (some .int)) := by rfl
set_option maxRecDepth 100000 in
theorem mc_128 : lw_tbl[897]? = some (Cond.code yX11_parted cX11_parted 4 (some .int)) := by rfl
set_option maxRecDepth 100000 in
theorem mc_129 : lw_tbl[905]? = some (Cond.code yX11_least cX11_least 8 (some .int)) := by rfl
set_option maxRecDepth 100000 in
theorem mc_130 : lw_tbl[910]? = some (Cond.code yX11_may cX11_may 4 (some .int)) := by rfl
set_option maxRecDepth 100000 in
theorem mc_131 : lw_tbl[918]? = some (Cond.code yX11_look cX11_look 5 (some .int)) := by rfl
set_option maxRecDepth 100000 in
theorem mc_132 : lw_tbl[926]? = some (Cond.code yX11_looks cX11_looks 3 (some .int)) := by rfl
set_option maxRecDepth 100000 in
theorem mc_133 : lw_tbl[544]? = some (Cond.code yX11_faulted cX11_faulted 2 (some .int)) := by rfl
set_option maxRecDepth 100000 in
theorem mc_134 : lw_tbl[955]? = some (Cond.code yX11_lostBy cX11_lostBy 2 (some .long)) := by rfl
set_option maxRecDepth 100000 in
theorem mc_135 : lw_tbl[533]? = some (Cond.code yX11_againstTaking cX11_againstTaking 5 (some .int)) := by rfl
set_option maxRecDepth 100000 in
theorem mc_136 : lw_tbl[930]? = some (Cond.code yX11_sheet cX11_sheet 5 (some .int)) := by rfl
set_option maxRecDepth 100000 in
theorem mc_137 : lw_tbl[939]? = some (Cond.code yX11_lose cX11_lose 3 (some .int)) := by rfl
set_option maxRecDepth 100000 in
theorem mc_138 : lw_tbl[943]? = some (Cond.code yX11_set cX11_set 5 (some .int)) := by rfl
set_option maxRecDepth 100000 in
theorem mc_139 : lw_tbl[951]? = some (Cond.code yX11_cell cX11_cell 5 (some .long)) := by rfl
set_option maxRecDepth 100000 in
theorem mc_140 : lw_tbl[959]? = some (Cond.code yX11_copy cX11_copy 8 (some .int)) := by rfl
set_option maxRecDepth 100000 in
theorem mc_141 : lw_tbl[964]? = some (Cond.code yX11_tell cX11_tell 3 (some .int)) := by rfl
set_option maxRecDepth 100000 in
theorem mc_142 : lw_tbl[972]? = some (Cond.code yX11_leave cX11_leave 2 none) := by rfl
set_option maxRecDepth 100000 in
theorem mc_143 : lw_tbl[980]? = some (Cond.code yX11_tellingOfTalk cX11_tellingOfTalk 2 (some .int)) := by rfl
set_option maxRecDepth 100000 in
theorem mc_144 : lw_tbl[976]? = some (Cond.code yX11_tellingOfSealed cX11_tellingOfSealed 2 (some .int)) := by rfl
set_option maxRecDepth 100000 in
theorem mc_145 : lw_tbl[968]? = some (Cond.code yX11_tellingOfCarried cX11_tellingOfCarried 3 (some .int)) := by rfl
set_option maxRecDepth 100000 in
theorem mc_146 : lw_tbl[984]? = some (Cond.code yX11_call cX11_call 3 (some .int)) := by rfl
set_option maxRecDepth 100000 in
theorem mc_147 : lw_tbl[988]? = some (Cond.code yX11_as cX11_as 4 (some .int)) := by rfl
set_option maxRecDepth 100000 in
theorem mc_148 : lw_tbl[992]? = some (Cond.code yX11_trace cX11_trace 1 (some .int)) := by rfl
set_option maxRecDepth 100000 in
theorem mc_149 : lw_tbl[996]? = some (Cond.code yX11_fault cX11_fault 1 (some .int)) := by rfl
set_option maxRecDepth 100000 in
theorem mc_150 : lw_tbl[1000]? = some (Cond.code yX11_many cX11_many 2 (some .int)) := by rfl
set_option maxRecDepth 100000 in
theorem mc_151 : lw_tbl[1005]? = some (Cond.code yX12_init cX12_init 2 none) := by rfl
set_option maxRecDepth 100000 in
theorem mc_152 : lw_tbl[1184]? = some (Cond.code yX12_in cX12_in 6 (some .boolean)) := by rfl
set_option maxRecDepth 100000 in
theorem mc_153 : lw_tbl[1339]? = some (Cond.code yX12_lost cX12_lost 0 (some .long)) := by rfl
set_option maxRecDepth 100000 in
theorem mc_154 : lw_tbl[1187]? = some (Cond.code yX12_hasBit cX12_hasBit 2 (some .boolean)) := by rfl
set_option maxRecDepth 100000 in
theorem mc_155 : lw_tbl[1384]? = some (Cond.code yX12_bits cX12_bits 3 (some .int)) := by rfl
set_option maxRecDepth 100000 in
theorem mc_156 : lw_tbl[1415]? = some (Cond.code yX12_lesser cX12_lesser 2 (some .int)) := by rfl
set_option maxRecDepth 100000 in
theorem mc_157 : lw_tbl[1346]? = some (Cond.code yX12_common cX12_common 10 (some .long)) := by rfl
set_option maxRecDepth 100000 in
theorem mc_158 : lw_tbl[1343]? = some (Cond.code yX12_share cX12_share 5 (some .long)) := by rfl
set_option maxRecDepth 100000 in
theorem mc_159 : lw_tbl[1249]? = some (Cond.code yX12_isTick cX12_isTick 1 (some .boolean)) := by rfl
set_option maxRecDepth 100000 in
theorem mc_160 : lw_tbl[1245]? = some (Cond.code yX12_refused cX12_refused 2 (some .int)) := by rfl
set_option maxRecDepth 100000 in
theorem mc_161 : lw_tbl[1258]? = some (Cond.code yX12_failed cX12_failed 2 (some .int)) := by rfl
set_option maxRecDepth 100000 in
theorem mc_162 : lw_tbl[1538]? = some (Cond.code yX12_failedLong cX12_failedLong 2 (some .long)) := by rfl
set_option maxRecDepth 100000 in
theorem mc_163 : lw_tbl[1254]? = some (Cond.code yX12_barred cX12_barred 6 (some .int)) := by rfl
set_option maxRecDepth 100000 in
theorem mc_164 : lw_tbl[1266]? = some (Cond.code yX12_areCells cX12_areCells 7 (some .boolean)) := by rfl
set_option maxRecDepth 100000 in
theorem mc_165 : lw_tbl[1180]? = some (Cond.code yX12_noMachine cX12_noMachine 1 (some .boolean)) := by rfl
set_option maxRecDepth 100000 in
theorem mc_166 : lw_tbl[1177]? = some (Cond.code yX12_road cX12_road 4 (some .int)) := by rfl
set_option maxRecDepth 100000 in
theorem mc_167 : lw_tbl[1195]? = some (Cond.code yX12_noRoad cX12_noRoad 3 (some .boolean)) := by rfl
set_option maxRecDepth 100000 in
theorem mc_168 : lw_tbl[1191]? = some (Cond.code yX12_post cX12_post 4 (some .int)) := by rfl
set_option maxRecDepth 100000 in
theorem mc_169 : lw_tbl[1199]? = some (Cond.code yX12_door cX12_door 3 (some .int)) := by rfl
set_option maxRecDepth 100000 in
theorem mc_170 : lw_tbl[1203]? = some (Cond.code yX12_shut cX12_shut 3 (some .int)) := by rfl
set_option maxRecDepth 100000 in
theorem mc_171 : lw_tbl[1216]? = some (Cond.code yX12_isOpen cX12_isOpen 6 (some .boolean)) := by rfl
set_option maxRecDepth 100000 in
theorem mc_172 : lw_tbl[1212]? = some (Cond.code yX12_layFar cX12_layFar 7 none) := by rfl
set_option maxRecDepth 100000 in
theorem mc_173 : lw_tbl[1220]? = some (Cond.code yX12_nextOn cX12_nextOn 3 (some .int)) := by rfl
set_option maxRecDepth 100000 in
theorem mc_174 : lw_tbl[1207]? = some (Cond.code yX12_way cX12_way 7 (some .int)) := by rfl
set_option maxRecDepth 100000 in
theorem mc_175 : lw_tbl[1224]? = some (Cond.code yX12_blind cX12_blind 3 (some .int)) := by rfl
set_option maxRecDepth 100000 in
theorem mc_176 : lw_tbl[1237]? = some (Cond.code yX12_noTalk cX12_noTalk 2 (some .boolean)) := by rfl
set_option maxRecDepth 100000 in
theorem mc_177 : lw_tbl[1228]? = some (Cond.code yX12_talk cX12_talk 4 (some .int)) := by rfl
set_option maxRecDepth 100000 in
theorem mc_178 : lw_tbl[1270]? = some (Cond.code yX12_isSeen cX12_isSeen 5 (some .boolean)) := by rfl
set_option maxRecDepth 100000 in
theorem mc_179 : lw_tbl[1274]? = some (Cond.code yX12_take cX12_take 5 none) := by rfl
set_option maxRecDepth 100000 in
theorem mc_180 : lw_tbl[1233]? = some (Cond.code yX12_piece cX12_piece 10 (some .int)) := by rfl
set_option maxRecDepth 100000 in
theorem mc_181 : lw_tbl[1282]? = some (Cond.code yX12_joinedOf cX12_joinedOf 3 (some .int)) := by rfl
set_option maxRecDepth 100000 in
theorem mc_182 : lw_tbl[1286]? = some (Cond.code yX12_lengthOf cX12_lengthOf 4 (some .int)) := by rfl
set_option maxRecDepth 100000 in
theorem mc_183 : lw_tbl[1278]? = some (Cond.code yX12_about cX12_about 5 (some .int)) := by rfl
set_option maxRecDepth 100000 in
theorem mc_184 : lw_tbl[1295]? = some (Cond.code yX12_byteAt cX12_byteAt 5 (some .int)) := by rfl
set_option maxRecDepth 100000 in
theorem mc_185 : lw_tbl[1290]? = some (Cond.code yX12_at cX12_at 4 (some .int)) := by rfl
set_option maxRecDepth 100000 in
theorem mc_186 : lw_tbl[1308]? = some (Cond.code yX12_noRow cX12_noRow 2 (some .boolean)) := by rfl
set_option maxRecDepth 100000 in
theorem mc_187 : lw_tbl[1299]? = some (Cond.code yX12_row cX12_row 7 (some .int)) := by rfl
set_option maxRecDepth 100000 in
theorem mc_188 : lw_tbl[1316]? = some (Cond.code yX12_doesFit cX12_doesFit 9 (some .boolean)) := by rfl
set_option maxRecDepth 100000 in
theorem mc_189 : lw_tbl[1312]? = some (Cond.code yX12_fitsOf cX12_fitsOf 9 (some .int)) := by rfl
set_option maxRecDepth 100000 in
theorem mc_190 : lw_tbl[1304]? = some (Cond.code yX12_fits cX12_fits 5 (some .int)) := by rfl
set_option maxRecDepth 100000 in
theorem mc_191 : lw_tbl[1324]? = some (Cond.code yX12_isFound cX12_isFound 5 (some .boolean)) := by rfl
set_option maxRecDepth 100000 in
theorem mc_192 : lw_tbl[1320]? = some (Cond.code yX12_scan cX12_scan 6 (some .int)) := by rfl
set_option maxRecDepth 100000 in
theorem mc_193 : lw_tbl[1328]? = some (Cond.code yX12_finding cX12_finding 3 (some .int)) := by rfl
set_option maxRecDepth 100000 in
theorem mc_194 : lw_tbl[1332]? = some (Cond.code yX12_clear cX12_clear 4 (some .int)) := by rfl
set_option maxRecDepth 100000 in
theorem mc_195 : lw_tbl[1336]? = some (Cond.code yX12_nothing cX12_nothing 6 (some .long)) := by rfl
set_option maxRecDepth 100000 in
theorem mc_196 : lw_tbl[1354]? = some (Cond.code yX12_readChain cX12_readChain 7 (some .int)) := by rfl
set_option maxRecDepth 100000 in
theorem mc_197 : lw_tbl[1364]? = some (Cond.code yX12_findAfter cX12_findAfter 7 (some .int)) := by rfl
set_option maxRecDepth 100000 in
theorem mc_198 : lw_tbl[1360]? = some (Cond.code yX12_hasFrom cX12_hasFrom 6 (some .boolean)) := by rfl
set_option maxRecDepth 100000 in
theorem mc_199 : lw_tbl[1350]? = some (Cond.code yX12_chain cX12_chain 10 (some .int)) := by rfl
set_option maxRecDepth 100000 in
theorem mc_200 : lw_tbl[1376]? = some (Cond.code yX12_areHours cX12_areHours 1 (some .boolean)) := by rfl
set_option maxRecDepth 100000 in
theorem mc_201 : lw_tbl[1368]? = some (Cond.code yX12_count cX12_count 5 (some .int)) := by rfl
set_option maxRecDepth 100000 in
theorem mc_202 : lw_tbl[1381]? = some (Cond.code yX12_sumIn cX12_sumIn 5 (some .int)) := by rfl
set_option maxRecDepth 100000 in
theorem mc_203 : lw_tbl[1373]? = some (Cond.code yX12_odds cX12_odds 9 (some .long)) := by rfl
set_option maxRecDepth 100000 in
theorem mc_204 : lw_tbl[1388]? = some (Cond.code yX12_group cX12_group 4 (some .int)) := by rfl
set_option maxRecDepth 100000 in
theorem mc_205 : lw_tbl[1392]? = some (Cond.code yX12_likes cX12_likes 5 (some .int)) := by rfl
set_option maxRecDepth 100000 in
theorem mc_206 : lw_tbl[1408]? = some (Cond.code yX12_placeIn cX12_placeIn 4 (some .int)) := by rfl
set_option maxRecDepth 100000 in
theorem mc_207 : lw_tbl[1412]? = some (Cond.code yX12_toldOf cX12_toldOf 2 (some .int)) := by rfl
set_option maxRecDepth 100000 in
theorem mc_208 : lw_tbl[1405]? = some (Cond.code yX12_thingOf cX12_thingOf 3 (some .int)) := by rfl
set_option maxRecDepth 100000 in
theorem mc_209 : lw_tbl[1399]? = some (Cond.code yX12_isThing cX12_isThing 1 (some .boolean)) := by rfl
set_option maxRecDepth 100000 in
theorem mc_210 : lw_tbl[1396]? = some (Cond.code yX12_put cX12_put 5 (some .int)) := by rfl
set_option maxRecDepth 100000 in
theorem mc_211 : lw_tbl[1419]? = some (Cond.code yX12_told cX12_told 4 (some .int)) := by rfl
set_option maxRecDepth 100000 in
theorem mc_212 : lw_tbl[1423]? = some (Cond.code yX12_miss cX12_miss 3 (some .int)) := by rfl
set_option maxRecDepth 100000 in
theorem mc_213 : lw_tbl[1430]? = some (Cond.code yX12_isSign cX12_isSign 1 (some .boolean)) := by rfl
set_option maxRecDepth 100000 in
theorem mc_214 : lw_tbl[1434]? = some (Cond.code yX12_isBarred cX12_isBarred 3 (some .boolean)) := by rfl
set_option maxRecDepth 100000 in
theorem mc_215 : lw_tbl[1427]? = some (Cond.code yX12_bar cX12_bar 4 (some .int)) := by rfl
set_option maxRecDepth 100000 in
theorem mc_216 : lw_tbl[1443]? = some (Cond.code yX12_noGrowing cX12_noGrowing 6 (some .int)) := by rfl
set_option maxRecDepth 100000 in
theorem mc_217 : lw_tbl[1438]? = some (Cond.code yX12_grow cX12_grow 11 (some .int)) := by rfl
set_option maxRecDepth 100000 in
theorem mc_218 : lw_tbl[1447]? = some (Cond.code yX12_gone cX12_gone 10 (some .int)) := by rfl
set_option maxRecDepth 100000 in
theorem mc_219 : lw_tbl[1455]? = some (Cond.code yX12_noState cX12_noState 2 (some .boolean)) := by rfl
set_option maxRecDepth 100000 in
theorem mc_220 : lw_tbl[1451]? = some (Cond.code yX12_answer cX12_answer 4 (some .int)) := by rfl
set_option maxRecDepth 100000 in
theorem mc_221 : lw_tbl[1459]? = some (Cond.code yX12_next cX12_next 3 (some .int)) := by rfl
set_option maxRecDepth 100000 in
theorem mc_222 : lw_tbl[1463]? = some (Cond.code yX12_rows cX12_rows 7 (some .int)) := by rfl
set_option maxRecDepth 100000 in
theorem mc_223 : lw_tbl[1467]? = some (Cond.code yX12_work cX12_work 4 (some .int)) := by rfl
set_option maxRecDepth 100000 in
theorem mc_224 : lw_tbl[1475]? = some (Cond.code yX12_areDoors cX12_areDoors 2 (some .boolean)) := by rfl
set_option maxRecDepth 100000 in
theorem mc_225 : lw_tbl[1479]? = some (Cond.code yX12_stillBy cX12_stillBy 4 (some .int)) := by rfl
set_option maxRecDepth 100000 in
theorem mc_226 : lw_tbl[1483]? = some (Cond.code yX12_harmOf cX12_harmOf 4 (some .int)) := by rfl
set_option maxRecDepth 100000 in
theorem mc_227 : lw_tbl[1471]? = some (Cond.code yX12_still cX12_still 4 (some .int)) := by rfl
set_option maxRecDepth 100000 in
theorem mc_228 : lw_tbl[1490]? = some (Cond.code yX12_areApart cX12_areApart 2 (some .boolean)) := by rfl
set_option maxRecDepth 100000 in
theorem mc_229 : lw_tbl[1495]? = some (Cond.code yX12_areParted cX12_areParted 7 (some .boolean)) := by rfl
set_option maxRecDepth 100000 in
theorem mc_230 : lw_tbl[1487]? = some (Cond.code yX12_parted cX12_parted 4 (some .int)) := by rfl
set_option maxRecDepth 100000 in
theorem mc_231 : lw_tbl[1499]? = some (Cond.code yX12_least cX12_least 8 (some .int)) := by rfl
set_option maxRecDepth 100000 in
theorem mc_232 : lw_tbl[1506]? = some (Cond.code yX12_noKeeper cX12_noKeeper 1 (some .boolean)) := by rfl
set_option maxRecDepth 100000 in
theorem mc_233 : lw_tbl[1503]? = some (Cond.code yX12_may cX12_may 5 (some .int)) := by rfl
set_option maxRecDepth 100000 in
theorem mc_234 : lw_tbl[1510]? = some (Cond.code yX12_look cX12_look 4 (some .int)) := by rfl
set_option maxRecDepth 100000 in
theorem mc_235 : lw_tbl[1514]? = some (Cond.code yX12_looks cX12_looks 5 (some .int)) := by rfl
set_option maxRecDepth 100000 in
theorem mc_236 : lw_tbl[1240]? = some (Cond.code yX12_noSheet cX12_noSheet 1 (some .boolean)) := by rfl
set_option maxRecDepth 100000 in
theorem mc_237 : lw_tbl[1518]? = some (Cond.code yX12_sheet cX12_sheet 5 (some .int)) := by rfl
set_option maxRecDepth 100000 in
theorem mc_238 : lw_tbl[1522]? = some (Cond.code yX12_lose cX12_lose 3 (some .int)) := by rfl
set_option maxRecDepth 100000 in
theorem mc_239 : lw_tbl[1530]? = some (Cond.code yX12_noCell cX12_noCell 3 (some .int)) := by rfl
set_option maxRecDepth 100000 in
theorem mc_240 : lw_tbl[1526]? = some (Cond.code yX12_set cX12_set 4 (some .int)) := by rfl
set_option maxRecDepth 100000 in
theorem mc_241 : lw_tbl[1534]? = some (Cond.code yX12_cell cX12_cell 4 (some .long)) := by rfl
set_option maxRecDepth 100000 in
theorem mc_242 : lw_tbl[1261]? = some (Cond.code yX12_isBeyond cX12_isBeyond 4 (some .boolean)) := by rfl
set_option maxRecDepth 100000 in
theorem mc_243 : lw_tbl[1542]? = some (Cond.code yX12_copy cX12_copy 7 (some .int)) := by rfl
set_option maxRecDepth 100000 in
theorem mc_244 : lw_tbl[1550]? = some (Cond.code yX12_traced cX12_traced 2 none) := by rfl
set_option maxRecDepth 100000 in
theorem mc_245 : lw_tbl[1546]? = some (Cond.code yX12_tell cX12_tell 4 (some .int)) := by rfl
set_option maxRecDepth 100000 in
theorem mc_246 : lw_tbl[1554]? = some (Cond.code yX12_call cX12_call 2 (some .int)) := by rfl
set_option maxRecDepth 100000 in
theorem mc_247 : lw_tbl[1558]? = some (Cond.code yX12_as cX12_as 3 (some .int)) := by rfl
set_option maxRecDepth 100000 in
theorem mc_248 : lw_tbl[1562]? = some (Cond.code yX12_trace cX12_trace 1 (some .int)) := by rfl
set_option maxRecDepth 100000 in
theorem mc_249 : lw_tbl[1566]? = some (Cond.code yX12_fault cX12_fault 1 (some .int)) := by rfl
set_option maxRecDepth 100000 in
theorem mc_250 : lw_tbl[1570]? = some (Cond.code yX12_many cX12_many 4 (some .int)) := by rfl
set_option maxRecDepth 100000 in
theorem mc_251 : lw_tbl[723]? = some (Cond.code yJ6_bitCount_0f7a4 cJ6_bitCount_0f7a4 1 (some .int)) := by rfl
set_option maxRecDepth 100000 in
theorem mc_252 : lw_tbl[569]? = some (Cond.code yJ9_max_7cf53 cJ9_max_7cf53 2 (some .int)) := by rfl
set_option maxRecDepth 100000 in
theorem mc_253 : lw_tbl[781]? = some (Cond.code yJ9_min_7cf53 cJ9_min_7cf53 2 (some .int)) := by rfl
set_option maxRecDepth 100000 in
theorem mc_254 : lw_tbl[272]? = some (Cond.code yJ7_fill_53178 cJ7_fill_53178 4 none) := by rfl
theorem mcode : ∀ k, k < 255 → Cond.code (yM k) (cM k) (lM k) (rM k) ∈ tgw
  | 0, _ => tgw_at mc_0 rfl
  | 1, _ => tgw_at mc_1 rfl
  | 2, _ => tgw_at mc_2 rfl
  | 3, _ => tgw_at mc_3 rfl
  | 4, _ => tgw_at mc_4 rfl
  | 5, _ => tgw_at mc_5 rfl
  | 6, _ => tgw_at mc_6 rfl
  | 7, _ => tgw_at mc_7 rfl
  | 8, _ => tgw_at mc_8 rfl
  | 9, _ => tgw_at mc_9 rfl
  | 10, _ => tgw_at mc_10 rfl
  | 11, _ => tgw_at mc_11 rfl
  | 12, _ => tgw_at mc_12 rfl
  | 13, _ => tgw_at mc_13 rfl
  | 14, _ => tgw_at mc_14 rfl
  | 15, _ => tgw_at mc_15 rfl
  | 16, _ => tgw_at mc_16 rfl
  | 17, _ => tgw_at mc_17 rfl
  | 18, _ => tgw_at mc_18 rfl
  | 19, _ => tgw_at mc_19 rfl
  | 20, _ => tgw_at mc_20 rfl
  | 21, _ => tgw_at mc_21 rfl
  | 22, _ => tgw_at mc_22 rfl
  | 23, _ => tgw_at mc_23 rfl
  | 24, _ => tgw_at mc_24 rfl
  | 25, _ => tgw_at mc_25 rfl
  | 26, _ => tgw_at mc_26 rfl
  | 27, _ => tgw_at mc_27 rfl
  | 28, _ => tgw_at mc_28 rfl
  | 29, _ => tgw_at mc_29 rfl
  | 30, _ => tgw_at mc_30 rfl
  | 31, _ => tgw_at mc_31 rfl
  | 32, _ => tgw_at mc_32 rfl
  | 33, _ => tgw_at mc_33 rfl
  | 34, _ => tgw_at mc_34 rfl
  | 35, _ => tgw_at mc_35 rfl
  | 36, _ => tgw_at mc_36 rfl
  | 37, _ => tgw_at mc_37 rfl
  | 38, _ => tgw_at mc_38 rfl
  | 39, _ => tgw_at mc_39 rfl
  | 40, _ => tgw_at mc_40 rfl
  | 41, _ => tgw_at mc_41 rfl
  | 42, _ => tgw_at mc_42 rfl
  | 43, _ => tgw_at mc_43 rfl
  | 44, _ => tgw_at mc_44 rfl
  | 45, _ => tgw_at mc_45 rfl
  | 46, _ => tgw_at mc_46 rfl
  | 47, _ => tgw_at mc_47 rfl
  | 48, _ => tgw_at mc_48 rfl
  | 49, _ => tgw_at mc_49 rfl
  | 50, _ => tgw_at mc_50 rfl
  | 51, _ => tgw_at mc_51 rfl
  | 52, _ => tgw_at mc_52 rfl
  | 53, _ => tgw_at mc_53 rfl
  | 54, _ => tgw_at mc_54 rfl
  | 55, _ => tgw_at mc_55 rfl
  | 56, _ => tgw_at mc_56 rfl
  | 57, _ => tgw_at mc_57 rfl
  | 58, _ => tgw_at mc_58 rfl
  | 59, _ => tgw_at mc_59 rfl
  | 60, _ => tgw_at mc_60 rfl
  | 61, _ => tgw_at mc_61 rfl
  | 62, _ => tgw_at mc_62 rfl
  | 63, _ => tgw_at mc_63 rfl
  | 64, _ => tgw_at mc_64 rfl
  | 65, _ => tgw_at mc_65 rfl
  | 66, _ => tgw_at mc_66 rfl
  | 67, _ => tgw_at mc_67 rfl
  | 68, _ => tgw_at mc_68 rfl
  | 69, _ => tgw_at mc_69 rfl
  | 70, _ => tgw_at mc_70 rfl
  | 71, _ => tgw_at mc_71 rfl
  | 72, _ => tgw_at mc_72 rfl
  | 73, _ => tgw_at mc_73 rfl
  | 74, _ => tgw_at mc_74 rfl
  | 75, _ => tgw_at mc_75 rfl
  | 76, _ => tgw_at mc_76 rfl
  | 77, _ => tgw_at mc_77 rfl
  | 78, _ => tgw_at mc_78 rfl
  | 79, _ => tgw_at mc_79 rfl
  | 80, _ => tgw_at mc_80 rfl
  | 81, _ => tgw_at mc_81 rfl
  | 82, _ => tgw_at mc_82 rfl
  | 83, _ => tgw_at mc_83 rfl
  | 84, _ => tgw_at mc_84 rfl
  | 85, _ => tgw_at mc_85 rfl
  | 86, _ => tgw_at mc_86 rfl
  | 87, _ => tgw_at mc_87 rfl
  | 88, _ => tgw_at mc_88 rfl
  | 89, _ => tgw_at mc_89 rfl
  | 90, _ => tgw_at mc_90 rfl
  | 91, _ => tgw_at mc_91 rfl
  | 92, _ => tgw_at mc_92 rfl
  | 93, _ => tgw_at mc_93 rfl
  | 94, _ => tgw_at mc_94 rfl
  | 95, _ => tgw_at mc_95 rfl
  | 96, _ => tgw_at mc_96 rfl
  | 97, _ => tgw_at mc_97 rfl
  | 98, _ => tgw_at mc_98 rfl
  | 99, _ => tgw_at mc_99 rfl
  | 100, _ => tgw_at mc_100 rfl
  | 101, _ => tgw_at mc_101 rfl
  | 102, _ => tgw_at mc_102 rfl
  | 103, _ => tgw_at mc_103 rfl
  | 104, _ => tgw_at mc_104 rfl
  | 105, _ => tgw_at mc_105 rfl
  | 106, _ => tgw_at mc_106 rfl
  | 107, _ => tgw_at mc_107 rfl
  | 108, _ => tgw_at mc_108 rfl
  | 109, _ => tgw_at mc_109 rfl
  | 110, _ => tgw_at mc_110 rfl
  | 111, _ => tgw_at mc_111 rfl
  | 112, _ => tgw_at mc_112 rfl
  | 113, _ => tgw_at mc_113 rfl
  | 114, _ => tgw_at mc_114 rfl
  | 115, _ => tgw_at mc_115 rfl
  | 116, _ => tgw_at mc_116 rfl
  | 117, _ => tgw_at mc_117 rfl
  | 118, _ => tgw_at mc_118 rfl
  | 119, _ => tgw_at mc_119 rfl
  | 120, _ => tgw_at mc_120 rfl
  | 121, _ => tgw_at mc_121 rfl
  | 122, _ => tgw_at mc_122 rfl
  | 123, _ => tgw_at mc_123 rfl
  | 124, _ => tgw_at mc_124 rfl
  | 125, _ => tgw_at mc_125 rfl
  | 126, _ => tgw_at mc_126 rfl
  | 127, _ => tgw_at mc_127 rfl
  | 128, _ => tgw_at mc_128 rfl
  | 129, _ => tgw_at mc_129 rfl
  | 130, _ => tgw_at mc_130 rfl
  | 131, _ => tgw_at mc_131 rfl
  | 132, _ => tgw_at mc_132 rfl
  | 133, _ => tgw_at mc_133 rfl
  | 134, _ => tgw_at mc_134 rfl
  | 135, _ => tgw_at mc_135 rfl
  | 136, _ => tgw_at mc_136 rfl
  | 137, _ => tgw_at mc_137 rfl
  | 138, _ => tgw_at mc_138 rfl
  | 139, _ => tgw_at mc_139 rfl
  | 140, _ => tgw_at mc_140 rfl
  | 141, _ => tgw_at mc_141 rfl
  | 142, _ => tgw_at mc_142 rfl
  | 143, _ => tgw_at mc_143 rfl
  | 144, _ => tgw_at mc_144 rfl
  | 145, _ => tgw_at mc_145 rfl
  | 146, _ => tgw_at mc_146 rfl
  | 147, _ => tgw_at mc_147 rfl
  | 148, _ => tgw_at mc_148 rfl
  | 149, _ => tgw_at mc_149 rfl
  | 150, _ => tgw_at mc_150 rfl
  | 151, _ => tgw_at mc_151 rfl
  | 152, _ => tgw_at mc_152 rfl
  | 153, _ => tgw_at mc_153 rfl
  | 154, _ => tgw_at mc_154 rfl
  | 155, _ => tgw_at mc_155 rfl
  | 156, _ => tgw_at mc_156 rfl
  | 157, _ => tgw_at mc_157 rfl
  | 158, _ => tgw_at mc_158 rfl
  | 159, _ => tgw_at mc_159 rfl
  | 160, _ => tgw_at mc_160 rfl
  | 161, _ => tgw_at mc_161 rfl
  | 162, _ => tgw_at mc_162 rfl
  | 163, _ => tgw_at mc_163 rfl
  | 164, _ => tgw_at mc_164 rfl
  | 165, _ => tgw_at mc_165 rfl
  | 166, _ => tgw_at mc_166 rfl
  | 167, _ => tgw_at mc_167 rfl
  | 168, _ => tgw_at mc_168 rfl
  | 169, _ => tgw_at mc_169 rfl
  | 170, _ => tgw_at mc_170 rfl
  | 171, _ => tgw_at mc_171 rfl
  | 172, _ => tgw_at mc_172 rfl
  | 173, _ => tgw_at mc_173 rfl
  | 174, _ => tgw_at mc_174 rfl
  | 175, _ => tgw_at mc_175 rfl
  | 176, _ => tgw_at mc_176 rfl
  | 177, _ => tgw_at mc_177 rfl
  | 178, _ => tgw_at mc_178 rfl
  | 179, _ => tgw_at mc_179 rfl
  | 180, _ => tgw_at mc_180 rfl
  | 181, _ => tgw_at mc_181 rfl
  | 182, _ => tgw_at mc_182 rfl
  | 183, _ => tgw_at mc_183 rfl
  | 184, _ => tgw_at mc_184 rfl
  | 185, _ => tgw_at mc_185 rfl
  | 186, _ => tgw_at mc_186 rfl
  | 187, _ => tgw_at mc_187 rfl
  | 188, _ => tgw_at mc_188 rfl
  | 189, _ => tgw_at mc_189 rfl
  | 190, _ => tgw_at mc_190 rfl
  | 191, _ => tgw_at mc_191 rfl
  | 192, _ => tgw_at mc_192 rfl
  | 193, _ => tgw_at mc_193 rfl
  | 194, _ => tgw_at mc_194 rfl
  | 195, _ => tgw_at mc_195 rfl
  | 196, _ => tgw_at mc_196 rfl
  | 197, _ => tgw_at mc_197 rfl
  | 198, _ => tgw_at mc_198 rfl
  | 199, _ => tgw_at mc_199 rfl
  | 200, _ => tgw_at mc_200 rfl
  | 201, _ => tgw_at mc_201 rfl
  | 202, _ => tgw_at mc_202 rfl
  | 203, _ => tgw_at mc_203 rfl
  | 204, _ => tgw_at mc_204 rfl
  | 205, _ => tgw_at mc_205 rfl
  | 206, _ => tgw_at mc_206 rfl
  | 207, _ => tgw_at mc_207 rfl
  | 208, _ => tgw_at mc_208 rfl
  | 209, _ => tgw_at mc_209 rfl
  | 210, _ => tgw_at mc_210 rfl
  | 211, _ => tgw_at mc_211 rfl
  | 212, _ => tgw_at mc_212 rfl
  | 213, _ => tgw_at mc_213 rfl
  | 214, _ => tgw_at mc_214 rfl
  | 215, _ => tgw_at mc_215 rfl
  | 216, _ => tgw_at mc_216 rfl
  | 217, _ => tgw_at mc_217 rfl
  | 218, _ => tgw_at mc_218 rfl
  | 219, _ => tgw_at mc_219 rfl
  | 220, _ => tgw_at mc_220 rfl
  | 221, _ => tgw_at mc_221 rfl
  | 222, _ => tgw_at mc_222 rfl
  | 223, _ => tgw_at mc_223 rfl
  | 224, _ => tgw_at mc_224 rfl
  | 225, _ => tgw_at mc_225 rfl
  | 226, _ => tgw_at mc_226 rfl
  | 227, _ => tgw_at mc_227 rfl
  | 228, _ => tgw_at mc_228 rfl
  | 229, _ => tgw_at mc_229 rfl
  | 230, _ => tgw_at mc_230 rfl
  | 231, _ => tgw_at mc_231 rfl
  | 232, _ => tgw_at mc_232 rfl
  | 233, _ => tgw_at mc_233 rfl
  | 234, _ => tgw_at mc_234 rfl
  | 235, _ => tgw_at mc_235 rfl
  | 236, _ => tgw_at mc_236 rfl
  | 237, _ => tgw_at mc_237 rfl
  | 238, _ => tgw_at mc_238 rfl
  | 239, _ => tgw_at mc_239 rfl
  | 240, _ => tgw_at mc_240 rfl
  | 241, _ => tgw_at mc_241 rfl
  | 242, _ => tgw_at mc_242 rfl
  | 243, _ => tgw_at mc_243 rfl
  | 244, _ => tgw_at mc_244 rfl
  | 245, _ => tgw_at mc_245 rfl
  | 246, _ => tgw_at mc_246 rfl
  | 247, _ => tgw_at mc_247 rfl
  | 248, _ => tgw_at mc_248 rfl
  | 249, _ => tgw_at mc_249 rfl
  | 250, _ => tgw_at mc_250 rfl
  | 251, _ => tgw_at mc_251 rfl
  | 252, _ => tgw_at mc_252 rfl
  | 253, _ => tgw_at mc_253 rfl
  | 254, _ => tgw_at mc_254 rfl
  | k + 255, h => absurd h (by omega)
/-- which method a pool entry names: own class, entry; method; the word's place, is it a nest mate's -/
def cresL : List (Nat × Nat × Nat × Nat × Bool) := [(13, 9, 80, 79, false), (11, 13, 20, 0, true), (11, 20, 76, 1, true), (11, 39, 3, 2, true), (11, 46, 0, 3, true), (11, 53, 10, 4, true), (11, 60, 50, 5, true), (11, 67, 66, 6, true), (11, 74, 17, 266, false), (3, 21, 254, 270, false), (11, 85, 44, 7, true), (13, 13, 94, 362, false), (11, 110, 83, 366, false), (11, 90, 82, 369, false), (11, 86, 81, 372, false), (11, 114, 21, 375, false), (11, 117, 23, 379, false), (11, 121, 24, 383, false), (4, 37, 26, 387, false), (13, 18, 95, 391, false), (11, 124, 22, 395, false), (11, 127, 25, 399, false), (13, 22, 96, 403, false), (11, 130, 27, 407, false), (13, 27, 97, 411, false), (11, 134, 28, 415, false), (4, 47, 21, 419, false), (11, 137, 29, 420, false), (11, 140, 30, 424, false), (13, 32, 98, 428, false), (11, 144, 35, 432, false), (4, 55, 31, 436, false), (4, 59, 36, 440, false), (4, 68, 254, 444, false), (4, 74, 37, 445, false), (4, 65, 38, 449, false), (13, 37, 99, 453, false), (11, 154, 31, 457, false), (11, 157, 32, 458, false), (11, 160, 33, 462, false), (13, 41, 100, 466, false), (11, 164, 58, 471, false), (8, 34, 254, 475, false), (13, 45, 101, 515, false), (11, 170, 89, 519, false), (11, 174, 91, 523, false), (11, 178, 84, 527, false), (11, 181, 135, 530, false), (11, 385, 85, 534, false), (11, 388, 46, 537, false), (11, 391, 133, 541, false), (11, 398, 47, 545, false), (11, 185, 48, 549, false), (6, 32, 81, 8, true), (11, 195, 39, 554, false), (4, 78, 22, 558, false), (11, 202, 60, 559, false), (8, 45, 61, 563, false), (8, 52, 252, 567, false), (13, 50, 102, 570, false), (11, 209, 63, 574, false), (11, 213, 64, 578, false), (11, 216, 65, 582, false), (13, 54, 103, 586, false), (11, 225, 59, 590, false), (11, 228, 62, 594, false), (13, 58, 104, 598, false), (11, 231, 40, 603, false), (13, 63, 105, 617, false), (11, 234, 90, 621, false), (11, 238, 42, 625, false), (5, 36, 63, 629, false), (5, 40, 41, 630, false), (5, 30, 62, 634, false), (11, 242, 43, 635, false), (13, 67, 106, 639, false), (11, 248, 107, 643, false), (11, 252, 4, 647, false), (11, 255, 5, 651, false), (13, 72, 108, 655, false), (13, 76, 109, 659, false), (13, 80, 110, 663, false), (11, 271, 6, 668, false), (11, 274, 93, 672, false), (11, 104, 92, 675, false), (13, 85, 111, 678, false), (11, 278, 1, 682, false), (0, 27, 2, 686, false), (11, 281, 7, 690, false), (1, 44, 8, 694, false), (1, 51, 9, 698, false), (13, 89, 112, 702, false), (11, 285, 11, 706, false), (13, 93, 113, 710, false), (11, 289, 86, 714, false), (11, 292, 14, 717, false), (2, 18, 251, 721, false), (2, 27, 12, 727, false), (2, 31, 15, 731, false), (11, 295, 13, 734, false), (13, 98, 114, 740, false), (13, 102, 115, 744, false), (11, 301, 16, 748, false), (13, 106, 116, 752, false), (11, 304, 51, 756, false), (7, 21, 81, 9, true), (11, 307, 54, 760, false), (7, 35, 53, 764, false), (7, 39, 52, 768, false), (11, 310, 55, 775, false), (7, 43, 253, 779, false), (13, 110, 117, 782, false), (11, 313, 56, 786, false), (13, 114, 118, 790, false), (11, 316, 57, 794, false), (7, 48, 55, 798, false), (13, 119, 120, 799, false), (11, 319, 119, 803, false), (11, 322, 67, 806, false), (11, 325, 68, 810, false), (13, 123, 121, 814, false), (11, 328, 70, 818, false), (9, 31, 71, 822, false), (9, 47, 67, 826, false), (9, 40, 69, 827, false), (9, 44, 72, 831, false), (13, 127, 122, 835, false), (11, 332, 74, 839, false), (9, 51, 73, 843, false), (13, 131, 123, 847, false), (13, 135, 124, 851, false), (11, 341, 69, 855, false), (13, 139, 125, 856, false), (11, 344, 75, 860, false), (9, 54, 254, 864, false), (13, 143, 126, 865, false), (11, 347, 77, 869, false), (13, 147, 127, 873, false), (11, 349, 88, 877, false), (11, 352, 78, 881, false), (10, 25, 34, 885, false), (4, 51, 33, 889, false), (11, 356, 79, 890, false), (13, 151, 128, 894, false), (11, 359, 87, 898, false), (11, 362, 34, 901, false), (13, 155, 129, 902, false), (11, 368, 251, 906, false), (13, 159, 130, 907, false), (11, 373, 18, 911, false), (13, 163, 131, 915, false), (11, 376, 19, 919, false), (13, 167, 132, 923, false), (13, 171, 136, 927, false), (11, 401, 45, 931, false), (6, 26, 254, 935, false), (13, 175, 137, 936, false), (13, 179, 138, 940, false), (11, 407, 49, 944, false), (13, 183, 139, 948, false), (11, 410, 134, 952, false), (13, 187, 140, 956, false), (13, 192, 141, 961, false), (11, 423, 145, 965, false), (11, 436, 142, 969, false), (11, 427, 144, 973, false), (11, 430, 143, 977, false), (13, 196, 146, 981, false), (13, 200, 147, 985, false), (13, 204, 148, 989, false), (13, 208, 149, 993, false), (13, 212, 150, 997, false), (13, 12, 151, 1003, false), (13, 17, 166, 1174, false), (12, 169, 165, 1178, false), (12, 143, 152, 1182, false), (12, 173, 154, 1185, false), (13, 21, 168, 1188, false), (12, 180, 167, 1192, false), (13, 26, 169, 1196, false), (13, 31, 170, 1200, false), (13, 36, 174, 1204, false), (12, 192, 172, 1209, false), (12, 186, 171, 1213, false), (12, 196, 173, 1217, false), (13, 40, 175, 1221, false), (13, 44, 177, 1225, false), (13, 49, 180, 1230, false), (12, 202, 176, 1234, false), (12, 205, 236, 1238, false), (12, 156, 160, 1242, false), (12, 210, 159, 1247, false), (12, 213, 163, 1251, false), (12, 160, 161, 1255, false), (12, 163, 242, 1259, false), (12, 219, 164, 1263, false), (12, 223, 178, 1267, false), (12, 226, 179, 1271, false), (13, 53, 183, 1275, false), (12, 230, 181, 1279, false), (12, 233, 182, 1283, false), (13, 57, 185, 1287, false), (12, 238, 184, 1292, false), (13, 62, 187, 1296, false), (13, 66, 190, 1301, false), (12, 251, 186, 1305, false), (12, 254, 189, 1309, false), (12, 247, 188, 1313, false), (13, 71, 192, 1317, false), (12, 261, 191, 1321, false), (13, 75, 193, 1325, false), (13, 79, 194, 1329, false), (13, 84, 195, 1333, false), (12, 150, 153, 1337, false), (12, 264, 158, 1341, false), (12, 137, 157, 1344, false), (13, 88, 199, 1347, false), (12, 285, 196, 1351, false), (12, 289, 198, 1357, false), (12, 282, 197, 1361, false), (13, 92, 201, 1365, false), (13, 97, 203, 1370, false), (12, 296, 200, 1374, false), (12, 299, 202, 1378, false), (12, 302, 155, 1382, false), (13, 101, 204, 1385, false), (13, 105, 205, 1389, false), (13, 109, 210, 1393, false), (12, 318, 209, 1397, false), (12, 323, 208, 1402, false), (12, 307, 206, 1406, false), (12, 326, 207, 1409, false), (12, 310, 156, 1413, false), (13, 113, 211, 1416, false), (13, 118, 212, 1420, false), (13, 122, 215, 1424, false), (12, 332, 213, 1428, false), (12, 335, 214, 1431, false), (13, 126, 217, 1435, false), (12, 340, 216, 1440, false), (13, 130, 218, 1444, false), (13, 134, 220, 1448, false), (12, 343, 219, 1452, false), (13, 138, 221, 1456, false), (13, 142, 222, 1460, false), (13, 146, 223, 1464, false), (13, 150, 227, 1468, false), (12, 349, 224, 1472, false), (12, 352, 225, 1476, false), (12, 355, 226, 1480, false), (13, 154, 230, 1484, false), (12, 360, 228, 1488, false), (12, 363, 229, 1492, false), (13, 158, 231, 1496, false), (13, 162, 233, 1500, false), (12, 367, 232, 1504, false), (13, 166, 234, 1507, false), (13, 170, 235, 1511, false), (13, 174, 237, 1515, false), (13, 178, 238, 1519, false), (13, 182, 240, 1523, false), (12, 373, 239, 1527, false), (13, 186, 241, 1531, false), (12, 376, 162, 1535, false), (13, 191, 243, 1539, false), (13, 195, 245, 1543, false), (12, 383, 244, 1547, false), (13, 199, 246, 1551, false), (13, 203, 247, 1555, false), (13, 207, 248, 1559, false), (13, 211, 249, 1563, false), (13, 215, 250, 1567, false)]
def nestQ : List (String × Nat × MethodName × String) := [("WireWatch", 13, yM 20, "WireWatch"), ("WireWatch", 20, yM 76, "WireWatch"), ("WireWatch", 39, yM 3, "WireWatch"), ("WireWatch", 46, yM 0, "WireWatch"), ("WireWatch", 53, yM 10, "WireWatch"), ("WireWatch", 60, yM 50, "WireWatch"), ("WireWatch", 67, yM 66, "WireWatch"), ("WireWatch", 85, yM 44, "WireWatch"), ("WireWatch$Sheet", 32, yM 81, "WireWatch"), ("WireWatch$Sketch", 21, yM 81, "WireWatch")]
def cres (o idx : Nat) : Option Nat := (cresL.find? (fun q => q.1 == o && q.2.1 == idx)).map (fun q => q.2.2.1)
def okC (q : Nat × Nat × Nat × Nat × Bool) : Bool := match q with
  | (o, idx, k, ps, nst) => decide (k < 255) && (if nst = true then decide (nestQ[ps]? = some (RN o, idx, yM k, RN 11)) else decide (lw_tbl[ps]? = some (Cond.methodLink (RN o) idx (yM k))))
theorem cresL_ok : cresL.all okC = true := by decide +kernel
theorem cres_ok {o idx k : Nat} (h : cres o idx = some k) : k < 255 ∧ (Cond.methodLink (RN o) idx (yM k) ∈ tgw ∨ (RN o, idx, yM k, RN 11) ∈ nestQ) := by
  unfold cres at h
  cases hq : cresL.find? (fun q => q.1 == o && q.2.1 == idx) with
  | none => rw [hq] at h; cases h
  | some q =>
    rw [hq] at h
    obtain ⟨o', idx', k', ps, nst⟩ := q
    have h1 := List.find?_some hq
    have h2 := List.all_eq_true.mp cresL_ok _ (List.mem_of_find?_eq_some hq)
    simp only [Bool.and_eq_true, beq_iff_eq] at h1
    obtain ⟨rfl, rfl⟩ := h1
    cases h
    simp only [okC, Bool.and_eq_true, decide_eq_true_eq] at h2
    obtain ⟨h3, h4⟩ := h2
    refine ⟨h3, ?_⟩
    cases nst with
    | true => exact Or.inr (List.mem_of_getElem? (by simpa using h4))
    | false => exact Or.inl (tgw_at (by simpa using h4) rfl)
/-- constants: own class, entry; value; the word's place -/
def kresL : List (Nat × Nat × Int32 × Nat) := [(14, 265, 1431655765, 724), (14, 266, 858993459, 725), (14, 267, 252645135, 726)]
def lresL : List (Nat × Nat × Int64 × Nat) := [(11, 108, -9223372036854775808, 667), (12, 167, 9, 1181), (12, 190, -1, 1208), (12, 154, 2, 1229), (12, 305, 3, 1241), (12, 208, 59, 1246), (12, 141, 999, 1250), (12, 217, 20, 1262), (12, 236, 78, 1291), (12, 245, 6, 1300), (12, 135, -9223372036854775808, 1340), (12, 274, 48, 1355), (12, 276, 57, 1356), (12, 294, 13, 1369), (12, 292, 16383, 1377), (12, 316, 9999, 1400), (12, 321, 99, 1401), (12, 338, 10, 1439), (12, 358, 1023, 1491)]
def kres (o idx : Nat) : Option Int32 := (kresL.find? (fun q => q.1 == o && q.2.1 == idx)).map (fun q => q.2.2.1)
def lres (o idx : Nat) : Option Int64 := (lresL.find? (fun q => q.1 == o && q.2.1 == idx)).map (fun q => q.2.2.1)
theorem kresL_ok : kresL.all (fun q => decide (lw_tbl[q.2.2.2]? = some (Cond.constant (RN q.1) q.2.1 q.2.2.1))) = true := by decide +kernel
theorem lresL_ok : lresL.all (fun q => decide (lw_tbl[q.2.2.2]? = some (Cond.constantLong (RN q.1) q.2.1 q.2.2.1))) = true := by decide +kernel
theorem kres_ok {o idx : Nat} {v : Int32} (h : kres o idx = some v) : Cond.constant (RN o) idx v ∈ tgw := by
  unfold kres at h
  cases hq : kresL.find? (fun q => q.1 == o && q.2.1 == idx) with
  | none => rw [hq] at h; cases h
  | some q =>
    rw [hq] at h
    obtain ⟨o', idx', v', ps⟩ := q
    have h1 := List.find?_some hq
    have h2 := List.all_eq_true.mp kresL_ok _ (List.mem_of_find?_eq_some hq)
    simp only [Bool.and_eq_true, beq_iff_eq] at h1
    obtain ⟨rfl, rfl⟩ := h1
    cases h
    simp only [decide_eq_true_eq] at h2
    exact tgw_at h2 rfl
theorem lres_ok {o idx : Nat} {v : Int64} (h : lres o idx = some v) : Cond.constantLong (RN o) idx v ∈ tgw := by
  unfold lres at h
  cases hq : lresL.find? (fun q => q.1 == o && q.2.1 == idx) with
  | none => rw [hq] at h; cases h
  | some q =>
    rw [hq] at h
    obtain ⟨o', idx', v', ps⟩ := q
    have h1 := List.find?_some hq
    have h2 := List.all_eq_true.mp lresL_ok _ (List.mem_of_find?_eq_some hq)
    simp only [Bool.and_eq_true, beq_iff_eq] at h1
    obtain ⟨rfl, rfl⟩ := h1
    cases h
    simp only [decide_eq_true_eq] at h2
    exact tgw_at h2 rfl
