section
-- ===== PART A: goes FIRST, ahead of the names: the tables' words, and 'selects' of the private methods out of them =====
/-- a private method of a class that the tables say can be made, by its rows of tables_1 -/
def lw_okq (q : MethodName × Nat) : Prop := (q.1.cls ≠ "java/lang/invoke/MethodHandle" ∧ q.1.cls ≠ "java/lang/invoke/VarHandle") ∧ Cond.instantiable q.1.cls q.2 ∈ tables_1 ∧ Cond.privateMethod q.1 ∈ tables_1 ∧ Cond.instanceMethod q.1 ∈ tables_1
theorem lw_p0 : lw_okq (⟨"WireWatch$Net", "measureFrom", "(I)V"⟩, 11) := ⟨⟨by decide +kernel, by decide +kernel⟩, List.mem_of_getElem? (i := 27) (by decide +kernel), List.mem_of_getElem? (i := 382) (by decide +kernel), List.mem_of_getElem? (i := 383) (by decide +kernel)⟩
theorem lw_p1 : lw_okq (⟨"WireWatch$Net", "measureAround", "(II)V"⟩, 11) := ⟨⟨by decide +kernel, by decide +kernel⟩, List.mem_of_getElem? (i := 27) (by decide +kernel), List.mem_of_getElem? (i := 387) (by decide +kernel), List.mem_of_getElem? (i := 388) (by decide +kernel)⟩
theorem lw_p2 : lw_okq (⟨"WireWatch$Net", "firstNearer", "(I)I"⟩, 11) := ⟨⟨by decide +kernel, by decide +kernel⟩, List.mem_of_getElem? (i := 27) (by decide +kernel), List.mem_of_getElem? (i := 391) (by decide +kernel), List.mem_of_getElem? (i := 392) (by decide +kernel)⟩
theorem lw_p3 : lw_okq (⟨"WireWatch", "talkAt", "(I)LWireWatch$Talk;"⟩, 15) := ⟨⟨by decide +kernel, by decide +kernel⟩, List.mem_of_getElem? (i := 19) (by decide +kernel), List.mem_of_getElem? (i := 461) (by decide +kernel), List.mem_of_getElem? (i := 462) (by decide +kernel)⟩
theorem lw_p4 : lw_okq (⟨"WireWatch", "sheetAt", "(I)LWireWatch$Sheet;"⟩, 15) := ⟨⟨by decide +kernel, by decide +kernel⟩, List.mem_of_getElem? (i := 19) (by decide +kernel), List.mem_of_getElem? (i := 465) (by decide +kernel), List.mem_of_getElem? (i := 466) (by decide +kernel)⟩
theorem lw_p5 : lw_okq (⟨"WireWatch", "againstTaking", "(LWireWatch$Sheet;III)I"⟩, 15) := ⟨⟨by decide +kernel, by decide +kernel⟩, List.mem_of_getElem? (i := 19) (by decide +kernel), List.mem_of_getElem? (i := 472) (by decide +kernel), List.mem_of_getElem? (i := 473) (by decide +kernel)⟩
theorem lw_p6 : lw_okq (⟨"WireWatch", "faulted", "(I)I"⟩, 15) := ⟨⟨by decide +kernel, by decide +kernel⟩, List.mem_of_getElem? (i := 19) (by decide +kernel), List.mem_of_getElem? (i := 483) (by decide +kernel), List.mem_of_getElem? (i := 484) (by decide +kernel)⟩
theorem lw_p7 : lw_okq (⟨"WireWatch$Talk", "seeByte", "(II)V"⟩, 10) := ⟨⟨by decide +kernel, by decide +kernel⟩, List.mem_of_getElem? (i := 411) (by decide +kernel), List.mem_of_getElem? (i := 505) (by decide +kernel), List.mem_of_getElem? (i := 506) (by decide +kernel)⟩
theorem lw_p8 : lw_okq (⟨"WireWatch", "rowAt", "(I)LWireWatch$Row;"⟩, 15) := ⟨⟨by decide +kernel, by decide +kernel⟩, List.mem_of_getElem? (i := 19) (by decide +kernel), List.mem_of_getElem? (i := 563) (by decide +kernel), List.mem_of_getElem? (i := 564) (by decide +kernel)⟩
theorem lw_p9 : lw_okq (⟨"WireWatch$Row", "isAt", "(LWireWatch$Talk;II)Z"⟩, 2) := ⟨⟨by decide +kernel, by decide +kernel⟩, List.mem_of_getElem? (i := 543) (by decide +kernel), List.mem_of_getElem? (i := 572) (by decide +kernel), List.mem_of_getElem? (i := 573) (by decide +kernel)⟩
theorem lw_p10 : lw_okq (⟨"WireWatch", "scanOne", "(III)V"⟩, 15) := ⟨⟨by decide +kernel, by decide +kernel⟩, List.mem_of_getElem? (i := 19) (by decide +kernel), List.mem_of_getElem? (i := 585) (by decide +kernel), List.mem_of_getElem? (i := 586) (by decide +kernel)⟩
theorem lw_p11 : lw_okq (⟨"WireWatch$ChainText", "readSpan", "(LWireWatch$Sheet;III)I"⟩, 3) := ⟨⟨by decide +kernel, by decide +kernel⟩, List.mem_of_getElem? (i := 127) (by decide +kernel), List.mem_of_getElem? (i := 628) (by decide +kernel), List.mem_of_getElem? (i := 629) (by decide +kernel)⟩
theorem lw_p12 : lw_okq (⟨"WireWatch$Findings", "isChainFrom", "(ILWireWatch$ChainText;)Z"⟩, 6) := ⟨⟨by decide +kernel, by decide +kernel⟩, List.mem_of_getElem? (i := 97) (by decide +kernel), List.mem_of_getElem? (i := 636) (by decide +kernel), List.mem_of_getElem? (i := 637) (by decide +kernel)⟩
theorem lw_p13 : lw_okq (⟨"WireWatch$Findings", "earliest", "(IIIJ)I"⟩, 6) := ⟨⟨by decide +kernel, by decide +kernel⟩, List.mem_of_getElem? (i := 97) (by decide +kernel), List.mem_of_getElem? (i := 640) (by decide +kernel), List.mem_of_getElem? (i := 641) (by decide +kernel)⟩
theorem lw_p14 : lw_okq (⟨"WireWatch$Hours", "sumOf", "(II)I"⟩, 2) := ⟨⟨by decide +kernel, by decide +kernel⟩, List.mem_of_getElem? (i := 146) (by decide +kernel), List.mem_of_getElem? (i := 669) (by decide +kernel), List.mem_of_getElem? (i := 670) (by decide +kernel)⟩
theorem lw_p15 : lw_okq (⟨"WireWatch$Sketch", "indexOf", "(I)I"⟩, 4) := ⟨⟨by decide +kernel, by decide +kernel⟩, List.mem_of_getElem? (i := 160) (by decide +kernel), List.mem_of_getElem? (i := 706) (by decide +kernel), List.mem_of_getElem? (i := 707) (by decide +kernel)⟩
def lw_privs_1 : List (MethodName × Nat) := [(⟨"WireWatch$Net", "measureFrom", "(I)V"⟩, 11), (⟨"WireWatch$Net", "measureAround", "(II)V"⟩, 11), (⟨"WireWatch$Net", "firstNearer", "(I)I"⟩, 11), (⟨"WireWatch", "talkAt", "(I)LWireWatch$Talk;"⟩, 15), (⟨"WireWatch", "sheetAt", "(I)LWireWatch$Sheet;"⟩, 15), (⟨"WireWatch", "againstTaking", "(LWireWatch$Sheet;III)I"⟩, 15), (⟨"WireWatch", "faulted", "(I)I"⟩, 15), (⟨"WireWatch$Talk", "seeByte", "(II)V"⟩, 10), (⟨"WireWatch", "rowAt", "(I)LWireWatch$Row;"⟩, 15), (⟨"WireWatch$Row", "isAt", "(LWireWatch$Talk;II)Z"⟩, 2), (⟨"WireWatch", "scanOne", "(III)V"⟩, 15), (⟨"WireWatch$ChainText", "readSpan", "(LWireWatch$Sheet;III)I"⟩, 3), (⟨"WireWatch$Findings", "isChainFrom", "(ILWireWatch$ChainText;)Z"⟩, 6), (⟨"WireWatch$Findings", "earliest", "(IIIJ)I"⟩, 6), (⟨"WireWatch$Hours", "sumOf", "(II)I"⟩, 2), (⟨"WireWatch$Sketch", "indexOf", "(I)I"⟩, 4)]
theorem lw_r1 : ∀ q ∈ lw_privs_1, lw_okq q := List.forall_mem_cons.mpr ⟨lw_p0, List.forall_mem_cons.mpr ⟨lw_p1, List.forall_mem_cons.mpr ⟨lw_p2, List.forall_mem_cons.mpr ⟨lw_p3, List.forall_mem_cons.mpr ⟨lw_p4, List.forall_mem_cons.mpr ⟨lw_p5, List.forall_mem_cons.mpr ⟨lw_p6, List.forall_mem_cons.mpr ⟨lw_p7, List.forall_mem_cons.mpr ⟨lw_p8, List.forall_mem_cons.mpr ⟨lw_p9, List.forall_mem_cons.mpr ⟨lw_p10, List.forall_mem_cons.mpr ⟨lw_p11, List.forall_mem_cons.mpr ⟨lw_p12, List.forall_mem_cons.mpr ⟨lw_p13, List.forall_mem_cons.mpr ⟨lw_p14, List.forall_mem_cons.mpr ⟨lw_p15, fun _ h => absurd h List.not_mem_nil⟩⟩⟩⟩⟩⟩⟩⟩⟩⟩⟩⟩⟩⟩⟩⟩
theorem lw_p16 : lw_okq (⟨"WireWatch$Trap", "hasBarred", "(LWireWatch$Sheet;II)Z"⟩, 6) := ⟨⟨by decide +kernel, by decide +kernel⟩, List.mem_of_getElem? (i := 179) (by decide +kernel), List.mem_of_getElem? (i := 764) (by decide +kernel), List.mem_of_getElem? (i := 765) (by decide +kernel)⟩
theorem lw_p17 : lw_okq (⟨"WireWatch$Trap", "newState", "(II)I"⟩, 6) := ⟨⟨by decide +kernel, by decide +kernel⟩, List.mem_of_getElem? (i := 179) (by decide +kernel), List.mem_of_getElem? (i := 773) (by decide +kernel), List.mem_of_getElem? (i := 774) (by decide +kernel)⟩
theorem lw_p18 : lw_okq (⟨"WireWatch$Trap", "canGo", "(II)Z"⟩, 6) := ⟨⟨by decide +kernel, by decide +kernel⟩, List.mem_of_getElem? (i := 179) (by decide +kernel), List.mem_of_getElem? (i := 785) (by decide +kernel), List.mem_of_getElem? (i := 786) (by decide +kernel)⟩
theorem lw_p19 : lw_okq (⟨"WireWatch", "areDoors", "(I)Z"⟩, 15) := ⟨⟨by decide +kernel, by decide +kernel⟩, List.mem_of_getElem? (i := 19) (by decide +kernel), List.mem_of_getElem? (i := 819) (by decide +kernel), List.mem_of_getElem? (i := 820) (by decide +kernel)⟩
theorem lw_p20 : lw_okq (⟨"WireWatch", "lostBy", "(I)J"⟩, 15) := ⟨⟨by decide +kernel, by decide +kernel⟩, List.mem_of_getElem? (i := 19) (by decide +kernel), List.mem_of_getElem? (i := 894) (by decide +kernel), List.mem_of_getElem? (i := 895) (by decide +kernel)⟩
theorem lw_p21 : lw_okq (⟨"WireWatch", "tellingOfCarried", "(LWireWatch$Talk;)I"⟩, 15) := ⟨⟨by decide +kernel, by decide +kernel⟩, List.mem_of_getElem? (i := 19) (by decide +kernel), List.mem_of_getElem? (i := 907) (by decide +kernel), List.mem_of_getElem? (i := 908) (by decide +kernel)⟩
theorem lw_p22 : lw_okq (⟨"WireWatch", "leave", "(I)V"⟩, 15) := ⟨⟨by decide +kernel, by decide +kernel⟩, List.mem_of_getElem? (i := 19) (by decide +kernel), List.mem_of_getElem? (i := 911) (by decide +kernel), List.mem_of_getElem? (i := 912) (by decide +kernel)⟩
theorem lw_p23 : lw_okq (⟨"WireWatch", "tellingOfSealed", "(LWireWatch$Talk;)I"⟩, 15) := ⟨⟨by decide +kernel, by decide +kernel⟩, List.mem_of_getElem? (i := 19) (by decide +kernel), List.mem_of_getElem? (i := 915) (by decide +kernel), List.mem_of_getElem? (i := 916) (by decide +kernel)⟩
theorem lw_p24 : lw_okq (⟨"WireWatch", "tellingOfTalk", "(LWireWatch$Talk;)I"⟩, 15) := ⟨⟨by decide +kernel, by decide +kernel⟩, List.mem_of_getElem? (i := 19) (by decide +kernel), List.mem_of_getElem? (i := 919) (by decide +kernel), List.mem_of_getElem? (i := 920) (by decide +kernel)⟩
theorem lw_p25 : lw_okq (⟨"WireWatchModel", "noRoad", "(II)Z"⟩, 55) := ⟨⟨by decide +kernel, by decide +kernel⟩, List.mem_of_getElem? (i := 943) (by decide +kernel), List.mem_of_getElem? (i := 1134) (by decide +kernel), List.mem_of_getElem? (i := 1135) (by decide +kernel)⟩
theorem lw_p26 : lw_okq (⟨"WireWatchModel", "layFar", "(IIZ)V"⟩, 55) := ⟨⟨by decide +kernel, by decide +kernel⟩, List.mem_of_getElem? (i := 943) (by decide +kernel), List.mem_of_getElem? (i := 1151) (by decide +kernel), List.mem_of_getElem? (i := 1152) (by decide +kernel)⟩
theorem lw_p27 : lw_okq (⟨"WireWatchModel", "isOpen", "(IIIZ)Z"⟩, 55) := ⟨⟨by decide +kernel, by decide +kernel⟩, List.mem_of_getElem? (i := 943) (by decide +kernel), List.mem_of_getElem? (i := 1155) (by decide +kernel), List.mem_of_getElem? (i := 1156) (by decide +kernel)⟩
theorem lw_p28 : lw_okq (⟨"WireWatchModel", "nextOn", "(I)I"⟩, 55) := ⟨⟨by decide +kernel, by decide +kernel⟩, List.mem_of_getElem? (i := 943) (by decide +kernel), List.mem_of_getElem? (i := 1159) (by decide +kernel), List.mem_of_getElem? (i := 1160) (by decide +kernel)⟩
theorem lw_p29 : lw_okq (⟨"WireWatchModel", "noTalk", "(I)Z"⟩, 55) := ⟨⟨by decide +kernel, by decide +kernel⟩, List.mem_of_getElem? (i := 943) (by decide +kernel), List.mem_of_getElem? (i := 1176) (by decide +kernel), List.mem_of_getElem? (i := 1177) (by decide +kernel)⟩
theorem lw_p30 : lw_okq (⟨"WireWatchModel", "refused", "(I)I"⟩, 55) := ⟨⟨by decide +kernel, by decide +kernel⟩, List.mem_of_getElem? (i := 943) (by decide +kernel), List.mem_of_getElem? (i := 1184) (by decide +kernel), List.mem_of_getElem? (i := 1185) (by decide +kernel)⟩
theorem lw_p31 : lw_okq (⟨"WireWatchModel", "barred", "(IIIJ)I"⟩, 55) := ⟨⟨by decide +kernel, by decide +kernel⟩, List.mem_of_getElem? (i := 943) (by decide +kernel), List.mem_of_getElem? (i := 1193) (by decide +kernel), List.mem_of_getElem? (i := 1194) (by decide +kernel)⟩
def lw_privs_2 : List (MethodName × Nat) := [(⟨"WireWatch$Trap", "hasBarred", "(LWireWatch$Sheet;II)Z"⟩, 6), (⟨"WireWatch$Trap", "newState", "(II)I"⟩, 6), (⟨"WireWatch$Trap", "canGo", "(II)Z"⟩, 6), (⟨"WireWatch", "areDoors", "(I)Z"⟩, 15), (⟨"WireWatch", "lostBy", "(I)J"⟩, 15), (⟨"WireWatch", "tellingOfCarried", "(LWireWatch$Talk;)I"⟩, 15), (⟨"WireWatch", "leave", "(I)V"⟩, 15), (⟨"WireWatch", "tellingOfSealed", "(LWireWatch$Talk;)I"⟩, 15), (⟨"WireWatch", "tellingOfTalk", "(LWireWatch$Talk;)I"⟩, 15), (⟨"WireWatchModel", "noRoad", "(II)Z"⟩, 55), (⟨"WireWatchModel", "layFar", "(IIZ)V"⟩, 55), (⟨"WireWatchModel", "isOpen", "(IIIZ)Z"⟩, 55), (⟨"WireWatchModel", "nextOn", "(I)I"⟩, 55), (⟨"WireWatchModel", "noTalk", "(I)Z"⟩, 55), (⟨"WireWatchModel", "refused", "(I)I"⟩, 55), (⟨"WireWatchModel", "barred", "(IIIJ)I"⟩, 55)]
theorem lw_r2 : ∀ q ∈ lw_privs_2, lw_okq q := List.forall_mem_cons.mpr ⟨lw_p16, List.forall_mem_cons.mpr ⟨lw_p17, List.forall_mem_cons.mpr ⟨lw_p18, List.forall_mem_cons.mpr ⟨lw_p19, List.forall_mem_cons.mpr ⟨lw_p20, List.forall_mem_cons.mpr ⟨lw_p21, List.forall_mem_cons.mpr ⟨lw_p22, List.forall_mem_cons.mpr ⟨lw_p23, List.forall_mem_cons.mpr ⟨lw_p24, List.forall_mem_cons.mpr ⟨lw_p25, List.forall_mem_cons.mpr ⟨lw_p26, List.forall_mem_cons.mpr ⟨lw_p27, List.forall_mem_cons.mpr ⟨lw_p28, List.forall_mem_cons.mpr ⟨lw_p29, List.forall_mem_cons.mpr ⟨lw_p30, List.forall_mem_cons.mpr ⟨lw_p31, fun _ h => absurd h List.not_mem_nil⟩⟩⟩⟩⟩⟩⟩⟩⟩⟩⟩⟩⟩⟩⟩⟩
theorem lw_p32 : lw_okq (⟨"WireWatchModel", "failed", "(I)I"⟩, 55) := ⟨⟨by decide +kernel, by decide +kernel⟩, List.mem_of_getElem? (i := 943) (by decide +kernel), List.mem_of_getElem? (i := 1197) (by decide +kernel), List.mem_of_getElem? (i := 1198) (by decide +kernel)⟩
theorem lw_p33 : lw_okq (⟨"WireWatchModel", "areCells", "(IIII)Z"⟩, 55) := ⟨⟨by decide +kernel, by decide +kernel⟩, List.mem_of_getElem? (i := 943) (by decide +kernel), List.mem_of_getElem? (i := 1205) (by decide +kernel), List.mem_of_getElem? (i := 1206) (by decide +kernel)⟩
theorem lw_p34 : lw_okq (⟨"WireWatchModel", "isSeen", "(I)Z"⟩, 55) := ⟨⟨by decide +kernel, by decide +kernel⟩, List.mem_of_getElem? (i := 943) (by decide +kernel), List.mem_of_getElem? (i := 1209) (by decide +kernel), List.mem_of_getElem? (i := 1210) (by decide +kernel)⟩
theorem lw_p35 : lw_okq (⟨"WireWatchModel", "take", "(III)V"⟩, 55) := ⟨⟨by decide +kernel, by decide +kernel⟩, List.mem_of_getElem? (i := 943) (by decide +kernel), List.mem_of_getElem? (i := 1213) (by decide +kernel), List.mem_of_getElem? (i := 1214) (by decide +kernel)⟩
theorem lw_p36 : lw_okq (⟨"WireWatchModel", "joinedOf", "(I)I"⟩, 55) := ⟨⟨by decide +kernel, by decide +kernel⟩, List.mem_of_getElem? (i := 943) (by decide +kernel), List.mem_of_getElem? (i := 1221) (by decide +kernel), List.mem_of_getElem? (i := 1222) (by decide +kernel)⟩
theorem lw_p37 : lw_okq (⟨"WireWatchModel", "lengthOf", "(I)I"⟩, 55) := ⟨⟨by decide +kernel, by decide +kernel⟩, List.mem_of_getElem? (i := 943) (by decide +kernel), List.mem_of_getElem? (i := 1225) (by decide +kernel), List.mem_of_getElem? (i := 1226) (by decide +kernel)⟩
theorem lw_p38 : lw_okq (⟨"WireWatchModel", "byteAt", "(III)I"⟩, 55) := ⟨⟨by decide +kernel, by decide +kernel⟩, List.mem_of_getElem? (i := 943) (by decide +kernel), List.mem_of_getElem? (i := 1234) (by decide +kernel), List.mem_of_getElem? (i := 1235) (by decide +kernel)⟩
theorem lw_p39 : lw_okq (⟨"WireWatchModel", "noRow", "(I)Z"⟩, 55) := ⟨⟨by decide +kernel, by decide +kernel⟩, List.mem_of_getElem? (i := 943) (by decide +kernel), List.mem_of_getElem? (i := 1247) (by decide +kernel), List.mem_of_getElem? (i := 1248) (by decide +kernel)⟩
theorem lw_p40 : lw_okq (⟨"WireWatchModel", "fitsOf", "(IIII)I"⟩, 55) := ⟨⟨by decide +kernel, by decide +kernel⟩, List.mem_of_getElem? (i := 943) (by decide +kernel), List.mem_of_getElem? (i := 1251) (by decide +kernel), List.mem_of_getElem? (i := 1252) (by decide +kernel)⟩
theorem lw_p41 : lw_okq (⟨"WireWatchModel", "doesFit", "(IIIII)Z"⟩, 55) := ⟨⟨by decide +kernel, by decide +kernel⟩, List.mem_of_getElem? (i := 943) (by decide +kernel), List.mem_of_getElem? (i := 1255) (by decide +kernel), List.mem_of_getElem? (i := 1256) (by decide +kernel)⟩
theorem lw_p42 : lw_okq (⟨"WireWatchModel", "isFound", "(II)Z"⟩, 55) := ⟨⟨by decide +kernel, by decide +kernel⟩, List.mem_of_getElem? (i := 943) (by decide +kernel), List.mem_of_getElem? (i := 1263) (by decide +kernel), List.mem_of_getElem? (i := 1264) (by decide +kernel)⟩
theorem lw_p43 : lw_okq (⟨"WireWatchModel", "readChain", "(II)I"⟩, 55) := ⟨⟨by decide +kernel, by decide +kernel⟩, List.mem_of_getElem? (i := 943) (by decide +kernel), List.mem_of_getElem? (i := 1293) (by decide +kernel), List.mem_of_getElem? (i := 1294) (by decide +kernel)⟩
theorem lw_p44 : lw_okq (⟨"WireWatchModel", "hasFrom", "(II)Z"⟩, 55) := ⟨⟨by decide +kernel, by decide +kernel⟩, List.mem_of_getElem? (i := 943) (by decide +kernel), List.mem_of_getElem? (i := 1299) (by decide +kernel), List.mem_of_getElem? (i := 1300) (by decide +kernel)⟩
theorem lw_p45 : lw_okq (⟨"WireWatchModel", "findAfter", "(III)I"⟩, 55) := ⟨⟨by decide +kernel, by decide +kernel⟩, List.mem_of_getElem? (i := 943) (by decide +kernel), List.mem_of_getElem? (i := 1303) (by decide +kernel), List.mem_of_getElem? (i := 1304) (by decide +kernel)⟩
theorem lw_p46 : lw_okq (⟨"WireWatchModel", "sumIn", "(II)I"⟩, 55) := ⟨⟨by decide +kernel, by decide +kernel⟩, List.mem_of_getElem? (i := 943) (by decide +kernel), List.mem_of_getElem? (i := 1320) (by decide +kernel), List.mem_of_getElem? (i := 1321) (by decide +kernel)⟩
theorem lw_p47 : lw_okq (⟨"WireWatchModel", "thingOf", "(I)I"⟩, 55) := ⟨⟨by decide +kernel, by decide +kernel⟩, List.mem_of_getElem? (i := 943) (by decide +kernel), List.mem_of_getElem? (i := 1344) (by decide +kernel), List.mem_of_getElem? (i := 1345) (by decide +kernel)⟩
def lw_privs_3 : List (MethodName × Nat) := [(⟨"WireWatchModel", "failed", "(I)I"⟩, 55), (⟨"WireWatchModel", "areCells", "(IIII)Z"⟩, 55), (⟨"WireWatchModel", "isSeen", "(I)Z"⟩, 55), (⟨"WireWatchModel", "take", "(III)V"⟩, 55), (⟨"WireWatchModel", "joinedOf", "(I)I"⟩, 55), (⟨"WireWatchModel", "lengthOf", "(I)I"⟩, 55), (⟨"WireWatchModel", "byteAt", "(III)I"⟩, 55), (⟨"WireWatchModel", "noRow", "(I)Z"⟩, 55), (⟨"WireWatchModel", "fitsOf", "(IIII)I"⟩, 55), (⟨"WireWatchModel", "doesFit", "(IIIII)Z"⟩, 55), (⟨"WireWatchModel", "isFound", "(II)Z"⟩, 55), (⟨"WireWatchModel", "readChain", "(II)I"⟩, 55), (⟨"WireWatchModel", "hasFrom", "(II)Z"⟩, 55), (⟨"WireWatchModel", "findAfter", "(III)I"⟩, 55), (⟨"WireWatchModel", "sumIn", "(II)I"⟩, 55), (⟨"WireWatchModel", "thingOf", "(I)I"⟩, 55)]
theorem lw_r3 : ∀ q ∈ lw_privs_3, lw_okq q := List.forall_mem_cons.mpr ⟨lw_p32, List.forall_mem_cons.mpr ⟨lw_p33, List.forall_mem_cons.mpr ⟨lw_p34, List.forall_mem_cons.mpr ⟨lw_p35, List.forall_mem_cons.mpr ⟨lw_p36, List.forall_mem_cons.mpr ⟨lw_p37, List.forall_mem_cons.mpr ⟨lw_p38, List.forall_mem_cons.mpr ⟨lw_p39, List.forall_mem_cons.mpr ⟨lw_p40, List.forall_mem_cons.mpr ⟨lw_p41, List.forall_mem_cons.mpr ⟨lw_p42, List.forall_mem_cons.mpr ⟨lw_p43, List.forall_mem_cons.mpr ⟨lw_p44, List.forall_mem_cons.mpr ⟨lw_p45, List.forall_mem_cons.mpr ⟨lw_p46, List.forall_mem_cons.mpr ⟨lw_p47, fun _ h => absurd h List.not_mem_nil⟩⟩⟩⟩⟩⟩⟩⟩⟩⟩⟩⟩⟩⟩⟩⟩
theorem lw_p48 : lw_okq (⟨"WireWatchModel", "toldOf", "(I)I"⟩, 55) := ⟨⟨by decide +kernel, by decide +kernel⟩, List.mem_of_getElem? (i := 943) (by decide +kernel), List.mem_of_getElem? (i := 1351) (by decide +kernel), List.mem_of_getElem? (i := 1352) (by decide +kernel)⟩
theorem lw_p49 : lw_okq (⟨"WireWatchModel", "isBarred", "(II)Z"⟩, 55) := ⟨⟨by decide +kernel, by decide +kernel⟩, List.mem_of_getElem? (i := 943) (by decide +kernel), List.mem_of_getElem? (i := 1373) (by decide +kernel), List.mem_of_getElem? (i := 1374) (by decide +kernel)⟩
theorem lw_p50 : lw_okq (⟨"WireWatchModel", "noGrowing", "(II)I"⟩, 55) := ⟨⟨by decide +kernel, by decide +kernel⟩, List.mem_of_getElem? (i := 943) (by decide +kernel), List.mem_of_getElem? (i := 1382) (by decide +kernel), List.mem_of_getElem? (i := 1383) (by decide +kernel)⟩
theorem lw_p51 : lw_okq (⟨"WireWatchModel", "noState", "(I)Z"⟩, 55) := ⟨⟨by decide +kernel, by decide +kernel⟩, List.mem_of_getElem? (i := 943) (by decide +kernel), List.mem_of_getElem? (i := 1394) (by decide +kernel), List.mem_of_getElem? (i := 1395) (by decide +kernel)⟩
theorem lw_p52 : lw_okq (⟨"WireWatchModel", "areDoors", "(I)Z"⟩, 55) := ⟨⟨by decide +kernel, by decide +kernel⟩, List.mem_of_getElem? (i := 943) (by decide +kernel), List.mem_of_getElem? (i := 1414) (by decide +kernel), List.mem_of_getElem? (i := 1415) (by decide +kernel)⟩
theorem lw_p53 : lw_okq (⟨"WireWatchModel", "stillBy", "(I)I"⟩, 55) := ⟨⟨by decide +kernel, by decide +kernel⟩, List.mem_of_getElem? (i := 943) (by decide +kernel), List.mem_of_getElem? (i := 1418) (by decide +kernel), List.mem_of_getElem? (i := 1419) (by decide +kernel)⟩
theorem lw_p54 : lw_okq (⟨"WireWatchModel", "harmOf", "(I)I"⟩, 55) := ⟨⟨by decide +kernel, by decide +kernel⟩, List.mem_of_getElem? (i := 943) (by decide +kernel), List.mem_of_getElem? (i := 1422) (by decide +kernel), List.mem_of_getElem? (i := 1423) (by decide +kernel)⟩
theorem lw_p55 : lw_okq (⟨"WireWatchModel", "areParted", "(III)Z"⟩, 55) := ⟨⟨by decide +kernel, by decide +kernel⟩, List.mem_of_getElem? (i := 943) (by decide +kernel), List.mem_of_getElem? (i := 1434) (by decide +kernel), List.mem_of_getElem? (i := 1435) (by decide +kernel)⟩
theorem lw_p56 : lw_okq (⟨"WireWatchModel", "noCell", "(II)I"⟩, 55) := ⟨⟨by decide +kernel, by decide +kernel⟩, List.mem_of_getElem? (i := 943) (by decide +kernel), List.mem_of_getElem? (i := 1469) (by decide +kernel), List.mem_of_getElem? (i := 1470) (by decide +kernel)⟩
theorem lw_p57 : lw_okq (⟨"WireWatchModel", "failedLong", "(I)J"⟩, 55) := ⟨⟨by decide +kernel, by decide +kernel⟩, List.mem_of_getElem? (i := 943) (by decide +kernel), List.mem_of_getElem? (i := 1477) (by decide +kernel), List.mem_of_getElem? (i := 1478) (by decide +kernel)⟩
theorem lw_p58 : lw_okq (⟨"WireWatchModel", "traced", "(I)V"⟩, 55) := ⟨⟨by decide +kernel, by decide +kernel⟩, List.mem_of_getElem? (i := 943) (by decide +kernel), List.mem_of_getElem? (i := 1489) (by decide +kernel), List.mem_of_getElem? (i := 1490) (by decide +kernel)⟩
def lw_privs_4 : List (MethodName × Nat) := [(⟨"WireWatchModel", "toldOf", "(I)I"⟩, 55), (⟨"WireWatchModel", "isBarred", "(II)Z"⟩, 55), (⟨"WireWatchModel", "noGrowing", "(II)I"⟩, 55), (⟨"WireWatchModel", "noState", "(I)Z"⟩, 55), (⟨"WireWatchModel", "areDoors", "(I)Z"⟩, 55), (⟨"WireWatchModel", "stillBy", "(I)I"⟩, 55), (⟨"WireWatchModel", "harmOf", "(I)I"⟩, 55), (⟨"WireWatchModel", "areParted", "(III)Z"⟩, 55), (⟨"WireWatchModel", "noCell", "(II)I"⟩, 55), (⟨"WireWatchModel", "failedLong", "(I)J"⟩, 55), (⟨"WireWatchModel", "traced", "(I)V"⟩, 55)]
theorem lw_r4 : ∀ q ∈ lw_privs_4, lw_okq q := List.forall_mem_cons.mpr ⟨lw_p48, List.forall_mem_cons.mpr ⟨lw_p49, List.forall_mem_cons.mpr ⟨lw_p50, List.forall_mem_cons.mpr ⟨lw_p51, List.forall_mem_cons.mpr ⟨lw_p52, List.forall_mem_cons.mpr ⟨lw_p53, List.forall_mem_cons.mpr ⟨lw_p54, List.forall_mem_cons.mpr ⟨lw_p55, List.forall_mem_cons.mpr ⟨lw_p56, List.forall_mem_cons.mpr ⟨lw_p57, List.forall_mem_cons.mpr ⟨lw_p58, fun _ h => absurd h List.not_mem_nil⟩⟩⟩⟩⟩⟩⟩⟩⟩⟩⟩
def lw_privs : List (MethodName × Nat) := lw_privs_1 ++ (lw_privs_2 ++ (lw_privs_3 ++ (lw_privs_4)))
def lw_tbl : List Cond := k2_sels lw_privs ++ tables_1
theorem lw_privs_ok : ∀ q ∈ lw_privs, lw_okq q := by
  show ∀ q ∈ lw_privs_1 ++ (lw_privs_2 ++ (lw_privs_3 ++ (lw_privs_4))), lw_okq q
  exact List.forall_mem_append.mpr ⟨lw_r1, List.forall_mem_append.mpr ⟨lw_r2, List.forall_mem_append.mpr ⟨lw_r3, lw_r4⟩⟩⟩

/-! ===== BEGIN words of one list among another's, by their places ===== -/
theorem goodIn_r {big : List Cond} (ws : List Cond) (ps : List Nat) (hp : ws = ps.filterMap (fun i => big[i]?)) (h : ws.all goodWord = true) : GoodIn big ws := by
  intro w hw
  have h1 := List.all_eq_true.mp h w hw
  rw [hp] at hw
  obtain ⟨i, -, hi⟩ := List.mem_filterMap.mp hw
  have hm : w ∈ big := by first | exact List.mem_of_getElem? hi | exact List.getElem?_mem hi
  exact ⟨hm, good_of_word h1⟩
theorem goodIn_app {big a b : List Cond} (ha : GoodIn big a) (hb : GoodIn big b) : GoodIn big (a ++ b) := fun w h => (List.mem_append.mp h).elim (ha w) (hb w)
theorem goodIn_ca {big a b : List Cond} {c : Cond} (ha : GoodIn big (c :: a)) (hb : GoodIn big b) : GoodIn big (c :: (a ++ b)) := fun w h => (List.mem_cons.mp h).elim (fun e => ha w (List.mem_cons.mpr (Or.inl e))) (fun h => (List.mem_append.mp h).elim (fun h => ha w (List.mem_cons.mpr (Or.inr h))) (hb w))
theorem goodIn_sub {big ws : List Cond} (hm : ∀ w ∈ ws, w ∈ big) (h : ws.all goodWord = true) : GoodIn big ws := fun w hw => ⟨hm w hw, good_of_word (List.all_eq_true.mp h w hw)⟩
/-! ===== END ===== -/

/-! ===== BEGIN printed: names, fields, word lists, decode rows ===== -/
def RX0 : String := "WireWatch$ChainText"
def TX0 : u_T := fun k => match k with
  | 0 => ("WireWatch$ChainText", "links", "[I", true)
  | 1 => ("WireWatch$ChainText", "size", "I", false)
  | _ => ("WireWatch$ChainText", "span", "I", false)
def tyX0 : Nat → FieldType := fun k => match k with
  | 0 => .array .int
  | 1 => .int
  | _ => .int
abbrev wsX00 : List Cond := u_ws RX0 TX0 3
theorem nmX0 : ∀ a, a < 3 → ∀ b, b < 3 → a ≠ b → (TX0 a).2.1 ≠ (TX0 b).2.1 := by decide +kernel
theorem tyX0_ok : ∀ k, k < 3 → parseFieldDescriptor (TX0 k).2.2.1 = some (tyX0 k) := by decide +kernel
abbrev cX0_init : ByteArray := prog_2_method_1_code
def yX0_init : MethodName := ⟨RX0, "<init>", "()V"⟩
abbrev cX0_read : ByteArray := prog_2_method_2_code
def yX0_read : MethodName := ⟨RX0, "read", "(LWireWatch$Sheet;III)I"⟩
abbrev cX0_readSpan : ByteArray := prog_2_method_3_code
def yX0_readSpan : MethodName := ⟨RX0, "readSpan", "(LWireWatch$Sheet;III)I"⟩
def RX1 : String := "WireWatch$Findings"
def TX1 : u_T := fun k => match k with
  | 0 => ("WireWatch$Findings", "rowOf", "[I", true)
  | 1 => ("WireWatch$Findings", "talkOf", "[I", true)
  | 2 => ("WireWatch$Findings", "machineOf", "[I", true)
  | 3 => ("WireWatch$Findings", "tickOf", "[I", true)
  | 4 => ("WireWatch$Findings", "verdict", "[I", true)
  | _ => ("WireWatch$Findings", "found", "I", false)
def tyX1 : Nat → FieldType := fun k => match k with
  | 0 => .array .int
  | 1 => .array .int
  | 2 => .array .int
  | 3 => .array .int
  | 4 => .array .int
  | _ => .int
abbrev wsX10 : List Cond := u_ws RX1 TX1 6
theorem nmX1 : ∀ a, a < 6 → ∀ b, b < 6 → a ≠ b → (TX1 a).2.1 ≠ (TX1 b).2.1 := by decide +kernel
theorem tyX1_ok : ∀ k, k < 6 → parseFieldDescriptor (TX1 k).2.2.1 = some (tyX1 k) := by decide +kernel
abbrev cX1_init : ByteArray := prog_3_method_1_code
def yX1_init : MethodName := ⟨RX1, "<init>", "()V"⟩
abbrev cX1_isThere : ByteArray := prog_3_method_2_code
def yX1_isThere : MethodName := ⟨RX1, "isThere", "(II)Z"⟩
abbrev cX1_keep : ByteArray := prog_3_method_3_code
def yX1_keep : MethodName := ⟨RX1, "keep", "(ILWireWatch$Talk;I)V"⟩
abbrev cX1_countOf : ByteArray := prog_3_method_4_code
def yX1_countOf : MethodName := ⟨RX1, "countOf", "(II)I"⟩
abbrev cX1_machinesWith : ByteArray := prog_3_method_5_code
def yX1_machinesWith : MethodName := ⟨RX1, "machinesWith", "(LWireWatch$ChainText;)I"⟩
abbrev cX1_isChainFrom : ByteArray := prog_3_method_6_code
def yX1_isChainFrom : MethodName := ⟨RX1, "isChainFrom", "(ILWireWatch$ChainText;)Z"⟩
abbrev cX1_earliest : ByteArray := prog_3_method_7_code
def yX1_earliest : MethodName := ⟨RX1, "earliest", "(IIIJ)I"⟩
def RX2 : String := "WireWatch$Hours"
def TX2 : u_T := fun k => match k with
  | 0 => ("WireWatch$Hours", "counts", "[I", true)
  | _ => ("WireWatch$Hours", "groupOf", "[I", true)
def tyX2 : Nat → FieldType := fun k => match k with
  | 0 => .array .int
  | _ => .array .int
abbrev wsX20 : List Cond := u_ws RX2 TX2 2
theorem nmX2 : ∀ a, a < 2 → ∀ b, b < 2 → a ≠ b → (TX2 a).2.1 ≠ (TX2 b).2.1 := by decide +kernel
theorem tyX2_ok : ∀ k, k < 2 → parseFieldDescriptor (TX2 k).2.2.1 = some (tyX2 k) := by decide +kernel
abbrev cX2_init : ByteArray := prog_4_method_1_code
def yX2_init : MethodName := ⟨RX2, "<init>", "()V"⟩
abbrev cX2_change : ByteArray := prog_4_method_2_code
def yX2_change : MethodName := ⟨RX2, "change", "(III)I"⟩
abbrev cX2_sumOf : ByteArray := prog_4_method_3_code
def yX2_sumOf : MethodName := ⟨RX2, "sumOf", "(II)I"⟩
abbrev cX2_setsAsLarge : ByteArray := prog_4_method_4_code
def yX2_setsAsLarge : MethodName := ⟨RX2, "setsAsLarge", "(I)I"⟩
abbrev cX2_setsAsGreat : ByteArray := prog_4_method_5_code
def yX2_setsAsGreat : MethodName := ⟨RX2, "setsAsGreat", "(II)I"⟩
abbrev cX2_setsWith : ByteArray := prog_4_method_6_code
def yX2_setsWith : MethodName := ⟨RX2, "setsWith", "([IIIII)I"⟩
abbrev cX2_likesOf : ByteArray := prog_4_method_7_code
def yX2_likesOf : MethodName := ⟨RX2, "likesOf", "(II)I"⟩
def RX3 : String := "WireWatch$Keepers"
def TX3 : u_T := fun k => match k with
  | 0 => ("WireWatch$Keepers", "till", "[I", true)
  | 1 => ("WireWatch$Keepers", "kept", "[I", true)
  | 2 => ("WireWatch$Keepers", "keptBarred", "[I", true)
  | _ => ("WireWatch$Keepers", "keptByAll", "I", false)
def tyX3 : Nat → FieldType := fun k => match k with
  | 0 => .array .int
  | 1 => .array .int
  | 2 => .array .int
  | _ => .int
abbrev wsX30 : List Cond := u_ws RX3 TX3 4
theorem nmX3 : ∀ a, a < 4 → ∀ b, b < 4 → a ≠ b → (TX3 a).2.1 ≠ (TX3 b).2.1 := by decide +kernel
theorem tyX3_ok : ∀ k, k < 4 → parseFieldDescriptor (TX3 k).2.2.1 = some (tyX3 k) := by decide +kernel
abbrev cX3_init : ByteArray := prog_5_method_1_code
def yX3_init : MethodName := ⟨RX3, "<init>", "()V"⟩
abbrev cX3_allow : ByteArray := prog_5_method_2_code
def yX3_allow : MethodName := ⟨RX3, "allow", "(III)I"⟩
abbrev cX3_keepLook : ByteArray := prog_5_method_3_code
def yX3_keepLook : MethodName := ⟨RX3, "keepLook", "(III)I"⟩
def RX4 : String := "WireWatch$Net"
def TX4 : u_T := fun k => match k with
  | 0 => ("WireWatch$Net", "roadsOf", "[I", true)
  | 1 => ("WireWatch$Net", "postsOf", "[I", true)
  | 2 => ("WireWatch$Net", "doorFrom", "[I", true)
  | 3 => ("WireWatch$Net", "doorTo", "[I", true)
  | 4 => ("WireWatch$Net", "open", "[I", true)
  | 5 => ("WireWatch$Net", "farFromEnd", "[I", true)
  | 6 => ("WireWatch$Net", "onWay", "[I", true)
  | 7 => ("WireWatch$Net", "wayRoads", "I", false)
  | 8 => ("WireWatch$Net", "roadCount", "I", false)
  | 9 => ("WireWatch$Net", "doors", "I", false)
  | _ => ("WireWatch$Net", "shutDoors", "I", false)
def tyX4 : Nat → FieldType := fun k => match k with
  | 0 => .array .int
  | 1 => .array .int
  | 2 => .array .int
  | 3 => .array .int
  | 4 => .array .int
  | 5 => .array .int
  | 6 => .array .int
  | 7 => .int
  | 8 => .int
  | 9 => .int
  | _ => .int
abbrev wsX40 : List Cond := u_ws RX4 TX4 11
theorem nmX4 : ∀ a, a < 11 → ∀ b, b < 11 → a ≠ b → (TX4 a).2.1 ≠ (TX4 b).2.1 := by decide +kernel
theorem tyX4_ok : ∀ k, k < 11 → parseFieldDescriptor (TX4 k).2.2.1 = some (tyX4 k) := by decide +kernel
abbrev cX4_init : ByteArray := prog_6_method_1_code
def yX4_init : MethodName := ⟨RX4, "<init>", "()V"⟩
abbrev cX4_hasRoad : ByteArray := prog_6_method_2_code
def yX4_hasRoad : MethodName := ⟨RX4, "hasRoad", "(II)Z"⟩
abbrev cX4_hasPost : ByteArray := prog_6_method_3_code
def yX4_hasPost : MethodName := ⟨RX4, "hasPost", "(II)Z"⟩
abbrev cX4_layRoad : ByteArray := prog_6_method_4_code
def yX4_layRoad : MethodName := ⟨RX4, "layRoad", "(II)V"⟩
abbrev cX4_takeRoad : ByteArray := prog_6_method_5_code
def yX4_takeRoad : MethodName := ⟨RX4, "takeRoad", "(II)V"⟩
abbrev cX4_turnPost : ByteArray := prog_6_method_6_code
def yX4_turnPost : MethodName := ⟨RX4, "turnPost", "(II)V"⟩
abbrev cX4_doorBetween : ByteArray := prog_6_method_7_code
def yX4_doorBetween : MethodName := ⟨RX4, "doorBetween", "(II)I"⟩
abbrev cX4_doorOn : ByteArray := prog_6_method_8_code
def yX4_doorOn : MethodName := ⟨RX4, "doorOn", "(II)I"⟩
abbrev cX4_doorStands : ByteArray := prog_6_method_9_code
def yX4_doorStands : MethodName := ⟨RX4, "doorStands", "(I)Z"⟩
abbrev cX4_isShut : ByteArray := prog_6_method_10_code
def yX4_isShut : MethodName := ⟨RX4, "isShut", "(I)Z"⟩
abbrev cX4_turnDoor : ByteArray := prog_6_method_11_code
def yX4_turnDoor : MethodName := ⟨RX4, "turnDoor", "(I)V"⟩
abbrev cX4_openRoads : ByteArray := prog_6_method_12_code
def yX4_openRoads : MethodName := ⟨RX4, "openRoads", "(I)V"⟩
abbrev cX4_leavePosts : ByteArray := prog_6_method_13_code
def yX4_leavePosts : MethodName := ⟨RX4, "leavePosts", "()V"⟩
abbrev cX4_reach : ByteArray := prog_6_method_14_code
def yX4_reach : MethodName := ⟨RX4, "reach", "(I)I"⟩
abbrev cX4_parts : ByteArray := prog_6_method_15_code
def yX4_parts : MethodName := ⟨RX4, "parts", "(II)Z"⟩
abbrev cX4_findWay : ByteArray := prog_6_method_16_code
def yX4_findWay : MethodName := ⟨RX4, "findWay", "(II)Z"⟩
abbrev cX4_measureFrom : ByteArray := prog_6_method_17_code
def yX4_measureFrom : MethodName := ⟨RX4, "measureFrom", "(I)V"⟩
abbrev cX4_measureAround : ByteArray := prog_6_method_18_code
def yX4_measureAround : MethodName := ⟨RX4, "measureAround", "(II)V"⟩
abbrev cX4_firstNearer : ByteArray := prog_6_method_19_code
def yX4_firstNearer : MethodName := ⟨RX4, "firstNearer", "(I)I"⟩
abbrev cX4_wayHasPost : ByteArray := prog_6_method_20_code
def yX4_wayHasPost : MethodName := ⟨RX4, "wayHasPost", "()Z"⟩
def RX5 : String := "WireWatch$Row"
def TX5 : u_T := fun k => match k with
  | 0 => ("WireWatch$Row", "wanted", "[I", true)
  | _ => ("WireWatch$Row", "size", "I", true)
def tyX5 : Nat → FieldType := fun k => match k with
  | 0 => .array .int
  | _ => .int
abbrev wsX50 : List Cond := u_ws RX5 TX5 2
theorem nmX5 : ∀ a, a < 2 → ∀ b, b < 2 → a ≠ b → (TX5 a).2.1 ≠ (TX5 b).2.1 := by decide +kernel
theorem tyX5_ok : ∀ k, k < 2 → parseFieldDescriptor (TX5 k).2.2.1 = some (tyX5 k) := by decide +kernel
abbrev cX5_init : ByteArray := prog_7_method_1_code
def yX5_init : MethodName := ⟨RX5, "<init>", "(LWireWatch$Sheet;II)V"⟩
abbrev cX5_isAt : ByteArray := prog_7_method_2_code
def yX5_isAt : MethodName := ⟨RX5, "isAt", "(LWireWatch$Talk;II)Z"⟩
abbrev cX5_placesIn : ByteArray := prog_7_method_3_code
def yX5_placesIn : MethodName := ⟨RX5, "placesIn", "(LWireWatch$Talk;I)I"⟩
abbrev cX5_firstIn : ByteArray := prog_7_method_4_code
def yX5_firstIn : MethodName := ⟨RX5, "firstIn", "(LWireWatch$Talk;I)I"⟩
def RX6 : String := "WireWatch$Sheet"
def TX6 : u_T := fun k => match k with
  | 0 => ("WireWatch$Sheet", "values", "[I", true)
  | 1 => ("WireWatch$Sheet", "has", "Z", false)
  | 2 => ("WireWatch$Sheet", "lane", "I", false)
  | _ => ("WireWatch$Sheet", "size", "I", false)
def tyX6 : Nat → FieldType := fun k => match k with
  | 0 => .array .int
  | 1 => .boolean
  | 2 => .int
  | _ => .int
abbrev wsX60 : List Cond := u_ws RX6 TX6 4
theorem nmX6 : ∀ a, a < 4 → ∀ b, b < 4 → a ≠ b → (TX6 a).2.1 ≠ (TX6 b).2.1 := by decide +kernel
theorem tyX6_ok : ∀ k, k < 4 → parseFieldDescriptor (TX6 k).2.2.1 = some (tyX6 k) := by decide +kernel
abbrev cX6_init : ByteArray := prog_8_method_1_code
def yX6_init : MethodName := ⟨RX6, "<init>", "()V"⟩
abbrev cX6_begin : ByteArray := prog_8_method_2_code
def yX6_begin : MethodName := ⟨RX6, "begin", "(II)V"⟩
abbrev cX6_isOfOther : ByteArray := prog_8_method_3_code
def yX6_isOfOther : MethodName := ⟨RX6, "isOfOther", "(I)Z"⟩
abbrev cX6_spans : ByteArray := prog_8_method_4_code
def yX6_spans : MethodName := ⟨RX6, "spans", "(II)Z"⟩
abbrev cX6_areAllIn : ByteArray := prog_8_method_5_code
def yX6_areAllIn : MethodName := ⟨RX6, "areAllIn", "(IIII)Z"⟩
abbrev cX6_cut : ByteArray := prog_8_method_6_code
def yX6_cut : MethodName := ⟨RX6, "cut", "(I)I"⟩
def RX7 : String := "WireWatch$Sketch"
def TX7 : u_T := fun k => match k with
  | 0 => ("WireWatch$Sketch", "numbers", "[I", true)
  | 1 => ("WireWatch$Sketch", "things", "[I", true)
  | 2 => ("WireWatch$Sketch", "times", "[I", true)
  | _ => ("WireWatch$Sketch", "known", "I", false)
def tyX7 : Nat → FieldType := fun k => match k with
  | 0 => .array .int
  | 1 => .array .int
  | 2 => .array .int
  | _ => .int
abbrev wsX70 : List Cond := u_ws RX7 TX7 4
theorem nmX7 : ∀ a, a < 4 → ∀ b, b < 4 → a ≠ b → (TX7 a).2.1 ≠ (TX7 b).2.1 := by decide +kernel
theorem tyX7_ok : ∀ k, k < 4 → parseFieldDescriptor (TX7 k).2.2.1 = some (tyX7 k) := by decide +kernel
abbrev cX7_init : ByteArray := prog_9_method_1_code
def yX7_init : MethodName := ⟨RX7, "<init>", "()V"⟩
abbrev cX7_isThing : ByteArray := prog_9_method_2_code
def yX7_isThing : MethodName := ⟨RX7, "isThing", "(I)Z"⟩
abbrev cX7_spotOf : ByteArray := prog_9_method_3_code
def yX7_spotOf : MethodName := ⟨RX7, "spotOf", "(II)I"⟩
abbrev cX7_indexOf : ByteArray := prog_9_method_4_code
def yX7_indexOf : MethodName := ⟨RX7, "indexOf", "(I)I"⟩
abbrev cX7_take : ByteArray := prog_9_method_5_code
def yX7_take : MethodName := ⟨RX7, "take", "(II)Z"⟩
abbrev cX7_toldOf : ByteArray := prog_9_method_6_code
def yX7_toldOf : MethodName := ⟨RX7, "toldOf", "(I)I"⟩
abbrev cX7_trulyOf : ByteArray := prog_9_method_7_code
def yX7_trulyOf : MethodName := ⟨RX7, "trulyOf", "(I)I"⟩
abbrev cX7_missed : ByteArray := prog_9_method_8_code
def yX7_missed : MethodName := ⟨RX7, "missed", "()I"⟩
def RX8 : String := "WireWatch$Talk"
def TX8 : u_T := fun k => match k with
  | 0 => ("WireWatch$Talk", "number", "I", true)
  | 1 => ("WireWatch$Talk", "kind", "I", true)
  | 2 => ("WireWatch$Talk", "from", "I", true)
  | 3 => ("WireWatch$Talk", "to", "I", true)
  | 4 => ("WireWatch$Talk", "first", "[I", true)
  | 5 => ("WireWatch$Talk", "second", "[I", true)
  | 6 => ("WireWatch$Talk", "end", "I", false)
  | 7 => ("WireWatch$Talk", "more", "I", false)
  | 8 => ("WireWatch$Talk", "unseen", "I", false)
  | _ => ("WireWatch$Talk", "latestTick", "I", false)
def tyX8 : Nat → FieldType := fun k => match k with
  | 0 => .int
  | 1 => .int
  | 2 => .int
  | 3 => .int
  | 4 => .array .int
  | 5 => .array .int
  | 6 => .int
  | 7 => .int
  | 8 => .int
  | _ => .int
abbrev wsX80 : List Cond := u_ws RX8 TX8 10
theorem nmX8 : ∀ a, a < 10 → ∀ b, b < 10 → a ≠ b → (TX8 a).2.1 ≠ (TX8 b).2.1 := by decide +kernel
theorem tyX8_ok : ∀ k, k < 10 → parseFieldDescriptor (TX8 k).2.2.1 = some (tyX8 k) := by decide +kernel
abbrev cX8_init : ByteArray := prog_10_method_1_code
def yX8_init : MethodName := ⟨RX8, "<init>", "(IIII)V"⟩
abbrev cX8_isSealed : ByteArray := prog_10_method_2_code
def yX8_isSealed : MethodName := ⟨RX8, "isSealed", "()Z"⟩
abbrev cX8_see : ByteArray := prog_10_method_3_code
def yX8_see : MethodName := ⟨RX8, "see", "(IILWireWatch$Sheet;II)V"⟩
abbrev cX8_seeByte : ByteArray := prog_10_method_4_code
def yX8_seeByte : MethodName := ⟨RX8, "seeByte", "(II)V"⟩
abbrev cX8_byteAt : ByteArray := prog_10_method_5_code
def yX8_byteAt : MethodName := ⟨RX8, "byteAt", "(II)I"⟩
abbrev cX8_joined : ByteArray := prog_10_method_6_code
def yX8_joined : MethodName := ⟨RX8, "joined", "()I"⟩
abbrev cX8_length : ByteArray := prog_10_method_7_code
def yX8_length : MethodName := ⟨RX8, "length", "()I"⟩
abbrev cX8_twofold : ByteArray := prog_10_method_8_code
def yX8_twofold : MethodName := ⟨RX8, "twofold", "()I"⟩
def RX9 : String := "WireWatch$Trap"
def TX9 : u_T := fun k => match k with
  | 0 => ("WireWatch$Trap", "leads", "[I", true)
  | 1 => ("WireWatch$Trap", "cameBy", "[I", true)
  | 2 => ("WireWatch$Trap", "answers", "[I", true)
  | 3 => ("WireWatch$Trap", "depths", "[I", true)
  | 4 => ("WireWatch$Trap", "states", "I", false)
  | _ => ("WireWatch$Trap", "barred", "I", false)
def tyX9 : Nat → FieldType := fun k => match k with
  | 0 => .array .int
  | 1 => .array .int
  | 2 => .array .int
  | 3 => .array .int
  | 4 => .int
  | _ => .int
abbrev wsX90 : List Cond := u_ws RX9 TX9 6
theorem nmX9 : ∀ a, a < 6 → ∀ b, b < 6 → a ≠ b → (TX9 a).2.1 ≠ (TX9 b).2.1 := by decide +kernel
theorem tyX9_ok : ∀ k, k < 6 → parseFieldDescriptor (TX9 k).2.2.1 = some (tyX9 k) := by decide +kernel
abbrev cX9_init : ByteArray := prog_11_method_1_code
def yX9_init : MethodName := ⟨RX9, "<init>", "()V"⟩
abbrev cX9_isBarred : ByteArray := prog_11_method_2_code
def yX9_isBarred : MethodName := ⟨RX9, "isBarred", "(II)Z"⟩
abbrev cX9_turnBar : ByteArray := prog_11_method_3_code
def yX9_turnBar : MethodName := ⟨RX9, "turnBar", "(II)V"⟩
abbrev cX9_leadsTo : ByteArray := prog_11_method_4_code
def yX9_leadsTo : MethodName := ⟨RX9, "leadsTo", "(II)I"⟩
abbrev cX9_growBy : ByteArray := prog_11_method_5_code
def yX9_growBy : MethodName := ⟨RX9, "growBy", "(LWireWatch$Sheet;II)I"⟩
abbrev cX9_hasBarred : ByteArray := prog_11_method_6_code
def yX9_hasBarred : MethodName := ⟨RX9, "hasBarred", "(LWireWatch$Sheet;II)Z"⟩
abbrev cX9_newState : ByteArray := prog_11_method_7_code
def yX9_newState : MethodName := ⟨RX9, "newState", "(II)I"⟩
abbrev cX9_canGo : ByteArray := prog_11_method_8_code
def yX9_canGo : MethodName := ⟨RX9, "canGo", "(II)Z"⟩
abbrev cX9_goneAlong : ByteArray := prog_11_method_9_code
def yX9_goneAlong : MethodName := ⟨RX9, "goneAlong", "(LWireWatch$Sheet;II)I"⟩
abbrev cX9_rowsOf : ByteArray := prog_11_method_10_code
def yX9_rowsOf : MethodName := ⟨RX9, "rowsOf", "(I)I"⟩
def RX10 : String := "WireWatch$Works"
def TX10 : u_T := fun k => match k with
  | 0 => ("WireWatch$Works", "workFrom", "[I", true)
  | 1 => ("WireWatch$Works", "workTo", "[I", true)
  | 2 => ("WireWatch$Works", "weights", "[I", true)
  | _ => ("WireWatch$Works", "kept", "I", false)
def tyX10 : Nat → FieldType := fun k => match k with
  | 0 => .array .int
  | 1 => .array .int
  | 2 => .array .int
  | _ => .int
abbrev wsX100 : List Cond := u_ws RX10 TX10 4
theorem nmX10 : ∀ a, a < 4 → ∀ b, b < 4 → a ≠ b → (TX10 a).2.1 ≠ (TX10 b).2.1 := by decide +kernel
theorem tyX10_ok : ∀ k, k < 4 → parseFieldDescriptor (TX10 k).2.2.1 = some (tyX10 k) := by decide +kernel
abbrev cX10_init : ByteArray := prog_12_method_1_code
def yX10_init : MethodName := ⟨RX10, "<init>", "()V"⟩
abbrev cX10_keep : ByteArray := prog_12_method_2_code
def yX10_keep : MethodName := ⟨RX10, "keep", "(III)I"⟩
abbrev cX10_stoppedIn : ByteArray := prog_12_method_3_code
def yX10_stoppedIn : MethodName := ⟨RX10, "stoppedIn", "(LWireWatch$Net;)I"⟩
abbrev cX10_weightOf : ByteArray := prog_12_method_4_code
def yX10_weightOf : MethodName := ⟨RX10, "weightOf", "(I)I"⟩
def RX11 : String := "WireWatch"
def TX11 : u_T := fun k => match k with
  | 0 => ("WireWatch", "net", "LWireWatch$Net;", true)
  | 1 => ("WireWatch", "works", "LWireWatch$Works;", true)
  | 2 => ("WireWatch", "talks", "[LWireWatch$Talk;", true)
  | 3 => ("WireWatch", "patterns", "[LWireWatch$Row;", true)
  | 4 => ("WireWatch", "findings", "LWireWatch$Findings;", true)
  | 5 => ("WireWatch", "text", "LWireWatch$ChainText;", true)
  | 6 => ("WireWatch", "hoursKept", "LWireWatch$Hours;", true)
  | 7 => ("WireWatch", "sketch", "LWireWatch$Sketch;", true)
  | 8 => ("WireWatch", "trap", "LWireWatch$Trap;", true)
  | 9 => ("WireWatch", "keepers", "LWireWatch$Keepers;", true)
  | 10 => ("WireWatch", "sheets", "[LWireWatch$Sheet;", true)
  | 11 => ("WireWatch", "talkCount", "I", false)
  | 12 => ("WireWatch", "rowCount", "I", false)
  | 13 => ("WireWatch", "traceLeft", "I", false)
  | _ => ("WireWatch", "latestFault", "I", false)
def tyX11 : Nat → FieldType := fun k => match k with
  | 0 => .object "WireWatch$Net"
  | 1 => .object "WireWatch$Works"
  | 2 => .array (.object "WireWatch$Talk")
  | 3 => .array (.object "WireWatch$Row")
  | 4 => .object "WireWatch$Findings"
  | 5 => .object "WireWatch$ChainText"
  | 6 => .object "WireWatch$Hours"
  | 7 => .object "WireWatch$Sketch"
  | 8 => .object "WireWatch$Trap"
  | 9 => .object "WireWatch$Keepers"
  | 10 => .array (.object "WireWatch$Sheet")
  | 11 => .int
  | 12 => .int
  | 13 => .int
  | _ => .int
abbrev wsX110 : List Cond := u_ws RX11 TX11 15
theorem nmX11 : ∀ a, a < 15 → ∀ b, b < 15 → a ≠ b → (TX11 a).2.1 ≠ (TX11 b).2.1 := by decide +kernel
theorem tyX11_ok : ∀ k, k < 15 → parseFieldDescriptor (TX11 k).2.2.1 = some (tyX11 k) := by decide +kernel
abbrev cX11_init : ByteArray := prog_1_method_1_code
def yX11_init : MethodName := ⟨RX11, "<init>", "()V"⟩
abbrev cX11_isIn : ByteArray := prog_1_method_2_code
def yX11_isIn : MethodName := ⟨RX11, "isIn", "(III)Z"⟩
abbrev cX11_isMachine : ByteArray := prog_1_method_3_code
def yX11_isMachine : MethodName := ⟨RX11, "isMachine", "(I)Z"⟩
abbrev cX11_areMachines : ByteArray := prog_1_method_4_code
def yX11_areMachines : MethodName := ⟨RX11, "areMachines", "(II)Z"⟩
abbrev cX11_isTick : ByteArray := prog_1_method_5_code
def yX11_isTick : MethodName := ⟨RX11, "isTick", "(I)Z"⟩
abbrev cX11_isLane : ByteArray := prog_1_method_6_code
def yX11_isLane : MethodName := ⟨RX11, "isLane", "(I)Z"⟩
abbrev cX11_isHourSet : ByteArray := prog_1_method_7_code
def yX11_isHourSet : MethodName := ⟨RX11, "isHourSet", "(I)Z"⟩
abbrev cX11_areApart : ByteArray := prog_1_method_8_code
def yX11_areApart : MethodName := ⟨RX11, "areApart", "(II)Z"⟩
abbrev cX11_areDoors : ByteArray := prog_1_method_9_code
def yX11_areDoors : MethodName := ⟨RX11, "areDoors", "(I)Z"⟩
abbrev cX11_talkAt : ByteArray := prog_1_method_10_code
def yX11_talkAt : MethodName := ⟨RX11, "talkAt", "(I)LWireWatch$Talk;"⟩
abbrev cX11_rowAt : ByteArray := prog_1_method_11_code
def yX11_rowAt : MethodName := ⟨RX11, "rowAt", "(I)LWireWatch$Row;"⟩
abbrev cX11_sheetAt : ByteArray := prog_1_method_12_code
def yX11_sheetAt : MethodName := ⟨RX11, "sheetAt", "(I)LWireWatch$Sheet;"⟩
abbrev cX11_greatestShared : ByteArray := prog_1_method_13_code
def yX11_greatestShared : MethodName := ⟨RX11, "greatestShared", "(JJ)J"⟩
abbrev cX11_share : ByteArray := prog_1_method_14_code
def yX11_share : MethodName := ⟨RX11, "share", "(JJI)J"⟩
abbrev cX11_road : ByteArray := prog_1_method_15_code
def yX11_road : MethodName := ⟨RX11, "road", "(IIZ)I"⟩
abbrev cX11_post : ByteArray := prog_1_method_16_code
def yX11_post : MethodName := ⟨RX11, "post", "(IIZ)I"⟩
abbrev cX11_door : ByteArray := prog_1_method_17_code
def yX11_door : MethodName := ⟨RX11, "door", "(II)I"⟩
abbrev cX11_shut : ByteArray := prog_1_method_18_code
def yX11_shut : MethodName := ⟨RX11, "shut", "(IZ)I"⟩
abbrev cX11_way : ByteArray := prog_1_method_19_code
def yX11_way : MethodName := ⟨RX11, "way", "(III)I"⟩
abbrev cX11_blind : ByteArray := prog_1_method_20_code
def yX11_blind : MethodName := ⟨RX11, "blind", "(II)I"⟩
abbrev cX11_talk : ByteArray := prog_1_method_21_code
def yX11_talk : MethodName := ⟨RX11, "talk", "(III)I"⟩
abbrev cX11_piece : ByteArray := prog_1_method_22_code
def yX11_piece : MethodName := ⟨RX11, "piece", "(IIIIIII)I"⟩
abbrev cX11_about : ByteArray := prog_1_method_23_code
def yX11_about : MethodName := ⟨RX11, "about", "(II)I"⟩
abbrev cX11_at : ByteArray := prog_1_method_24_code
def yX11_at : MethodName := ⟨RX11, "at", "(III)I"⟩
abbrev cX11_row : ByteArray := prog_1_method_25_code
def yX11_row : MethodName := ⟨RX11, "row", "(IIII)I"⟩
abbrev cX11_fits : ByteArray := prog_1_method_26_code
def yX11_fits : MethodName := ⟨RX11, "fits", "(IIII)I"⟩
abbrev cX11_scan : ByteArray := prog_1_method_27_code
def yX11_scan : MethodName := ⟨RX11, "scan", "(I)I"⟩
abbrev cX11_scanOne : ByteArray := prog_1_method_28_code
def yX11_scanOne : MethodName := ⟨RX11, "scanOne", "(III)V"⟩
abbrev cX11_finding : ByteArray := prog_1_method_29_code
def yX11_finding : MethodName := ⟨RX11, "finding", "(II)I"⟩
abbrev cX11_clear : ByteArray := prog_1_method_30_code
def yX11_clear : MethodName := ⟨RX11, "clear", "(II)I"⟩
abbrev cX11_nothing : ByteArray := prog_1_method_31_code
def yX11_nothing : MethodName := ⟨RX11, "nothing", "(II)J"⟩
abbrev cX11_chain : ByteArray := prog_1_method_32_code
def yX11_chain : MethodName := ⟨RX11, "chain", "(IIII)I"⟩
abbrev cX11_count : ByteArray := prog_1_method_33_code
def yX11_count : MethodName := ⟨RX11, "count", "(III)I"⟩
abbrev cX11_odds : ByteArray := prog_1_method_34_code
def yX11_odds : MethodName := ⟨RX11, "odds", "(III)J"⟩
abbrev cX11_group : ByteArray := prog_1_method_35_code
def yX11_group : MethodName := ⟨RX11, "group", "(II)I"⟩
abbrev cX11_likes : ByteArray := prog_1_method_36_code
def yX11_likes : MethodName := ⟨RX11, "likes", "(II)I"⟩
abbrev cX11_put : ByteArray := prog_1_method_37_code
def yX11_put : MethodName := ⟨RX11, "put", "(II)I"⟩
abbrev cX11_told : ByteArray := prog_1_method_38_code
def yX11_told : MethodName := ⟨RX11, "told", "(II)I"⟩
abbrev cX11_miss : ByteArray := prog_1_method_39_code
def yX11_miss : MethodName := ⟨RX11, "miss", "()I"⟩
abbrev cX11_isSign : ByteArray := prog_1_method_40_code
def yX11_isSign : MethodName := ⟨RX11, "isSign", "(I)Z"⟩
abbrev cX11_bar : ByteArray := prog_1_method_41_code
def yX11_bar : MethodName := ⟨RX11, "bar", "(IIZ)I"⟩
abbrev cX11_grow : ByteArray := prog_1_method_42_code
def yX11_grow : MethodName := ⟨RX11, "grow", "(IIII)I"⟩
abbrev cX11_gone : ByteArray := prog_1_method_43_code
def yX11_gone : MethodName := ⟨RX11, "gone", "(IIII)I"⟩
abbrev cX11_answer : ByteArray := prog_1_method_44_code
def yX11_answer : MethodName := ⟨RX11, "answer", "(II)I"⟩
abbrev cX11_next : ByteArray := prog_1_method_45_code
def yX11_next : MethodName := ⟨RX11, "next", "(II)I"⟩
abbrev cX11_rows : ByteArray := prog_1_method_46_code
def yX11_rows : MethodName := ⟨RX11, "rows", "(I)I"⟩
abbrev cX11_work : ByteArray := prog_1_method_47_code
def yX11_work : MethodName := ⟨RX11, "work", "(III)I"⟩
abbrev cX11_still : ByteArray := prog_1_method_48_code
def yX11_still : MethodName := ⟨RX11, "still", "(II)I"⟩
abbrev cX11_parted : ByteArray := prog_1_method_49_code
def yX11_parted : MethodName := ⟨RX11, "parted", "(III)I"⟩
abbrev cX11_least : ByteArray := prog_1_method_50_code
def yX11_least : MethodName := ⟨RX11, "least", "(III)I"⟩
abbrev cX11_may : ByteArray := prog_1_method_51_code
def yX11_may : MethodName := ⟨RX11, "may", "(III)I"⟩
abbrev cX11_look : ByteArray := prog_1_method_52_code
def yX11_look : MethodName := ⟨RX11, "look", "(III)I"⟩
abbrev cX11_looks : ByteArray := prog_1_method_53_code
def yX11_looks : MethodName := ⟨RX11, "looks", "(II)I"⟩
abbrev cX11_faulted : ByteArray := prog_1_method_54_code
def yX11_faulted : MethodName := ⟨RX11, "faulted", "(I)I"⟩
abbrev cX11_lostBy : ByteArray := prog_1_method_55_code
def yX11_lostBy : MethodName := ⟨RX11, "lostBy", "(I)J"⟩
abbrev cX11_againstTaking : ByteArray := prog_1_method_56_code
def yX11_againstTaking : MethodName := ⟨RX11, "againstTaking", "(LWireWatch$Sheet;III)I"⟩
abbrev cX11_sheet : ByteArray := prog_1_method_57_code
def yX11_sheet : MethodName := ⟨RX11, "sheet", "(III)I"⟩
abbrev cX11_lose : ByteArray := prog_1_method_58_code
def yX11_lose : MethodName := ⟨RX11, "lose", "(I)I"⟩
abbrev cX11_set : ByteArray := prog_1_method_59_code
def yX11_set : MethodName := ⟨RX11, "set", "(III)I"⟩
abbrev cX11_cell : ByteArray := prog_1_method_60_code
def yX11_cell : MethodName := ⟨RX11, "cell", "(III)J"⟩
abbrev cX11_copy : ByteArray := prog_1_method_61_code
def yX11_copy : MethodName := ⟨RX11, "copy", "(IIIII)I"⟩
abbrev cX11_tell : ByteArray := prog_1_method_62_code
def yX11_tell : MethodName := ⟨RX11, "tell", "(I)I"⟩
abbrev cX11_leave : ByteArray := prog_1_method_63_code
def yX11_leave : MethodName := ⟨RX11, "leave", "(I)V"⟩
abbrev cX11_tellingOfTalk : ByteArray := prog_1_method_64_code
def yX11_tellingOfTalk : MethodName := ⟨RX11, "tellingOfTalk", "(LWireWatch$Talk;)I"⟩
abbrev cX11_tellingOfSealed : ByteArray := prog_1_method_65_code
def yX11_tellingOfSealed : MethodName := ⟨RX11, "tellingOfSealed", "(LWireWatch$Talk;)I"⟩
abbrev cX11_tellingOfCarried : ByteArray := prog_1_method_66_code
def yX11_tellingOfCarried : MethodName := ⟨RX11, "tellingOfCarried", "(LWireWatch$Talk;)I"⟩
abbrev cX11_call : ByteArray := prog_1_method_67_code
def yX11_call : MethodName := ⟨RX11, "call", "(I)I"⟩
abbrev cX11_as : ByteArray := prog_1_method_68_code
def yX11_as : MethodName := ⟨RX11, "as", "(II)I"⟩
abbrev cX11_trace : ByteArray := prog_1_method_69_code
def yX11_trace : MethodName := ⟨RX11, "trace", "()I"⟩
abbrev cX11_fault : ByteArray := prog_1_method_70_code
def yX11_fault : MethodName := ⟨RX11, "fault", "()I"⟩
abbrev cX11_many : ByteArray := prog_1_method_71_code
def yX11_many : MethodName := ⟨RX11, "many", "(I)I"⟩
def RX12 : String := "WireWatchModel"
def TX12 : u_T := fun k => match k with
  | 0 => ("WireWatchModel", "fault", "I", false)
  | 1 => ("WireWatchModel", "roadsOf", "[I", true)
  | 2 => ("WireWatchModel", "postsOf", "[I", true)
  | 3 => ("WireWatchModel", "doorAt", "[I", true)
  | 4 => ("WireWatchModel", "doors", "I", false)
  | 5 => ("WireWatchModel", "doorA", "[I", true)
  | 6 => ("WireWatchModel", "doorB", "[I", true)
  | 7 => ("WireWatchModel", "shutDoors", "I", false)
  | 8 => ("WireWatchModel", "far", "[I", true)
  | 9 => ("WireWatchModel", "talks", "I", false)
  | 10 => ("WireWatchModel", "talkKind", "[I", true)
  | 11 => ("WireWatchModel", "talkFrom", "[I", true)
  | 12 => ("WireWatchModel", "talkTo", "[I", true)
  | 13 => ("WireWatchModel", "firstByte", "[I", true)
  | 14 => ("WireWatchModel", "secondByte", "[I", true)
  | 15 => ("WireWatchModel", "moreOf", "[I", true)
  | 16 => ("WireWatchModel", "unseenOf", "[I", true)
  | 17 => ("WireWatchModel", "latestOf", "[I", true)
  | 18 => ("WireWatchModel", "rowMany", "I", false)
  | 19 => ("WireWatchModel", "rowSize", "[I", true)
  | 20 => ("WireWatchModel", "rowCell", "[I", true)
  | 21 => ("WireWatchModel", "findings", "I", false)
  | 22 => ("WireWatchModel", "findRow", "[I", true)
  | 23 => ("WireWatchModel", "findTalk", "[I", true)
  | 24 => ("WireWatchModel", "findTick", "[I", true)
  | 25 => ("WireWatchModel", "findIs", "[I", true)
  | 26 => ("WireWatchModel", "chainMany", "I", false)
  | 27 => ("WireWatchModel", "chainRow", "[I", true)
  | 28 => ("WireWatchModel", "span", "I", false)
  | 29 => ("WireWatchModel", "used", "J", false)
  | 30 => ("WireWatchModel", "countAt", "[I", true)
  | 31 => ("WireWatchModel", "groupOf", "[I", true)
  | 32 => ("WireWatchModel", "sketch", "[I", true)
  | 33 => ("WireWatchModel", "things", "I", false)
  | 34 => ("WireWatchModel", "thing", "[I", true)
  | 35 => ("WireWatchModel", "truly", "[I", true)
  | 36 => ("WireWatchModel", "stateMany", "I", false)
  | 37 => ("WireWatchModel", "leadsTo", "[I", true)
  | 38 => ("WireWatchModel", "answerOf", "[I", true)
  | 39 => ("WireWatchModel", "barredPairs", "I", false)
  | 40 => ("WireWatchModel", "comes", "[I", true)
  | 41 => ("WireWatchModel", "comesThen", "[I", true)
  | 42 => ("WireWatchModel", "works", "I", false)
  | 43 => ("WireWatchModel", "workA", "[I", true)
  | 44 => ("WireWatchModel", "workB", "[I", true)
  | 45 => ("WireWatchModel", "workWeight", "[I", true)
  | 46 => ("WireWatchModel", "tillOf", "[I", true)
  | 47 => ("WireWatchModel", "looks", "I", false)
  | 48 => ("WireWatchModel", "lookBy", "[I", true)
  | 49 => ("WireWatchModel", "lookMay", "[Z", true)
  | 50 => ("WireWatchModel", "sheetSize", "[I", true)
  | 51 => ("WireWatchModel", "sheetLane", "[I", true)
  | 52 => ("WireWatchModel", "sheet", "[I", true)
  | 53 => ("WireWatchModel", "hands", "[I", true)
  | _ => ("WireWatchModel", "traceNow", "I", false)
def tyX12 : Nat → FieldType := fun k => match k with
  | 0 => .int
  | 1 => .array .int
  | 2 => .array .int
  | 3 => .array .int
  | 4 => .int
  | 5 => .array .int
  | 6 => .array .int
  | 7 => .int
  | 8 => .array .int
  | 9 => .int
  | 10 => .array .int
  | 11 => .array .int
  | 12 => .array .int
  | 13 => .array .int
  | 14 => .array .int
  | 15 => .array .int
  | 16 => .array .int
  | 17 => .array .int
  | 18 => .int
  | 19 => .array .int
  | 20 => .array .int
  | 21 => .int
  | 22 => .array .int
  | 23 => .array .int
  | 24 => .array .int
  | 25 => .array .int
  | 26 => .int
  | 27 => .array .int
  | 28 => .int
  | 29 => .long
  | 30 => .array .int
  | 31 => .array .int
  | 32 => .array .int
  | 33 => .int
  | 34 => .array .int
  | 35 => .array .int
  | 36 => .int
  | 37 => .array .int
  | 38 => .array .int
  | 39 => .int
  | 40 => .array .int
  | 41 => .array .int
  | 42 => .int
  | 43 => .array .int
  | 44 => .array .int
  | 45 => .array .int
  | 46 => .array .int
  | 47 => .int
  | 48 => .array .int
  | 49 => .array .boolean
  | 50 => .array .int
  | 51 => .array .int
  | 52 => .array .int
  | 53 => .array .int
  | _ => .int
abbrev wsX120 : List Cond := u_ws RX12 TX12 55
theorem nmX12 : ∀ a, a < 55 → ∀ b, b < 55 → a ≠ b → (TX12 a).2.1 ≠ (TX12 b).2.1 := by decide +kernel
theorem tyX12_ok : ∀ k, k < 55 → parseFieldDescriptor (TX12 k).2.2.1 = some (tyX12 k) := by decide +kernel
abbrev cX12_init : ByteArray := prog_14_method_1_code
def yX12_init : MethodName := ⟨RX12, "<init>", "()V"⟩
abbrev cX12_in : ByteArray := prog_14_method_2_code
def yX12_in : MethodName := ⟨RX12, "in", "(JJJ)Z"⟩
abbrev cX12_lost : ByteArray := prog_14_method_3_code
def yX12_lost : MethodName := ⟨RX12, "lost", "()J"⟩
abbrev cX12_hasBit : ByteArray := prog_14_method_4_code
def yX12_hasBit : MethodName := ⟨RX12, "hasBit", "(II)Z"⟩
abbrev cX12_bits : ByteArray := prog_14_method_5_code
def yX12_bits : MethodName := ⟨RX12, "bits", "(I)I"⟩
abbrev cX12_lesser : ByteArray := prog_14_method_6_code
def yX12_lesser : MethodName := ⟨RX12, "lesser", "(II)I"⟩
abbrev cX12_common : ByteArray := prog_14_method_7_code
def yX12_common : MethodName := ⟨RX12, "common", "(JJ)J"⟩
abbrev cX12_share : ByteArray := prog_14_method_8_code
def yX12_share : MethodName := ⟨RX12, "share", "(JJI)J"⟩
abbrev cX12_isTick : ByteArray := prog_14_method_9_code
def yX12_isTick : MethodName := ⟨RX12, "isTick", "(I)Z"⟩
abbrev cX12_refused : ByteArray := prog_14_method_10_code
def yX12_refused : MethodName := ⟨RX12, "refused", "(I)I"⟩
abbrev cX12_failed : ByteArray := prog_14_method_11_code
def yX12_failed : MethodName := ⟨RX12, "failed", "(I)I"⟩
abbrev cX12_failedLong : ByteArray := prog_14_method_12_code
def yX12_failedLong : MethodName := ⟨RX12, "failedLong", "(I)J"⟩
abbrev cX12_barred : ByteArray := prog_14_method_13_code
def yX12_barred : MethodName := ⟨RX12, "barred", "(IIIJ)I"⟩
abbrev cX12_areCells : ByteArray := prog_14_method_14_code
def yX12_areCells : MethodName := ⟨RX12, "areCells", "(IIII)Z"⟩
abbrev cX12_noMachine : ByteArray := prog_14_method_15_code
def yX12_noMachine : MethodName := ⟨RX12, "noMachine", "(I)Z"⟩
abbrev cX12_road : ByteArray := prog_14_method_16_code
def yX12_road : MethodName := ⟨RX12, "road", "(IIZ)I"⟩
abbrev cX12_noRoad : ByteArray := prog_14_method_17_code
def yX12_noRoad : MethodName := ⟨RX12, "noRoad", "(II)Z"⟩
abbrev cX12_post : ByteArray := prog_14_method_18_code
def yX12_post : MethodName := ⟨RX12, "post", "(IIZ)I"⟩
abbrev cX12_door : ByteArray := prog_14_method_19_code
def yX12_door : MethodName := ⟨RX12, "door", "(II)I"⟩
abbrev cX12_shut : ByteArray := prog_14_method_20_code
def yX12_shut : MethodName := ⟨RX12, "shut", "(IZ)I"⟩
abbrev cX12_isOpen : ByteArray := prog_14_method_21_code
def yX12_isOpen : MethodName := ⟨RX12, "isOpen", "(IIIZ)Z"⟩
abbrev cX12_layFar : ByteArray := prog_14_method_22_code
def yX12_layFar : MethodName := ⟨RX12, "layFar", "(IIZ)V"⟩
abbrev cX12_nextOn : ByteArray := prog_14_method_23_code
def yX12_nextOn : MethodName := ⟨RX12, "nextOn", "(I)I"⟩
abbrev cX12_way : ByteArray := prog_14_method_24_code
def yX12_way : MethodName := ⟨RX12, "way", "(III)I"⟩
abbrev cX12_blind : ByteArray := prog_14_method_25_code
def yX12_blind : MethodName := ⟨RX12, "blind", "(II)I"⟩
abbrev cX12_noTalk : ByteArray := prog_14_method_26_code
def yX12_noTalk : MethodName := ⟨RX12, "noTalk", "(I)Z"⟩
abbrev cX12_talk : ByteArray := prog_14_method_27_code
def yX12_talk : MethodName := ⟨RX12, "talk", "(III)I"⟩
abbrev cX12_isSeen : ByteArray := prog_14_method_28_code
def yX12_isSeen : MethodName := ⟨RX12, "isSeen", "(I)Z"⟩
abbrev cX12_take : ByteArray := prog_14_method_29_code
def yX12_take : MethodName := ⟨RX12, "take", "(III)V"⟩
abbrev cX12_piece : ByteArray := prog_14_method_30_code
def yX12_piece : MethodName := ⟨RX12, "piece", "(IIIIIII)I"⟩
abbrev cX12_joinedOf : ByteArray := prog_14_method_31_code
def yX12_joinedOf : MethodName := ⟨RX12, "joinedOf", "(I)I"⟩
abbrev cX12_lengthOf : ByteArray := prog_14_method_32_code
def yX12_lengthOf : MethodName := ⟨RX12, "lengthOf", "(I)I"⟩
abbrev cX12_about : ByteArray := prog_14_method_33_code
def yX12_about : MethodName := ⟨RX12, "about", "(II)I"⟩
abbrev cX12_byteAt : ByteArray := prog_14_method_34_code
def yX12_byteAt : MethodName := ⟨RX12, "byteAt", "(III)I"⟩
abbrev cX12_at : ByteArray := prog_14_method_35_code
def yX12_at : MethodName := ⟨RX12, "at", "(III)I"⟩
abbrev cX12_noRow : ByteArray := prog_14_method_36_code
def yX12_noRow : MethodName := ⟨RX12, "noRow", "(I)Z"⟩
abbrev cX12_row : ByteArray := prog_14_method_37_code
def yX12_row : MethodName := ⟨RX12, "row", "(IIII)I"⟩
abbrev cX12_doesFit : ByteArray := prog_14_method_38_code
def yX12_doesFit : MethodName := ⟨RX12, "doesFit", "(IIIII)Z"⟩
abbrev cX12_fitsOf : ByteArray := prog_14_method_39_code
def yX12_fitsOf : MethodName := ⟨RX12, "fitsOf", "(IIII)I"⟩
abbrev cX12_fits : ByteArray := prog_14_method_40_code
def yX12_fits : MethodName := ⟨RX12, "fits", "(IIII)I"⟩
abbrev cX12_isFound : ByteArray := prog_14_method_41_code
def yX12_isFound : MethodName := ⟨RX12, "isFound", "(II)Z"⟩
abbrev cX12_scan : ByteArray := prog_14_method_42_code
def yX12_scan : MethodName := ⟨RX12, "scan", "(I)I"⟩
abbrev cX12_finding : ByteArray := prog_14_method_43_code
def yX12_finding : MethodName := ⟨RX12, "finding", "(II)I"⟩
abbrev cX12_clear : ByteArray := prog_14_method_44_code
def yX12_clear : MethodName := ⟨RX12, "clear", "(II)I"⟩
abbrev cX12_nothing : ByteArray := prog_14_method_45_code
def yX12_nothing : MethodName := ⟨RX12, "nothing", "(II)J"⟩
abbrev cX12_readChain : ByteArray := prog_14_method_46_code
def yX12_readChain : MethodName := ⟨RX12, "readChain", "(II)I"⟩
abbrev cX12_findAfter : ByteArray := prog_14_method_47_code
def yX12_findAfter : MethodName := ⟨RX12, "findAfter", "(III)I"⟩
abbrev cX12_hasFrom : ByteArray := prog_14_method_48_code
def yX12_hasFrom : MethodName := ⟨RX12, "hasFrom", "(II)Z"⟩
abbrev cX12_chain : ByteArray := prog_14_method_49_code
def yX12_chain : MethodName := ⟨RX12, "chain", "(IIII)I"⟩
abbrev cX12_areHours : ByteArray := prog_14_method_50_code
def yX12_areHours : MethodName := ⟨RX12, "areHours", "(I)Z"⟩
abbrev cX12_count : ByteArray := prog_14_method_51_code
def yX12_count : MethodName := ⟨RX12, "count", "(III)I"⟩
abbrev cX12_sumIn : ByteArray := prog_14_method_52_code
def yX12_sumIn : MethodName := ⟨RX12, "sumIn", "(II)I"⟩
abbrev cX12_odds : ByteArray := prog_14_method_53_code
def yX12_odds : MethodName := ⟨RX12, "odds", "(III)J"⟩
abbrev cX12_group : ByteArray := prog_14_method_54_code
def yX12_group : MethodName := ⟨RX12, "group", "(II)I"⟩
abbrev cX12_likes : ByteArray := prog_14_method_55_code
def yX12_likes : MethodName := ⟨RX12, "likes", "(II)I"⟩
abbrev cX12_placeIn : ByteArray := prog_14_method_56_code
def yX12_placeIn : MethodName := ⟨RX12, "placeIn", "(II)I"⟩
abbrev cX12_toldOf : ByteArray := prog_14_method_57_code
def yX12_toldOf : MethodName := ⟨RX12, "toldOf", "(I)I"⟩
abbrev cX12_thingOf : ByteArray := prog_14_method_58_code
def yX12_thingOf : MethodName := ⟨RX12, "thingOf", "(I)I"⟩
abbrev cX12_isThing : ByteArray := prog_14_method_59_code
def yX12_isThing : MethodName := ⟨RX12, "isThing", "(I)Z"⟩
abbrev cX12_put : ByteArray := prog_14_method_60_code
def yX12_put : MethodName := ⟨RX12, "put", "(II)I"⟩
abbrev cX12_told : ByteArray := prog_14_method_61_code
def yX12_told : MethodName := ⟨RX12, "told", "(II)I"⟩
abbrev cX12_miss : ByteArray := prog_14_method_62_code
def yX12_miss : MethodName := ⟨RX12, "miss", "()I"⟩
abbrev cX12_isSign : ByteArray := prog_14_method_63_code
def yX12_isSign : MethodName := ⟨RX12, "isSign", "(I)Z"⟩
abbrev cX12_isBarred : ByteArray := prog_14_method_64_code
def yX12_isBarred : MethodName := ⟨RX12, "isBarred", "(II)Z"⟩
abbrev cX12_bar : ByteArray := prog_14_method_65_code
def yX12_bar : MethodName := ⟨RX12, "bar", "(IIZ)I"⟩
abbrev cX12_noGrowing : ByteArray := prog_14_method_66_code
def yX12_noGrowing : MethodName := ⟨RX12, "noGrowing", "(II)I"⟩
abbrev cX12_grow : ByteArray := prog_14_method_67_code
def yX12_grow : MethodName := ⟨RX12, "grow", "(IIII)I"⟩
abbrev cX12_gone : ByteArray := prog_14_method_68_code
def yX12_gone : MethodName := ⟨RX12, "gone", "(IIII)I"⟩
abbrev cX12_noState : ByteArray := prog_14_method_69_code
def yX12_noState : MethodName := ⟨RX12, "noState", "(I)Z"⟩
abbrev cX12_answer : ByteArray := prog_14_method_70_code
def yX12_answer : MethodName := ⟨RX12, "answer", "(II)I"⟩
abbrev cX12_next : ByteArray := prog_14_method_71_code
def yX12_next : MethodName := ⟨RX12, "next", "(II)I"⟩
abbrev cX12_rows : ByteArray := prog_14_method_72_code
def yX12_rows : MethodName := ⟨RX12, "rows", "(I)I"⟩
abbrev cX12_work : ByteArray := prog_14_method_73_code
def yX12_work : MethodName := ⟨RX12, "work", "(III)I"⟩
abbrev cX12_areDoors : ByteArray := prog_14_method_74_code
def yX12_areDoors : MethodName := ⟨RX12, "areDoors", "(I)Z"⟩
abbrev cX12_stillBy : ByteArray := prog_14_method_75_code
def yX12_stillBy : MethodName := ⟨RX12, "stillBy", "(I)I"⟩
abbrev cX12_harmOf : ByteArray := prog_14_method_76_code
def yX12_harmOf : MethodName := ⟨RX12, "harmOf", "(I)I"⟩
abbrev cX12_still : ByteArray := prog_14_method_77_code
def yX12_still : MethodName := ⟨RX12, "still", "(II)I"⟩
abbrev cX12_areApart : ByteArray := prog_14_method_78_code
def yX12_areApart : MethodName := ⟨RX12, "areApart", "(II)Z"⟩
abbrev cX12_areParted : ByteArray := prog_14_method_79_code
def yX12_areParted : MethodName := ⟨RX12, "areParted", "(III)Z"⟩
abbrev cX12_parted : ByteArray := prog_14_method_80_code
def yX12_parted : MethodName := ⟨RX12, "parted", "(III)I"⟩
abbrev cX12_least : ByteArray := prog_14_method_81_code
def yX12_least : MethodName := ⟨RX12, "least", "(III)I"⟩
abbrev cX12_noKeeper : ByteArray := prog_14_method_82_code
def yX12_noKeeper : MethodName := ⟨RX12, "noKeeper", "(I)Z"⟩
abbrev cX12_may : ByteArray := prog_14_method_83_code
def yX12_may : MethodName := ⟨RX12, "may", "(III)I"⟩
abbrev cX12_look : ByteArray := prog_14_method_84_code
def yX12_look : MethodName := ⟨RX12, "look", "(III)I"⟩
abbrev cX12_looks : ByteArray := prog_14_method_85_code
def yX12_looks : MethodName := ⟨RX12, "looks", "(II)I"⟩
abbrev cX12_noSheet : ByteArray := prog_14_method_86_code
def yX12_noSheet : MethodName := ⟨RX12, "noSheet", "(I)Z"⟩
abbrev cX12_sheet : ByteArray := prog_14_method_87_code
def yX12_sheet : MethodName := ⟨RX12, "sheet", "(III)I"⟩
abbrev cX12_lose : ByteArray := prog_14_method_88_code
def yX12_lose : MethodName := ⟨RX12, "lose", "(I)I"⟩
abbrev cX12_noCell : ByteArray := prog_14_method_89_code
def yX12_noCell : MethodName := ⟨RX12, "noCell", "(II)I"⟩
abbrev cX12_set : ByteArray := prog_14_method_90_code
def yX12_set : MethodName := ⟨RX12, "set", "(III)I"⟩
abbrev cX12_cell : ByteArray := prog_14_method_91_code
def yX12_cell : MethodName := ⟨RX12, "cell", "(III)J"⟩
abbrev cX12_isBeyond : ByteArray := prog_14_method_92_code
def yX12_isBeyond : MethodName := ⟨RX12, "isBeyond", "(IJI)Z"⟩
abbrev cX12_copy : ByteArray := prog_14_method_93_code
def yX12_copy : MethodName := ⟨RX12, "copy", "(IIIII)I"⟩
abbrev cX12_traced : ByteArray := prog_14_method_94_code
def yX12_traced : MethodName := ⟨RX12, "traced", "(I)V"⟩
abbrev cX12_tell : ByteArray := prog_14_method_95_code
def yX12_tell : MethodName := ⟨RX12, "tell", "(I)I"⟩
abbrev cX12_call : ByteArray := prog_14_method_96_code
def yX12_call : MethodName := ⟨RX12, "call", "(I)I"⟩
abbrev cX12_as : ByteArray := prog_14_method_97_code
def yX12_as : MethodName := ⟨RX12, "as", "(II)I"⟩
abbrev cX12_trace : ByteArray := prog_14_method_98_code
def yX12_trace : MethodName := ⟨RX12, "trace", "()I"⟩
abbrev cX12_fault : ByteArray := prog_14_method_99_code
def yX12_fault : MethodName := ⟨RX12, "fault", "()I"⟩
abbrev cX12_many : ByteArray := prog_14_method_100_code
def yX12_many : MethodName := ⟨RX12, "many", "(I)I"⟩
def RJ6 : String := "java/lang/Integer"
abbrev cJ6_bitCount_0f7a4 : ByteArray := prog_15_method_49_code
def yJ6_bitCount_0f7a4 : MethodName := ⟨RJ6, "bitCount", "(I)I"⟩
def RJ9 : String := "java/lang/Math"
abbrev cJ9_max_7cf53 : ByteArray := prog_16_method_65_code
def yJ9_max_7cf53 : MethodName := ⟨RJ9, "max", "(II)I"⟩
abbrev cJ9_min_7cf53 : ByteArray := prog_16_method_69_code
def yJ9_min_7cf53 : MethodName := ⟨RJ9, "min", "(II)I"⟩
def RJ10 : String := "java/lang/System"
def RJ7 : String := "java/util/Arrays"
abbrev cJ7_fill_53178 : ByteArray := prog_18_method_103_code
def yJ7_fill_53178 : MethodName := ⟨RJ7, "fill", "([II)V"⟩
def RL : String := "WireWatchLaw"
abbrev cL_law : ByteArray := code
def yL_law : MethodName := ⟨RL, "law", "([I)Z"⟩
abbrev vwCl : List vw_C := [(RX0, TX0, 3), (RX1, TX1, 6), (RX2, TX2, 2), (RX3, TX3, 4), (RX4, TX4, 11), (RX5, TX5, 2), (RX6, TX6, 4), (RX7, TX7, 4), (RX8, TX8, 10), (RX9, TX9, 6), (RX10, TX10, 4), (RX11, TX11, 15), (RX12, TX12, 55)]
def RN : Nat → String
  | 0 => RX0
  | 1 => RX1
  | 2 => RX2
  | 3 => RX3
  | 4 => RX4
  | 5 => RX5
  | 6 => RX6
  | 7 => RX7
  | 8 => RX8
  | 9 => RX9
  | 10 => RX10
  | 11 => RX11
  | 12 => RX12
  | 13 => RL
  | 14 => RJ6
  | 15 => RJ7
  | 16 => RJ9
  | _ => ""
def TN : Nat → u_T
  | 0 => TX0
  | 1 => TX1
  | 2 => TX2
  | 3 => TX3
  | 4 => TX4
  | 5 => TX5
  | 6 => TX6
  | 7 => TX7
  | 8 => TX8
  | 9 => TX9
  | 10 => TX10
  | 11 => TX11
  | _ => TX12
def tyN : Nat → (Nat → FieldType)
  | 0 => tyX0
  | 1 => tyX1
  | 2 => tyX2
  | 3 => tyX3
  | 4 => tyX4
  | 5 => tyX5
  | 6 => tyX6
  | 7 => tyX7
  | 8 => tyX8
  | 9 => tyX9
  | 10 => tyX10
  | 11 => tyX11
  | _ => tyX12
def nN : Nat → Nat
  | 0 => 3
  | 1 => 6
  | 2 => 2
  | 3 => 4
  | 4 => 11
  | 5 => 2
  | 6 => 4
  | 7 => 4
  | 8 => 10
  | 9 => 6
  | 10 => 4
  | 11 => 15
  | _ => 55
theorem vwCl_at : ∀ ci, ci < 13 → vwCl[ci]? = some (RN ci, TN ci, nN ci)
  | 0, _ => rfl
  | 1, _ => rfl
  | 2, _ => rfl
  | 3, _ => rfl
  | 4, _ => rfl
  | 5, _ => rfl
  | 6, _ => rfl
  | 7, _ => rfl
  | 8, _ => rfl
  | 9, _ => rfl
  | 10, _ => rfl
  | 11, _ => rfl
  | 12, _ => rfl
  | n + 13, h => absurd h (by omega)
theorem tyN_ok : ∀ ci, ci < 13 → ∀ k, k < nN ci → parseFieldDescriptor (TN ci k).2.2.1 = some (tyN ci k)
  | 0, _ => tyX0_ok
  | 1, _ => tyX1_ok
  | 2, _ => tyX2_ok
  | 3, _ => tyX3_ok
  | 4, _ => tyX4_ok
  | 5, _ => tyX5_ok
  | 6, _ => tyX6_ok
  | 7, _ => tyX7_ok
  | 8, _ => tyX8_ok
  | 9, _ => tyX9_ok
  | 10, _ => tyX10_ok
  | 11, _ => tyX11_ok
  | 12, _ => tyX12_ok
  | n + 13, h => absurd h (by omega)
theorem nmN_ok : ∀ ci, ci < 13 → ∀ a, a < nN ci → ∀ b, b < nN ci → a ≠ b → (TN ci a).2.1 ≠ (TN ci b).2.1
  | 0, _ => nmX0
  | 1, _ => nmX1
  | 2, _ => nmX2
  | 3, _ => nmX3
  | 4, _ => nmX4
  | 5, _ => nmX5
  | 6, _ => nmX6
  | 7, _ => nmX7
  | 8, _ => nmX8
  | 9, _ => nmX9
  | 10, _ => nmX10
  | 11, _ => nmX11
  | 12, _ => nmX12
  | n + 13, h => absurd h (by omega)
/-- the tables' words that stay true as a method runs -/
def tgw : List Cond := lw_tbl.filter goodWord
theorem tgw_at {i : Nat} {w : Cond} (h : lw_tbl[i]? = some w) (g : goodWord w = true) : w ∈ tgw := List.mem_filter.mpr ⟨List.mem_of_getElem? h, g⟩
theorem tgw_good : GoodIn tgw tgw := fun w h => ⟨h, good_of_word (List.mem_filter.mp h).2⟩
theorem lays_of {C : String} {T : u_T} {N : Nat} (ps : List Nat) (h : (List.range N).map (fun k => some (u_lay C T k)) = ps.map (fun i => lw_tbl[i]?)) (hg : (u_ws C T N).all goodWord = true) : ∀ w ∈ u_ws C T N, w ∈ tgw := by
  intro w hw
  have hg' := List.all_eq_true.mp hg w hw
  obtain ⟨k, hk, rfl⟩ := List.mem_map.mp hw
  have h1 : some (u_lay C T k) ∈ (List.range N).map (fun k => some (u_lay C T k)) := List.mem_map.mpr ⟨k, hk, rfl⟩
  rw [h] at h1
  obtain ⟨i, -, hi⟩ := List.mem_map.mp h1
  exact tgw_at hi hg'
theorem inT0 : ∀ w ∈ u_ws RX0 TX0 3, w ∈ tgw := lays_of [197, 199, 201] (by decide +kernel) (by decide +kernel)
theorem inT1 : ∀ w ∈ u_ws RX1 TX1 6, w ∈ tgw := lays_of [172, 174, 176, 178, 180, 182] (by decide +kernel) (by decide +kernel)
theorem inT2 : ∀ w ∈ u_ws RX2 TX2 2, w ∈ tgw := lays_of [213, 215] (by decide +kernel) (by decide +kernel)
theorem inT3 : ∀ w ∈ u_ws RX3 TX3 4, w ∈ tgw := lays_of [280, 282, 284, 286] (by decide +kernel) (by decide +kernel)
theorem inT4 : ∀ w ∈ u_ws RX4 TX4 11, w ∈ tgw := lays_of [107, 109, 111, 113, 115, 117, 119, 121, 123, 125, 127] (by decide +kernel) (by decide +kernel)
theorem inT5 : ∀ w ∈ u_ws RX5 TX5 2, w ∈ tgw := lays_of [612, 614] (by decide +kernel) (by decide +kernel)
theorem inT6 : ∀ w ∈ u_ws RX6 TX6 4, w ∈ tgw := lays_of [307, 309, 311, 313] (by decide +kernel) (by decide +kernel)
theorem inT7 : ∀ w ∈ u_ws RX7 TX7 4, w ∈ tgw := lays_of [228, 230, 232, 234] (by decide +kernel) (by decide +kernel)
theorem inT8 : ∀ w ∈ u_ws RX8 TX8 10, w ∈ tgw := lays_of [494, 496, 498, 500, 502, 504, 506, 508, 510, 512] (by decide +kernel) (by decide +kernel)
theorem inT9 : ∀ w ∈ u_ws RX9 TX9 6, w ∈ tgw := lays_of [251, 253, 255, 257, 259, 261] (by decide +kernel) (by decide +kernel)
theorem inT10 : ∀ w ∈ u_ws RX10 TX10 4, w ∈ tgw := lays_of [142, 144, 146, 148] (by decide +kernel) (by decide +kernel)
theorem inT11 : ∀ w ∈ u_ws RX11 TX11 15, w ∈ tgw := lays_of [331, 333, 335, 337, 339, 341, 343, 345, 347, 349, 351, 353, 355, 357, 359] (by decide +kernel) (by decide +kernel)
theorem inT12 : ∀ w ∈ u_ws RX12 TX12 55, w ∈ tgw := lays_of [1062, 1064, 1066, 1068, 1070, 1072, 1074, 1076, 1078, 1080, 1082, 1084, 1086, 1088, 1090, 1092, 1094, 1096, 1098, 1100, 1102, 1104, 1106, 1108, 1110, 1112, 1114, 1116, 1118, 1120, 1122, 1124, 1126, 1128, 1130, 1132, 1134, 1136, 1138, 1140, 1142, 1144, 1146, 1148, 1150, 1152, 1154, 1156, 1158, 1160, 1162, 1164, 1166, 1168, 1170] (by decide +kernel) (by decide +kernel)
theorem inT : ∀ ci, ci < 13 → ∀ w ∈ u_ws (RN ci) (TN ci) (nN ci), w ∈ tgw
  | 0, _ => inT0
  | 1, _ => inT1
  | 2, _ => inT2
  | 3, _ => inT3
  | 4, _ => inT4
  | 5, _ => inT5
  | 6, _ => inT6
  | 7, _ => inT7
  | 8, _ => inT8
  | 9, _ => inT9
  | 10, _ => inT10
  | 11, _ => inT11
  | 12, _ => inT12
  | n + 13, h => absurd h (by omega)
/-- which field a pool entry names: own class, entry; class, place, is it an int, is it final; the word's place -/
def fresL : List (Nat × Nat × Nat × Nat × Nat × Bool × Nat) := [(4, 9, 4, 0, 0, true, 91), (4, 15, 4, 1, 0, true, 92), (4, 18, 4, 2, 0, true, 93), (4, 21, 4, 3, 0, true, 94), (4, 24, 4, 4, 0, true, 95), (4, 27, 4, 5, 0, true, 96), (4, 30, 4, 6, 0, true, 97), (11, 150, 4, 6, 0, true, 98), (4, 62, 4, 7, 1, false, 99), (11, 147, 4, 7, 1, false, 100), (4, 33, 4, 8, 1, false, 101), (11, 442, 4, 8, 1, false, 102), (4, 44, 4, 9, 1, false, 103), (11, 94, 4, 9, 1, false, 104), (4, 41, 4, 10, 1, false, 105), (11, 365, 4, 10, 1, false, 106), (10, 9, 10, 0, 0, true, 137), (10, 15, 10, 1, 0, true, 138), (10, 18, 10, 2, 0, true, 139), (10, 21, 10, 3, 1, false, 140), (11, 445, 10, 3, 1, false, 141), (1, 9, 1, 0, 0, true, 161), (11, 259, 1, 0, 0, true, 162), (1, 15, 1, 1, 0, true, 163), (11, 262, 1, 1, 0, true, 164), (1, 18, 1, 2, 0, true, 165), (1, 21, 1, 3, 0, true, 166), (11, 265, 1, 3, 0, true, 167), (1, 24, 1, 4, 0, true, 168), (11, 268, 1, 4, 0, true, 169), (1, 27, 1, 5, 1, false, 170), (11, 245, 1, 5, 1, false, 171), (0, 11, 0, 0, 0, true, 191), (1, 39, 0, 0, 0, true, 192), (0, 15, 0, 1, 1, false, 193), (1, 48, 0, 1, 1, false, 194), (0, 19, 0, 2, 1, false, 195), (1, 55, 0, 2, 1, false, 196), (2, 9, 2, 0, 0, true, 210), (2, 15, 2, 1, 0, true, 211), (11, 298, 2, 1, 0, true, 212), (7, 11, 7, 0, 0, true, 224), (7, 15, 7, 1, 0, true, 225), (7, 18, 7, 2, 0, true, 226), (7, 31, 7, 3, 1, false, 227), (9, 9, 9, 0, 0, true, 243), (9, 15, 9, 1, 0, true, 244), (9, 18, 9, 2, 0, true, 245), (11, 338, 9, 2, 0, true, 246), (9, 21, 9, 3, 0, true, 247), (9, 24, 9, 4, 1, false, 248), (11, 335, 9, 4, 1, false, 249), (9, 28, 9, 5, 1, false, 250), (3, 9, 3, 0, 0, true, 273), (3, 15, 3, 1, 0, true, 274), (11, 379, 3, 1, 0, true, 275), (3, 18, 3, 2, 0, true, 276), (11, 382, 3, 2, 0, true, 277), (3, 27, 3, 3, 1, false, 278), (11, 447, 3, 3, 1, false, 279), (6, 9, 6, 0, 0, true, 296), (5, 19, 6, 0, 0, true, 297), (0, 22, 6, 0, 0, true, 298), (8, 40, 6, 0, 0, true, 299), (9, 35, 6, 0, 0, true, 300), (11, 404, 6, 0, 0, true, 301), (6, 15, 6, 1, 1, false, 302), (11, 394, 6, 1, 1, false, 303), (6, 19, 6, 2, 1, false, 304), (11, 414, 6, 2, 1, false, 305), (6, 23, 6, 3, 1, false, 306), (11, 14, 11, 0, 0, true, 316), (11, 21, 11, 1, 0, true, 317), (11, 27, 11, 2, 0, true, 318), (11, 33, 11, 3, 0, true, 319), (11, 40, 11, 4, 0, true, 320), (11, 47, 11, 5, 0, true, 321), (11, 54, 11, 6, 0, true, 322), (11, 61, 11, 7, 0, true, 323), (11, 68, 11, 8, 0, true, 324), (11, 75, 11, 9, 0, true, 325), (11, 81, 11, 10, 0, true, 326), (11, 98, 11, 11, 1, false, 327), (11, 101, 11, 12, 1, false, 328), (11, 433, 11, 13, 1, false, 329), (11, 167, 11, 14, 1, false, 330), (8, 22, 8, 0, 1, true, 476), (1, 31, 8, 0, 1, true, 477), (11, 439, 8, 0, 1, true, 478), (8, 25, 8, 1, 1, true, 479), (11, 206, 8, 1, 1, true, 480), (8, 28, 8, 2, 1, true, 481), (1, 36, 8, 2, 1, true, 482), (11, 189, 8, 2, 1, true, 483), (8, 31, 8, 3, 1, true, 484), (11, 192, 8, 3, 1, true, 485), (8, 9, 8, 4, 0, true, 486), (8, 15, 8, 5, 0, true, 487), (8, 49, 8, 6, 1, false, 488), (8, 58, 8, 7, 1, false, 489), (11, 219, 8, 7, 1, false, 490), (11, 199, 8, 8, 1, false, 491), (8, 18, 8, 9, 1, false, 492), (11, 222, 8, 9, 1, false, 493), (5, 9, 5, 0, 0, true, 610), (5, 15, 5, 1, 1, true, 611), (12, 147, 12, 0, 1, false, 1007), (12, 7, 12, 1, 0, true, 1008), (12, 13, 12, 2, 0, true, 1009), (12, 16, 12, 3, 0, true, 1010), (12, 183, 12, 4, 1, false, 1011), (12, 19, 12, 5, 0, true, 1012), (12, 22, 12, 6, 0, true, 1013), (12, 177, 12, 7, 1, false, 1014), (12, 25, 12, 8, 0, true, 1015), (12, 199, 12, 9, 1, false, 1016), (12, 28, 12, 10, 0, true, 1017), (12, 31, 12, 11, 0, true, 1018), (12, 34, 12, 12, 0, true, 1019), (12, 37, 12, 13, 0, true, 1020), (12, 40, 12, 14, 0, true, 1021), (12, 43, 12, 15, 0, true, 1022), (12, 46, 12, 16, 0, true, 1023), (12, 49, 12, 17, 0, true, 1024), (12, 242, 12, 18, 1, false, 1025), (12, 52, 12, 19, 0, true, 1026), (12, 55, 12, 20, 0, true, 1027), (12, 258, 12, 21, 1, false, 1028), (12, 58, 12, 22, 0, true, 1029), (12, 61, 12, 23, 0, true, 1030), (12, 64, 12, 24, 0, true, 1031), (12, 67, 12, 25, 0, true, 1032), (12, 268, 12, 26, 1, false, 1033), (12, 70, 12, 27, 0, true, 1034), (12, 271, 12, 28, 1, false, 1035), (12, 278, 12, 29, 2, false, 1036), (12, 73, 12, 30, 0, true, 1037), (12, 76, 12, 31, 0, true, 1038), (12, 79, 12, 32, 0, true, 1039), (12, 313, 12, 33, 1, false, 1040), (12, 82, 12, 34, 0, true, 1041), (12, 85, 12, 35, 0, true, 1042), (12, 131, 12, 36, 1, false, 1043), (12, 88, 12, 37, 0, true, 1044), (12, 91, 12, 38, 0, true, 1045), (12, 329, 12, 39, 1, false, 1046), (12, 94, 12, 40, 0, true, 1047), (12, 97, 12, 41, 0, true, 1048), (12, 346, 12, 42, 1, false, 1049), (12, 100, 12, 43, 0, true, 1050), (12, 103, 12, 44, 0, true, 1051), (12, 106, 12, 45, 0, true, 1052), (12, 109, 12, 46, 0, true, 1053), (12, 370, 12, 47, 1, false, 1054), (12, 112, 12, 48, 0, true, 1055), (12, 115, 12, 49, 0, true, 1056), (12, 119, 12, 50, 0, true, 1057), (12, 122, 12, 51, 0, true, 1058), (12, 125, 12, 52, 0, true, 1059), (12, 128, 12, 53, 0, true, 1060), (12, 380, 12, 54, 1, false, 1061)]
def fres (o idx : Nat) : Option (Nat × Nat × Nat × Bool) := (fresL.find? (fun q => q.1 == o && q.2.1 == idx)).map (fun q => (q.2.2.1, q.2.2.2.1, q.2.2.2.2.1, q.2.2.2.2.2.1))
def kdT : FieldType → Nat
  | .int => 1
  | .boolean => 1
  | .long => 2
  | _ => 0
def okF (q : Nat × Nat × Nat × Nat × Nat × Bool × Nat) : Bool := match q with
  | (o, idx, ci, k, i, f, ps) => decide (lw_tbl[ps]? = some (Cond.fieldLink (RN o) idx (TN ci k).1 (TN ci k).2.1 (TN ci k).2.2.1)) && decide (ci < 13) && decide (k < nN ci) && (kdT (tyN ci k) == i) && ((TN ci k).2.2.2 == f) && decide ((TN ci k).1 = RN ci)
theorem fresL_ok : fresL.all okF = true := by decide +kernel
theorem fres_ok {o idx ci k i : Nat} {f : Bool} (h : fres o idx = some (ci, k, i, f)) : Cond.fieldLink (RN o) idx (TN ci k).1 (TN ci k).2.1 (TN ci k).2.2.1 ∈ tgw ∧ ci < 13 ∧ k < nN ci ∧ kdT (tyN ci k) = i ∧ (TN ci k).2.2.2 = f ∧ (TN ci k).1 = RN ci := by
  unfold fres at h
  cases hq : fresL.find? (fun q => q.1 == o && q.2.1 == idx) with
  | none => rw [hq] at h; cases h
  | some q =>
    rw [hq] at h
    obtain ⟨o', idx', ci', k', i', f', ps⟩ := q
    have h1 := List.find?_some hq
    have h2 := List.all_eq_true.mp fresL_ok _ (List.mem_of_find?_eq_some hq)
    simp only [Bool.and_eq_true, beq_iff_eq] at h1
    obtain ⟨rfl, rfl⟩ := h1
    cases h
    simp only [okF, Bool.and_eq_true, decide_eq_true_eq, beq_iff_eq] at h2
    obtain ⟨⟨⟨⟨⟨h3, h4⟩, h5⟩, h6⟩, h7⟩, h8⟩ := h2
    exact ⟨tgw_at h3 rfl, h4, h5, h6, h7, h8⟩
/-- the methods: name, code, locals, what is returned; the places of the words code, static or instance, selects, initialised; static; parameters; class -/
def mtab : List (MethodName × ByteArray × Nat × Option FieldType) := [(yX0_init, cX0_init, 1, none),
  (yX0_read, cX0_read, 8, (some .int)),
  (yX0_readSpan, cX0_readSpan, 7, (some .int)),
  (yX1_init, cX1_init, 1, none),
  (yX1_isThere, cX1_isThere, 4, (some .boolean)),
  (yX1_keep, cX1_keep, 4, none),
  (yX1_countOf, cX1_countOf, 5, (some .int)),
  (yX1_machinesWith, cX1_machinesWith, 4, (some .int)),
  (yX1_isChainFrom, cX1_isChainFrom, 8, (some .boolean)),
  (yX1_earliest, cX1_earliest, 10, (some .int)),
  (yX2_init, cX2_init, 1, none),
  (yX2_change, cX2_change, 5, (some .int)),
  (yX2_sumOf, cX2_sumOf, 5, (some .int)),
  (yX2_setsAsLarge, cX2_setsAsLarge, 3, (some .int)),
  (yX2_setsAsGreat, cX2_setsAsGreat, 3, (some .int)),
  (yX2_setsWith, cX2_setsWith, 7, (some .int)),
  (yX2_likesOf, cX2_likesOf, 6, (some .int)),
  (yX3_init, cX3_init, 1, none),
  (yX3_allow, cX3_allow, 5, (some .int)),
  (yX3_keepLook, cX3_keepLook, 4, (some .int)),
  (yX4_init, cX4_init, 1, none),
  (yX4_hasRoad, cX4_hasRoad, 3, (some .boolean)),
  (yX4_hasPost, cX4_hasPost, 3, (some .boolean)),
  (yX4_layRoad, cX4_layRoad, 3, none),
  (yX4_takeRoad, cX4_takeRoad, 4, none),
  (yX4_turnPost, cX4_turnPost, 3, none),
  (yX4_doorBetween, cX4_doorBetween, 4, (some .int)),
  (yX4_doorOn, cX4_doorOn, 4, (some .int)),
  (yX4_doorStands, cX4_doorStands, 2, (some .boolean)),
  (yX4_isShut, cX4_isShut, 2, (some .boolean)),
  (yX4_turnDoor, cX4_turnDoor, 2, none),
  (yX4_openRoads, cX4_openRoads, 4, none),
  (yX4_leavePosts, cX4_leavePosts, 2, none),
  (yX4_reach, cX4_reach, 7, (some .int)),
  (yX4_parts, cX4_parts, 3, (some .boolean)),
  (yX4_findWay, cX4_findWay, 4, (some .boolean)),
  (yX4_measureFrom, cX4_measureFrom, 4, none),
  (yX4_measureAround, cX4_measureAround, 4, none),
  (yX4_firstNearer, cX4_firstNearer, 3, (some .int)),
  (yX4_wayHasPost, cX4_wayHasPost, 2, (some .boolean)),
  (yX5_init, cX5_init, 4, none),
  (yX5_isAt, cX5_isAt, 5, (some .boolean)),
  (yX5_placesIn, cX5_placesIn, 6, (some .int)),
  (yX5_firstIn, cX5_firstIn, 5, (some .int)),
  (yX6_init, cX6_init, 1, none),
  (yX6_begin, cX6_begin, 3, none),
  (yX6_isOfOther, cX6_isOfOther, 2, (some .boolean)),
  (yX6_spans, cX6_spans, 3, (some .boolean)),
  (yX6_areAllIn, cX6_areAllIn, 6, (some .boolean)),
  (yX6_cut, cX6_cut, 2, (some .int)),
  (yX7_init, cX7_init, 1, none),
  (yX7_isThing, cX7_isThing, 1, (some .boolean)),
  (yX7_spotOf, cX7_spotOf, 2, (some .int)),
  (yX7_indexOf, cX7_indexOf, 3, (some .int)),
  (yX7_take, cX7_take, 5, (some .boolean)),
  (yX7_toldOf, cX7_toldOf, 4, (some .int)),
  (yX7_trulyOf, cX7_trulyOf, 3, (some .int)),
  (yX7_missed, cX7_missed, 3, (some .int)),
  (yX8_init, cX8_init, 5, none),
  (yX8_isSealed, cX8_isSealed, 1, (some .boolean)),
  (yX8_see, cX8_see, 7, none),
  (yX8_seeByte, cX8_seeByte, 3, none),
  (yX8_byteAt, cX8_byteAt, 3, (some .int)),
  (yX8_joined, cX8_joined, 2, (some .int)),
  (yX8_length, cX8_length, 1, (some .int)),
  (yX8_twofold, cX8_twofold, 3, (some .int)),
  (yX9_init, cX9_init, 1, none),
  (yX9_isBarred, cX9_isBarred, 3, (some .boolean)),
  (yX9_turnBar, cX9_turnBar, 3, none),
  (yX9_leadsTo, cX9_leadsTo, 3, (some .int)),
  (yX9_growBy, cX9_growBy, 7, (some .int)),
  (yX9_hasBarred, cX9_hasBarred, 5, (some .boolean)),
  (yX9_newState, cX9_newState, 3, (some .int)),
  (yX9_canGo, cX9_canGo, 3, (some .boolean)),
  (yX9_goneAlong, cX9_goneAlong, 7, (some .int)),
  (yX9_rowsOf, cX9_rowsOf, 5, (some .int)),
  (yX10_init, cX10_init, 1, none),
  (yX10_keep, cX10_keep, 4, (some .int)),
  (yX10_stoppedIn, cX10_stoppedIn, 4, (some .int)),
  (yX10_weightOf, cX10_weightOf, 4, (some .int)),
  (yX11_init, cX11_init, 2, none),
  (yX11_isIn, cX11_isIn, 3, (some .boolean)),
  (yX11_isMachine, cX11_isMachine, 1, (some .boolean)),
  (yX11_areMachines, cX11_areMachines, 2, (some .boolean)),
  (yX11_isTick, cX11_isTick, 1, (some .boolean)),
  (yX11_isLane, cX11_isLane, 1, (some .boolean)),
  (yX11_isHourSet, cX11_isHourSet, 1, (some .boolean)),
  (yX11_areApart, cX11_areApart, 2, (some .boolean)),
  (yX11_areDoors, cX11_areDoors, 2, (some .boolean)),
  (yX11_talkAt, cX11_talkAt, 2, (some (.object "WireWatch$Talk"))),
  (yX11_rowAt, cX11_rowAt, 2, (some (.object "WireWatch$Row"))),
  (yX11_sheetAt, cX11_sheetAt, 2, (some (.object "WireWatch$Sheet"))),
  (yX11_greatestShared, cX11_greatestShared, 11, (some .long)),
  (yX11_share, cX11_share, 7, (some .long)),
  (yX11_road, cX11_road, 4, (some .int)),
  (yX11_post, cX11_post, 4, (some .int)),
  (yX11_door, cX11_door, 3, (some .int)),
  (yX11_shut, cX11_shut, 3, (some .int)),
  (yX11_way, cX11_way, 4, (some .int)),
  (yX11_blind, cX11_blind, 3, (some .int)),
  (yX11_talk, cX11_talk, 4, (some .int)),
  (yX11_piece, cX11_piece, 11, (some .int)),
  (yX11_about, cX11_about, 4, (some .int)),
  (yX11_at, cX11_at, 5, (some .int)),
  (yX11_row, cX11_row, 7, (some .int)),
  (yX11_fits, cX11_fits, 7, (some .int)),
  (yX11_scan, cX11_scan, 5, (some .int)),
  (yX11_scanOne, cX11_scanOne, 6, none),
  (yX11_finding, cX11_finding, 3, (some .int)),
  (yX11_clear, cX11_clear, 4, (some .int)),
  (yX11_nothing, cX11_nothing, 5, (some .long)),
  (yX11_chain, cX11_chain, 8, (some .int)),
  (yX11_count, cX11_count, 4, (some .int)),
  (yX11_odds, cX11_odds, 4, (some .long)),
  (yX11_group, cX11_group, 4, (some .int)),
  (yX11_likes, cX11_likes, 3, (some .int)),
  (yX11_put, cX11_put, 3, (some .int)),
  (yX11_told, cX11_told, 3, (some .int)),
  (yX11_miss, cX11_miss, 1, (some .int)),
  (yX11_isSign, cX11_isSign, 1, (some .boolean)),
  (yX11_bar, cX11_bar, 4, (some .int)),
  (yX11_grow, cX11_grow, 7, (some .int)),
  (yX11_gone, cX11_gone, 7, (some .int)),
  (yX11_answer, cX11_answer, 4, (some .int)),
  (yX11_next, cX11_next, 4, (some .int)),
  (yX11_rows, cX11_rows, 2, (some .int)),
  (yX11_work, cX11_work, 4, (some .int)),
  (yX11_still, cX11_still, 4, (some .int)),
  (yX11_parted, cX11_parted, 4, (some .int)),
  (yX11_least, cX11_least, 8, (some .int)),
  (yX11_may, cX11_may, 4, (some .int)),
  (yX11_look, cX11_look, 5, (some .int)),
  (yX11_looks, cX11_looks, 3, (some .int)),
  (yX11_faulted, cX11_faulted, 2, (some .int)),
  (yX11_lostBy, cX11_lostBy, 2, (some .long)),
  (yX11_againstTaking, cX11_againstTaking, 5, (some .int)),
  (yX11_sheet, cX11_sheet, 5, (some .int)),
  (yX11_lose, cX11_lose, 3, (some .int)),
  (yX11_set, cX11_set, 5, (some .int)),
  (yX11_cell, cX11_cell, 5, (some .long)),
  (yX11_copy, cX11_copy, 8, (some .int)),
  (yX11_tell, cX11_tell, 3, (some .int)),
  (yX11_leave, cX11_leave, 2, none),
  (yX11_tellingOfTalk, cX11_tellingOfTalk, 2, (some .int)),
  (yX11_tellingOfSealed, cX11_tellingOfSealed, 2, (some .int)),
  (yX11_tellingOfCarried, cX11_tellingOfCarried, 3, (some .int)),
  (yX11_call, cX11_call, 3, (some .int)),
  (yX11_as, cX11_as, 4, (some .int)),
  (yX11_trace, cX11_trace, 1, (some .int)),
  (yX11_fault, cX11_fault, 1, (some .int)),
  (yX11_many, cX11_many, 2, (some .int)),
  (yX12_init, cX12_init, 2, none),
  (yX12_in, cX12_in, 6, (some .boolean)),
  (yX12_lost, cX12_lost, 0, (some .long)),
  (yX12_hasBit, cX12_hasBit, 2, (some .boolean)),
  (yX12_bits, cX12_bits, 3, (some .int)),
  (yX12_lesser, cX12_lesser, 2, (some .int)),
  (yX12_common, cX12_common, 10, (some .long)),
  (yX12_share, cX12_share, 5, (some .long)),
  (yX12_isTick, cX12_isTick, 1, (some .boolean)),
  (yX12_refused, cX12_refused, 2, (some .int)),
  (yX12_failed, cX12_failed, 2, (some .int)),
  (yX12_failedLong, cX12_failedLong, 2, (some .long)),
  (yX12_barred, cX12_barred, 6, (some .int)),
  (yX12_areCells, cX12_areCells, 7, (some .boolean)),
  (yX12_noMachine, cX12_noMachine, 1, (some .boolean)),
  (yX12_road, cX12_road, 4, (some .int)),
  (yX12_noRoad, cX12_noRoad, 3, (some .boolean)),
  (yX12_post, cX12_post, 4, (some .int)),
  (yX12_door, cX12_door, 3, (some .int)),
  (yX12_shut, cX12_shut, 3, (some .int)),
  (yX12_isOpen, cX12_isOpen, 6, (some .boolean)),
  (yX12_layFar, cX12_layFar, 7, none),
  (yX12_nextOn, cX12_nextOn, 3, (some .int)),
  (yX12_way, cX12_way, 7, (some .int)),
  (yX12_blind, cX12_blind, 3, (some .int)),
  (yX12_noTalk, cX12_noTalk, 2, (some .boolean)),
  (yX12_talk, cX12_talk, 4, (some .int)),
  (yX12_isSeen, cX12_isSeen, 5, (some .boolean)),
  (yX12_take, cX12_take, 5, none),
  (yX12_piece, cX12_piece, 10, (some .int)),
  (yX12_joinedOf, cX12_joinedOf, 3, (some .int)),
  (yX12_lengthOf, cX12_lengthOf, 4, (some .int)),
  (yX12_about, cX12_about, 5, (some .int)),
  (yX12_byteAt, cX12_byteAt, 5, (some .int)),
  (yX12_at, cX12_at, 4, (some .int)),
  (yX12_noRow, cX12_noRow, 2, (some .boolean)),
  (yX12_row, cX12_row, 7, (some .int)),
  (yX12_doesFit, cX12_doesFit, 9, (some .boolean)),
  (yX12_fitsOf, cX12_fitsOf, 9, (some .int)),
  (yX12_fits, cX12_fits, 5, (some .int)),
  (yX12_isFound, cX12_isFound, 5, (some .boolean)),
  (yX12_scan, cX12_scan, 6, (some .int)),
  (yX12_finding, cX12_finding, 3, (some .int)),
  (yX12_clear, cX12_clear, 4, (some .int)),
  (yX12_nothing, cX12_nothing, 6, (some .long)),
  (yX12_readChain, cX12_readChain, 7, (some .int)),
  (yX12_findAfter, cX12_findAfter, 7, (some .int)),
  (yX12_hasFrom, cX12_hasFrom, 6, (some .boolean)),
  (yX12_chain, cX12_chain, 10, (some .int)),
  (yX12_areHours, cX12_areHours, 1, (some .boolean)),
  (yX12_count, cX12_count, 5, (some .int)),
  (yX12_sumIn, cX12_sumIn, 5, (some .int)),
  (yX12_odds, cX12_odds, 9, (some .long)),
  (yX12_group, cX12_group, 4, (some .int)),
  (yX12_likes, cX12_likes, 5, (some .int)),
  (yX12_placeIn, cX12_placeIn, 4, (some .int)),
  (yX12_toldOf, cX12_toldOf, 2, (some .int)),
  (yX12_thingOf, cX12_thingOf, 3, (some .int)),
  (yX12_isThing, cX12_isThing, 1, (some .boolean)),
  (yX12_put, cX12_put, 5, (some .int)),
  (yX12_told, cX12_told, 4, (some .int)),
  (yX12_miss, cX12_miss, 3, (some .int)),
  (yX12_isSign, cX12_isSign, 1, (some .boolean)),
  (yX12_isBarred, cX12_isBarred, 3, (some .boolean)),
  (yX12_bar, cX12_bar, 4, (some .int)),
  (yX12_noGrowing, cX12_noGrowing, 6, (some .int)),
  (yX12_grow, cX12_grow, 11, (some .int)),
  (yX12_gone, cX12_gone, 10, (some .int)),
  (yX12_noState, cX12_noState, 2, (some .boolean)),
  (yX12_answer, cX12_answer, 4, (some .int)),
  (yX12_next, cX12_next, 3, (some .int)),
  (yX12_rows, cX12_rows, 7, (some .int)),
  (yX12_work, cX12_work, 4, (some .int)),
  (yX12_areDoors, cX12_areDoors, 2, (some .boolean)),
  (yX12_stillBy, cX12_stillBy, 4, (some .int)),
  (yX12_harmOf, cX12_harmOf, 4, (some .int)),
  (yX12_still, cX12_still, 4, (some .int)),
  (yX12_areApart, cX12_areApart, 2, (some .boolean)),
  (yX12_areParted, cX12_areParted, 7, (some .boolean)),
  (yX12_parted, cX12_parted, 4, (some .int)),
  (yX12_least, cX12_least, 8, (some .int)),
  (yX12_noKeeper, cX12_noKeeper, 1, (some .boolean)),
  (yX12_may, cX12_may, 5, (some .int)),
  (yX12_look, cX12_look, 4, (some .int)),
  (yX12_looks, cX12_looks, 5, (some .int)),
  (yX12_noSheet, cX12_noSheet, 1, (some .boolean)),
  (yX12_sheet, cX12_sheet, 5, (some .int)),
  (yX12_lose, cX12_lose, 3, (some .int)),
  (yX12_noCell, cX12_noCell, 3, (some .int)),
  (yX12_set, cX12_set, 4, (some .int)),
  (yX12_cell, cX12_cell, 4, (some .long)),
  (yX12_isBeyond, cX12_isBeyond, 4, (some .boolean)),
  (yX12_copy, cX12_copy, 7, (some .int)),
  (yX12_traced, cX12_traced, 2, none),
  (yX12_tell, cX12_tell, 4, (some .int)),
  (yX12_call, cX12_call, 2, (some .int)),
  (yX12_as, cX12_as, 3, (some .int)),
  (yX12_trace, cX12_trace, 1, (some .int)),
  (yX12_fault, cX12_fault, 1, (some .int)),
  (yX12_many, cX12_many, 4, (some .int)),
  (yJ6_bitCount_0f7a4, cJ6_bitCount_0f7a4, 1, (some .int)),
  (yJ9_max_7cf53, cJ9_max_7cf53, 2, (some .int)),
  (yJ9_min_7cf53, cJ9_min_7cf53, 2, (some .int)),
  (yJ7_fill_53178, cJ7_fill_53178, 4, none)]
def mpos : List (Nat × Nat × Nat × Nat × Bool × Nat × Nat) := [(189, 188, 0, 64, false, 0, 0), (685, 683, 684, 64, false, 4, 0), (689, 688, 11, 64, false, 4, 0), (159, 158, 0, 63, false, 0, 1), (650, 648, 649, 63, false, 2, 1), (654, 652, 653, 63, false, 3, 1), (671, 669, 670, 63, false, 2, 1), (693, 691, 692, 63, false, 1, 1), (697, 696, 12, 63, false, 2, 1), (701, 700, 13, 63, false, 4, 1), (208, 207, 0, 65, false, 0, 2), (709, 707, 708, 65, false, 3, 2), (730, 729, 14, 65, false, 2, 2), (737, 735, 736, 65, false, 1, 2), (720, 718, 719, 65, false, 2, 2), (733, 732, 0, 65, true, 5, 2), (751, 749, 750, 65, false, 2, 2), (268, 267, 0, 68, false, 0, 3), (914, 912, 913, 68, false, 3, 3), (922, 920, 921, 68, false, 3, 3), (89, 88, 0, 61, false, 0, 4), (378, 376, 377, 61, false, 2, 4), (398, 396, 397, 61, false, 2, 4), (382, 380, 381, 61, false, 2, 4), (386, 384, 385, 61, false, 2, 4), (402, 400, 401, 61, false, 2, 4), (390, 388, 389, 61, false, 2, 4), (410, 408, 409, 61, false, 2, 4), (418, 416, 417, 61, false, 1, 4), (423, 421, 422, 61, false, 1, 4), (427, 425, 426, 61, false, 1, 4), (439, 437, 438, 61, false, 1, 4), (461, 459, 460, 61, false, 0, 4), (465, 463, 464, 61, false, 1, 4), (888, 886, 887, 61, false, 2, 4), (435, 433, 434, 61, false, 2, 4), (443, 442, 0, 61, false, 1, 4), (448, 447, 1, 61, false, 2, 4), (452, 451, 2, 61, false, 1, 4), (557, 555, 556, 61, false, 0, 4), (605, 604, 0, 74, false, 3, 5), (633, 632, 9, 74, false, 3, 5), (628, 626, 627, 74, false, 2, 5), (638, 636, 637, 74, false, 2, 5), (294, 293, 0, 70, false, 0, 6), (934, 932, 933, 70, false, 2, 6), (540, 538, 539, 70, false, 1, 6), (548, 546, 547, 70, false, 2, 6), (552, 550, 551, 70, false, 4, 6), (947, 945, 946, 70, false, 1, 6), (222, 221, 0, 66, false, 0, 7), (758, 757, 0, 66, true, 1, 7), (770, 769, 0, 66, true, 2, 7), (767, 766, 15, 66, false, 1, 7), (763, 761, 762, 66, false, 2, 7), (778, 776, 777, 66, false, 1, 7), (789, 787, 788, 66, false, 1, 7), (797, 795, 796, 66, false, 0, 7), (473, 472, 0, 72, false, 4, 8), (593, 591, 592, 72, false, 0, 8), (562, 560, 561, 72, false, 5, 8), (566, 565, 7, 72, false, 2, 8), (597, 595, 596, 72, false, 2, 8), (577, 575, 576, 72, false, 0, 8), (581, 579, 580, 72, false, 0, 8), (585, 583, 584, 72, false, 0, 8), (241, 240, 0, 67, false, 0, 9), (809, 807, 808, 67, false, 2, 9), (813, 811, 812, 67, false, 2, 9), (830, 828, 829, 67, false, 2, 9), (821, 819, 820, 67, false, 3, 9), (825, 824, 16, 67, false, 3, 9), (834, 833, 17, 67, false, 2, 9), (846, 845, 18, 67, false, 2, 9), (842, 840, 841, 67, false, 3, 9), (863, 861, 862, 67, false, 1, 9), (135, 134, 0, 62, false, 0, 10), (872, 870, 871, 62, false, 3, 10), (884, 882, 883, 62, false, 1, 10), (893, 891, 892, 62, false, 1, 10), (81, 80, 0, 60, false, 0, 11), (374, 373, 0, 60, true, 3, 11), (371, 370, 0, 60, true, 1, 11), (368, 367, 0, 60, true, 2, 11), (529, 528, 0, 60, true, 1, 11), (536, 535, 0, 60, true, 1, 11), (716, 715, 0, 60, true, 1, 11), (900, 899, 0, 60, true, 2, 11), (880, 879, 19, 60, false, 1, 11), (522, 521, 3, 60, false, 1, 11), (624, 623, 8, 60, false, 1, 11), (526, 525, 4, 60, false, 1, 11), (677, 676, 0, 60, true, 2, 11), (674, 673, 0, 60, true, 3, 11), (365, 363, 364, 60, false, 3, 11), (394, 392, 393, 60, false, 3, 11), (406, 404, 405, 60, false, 2, 11), (414, 412, 413, 60, false, 2, 11), (431, 429, 430, 60, false, 3, 11), (456, 454, 455, 60, false, 2, 11), (469, 467, 468, 60, false, 3, 11), (518, 516, 517, 60, false, 7, 11), (573, 571, 572, 60, false, 2, 11), (589, 587, 588, 60, false, 3, 11), (601, 599, 600, 60, false, 4, 11), (620, 618, 619, 60, false, 4, 11), (642, 640, 641, 60, false, 1, 11), (646, 645, 10, 60, false, 3, 11), (658, 656, 657, 60, false, 2, 11), (662, 660, 661, 60, false, 2, 11), (666, 664, 665, 60, false, 2, 11), (681, 679, 680, 60, false, 4, 11), (705, 703, 704, 60, false, 3, 11), (713, 711, 712, 60, false, 3, 11), (743, 741, 742, 60, false, 2, 11), (747, 745, 746, 60, false, 2, 11), (755, 753, 754, 60, false, 2, 11), (785, 783, 784, 60, false, 2, 11), (793, 791, 792, 60, false, 0, 11), (805, 804, 0, 60, true, 1, 11), (802, 800, 801, 60, false, 3, 11), (817, 815, 816, 60, false, 4, 11), (838, 836, 837, 60, false, 4, 11), (850, 848, 849, 60, false, 2, 11), (854, 852, 853, 60, false, 2, 11), (859, 857, 858, 60, false, 1, 11), (868, 866, 867, 60, false, 3, 11), (876, 874, 875, 60, false, 2, 11), (897, 895, 896, 60, false, 3, 11), (905, 903, 904, 60, false, 3, 11), (910, 908, 909, 60, false, 3, 11), (918, 916, 917, 60, false, 3, 11), (926, 924, 925, 60, false, 2, 11), (544, 543, 6, 60, false, 1, 11), (955, 954, 20, 60, false, 1, 11), (533, 532, 5, 60, false, 4, 11), (930, 928, 929, 60, false, 3, 11), (939, 937, 938, 60, false, 1, 11), (943, 941, 942, 60, false, 3, 11), (951, 949, 950, 60, false, 3, 11), (959, 957, 958, 60, false, 5, 11), (964, 962, 963, 60, false, 1, 11), (972, 971, 22, 60, false, 1, 11), (980, 979, 24, 60, false, 1, 11), (976, 975, 23, 60, false, 1, 11), (968, 967, 21, 60, false, 1, 11), (984, 982, 983, 60, false, 1, 11), (988, 986, 987, 60, false, 2, 11), (992, 990, 991, 60, false, 0, 11), (996, 994, 995, 60, false, 0, 11), (1000, 998, 999, 60, false, 1, 11), (1005, 1004, 0, 71, false, 0, 12), (1184, 1183, 0, 71, true, 3, 12), (1339, 1338, 0, 71, true, 0, 12), (1187, 1186, 0, 71, true, 2, 12), (1384, 1383, 0, 71, true, 1, 12), (1415, 1414, 0, 71, true, 2, 12), (1346, 1345, 0, 71, true, 2, 12), (1343, 1342, 0, 71, true, 3, 12), (1249, 1248, 0, 71, true, 1, 12), (1245, 1244, 30, 71, false, 1, 12), (1258, 1257, 32, 71, false, 1, 12), (1538, 1537, 57, 71, false, 1, 12), (1254, 1253, 31, 71, false, 4, 12), (1266, 1265, 33, 71, false, 4, 12), (1180, 1179, 0, 71, true, 1, 12), (1177, 1175, 1176, 71, false, 3, 12), (1195, 1194, 25, 71, false, 2, 12), (1191, 1189, 1190, 71, false, 3, 12), (1199, 1197, 1198, 71, false, 2, 12), (1203, 1201, 1202, 71, false, 2, 12), (1216, 1215, 27, 71, false, 4, 12), (1212, 1211, 26, 71, false, 3, 12), (1220, 1219, 28, 71, false, 1, 12), (1207, 1205, 1206, 71, false, 3, 12), (1224, 1222, 1223, 71, false, 2, 12), (1237, 1236, 29, 71, false, 1, 12), (1228, 1226, 1227, 71, false, 3, 12), (1270, 1269, 34, 71, false, 1, 12), (1274, 1273, 35, 71, false, 3, 12), (1233, 1231, 1232, 71, false, 7, 12), (1282, 1281, 36, 71, false, 1, 12), (1286, 1285, 37, 71, false, 1, 12), (1278, 1276, 1277, 71, false, 2, 12), (1295, 1294, 38, 71, false, 3, 12), (1290, 1288, 1289, 71, false, 3, 12), (1308, 1307, 39, 71, false, 1, 12), (1299, 1297, 1298, 71, false, 4, 12), (1316, 1315, 41, 71, false, 5, 12), (1312, 1311, 40, 71, false, 4, 12), (1304, 1302, 1303, 71, false, 4, 12), (1324, 1323, 42, 71, false, 2, 12), (1320, 1318, 1319, 71, false, 1, 12), (1328, 1326, 1327, 71, false, 2, 12), (1332, 1330, 1331, 71, false, 2, 12), (1336, 1334, 1335, 71, false, 2, 12), (1354, 1353, 43, 71, false, 2, 12), (1364, 1363, 45, 71, false, 3, 12), (1360, 1359, 44, 71, false, 2, 12), (1350, 1348, 1349, 71, false, 4, 12), (1376, 1375, 0, 71, true, 1, 12), (1368, 1366, 1367, 71, false, 3, 12), (1381, 1380, 46, 71, false, 2, 12), (1373, 1371, 1372, 71, false, 3, 12), (1388, 1386, 1387, 71, false, 2, 12), (1392, 1390, 1391, 71, false, 2, 12), (1408, 1407, 0, 71, true, 2, 12), (1412, 1411, 48, 71, false, 1, 12), (1405, 1404, 47, 71, false, 1, 12), (1399, 1398, 0, 71, true, 1, 12), (1396, 1394, 1395, 71, false, 2, 12), (1419, 1417, 1418, 71, false, 2, 12), (1423, 1421, 1422, 71, false, 0, 12), (1430, 1429, 0, 71, true, 1, 12), (1434, 1433, 49, 71, false, 2, 12), (1427, 1425, 1426, 71, false, 3, 12), (1443, 1442, 50, 71, false, 2, 12), (1438, 1436, 1437, 71, false, 4, 12), (1447, 1445, 1446, 71, false, 4, 12), (1455, 1454, 51, 71, false, 1, 12), (1451, 1449, 1450, 71, false, 2, 12), (1459, 1457, 1458, 71, false, 2, 12), (1463, 1461, 1462, 71, false, 1, 12), (1467, 1465, 1466, 71, false, 3, 12), (1475, 1474, 52, 71, false, 1, 12), (1479, 1478, 53, 71, false, 1, 12), (1483, 1482, 54, 71, false, 1, 12), (1471, 1469, 1470, 71, false, 2, 12), (1490, 1489, 0, 71, true, 2, 12), (1495, 1494, 55, 71, false, 3, 12), (1487, 1485, 1486, 71, false, 3, 12), (1499, 1497, 1498, 71, false, 3, 12), (1506, 1505, 0, 71, true, 1, 12), (1503, 1501, 1502, 71, false, 3, 12), (1510, 1508, 1509, 71, false, 3, 12), (1514, 1512, 1513, 71, false, 2, 12), (1240, 1239, 0, 71, true, 1, 12), (1518, 1516, 1517, 71, false, 3, 12), (1522, 1520, 1521, 71, false, 1, 12), (1530, 1529, 56, 71, false, 2, 12), (1526, 1524, 1525, 71, false, 3, 12), (1534, 1532, 1533, 71, false, 3, 12), (1261, 1260, 0, 71, true, 3, 12), (1542, 1540, 1541, 71, false, 5, 12), (1550, 1549, 58, 71, false, 1, 12), (1546, 1544, 1545, 71, false, 1, 12), (1554, 1552, 1553, 71, false, 1, 12), (1558, 1556, 1557, 71, false, 2, 12), (1562, 1560, 1561, 71, false, 0, 12), (1566, 1564, 1565, 71, false, 0, 12), (1570, 1568, 1569, 71, false, 1, 12), (723, 722, 0, 76, true, 1, 14), (569, 568, 0, 73, true, 2, 16), (781, 780, 0, 73, true, 2, 16), (272, 271, 0, 69, true, 2, 15)]
def yM (k : Nat) : MethodName := (mtab.getD k (yX0_init, cX0_init, 0, none)).1
def cM (k : Nat) : ByteArray := (mtab.getD k (yX0_init, cX0_init, 0, none)).2.1
def lM (k : Nat) : Nat := (mtab.getD k (yX0_init, cX0_init, 0, none)).2.2.1
def rM (k : Nat) : Option FieldType := (mtab.getD k (yX0_init, cX0_init, 0, none)).2.2.2
def sM (k : Nat) : Bool := (mpos.getD k (0, 0, 0, 0, false, 0, 0)).2.2.2.2.1
def pM (k : Nat) : Nat := (mpos.getD k (0, 0, 0, 0, false, 0, 0)).2.2.2.2.2.1
def oM (k : Nat) : Nat := (mpos.getD k (0, 0, 0, 0, false, 0, 0)).2.2.2.2.2.2
def okM (k : Nat) : Bool := match mpos.getD k (0, 0, 0, 0, false, 0, 0) with
  | (_, ps, pl, pi, st, np, oc) => decide (lw_tbl[ps]? = some (if st = true then Cond.static (yM k) else Cond.instanceMethod (yM k))) && decide (lw_tbl[pi]? = some (Cond.initialized (yM k).cls))
    && (st || (yM k).name == "<init>" || decide (lw_tbl[pl]? = some (Cond.selects (RN oc) (yM k) (yM k)))) && decide ((yM k).cls = RN oc) && decide ((yM k).cls ≠ "java/lang/invoke/MethodHandle" ∧ (yM k).cls ≠ "java/lang/invoke/VarHandle" ∧ (parseMethodDescriptor (yM k).desc).map (fun d => d.parameters.length) = some np) && decide (lM k ≤ 40) && (st || decide (oc < 13))
theorem okM_0 : ∀ k, k < 64 → okM (0 + k) = true := by decide +kernel
theorem okM_1 : ∀ k, k < 64 → okM (64 + k) = true := by decide +kernel
theorem okM_2 : ∀ k, k < 64 → okM (128 + k) = true := by decide +kernel
theorem okM_3 : ∀ k, k < 63 → okM (192 + k) = true := by decide +kernel
theorem okM_all {k : Nat} (h : k < 255) : okM k = true := by
  rcases Nat.lt_or_ge k 64 with q | q
  · have := okM_0 (k - 0) (by omega)
    rwa [show 0 + (k - 0) = k by omega] at this
  rcases Nat.lt_or_ge k 128 with q | q
  · have := okM_1 (k - 64) (by omega)
    rwa [show 64 + (k - 64) = k by omega] at this
  rcases Nat.lt_or_ge k 192 with q | q
  · have := okM_2 (k - 128) (by omega)
    rwa [show 128 + (k - 128) = k by omega] at this
  rcases Nat.lt_or_ge k 255 with q | q
  · have := okM_3 (k - 192) (by omega)
    rwa [show 192 + (k - 192) = k by omega] at this
  omega
set_option maxRecDepth 100000 in
theorem mc_0 : lw_tbl[189]? = some (Cond.code yX0_init cX0_init 1 none) := by rfl
set_option maxRecDepth 100000 in
theorem mc_1 : lw_tbl[685]? = some (Cond.code yX0_read cX0_read 8 (some .int)) := by rfl
set_option maxRecDepth 100000 in
theorem mc_2 : lw_tbl[689]? = some (Cond.code yX0_readSpan cX0_readSpan 7 (some .int)) := by rfl
set_option maxRecDepth 100000 in
theorem mc_3 : lw_tbl[159]? = some (Cond.code yX1_init cX1_init 1 none) := by rfl
set_option maxRecDepth 100000 in
theorem mc_4 : lw_tbl[650]? = some (Cond.code yX1_isThere cX1_isThere 4 (some .boolean)) := by rfl
set_option maxRecDepth 100000 in
theorem mc_5 : lw_tbl[654]? = some (Cond.code yX1_keep cX1_keep 4 none) := by rfl
set_option maxRecDepth 100000 in
theorem mc_6 : lw_tbl[671]? = some (Cond.code yX1_countOf cX1_countOf 5 (some .int)) := by rfl
set_option maxRecDepth 100000 in
theorem mc_7 : lw_tbl[693]? = some (Cond.code yX1_machinesWith cX1_machinesWith 4 (some .int)) := by rfl
set_option maxRecDepth 100000 in
theorem mc_8 : lw_tbl[697]? = some (Cond.code yX1_isChainFrom cX1_isChainFrom 8 (some .boolean)) := by rfl
set_option maxRecDepth 100000 in
theorem mc_9 : lw_tbl[701]? = some (Cond.code yX1_earliest cX1_earliest 10 (some .int)) := by rfl
set_option maxRecDepth 100000 in
theorem mc_10 : lw_tbl[208]? = some (Cond.code yX2_init cX2_init 1 none) := by rfl
set_option maxRecDepth 100000 in
theorem mc_11 : lw_tbl[709]? = some (Cond.code yX2_change cX2_change 5 (some .int)) := by rfl
set_option maxRecDepth 100000 in
theorem mc_12 : lw_tbl[730]? = some (Cond.code yX2_sumOf cX2_sumOf 5 (some .int)) := by rfl
set_option maxRecDepth 100000 in
theorem mc_13 : lw_tbl[737]? = some (Cond.code yX2_setsAsLarge cX2_setsAsLarge 3 (some .int)) := by rfl
set_option maxRecDepth 100000 in
theorem mc_14 : lw_tbl[720]? = some (Cond.code yX2_setsAsGreat cX2_setsAsGreat 3 (some .int)) := by rfl
set_option maxRecDepth 100000 in
theorem mc_15 : lw_tbl[733]? = some (Cond.code yX2_setsWith cX2_setsWith 7 (some .int)) := by rfl
set_option maxRecDepth 100000 in
theorem mc_16 : lw_tbl[751]? = some (Cond.code yX2_likesOf cX2_likesOf 6 (some .int)) := by rfl
set_option maxRecDepth 100000 in
theorem mc_17 : lw_tbl[268]? = some (Cond.code yX3_init cX3_init 1 none) := by rfl
set_option maxRecDepth 100000 in
theorem mc_18 : lw_tbl[914]? = some (Cond.code yX3_allow cX3_allow 5 (some .int)) := by rfl
set_option maxRecDepth 100000 in
theorem mc_19 : lw_tbl[922]? = some (Cond.code yX3_keepLook cX3_keepLook 4 (some .int)) := by rfl
set_option maxRecDepth 100000 in
theorem mc_20 : lw_tbl[89]? = some (Cond.code yX4_init cX4_init 1 none) := by rfl
set_option maxRecDepth 100000 in
theorem mc_21 : lw_tbl[378]? = some (Cond.code yX4_hasRoad cX4_hasRoad 3 (some .boolean)) := by rfl
set_option maxRecDepth 100000 in
theorem mc_22 : lw_tbl[398]? = some (Cond.code yX4_hasPost cX4_hasPost 3 (some .boolean)) := by rfl
set_option maxRecDepth 100000 in
theorem mc_23 : lw_tbl[382]? = some (Cond.code yX4_layRoad cX4_layRoad 3 none) := by rfl
set_option maxRecDepth 100000 in
theorem mc_24 : lw_tbl[386]? = some (Cond.code yX4_takeRoad cX4_takeRoad 4 none) := by rfl
set_option maxRecDepth 100000 in
theorem mc_25 : lw_tbl[402]? = some (Cond.code yX4_turnPost cX4_turnPost 3 none) := by rfl
set_option maxRecDepth 100000 in
theorem mc_26 : lw_tbl[390]? = some (Cond.code yX4_doorBetween cX4_doorBetween 4 (some .int)) := by rfl
set_option maxRecDepth 100000 in
theorem mc_27 : lw_tbl[410]? = some (Cond.code yX4_doorOn cX4_doorOn 4 (some .int)) := by rfl
set_option maxRecDepth 100000 in
theorem mc_28 : lw_tbl[418]? = some (Cond.code yX4_doorStands cX4_doorStands 2 (some .boolean)) := by rfl
set_option maxRecDepth 100000 in
theorem mc_29 : lw_tbl[423]? = some (Cond.code yX4_isShut cX4_isShut 2 (some .boolean)) := by rfl
set_option maxRecDepth 100000 in
theorem mc_30 : lw_tbl[427]? = some (Cond.code yX4_turnDoor cX4_turnDoor 2 none) := by rfl
set_option maxRecDepth 100000 in
theorem mc_31 : lw_tbl[439]? = some (Cond.code yX4_openRoads cX4_openRoads 4 none) := by rfl
set_option maxRecDepth 100000 in
theorem mc_32 : lw_tbl[461]? = some (Cond.code yX4_leavePosts cX4_leavePosts 2 none) := by rfl
set_option maxRecDepth 100000 in
theorem mc_33 : lw_tbl[465]? = some (Cond.code yX4_reach cX4_reach 7 (some .int)) := by rfl
set_option maxRecDepth 100000 in
theorem mc_34 : lw_tbl[888]? = some (Cond.code yX4_parts cX4_parts 3 (some .boolean)) := by rfl
set_option maxRecDepth 100000 in
theorem mc_35 : lw_tbl[435]? = some (Cond.code yX4_findWay cX4_findWay 4 (some .boolean)) := by rfl
set_option maxRecDepth 100000 in
theorem mc_36 : lw_tbl[443]? = some (Cond.code yX4_measureFrom cX4_measureFrom 4 none) := by rfl
set_option maxRecDepth 100000 in
theorem mc_37 : lw_tbl[448]? = some (Cond.code yX4_measureAround cX4_measureAround 4 none) := by rfl
set_option maxRecDepth 100000 in
theorem mc_38 : lw_tbl[452]? = some (Cond.code yX4_firstNearer cX4_firstNearer 3 (some .int)) := by rfl
set_option maxRecDepth 100000 in
theorem mc_39 : lw_tbl[557]? = some (Cond.code yX4_wayHasPost cX4_wayHasPost 2 (some .boolean)) := by rfl
set_option maxRecDepth 100000 in
theorem mc_40 : lw_tbl[605]? = some (Cond.code yX5_init cX5_init 4 none) := by rfl
set_option maxRecDepth 100000 in
theorem mc_41 : lw_tbl[633]? = some (Cond.code yX5_isAt cX5_isAt 5 (some .boolean)) := by rfl
set_option maxRecDepth 100000 in
theorem mc_42 : lw_tbl[628]? = some (Cond.code yX5_placesIn cX5_placesIn 6 (some .int)) := by rfl
set_option maxRecDepth 100000 in
theorem mc_43 : lw_tbl[638]? = some (Cond.code yX5_firstIn cX5_firstIn 5 (some .int)) := by rfl
set_option maxRecDepth 100000 in
theorem mc_44 : lw_tbl[294]? = some (Cond.code yX6_init cX6_init 1 none) := by rfl
set_option maxRecDepth 100000 in
theorem mc_45 : lw_tbl[934]? = some (Cond.code yX6_begin cX6_begin 3 none) := by rfl
set_option maxRecDepth 100000 in
theorem mc_46 : lw_tbl[540]? = some (Cond.code yX6_isOfOther cX6_isOfOther 2 (some .boolean)) := by rfl
set_option maxRecDepth 100000 in
theorem mc_47 : lw_tbl[548]? = some (Cond.code yX6_spans cX6_spans 3 (some .boolean)) := by rfl
set_option maxRecDepth 100000 in
theorem mc_48 : lw_tbl[552]? = some (Cond.code yX6_areAllIn cX6_areAllIn 6 (some .boolean)) := by rfl
set_option maxRecDepth 100000 in
theorem mc_49 : lw_tbl[947]? = some (Cond.code yX6_cut cX6_cut 2 (some .int)) := by rfl
set_option maxRecDepth 100000 in
theorem mc_50 : lw_tbl[222]? = some (Cond.code yX7_init cX7_init 1 none) := by rfl
set_option maxRecDepth 100000 in
theorem mc_51 : lw_tbl[758]? = some (Cond.code yX7_isThing cX7_isThing 1 (some .boolean)) := by rfl
set_option maxRecDepth 100000 in
theorem mc_52 : lw_tbl[770]? = some (Cond.code yX7_spotOf cX7_spotOf 2 (some .int)) := by rfl
set_option maxRecDepth 100000 in
theorem mc_53 : lw_tbl[767]? = some (Cond.code yX7_indexOf cX7_indexOf 3 (some .int)) := by rfl
set_option maxRecDepth 100000 in
theorem mc_54 : lw_tbl[763]? = some (Cond.code yX7_take cX7_take 5 (some .boolean)) := by rfl
set_option maxRecDepth 100000 in
theorem mc_55 : lw_tbl[778]? = some (Cond.code yX7_toldOf cX7_toldOf 4 (some .int)) := by rfl
set_option maxRecDepth 100000 in
theorem mc_56 : lw_tbl[789]? = some (Cond.code yX7_trulyOf cX7_trulyOf 3 (some .int)) := by rfl
set_option maxRecDepth 100000 in
theorem mc_57 : lw_tbl[797]? = some (Cond.code yX7_missed cX7_missed 3 (some .int)) := by rfl
set_option maxRecDepth 100000 in
theorem mc_58 : lw_tbl[473]? = some (Cond.code yX8_init cX8_init 5 none) := by rfl
set_option maxRecDepth 100000 in
theorem mc_59 : lw_tbl[593]? = some (Cond.code yX8_isSealed cX8_isSealed 1 (some .boolean)) := by rfl
set_option maxRecDepth 100000 in
theorem mc_60 : lw_tbl[562]? = some (Cond.code yX8_see cX8_see 7 none) := by rfl
set_option maxRecDepth 100000 in
theorem mc_61 : lw_tbl[566]? = some (Cond.code yX8_seeByte cX8_seeByte 3 none) := by rfl
set_option maxRecDepth 100000 in
theorem mc_62 : lw_tbl[597]? = some (Cond.code yX8_byteAt cX8_byteAt 3 (some .int)) := by rfl
set_option maxRecDepth 100000 in
theorem mc_63 : lw_tbl[577]? = some (Cond.code yX8_joined cX8_joined 2 (some .int)) := by rfl
set_option maxRecDepth 100000 in
theorem mc_64 : lw_tbl[581]? = some (Cond.code yX8_length cX8_length 1 (some .int)) := by rfl
set_option maxRecDepth 100000 in
theorem mc_65 : lw_tbl[585]? = some (Cond.code yX8_twofold cX8_twofold 3 (some .int)) := by rfl
set_option maxRecDepth 100000 in
theorem mc_66 : lw_tbl[241]? = some (Cond.code yX9_init cX9_init 1 none) := by rfl
set_option maxRecDepth 100000 in
theorem mc_67 : lw_tbl[809]? = some (Cond.code yX9_isBarred cX9_isBarred 3 (some .boolean)) := by rfl
set_option maxRecDepth 100000 in
theorem mc_68 : lw_tbl[813]? = some (Cond.code yX9_turnBar cX9_turnBar 3 none) := by rfl
set_option maxRecDepth 100000 in
theorem mc_69 : lw_tbl[830]? = some (Cond.code yX9_leadsTo cX9_leadsTo 3 (some .int)) := by rfl
set_option maxRecDepth 100000 in
theorem mc_70 : lw_tbl[821]? = some (Cond.code yX9_growBy cX9_growBy 7 (some .int)) := by rfl
set_option maxRecDepth 100000 in
theorem mc_71 : lw_tbl[825]? = some (Cond.code yX9_hasBarred cX9_hasBarred 5 (some .boolean)) := by rfl
set_option maxRecDepth 100000 in
theorem mc_72 : lw_tbl[834]? = some (Cond.code yX9_newState cX9_newState 3 (some .int)) := by rfl
set_option maxRecDepth 100000 in
theorem mc_73 : lw_tbl[846]? = some (Cond.code yX9_canGo cX9_canGo 3 (some .boolean)) := by rfl
set_option maxRecDepth 100000 in
theorem mc_74 : lw_tbl[842]? = some (Cond.code yX9_goneAlong cX9_goneAlong 7 (some .int)) := by rfl
set_option maxRecDepth 100000 in
theorem mc_75 : lw_tbl[863]? = some (Cond.code yX9_rowsOf cX9_rowsOf 5 (some .int)) := by rfl
set_option maxRecDepth 100000 in
theorem mc_76 : lw_tbl[135]? = some (Cond.code yX10_init cX10_init 1 none) := by rfl
set_option maxRecDepth 100000 in
theorem mc_77 : lw_tbl[872]? = some (Cond.code yX10_keep cX10_keep 4 (some .int)) := by rfl
set_option maxRecDepth 100000 in
theorem mc_78 : lw_tbl[884]? = some (Cond.code yX10_stoppedIn cX10_stoppedIn 4 (some .int)) := by rfl
set_option maxRecDepth 100000 in
theorem mc_79 : lw_tbl[893]? = some (Cond.code yX10_weightOf cX10_weightOf 4 (some .int)) := by rfl
set_option maxRecDepth 100000 in
theorem mc_80 : lw_tbl[81]? = some (Cond.code yX11_init cX11_init 2 none) := by rfl
set_option maxRecDepth 100000 in
theorem mc_81 : lw_tbl[374]? = some (Cond.code yX11_isIn cX11_isIn 3 (some .boolean)) := by rfl
set_option maxRecDepth 100000 in
theorem mc_82 : lw_tbl[371]? = some (Cond.code yX11_isMachine cX11_isMachine 1 (some .boolean)) := by rfl
set_option maxRecDepth 100000 in
theorem mc_83 : lw_tbl[368]? = some (Cond.code yX11_areMachines cX11_areMachines 2 (some .boolean)) := by rfl
set_option maxRecDepth 100000 in
theorem mc_84 : lw_tbl[529]? = some (Cond.code yX11_isTick cX11_isTick 1 (some .boolean)) := by rfl
set_option maxRecDepth 100000 in
theorem mc_85 : lw_tbl[536]? = some (Cond.code yX11_isLane cX11_isLane 1 (some .boolean)) := by rfl
set_option maxRecDepth 100000 in
theorem mc_86 : lw_tbl[716]? = some (Cond.code yX11_isHourSet cX11_isHourSet 1 (some .boolean)) := by rfl
set_option maxRecDepth 100000 in
theorem mc_87 : lw_tbl[900]? = some (Cond.code yX11_areApart cX11_areApart 2 (some .boolean)) := by rfl
set_option maxRecDepth 100000 in
theorem mc_88 : lw_tbl[880]? = some (Cond.code yX11_areDoors cX11_areDoors 2 (some .boolean)) := by rfl
set_option maxRecDepth 100000 in
theorem mc_89 : lw_tbl[522]? = some (Cond.code yX11_talkAt cX11_talkAt 2 (some (.object "WireWatch$Talk"))) := by rfl
set_option maxRecDepth 100000 in
theorem mc_90 : lw_tbl[624]? = some (Cond.code yX11_rowAt cX11_rowAt 2 (some (.object "WireWatch$Row"))) := by rfl
set_option maxRecDepth 100000 in
theorem mc_91 : lw_tbl[526]? = some (Cond.code yX11_sheetAt cX11_sheetAt 2 (some (.object "WireWatch$Sheet"))) := by rfl
set_option maxRecDepth 100000 in
theorem mc_92 : lw_tbl[677]? = some (Cond.code yX11_greatestShared cX11_greatestShared 11 (some .long)) := by rfl
set_option maxRecDepth 100000 in
theorem mc_93 : lw_tbl[674]? = some (Cond.code yX11_share cX11_share 7 (some .long)) := by rfl
set_option maxRecDepth 100000 in
theorem mc_94 : lw_tbl[365]? = some (Cond.code yX11_road cX11_road 4 (some .int)) := by rfl
set_option maxRecDepth 100000 in
theorem mc_95 : lw_tbl[394]? = some (Cond.code yX11_post cX11_post 4 (some .int)) := by rfl
set_option maxRecDepth 100000 in
theorem mc_96 : lw_tbl[406]? = some (Cond.code yX11_door cX11_door 3 (some .int)) := by rfl
set_option maxRecDepth 100000 in
theorem mc_97 : lw_tbl[414]? = some (Cond.code yX11_shut cX11_shut 3 (some .int)) := by rfl
set_option maxRecDepth 100000 in
theorem mc_98 : lw_tbl[431]? = some (Cond.code yX11_way cX11_way 4 (some .int)) := by rfl
set_option maxRecDepth 100000 in
theorem mc_99 : lw_tbl[456]? = some (Cond.code yX11_blind cX11_blind 3 (some .int)) := by rfl
set_option maxRecDepth 100000 in
theorem mc_100 : lw_tbl[469]? = some (Cond.code yX11_talk cX11_talk 4 (some .int)) := by rfl
set_option maxRecDepth 100000 in
theorem mc_101 : lw_tbl[518]? = some (Cond.code yX11_piece cX11_piece 11 (some .int)) := by rfl
set_option maxRecDepth 100000 in
theorem mc_102 : lw_tbl[573]? = some (Cond.code yX11_about cX11_about 4 (some .int)) := by rfl
set_option maxRecDepth 100000 in
theorem mc_103 : lw_tbl[589]? = some (Cond.code yX11_at cX11_at 5 (some .int)) := by rfl
set_option maxRecDepth 100000 in
theorem mc_104 : lw_tbl[601]? = some (Cond.code yX11_row cX11_row 7 (some .int)) := by rfl
set_option maxRecDepth 100000 in
theorem mc_105 : lw_tbl[620]? = some (Cond.code yX11_fits cX11_fits 7 (some .int)) := by rfl
set_option maxRecDepth 100000 in
theorem mc_106 : lw_tbl[642]? = some (Cond.code yX11_scan cX11_scan 5 (some .int)) := by rfl
set_option maxRecDepth 100000 in
theorem mc_107 : lw_tbl[646]? = some (Cond.code yX11_scanOne cX11_scanOne 6 none) := by rfl
set_option maxRecDepth 100000 in
theorem mc_108 : lw_tbl[658]? = some (Cond.code yX11_finding cX11_finding 3 (some .int)) := by rfl
set_option maxRecDepth 100000 in
theorem mc_109 : lw_tbl[662]? = some (Cond.code yX11_clear cX11_clear 4 (some .int)) := by rfl
set_option maxRecDepth 100000 in
theorem mc_110 : lw_tbl[666]? = some (Cond.code yX11_nothing cX11_nothing 5 (some .long)) := by rfl
set_option maxRecDepth 100000 in
theorem mc_111 : lw_tbl[681]? = some (Cond.code yX11_chain cX11_chain 8 (some .int)) := by rfl
set_option maxRecDepth 100000 in
theorem mc_112 : lw_tbl[705]? = some (Cond.code yX11_count cX11_count 4 (some .int)) := by rfl
set_option maxRecDepth 100000 in
theorem mc_113 : lw_tbl[713]? = some (Cond.code yX11_odds cX11_odds 4 (some .long)) := by rfl
set_option maxRecDepth 100000 in
theorem mc_114 : lw_tbl[743]? = some (Cond.code yX11_group cX11_group 4 (some .int)) := by rfl
set_option maxRecDepth 100000 in
theorem mc_115 : lw_tbl[747]? = some (Cond.code yX11_likes cX11_likes 3 (some .int)) := by rfl
set_option maxRecDepth 100000 in
theorem mc_116 : lw_tbl[755]? = some (Cond.code yX11_put cX11_put 3 (some .int)) := by rfl
set_option maxRecDepth 100000 in
theorem mc_117 : lw_tbl[785]? = some (Cond.code yX11_told cX11_told 3 (some .int)) := by rfl
set_option maxRecDepth 100000 in
theorem mc_118 : lw_tbl[793]? = some (Cond.code yX11_miss cX11_miss 1 (some .int)) := by rfl
set_option maxRecDepth 100000 in
theorem mc_119 : lw_tbl[805]? = some (Cond.code yX11_isSign cX11_isSign 1 (some .boolean)) := by rfl
set_option maxRecDepth 100000 in
theorem mc_120 : lw_tbl[802]? = some (Cond.code yX11_bar cX11_bar 4 (some .int)) := by rfl
set_option maxRecDepth 100000 in
theorem mc_121 : lw_tbl[817]? = some (Cond.code yX11_grow cX11_grow 7 (some .int)) := by rfl
set_option maxRecDepth 100000 in
theorem mc_122 : lw_tbl[838]? = some (Cond.code yX11_gone cX11_gone 7 (some .int)) := by rfl
set_option maxRecDepth 100000 in
theorem mc_123 : lw_tbl[850]? = some (Cond.code yX11_answer cX11_answer 4 (some .int)) := by rfl
set_option maxRecDepth 100000 in
theorem mc_124 : lw_tbl[854]? = some (Cond.code yX11_next cX11_next 4 (some .int)) := by rfl
set_option maxRecDepth 100000 in
theorem mc_125 : lw_tbl[859]? = some (Cond.code yX11_rows cX11_rows 2 (some .int)) := by rfl
set_option maxRecDepth 100000 in
theorem mc_126 : lw_tbl[868]? = some (Cond.code yX11_work cX11_work 4 (some .int)) := by rfl
set_option maxRecDepth 100000 in
theorem mc_127 : lw_tbl[876]? = some (Cond.code yX11_still cX11_still 4 (some .int)) := by rfl
set_option maxRecDepth 100000 in
theorem mc_128 : lw_tbl[897]? = some (Cond.code yX11_parted cX11_parted 4 (some .int)) := by rfl
set_option maxRecDepth 100000 in
theorem mc_129 : lw_tbl[905]? = some (Cond.code yX11_least cX11_least 8 (some .int)) := by rfl
set_option maxRecDepth 100000 in
theorem mc_130 : lw_tbl[910]? = some (Cond.code yX11_may cX11_may 4 (some .int)) := by rfl
set_option maxRecDepth 100000 in
theorem mc_131 : lw_tbl[918]? = some (Cond.code yX11_look cX11_look 5 (some .int)) := by rfl
set_option maxRecDepth 100000 in
theorem mc_132 : lw_tbl[926]? = some (Cond.code yX11_looks cX11_looks 3 (some .int)) := by rfl
set_option maxRecDepth 100000 in
theorem mc_133 : lw_tbl[544]? = some (Cond.code yX11_faulted cX11_faulted 2 (some .int)) := by rfl
set_option maxRecDepth 100000 in
theorem mc_134 : lw_tbl[955]? = some (Cond.code yX11_lostBy cX11_lostBy 2 (some .long)) := by rfl
set_option maxRecDepth 100000 in
theorem mc_135 : lw_tbl[533]? = some (Cond.code yX11_againstTaking cX11_againstTaking 5 (some .int)) := by rfl
set_option maxRecDepth 100000 in
theorem mc_136 : lw_tbl[930]? = some (Cond.code yX11_sheet cX11_sheet 5 (some .int)) := by rfl
set_option maxRecDepth 100000 in
theorem mc_137 : lw_tbl[939]? = some (Cond.code yX11_lose cX11_lose 3 (some .int)) := by rfl
set_option maxRecDepth 100000 in
theorem mc_138 : lw_tbl[943]? = some (Cond.code yX11_set cX11_set 5 (some .int)) := by rfl
set_option maxRecDepth 100000 in
theorem mc_139 : lw_tbl[951]? = some (Cond.code yX11_cell cX11_cell 5 (some .long)) := by rfl
set_option maxRecDepth 100000 in
theorem mc_140 : lw_tbl[959]? = some (Cond.code yX11_copy cX11_copy 8 (some .int)) := by rfl
set_option maxRecDepth 100000 in
theorem mc_141 : lw_tbl[964]? = some (Cond.code yX11_tell cX11_tell 3 (some .int)) := by rfl
set_option maxRecDepth 100000 in
theorem mc_142 : lw_tbl[972]? = some (Cond.code yX11_leave cX11_leave 2 none) := by rfl
set_option maxRecDepth 100000 in
theorem mc_143 : lw_tbl[980]? = some (Cond.code yX11_tellingOfTalk cX11_tellingOfTalk 2 (some .int)) := by rfl
set_option maxRecDepth 100000 in
theorem mc_144 : lw_tbl[976]? = some (Cond.code yX11_tellingOfSealed cX11_tellingOfSealed 2 (some .int)) := by rfl
set_option maxRecDepth 100000 in
theorem mc_145 : lw_tbl[968]? = some (Cond.code yX11_tellingOfCarried cX11_tellingOfCarried 3 (some .int)) := by rfl
set_option maxRecDepth 100000 in
theorem mc_146 : lw_tbl[984]? = some (Cond.code yX11_call cX11_call 3 (some .int)) := by rfl
set_option maxRecDepth 100000 in
theorem mc_147 : lw_tbl[988]? = some (Cond.code yX11_as cX11_as 4 (some .int)) := by rfl
set_option maxRecDepth 100000 in
theorem mc_148 : lw_tbl[992]? = some (Cond.code yX11_trace cX11_trace 1 (some .int)) := by rfl
set_option maxRecDepth 100000 in
theorem mc_149 : lw_tbl[996]? = some (Cond.code yX11_fault cX11_fault 1 (some .int)) := by rfl
set_option maxRecDepth 100000 in
theorem mc_150 : lw_tbl[1000]? = some (Cond.code yX11_many cX11_many 2 (some .int)) := by rfl
set_option maxRecDepth 100000 in
theorem mc_151 : lw_tbl[1005]? = some (Cond.code yX12_init cX12_init 2 none) := by rfl
set_option maxRecDepth 100000 in
theorem mc_152 : lw_tbl[1184]? = some (Cond.code yX12_in cX12_in 6 (some .boolean)) := by rfl
set_option maxRecDepth 100000 in
theorem mc_153 : lw_tbl[1339]? = some (Cond.code yX12_lost cX12_lost 0 (some .long)) := by rfl
set_option maxRecDepth 100000 in
theorem mc_154 : lw_tbl[1187]? = some (Cond.code yX12_hasBit cX12_hasBit 2 (some .boolean)) := by rfl
set_option maxRecDepth 100000 in
theorem mc_155 : lw_tbl[1384]? = some (Cond.code yX12_bits cX12_bits 3 (some .int)) := by rfl
set_option maxRecDepth 100000 in
theorem mc_156 : lw_tbl[1415]? = some (Cond.code yX12_lesser cX12_lesser 2 (some .int)) := by rfl
set_option maxRecDepth 100000 in
theorem mc_157 : lw_tbl[1346]? = some (Cond.code yX12_common cX12_common 10 (some .long)) := by rfl
set_option maxRecDepth 100000 in
theorem mc_158 : lw_tbl[1343]? = some (Cond.code yX12_share cX12_share 5 (some .long)) := by rfl
set_option maxRecDepth 100000 in
theorem mc_159 : lw_tbl[1249]? = some (Cond.code yX12_isTick cX12_isTick 1 (some .boolean)) := by rfl
set_option maxRecDepth 100000 in
theorem mc_160 : lw_tbl[1245]? = some (Cond.code yX12_refused cX12_refused 2 (some .int)) := by rfl
set_option maxRecDepth 100000 in
theorem mc_161 : lw_tbl[1258]? = some (Cond.code yX12_failed cX12_failed 2 (some .int)) := by rfl
set_option maxRecDepth 100000 in
theorem mc_162 : lw_tbl[1538]? = some (Cond.code yX12_failedLong cX12_failedLong 2 (some .long)) := by rfl
set_option maxRecDepth 100000 in
theorem mc_163 : lw_tbl[1254]? = some (Cond.code yX12_barred cX12_barred 6 (some .int)) := by rfl
set_option maxRecDepth 100000 in
theorem mc_164 : lw_tbl[1266]? = some (Cond.code yX12_areCells cX12_areCells 7 (some .boolean)) := by rfl
set_option maxRecDepth 100000 in
theorem mc_165 : lw_tbl[1180]? = some (Cond.code yX12_noMachine cX12_noMachine 1 (some .boolean)) := by rfl
set_option maxRecDepth 100000 in
theorem mc_166 : lw_tbl[1177]? = some (Cond.code yX12_road cX12_road 4 (some .int)) := by rfl
set_option maxRecDepth 100000 in
theorem mc_167 : lw_tbl[1195]? = some (Cond.code yX12_noRoad cX12_noRoad 3 (some .boolean)) := by rfl
set_option maxRecDepth 100000 in
theorem mc_168 : lw_tbl[1191]? = some (Cond.code yX12_post cX12_post 4 (some .int)) := by rfl
set_option maxRecDepth 100000 in
theorem mc_169 : lw_tbl[1199]? = some (Cond.code yX12_door cX12_door 3 (some .int)) := by rfl
set_option maxRecDepth 100000 in
theorem mc_170 : lw_tbl[1203]? = some (Cond.code yX12_shut cX12_shut 3 (some .int)) := by rfl
set_option maxRecDepth 100000 in
theorem mc_171 : lw_tbl[1216]? = some (Cond.code yX12_isOpen cX12_isOpen 6 (some .boolean)) := by rfl
set_option maxRecDepth 100000 in
theorem mc_172 : lw_tbl[1212]? = some (Cond.code yX12_layFar cX12_layFar 7 none) := by rfl
set_option maxRecDepth 100000 in
theorem mc_173 : lw_tbl[1220]? = some (Cond.code yX12_nextOn cX12_nextOn 3 (some .int)) := by rfl
set_option maxRecDepth 100000 in
theorem mc_174 : lw_tbl[1207]? = some (Cond.code yX12_way cX12_way 7 (some .int)) := by rfl
set_option maxRecDepth 100000 in
theorem mc_175 : lw_tbl[1224]? = some (Cond.code yX12_blind cX12_blind 3 (some .int)) := by rfl
set_option maxRecDepth 100000 in
theorem mc_176 : lw_tbl[1237]? = some (Cond.code yX12_noTalk cX12_noTalk 2 (some .boolean)) := by rfl
set_option maxRecDepth 100000 in
theorem mc_177 : lw_tbl[1228]? = some (Cond.code yX12_talk cX12_talk 4 (some .int)) := by rfl
set_option maxRecDepth 100000 in
theorem mc_178 : lw_tbl[1270]? = some (Cond.code yX12_isSeen cX12_isSeen 5 (some .boolean)) := by rfl
set_option maxRecDepth 100000 in
theorem mc_179 : lw_tbl[1274]? = some (Cond.code yX12_take cX12_take 5 none) := by rfl
set_option maxRecDepth 100000 in
theorem mc_180 : lw_tbl[1233]? = some (Cond.code yX12_piece cX12_piece 10 (some .int)) := by rfl
set_option maxRecDepth 100000 in
theorem mc_181 : lw_tbl[1282]? = some (Cond.code yX12_joinedOf cX12_joinedOf 3 (some .int)) := by rfl
set_option maxRecDepth 100000 in
theorem mc_182 : lw_tbl[1286]? = some (Cond.code yX12_lengthOf cX12_lengthOf 4 (some .int)) := by rfl
set_option maxRecDepth 100000 in
theorem mc_183 : lw_tbl[1278]? = some (Cond.code yX12_about cX12_about 5 (some .int)) := by rfl
set_option maxRecDepth 100000 in
theorem mc_184 : lw_tbl[1295]? = some (Cond.code yX12_byteAt cX12_byteAt 5 (some .int)) := by rfl
set_option maxRecDepth 100000 in
theorem mc_185 : lw_tbl[1290]? = some (Cond.code yX12_at cX12_at 4 (some .int)) := by rfl
set_option maxRecDepth 100000 in
theorem mc_186 : lw_tbl[1308]? = some (Cond.code yX12_noRow cX12_noRow 2 (some .boolean)) := by rfl
set_option maxRecDepth 100000 in
theorem mc_187 : lw_tbl[1299]? = some (Cond.code yX12_row cX12_row 7 (some .int)) := by rfl
set_option maxRecDepth 100000 in
theorem mc_188 : lw_tbl[1316]? = some (Cond.code yX12_doesFit cX12_doesFit 9 (some .boolean)) := by rfl
set_option maxRecDepth 100000 in
theorem mc_189 : lw_tbl[1312]? = some (Cond.code yX12_fitsOf cX12_fitsOf 9 (some .int)) := by rfl
set_option maxRecDepth 100000 in
theorem mc_190 : lw_tbl[1304]? = some (Cond.code yX12_fits cX12_fits 5 (some .int)) := by rfl
set_option maxRecDepth 100000 in
theorem mc_191 : lw_tbl[1324]? = some (Cond.code yX12_isFound cX12_isFound 5 (some .boolean)) := by rfl
set_option maxRecDepth 100000 in
theorem mc_192 : lw_tbl[1320]? = some (Cond.code yX12_scan cX12_scan 6 (some .int)) := by rfl
set_option maxRecDepth 100000 in
theorem mc_193 : lw_tbl[1328]? = some (Cond.code yX12_finding cX12_finding 3 (some .int)) := by rfl
set_option maxRecDepth 100000 in
theorem mc_194 : lw_tbl[1332]? = some (Cond.code yX12_clear cX12_clear 4 (some .int)) := by rfl
set_option maxRecDepth 100000 in
theorem mc_195 : lw_tbl[1336]? = some (Cond.code yX12_nothing cX12_nothing 6 (some .long)) := by rfl
set_option maxRecDepth 100000 in
theorem mc_196 : lw_tbl[1354]? = some (Cond.code yX12_readChain cX12_readChain 7 (some .int)) := by rfl
set_option maxRecDepth 100000 in
theorem mc_197 : lw_tbl[1364]? = some (Cond.code yX12_findAfter cX12_findAfter 7 (some .int)) := by rfl
set_option maxRecDepth 100000 in
theorem mc_198 : lw_tbl[1360]? = some (Cond.code yX12_hasFrom cX12_hasFrom 6 (some .boolean)) := by rfl
set_option maxRecDepth 100000 in
theorem mc_199 : lw_tbl[1350]? = some (Cond.code yX12_chain cX12_chain 10 (some .int)) := by rfl
set_option maxRecDepth 100000 in
theorem mc_200 : lw_tbl[1376]? = some (Cond.code yX12_areHours cX12_areHours 1 (some .boolean)) := by rfl
set_option maxRecDepth 100000 in
theorem mc_201 : lw_tbl[1368]? = some (Cond.code yX12_count cX12_count 5 (some .int)) := by rfl
set_option maxRecDepth 100000 in
theorem mc_202 : lw_tbl[1381]? = some (Cond.code yX12_sumIn cX12_sumIn 5 (some .int)) := by rfl
set_option maxRecDepth 100000 in
theorem mc_203 : lw_tbl[1373]? = some (Cond.code yX12_odds cX12_odds 9 (some .long)) := by rfl
set_option maxRecDepth 100000 in
theorem mc_204 : lw_tbl[1388]? = some (Cond.code yX12_group cX12_group 4 (some .int)) := by rfl
set_option maxRecDepth 100000 in
theorem mc_205 : lw_tbl[1392]? = some (Cond.code yX12_likes cX12_likes 5 (some .int)) := by rfl
set_option maxRecDepth 100000 in
theorem mc_206 : lw_tbl[1408]? = some (Cond.code yX12_placeIn cX12_placeIn 4 (some .int)) := by rfl
set_option maxRecDepth 100000 in
theorem mc_207 : lw_tbl[1412]? = some (Cond.code yX12_toldOf cX12_toldOf 2 (some .int)) := by rfl
set_option maxRecDepth 100000 in
theorem mc_208 : lw_tbl[1405]? = some (Cond.code yX12_thingOf cX12_thingOf 3 (some .int)) := by rfl
set_option maxRecDepth 100000 in
theorem mc_209 : lw_tbl[1399]? = some (Cond.code yX12_isThing cX12_isThing 1 (some .boolean)) := by rfl
set_option maxRecDepth 100000 in
theorem mc_210 : lw_tbl[1396]? = some (Cond.code yX12_put cX12_put 5 (some .int)) := by rfl
set_option maxRecDepth 100000 in
theorem mc_211 : lw_tbl[1419]? = some (Cond.code yX12_told cX12_told 4 (some .int)) := by rfl
set_option maxRecDepth 100000 in
theorem mc_212 : lw_tbl[1423]? = some (Cond.code yX12_miss cX12_miss 3 (some .int)) := by rfl
set_option maxRecDepth 100000 in
theorem mc_213 : lw_tbl[1430]? = some (Cond.code yX12_isSign cX12_isSign 1 (some .boolean)) := by rfl
set_option maxRecDepth 100000 in
theorem mc_214 : lw_tbl[1434]? = some (Cond.code yX12_isBarred cX12_isBarred 3 (some .boolean)) := by rfl
set_option maxRecDepth 100000 in
theorem mc_215 : lw_tbl[1427]? = some (Cond.code yX12_bar cX12_bar 4 (some .int)) := by rfl
set_option maxRecDepth 100000 in
theorem mc_216 : lw_tbl[1443]? = some (Cond.code yX12_noGrowing cX12_noGrowing 6 (some .int)) := by rfl
set_option maxRecDepth 100000 in
theorem mc_217 : lw_tbl[1438]? = some (Cond.code yX12_grow cX12_grow 11 (some .int)) := by rfl
set_option maxRecDepth 100000 in
theorem mc_218 : lw_tbl[1447]? = some (Cond.code yX12_gone cX12_gone 10 (some .int)) := by rfl
set_option maxRecDepth 100000 in
theorem mc_219 : lw_tbl[1455]? = some (Cond.code yX12_noState cX12_noState 2 (some .boolean)) := by rfl
set_option maxRecDepth 100000 in
theorem mc_220 : lw_tbl[1451]? = some (Cond.code yX12_answer cX12_answer 4 (some .int)) := by rfl
set_option maxRecDepth 100000 in
theorem mc_221 : lw_tbl[1459]? = some (Cond.code yX12_next cX12_next 3 (some .int)) := by rfl
set_option maxRecDepth 100000 in
theorem mc_222 : lw_tbl[1463]? = some (Cond.code yX12_rows cX12_rows 7 (some .int)) := by rfl
set_option maxRecDepth 100000 in
theorem mc_223 : lw_tbl[1467]? = some (Cond.code yX12_work cX12_work 4 (some .int)) := by rfl
set_option maxRecDepth 100000 in
theorem mc_224 : lw_tbl[1475]? = some (Cond.code yX12_areDoors cX12_areDoors 2 (some .boolean)) := by rfl
set_option maxRecDepth 100000 in
theorem mc_225 : lw_tbl[1479]? = some (Cond.code yX12_stillBy cX12_stillBy 4 (some .int)) := by rfl
set_option maxRecDepth 100000 in
theorem mc_226 : lw_tbl[1483]? = some (Cond.code yX12_harmOf cX12_harmOf 4 (some .int)) := by rfl
set_option maxRecDepth 100000 in
theorem mc_227 : lw_tbl[1471]? = some (Cond.code yX12_still cX12_still 4 (some .int)) := by rfl
set_option maxRecDepth 100000 in
theorem mc_228 : lw_tbl[1490]? = some (Cond.code yX12_areApart cX12_areApart 2 (some .boolean)) := by rfl
set_option maxRecDepth 100000 in
theorem mc_229 : lw_tbl[1495]? = some (Cond.code yX12_areParted cX12_areParted 7 (some .boolean)) := by rfl
set_option maxRecDepth 100000 in
theorem mc_230 : lw_tbl[1487]? = some (Cond.code yX12_parted cX12_parted 4 (some .int)) := by rfl
set_option maxRecDepth 100000 in
theorem mc_231 : lw_tbl[1499]? = some (Cond.code yX12_least cX12_least 8 (some .int)) := by rfl
set_option maxRecDepth 100000 in
theorem mc_232 : lw_tbl[1506]? = some (Cond.code yX12_noKeeper cX12_noKeeper 1 (some .boolean)) := by rfl
set_option maxRecDepth 100000 in
theorem mc_233 : lw_tbl[1503]? = some (Cond.code yX12_may cX12_may 5 (some .int)) := by rfl
set_option maxRecDepth 100000 in
theorem mc_234 : lw_tbl[1510]? = some (Cond.code yX12_look cX12_look 4 (some .int)) := by rfl
set_option maxRecDepth 100000 in
theorem mc_235 : lw_tbl[1514]? = some (Cond.code yX12_looks cX12_looks 5 (some .int)) := by rfl
set_option maxRecDepth 100000 in
theorem mc_236 : lw_tbl[1240]? = some (Cond.code yX12_noSheet cX12_noSheet 1 (some .boolean)) := by rfl
set_option maxRecDepth 100000 in
theorem mc_237 : lw_tbl[1518]? = some (Cond.code yX12_sheet cX12_sheet 5 (some .int)) := by rfl
set_option maxRecDepth 100000 in
theorem mc_238 : lw_tbl[1522]? = some (Cond.code yX12_lose cX12_lose 3 (some .int)) := by rfl
set_option maxRecDepth 100000 in
theorem mc_239 : lw_tbl[1530]? = some (Cond.code yX12_noCell cX12_noCell 3 (some .int)) := by rfl
set_option maxRecDepth 100000 in
theorem mc_240 : lw_tbl[1526]? = some (Cond.code yX12_set cX12_set 4 (some .int)) := by rfl
set_option maxRecDepth 100000 in
theorem mc_241 : lw_tbl[1534]? = some (Cond.code yX12_cell cX12_cell 4 (some .long)) := by rfl
set_option maxRecDepth 100000 in
theorem mc_242 : lw_tbl[1261]? = some (Cond.code yX12_isBeyond cX12_isBeyond 4 (some .boolean)) := by rfl
set_option maxRecDepth 100000 in
theorem mc_243 : lw_tbl[1542]? = some (Cond.code yX12_copy cX12_copy 7 (some .int)) := by rfl
set_option maxRecDepth 100000 in
theorem mc_244 : lw_tbl[1550]? = some (Cond.code yX12_traced cX12_traced 2 none) := by rfl
set_option maxRecDepth 100000 in
theorem mc_245 : lw_tbl[1546]? = some (Cond.code yX12_tell cX12_tell 4 (some .int)) := by rfl
set_option maxRecDepth 100000 in
theorem mc_246 : lw_tbl[1554]? = some (Cond.code yX12_call cX12_call 2 (some .int)) := by rfl
set_option maxRecDepth 100000 in
theorem mc_247 : lw_tbl[1558]? = some (Cond.code yX12_as cX12_as 3 (some .int)) := by rfl
set_option maxRecDepth 100000 in
theorem mc_248 : lw_tbl[1562]? = some (Cond.code yX12_trace cX12_trace 1 (some .int)) := by rfl
set_option maxRecDepth 100000 in
theorem mc_249 : lw_tbl[1566]? = some (Cond.code yX12_fault cX12_fault 1 (some .int)) := by rfl
set_option maxRecDepth 100000 in
theorem mc_250 : lw_tbl[1570]? = some (Cond.code yX12_many cX12_many 4 (some .int)) := by rfl
set_option maxRecDepth 100000 in
theorem mc_251 : lw_tbl[723]? = some (Cond.code yJ6_bitCount_0f7a4 cJ6_bitCount_0f7a4 1 (some .int)) := by rfl
set_option maxRecDepth 100000 in
theorem mc_252 : lw_tbl[569]? = some (Cond.code yJ9_max_7cf53 cJ9_max_7cf53 2 (some .int)) := by rfl
set_option maxRecDepth 100000 in
theorem mc_253 : lw_tbl[781]? = some (Cond.code yJ9_min_7cf53 cJ9_min_7cf53 2 (some .int)) := by rfl
set_option maxRecDepth 100000 in
theorem mc_254 : lw_tbl[272]? = some (Cond.code yJ7_fill_53178 cJ7_fill_53178 4 none) := by rfl
theorem mcode : ∀ k, k < 255 → Cond.code (yM k) (cM k) (lM k) (rM k) ∈ tgw
  | 0, _ => tgw_at mc_0 rfl
  | 1, _ => tgw_at mc_1 rfl
  | 2, _ => tgw_at mc_2 rfl
  | 3, _ => tgw_at mc_3 rfl
  | 4, _ => tgw_at mc_4 rfl
  | 5, _ => tgw_at mc_5 rfl
  | 6, _ => tgw_at mc_6 rfl
  | 7, _ => tgw_at mc_7 rfl
  | 8, _ => tgw_at mc_8 rfl
  | 9, _ => tgw_at mc_9 rfl
  | 10, _ => tgw_at mc_10 rfl
  | 11, _ => tgw_at mc_11 rfl
  | 12, _ => tgw_at mc_12 rfl
  | 13, _ => tgw_at mc_13 rfl
  | 14, _ => tgw_at mc_14 rfl
  | 15, _ => tgw_at mc_15 rfl
  | 16, _ => tgw_at mc_16 rfl
  | 17, _ => tgw_at mc_17 rfl
  | 18, _ => tgw_at mc_18 rfl
  | 19, _ => tgw_at mc_19 rfl
  | 20, _ => tgw_at mc_20 rfl
  | 21, _ => tgw_at mc_21 rfl
  | 22, _ => tgw_at mc_22 rfl
  | 23, _ => tgw_at mc_23 rfl
  | 24, _ => tgw_at mc_24 rfl
  | 25, _ => tgw_at mc_25 rfl
  | 26, _ => tgw_at mc_26 rfl
  | 27, _ => tgw_at mc_27 rfl
  | 28, _ => tgw_at mc_28 rfl
  | 29, _ => tgw_at mc_29 rfl
  | 30, _ => tgw_at mc_30 rfl
  | 31, _ => tgw_at mc_31 rfl
  | 32, _ => tgw_at mc_32 rfl
  | 33, _ => tgw_at mc_33 rfl
  | 34, _ => tgw_at mc_34 rfl
  | 35, _ => tgw_at mc_35 rfl
  | 36, _ => tgw_at mc_36 rfl
  | 37, _ => tgw_at mc_37 rfl
  | 38, _ => tgw_at mc_38 rfl
  | 39, _ => tgw_at mc_39 rfl
  | 40, _ => tgw_at mc_40 rfl
  | 41, _ => tgw_at mc_41 rfl
  | 42, _ => tgw_at mc_42 rfl
  | 43, _ => tgw_at mc_43 rfl
  | 44, _ => tgw_at mc_44 rfl
  | 45, _ => tgw_at mc_45 rfl
  | 46, _ => tgw_at mc_46 rfl
  | 47, _ => tgw_at mc_47 rfl
  | 48, _ => tgw_at mc_48 rfl
  | 49, _ => tgw_at mc_49 rfl
  | 50, _ => tgw_at mc_50 rfl
  | 51, _ => tgw_at mc_51 rfl
  | 52, _ => tgw_at mc_52 rfl
  | 53, _ => tgw_at mc_53 rfl
  | 54, _ => tgw_at mc_54 rfl
  | 55, _ => tgw_at mc_55 rfl
  | 56, _ => tgw_at mc_56 rfl
  | 57, _ => tgw_at mc_57 rfl
  | 58, _ => tgw_at mc_58 rfl
  | 59, _ => tgw_at mc_59 rfl
  | 60, _ => tgw_at mc_60 rfl
  | 61, _ => tgw_at mc_61 rfl
  | 62, _ => tgw_at mc_62 rfl
  | 63, _ => tgw_at mc_63 rfl
  | 64, _ => tgw_at mc_64 rfl
  | 65, _ => tgw_at mc_65 rfl
  | 66, _ => tgw_at mc_66 rfl
  | 67, _ => tgw_at mc_67 rfl
  | 68, _ => tgw_at mc_68 rfl
  | 69, _ => tgw_at mc_69 rfl
  | 70, _ => tgw_at mc_70 rfl
  | 71, _ => tgw_at mc_71 rfl
  | 72, _ => tgw_at mc_72 rfl
  | 73, _ => tgw_at mc_73 rfl
  | 74, _ => tgw_at mc_74 rfl
  | 75, _ => tgw_at mc_75 rfl
  | 76, _ => tgw_at mc_76 rfl
  | 77, _ => tgw_at mc_77 rfl
  | 78, _ => tgw_at mc_78 rfl
  | 79, _ => tgw_at mc_79 rfl
  | 80, _ => tgw_at mc_80 rfl
  | 81, _ => tgw_at mc_81 rfl
  | 82, _ => tgw_at mc_82 rfl
  | 83, _ => tgw_at mc_83 rfl
  | 84, _ => tgw_at mc_84 rfl
  | 85, _ => tgw_at mc_85 rfl
  | 86, _ => tgw_at mc_86 rfl
  | 87, _ => tgw_at mc_87 rfl
  | 88, _ => tgw_at mc_88 rfl
  | 89, _ => tgw_at mc_89 rfl
  | 90, _ => tgw_at mc_90 rfl
  | 91, _ => tgw_at mc_91 rfl
  | 92, _ => tgw_at mc_92 rfl
  | 93, _ => tgw_at mc_93 rfl
  | 94, _ => tgw_at mc_94 rfl
  | 95, _ => tgw_at mc_95 rfl
  | 96, _ => tgw_at mc_96 rfl
  | 97, _ => tgw_at mc_97 rfl
  | 98, _ => tgw_at mc_98 rfl
  | 99, _ => tgw_at mc_99 rfl
  | 100, _ => tgw_at mc_100 rfl
  | 101, _ => tgw_at mc_101 rfl
  | 102, _ => tgw_at mc_102 rfl
  | 103, _ => tgw_at mc_103 rfl
  | 104, _ => tgw_at mc_104 rfl
  | 105, _ => tgw_at mc_105 rfl
  | 106, _ => tgw_at mc_106 rfl
  | 107, _ => tgw_at mc_107 rfl
  | 108, _ => tgw_at mc_108 rfl
  | 109, _ => tgw_at mc_109 rfl
  | 110, _ => tgw_at mc_110 rfl
  | 111, _ => tgw_at mc_111 rfl
  | 112, _ => tgw_at mc_112 rfl
  | 113, _ => tgw_at mc_113 rfl
  | 114, _ => tgw_at mc_114 rfl
  | 115, _ => tgw_at mc_115 rfl
  | 116, _ => tgw_at mc_116 rfl
  | 117, _ => tgw_at mc_117 rfl
  | 118, _ => tgw_at mc_118 rfl
  | 119, _ => tgw_at mc_119 rfl
  | 120, _ => tgw_at mc_120 rfl
  | 121, _ => tgw_at mc_121 rfl
  | 122, _ => tgw_at mc_122 rfl
  | 123, _ => tgw_at mc_123 rfl
  | 124, _ => tgw_at mc_124 rfl
  | 125, _ => tgw_at mc_125 rfl
  | 126, _ => tgw_at mc_126 rfl
  | 127, _ => tgw_at mc_127 rfl
  | 128, _ => tgw_at mc_128 rfl
  | 129, _ => tgw_at mc_129 rfl
  | 130, _ => tgw_at mc_130 rfl
  | 131, _ => tgw_at mc_131 rfl
  | 132, _ => tgw_at mc_132 rfl
  | 133, _ => tgw_at mc_133 rfl
  | 134, _ => tgw_at mc_134 rfl
  | 135, _ => tgw_at mc_135 rfl
  | 136, _ => tgw_at mc_136 rfl
  | 137, _ => tgw_at mc_137 rfl
  | 138, _ => tgw_at mc_138 rfl
  | 139, _ => tgw_at mc_139 rfl
  | 140, _ => tgw_at mc_140 rfl
  | 141, _ => tgw_at mc_141 rfl
  | 142, _ => tgw_at mc_142 rfl
  | 143, _ => tgw_at mc_143 rfl
  | 144, _ => tgw_at mc_144 rfl
  | 145, _ => tgw_at mc_145 rfl
  | 146, _ => tgw_at mc_146 rfl
  | 147, _ => tgw_at mc_147 rfl
  | 148, _ => tgw_at mc_148 rfl
  | 149, _ => tgw_at mc_149 rfl
  | 150, _ => tgw_at mc_150 rfl
  | 151, _ => tgw_at mc_151 rfl
  | 152, _ => tgw_at mc_152 rfl
  | 153, _ => tgw_at mc_153 rfl
  | 154, _ => tgw_at mc_154 rfl
  | 155, _ => tgw_at mc_155 rfl
  | 156, _ => tgw_at mc_156 rfl
  | 157, _ => tgw_at mc_157 rfl
  | 158, _ => tgw_at mc_158 rfl
  | 159, _ => tgw_at mc_159 rfl
  | 160, _ => tgw_at mc_160 rfl
  | 161, _ => tgw_at mc_161 rfl
  | 162, _ => tgw_at mc_162 rfl
  | 163, _ => tgw_at mc_163 rfl
  | 164, _ => tgw_at mc_164 rfl
  | 165, _ => tgw_at mc_165 rfl
  | 166, _ => tgw_at mc_166 rfl
  | 167, _ => tgw_at mc_167 rfl
  | 168, _ => tgw_at mc_168 rfl
  | 169, _ => tgw_at mc_169 rfl
  | 170, _ => tgw_at mc_170 rfl
  | 171, _ => tgw_at mc_171 rfl
  | 172, _ => tgw_at mc_172 rfl
  | 173, _ => tgw_at mc_173 rfl
  | 174, _ => tgw_at mc_174 rfl
  | 175, _ => tgw_at mc_175 rfl
  | 176, _ => tgw_at mc_176 rfl
  | 177, _ => tgw_at mc_177 rfl
  | 178, _ => tgw_at mc_178 rfl
  | 179, _ => tgw_at mc_179 rfl
  | 180, _ => tgw_at mc_180 rfl
  | 181, _ => tgw_at mc_181 rfl
  | 182, _ => tgw_at mc_182 rfl
  | 183, _ => tgw_at mc_183 rfl
  | 184, _ => tgw_at mc_184 rfl
  | 185, _ => tgw_at mc_185 rfl
  | 186, _ => tgw_at mc_186 rfl
  | 187, _ => tgw_at mc_187 rfl
  | 188, _ => tgw_at mc_188 rfl
  | 189, _ => tgw_at mc_189 rfl
  | 190, _ => tgw_at mc_190 rfl
  | 191, _ => tgw_at mc_191 rfl
  | 192, _ => tgw_at mc_192 rfl
  | 193, _ => tgw_at mc_193 rfl
  | 194, _ => tgw_at mc_194 rfl
  | 195, _ => tgw_at mc_195 rfl
  | 196, _ => tgw_at mc_196 rfl
  | 197, _ => tgw_at mc_197 rfl
  | 198, _ => tgw_at mc_198 rfl
  | 199, _ => tgw_at mc_199 rfl
  | 200, _ => tgw_at mc_200 rfl
  | 201, _ => tgw_at mc_201 rfl
  | 202, _ => tgw_at mc_202 rfl
  | 203, _ => tgw_at mc_203 rfl
  | 204, _ => tgw_at mc_204 rfl
  | 205, _ => tgw_at mc_205 rfl
  | 206, _ => tgw_at mc_206 rfl
  | 207, _ => tgw_at mc_207 rfl
  | 208, _ => tgw_at mc_208 rfl
  | 209, _ => tgw_at mc_209 rfl
  | 210, _ => tgw_at mc_210 rfl
  | 211, _ => tgw_at mc_211 rfl
  | 212, _ => tgw_at mc_212 rfl
  | 213, _ => tgw_at mc_213 rfl
  | 214, _ => tgw_at mc_214 rfl
  | 215, _ => tgw_at mc_215 rfl
  | 216, _ => tgw_at mc_216 rfl
  | 217, _ => tgw_at mc_217 rfl
  | 218, _ => tgw_at mc_218 rfl
  | 219, _ => tgw_at mc_219 rfl
  | 220, _ => tgw_at mc_220 rfl
  | 221, _ => tgw_at mc_221 rfl
  | 222, _ => tgw_at mc_222 rfl
  | 223, _ => tgw_at mc_223 rfl
  | 224, _ => tgw_at mc_224 rfl
  | 225, _ => tgw_at mc_225 rfl
  | 226, _ => tgw_at mc_226 rfl
  | 227, _ => tgw_at mc_227 rfl
  | 228, _ => tgw_at mc_228 rfl
  | 229, _ => tgw_at mc_229 rfl
  | 230, _ => tgw_at mc_230 rfl
  | 231, _ => tgw_at mc_231 rfl
  | 232, _ => tgw_at mc_232 rfl
  | 233, _ => tgw_at mc_233 rfl
  | 234, _ => tgw_at mc_234 rfl
  | 235, _ => tgw_at mc_235 rfl
  | 236, _ => tgw_at mc_236 rfl
  | 237, _ => tgw_at mc_237 rfl
  | 238, _ => tgw_at mc_238 rfl
  | 239, _ => tgw_at mc_239 rfl
  | 240, _ => tgw_at mc_240 rfl
  | 241, _ => tgw_at mc_241 rfl
  | 242, _ => tgw_at mc_242 rfl
  | 243, _ => tgw_at mc_243 rfl
  | 244, _ => tgw_at mc_244 rfl
  | 245, _ => tgw_at mc_245 rfl
  | 246, _ => tgw_at mc_246 rfl
  | 247, _ => tgw_at mc_247 rfl
  | 248, _ => tgw_at mc_248 rfl
  | 249, _ => tgw_at mc_249 rfl
  | 250, _ => tgw_at mc_250 rfl
  | 251, _ => tgw_at mc_251 rfl
  | 252, _ => tgw_at mc_252 rfl
  | 253, _ => tgw_at mc_253 rfl
  | 254, _ => tgw_at mc_254 rfl
  | k + 255, h => absurd h (by omega)
/-- which method a pool entry names: own class, entry; method; the word's place, is it a nest mate's -/
def cresL : List (Nat × Nat × Nat × Nat × Bool) := [(13, 9, 80, 79, false), (11, 13, 20, 0, true), (11, 20, 76, 1, true), (11, 39, 3, 2, true), (11, 46, 0, 3, true), (11, 53, 10, 4, true), (11, 60, 50, 5, true), (11, 67, 66, 6, true), (11, 74, 17, 266, false), (3, 21, 254, 270, false), (11, 85, 44, 7, true), (13, 13, 94, 362, false), (11, 110, 83, 366, false), (11, 90, 82, 369, false), (11, 86, 81, 372, false), (11, 114, 21, 375, false), (11, 117, 23, 379, false), (11, 121, 24, 383, false), (4, 37, 26, 387, false), (13, 18, 95, 391, false), (11, 124, 22, 395, false), (11, 127, 25, 399, false), (13, 22, 96, 403, false), (11, 130, 27, 407, false), (13, 27, 97, 411, false), (11, 134, 28, 415, false), (4, 47, 21, 419, false), (11, 137, 29, 420, false), (11, 140, 30, 424, false), (13, 32, 98, 428, false), (11, 144, 35, 432, false), (4, 55, 31, 436, false), (4, 59, 36, 440, false), (4, 68, 254, 444, false), (4, 74, 37, 445, false), (4, 65, 38, 449, false), (13, 37, 99, 453, false), (11, 154, 31, 457, false), (11, 157, 32, 458, false), (11, 160, 33, 462, false), (13, 41, 100, 466, false), (11, 164, 58, 471, false), (8, 34, 254, 475, false), (13, 45, 101, 515, false), (11, 170, 89, 519, false), (11, 174, 91, 523, false), (11, 178, 84, 527, false), (11, 181, 135, 530, false), (11, 385, 85, 534, false), (11, 388, 46, 537, false), (11, 391, 133, 541, false), (11, 398, 47, 545, false), (11, 185, 48, 549, false), (6, 32, 81, 8, true), (11, 195, 39, 554, false), (4, 78, 22, 558, false), (11, 202, 60, 559, false), (8, 45, 61, 563, false), (8, 52, 252, 567, false), (13, 50, 102, 570, false), (11, 209, 63, 574, false), (11, 213, 64, 578, false), (11, 216, 65, 582, false), (13, 54, 103, 586, false), (11, 225, 59, 590, false), (11, 228, 62, 594, false), (13, 58, 104, 598, false), (11, 231, 40, 603, false), (13, 63, 105, 617, false), (11, 234, 90, 621, false), (11, 238, 42, 625, false), (5, 36, 63, 629, false), (5, 40, 41, 630, false), (5, 30, 62, 634, false), (11, 242, 43, 635, false), (13, 67, 106, 639, false), (11, 248, 107, 643, false), (11, 252, 4, 647, false), (11, 255, 5, 651, false), (13, 72, 108, 655, false), (13, 76, 109, 659, false), (13, 80, 110, 663, false), (11, 271, 6, 668, false), (11, 274, 93, 672, false), (11, 104, 92, 675, false), (13, 85, 111, 678, false), (11, 278, 1, 682, false), (0, 27, 2, 686, false), (11, 281, 7, 690, false), (1, 44, 8, 694, false), (1, 51, 9, 698, false), (13, 89, 112, 702, false), (11, 285, 11, 706, false), (13, 93, 113, 710, false), (11, 289, 86, 714, false), (11, 292, 14, 717, false), (2, 18, 251, 721, false), (2, 27, 12, 727, false), (2, 31, 15, 731, false), (11, 295, 13, 734, false), (13, 98, 114, 740, false), (13, 102, 115, 744, false), (11, 301, 16, 748, false), (13, 106, 116, 752, false), (11, 304, 51, 756, false), (7, 21, 81, 9, true), (11, 307, 54, 760, false), (7, 35, 53, 764, false), (7, 39, 52, 768, false), (11, 310, 55, 775, false), (7, 43, 253, 779, false), (13, 110, 117, 782, false), (11, 313, 56, 786, false), (13, 114, 118, 790, false), (11, 316, 57, 794, false), (7, 48, 55, 798, false), (13, 119, 120, 799, false), (11, 319, 119, 803, false), (11, 322, 67, 806, false), (11, 325, 68, 810, false), (13, 123, 121, 814, false), (11, 328, 70, 818, false), (9, 31, 71, 822, false), (9, 47, 67, 826, false), (9, 40, 69, 827, false), (9, 44, 72, 831, false), (13, 127, 122, 835, false), (11, 332, 74, 839, false), (9, 51, 73, 843, false), (13, 131, 123, 847, false), (13, 135, 124, 851, false), (11, 341, 69, 855, false), (13, 139, 125, 856, false), (11, 344, 75, 860, false), (9, 54, 254, 864, false), (13, 143, 126, 865, false), (11, 347, 77, 869, false), (13, 147, 127, 873, false), (11, 349, 88, 877, false), (11, 352, 78, 881, false), (10, 25, 34, 885, false), (4, 51, 33, 889, false), (11, 356, 79, 890, false), (13, 151, 128, 894, false), (11, 359, 87, 898, false), (11, 362, 34, 901, false), (13, 155, 129, 902, false), (11, 368, 251, 906, false), (13, 159, 130, 907, false), (11, 373, 18, 911, false), (13, 163, 131, 915, false), (11, 376, 19, 919, false), (13, 167, 132, 923, false), (13, 171, 136, 927, false), (11, 401, 45, 931, false), (6, 26, 254, 935, false), (13, 175, 137, 936, false), (13, 179, 138, 940, false), (11, 407, 49, 944, false), (13, 183, 139, 948, false), (11, 410, 134, 952, false), (13, 187, 140, 956, false), (13, 192, 141, 961, false), (11, 423, 145, 965, false), (11, 436, 142, 969, false), (11, 427, 144, 973, false), (11, 430, 143, 977, false), (13, 196, 146, 981, false), (13, 200, 147, 985, false), (13, 204, 148, 989, false), (13, 208, 149, 993, false), (13, 212, 150, 997, false), (13, 12, 151, 1003, false), (13, 17, 166, 1174, false), (12, 169, 165, 1178, false), (12, 143, 152, 1182, false), (12, 173, 154, 1185, false), (13, 21, 168, 1188, false), (12, 180, 167, 1192, false), (13, 26, 169, 1196, false), (13, 31, 170, 1200, false), (13, 36, 174, 1204, false), (12, 192, 172, 1209, false), (12, 186, 171, 1213, false), (12, 196, 173, 1217, false), (13, 40, 175, 1221, false), (13, 44, 177, 1225, false), (13, 49, 180, 1230, false), (12, 202, 176, 1234, false), (12, 205, 236, 1238, false), (12, 156, 160, 1242, false), (12, 210, 159, 1247, false), (12, 213, 163, 1251, false), (12, 160, 161, 1255, false), (12, 163, 242, 1259, false), (12, 219, 164, 1263, false), (12, 223, 178, 1267, false), (12, 226, 179, 1271, false), (13, 53, 183, 1275, false), (12, 230, 181, 1279, false), (12, 233, 182, 1283, false), (13, 57, 185, 1287, false), (12, 238, 184, 1292, false), (13, 62, 187, 1296, false), (13, 66, 190, 1301, false), (12, 251, 186, 1305, false), (12, 254, 189, 1309, false), (12, 247, 188, 1313, false), (13, 71, 192, 1317, false), (12, 261, 191, 1321, false), (13, 75, 193, 1325, false), (13, 79, 194, 1329, false), (13, 84, 195, 1333, false), (12, 150, 153, 1337, false), (12, 264, 158, 1341, false), (12, 137, 157, 1344, false), (13, 88, 199, 1347, false), (12, 285, 196, 1351, false), (12, 289, 198, 1357, false), (12, 282, 197, 1361, false), (13, 92, 201, 1365, false), (13, 97, 203, 1370, false), (12, 296, 200, 1374, false), (12, 299, 202, 1378, false), (12, 302, 155, 1382, false), (13, 101, 204, 1385, false), (13, 105, 205, 1389, false), (13, 109, 210, 1393, false), (12, 318, 209, 1397, false), (12, 323, 208, 1402, false), (12, 307, 206, 1406, false), (12, 326, 207, 1409, false), (12, 310, 156, 1413, false), (13, 113, 211, 1416, false), (13, 118, 212, 1420, false), (13, 122, 215, 1424, false), (12, 332, 213, 1428, false), (12, 335, 214, 1431, false), (13, 126, 217, 1435, false), (12, 340, 216, 1440, false), (13, 130, 218, 1444, false), (13, 134, 220, 1448, false), (12, 343, 219, 1452, false), (13, 138, 221, 1456, false), (13, 142, 222, 1460, false), (13, 146, 223, 1464, false), (13, 150, 227, 1468, false), (12, 349, 224, 1472, false), (12, 352, 225, 1476, false), (12, 355, 226, 1480, false), (13, 154, 230, 1484, false), (12, 360, 228, 1488, false), (12, 363, 229, 1492, false), (13, 158, 231, 1496, false), (13, 162, 233, 1500, false), (12, 367, 232, 1504, false), (13, 166, 234, 1507, false), (13, 170, 235, 1511, false), (13, 174, 237, 1515, false), (13, 178, 238, 1519, false), (13, 182, 240, 1523, false), (12, 373, 239, 1527, false), (13, 186, 241, 1531, false), (12, 376, 162, 1535, false), (13, 191, 243, 1539, false), (13, 195, 245, 1543, false), (12, 383, 244, 1547, false), (13, 199, 246, 1551, false), (13, 203, 247, 1555, false), (13, 207, 248, 1559, false), (13, 211, 249, 1563, false), (13, 215, 250, 1567, false)]
def nestQ : List (String × Nat × MethodName × String) := [("WireWatch", 13, yM 20, "WireWatch"), ("WireWatch", 20, yM 76, "WireWatch"), ("WireWatch", 39, yM 3, "WireWatch"), ("WireWatch", 46, yM 0, "WireWatch"), ("WireWatch", 53, yM 10, "WireWatch"), ("WireWatch", 60, yM 50, "WireWatch"), ("WireWatch", 67, yM 66, "WireWatch"), ("WireWatch", 85, yM 44, "WireWatch"), ("WireWatch$Sheet", 32, yM 81, "WireWatch"), ("WireWatch$Sketch", 21, yM 81, "WireWatch")]
def cres (o idx : Nat) : Option Nat := (cresL.find? (fun q => q.1 == o && q.2.1 == idx)).map (fun q => q.2.2.1)
def okC (q : Nat × Nat × Nat × Nat × Bool) : Bool := match q with
  | (o, idx, k, ps, nst) => decide (k < 255) && (if nst = true then decide (nestQ[ps]? = some (RN o, idx, yM k, RN 11)) else decide (lw_tbl[ps]? = some (Cond.methodLink (RN o) idx (yM k))))
theorem cresL_ok : cresL.all okC = true := by decide +kernel
theorem cres_ok {o idx k : Nat} (h : cres o idx = some k) : k < 255 ∧ (Cond.methodLink (RN o) idx (yM k) ∈ tgw ∨ (RN o, idx, yM k, RN 11) ∈ nestQ) := by
  unfold cres at h
  cases hq : cresL.find? (fun q => q.1 == o && q.2.1 == idx) with
  | none => rw [hq] at h; cases h
  | some q =>
    rw [hq] at h
    obtain ⟨o', idx', k', ps, nst⟩ := q
    have h1 := List.find?_some hq
    have h2 := List.all_eq_true.mp cresL_ok _ (List.mem_of_find?_eq_some hq)
    simp only [Bool.and_eq_true, beq_iff_eq] at h1
    obtain ⟨rfl, rfl⟩ := h1
    cases h
    simp only [okC, Bool.and_eq_true, decide_eq_true_eq] at h2
    obtain ⟨h3, h4⟩ := h2
    refine ⟨h3, ?_⟩
    cases nst with
    | true => exact Or.inr (List.mem_of_getElem? (by simpa using h4))
    | false => exact Or.inl (tgw_at (by simpa using h4) rfl)
/-- constants: own class, entry; value; the word's place -/
def kresL : List (Nat × Nat × Int32 × Nat) := [(14, 265, 1431655765, 724), (14, 266, 858993459, 725), (14, 267, 252645135, 726)]
def lresL : List (Nat × Nat × Int64 × Nat) := [(11, 108, -9223372036854775808, 667), (12, 167, 9, 1181), (12, 190, -1, 1208), (12, 154, 2, 1229), (12, 305, 3, 1241), (12, 208, 59, 1246), (12, 141, 999, 1250), (12, 217, 20, 1262), (12, 236, 78, 1291), (12, 245, 6, 1300), (12, 135, -9223372036854775808, 1340), (12, 274, 48, 1355), (12, 276, 57, 1356), (12, 294, 13, 1369), (12, 292, 16383, 1377), (12, 316, 9999, 1400), (12, 321, 99, 1401), (12, 338, 10, 1439), (12, 358, 1023, 1491)]
def kres (o idx : Nat) : Option Int32 := (kresL.find? (fun q => q.1 == o && q.2.1 == idx)).map (fun q => q.2.2.1)
def lres (o idx : Nat) : Option Int64 := (lresL.find? (fun q => q.1 == o && q.2.1 == idx)).map (fun q => q.2.2.1)
theorem kresL_ok : kresL.all (fun q => decide (lw_tbl[q.2.2.2]? = some (Cond.constant (RN q.1) q.2.1 q.2.2.1))) = true := by decide +kernel
theorem lresL_ok : lresL.all (fun q => decide (lw_tbl[q.2.2.2]? = some (Cond.constantLong (RN q.1) q.2.1 q.2.2.1))) = true := by decide +kernel
theorem kres_ok {o idx : Nat} {v : Int32} (h : kres o idx = some v) : Cond.constant (RN o) idx v ∈ tgw := by
  unfold kres at h
  cases hq : kresL.find? (fun q => q.1 == o && q.2.1 == idx) with
  | none => rw [hq] at h; cases h
  | some q =>
    rw [hq] at h
    obtain ⟨o', idx', v', ps⟩ := q
    have h1 := List.find?_some hq
    have h2 := List.all_eq_true.mp kresL_ok _ (List.mem_of_find?_eq_some hq)
    simp only [Bool.and_eq_true, beq_iff_eq] at h1
    obtain ⟨rfl, rfl⟩ := h1
    cases h
    simp only [decide_eq_true_eq] at h2
    exact tgw_at h2 rfl
theorem lres_ok {o idx : Nat} {v : Int64} (h : lres o idx = some v) : Cond.constantLong (RN o) idx v ∈ tgw := by
  unfold lres at h
  cases hq : lresL.find? (fun q => q.1 == o && q.2.1 == idx) with
  | none => rw [hq] at h; cases h
  | some q =>
    rw [hq] at h
    obtain ⟨o', idx', v', ps⟩ := q
    have h1 := List.find?_some hq
    have h2 := List.all_eq_true.mp lresL_ok _ (List.mem_of_find?_eq_some hq)
    simp only [Bool.and_eq_true, beq_iff_eq] at h1
    obtain ⟨rfl, rfl⟩ := h1
    cases h
    simp only [decide_eq_true_eq] at h2
    exact tgw_at h2 rfl
end
section
/-! part 02: the abstract memory (kinds, references, ints), how a heap holds it, and the judgement AW over the kit's W -/
abbrev aM : Type := Nat → Nat × Nat
abbrev aR : Type := Nat → Nat → Option Nat
abbrev aS : Type := Nat → Nat → Int32
def cv (B : Nat) : Value → Value
  | .ref a => .ref (B + a)
  | v => v
def rb (B : Nat) (r : Option Nat) : Option Nat := r.map (fun a => B + a)
theorem cv_rf (B : Nat) (r : Option Nat) : cv B (va_rf r) = va_rf (rb B r) := by cases r <;> rfl
theorem cv_cat (B : Nat) (v : Value) : (cv B v).category = v.category := by cases v <;> rfl
/-- a long as two ints -/
def jlo (x : Int64) : Int32 := Int32.ofInt (x.toInt % 4294967296)
def jhi (x : Int64) : Int32 := Int32.ofInt (x.toInt / 4294967296)
def jl (l h : Int32) : Int64 := Int64.ofInt (h.toInt * 4294967296 + l.toInt % 4294967296)
theorem jl_eq (x : Int64) : jl (jlo x) (jhi x) = x := by
  have h1 : -9223372036854775808 ≤ x.toInt := Int64.minValue_le_toInt x
  have h2 : x.toInt ≤ 9223372036854775807 := Int64.toInt_le x
  have e1 : (jlo x).toInt % 4294967296 = x.toInt % 4294967296 := by
    unfold jlo
    rw [Int32.toInt_ofInt]
    simp only [Int32.size, Int.bmod_def]
    omega
  have e2 : (jhi x).toInt = x.toInt / 4294967296 := by
    unfold jhi
    rw [Int32.toInt_ofInt]
    simp only [Int32.size, Int.bmod_def]
    omega
  unfold jl
  rw [e1, e2, show x.toInt / 4294967296 * 4294967296 + x.toInt % 4294967296 = x.toInt by omega]
  exact Int64.ofInt_toInt x
theorem jl_00 : jl 0 0 = 0 := by decide
theorem nN_le : ∀ ci, ci < 13 → nN ci ≤ 60 := by decide
/-- the fields of an object, in the order of its table -/
def fvl (B kd k : Nat) (ra : Nat → Option Nat) (sa : Nat → Int32) : Value := match kd with
  | 1 => .int (sa k)
  | 2 => .long (jl (sa (100 + k)) (sa (200 + k)))
  | _ => va_rf (rb B (ra k))
def aF (B ci : Nat) (ra : Nat → Option Nat) (sa : Nat → Int32) : List Value := (List.range (nN ci)).map (fun k => fvl B (kdT (tyN ci k)) k ra sa)
/-- a cell: kinds 1 int[], 2 boolean[], 3 Row[], 4 Sheet[], 5 Talk[], 10 and the class's number an object -/
def aE (dA : Nat → ClassId) (B : Nat) (q : Nat × Nat) (ra : Nat → Option Nat) (sa : Nat → Int32) : va_E :=
  if 10 ≤ q.1 then .inr (q.1 - 10, aF B (q.1 - 10) ra sa)
  else if 3 ≤ q.1 then .inl (dA q.1, q.2, .inr (.inr (.inr (.inr (fun i => rb B (ra i))))))
  else .inl (dA q.1, q.2, .inl sa)
def aW (dA : Nat → ClassId) (B n : Nat) (mu : aM) (ro : aR) (sg : aS) : va_W := (List.range n).map (fun a => (B + a, aE dA B (mu a) (ro a) (sg a)))
theorem aW_at {dA : Nat → ClassId} {B n : Nat} {mu : aM} {ro : aR} {sg : aS} {a : Nat} (h : a < n) : (aW dA B n mu ro sg)[a]? = some (B + a, aE dA B (mu a) (ro a) (sg a)) := by
  simp [aW, h]
theorem aW_in {dA : Nat → ClassId} {B n : Nat} {mu : aM} {ro : aR} {sg : aS} {k : Nat} {q : Nat × va_E} (h : (aW dA B n mu ro sg)[k]? = some q) : k < n ∧ q = (B + k, aE dA B (mu k) (ro k) (sg k)) := by
  have hk : k < n := by
    have := (List.getElem?_eq_some_iff.mp h).1
    simpa [aW] using this
  exact ⟨hk, (Option.some.inj ((aW_at hk).symm.trans h)).symm⟩
def aTy (dA : Nat → ClassId) : List (ClassId × FieldType) := [(dA 1, .int), (dA 2, .boolean), (dA 3, .object RX5), (dA 4, .object RX6), (dA 5, .object RX8)]
/-- a heap holds the memory -/
def aP (D : va_G) (dA : Nat → ClassId) (B n : Nat) (mu : aM) (ro : aR) (sg : aS) (H : Heap) : Prop := va_P D vwCl (aW dA B n mu ro sg) H ∧ ∀ a, n ≤ a → (mu a).1 = 0
theorem aP.lt {D : va_G} {dA : Nat → ClassId} {B n : Nat} {mu : aM} {ro : aR} {sg : aS} {H : Heap} (h : aP D dA B n mu ro sg H) {a : Nat} (ha : (mu a).1 ≠ 0) : a < n := by
  rcases Nat.lt_or_ge a n with q | q
  · exact q
  · exact absurd (h.2 a q) ha
theorem aD (dA : Nat → ClassId) (B n : Nat) (mu : aM) (ro : aR) (sg : aS) : va_D (fun q => B ≤ q) (aW dA B n mu ro sg) := by
  refine ⟨fun i j x y hi hj hxy => ?_, fun k q hk => ?_⟩
  · obtain ⟨-, rfl⟩ := aW_in hi
    obtain ⟨-, rfl⟩ := aW_in hj
    simp only at hxy
    omega
  · obtain ⟨-, rfl⟩ := aW_in hk
    exact Nat.le_add_right B k
/-- a cell is set -/
theorem aP.set {D : va_G} {dA : Nat → ClassId} {B n : Nat} {mu : aM} {ro ro' : aR} {sg sg' : aS} {H H1 : Heap} (h : aP D dA B n mu ro sg H) {a : Nat} (ha : a < n) (hs : ∀ b, b ≠ a → sg' b = sg b) (hr : ∀ b, b ≠ a → ro' b = ro b)
    (hP : va_P D vwCl ((aW dA B n mu ro sg).set a (B + a, aE dA B (mu a) (ro' a) (sg' a))) H1) : aP D dA B n mu ro' sg' H1 := by
  refine ⟨fun k q hk => ?_, h.2⟩
  obtain ⟨hkn, rfl⟩ := aW_in hk
  refine hP k _ ?_
  by_cases hka : k = a
  · subst hka
    rw [List.getElem?_set_self (by simpa [aW] using hkn)]
  · rw [List.getElem?_set_ne (Ne.symm hka), aW_at hkn, hs k hka, hr k hka]
/-- a cell comes -/
theorem aP.push {D : va_G} {dA : Nat → ClassId} {B n : Nat} {mu mu' : aM} {ro ro' : aR} {sg sg' : aS} {H1 : Heap} (h2 : ∀ a, n ≤ a → (mu a).1 = 0) (hm : ∀ b, b ≠ n → mu' b = mu b) (hs : ∀ b, b ≠ n → sg' b = sg b) (hr : ∀ b, b ≠ n → ro' b = ro b)
    (hP : va_P D vwCl (aW dA B n mu ro sg ++ [(B + n, aE dA B (mu' n) (ro' n) (sg' n))]) H1) : aP D dA B (n + 1) mu' ro' sg' H1 := by
  refine ⟨fun k q hk => ?_, fun a ha => by rw [hm a (by omega)]; exact h2 a (by omega)⟩
  obtain ⟨hkn, rfl⟩ := aW_in hk
  refine hP k _ ?_
  by_cases hka : k = n
  · subst hka
    rw [List.getElem?_append_right (by simp [aW])]
    simp [aW]
  · rw [List.getElem?_append_left (by simp [aW]; omega), aW_at (by omega), hs k hka, hr k hka, hm k hka]
theorem aE_obj {dA : Nat → ClassId} {B ci N : Nat} {q : Nat × Nat} {ra : Nat → Option Nat} {sa : Nat → Int32} (h : q.1 = 10 + ci) : aE dA B q ra sa = .inr (ci, aF B ci ra sa) := by
  simp [aE, h]
theorem aE_int {dA : Nat → ClassId} {B : Nat} {q : Nat × Nat} {ra : Nat → Option Nat} {sa : Nat → Int32} (h : q.1 = 1) : aE dA B q ra sa = .inl (dA 1, q.2, .inl sa) := by
  simp [aE, h]
theorem aE_boo {dA : Nat → ClassId} {B : Nat} {q : Nat × Nat} {ra : Nat → Option Nat} {sa : Nat → Int32} (h : q.1 = 2) : aE dA B q ra sa = .inl (dA 2, q.2, .inl sa) := by
  simp [aE, h]
theorem aE_ref {dA : Nat → ClassId} {B : Nat} {q : Nat × Nat} {ra : Nat → Option Nat} {sa : Nat → Int32} (h : 3 ≤ q.1) (h2 : q.1 ≤ 5) : aE dA B q ra sa = .inl (dA q.1, q.2, .inr (.inr (.inr (.inr (fun i => rb B (ra i)))))) := by
  have : ¬ 10 ≤ q.1 := by omega
  simp [aE, h, this]
theorem aF_len {B ci : Nat} {ra : Nat → Option Nat} {sa : Nat → Int32} : (aF B ci ra sa).length = nN ci := by simp [aF]
theorem aF_at {B ci k : Nat} {ra : Nat → Option Nat} {sa : Nat → Int32} (h : k < nN ci) : (aF B ci ra sa)[k]? = some (fvl B (kdT (tyN ci k)) k ra sa) := by simp [aF, h]
def s2 (sg : aS) (a k : Nat) (x : Int32) : aS := va_up sg a (upd (sg a) k x)
theorem s2_ne {sg : aS} {a k b : Nat} {x : Int32} (h : b ≠ a) : s2 sg a k x b = sg b := by simp [s2, va_up, h]
theorem s2_eq {sg : aS} {a k : Nat} {x : Int32} : s2 sg a k x a = upd (sg a) k x := by simp [s2, va_up]
def r2 (ro : aR) (a k : Nat) (x : Option Nat) : aR := va_up ro a (va_up (ro a) k x)
theorem r2_ne {ro : aR} {a k b : Nat} {x : Option Nat} (h : b ≠ a) : r2 ro a k x b = ro b := by simp [r2, va_up, h]
theorem r2_eq {ro : aR} {a k : Nat} {x : Option Nat} : r2 ro a k x a = va_up (ro a) k x := by simp [r2, va_up]
def s2l (sg : aS) (a k : Nat) (x : Int64) : aS := va_up sg a (upd (upd (sg a) (100 + k) (jlo x)) (200 + k) (jhi x))
theorem s2l_ne {sg : aS} {a k b : Nat} {x : Int64} (h : b ≠ a) : s2l sg a k x b = sg b := by simp [s2l, va_up, h]
theorem s2l_eq {sg : aS} {a k : Nat} {x : Int64} : s2l sg a k x a = upd (upd (sg a) (100 + k) (jlo x)) (200 + k) (jhi x) := by simp [s2l, va_up]
theorem aF_ext {B ci k : Nat} {ra ra' : Nat → Option Nat} {sa sa' : Nat → Int32} {v : Value} (h : k < nN ci) (hv : fvl B (kdT (tyN ci k)) k ra' sa' = v) (ho : ∀ j kd, j < nN ci → j ≠ k → fvl B kd j ra' sa' = fvl B kd j ra sa) : (aF B ci ra sa).set k v = aF B ci ra' sa' := by
  apply List.ext_getElem?
  intro j
  by_cases hj : j = k
  · subst hj
    rw [List.getElem?_set_self (by rw [aF_len]; exact h), aF_at h, hv]
  · rw [List.getElem?_set_ne (Ne.symm hj)]
    by_cases hl : j < nN ci
    · rw [aF_at hl, aF_at hl, ho j _ hl hj]
    · rw [List.getElem?_eq_none (by rw [aF_len]; omega), List.getElem?_eq_none (by rw [aF_len]; omega)]
theorem aF_set {B ci k : Nat} {ra : Nat → Option Nat} {sa : Nat → Int32} {x : Int32} (hci : ci < 13) (h : k < nN ci) (hi : kdT (tyN ci k) = 1) : (aF B ci ra sa).set k (.int x) = aF B ci ra (upd sa k x) := by
  have hN := nN_le ci hci
  refine aF_ext h (by rw [hi]; simp [fvl, upd]) (fun j kd hj hjk => ?_)
  unfold fvl
  have e1 : ¬ 100 + j = k := by omega
  have e2 : ¬ 200 + j = k := by omega
  split <;> simp [upd, hjk, e1, e2]
theorem aF_setl {B ci k : Nat} {ra : Nat → Option Nat} {sa : Nat → Int32} {x : Int64} (hci : ci < 13) (h : k < nN ci) (hi : kdT (tyN ci k) = 2) : (aF B ci ra sa).set k (.long x) = aF B ci ra (upd (upd sa (100 + k) (jlo x)) (200 + k) (jhi x)) := by
  have hN := nN_le ci hci
  refine aF_ext h ?_ (fun j kd hj hjk => ?_)
  · rw [hi]
    have e1 : ¬ 100 + k = 200 + k := by omega
    simp [fvl, upd, e1, jl_eq]
  · unfold fvl
    have e1 : ¬ j = 100 + k := by omega
    have e2 : ¬ j = 200 + k := by omega
    have e3 : ¬ 100 + j = 200 + k := by omega
    have e4 : ¬ 200 + j = 100 + k := by omega
    split <;> simp [upd, hjk, e1, e2, e3, e4]
theorem aF_setr {B ci k : Nat} {ra : Nat → Option Nat} {sa : Nat → Int32} {x : Option Nat} (h : k < nN ci) (hi : kdT (tyN ci k) = 0) : (aF B ci ra sa).set k (va_rf (rb B x)) = aF B ci (va_up ra k x) sa := by
  refine aF_ext h (by rw [hi]; simp [fvl, va_up]) (fun j kd hj hjk => ?_)
  unfold fvl
  split <;> simp [va_up, hjk]
/-! the locals: a list of values by place; .float stands for 'nothing is known' -/
def nf : Value → Bool
  | .float _ => false
  | _ => true
def nl : Value → Bool
  | .long _ => false
  | .double _ => false
  | _ => true
def aLf (B : Nat) (L : List Value) : List (Nat × Value) := L.zipIdx.filterMap (fun q => if nf q.1 = true then some (q.2, cv B q.1) else none)
theorem aLf_mem {B : Nat} {L : List Value} {q : Nat × Value} : q ∈ aLf B L ↔ ∃ (i : Nat) (v : Value), L[i]? = some v ∧ nf v = true ∧ q = (i, cv B v) := by
  constructor
  · intro h
    obtain ⟨⟨v, i⟩, h1, h2⟩ := List.mem_filterMap.mp h
    have h3 := List.mem_zipIdx_iff_getElem?.mp h1
    by_cases hv : nf v = true
    · simp only [hv, if_true] at h2
      exact ⟨i, v, h3, hv, (Option.some.inj h2).symm⟩
    · simp [hv] at h2
  · rintro ⟨i, v, h1, h2, rfl⟩
    exact List.mem_filterMap.mpr ⟨(v, i), List.mem_zipIdx_iff_getElem?.mpr h1, by simp [h2]⟩
/-- a value is put at a place -/
theorem aLf_set {B mL i : Nat} {L : List Value} {v : Value} {ls : Array Slot} (hi : i < L.length) (hp : ∀ j w, j + 1 = i → L[j]? = some w → nl w = true)
    (h : lv_has ls mL ((i, cv B v) :: (aLf B L).filter (fun q => !(q.1 == i) && !(q.1 + 1 == i && q.2.category == 2)))) : lv_has ls mL (aLf B (L.set i v)) := by
  refine ⟨h.1, h.2.1, fun q hq => ?_⟩
  obtain ⟨j, w, h1, h2, rfl⟩ := aLf_mem.mp hq
  by_cases hj : j = i
  · subst hj
    rw [List.getElem?_set_self hi] at h1
    cases h1
    exact h.2.2 _ List.mem_cons_self
  · rw [List.getElem?_set_ne (Ne.symm hj)] at h1
    refine h.2.2 (j, cv B w) (List.mem_cons_of_mem _ (List.mem_filter.mpr ⟨aLf_mem.mpr ⟨j, w, h1, h2, rfl⟩, ?_⟩))
    by_cases hji : j + 1 = i
    · have := hp j w hji h1
      rw [cv_cat]
      cases w <;> simp_all [Value.category, nl]
    · simp [hj, hji]
/-- a long is put at a place -/
theorem aLf_set2 {B mL i : Nat} {L : List Value} {x : Int64} {u : UInt32} {ls : Array Slot} (hi : i < L.length) (hp : ∀ j w, j + 1 = i → L[j]? = some w → nl w = true)
    (h : lv_has ls mL ((i, .long x) :: (aLf B L).filter (fun q => !(q.1 == i) && (!(q.1 == i + 1) && !(q.1 + 1 == i && q.2.category == 2))))) : lv_has ls mL (aLf B ((L.set i (.long x)).set (i + 1) (.float u))) := by
  refine ⟨h.1, h.2.1, fun q hq => ?_⟩
  obtain ⟨j, w, h1, h2, rfl⟩ := aLf_mem.mp hq
  by_cases hj1 : j = i + 1
  · subst hj1
    by_cases hl : i + 1 < L.length
    · rw [List.getElem?_set_self (by simpa using hl)] at h1
      cases h1
      simp [nf] at h2
    · rw [List.getElem?_eq_none (by simp; omega)] at h1
      cases h1
  · rw [List.getElem?_set_ne (Ne.symm hj1)] at h1
    by_cases hj : j = i
    · subst hj
      rw [List.getElem?_set_self hi] at h1
      cases h1
      exact h.2.2 _ List.mem_cons_self
    · rw [List.getElem?_set_ne (Ne.symm hj)] at h1
      refine h.2.2 (j, cv B w) (List.mem_cons_of_mem _ (List.mem_filter.mpr ⟨aLf_mem.mpr ⟨j, w, h1, h2, rfl⟩, ?_⟩))
      by_cases hji : j + 1 = i
      · have := hp j w hji h1
        rw [cv_cat]
        cases w <;> simp_all [Value.category, nl]
      · simp [hj, hji, hj1]
/-- the locals with which a method begins -/
def exL : List Value → List Value
  | [] => []
  | .long x :: r => .long x :: .float 0 :: exL r
  | .double x :: r => .double x :: .float 0 :: exL r
  | v :: r => v :: exL r
theorem exL_args (B : Nat) : ∀ (av : List Value) (i j : Nat) (v : Value), (exL av)[j]? = some v → nf v = true → (i + j, cv B v) ∈ lv_args i (av.map (cv B))
  | [], i, j, v, h, _ => by simp [exL] at h
  | a :: r, i, j, v, h, hv => by
    have one : ∀ (w : Value), (cv B w).category = 1 → exL (w :: r) = w :: exL r → (exL (w :: r))[j]? = some v → (i + j, cv B v) ∈ lv_args i ((w :: r).map (cv B)) := by
      intro w hw he h
      rw [he] at h
      simp only [List.map_cons, lv_args, hw]
      cases j with
      | zero => simp at h; subst h; exact List.mem_cons_self
      | succ j =>
        simp at h
        have := exL_args B r (i + 1) j v h hv
        rw [show i + 1 + j = i + (j + 1) by omega] at this
        exact List.mem_cons_of_mem _ (by simpa using this)
    have two : ∀ (w : Value), (cv B w).category = 2 → exL (w :: r) = w :: .float 0 :: exL r → (exL (w :: r))[j]? = some v → (i + j, cv B v) ∈ lv_args i ((w :: r).map (cv B)) := by
      intro w hw he h
      rw [he] at h
      simp only [List.map_cons, lv_args, hw]
      match j, h with
      | 0, h => simp at h; subst h; exact List.mem_cons_self
      | 1, h => simp at h; subst h; simp [nf] at hv
      | j + 2, h =>
        simp at h
        have := exL_args B r (i + 2) j v h hv
        rw [show i + 2 + j = i + (j + 2) by omega] at this
        exact List.mem_cons_of_mem _ (by simpa using this)
    cases a with
    | long x => exact two _ rfl rfl h
    | double x => exact two _ rfl rfl h
    | _ => exact one _ rfl rfl h
theorem aLf_entry {B mL : Nat} {av : List Value} {ls : Array Slot} {t : Nat} (h : lv_has ls mL (lv_args 0 (av.map (cv B)))) : lv_has ls mL (aLf B (exL av ++ List.replicate t (.float 0))) := by
  refine ⟨h.1, h.2.1, fun q hq => ?_⟩
  obtain ⟨j, w, h1, h2, rfl⟩ := aLf_mem.mp hq
  by_cases hl : j < (exL av).length
  · rw [List.getElem?_append_left hl] at h1
    have := exL_args B av 0 j w h1 h2
    rw [Nat.zero_add] at this
    exact h.2.2 _ this
  · rw [List.getElem?_append_right (by omega)] at h1
    have := List.eq_of_mem_replicate (List.mem_of_getElem? h1)
    subst this
    simp [nf] at h2
/-! what is known of the tables, and of the static rows, at a state -/
def aK (D : va_G) (dA : Nat → ClassId) (U : State) : Prop := va_K D vwCl (aTy dA) U ∧ (∀ w ∈ nestQ, va_Nw (.methodLinkNest w.1 w.2.1 w.2.2.1 w.2.2.2) U) ∧ (va_AO RX5 U ∧ va_AO RX6 U ∧ va_AO RX8 U)
theorem aK.warm {D : va_G} {dA : Nat → ClassId} {s U : State} (hW : s.WarmedH U.vm) (h : aK D dA s) : aK D dA U := ⟨h.1.moved hW.alike, fun w hw => (h.2.1 w hw).warmM hW, h.2.2.1.moved hW.alike, h.2.2.2.1.moved hW.alike, h.2.2.2.2.moved hW.alike⟩
theorem aK.same {D : va_G} {dA : Nat → ClassId} {s U : State} (hv : s.vm = U.vm) (h : aK D dA s) : aK D dA U := ⟨h.1.moved (hv ▸ Vm.Alike.refl s.vm), fun w hw => (h.2.1 w hw).same rfl hv, h.2.2.1.moved (hv ▸ Vm.Alike.refl s.vm), h.2.2.2.1.moved (hv ▸ Vm.Alike.refl s.vm), h.2.2.2.2.moved (hv ▸ Vm.Alike.refl s.vm)⟩
def z_sets : Nat → Int32 := fun j => ([1, 14, 91, 364, 1001, 2002, 3003, 3432, 3003, 2002, 1001, 364, 91, 14, 1] : List Int32).getD j 0
def z_A : Nat → Int32 := fun j => ([31, 57, 83] : List Int32).getD j 0
def z_B : Nat → Int32 := fun j => ([7, 19, 5] : List Int32).getD j 0
def aZ1 (C f : String) (N : Nat) (g : Nat → Int32) (B : Nat) (U : State) : Prop := ∃ t : Nat, va_Z C f "[I" (.ref t) (fun q => B ≤ q) U U.heap ∧ va_T .int t N (fun j => .int (g j)) (fun q => B ≤ q) U U.heap
def aZ (B : Nat) (U : State) : Prop := aZ1 RX2 "SETS_BY_SIZE" 15 z_sets B U ∧ aZ1 RX7 "A" 3 z_A B U ∧ aZ1 RX7 "B" 3 z_B B U
theorem aZ1.to {C f : String} {N : Nat} {g : Nat → Int32} {B : Nat} {s U : State} {locs : List Loc} (h : aZ1 C f N g B s) (hvm : s.vm.Alike U.vm) (hS : va_S (fun q => B ≤ q) s.heap U.heap locs) : aZ1 C f N g B U := by
  obtain ⟨t, h1, h2⟩ := h
  exact ⟨t, (h1.kept hS.2.1).moved hvm, (h2.kept hS.2.1).moved hvm⟩
theorem aZ.to {B : Nat} {s U : State} {locs : List Loc} (h : aZ B s) (hvm : s.vm.Alike U.vm) (hS : va_S (fun q => B ≤ q) s.heap U.heap locs) : aZ B U := ⟨h.1.to hvm hS, h.2.1.to hvm hS, h.2.2.to hvm hS⟩
/-! the judgement -/
abbrev aG : Type := (Program × Launch × Env × Room × State × MethodId) × (Array Value × List Frame × Method × Code) × (va_G × (Nat → ClassId) × Nat) × (State → Prop)
/-- the machine at pc with these locals, this stack, the memory: it comes to a state with Q -/
def AW (G : aG) (mL n nc ns : Nat) (mu : aM) (ro : aR) (sg : aS) (pc : Nat) (L st : List Value) : Prop :=
  match G with
  | ((p, l, e, R, s, m), (args, below, meth, c), (D, dA, B), Q) => ∀ (H : Heap) (locs : List Loc) (ls : Array Slot), aP D dA B n mu ro sg H → va_S (fun q => B ≤ q) s.heap H locs → lv_has ls mL (aLf B L) → W p l e R s m args below meth c H locs nc ns Q (F0 m pc ls (st.map (cv B)))
/-- the frame's own facts: code, tables, room, where its heap began -/
def Cx (G : aG) (mL d n0 o : Nat) (cc : ByteArray) : Prop :=
  match G with
  | ((p, _, _, R, s, m), (args, _, meth, c), (D, dA, B), _) => p.tables.exec = Jvm.exec ∧ c.code = cc ∧ c.maxLocals = mL ∧ s.vm.findClass (RN o) = some m.cls ∧ (∀ w ∈ tgw, w.before args s = true) ∧ meth.locks = false ∧ aK D dA s ∧ aZ B s ∧ s.heap.size = B + n0 ∧ d ≤ R.frames ∧ 64 * d ≤ R.locals
theorem W.sized {p : Program} {l : Launch} {e : Env} {R : Room} {s : State} {m : MethodId} {args : Array Value} {below : List Frame} {meth : Method} {c : Code} {H : Heap} {locs : List Loc} {cells slots : Nat} {Q : State → Prop} {g : JFrame} (h : H.size ≤ s.heap.size + cells → W p l e R s m args below meth c H locs cells slots Q g) : W p l e R s m args below meth c H locs cells slots Q g := by
  intro T hT X
  have h1 : T.heap.size ≤ s.heap.size + cells := X.same.2.2.1
  rw [hT] at h1
  exact h h1 T hT X
theorem aP.size {D : va_G} {dA : Nat → ClassId} {B n n0 nc : Nat} {mu : aM} {ro : aR} {sg : aS} {H H0 : Heap} {locs : List Loc} (h : aP D dA B n mu ro sg H) (hS : va_S (fun q => B ≤ q) H0 H locs) (h0 : H0.size = B + n0) (hn : n = n0 + nc) (hz : H.size ≤ H0.size + nc) : H.size = B + n := by
  have h1 := hS.1
  cases n with
  | zero => omega
  | succ k =>
    have := (h.1 k _ (aW_at (Nat.lt_succ_self k))).lt
    simp only at this
    omega
end
section
/-! part 03: one instruction's weakest precondition, over the abstract memory -/
def b01 (x : Int32) : Prop := x = 0 ∨ x = 1
def isBo : FieldType → Bool
  | .boolean => true
  | _ => false
def lg (L : List Value) (i : Nat) : Value := L.getD i (.float 0)
def pv (L : List Value) : Nat → Bool
  | 0 => true
  | k + 1 => nl (lg L k)
def jok (pc : Nat) (off : Int) : Bool := decide (0 ≤ (pc : Int) + off)
def jmp (pc : Nat) (off : Int) : Nat := ((pc : Int) + off).toNat
theorem jmp_ok {pc : Nat} {off : Int} (h : jok pc off = true) : (pc : Int) + off = (jmp pc off : Int) := by
  have : 0 ≤ (pc : Int) + off := by simpa [jok] using h
  unfold jmp
  omega
def cs : List Value → Nat
  | [] => 0
  | v :: l => v.category + cs l
theorem cs_map (B : Nat) : ∀ l : List Value, ((l.map (cv B)).map fun v => v.category).sum = cs l
  | [] => rfl
  | v :: l => by
    simp only [List.map_cons, List.sum_cons, cs, cv_cat]
    rw [← cs_map B l]
def takeA : Nat → List Value → List Value → Option (List Value × List Value)
  | 0, acc, st => some (acc, st)
  | k + 1, acc, v :: st => takeA k (v :: acc) st
  | _ + 1, _, [] => none
theorem takeA_ok : ∀ (k : Nat) (acc st as rest : List Value), takeA k acc st = some (as, rest) → ∃ t, st = t ++ rest ∧ as = t.reverse ++ acc ∧ t.length = k
  | 0, acc, st, as, rest, h => by
    cases h
    exact ⟨[], rfl, rfl, rfl⟩
  | k + 1, acc, [], as, rest, h => by cases h
  | k + 1, acc, v :: st, as, rest, h => by
    obtain ⟨t, h1, h2, h3⟩ := takeA_ok k (v :: acc) st as rest h
    exact ⟨v :: t, by rw [h1]; rfl, by rw [h2]; simp, by simp [h3]⟩
def lenI : Instr → Nat
  | .iload _ => 2
  | .aload _ => 2
  | .lload _ => 2
  | .istore _ => 2
  | .astore _ => 2
  | .lstore _ => 2
  | .bipush _ => 2
  | .ldc _ => 2
  | .newarray _ => 2
  | .sipush _ => 3
  | .ldc_w _ => 3
  | .ldc2_w _ => 3
  | .iinc _ _ => 3
  | .goto _ => 3
  | .ifCond _ _ => 3
  | .if_icmp _ _ => 3
  | .ifnull _ => 3
  | .ifnonnull _ => 3
  | .getfield _ => 3
  | .putfield _ => 3
  | .getstatic _ => 3
  | .invokevirtual _ => 3
  | .invokespecial _ => 3
  | .invokestatic _ => 3
  | .new _ => 3
  | .anewarray _ => 3
  | _ => 1
def isSw : Instr → Bool
  | .tableswitch _ _ _ _ => true
  | _ => false
def dk (cc : ByteArray) (pc : Nat) : Option Instr := match decode cc pc with
  | .ok (ins, len) => if isSw ins = true ∨ len = lenI ins then some ins else none
  | _ => none
theorem dk_ok {cc : ByteArray} {pc : Nat} {ins : Instr} (h : dk cc pc = some ins) : ∃ len, decode cc pc = .ok (ins, len) ∧ (isSw ins = true ∨ len = lenI ins) := by
  unfold dk at h
  cases hd : decode cc pc with
  | error e => rw [hd] at h; cases h
  | ok q =>
    obtain ⟨i, len⟩ := q
    rw [hd] at h
    simp only at h
    split at h
    · next hc =>
      cases h
      exact ⟨len, rfl, hc⟩
    · cases h
theorem dk_1 {cc : ByteArray} {pc : Nat} {ins : Instr} (h : dk cc pc = some ins) (hs : isSw ins = false) : decode cc pc = .ok (ins, lenI ins) := by
  obtain ⟨len, h1, h2⟩ := dk_ok h
  rcases h2 with h2 | h2
  · rw [hs] at h2; cases h2
  · rw [h1, h2]
/-- a method's contract, with what is to hold behind it -/
def aPre (D : va_G) (dA : Nat → ClassId) (B n : Nat) (mu : aM) (ro : aR) (sg : aS) (U : State) : Prop := aP D dA B n mu ro sg U.heap ∧ aK D dA U ∧ aZ B U ∧ U.heap.size = B + n
def aQ (D : va_G) (dA : Nat → ClassId) (B : Nat) (K : Option Value → Nat → aM → aR → aS → Prop) : Array Value → State → Outcome → State → Prop := fun _ st oc t =>
  (∃ (r : Option Value) (n' : Nat) (mu' : aM) (ro' : aR) (sg' : aS), oc = .returned (r.map (cv B)) ∧ K r n' mu' ro' sg' ∧ aP D dA B n' mu' ro' sg' t.heap ∧ t.heap.size = B + n') ∧ va_F (fun q => B ≤ q) st t
def aCallA (mc ms d k : Nat) (av : List Value) (n : Nat) (mu : aM) (ro : aR) (sg : aS) (K : Option Value → Nat → aM → aR → aS → Prop) : Prop :=
  ∀ (l : Launch) (D : va_G) (dA : Nat → ClassId) (B : Nat), Met l (yM k) (Cond.code (yM k) (cM k) (lM k) (rM k) :: tgw) { frames := d, cells := mc, slots := ms, locals := 64 * d } (va_Pc (av.map (cv B)) (aPre D dA B n mu ro sg)) (aQ D dA B K) mc ms (fun q => B ≤ q)
def aCall (d k : Nat) (av : List Value) (n : Nat) (mu : aM) (ro : aR) (sg : aS) (K : Option Value → aS → Prop) : Prop := aCallA 0 0 d k av n mu ro sg (fun r n' mu' ro' sg' => n' = n ∧ mu' = mu ∧ ro' = ro ∧ K r sg')
def swL (K : Nat → Prop) (pc : Nat) (x : Int32) : List Int → Int → Prop
  | [], _ => True
  | off :: os, lo => (x.toInt = lo → jok pc off = true ∧ K (jmp pc off)) ∧ swL K pc x os (lo + 1)
def gtF (K : Value → Prop) (mu : aM) (ro : aR) (sg : aS) (a : Nat) : Option (Nat × Nat × Nat × Bool) → Prop
  | some (ci, k, 1, _) => (mu a).1 = 10 + ci ∧ K (.int (sg a k))
  | some (ci, k, 0, _) => (mu a).1 = 10 + ci ∧ K (va_rf (ro a k))
  | some (ci, k, 2, _) => (mu a).1 = 10 + ci ∧ K (.long (jl (sg a (100 + k)) (sg a (200 + k))))
  | _ => False
def ptF (K : aS → Prop) (mu : aM) (sg : aS) (a : Nat) (x : Int32) : Option (Nat × Nat × Nat × Bool) → Prop
  | some (ci, k, 1, false) => (mu a).1 = 10 + ci ∧ (isBo (tyN ci k) = true → b01 x) ∧ K (s2 sg a k x)
  | _ => False
def ptL (K : aS → Prop) (mu : aM) (sg : aS) (a : Nat) (x : Int64) : Option (Nat × Nat × Nat × Bool) → Prop
  | some (ci, k, 2, false) => (mu a).1 = 10 + ci ∧ K (s2l sg a k x)
  | _ => False
def inS (K : Option Value → List Value → aS → Prop) (d n : Nat) (mu : aM) (ro : aR) (sg : aS) (st : List Value) : Option Nat → Prop
  | some k => match takeA (pM k) [] st with
    | some (av, rest) => sM k = true ∧ cs rest ≤ 8 ∧ 1 ≤ d ∧ aCall (d - 1) k av n mu ro sg (fun r sg' => K r rest sg')
    | none => False
  | none => False
def inV (K : Option Value → List Value → aS → Prop) (d n : Nat) (mu : aM) (ro : aR) (sg : aS) (st : List Value) : Option Nat → Prop
  | some k => match takeA (pM k + 1) [] st with
    | some (.ref b :: av, rest) => sM k = false ∧ (yM k).name ≠ "<init>" ∧ cs rest ≤ 8 ∧ 1 ≤ d ∧ (mu b).1 = 10 + oM k ∧ aCall (d - 1) k (.ref b :: av) n mu ro sg (fun r sg' => K r rest sg')
    | _ => False
  | none => False
def lsq (L : List Value) (i : Nat) (v : Value) (K : List Value → Prop) : Prop := pv L i = true ∧ i < L.length ∧ K (L.set i v)
def lsl (L : List Value) (i : Nat) (x : Int64) (K : List Value → Prop) : Prop := pv L i = true ∧ i + 1 < L.length ∧ K ((L.set i (.long x)).set (i + 1) (.float 0))
def vcI (K : Nat → List Value → List Value → aS → Prop) (Rt : Option Value → aS → Prop) (o d n : Nat) (mu : aM) (ro : aR) (pc : Nat) (L st : List Value) (sg : aS) : Instr → Prop
  | .iconst c => K (pc + 1) L (.int (Int32.ofInt c) :: st) sg
  | .bipush c => K (pc + 2) L (.int (Int8.ofInt c).toInt32 :: st) sg
  | .sipush c => K (pc + 3) L (.int (Int16.ofInt c).toInt32 :: st) sg
  | .lconst c => K (pc + 1) L (.long (Int64.ofNat (c : Nat)) :: st) sg
  | .aconst_null => K (pc + 1) L (.null :: st) sg
  | .ldc i => match kres o i with
    | some v => K (pc + 2) L (.int v :: st) sg
    | none => False
  | .ldc_w i => match kres o i with
    | some v => K (pc + 3) L (.int v :: st) sg
    | none => False
  | .ldc2_w i => match lres o i with
    | some v => K (pc + 3) L (.long v :: st) sg
    | none => False
  | .iload_n i => match lg L (i : Nat) with
    | .int x => K (pc + 1) L (.int x :: st) sg
    | _ => False
  | .iload i => match lg L i with
    | .int x => K (pc + 2) L (.int x :: st) sg
    | _ => False
  | .lload_n i => match lg L (i : Nat) with
    | .long x => K (pc + 1) L (.long x :: st) sg
    | _ => False
  | .lload i => match lg L i with
    | .long x => K (pc + 2) L (.long x :: st) sg
    | _ => False
  | .aload_n i => match lg L (i : Nat) with
    | .ref x => K (pc + 1) L (.ref x :: st) sg
    | .null => K (pc + 1) L (.null :: st) sg
    | _ => False
  | .aload i => match lg L i with
    | .ref x => K (pc + 2) L (.ref x :: st) sg
    | .null => K (pc + 2) L (.null :: st) sg
    | _ => False
  | .istore_n i => match st with
    | .int x :: st => lsq L (i : Nat) (.int x) (fun L => K (pc + 1) L st sg)
    | _ => False
  | .istore i => match st with
    | .int x :: st => lsq L i (.int x) (fun L => K (pc + 2) L st sg)
    | _ => False
  | .lstore_n i => match st with
    | .long x :: st => lsl L (i : Nat) x (fun L => K (pc + 1) L st sg)
    | _ => False
  | .lstore i => match st with
    | .long x :: st => lsl L i x (fun L => K (pc + 2) L st sg)
    | _ => False
  | .astore_n i => match st with
    | .ref x :: st => lsq L (i : Nat) (.ref x) (fun L => K (pc + 1) L st sg)
    | .null :: st => lsq L (i : Nat) .null (fun L => K (pc + 1) L st sg)
    | _ => False
  | .astore i => match st with
    | .ref x :: st => lsq L i (.ref x) (fun L => K (pc + 2) L st sg)
    | .null :: st => lsq L i .null (fun L => K (pc + 2) L st sg)
    | _ => False
  | .iinc i c => match lg L i with
    | .int x => lsq L i (.int (x + Int32.ofInt c)) (fun L => K (pc + 3) L st sg)
    | _ => False
  | .iadd => match st with
    | .int y :: .int x :: st => K (pc + 1) L (.int (x + y) :: st) sg
    | _ => False
  | .isub => match st with
    | .int y :: .int x :: st => K (pc + 1) L (.int (x - y) :: st) sg
    | _ => False
  | .imul => match st with
    | .int y :: .int x :: st => K (pc + 1) L (.int (x * y) :: st) sg
    | _ => False
  | .iand => match st with
    | .int y :: .int x :: st => K (pc + 1) L (.int (x &&& y) :: st) sg
    | _ => False
  | .ior => match st with
    | .int y :: .int x :: st => K (pc + 1) L (.int (x ||| y) :: st) sg
    | _ => False
  | .ixor => match st with
    | .int y :: .int x :: st => K (pc + 1) L (.int (x ^^^ y) :: st) sg
    | _ => False
  | .ishl => match st with
    | .int y :: .int x :: st => K (pc + 1) L (.int (x <<< (y &&& 31)) :: st) sg
    | _ => False
  | .ishr => match st with
    | .int y :: .int x :: st => K (pc + 1) L (.int (x >>> (y &&& 31)) :: st) sg
    | _ => False
  | .iushr => match st with
    | .int y :: .int x :: st => K (pc + 1) L (.int ((x.toUInt32 >>> (y.toUInt32 &&& Int32.toUInt32 31)).toInt32) :: st) sg
    | _ => False
  | .idiv => match st with
    | .int y :: .int x :: st => ¬ y = 0 ∧ K (pc + 1) L (.int (x / y) :: st) sg
    | _ => False
  | .irem => match st with
    | .int y :: .int x :: st => ¬ y = 0 ∧ K (pc + 1) L (.int (x - x / y * y) :: st) sg
    | _ => False
  | .ladd => match st with
    | .long y :: .long x :: st => K (pc + 1) L (.long (x + y) :: st) sg
    | _ => False
  | .lsub => match st with
    | .long y :: .long x :: st => K (pc + 1) L (.long (x - y) :: st) sg
    | _ => False
  | .land => match st with
    | .long y :: .long x :: st => K (pc + 1) L (.long (x &&& y) :: st) sg
    | _ => False
  | .lor => match st with
    | .long y :: .long x :: st => K (pc + 1) L (.long (x ||| y) :: st) sg
    | _ => False
  | .ldiv => match st with
    | .long y :: .long x :: st => ¬ y = 0 ∧ K (pc + 1) L (.long (x / y) :: st) sg
    | _ => False
  | .lrem => match st with
    | .long y :: .long x :: st => ¬ y = 0 ∧ K (pc + 1) L (.long (x - x / y * y) :: st) sg
    | _ => False
  | .lshl => match st with
    | .int y :: .long x :: st => K (pc + 1) L (.long (x <<< (y.toInt64 &&& 63)) :: st) sg
    | _ => False
  | .lshr => match st with
    | .int y :: .long x :: st => K (pc + 1) L (.long (x >>> (y.toInt64 &&& 63)) :: st) sg
    | _ => False
  | .lcmp => match st with
    | .long y :: .long x :: st => K (pc + 1) L (.int (lg_cmp x y) :: st) sg
    | _ => False
  | .i2l => match st with
    | .int x :: st => K (pc + 1) L (.long x.toInt64 :: st) sg
    | _ => False
  | .i2b => match st with
    | .int x :: st => K (pc + 1) L (.int x.toInt8.toInt32 :: st) sg
    | _ => False
  | .i2s => match st with
    | .int x :: st => K (pc + 1) L (.int x.toInt16.toInt32 :: st) sg
    | _ => False
  | .dup => match st with
    | .int x :: st => K (pc + 1) L (.int x :: .int x :: st) sg
    | .ref x :: st => K (pc + 1) L (.ref x :: .ref x :: st) sg
    | _ => False
  | .dup2 => match st with
    | .int x :: .ref y :: st => K (pc + 1) L (.int x :: .ref y :: .int x :: .ref y :: st) sg
    | .int x :: .int y :: st => K (pc + 1) L (.int x :: .int y :: .int x :: .int y :: st) sg
    | _ => False
  | .pop => match st with
    | .int _ :: st => K (pc + 1) L st sg
    | _ => False
  | .goto off => jok pc off = true ∧ K (jmp pc off) L st sg
  | .ifCond .eq off => match st with
    | .int x :: st => jok pc off = true ∧ (x = 0 → K (jmp pc off) L st sg) ∧ (¬ x = 0 → K (pc + 3) L st sg)
    | _ => False
  | .ifCond .ne off => match st with
    | .int x :: st => jok pc off = true ∧ (¬ x = 0 → K (jmp pc off) L st sg) ∧ (x = 0 → K (pc + 3) L st sg)
    | _ => False
  | .ifCond .lt off => match st with
    | .int x :: st => jok pc off = true ∧ (x < 0 → K (jmp pc off) L st sg) ∧ (¬ x < 0 → K (pc + 3) L st sg)
    | _ => False
  | .ifCond .ge off => match st with
    | .int x :: st => jok pc off = true ∧ (0 ≤ x → K (jmp pc off) L st sg) ∧ (¬ 0 ≤ x → K (pc + 3) L st sg)
    | _ => False
  | .ifCond .gt off => match st with
    | .int x :: st => jok pc off = true ∧ (0 < x → K (jmp pc off) L st sg) ∧ (¬ 0 < x → K (pc + 3) L st sg)
    | _ => False
  | .ifCond .le off => match st with
    | .int x :: st => jok pc off = true ∧ (x ≤ 0 → K (jmp pc off) L st sg) ∧ (¬ x ≤ 0 → K (pc + 3) L st sg)
    | _ => False
  | .if_icmp .eq off => match st with
    | .int y :: .int x :: st => jok pc off = true ∧ (x = y → K (jmp pc off) L st sg) ∧ (¬ x = y → K (pc + 3) L st sg)
    | _ => False
  | .if_icmp .ne off => match st with
    | .int y :: .int x :: st => jok pc off = true ∧ (¬ x = y → K (jmp pc off) L st sg) ∧ (x = y → K (pc + 3) L st sg)
    | _ => False
  | .if_icmp .lt off => match st with
    | .int y :: .int x :: st => jok pc off = true ∧ (x < y → K (jmp pc off) L st sg) ∧ (¬ x < y → K (pc + 3) L st sg)
    | _ => False
  | .if_icmp .ge off => match st with
    | .int y :: .int x :: st => jok pc off = true ∧ (y ≤ x → K (jmp pc off) L st sg) ∧ (¬ y ≤ x → K (pc + 3) L st sg)
    | _ => False
  | .if_icmp .gt off => match st with
    | .int y :: .int x :: st => jok pc off = true ∧ (y < x → K (jmp pc off) L st sg) ∧ (¬ y < x → K (pc + 3) L st sg)
    | _ => False
  | .if_icmp .le off => match st with
    | .int y :: .int x :: st => jok pc off = true ∧ (x ≤ y → K (jmp pc off) L st sg) ∧ (¬ x ≤ y → K (pc + 3) L st sg)
    | _ => False
  | .ifnull off => match st with
    | .ref _ :: st => K (pc + 3) L st sg
    | .null :: st => jok pc off = true ∧ K (jmp pc off) L st sg
    | _ => False
  | .ifnonnull off => match st with
    | .ref _ :: st => jok pc off = true ∧ K (jmp pc off) L st sg
    | .null :: st => K (pc + 3) L st sg
    | _ => False
  | .tableswitch dflt lo hi offs => match st with
    | .int x :: st => jok pc dflt = true ∧ offs.size = (hi - lo + 1).toNat ∧ lo ≤ hi ∧ (x.toInt < lo ∨ hi < x.toInt → K (jmp pc dflt) L st sg) ∧ swL (fun t => K t L st sg) pc x offs.toList lo
    | _ => False
  | .getfield i => match st with
    | .ref a :: st => gtF (fun v => K (pc + 3) L (v :: st) sg) mu ro sg a (fres o i)
    | _ => False
  | .putfield i => match st with
    | .int x :: .ref a :: st => ptF (fun sg => K (pc + 3) L st sg) mu sg a x (fres o i)
    | .long x :: .ref a :: st => ptL (fun sg => K (pc + 3) L st sg) mu sg a x (fres o i)
    | _ => False
  | .iaload => match st with
    | .int i :: .ref a :: st => (mu a).1 = 1 ∧ vp_in i (mu a).2 ∧ K (pc + 1) L (.int (sg a i.toNatClampNeg) :: st) sg
    | _ => False
  | .iastore => match st with
    | .int x :: .int i :: .ref a :: st => (mu a).1 = 1 ∧ vp_in i (mu a).2 ∧ K (pc + 1) L st (s2 sg a i.toNatClampNeg x)
    | _ => False
  | .baload => match st with
    | .int i :: .ref a :: st => (mu a).1 = 2 ∧ vp_in i (mu a).2 ∧ K (pc + 1) L (.int (sg a i.toNatClampNeg) :: st) sg
    | _ => False
  | .bastore => match st with
    | .int x :: .int i :: .ref a :: st => (mu a).1 = 2 ∧ vp_in i (mu a).2 ∧ b01 x ∧ K (pc + 1) L st (s2 sg a i.toNatClampNeg x)
    | _ => False
  | .aaload => match st with
    | .int i :: .ref a :: st => 3 ≤ (mu a).1 ∧ (mu a).1 ≤ 5 ∧ vp_in i (mu a).2 ∧ K (pc + 1) L (va_rf (ro a i.toNatClampNeg) :: st) sg
    | _ => False
  | .arraylength => match st with
    | .ref a :: st => (mu a).1 = 1 ∧ K (pc + 1) L (.int (Int32.ofNat (mu a).2) :: st) sg
    | _ => False
  | .invokestatic i => inS (fun r rest sg => K (pc + 3) L (r.toList ++ rest) sg) d n mu ro sg st (cres o i)
  | .invokevirtual i => inV (fun r rest sg => K (pc + 3) L (r.toList ++ rest) sg) d n mu ro sg st (cres o i)
  | .ireturn => match st with
    | [.int x] => Rt (some (.int x)) sg
    | _ => False
  | .lreturn => match st with
    | [.long x] => Rt (some (.long x)) sg
    | _ => False
  | .areturn => match st with
    | [.ref x] => Rt (some (.ref x)) sg
    | [.null] => Rt (some .null) sg
    | _ => False
  | .return_ => match st with
    | [] => Rt none sg
    | _ => False
  | _ => False
end
section
/-! part 07: closed facts of each method of the class: its instructions, what its pool entries name, where its jumps go -/
set_option maxRecDepth 100000 in
theorem D_X0_init : dk cX0_init 0 = some (.aload_n 0) ∧ dk cX0_init 1 = some (.invokespecial 3) ∧ dk cX0_init 4 = some (.aload_n 0) ∧ dk cX0_init 5 = some (.iconst 5) ∧ dk cX0_init 6 = some (.newarray .int) ∧ dk cX0_init 8 = some (.putfield 11) ∧ fres 0 11 = some (0, 0, 0, true) ∧ dk cX0_init 11 = some (.return_) := by decide +kernel
set_option maxRecDepth 100000 in
theorem D_X0_read : (dk cX0_read 0 = some (.aload_n 0) ∧ dk cX0_read 1 = some (.iconst 0) ∧ dk cX0_read 2 = some (.putfield 15) ∧ fres 0 15 = some (0, 1, 1, false) ∧ isBo (tyN 0 1) = false ∧ dk cX0_read 5 = some (.aload_n 0) ∧ dk cX0_read 6 = some (.iconst 0) ∧ dk cX0_read 7 = some (.putfield 19) ∧ fres 0 19 = some (0, 2, 1, false) ∧ isBo (tyN 0 2) = false) ∧ (dk cX0_read 10 = some (.iconst 1) ∧ dk cX0_read 11 = some (.istore 5) ∧ dk cX0_read 13 = some (.iconst 0) ∧ dk cX0_read 14 = some (.istore 6) ∧ dk cX0_read 16 = some (.iload 6) ∧ dk cX0_read 18 = some (.iload_n 3) ∧ dk cX0_read 19 = some (.if_icmp .ge 126) ∧ jok 19 126 = true ∧ jmp 19 126 = 145 ∧ dk cX0_read 22 = some (.aload_n 1)) ∧ (dk cX0_read 23 = some (.getfield 22) ∧ fres 0 22 = some (6, 0, 0, true) ∧ dk cX0_read 26 = some (.iload_n 2) ∧ dk cX0_read 27 = some (.iload 6) ∧ dk cX0_read 29 = some (.iadd) ∧ dk cX0_read 30 = some (.iaload) ∧ dk cX0_read 31 = some (.istore 7) ∧ dk cX0_read 33 = some (.iload 5) ∧ dk cX0_read 35 = some (.ifCond .eq 61) ∧ jok 35 61 = true) ∧ (jmp 35 61 = 96 ∧ dk cX0_read 38 = some (.iload 7) ∧ dk cX0_read 40 = some (.bipush 48) ∧ dk cX0_read 42 = some (.if_icmp .lt 21) ∧ jok 42 21 = true ∧ jmp 42 21 = 63 ∧ dk cX0_read 45 = some (.iload 7) ∧ dk cX0_read 47 = some (.bipush 48) ∧ dk cX0_read 49 = some (.iload 4) ∧ dk cX0_read 51 = some (.iadd)) ∧ (dk cX0_read 52 = some (.if_icmp .ge 11) ∧ jok 52 11 = true ∧ jmp 52 11 = 63 ∧ dk cX0_read 55 = some (.aload_n 0) ∧ dk cX0_read 56 = some (.getfield 15) ∧ dk cX0_read 59 = some (.iconst 5) ∧ dk cX0_read 60 = some (.if_icmp .lt 6) ∧ jok 60 6 = true ∧ jmp 60 6 = 66 ∧ dk cX0_read 63 = some (.iload 6)) ∧ (dk cX0_read 65 = some (.ireturn) ∧ dk cX0_read 66 = some (.aload_n 0) ∧ dk cX0_read 67 = some (.getfield 11) ∧ fres 0 11 = some (0, 0, 0, true) ∧ dk cX0_read 70 = some (.aload_n 0) ∧ dk cX0_read 71 = some (.getfield 15) ∧ dk cX0_read 74 = some (.iload 7) ∧ dk cX0_read 76 = some (.bipush 48) ∧ dk cX0_read 78 = some (.isub) ∧ dk cX0_read 79 = some (.iastore)) ∧ (dk cX0_read 80 = some (.aload_n 0) ∧ dk cX0_read 81 = some (.dup) ∧ dk cX0_read 82 = some (.getfield 15) ∧ dk cX0_read 85 = some (.iconst 1) ∧ dk cX0_read 86 = some (.iadd) ∧ dk cX0_read 87 = some (.putfield 15) ∧ dk cX0_read 90 = some (.iconst 0) ∧ dk cX0_read 91 = some (.istore 5) ∧ dk cX0_read 93 = some (.goto 46) ∧ jok 93 46 = true) ∧ (jmp 93 46 = 139 ∧ dk cX0_read 96 = some (.iload 7) ∧ dk cX0_read 98 = some (.bipush 44) ∧ dk cX0_read 100 = some (.if_icmp .ne 17) ∧ jok 100 17 = true ∧ jmp 100 17 = 117 ∧ dk cX0_read 103 = some (.aload_n 0) ∧ dk cX0_read 104 = some (.getfield 15) ∧ dk cX0_read 107 = some (.iconst 5) ∧ dk cX0_read 108 = some (.if_icmp .ge 9)) ∧ (jok 108 9 = true ∧ jmp 108 9 = 117 ∧ dk cX0_read 111 = some (.iconst 1) ∧ dk cX0_read 112 = some (.istore 5) ∧ dk cX0_read 114 = some (.goto 25) ∧ jok 114 25 = true ∧ jmp 114 25 = 139 ∧ dk cX0_read 117 = some (.iload 7) ∧ dk cX0_read 119 = some (.bipush 64) ∧ dk cX0_read 121 = some (.if_icmp .ne 15)) ∧ (jok 121 15 = true ∧ jmp 121 15 = 136 ∧ dk cX0_read 124 = some (.aload_n 0) ∧ dk cX0_read 125 = some (.aload_n 1) ∧ dk cX0_read 126 = some (.iload_n 2) ∧ dk cX0_read 127 = some (.iload_n 3) ∧ dk cX0_read 128 = some (.iload 6) ∧ dk cX0_read 130 = some (.iconst 1) ∧ dk cX0_read 131 = some (.iadd) ∧ dk cX0_read 132 = some (.invokevirtual 27)) ∧ (cres 0 27 = some 2 ∧ pM 2 = 4 ∧ sM 2 = false ∧ oM 2 = 0 ∧ dk cX0_read 135 = some (.ireturn) ∧ dk cX0_read 136 = some (.iload 6) ∧ dk cX0_read 138 = some (.ireturn) ∧ dk cX0_read 139 = some (.iinc 6 1) ∧ dk cX0_read 142 = some (.goto (-126)) ∧ jok 142 (-126) = true) ∧ (jmp 142 (-126) = 16 ∧ dk cX0_read 145 = some (.iload_n 3) ∧ dk cX0_read 146 = some (.ireturn)) := ⟨by decide +kernel, by decide +kernel, by decide +kernel, by decide +kernel, by decide +kernel, by decide +kernel, by decide +kernel, by decide +kernel, by decide +kernel, by decide +kernel, by decide +kernel, by decide +kernel⟩
set_option maxRecDepth 100000 in
theorem N_X0_read : ((yM 2).name = "<init>") = False := by simp only [eq_iff_iff, iff_false, iff_true]; decide +kernel
set_option maxRecDepth 100000 in
theorem D_X0_readSpan : (dk cX0_readSpan 0 = some (.iload 4) ∧ dk cX0_readSpan 2 = some (.istore 5) ∧ dk cX0_readSpan 4 = some (.iload 5) ∧ dk cX0_readSpan 6 = some (.iload_n 3) ∧ dk cX0_readSpan 7 = some (.if_icmp .ge 63) ∧ jok 7 63 = true ∧ jmp 7 63 = 70 ∧ dk cX0_readSpan 10 = some (.aload_n 1) ∧ dk cX0_readSpan 11 = some (.getfield 22) ∧ fres 0 22 = some (6, 0, 0, true)) ∧ (dk cX0_readSpan 14 = some (.iload_n 2) ∧ dk cX0_readSpan 15 = some (.iload 5) ∧ dk cX0_readSpan 17 = some (.iadd) ∧ dk cX0_readSpan 18 = some (.iaload) ∧ dk cX0_readSpan 19 = some (.istore 6) ∧ dk cX0_readSpan 21 = some (.iload 6) ∧ dk cX0_readSpan 23 = some (.bipush 48) ∧ dk cX0_readSpan 25 = some (.if_icmp .lt 19) ∧ jok 25 19 = true ∧ jmp 25 19 = 44) ∧ (dk cX0_readSpan 28 = some (.iload 6) ∧ dk cX0_readSpan 30 = some (.bipush 57) ∧ dk cX0_readSpan 32 = some (.if_icmp .gt 12) ∧ jok 32 12 = true ∧ jmp 32 12 = 44 ∧ dk cX0_readSpan 35 = some (.iload 5) ∧ dk cX0_readSpan 37 = some (.iload 4) ∧ dk cX0_readSpan 39 = some (.isub) ∧ dk cX0_readSpan 40 = some (.iconst 3) ∧ dk cX0_readSpan 41 = some (.if_icmp .lt 6)) ∧ (jok 41 6 = true ∧ jmp 41 6 = 47 ∧ dk cX0_readSpan 44 = some (.iload 5) ∧ dk cX0_readSpan 46 = some (.ireturn) ∧ dk cX0_readSpan 47 = some (.aload_n 0) ∧ dk cX0_readSpan 48 = some (.aload_n 0) ∧ dk cX0_readSpan 49 = some (.getfield 19) ∧ fres 0 19 = some (0, 2, 1, false) ∧ dk cX0_readSpan 52 = some (.bipush 10) ∧ dk cX0_readSpan 54 = some (.imul)) ∧ (dk cX0_readSpan 55 = some (.iload 6) ∧ dk cX0_readSpan 57 = some (.iadd) ∧ dk cX0_readSpan 58 = some (.bipush 48) ∧ dk cX0_readSpan 60 = some (.isub) ∧ dk cX0_readSpan 61 = some (.putfield 19) ∧ isBo (tyN 0 2) = false ∧ dk cX0_readSpan 64 = some (.iinc 5 1) ∧ dk cX0_readSpan 67 = some (.goto (-63)) ∧ jok 67 (-63) = true ∧ jmp 67 (-63) = 4) ∧ (dk cX0_readSpan 70 = some (.iload 4) ∧ dk cX0_readSpan 72 = some (.iload_n 3) ∧ dk cX0_readSpan 73 = some (.if_icmp .ge 8) ∧ jok 73 8 = true ∧ jmp 73 8 = 81 ∧ dk cX0_readSpan 76 = some (.bipush (-9)) ∧ dk cX0_readSpan 78 = some (.goto 4) ∧ jok 78 4 = true ∧ jmp 78 4 = 82 ∧ dk cX0_readSpan 81 = some (.iload_n 3)) ∧ (dk cX0_readSpan 82 = some (.ireturn)) := ⟨by decide +kernel, by decide +kernel, by decide +kernel, by decide +kernel, by decide +kernel, by decide +kernel, by decide +kernel⟩
set_option maxRecDepth 100000 in
theorem D_X1_init : (dk cX1_init 0 = some (.aload_n 0) ∧ dk cX1_init 1 = some (.invokespecial 3) ∧ dk cX1_init 4 = some (.aload_n 0) ∧ dk cX1_init 5 = some (.bipush 40) ∧ dk cX1_init 7 = some (.newarray .int) ∧ dk cX1_init 9 = some (.putfield 9) ∧ fres 1 9 = some (1, 0, 0, true) ∧ dk cX1_init 12 = some (.aload_n 0) ∧ dk cX1_init 13 = some (.bipush 40) ∧ dk cX1_init 15 = some (.newarray .int)) ∧ (dk cX1_init 17 = some (.putfield 15) ∧ fres 1 15 = some (1, 1, 0, true) ∧ dk cX1_init 20 = some (.aload_n 0) ∧ dk cX1_init 21 = some (.bipush 40) ∧ dk cX1_init 23 = some (.newarray .int) ∧ dk cX1_init 25 = some (.putfield 18) ∧ fres 1 18 = some (1, 2, 0, true) ∧ dk cX1_init 28 = some (.aload_n 0) ∧ dk cX1_init 29 = some (.bipush 40) ∧ dk cX1_init 31 = some (.newarray .int)) ∧ (dk cX1_init 33 = some (.putfield 21) ∧ fres 1 21 = some (1, 3, 0, true) ∧ dk cX1_init 36 = some (.aload_n 0) ∧ dk cX1_init 37 = some (.bipush 40) ∧ dk cX1_init 39 = some (.newarray .int) ∧ dk cX1_init 41 = some (.putfield 24) ∧ fres 1 24 = some (1, 4, 0, true) ∧ dk cX1_init 44 = some (.return_)) := ⟨by decide +kernel, by decide +kernel, by decide +kernel⟩
set_option maxRecDepth 100000 in
theorem D_X1_isThere : (dk cX1_isThere 0 = some (.iconst 0) ∧ dk cX1_isThere 1 = some (.istore_n 3) ∧ dk cX1_isThere 2 = some (.iload_n 3) ∧ dk cX1_isThere 3 = some (.aload_n 0) ∧ dk cX1_isThere 4 = some (.getfield 27) ∧ fres 1 27 = some (1, 5, 1, false) ∧ dk cX1_isThere 7 = some (.if_icmp .ge 31) ∧ jok 7 31 = true ∧ jmp 7 31 = 38 ∧ dk cX1_isThere 10 = some (.aload_n 0)) ∧ (dk cX1_isThere 11 = some (.getfield 9) ∧ fres 1 9 = some (1, 0, 0, true) ∧ dk cX1_isThere 14 = some (.iload_n 3) ∧ dk cX1_isThere 15 = some (.iaload) ∧ dk cX1_isThere 16 = some (.iload_n 1) ∧ dk cX1_isThere 17 = some (.if_icmp .ne 15) ∧ jok 17 15 = true ∧ jmp 17 15 = 32 ∧ dk cX1_isThere 20 = some (.aload_n 0) ∧ dk cX1_isThere 21 = some (.getfield 15)) ∧ (fres 1 15 = some (1, 1, 0, true) ∧ dk cX1_isThere 24 = some (.iload_n 3) ∧ dk cX1_isThere 25 = some (.iaload) ∧ dk cX1_isThere 26 = some (.iload_n 2) ∧ dk cX1_isThere 27 = some (.if_icmp .ne 5) ∧ jok 27 5 = true ∧ jmp 27 5 = 32 ∧ dk cX1_isThere 30 = some (.iconst 1) ∧ dk cX1_isThere 31 = some (.ireturn) ∧ dk cX1_isThere 32 = some (.iinc 3 1)) ∧ (dk cX1_isThere 35 = some (.goto (-33)) ∧ jok 35 (-33) = true ∧ jmp 35 (-33) = 2 ∧ dk cX1_isThere 38 = some (.iconst 0) ∧ dk cX1_isThere 39 = some (.ireturn)) := ⟨by decide +kernel, by decide +kernel, by decide +kernel, by decide +kernel⟩
set_option maxRecDepth 100000 in
theorem D_X1_keep : (dk cX1_keep 0 = some (.aload_n 0) ∧ dk cX1_keep 1 = some (.getfield 27) ∧ fres 1 27 = some (1, 5, 1, false) ∧ dk cX1_keep 4 = some (.bipush 40) ∧ dk cX1_keep 6 = some (.if_icmp .lt 4) ∧ jok 6 4 = true ∧ jmp 6 4 = 10 ∧ dk cX1_keep 9 = some (.return_) ∧ dk cX1_keep 10 = some (.aload_n 0) ∧ dk cX1_keep 11 = some (.getfield 9)) ∧ (fres 1 9 = some (1, 0, 0, true) ∧ dk cX1_keep 14 = some (.aload_n 0) ∧ dk cX1_keep 15 = some (.getfield 27) ∧ dk cX1_keep 18 = some (.iload_n 1) ∧ dk cX1_keep 19 = some (.iastore) ∧ dk cX1_keep 20 = some (.aload_n 0) ∧ dk cX1_keep 21 = some (.getfield 15) ∧ fres 1 15 = some (1, 1, 0, true) ∧ dk cX1_keep 24 = some (.aload_n 0) ∧ dk cX1_keep 25 = some (.getfield 27)) ∧ (dk cX1_keep 28 = some (.aload_n 2) ∧ dk cX1_keep 29 = some (.getfield 31) ∧ fres 1 31 = some (8, 0, 1, true) ∧ dk cX1_keep 32 = some (.iastore) ∧ dk cX1_keep 33 = some (.aload_n 0) ∧ dk cX1_keep 34 = some (.getfield 18) ∧ fres 1 18 = some (1, 2, 0, true) ∧ dk cX1_keep 37 = some (.aload_n 0) ∧ dk cX1_keep 38 = some (.getfield 27) ∧ dk cX1_keep 41 = some (.aload_n 2)) ∧ (dk cX1_keep 42 = some (.getfield 36) ∧ fres 1 36 = some (8, 2, 1, true) ∧ dk cX1_keep 45 = some (.iastore) ∧ dk cX1_keep 46 = some (.aload_n 0) ∧ dk cX1_keep 47 = some (.getfield 21) ∧ fres 1 21 = some (1, 3, 0, true) ∧ dk cX1_keep 50 = some (.aload_n 0) ∧ dk cX1_keep 51 = some (.getfield 27) ∧ dk cX1_keep 54 = some (.iload_n 3) ∧ dk cX1_keep 55 = some (.iastore)) ∧ (dk cX1_keep 56 = some (.aload_n 0) ∧ dk cX1_keep 57 = some (.dup) ∧ dk cX1_keep 58 = some (.getfield 27) ∧ dk cX1_keep 61 = some (.iconst 1) ∧ dk cX1_keep 62 = some (.iadd) ∧ dk cX1_keep 63 = some (.putfield 27) ∧ isBo (tyN 1 5) = false ∧ dk cX1_keep 66 = some (.return_)) := ⟨by decide +kernel, by decide +kernel, by decide +kernel, by decide +kernel, by decide +kernel⟩
set_option maxRecDepth 100000 in
theorem D_X1_countOf : (dk cX1_countOf 0 = some (.iconst 0) ∧ dk cX1_countOf 1 = some (.istore_n 3) ∧ dk cX1_countOf 2 = some (.iconst 0) ∧ dk cX1_countOf 3 = some (.istore 4) ∧ dk cX1_countOf 5 = some (.iload 4) ∧ dk cX1_countOf 7 = some (.aload_n 0) ∧ dk cX1_countOf 8 = some (.getfield 27) ∧ fres 1 27 = some (1, 5, 1, false) ∧ dk cX1_countOf 11 = some (.if_icmp .ge 34) ∧ jok 11 34 = true) ∧ (jmp 11 34 = 45 ∧ dk cX1_countOf 14 = some (.aload_n 0) ∧ dk cX1_countOf 15 = some (.getfield 9) ∧ fres 1 9 = some (1, 0, 0, true) ∧ dk cX1_countOf 18 = some (.iload 4) ∧ dk cX1_countOf 20 = some (.iaload) ∧ dk cX1_countOf 21 = some (.iload_n 1) ∧ dk cX1_countOf 22 = some (.if_icmp .ne 17) ∧ jok 22 17 = true ∧ jmp 22 17 = 39) ∧ (dk cX1_countOf 25 = some (.aload_n 0) ∧ dk cX1_countOf 26 = some (.getfield 24) ∧ fres 1 24 = some (1, 4, 0, true) ∧ dk cX1_countOf 29 = some (.iload 4) ∧ dk cX1_countOf 31 = some (.iaload) ∧ dk cX1_countOf 32 = some (.iload_n 2) ∧ dk cX1_countOf 33 = some (.if_icmp .ne 6) ∧ jok 33 6 = true ∧ jmp 33 6 = 39 ∧ dk cX1_countOf 36 = some (.iinc 3 1)) ∧ (dk cX1_countOf 39 = some (.iinc 4 1) ∧ dk cX1_countOf 42 = some (.goto (-37)) ∧ jok 42 (-37) = true ∧ jmp 42 (-37) = 5 ∧ dk cX1_countOf 45 = some (.iload_n 3) ∧ dk cX1_countOf 46 = some (.ireturn)) := ⟨by decide +kernel, by decide +kernel, by decide +kernel, by decide +kernel⟩
set_option maxRecDepth 100000 in
theorem D_X1_machinesWith : (dk cX1_machinesWith 0 = some (.iconst 0) ∧ dk cX1_machinesWith 1 = some (.istore_n 2) ∧ dk cX1_machinesWith 2 = some (.iconst 0) ∧ dk cX1_machinesWith 3 = some (.istore_n 3) ∧ dk cX1_machinesWith 4 = some (.iload_n 3) ∧ dk cX1_machinesWith 5 = some (.aload_n 0) ∧ dk cX1_machinesWith 6 = some (.getfield 27) ∧ fres 1 27 = some (1, 5, 1, false) ∧ dk cX1_machinesWith 9 = some (.if_icmp .ge 54) ∧ jok 9 54 = true) ∧ (jmp 9 54 = 63 ∧ dk cX1_machinesWith 12 = some (.aload_n 0) ∧ dk cX1_machinesWith 13 = some (.getfield 9) ∧ fres 1 9 = some (1, 0, 0, true) ∧ dk cX1_machinesWith 16 = some (.iload_n 3) ∧ dk cX1_machinesWith 17 = some (.iaload) ∧ dk cX1_machinesWith 18 = some (.aload_n 1) ∧ dk cX1_machinesWith 19 = some (.getfield 39) ∧ fres 1 39 = some (0, 0, 0, true) ∧ dk cX1_machinesWith 22 = some (.iconst 0)) ∧ (dk cX1_machinesWith 23 = some (.iaload) ∧ dk cX1_machinesWith 24 = some (.if_icmp .ne 33) ∧ jok 24 33 = true ∧ jmp 24 33 = 57 ∧ dk cX1_machinesWith 27 = some (.aload_n 0) ∧ dk cX1_machinesWith 28 = some (.getfield 24) ∧ fres 1 24 = some (1, 4, 0, true) ∧ dk cX1_machinesWith 31 = some (.iload_n 3) ∧ dk cX1_machinesWith 32 = some (.iaload) ∧ dk cX1_machinesWith 33 = some (.iconst 1)) ∧ (dk cX1_machinesWith 34 = some (.if_icmp .eq 23) ∧ jok 34 23 = true ∧ jmp 34 23 = 57 ∧ dk cX1_machinesWith 37 = some (.aload_n 0) ∧ dk cX1_machinesWith 38 = some (.iload_n 3) ∧ dk cX1_machinesWith 39 = some (.aload_n 1) ∧ dk cX1_machinesWith 40 = some (.invokevirtual 44) ∧ cres 1 44 = some 8 ∧ pM 8 = 2 ∧ sM 8 = false) ∧ (oM 8 = 1 ∧ dk cX1_machinesWith 43 = some (.ifCond .eq 14) ∧ jok 43 14 = true ∧ jmp 43 14 = 57 ∧ dk cX1_machinesWith 46 = some (.iload_n 2) ∧ dk cX1_machinesWith 47 = some (.iconst 1) ∧ dk cX1_machinesWith 48 = some (.aload_n 0) ∧ dk cX1_machinesWith 49 = some (.getfield 18) ∧ fres 1 18 = some (1, 2, 0, true) ∧ dk cX1_machinesWith 52 = some (.iload_n 3)) ∧ (dk cX1_machinesWith 53 = some (.iaload) ∧ dk cX1_machinesWith 54 = some (.ishl) ∧ dk cX1_machinesWith 55 = some (.ior) ∧ dk cX1_machinesWith 56 = some (.istore_n 2) ∧ dk cX1_machinesWith 57 = some (.iinc 3 1) ∧ dk cX1_machinesWith 60 = some (.goto (-56)) ∧ jok 60 (-56) = true ∧ jmp 60 (-56) = 4 ∧ dk cX1_machinesWith 63 = some (.iload_n 2) ∧ dk cX1_machinesWith 64 = some (.ireturn)) := ⟨by decide +kernel, by decide +kernel, by decide +kernel, by decide +kernel, by decide +kernel, by decide +kernel⟩
set_option maxRecDepth 100000 in
theorem N_X1_machinesWith : ((yM 8).name = "<init>") = False := by simp only [eq_iff_iff, iff_false, iff_true]; decide +kernel
set_option maxRecDepth 100000 in
theorem D_X1_isChainFrom : (dk cX1_isChainFrom 0 = some (.lconst 1) ∧ dk cX1_isChainFrom 1 = some (.iload_n 1) ∧ dk cX1_isChainFrom 2 = some (.lshl) ∧ dk cX1_isChainFrom 3 = some (.lstore_n 3) ∧ dk cX1_isChainFrom 4 = some (.aload_n 0) ∧ dk cX1_isChainFrom 5 = some (.getfield 21) ∧ fres 1 21 = some (1, 3, 0, true) ∧ dk cX1_isChainFrom 8 = some (.iload_n 1) ∧ dk cX1_isChainFrom 9 = some (.iaload) ∧ dk cX1_isChainFrom 10 = some (.istore 5)) ∧ (dk cX1_isChainFrom 12 = some (.iconst 1) ∧ dk cX1_isChainFrom 13 = some (.istore 6) ∧ dk cX1_isChainFrom 15 = some (.iload 6) ∧ dk cX1_isChainFrom 17 = some (.aload_n 2) ∧ dk cX1_isChainFrom 18 = some (.getfield 48) ∧ fres 1 48 = some (0, 1, 1, false) ∧ dk cX1_isChainFrom 21 = some (.if_icmp .ge 56) ∧ jok 21 56 = true ∧ jmp 21 56 = 77 ∧ dk cX1_isChainFrom 24 = some (.aload_n 0)) ∧ (dk cX1_isChainFrom 25 = some (.aload_n 2) ∧ dk cX1_isChainFrom 26 = some (.getfield 39) ∧ fres 1 39 = some (0, 0, 0, true) ∧ dk cX1_isChainFrom 29 = some (.iload 6) ∧ dk cX1_isChainFrom 31 = some (.iaload) ∧ dk cX1_isChainFrom 32 = some (.aload_n 0) ∧ dk cX1_isChainFrom 33 = some (.getfield 18) ∧ fres 1 18 = some (1, 2, 0, true) ∧ dk cX1_isChainFrom 36 = some (.iload_n 1) ∧ dk cX1_isChainFrom 37 = some (.iaload)) ∧ (dk cX1_isChainFrom 38 = some (.iload 5) ∧ dk cX1_isChainFrom 40 = some (.lload_n 3) ∧ dk cX1_isChainFrom 41 = some (.invokevirtual 51) ∧ cres 1 51 = some 9 ∧ pM 9 = 4 ∧ sM 9 = false ∧ oM 9 = 1 ∧ dk cX1_isChainFrom 44 = some (.istore 7) ∧ dk cX1_isChainFrom 46 = some (.iload 7) ∧ dk cX1_isChainFrom 48 = some (.bipush (-9))) ∧ (dk cX1_isChainFrom 50 = some (.if_icmp .ne 5) ∧ jok 50 5 = true ∧ jmp 50 5 = 55 ∧ dk cX1_isChainFrom 53 = some (.iconst 0) ∧ dk cX1_isChainFrom 54 = some (.ireturn) ∧ dk cX1_isChainFrom 55 = some (.lload_n 3) ∧ dk cX1_isChainFrom 56 = some (.lconst 1) ∧ dk cX1_isChainFrom 57 = some (.iload 7) ∧ dk cX1_isChainFrom 59 = some (.lshl) ∧ dk cX1_isChainFrom 60 = some (.lor)) ∧ (dk cX1_isChainFrom 61 = some (.lstore_n 3) ∧ dk cX1_isChainFrom 62 = some (.aload_n 0) ∧ dk cX1_isChainFrom 63 = some (.getfield 21) ∧ dk cX1_isChainFrom 66 = some (.iload 7) ∧ dk cX1_isChainFrom 68 = some (.iaload) ∧ dk cX1_isChainFrom 69 = some (.istore 5) ∧ dk cX1_isChainFrom 71 = some (.iinc 6 1) ∧ dk cX1_isChainFrom 74 = some (.goto (-59)) ∧ jok 74 (-59) = true ∧ jmp 74 (-59) = 15) ∧ (dk cX1_isChainFrom 77 = some (.iload 5) ∧ dk cX1_isChainFrom 79 = some (.aload_n 0) ∧ dk cX1_isChainFrom 80 = some (.getfield 21) ∧ dk cX1_isChainFrom 83 = some (.iload_n 1) ∧ dk cX1_isChainFrom 84 = some (.iaload) ∧ dk cX1_isChainFrom 85 = some (.isub) ∧ dk cX1_isChainFrom 86 = some (.aload_n 2) ∧ dk cX1_isChainFrom 87 = some (.getfield 55) ∧ fres 1 55 = some (0, 2, 1, false) ∧ dk cX1_isChainFrom 90 = some (.if_icmp .gt 7)) ∧ (jok 90 7 = true ∧ jmp 90 7 = 97 ∧ dk cX1_isChainFrom 93 = some (.iconst 1) ∧ dk cX1_isChainFrom 94 = some (.goto 4) ∧ jok 94 4 = true ∧ jmp 94 4 = 98 ∧ dk cX1_isChainFrom 97 = some (.iconst 0) ∧ dk cX1_isChainFrom 98 = some (.ireturn)) := ⟨by decide +kernel, by decide +kernel, by decide +kernel, by decide +kernel, by decide +kernel, by decide +kernel, by decide +kernel, by decide +kernel⟩
set_option maxRecDepth 100000 in
theorem N_X1_isChainFrom : ((yM 9).name = "<init>") = False := by simp only [eq_iff_iff, iff_false, iff_true]; decide +kernel
set_option maxRecDepth 100000 in
theorem D_X1_earliest : (dk cX1_earliest 0 = some (.bipush (-9)) ∧ dk cX1_earliest 2 = some (.istore 6) ∧ dk cX1_earliest 4 = some (.iconst 0) ∧ dk cX1_earliest 5 = some (.istore 7) ∧ dk cX1_earliest 7 = some (.iload 7) ∧ dk cX1_earliest 9 = some (.aload_n 0) ∧ dk cX1_earliest 10 = some (.getfield 27) ∧ fres 1 27 = some (1, 5, 1, false) ∧ dk cX1_earliest 13 = some (.if_icmp .ge 117) ∧ jok 13 117 = true) ∧ (jmp 13 117 = 130 ∧ dk cX1_earliest 16 = some (.lload 4) ∧ dk cX1_earliest 18 = some (.iload 7) ∧ dk cX1_earliest 20 = some (.lshr) ∧ dk cX1_earliest 21 = some (.lconst 1) ∧ dk cX1_earliest 22 = some (.land) ∧ dk cX1_earliest 23 = some (.lconst 0) ∧ dk cX1_earliest 24 = some (.lcmp) ∧ dk cX1_earliest 25 = some (.ifCond .ne 18) ∧ jok 25 18 = true) ∧ (jmp 25 18 = 43 ∧ dk cX1_earliest 28 = some (.aload_n 0) ∧ dk cX1_earliest 29 = some (.getfield 24) ∧ fres 1 24 = some (1, 4, 0, true) ∧ dk cX1_earliest 32 = some (.iload 7) ∧ dk cX1_earliest 34 = some (.iaload) ∧ dk cX1_earliest 35 = some (.iconst 1) ∧ dk cX1_earliest 36 = some (.if_icmp .eq 7) ∧ jok 36 7 = true ∧ jmp 36 7 = 43) ∧ (dk cX1_earliest 39 = some (.iconst 1) ∧ dk cX1_earliest 40 = some (.goto 4) ∧ jok 40 4 = true ∧ jmp 40 4 = 44 ∧ dk cX1_earliest 43 = some (.iconst 0) ∧ dk cX1_earliest 44 = some (.istore 8) ∧ dk cX1_earliest 46 = some (.aload_n 0) ∧ dk cX1_earliest 47 = some (.getfield 9) ∧ fres 1 9 = some (1, 0, 0, true) ∧ dk cX1_earliest 50 = some (.iload 7)) ∧ (dk cX1_earliest 52 = some (.iaload) ∧ dk cX1_earliest 53 = some (.iload_n 1) ∧ dk cX1_earliest 54 = some (.if_icmp .ne 29) ∧ jok 54 29 = true ∧ jmp 54 29 = 83 ∧ dk cX1_earliest 57 = some (.aload_n 0) ∧ dk cX1_earliest 58 = some (.getfield 18) ∧ fres 1 18 = some (1, 2, 0, true) ∧ dk cX1_earliest 61 = some (.iload 7) ∧ dk cX1_earliest 63 = some (.iaload)) ∧ (dk cX1_earliest 64 = some (.iload_n 2) ∧ dk cX1_earliest 65 = some (.if_icmp .ne 18) ∧ jok 65 18 = true ∧ jmp 65 18 = 83 ∧ dk cX1_earliest 68 = some (.aload_n 0) ∧ dk cX1_earliest 69 = some (.getfield 21) ∧ fres 1 21 = some (1, 3, 0, true) ∧ dk cX1_earliest 72 = some (.iload 7) ∧ dk cX1_earliest 74 = some (.iaload) ∧ dk cX1_earliest 75 = some (.iload_n 3)) ∧ (dk cX1_earliest 76 = some (.if_icmp .lt 7) ∧ jok 76 7 = true ∧ jmp 76 7 = 83 ∧ dk cX1_earliest 79 = some (.iconst 1) ∧ dk cX1_earliest 80 = some (.goto 4) ∧ jok 80 4 = true ∧ jmp 80 4 = 84 ∧ dk cX1_earliest 83 = some (.iconst 0) ∧ dk cX1_earliest 84 = some (.istore 9) ∧ dk cX1_earliest 86 = some (.iload 8)) ∧ (dk cX1_earliest 88 = some (.ifCond .eq 36) ∧ jok 88 36 = true ∧ jmp 88 36 = 124 ∧ dk cX1_earliest 91 = some (.iload 9) ∧ dk cX1_earliest 93 = some (.ifCond .eq 31) ∧ jok 93 31 = true ∧ jmp 93 31 = 124 ∧ dk cX1_earliest 96 = some (.iload 6) ∧ dk cX1_earliest 98 = some (.bipush (-9)) ∧ dk cX1_earliest 100 = some (.if_icmp .eq 20)) ∧ (jok 100 20 = true ∧ jmp 100 20 = 120 ∧ dk cX1_earliest 103 = some (.aload_n 0) ∧ dk cX1_earliest 104 = some (.getfield 21) ∧ dk cX1_earliest 107 = some (.iload 7) ∧ dk cX1_earliest 109 = some (.iaload) ∧ dk cX1_earliest 110 = some (.aload_n 0) ∧ dk cX1_earliest 111 = some (.getfield 21) ∧ dk cX1_earliest 114 = some (.iload 6) ∧ dk cX1_earliest 116 = some (.iaload)) ∧ (dk cX1_earliest 117 = some (.if_icmp .ge 7) ∧ jok 117 7 = true ∧ jmp 117 7 = 124 ∧ dk cX1_earliest 120 = some (.iload 7) ∧ dk cX1_earliest 122 = some (.istore 6) ∧ dk cX1_earliest 124 = some (.iinc 7 1) ∧ dk cX1_earliest 127 = some (.goto (-120)) ∧ jok 127 (-120) = true ∧ jmp 127 (-120) = 7 ∧ dk cX1_earliest 130 = some (.iload 6)) ∧ (dk cX1_earliest 132 = some (.ireturn)) := ⟨by decide +kernel, by decide +kernel, by decide +kernel, by decide +kernel, by decide +kernel, by decide +kernel, by decide +kernel, by decide +kernel, by decide +kernel, by decide +kernel, by decide +kernel⟩
set_option maxRecDepth 100000 in
theorem D_X2_init : (dk cX2_init 0 = some (.aload_n 0) ∧ dk cX2_init 1 = some (.invokespecial 3) ∧ dk cX2_init 4 = some (.aload_n 0) ∧ dk cX2_init 5 = some (.sipush 140) ∧ dk cX2_init 8 = some (.newarray .int) ∧ dk cX2_init 10 = some (.putfield 9) ∧ fres 2 9 = some (2, 0, 0, true) ∧ dk cX2_init 13 = some (.aload_n 0) ∧ dk cX2_init 14 = some (.bipush 10) ∧ dk cX2_init 16 = some (.newarray .int)) ∧ (dk cX2_init 18 = some (.putfield 15) ∧ fres 2 15 = some (2, 1, 0, true) ∧ dk cX2_init 21 = some (.return_)) := ⟨by decide +kernel, by decide +kernel⟩
set_option maxRecDepth 100000 in
theorem D_X2_change : (dk cX2_change 0 = some (.aload_n 0) ∧ dk cX2_change 1 = some (.getfield 9) ∧ fres 2 9 = some (2, 0, 0, true) ∧ dk cX2_change 4 = some (.iload_n 1) ∧ dk cX2_change 5 = some (.bipush 14) ∧ dk cX2_change 7 = some (.imul) ∧ dk cX2_change 8 = some (.iload_n 2) ∧ dk cX2_change 9 = some (.iadd) ∧ dk cX2_change 10 = some (.iaload) ∧ dk cX2_change 11 = some (.istore 4)) ∧ (dk cX2_change 13 = some (.aload_n 0) ∧ dk cX2_change 14 = some (.getfield 9) ∧ dk cX2_change 17 = some (.iload_n 1) ∧ dk cX2_change 18 = some (.bipush 14) ∧ dk cX2_change 20 = some (.imul) ∧ dk cX2_change 21 = some (.iload_n 2) ∧ dk cX2_change 22 = some (.iadd) ∧ dk cX2_change 23 = some (.iload_n 3) ∧ dk cX2_change 24 = some (.iastore) ∧ dk cX2_change 25 = some (.iload 4)) ∧ (dk cX2_change 27 = some (.ireturn)) := ⟨by decide +kernel, by decide +kernel, by decide +kernel⟩
set_option maxRecDepth 100000 in
theorem D_X2_sumOf : (dk cX2_sumOf 0 = some (.iconst 0) ∧ dk cX2_sumOf 1 = some (.istore_n 3) ∧ dk cX2_sumOf 2 = some (.iconst 0) ∧ dk cX2_sumOf 3 = some (.istore 4) ∧ dk cX2_sumOf 5 = some (.iload 4) ∧ dk cX2_sumOf 7 = some (.bipush 14) ∧ dk cX2_sumOf 9 = some (.if_icmp .ge 33) ∧ jok 9 33 = true ∧ jmp 9 33 = 42 ∧ dk cX2_sumOf 12 = some (.iload_n 2)) ∧ (dk cX2_sumOf 13 = some (.iload 4) ∧ dk cX2_sumOf 15 = some (.ishr) ∧ dk cX2_sumOf 16 = some (.iconst 1) ∧ dk cX2_sumOf 17 = some (.iand) ∧ dk cX2_sumOf 18 = some (.ifCond .eq 18) ∧ jok 18 18 = true ∧ jmp 18 18 = 36 ∧ dk cX2_sumOf 21 = some (.iload_n 3) ∧ dk cX2_sumOf 22 = some (.aload_n 0) ∧ dk cX2_sumOf 23 = some (.getfield 9)) ∧ (fres 2 9 = some (2, 0, 0, true) ∧ dk cX2_sumOf 26 = some (.iload_n 1) ∧ dk cX2_sumOf 27 = some (.bipush 14) ∧ dk cX2_sumOf 29 = some (.imul) ∧ dk cX2_sumOf 30 = some (.iload 4) ∧ dk cX2_sumOf 32 = some (.iadd) ∧ dk cX2_sumOf 33 = some (.iaload) ∧ dk cX2_sumOf 34 = some (.iadd) ∧ dk cX2_sumOf 35 = some (.istore_n 3) ∧ dk cX2_sumOf 36 = some (.iinc 4 1)) ∧ (dk cX2_sumOf 39 = some (.goto (-34)) ∧ jok 39 (-34) = true ∧ jmp 39 (-34) = 5 ∧ dk cX2_sumOf 42 = some (.iload_n 3) ∧ dk cX2_sumOf 43 = some (.ireturn)) := ⟨by decide +kernel, by decide +kernel, by decide +kernel, by decide +kernel⟩
set_option maxRecDepth 100000 in
theorem D_X2_setsAsLarge : (dk cX2_setsAsLarge 0 = some (.iload_n 1) ∧ dk cX2_setsAsLarge 1 = some (.invokestatic 18) ∧ cres 2 18 = some 251 ∧ pM 251 = 1 ∧ sM 251 = true ∧ dk cX2_setsAsLarge 4 = some (.istore_n 2) ∧ dk cX2_setsAsLarge 5 = some (.iload_n 2) ∧ dk cX2_setsAsLarge 6 = some (.bipush 14) ∧ dk cX2_setsAsLarge 8 = some (.if_icmp .gt 11) ∧ jok 8 11 = true) ∧ (jmp 8 11 = 19 ∧ dk cX2_setsAsLarge 11 = some (.getstatic 24) ∧ dk cX2_setsAsLarge 14 = some (.iload_n 2) ∧ dk cX2_setsAsLarge 15 = some (.iaload) ∧ dk cX2_setsAsLarge 16 = some (.goto 4) ∧ jok 16 4 = true ∧ jmp 16 4 = 20 ∧ dk cX2_setsAsLarge 19 = some (.iconst 0) ∧ dk cX2_setsAsLarge 20 = some (.ireturn)) := ⟨by decide +kernel, by decide +kernel⟩
set_option maxRecDepth 100000 in
theorem D_X2_setsAsGreat : (dk cX2_setsAsGreat 0 = some (.aload_n 0) ∧ dk cX2_setsAsGreat 1 = some (.getfield 9) ∧ fres 2 9 = some (2, 0, 0, true) ∧ dk cX2_setsAsGreat 4 = some (.iload_n 1) ∧ dk cX2_setsAsGreat 5 = some (.bipush 14) ∧ dk cX2_setsAsGreat 7 = some (.imul) ∧ dk cX2_setsAsGreat 8 = some (.iconst 0) ∧ dk cX2_setsAsGreat 9 = some (.iload_n 2) ∧ dk cX2_setsAsGreat 10 = some (.invokestatic 18) ∧ cres 2 18 = some 251) ∧ (pM 251 = 1 ∧ sM 251 = true ∧ dk cX2_setsAsGreat 13 = some (.aload_n 0) ∧ dk cX2_setsAsGreat 14 = some (.iload_n 1) ∧ dk cX2_setsAsGreat 15 = some (.iload_n 2) ∧ dk cX2_setsAsGreat 16 = some (.invokevirtual 27) ∧ cres 2 27 = some 12 ∧ pM 12 = 2 ∧ sM 12 = false ∧ oM 12 = 2) ∧ (dk cX2_setsAsGreat 19 = some (.invokestatic 31) ∧ cres 2 31 = some 15 ∧ pM 15 = 5 ∧ sM 15 = true ∧ dk cX2_setsAsGreat 22 = some (.ireturn)) := ⟨by decide +kernel, by decide +kernel, by decide +kernel⟩
set_option maxRecDepth 100000 in
theorem N_X2_setsAsGreat : ((yM 12).name = "<init>") = False := by simp only [eq_iff_iff, iff_false, iff_true]; decide +kernel
set_option maxRecDepth 100000 in
theorem D_X2_setsWith : (dk cX2_setsWith 0 = some (.iload_n 3) ∧ dk cX2_setsWith 1 = some (.ifCond .gt 14) ∧ jok 1 14 = true ∧ jmp 1 14 = 15 ∧ dk cX2_setsWith 4 = some (.iload 4) ∧ dk cX2_setsWith 6 = some (.ifCond .gt 7) ∧ jok 6 7 = true ∧ jmp 6 7 = 13 ∧ dk cX2_setsWith 9 = some (.iconst 1) ∧ dk cX2_setsWith 10 = some (.goto 4)) ∧ (jok 10 4 = true ∧ jmp 10 4 = 14 ∧ dk cX2_setsWith 13 = some (.iconst 0) ∧ dk cX2_setsWith 14 = some (.ireturn) ∧ dk cX2_setsWith 15 = some (.iconst 0) ∧ dk cX2_setsWith 16 = some (.istore 5) ∧ dk cX2_setsWith 18 = some (.iload_n 2) ∧ dk cX2_setsWith 19 = some (.istore 6) ∧ dk cX2_setsWith 21 = some (.iload 6) ∧ dk cX2_setsWith 23 = some (.bipush 14)) ∧ (dk cX2_setsWith 25 = some (.iload_n 3) ∧ dk cX2_setsWith 26 = some (.isub) ∧ dk cX2_setsWith 27 = some (.if_icmp .gt 35) ∧ jok 27 35 = true ∧ jmp 27 35 = 62 ∧ dk cX2_setsWith 30 = some (.iload 5) ∧ dk cX2_setsWith 32 = some (.aload_n 0) ∧ dk cX2_setsWith 33 = some (.iload_n 1) ∧ dk cX2_setsWith 34 = some (.iload 6) ∧ dk cX2_setsWith 36 = some (.iconst 1)) ∧ (dk cX2_setsWith 37 = some (.iadd) ∧ dk cX2_setsWith 38 = some (.iload_n 3) ∧ dk cX2_setsWith 39 = some (.iconst 1) ∧ dk cX2_setsWith 40 = some (.isub) ∧ dk cX2_setsWith 41 = some (.iload 4) ∧ dk cX2_setsWith 43 = some (.aload_n 0) ∧ dk cX2_setsWith 44 = some (.iload_n 1) ∧ dk cX2_setsWith 45 = some (.iload 6) ∧ dk cX2_setsWith 47 = some (.iadd) ∧ dk cX2_setsWith 48 = some (.iaload)) ∧ (dk cX2_setsWith 49 = some (.isub) ∧ dk cX2_setsWith 50 = some (.invokestatic 31) ∧ cres 2 31 = some 15 ∧ pM 15 = 5 ∧ sM 15 = true ∧ dk cX2_setsWith 53 = some (.iadd) ∧ dk cX2_setsWith 54 = some (.istore 5) ∧ dk cX2_setsWith 56 = some (.iinc 6 1) ∧ dk cX2_setsWith 59 = some (.goto (-38)) ∧ jok 59 (-38) = true) ∧ (jmp 59 (-38) = 21 ∧ dk cX2_setsWith 62 = some (.iload 5) ∧ dk cX2_setsWith 64 = some (.ireturn)) := ⟨by decide +kernel, by decide +kernel, by decide +kernel, by decide +kernel, by decide +kernel, by decide +kernel⟩
set_option maxRecDepth 100000 in
theorem D_X2_likesOf : (dk cX2_likesOf 0 = some (.aload_n 0) ∧ dk cX2_likesOf 1 = some (.iload_n 1) ∧ dk cX2_likesOf 2 = some (.iload_n 2) ∧ dk cX2_likesOf 3 = some (.invokevirtual 27) ∧ cres 2 27 = some 12 ∧ pM 12 = 2 ∧ sM 12 = false ∧ oM 12 = 2 ∧ dk cX2_likesOf 6 = some (.istore_n 3) ∧ dk cX2_likesOf 7 = some (.iconst 0)) ∧ (dk cX2_likesOf 8 = some (.istore 4) ∧ dk cX2_likesOf 10 = some (.iconst 0) ∧ dk cX2_likesOf 11 = some (.istore 5) ∧ dk cX2_likesOf 13 = some (.iload 5) ∧ dk cX2_likesOf 15 = some (.bipush 10) ∧ dk cX2_likesOf 17 = some (.if_icmp .ge 39) ∧ jok 17 39 = true ∧ jmp 17 39 = 56 ∧ dk cX2_likesOf 20 = some (.aload_n 0) ∧ dk cX2_likesOf 21 = some (.getfield 15)) ∧ (fres 2 15 = some (2, 1, 0, true) ∧ dk cX2_likesOf 24 = some (.iload 5) ∧ dk cX2_likesOf 26 = some (.iaload) ∧ dk cX2_likesOf 27 = some (.aload_n 0) ∧ dk cX2_likesOf 28 = some (.getfield 15) ∧ dk cX2_likesOf 31 = some (.iload_n 1) ∧ dk cX2_likesOf 32 = some (.iaload) ∧ dk cX2_likesOf 33 = some (.if_icmp .ne 17) ∧ jok 33 17 = true ∧ jmp 33 17 = 50) ∧ (dk cX2_likesOf 36 = some (.aload_n 0) ∧ dk cX2_likesOf 37 = some (.iload 5) ∧ dk cX2_likesOf 39 = some (.iload_n 2) ∧ dk cX2_likesOf 40 = some (.invokevirtual 27) ∧ dk cX2_likesOf 43 = some (.iload_n 3) ∧ dk cX2_likesOf 44 = some (.if_icmp .lt 6) ∧ jok 44 6 = true ∧ jmp 44 6 = 50 ∧ dk cX2_likesOf 47 = some (.iinc 4 1) ∧ dk cX2_likesOf 50 = some (.iinc 5 1)) ∧ (dk cX2_likesOf 53 = some (.goto (-40)) ∧ jok 53 (-40) = true ∧ jmp 53 (-40) = 13 ∧ dk cX2_likesOf 56 = some (.iload 4) ∧ dk cX2_likesOf 58 = some (.ireturn)) := ⟨by decide +kernel, by decide +kernel, by decide +kernel, by decide +kernel, by decide +kernel⟩
set_option maxRecDepth 100000 in
theorem N_X2_likesOf : ((yM 12).name = "<init>") = False := by simp only [eq_iff_iff, iff_false, iff_true]; decide +kernel
set_option maxRecDepth 100000 in
theorem D_X3_init : (dk cX3_init 0 = some (.aload_n 0) ∧ dk cX3_init 1 = some (.invokespecial 3) ∧ dk cX3_init 4 = some (.aload_n 0) ∧ dk cX3_init 5 = some (.bipush 40) ∧ dk cX3_init 7 = some (.newarray .int) ∧ dk cX3_init 9 = some (.putfield 9) ∧ fres 3 9 = some (3, 0, 0, true) ∧ dk cX3_init 12 = some (.aload_n 0) ∧ dk cX3_init 13 = some (.iconst 4) ∧ dk cX3_init 14 = some (.newarray .int)) ∧ (dk cX3_init 16 = some (.putfield 15) ∧ fres 3 15 = some (3, 1, 0, true) ∧ dk cX3_init 19 = some (.aload_n 0) ∧ dk cX3_init 20 = some (.iconst 4) ∧ dk cX3_init 21 = some (.newarray .int) ∧ dk cX3_init 23 = some (.putfield 18) ∧ fres 3 18 = some (3, 2, 0, true) ∧ dk cX3_init 26 = some (.aload_n 0) ∧ dk cX3_init 27 = some (.getfield 9) ∧ dk cX3_init 30 = some (.bipush (-9))) ∧ (dk cX3_init 32 = some (.invokestatic 21) ∧ cres 3 21 = some 254 ∧ pM 254 = 2 ∧ sM 254 = true ∧ dk cX3_init 35 = some (.return_)) := ⟨by decide +kernel, by decide +kernel, by decide +kernel⟩
set_option maxRecDepth 100000 in
theorem D_X3_allow : (dk cX3_allow 0 = some (.aload_n 0) ∧ dk cX3_allow 1 = some (.getfield 9) ∧ fres 3 9 = some (3, 0, 0, true) ∧ dk cX3_allow 4 = some (.iload_n 1) ∧ dk cX3_allow 5 = some (.bipush 10) ∧ dk cX3_allow 7 = some (.imul) ∧ dk cX3_allow 8 = some (.iload_n 2) ∧ dk cX3_allow 9 = some (.iadd) ∧ dk cX3_allow 10 = some (.iaload) ∧ dk cX3_allow 11 = some (.istore 4)) ∧ (dk cX3_allow 13 = some (.aload_n 0) ∧ dk cX3_allow 14 = some (.getfield 9) ∧ dk cX3_allow 17 = some (.iload_n 1) ∧ dk cX3_allow 18 = some (.bipush 10) ∧ dk cX3_allow 20 = some (.imul) ∧ dk cX3_allow 21 = some (.iload_n 2) ∧ dk cX3_allow 22 = some (.iadd) ∧ dk cX3_allow 23 = some (.iload_n 3) ∧ dk cX3_allow 24 = some (.iastore) ∧ dk cX3_allow 25 = some (.iload 4)) ∧ (dk cX3_allow 27 = some (.ireturn)) := ⟨by decide +kernel, by decide +kernel, by decide +kernel⟩
set_option maxRecDepth 100000 in
theorem D_X3_keepLook : (dk cX3_keepLook 0 = some (.aload_n 0) ∧ dk cX3_keepLook 1 = some (.getfield 27) ∧ fres 3 27 = some (3, 3, 1, false) ∧ dk cX3_keepLook 4 = some (.bipush 60) ∧ dk cX3_keepLook 6 = some (.if_icmp .lt 6) ∧ jok 6 6 = true ∧ jmp 6 6 = 12 ∧ dk cX3_keepLook 9 = some (.bipush (-4)) ∧ dk cX3_keepLook 11 = some (.ireturn) ∧ dk cX3_keepLook 12 = some (.aload_n 0)) ∧ (dk cX3_keepLook 13 = some (.dup) ∧ dk cX3_keepLook 14 = some (.getfield 27) ∧ dk cX3_keepLook 17 = some (.iconst 1) ∧ dk cX3_keepLook 18 = some (.iadd) ∧ dk cX3_keepLook 19 = some (.putfield 27) ∧ isBo (tyN 3 3) = false ∧ dk cX3_keepLook 22 = some (.aload_n 0) ∧ dk cX3_keepLook 23 = some (.getfield 15) ∧ fres 3 15 = some (3, 1, 0, true) ∧ dk cX3_keepLook 26 = some (.iload_n 1)) ∧ (dk cX3_keepLook 27 = some (.dup2) ∧ dk cX3_keepLook 28 = some (.iaload) ∧ dk cX3_keepLook 29 = some (.iconst 1) ∧ dk cX3_keepLook 30 = some (.iadd) ∧ dk cX3_keepLook 31 = some (.iastore) ∧ dk cX3_keepLook 32 = some (.aload_n 0) ∧ dk cX3_keepLook 33 = some (.getfield 9) ∧ fres 3 9 = some (3, 0, 0, true) ∧ dk cX3_keepLook 36 = some (.iload_n 1) ∧ dk cX3_keepLook 37 = some (.bipush 10)) ∧ (dk cX3_keepLook 39 = some (.imul) ∧ dk cX3_keepLook 40 = some (.iload_n 2) ∧ dk cX3_keepLook 41 = some (.iadd) ∧ dk cX3_keepLook 42 = some (.iaload) ∧ dk cX3_keepLook 43 = some (.iload_n 3) ∧ dk cX3_keepLook 44 = some (.if_icmp .lt 5) ∧ jok 44 5 = true ∧ jmp 44 5 = 49 ∧ dk cX3_keepLook 47 = some (.iconst 1) ∧ dk cX3_keepLook 48 = some (.ireturn)) ∧ (dk cX3_keepLook 49 = some (.aload_n 0) ∧ dk cX3_keepLook 50 = some (.getfield 18) ∧ fres 3 18 = some (3, 2, 0, true) ∧ dk cX3_keepLook 53 = some (.iload_n 1) ∧ dk cX3_keepLook 54 = some (.dup2) ∧ dk cX3_keepLook 55 = some (.iaload) ∧ dk cX3_keepLook 56 = some (.iconst 1) ∧ dk cX3_keepLook 57 = some (.iadd) ∧ dk cX3_keepLook 58 = some (.iastore) ∧ dk cX3_keepLook 59 = some (.iconst 0)) ∧ (dk cX3_keepLook 60 = some (.ireturn)) := ⟨by decide +kernel, by decide +kernel, by decide +kernel, by decide +kernel, by decide +kernel, by decide +kernel⟩
set_option maxRecDepth 100000 in
theorem D_X4_init : (dk cX4_init 0 = some (.aload_n 0) ∧ dk cX4_init 1 = some (.invokespecial 3) ∧ dk cX4_init 4 = some (.aload_n 0) ∧ dk cX4_init 5 = some (.bipush 10) ∧ dk cX4_init 7 = some (.newarray .int) ∧ dk cX4_init 9 = some (.putfield 9) ∧ fres 4 9 = some (4, 0, 0, true) ∧ dk cX4_init 12 = some (.aload_n 0) ∧ dk cX4_init 13 = some (.bipush 10) ∧ dk cX4_init 15 = some (.newarray .int)) ∧ (dk cX4_init 17 = some (.putfield 15) ∧ fres 4 15 = some (4, 1, 0, true) ∧ dk cX4_init 20 = some (.aload_n 0) ∧ dk cX4_init 21 = some (.bipush 8) ∧ dk cX4_init 23 = some (.newarray .int) ∧ dk cX4_init 25 = some (.putfield 18) ∧ fres 4 18 = some (4, 2, 0, true) ∧ dk cX4_init 28 = some (.aload_n 0) ∧ dk cX4_init 29 = some (.bipush 8) ∧ dk cX4_init 31 = some (.newarray .int)) ∧ (dk cX4_init 33 = some (.putfield 21) ∧ fres 4 21 = some (4, 3, 0, true) ∧ dk cX4_init 36 = some (.aload_n 0) ∧ dk cX4_init 37 = some (.bipush 10) ∧ dk cX4_init 39 = some (.newarray .int) ∧ dk cX4_init 41 = some (.putfield 24) ∧ fres 4 24 = some (4, 4, 0, true) ∧ dk cX4_init 44 = some (.aload_n 0) ∧ dk cX4_init 45 = some (.bipush 10) ∧ dk cX4_init 47 = some (.newarray .int)) ∧ (dk cX4_init 49 = some (.putfield 27) ∧ fres 4 27 = some (4, 5, 0, true) ∧ dk cX4_init 52 = some (.aload_n 0) ∧ dk cX4_init 53 = some (.bipush 10) ∧ dk cX4_init 55 = some (.newarray .int) ∧ dk cX4_init 57 = some (.putfield 30) ∧ fres 4 30 = some (4, 6, 0, true) ∧ dk cX4_init 60 = some (.return_)) := ⟨by decide +kernel, by decide +kernel, by decide +kernel, by decide +kernel⟩
set_option maxRecDepth 100000 in
theorem D_X4_hasRoad : (dk cX4_hasRoad 0 = some (.aload_n 0) ∧ dk cX4_hasRoad 1 = some (.getfield 9) ∧ fres 4 9 = some (4, 0, 0, true) ∧ dk cX4_hasRoad 4 = some (.iload_n 1) ∧ dk cX4_hasRoad 5 = some (.iaload) ∧ dk cX4_hasRoad 6 = some (.iload_n 2) ∧ dk cX4_hasRoad 7 = some (.ishr) ∧ dk cX4_hasRoad 8 = some (.iconst 1) ∧ dk cX4_hasRoad 9 = some (.iand) ∧ dk cX4_hasRoad 10 = some (.ifCond .eq 7)) ∧ (jok 10 7 = true ∧ jmp 10 7 = 17 ∧ dk cX4_hasRoad 13 = some (.iconst 1) ∧ dk cX4_hasRoad 14 = some (.goto 4) ∧ jok 14 4 = true ∧ jmp 14 4 = 18 ∧ dk cX4_hasRoad 17 = some (.iconst 0) ∧ dk cX4_hasRoad 18 = some (.ireturn)) := ⟨by decide +kernel, by decide +kernel⟩
set_option maxRecDepth 100000 in
theorem D_X4_hasPost : (dk cX4_hasPost 0 = some (.aload_n 0) ∧ dk cX4_hasPost 1 = some (.getfield 15) ∧ fres 4 15 = some (4, 1, 0, true) ∧ dk cX4_hasPost 4 = some (.iload_n 1) ∧ dk cX4_hasPost 5 = some (.iaload) ∧ dk cX4_hasPost 6 = some (.iload_n 2) ∧ dk cX4_hasPost 7 = some (.ishr) ∧ dk cX4_hasPost 8 = some (.iconst 1) ∧ dk cX4_hasPost 9 = some (.iand) ∧ dk cX4_hasPost 10 = some (.ifCond .eq 7)) ∧ (jok 10 7 = true ∧ jmp 10 7 = 17 ∧ dk cX4_hasPost 13 = some (.iconst 1) ∧ dk cX4_hasPost 14 = some (.goto 4) ∧ jok 14 4 = true ∧ jmp 14 4 = 18 ∧ dk cX4_hasPost 17 = some (.iconst 0) ∧ dk cX4_hasPost 18 = some (.ireturn)) := ⟨by decide +kernel, by decide +kernel⟩
set_option maxRecDepth 100000 in
theorem D_X4_layRoad : (dk cX4_layRoad 0 = some (.aload_n 0) ∧ dk cX4_layRoad 1 = some (.getfield 9) ∧ fres 4 9 = some (4, 0, 0, true) ∧ dk cX4_layRoad 4 = some (.iload_n 1) ∧ dk cX4_layRoad 5 = some (.dup2) ∧ dk cX4_layRoad 6 = some (.iaload) ∧ dk cX4_layRoad 7 = some (.iconst 1) ∧ dk cX4_layRoad 8 = some (.iload_n 2) ∧ dk cX4_layRoad 9 = some (.ishl) ∧ dk cX4_layRoad 10 = some (.ior)) ∧ (dk cX4_layRoad 11 = some (.iastore) ∧ dk cX4_layRoad 12 = some (.aload_n 0) ∧ dk cX4_layRoad 13 = some (.getfield 9) ∧ dk cX4_layRoad 16 = some (.iload_n 2) ∧ dk cX4_layRoad 17 = some (.dup2) ∧ dk cX4_layRoad 18 = some (.iaload) ∧ dk cX4_layRoad 19 = some (.iconst 1) ∧ dk cX4_layRoad 20 = some (.iload_n 1) ∧ dk cX4_layRoad 21 = some (.ishl) ∧ dk cX4_layRoad 22 = some (.ior)) ∧ (dk cX4_layRoad 23 = some (.iastore) ∧ dk cX4_layRoad 24 = some (.aload_n 0) ∧ dk cX4_layRoad 25 = some (.dup) ∧ dk cX4_layRoad 26 = some (.getfield 33) ∧ fres 4 33 = some (4, 8, 1, false) ∧ dk cX4_layRoad 29 = some (.iconst 1) ∧ dk cX4_layRoad 30 = some (.iadd) ∧ dk cX4_layRoad 31 = some (.putfield 33) ∧ isBo (tyN 4 8) = false ∧ dk cX4_layRoad 34 = some (.return_)) := ⟨by decide +kernel, by decide +kernel, by decide +kernel⟩
set_option maxRecDepth 100000 in
theorem D_X4_takeRoad : (dk cX4_takeRoad 0 = some (.aload_n 0) ∧ dk cX4_takeRoad 1 = some (.getfield 9) ∧ fres 4 9 = some (4, 0, 0, true) ∧ dk cX4_takeRoad 4 = some (.iload_n 1) ∧ dk cX4_takeRoad 5 = some (.dup2) ∧ dk cX4_takeRoad 6 = some (.iaload) ∧ dk cX4_takeRoad 7 = some (.iconst 1) ∧ dk cX4_takeRoad 8 = some (.iload_n 2) ∧ dk cX4_takeRoad 9 = some (.ishl) ∧ dk cX4_takeRoad 10 = some (.iconst (-1))) ∧ (dk cX4_takeRoad 11 = some (.ixor) ∧ dk cX4_takeRoad 12 = some (.iand) ∧ dk cX4_takeRoad 13 = some (.iastore) ∧ dk cX4_takeRoad 14 = some (.aload_n 0) ∧ dk cX4_takeRoad 15 = some (.getfield 9) ∧ dk cX4_takeRoad 18 = some (.iload_n 2) ∧ dk cX4_takeRoad 19 = some (.dup2) ∧ dk cX4_takeRoad 20 = some (.iaload) ∧ dk cX4_takeRoad 21 = some (.iconst 1) ∧ dk cX4_takeRoad 22 = some (.iload_n 1)) ∧ (dk cX4_takeRoad 23 = some (.ishl) ∧ dk cX4_takeRoad 24 = some (.iconst (-1)) ∧ dk cX4_takeRoad 25 = some (.ixor) ∧ dk cX4_takeRoad 26 = some (.iand) ∧ dk cX4_takeRoad 27 = some (.iastore) ∧ dk cX4_takeRoad 28 = some (.aload_n 0) ∧ dk cX4_takeRoad 29 = some (.getfield 15) ∧ fres 4 15 = some (4, 1, 0, true) ∧ dk cX4_takeRoad 32 = some (.iload_n 1) ∧ dk cX4_takeRoad 33 = some (.dup2)) ∧ (dk cX4_takeRoad 34 = some (.iaload) ∧ dk cX4_takeRoad 35 = some (.iconst 1) ∧ dk cX4_takeRoad 36 = some (.iload_n 2) ∧ dk cX4_takeRoad 37 = some (.ishl) ∧ dk cX4_takeRoad 38 = some (.iconst (-1)) ∧ dk cX4_takeRoad 39 = some (.ixor) ∧ dk cX4_takeRoad 40 = some (.iand) ∧ dk cX4_takeRoad 41 = some (.iastore) ∧ dk cX4_takeRoad 42 = some (.aload_n 0) ∧ dk cX4_takeRoad 43 = some (.getfield 15)) ∧ (dk cX4_takeRoad 46 = some (.iload_n 2) ∧ dk cX4_takeRoad 47 = some (.dup2) ∧ dk cX4_takeRoad 48 = some (.iaload) ∧ dk cX4_takeRoad 49 = some (.iconst 1) ∧ dk cX4_takeRoad 50 = some (.iload_n 1) ∧ dk cX4_takeRoad 51 = some (.ishl) ∧ dk cX4_takeRoad 52 = some (.iconst (-1)) ∧ dk cX4_takeRoad 53 = some (.ixor) ∧ dk cX4_takeRoad 54 = some (.iand) ∧ dk cX4_takeRoad 55 = some (.iastore)) ∧ (dk cX4_takeRoad 56 = some (.aload_n 0) ∧ dk cX4_takeRoad 57 = some (.dup) ∧ dk cX4_takeRoad 58 = some (.getfield 33) ∧ fres 4 33 = some (4, 8, 1, false) ∧ dk cX4_takeRoad 61 = some (.iconst 1) ∧ dk cX4_takeRoad 62 = some (.isub) ∧ dk cX4_takeRoad 63 = some (.putfield 33) ∧ isBo (tyN 4 8) = false ∧ dk cX4_takeRoad 66 = some (.aload_n 0) ∧ dk cX4_takeRoad 67 = some (.iload_n 1)) ∧ (dk cX4_takeRoad 68 = some (.iload_n 2) ∧ dk cX4_takeRoad 69 = some (.invokevirtual 37) ∧ cres 4 37 = some 26 ∧ pM 26 = 2 ∧ sM 26 = false ∧ oM 26 = 4 ∧ dk cX4_takeRoad 72 = some (.istore_n 3) ∧ dk cX4_takeRoad 73 = some (.iload_n 3) ∧ dk cX4_takeRoad 74 = some (.bipush (-9)) ∧ dk cX4_takeRoad 76 = some (.if_icmp .eq 17)) ∧ (jok 76 17 = true ∧ jmp 76 17 = 93 ∧ dk cX4_takeRoad 79 = some (.aload_n 0) ∧ dk cX4_takeRoad 80 = some (.dup) ∧ dk cX4_takeRoad 81 = some (.getfield 41) ∧ fres 4 41 = some (4, 10, 1, false) ∧ dk cX4_takeRoad 84 = some (.iconst 1) ∧ dk cX4_takeRoad 85 = some (.iload_n 3) ∧ dk cX4_takeRoad 86 = some (.ishl) ∧ dk cX4_takeRoad 87 = some (.iconst (-1))) ∧ (dk cX4_takeRoad 88 = some (.ixor) ∧ dk cX4_takeRoad 89 = some (.iand) ∧ dk cX4_takeRoad 90 = some (.putfield 41) ∧ isBo (tyN 4 10) = false ∧ dk cX4_takeRoad 93 = some (.return_)) := ⟨by decide +kernel, by decide +kernel, by decide +kernel, by decide +kernel, by decide +kernel, by decide +kernel, by decide +kernel, by decide +kernel, by decide +kernel⟩
set_option maxRecDepth 100000 in
theorem N_X4_takeRoad : ((yM 26).name = "<init>") = False := by simp only [eq_iff_iff, iff_false, iff_true]; decide +kernel
set_option maxRecDepth 100000 in
theorem D_X4_turnPost : (dk cX4_turnPost 0 = some (.aload_n 0) ∧ dk cX4_turnPost 1 = some (.getfield 15) ∧ fres 4 15 = some (4, 1, 0, true) ∧ dk cX4_turnPost 4 = some (.iload_n 1) ∧ dk cX4_turnPost 5 = some (.dup2) ∧ dk cX4_turnPost 6 = some (.iaload) ∧ dk cX4_turnPost 7 = some (.iconst 1) ∧ dk cX4_turnPost 8 = some (.iload_n 2) ∧ dk cX4_turnPost 9 = some (.ishl) ∧ dk cX4_turnPost 10 = some (.ixor)) ∧ (dk cX4_turnPost 11 = some (.iastore) ∧ dk cX4_turnPost 12 = some (.aload_n 0) ∧ dk cX4_turnPost 13 = some (.getfield 15) ∧ dk cX4_turnPost 16 = some (.iload_n 2) ∧ dk cX4_turnPost 17 = some (.dup2) ∧ dk cX4_turnPost 18 = some (.iaload) ∧ dk cX4_turnPost 19 = some (.iconst 1) ∧ dk cX4_turnPost 20 = some (.iload_n 1) ∧ dk cX4_turnPost 21 = some (.ishl) ∧ dk cX4_turnPost 22 = some (.ixor)) ∧ (dk cX4_turnPost 23 = some (.iastore) ∧ dk cX4_turnPost 24 = some (.return_)) := ⟨by decide +kernel, by decide +kernel, by decide +kernel⟩
set_option maxRecDepth 100000 in
theorem D_X4_doorBetween : (dk cX4_doorBetween 0 = some (.iconst 0) ∧ dk cX4_doorBetween 1 = some (.istore_n 3) ∧ dk cX4_doorBetween 2 = some (.iload_n 3) ∧ dk cX4_doorBetween 3 = some (.aload_n 0) ∧ dk cX4_doorBetween 4 = some (.getfield 44) ∧ fres 4 44 = some (4, 9, 1, false) ∧ dk cX4_doorBetween 7 = some (.if_icmp .ge 51) ∧ jok 7 51 = true ∧ jmp 7 51 = 58 ∧ dk cX4_doorBetween 10 = some (.aload_n 0)) ∧ (dk cX4_doorBetween 11 = some (.getfield 18) ∧ fres 4 18 = some (4, 2, 0, true) ∧ dk cX4_doorBetween 14 = some (.iload_n 3) ∧ dk cX4_doorBetween 15 = some (.iaload) ∧ dk cX4_doorBetween 16 = some (.iload_n 1) ∧ dk cX4_doorBetween 17 = some (.if_icmp .ne 13) ∧ jok 17 13 = true ∧ jmp 17 13 = 30 ∧ dk cX4_doorBetween 20 = some (.aload_n 0) ∧ dk cX4_doorBetween 21 = some (.getfield 21)) ∧ (fres 4 21 = some (4, 3, 0, true) ∧ dk cX4_doorBetween 24 = some (.iload_n 3) ∧ dk cX4_doorBetween 25 = some (.iaload) ∧ dk cX4_doorBetween 26 = some (.iload_n 2) ∧ dk cX4_doorBetween 27 = some (.if_icmp .eq 23) ∧ jok 27 23 = true ∧ jmp 27 23 = 50 ∧ dk cX4_doorBetween 30 = some (.aload_n 0) ∧ dk cX4_doorBetween 31 = some (.getfield 18) ∧ dk cX4_doorBetween 34 = some (.iload_n 3)) ∧ (dk cX4_doorBetween 35 = some (.iaload) ∧ dk cX4_doorBetween 36 = some (.iload_n 2) ∧ dk cX4_doorBetween 37 = some (.if_icmp .ne 15) ∧ jok 37 15 = true ∧ jmp 37 15 = 52 ∧ dk cX4_doorBetween 40 = some (.aload_n 0) ∧ dk cX4_doorBetween 41 = some (.getfield 21) ∧ dk cX4_doorBetween 44 = some (.iload_n 3) ∧ dk cX4_doorBetween 45 = some (.iaload) ∧ dk cX4_doorBetween 46 = some (.iload_n 1)) ∧ (dk cX4_doorBetween 47 = some (.if_icmp .ne 5) ∧ jok 47 5 = true ∧ jmp 47 5 = 52 ∧ dk cX4_doorBetween 50 = some (.iload_n 3) ∧ dk cX4_doorBetween 51 = some (.ireturn) ∧ dk cX4_doorBetween 52 = some (.iinc 3 1) ∧ dk cX4_doorBetween 55 = some (.goto (-53)) ∧ jok 55 (-53) = true ∧ jmp 55 (-53) = 2 ∧ dk cX4_doorBetween 58 = some (.bipush (-9))) ∧ (dk cX4_doorBetween 60 = some (.ireturn)) := ⟨by decide +kernel, by decide +kernel, by decide +kernel, by decide +kernel, by decide +kernel, by decide +kernel⟩
set_option maxRecDepth 100000 in
theorem D_X4_doorOn : (dk cX4_doorOn 0 = some (.aload_n 0) ∧ dk cX4_doorOn 1 = some (.iload_n 1) ∧ dk cX4_doorOn 2 = some (.iload_n 2) ∧ dk cX4_doorOn 3 = some (.invokevirtual 37) ∧ cres 4 37 = some 26 ∧ pM 26 = 2 ∧ sM 26 = false ∧ oM 26 = 4 ∧ dk cX4_doorOn 6 = some (.istore_n 3) ∧ dk cX4_doorOn 7 = some (.iload_n 3)) ∧ (dk cX4_doorOn 8 = some (.bipush (-9)) ∧ dk cX4_doorOn 10 = some (.if_icmp .eq 5) ∧ jok 10 5 = true ∧ jmp 10 5 = 15 ∧ dk cX4_doorOn 13 = some (.iload_n 3) ∧ dk cX4_doorOn 14 = some (.ireturn) ∧ dk cX4_doorOn 15 = some (.aload_n 0) ∧ dk cX4_doorOn 16 = some (.getfield 44) ∧ fres 4 44 = some (4, 9, 1, false) ∧ dk cX4_doorOn 19 = some (.bipush 8)) ∧ (dk cX4_doorOn 21 = some (.if_icmp .lt 6) ∧ jok 21 6 = true ∧ jmp 21 6 = 27 ∧ dk cX4_doorOn 24 = some (.bipush (-4)) ∧ dk cX4_doorOn 26 = some (.ireturn) ∧ dk cX4_doorOn 27 = some (.aload_n 0) ∧ dk cX4_doorOn 28 = some (.getfield 18) ∧ fres 4 18 = some (4, 2, 0, true) ∧ dk cX4_doorOn 31 = some (.aload_n 0) ∧ dk cX4_doorOn 32 = some (.getfield 44)) ∧ (dk cX4_doorOn 35 = some (.iload_n 1) ∧ dk cX4_doorOn 36 = some (.iastore) ∧ dk cX4_doorOn 37 = some (.aload_n 0) ∧ dk cX4_doorOn 38 = some (.getfield 21) ∧ fres 4 21 = some (4, 3, 0, true) ∧ dk cX4_doorOn 41 = some (.aload_n 0) ∧ dk cX4_doorOn 42 = some (.getfield 44) ∧ dk cX4_doorOn 45 = some (.iload_n 2) ∧ dk cX4_doorOn 46 = some (.iastore) ∧ dk cX4_doorOn 47 = some (.aload_n 0)) ∧ (dk cX4_doorOn 48 = some (.dup) ∧ dk cX4_doorOn 49 = some (.getfield 44) ∧ dk cX4_doorOn 52 = some (.iconst 1) ∧ dk cX4_doorOn 53 = some (.iadd) ∧ dk cX4_doorOn 54 = some (.putfield 44) ∧ isBo (tyN 4 9) = false ∧ dk cX4_doorOn 57 = some (.aload_n 0) ∧ dk cX4_doorOn 58 = some (.getfield 44) ∧ dk cX4_doorOn 61 = some (.iconst 1) ∧ dk cX4_doorOn 62 = some (.isub)) ∧ (dk cX4_doorOn 63 = some (.ireturn)) := ⟨by decide +kernel, by decide +kernel, by decide +kernel, by decide +kernel, by decide +kernel, by decide +kernel⟩
set_option maxRecDepth 100000 in
theorem N_X4_doorOn : ((yM 26).name = "<init>") = False := by simp only [eq_iff_iff, iff_false, iff_true]; decide +kernel
set_option maxRecDepth 100000 in
theorem D_X4_doorStands : (dk cX4_doorStands 0 = some (.aload_n 0) ∧ dk cX4_doorStands 1 = some (.aload_n 0) ∧ dk cX4_doorStands 2 = some (.getfield 18) ∧ fres 4 18 = some (4, 2, 0, true) ∧ dk cX4_doorStands 5 = some (.iload_n 1) ∧ dk cX4_doorStands 6 = some (.iaload) ∧ dk cX4_doorStands 7 = some (.aload_n 0) ∧ dk cX4_doorStands 8 = some (.getfield 21) ∧ fres 4 21 = some (4, 3, 0, true) ∧ dk cX4_doorStands 11 = some (.iload_n 1)) ∧ (dk cX4_doorStands 12 = some (.iaload) ∧ dk cX4_doorStands 13 = some (.invokevirtual 47) ∧ cres 4 47 = some 21 ∧ pM 21 = 2 ∧ sM 21 = false ∧ oM 21 = 4 ∧ dk cX4_doorStands 16 = some (.ireturn)) := ⟨by decide +kernel, by decide +kernel⟩
set_option maxRecDepth 100000 in
theorem N_X4_doorStands : ((yM 21).name = "<init>") = False := by simp only [eq_iff_iff, iff_false, iff_true]; decide +kernel
set_option maxRecDepth 100000 in
theorem D_X4_isShut : (dk cX4_isShut 0 = some (.aload_n 0) ∧ dk cX4_isShut 1 = some (.getfield 41) ∧ fres 4 41 = some (4, 10, 1, false) ∧ dk cX4_isShut 4 = some (.iload_n 1) ∧ dk cX4_isShut 5 = some (.ishr) ∧ dk cX4_isShut 6 = some (.iconst 1) ∧ dk cX4_isShut 7 = some (.iand) ∧ dk cX4_isShut 8 = some (.ifCond .eq 7) ∧ jok 8 7 = true ∧ jmp 8 7 = 15) ∧ (dk cX4_isShut 11 = some (.iconst 1) ∧ dk cX4_isShut 12 = some (.goto 4) ∧ jok 12 4 = true ∧ jmp 12 4 = 16 ∧ dk cX4_isShut 15 = some (.iconst 0) ∧ dk cX4_isShut 16 = some (.ireturn)) := ⟨by decide +kernel, by decide +kernel⟩
set_option maxRecDepth 100000 in
theorem D_X4_turnDoor : (dk cX4_turnDoor 0 = some (.aload_n 0) ∧ dk cX4_turnDoor 1 = some (.dup) ∧ dk cX4_turnDoor 2 = some (.getfield 41) ∧ fres 4 41 = some (4, 10, 1, false) ∧ dk cX4_turnDoor 5 = some (.iconst 1) ∧ dk cX4_turnDoor 6 = some (.iload_n 1) ∧ dk cX4_turnDoor 7 = some (.ishl) ∧ dk cX4_turnDoor 8 = some (.ixor) ∧ dk cX4_turnDoor 9 = some (.putfield 41) ∧ isBo (tyN 4 10) = false) ∧ (dk cX4_turnDoor 12 = some (.return_)) := ⟨by decide +kernel, by decide +kernel⟩
set_option maxRecDepth 100000 in
theorem D_X4_openRoads : (dk cX4_openRoads 0 = some (.iconst 0) ∧ dk cX4_openRoads 1 = some (.istore_n 2) ∧ dk cX4_openRoads 2 = some (.iload_n 2) ∧ dk cX4_openRoads 3 = some (.bipush 10) ∧ dk cX4_openRoads 5 = some (.if_icmp .ge 21) ∧ jok 5 21 = true ∧ jmp 5 21 = 26 ∧ dk cX4_openRoads 8 = some (.aload_n 0) ∧ dk cX4_openRoads 9 = some (.getfield 24) ∧ fres 4 24 = some (4, 4, 0, true)) ∧ (dk cX4_openRoads 12 = some (.iload_n 2) ∧ dk cX4_openRoads 13 = some (.aload_n 0) ∧ dk cX4_openRoads 14 = some (.getfield 9) ∧ fres 4 9 = some (4, 0, 0, true) ∧ dk cX4_openRoads 17 = some (.iload_n 2) ∧ dk cX4_openRoads 18 = some (.iaload) ∧ dk cX4_openRoads 19 = some (.iastore) ∧ dk cX4_openRoads 20 = some (.iinc 2 1) ∧ dk cX4_openRoads 23 = some (.goto (-21)) ∧ jok 23 (-21) = true) ∧ (jmp 23 (-21) = 2 ∧ dk cX4_openRoads 26 = some (.aload_n 0) ∧ dk cX4_openRoads 27 = some (.getfield 41) ∧ fres 4 41 = some (4, 10, 1, false) ∧ dk cX4_openRoads 30 = some (.iload_n 1) ∧ dk cX4_openRoads 31 = some (.ior) ∧ dk cX4_openRoads 32 = some (.istore_n 2) ∧ dk cX4_openRoads 33 = some (.iconst 0) ∧ dk cX4_openRoads 34 = some (.istore_n 3) ∧ dk cX4_openRoads 35 = some (.iload_n 3)) ∧ (dk cX4_openRoads 36 = some (.aload_n 0) ∧ dk cX4_openRoads 37 = some (.getfield 44) ∧ fres 4 44 = some (4, 9, 1, false) ∧ dk cX4_openRoads 40 = some (.if_icmp .ge 65) ∧ jok 40 65 = true ∧ jmp 40 65 = 105 ∧ dk cX4_openRoads 43 = some (.iload_n 2) ∧ dk cX4_openRoads 44 = some (.iload_n 3) ∧ dk cX4_openRoads 45 = some (.ishr) ∧ dk cX4_openRoads 46 = some (.iconst 1)) ∧ (dk cX4_openRoads 47 = some (.iand) ∧ dk cX4_openRoads 48 = some (.ifCond .eq 51) ∧ jok 48 51 = true ∧ jmp 48 51 = 99 ∧ dk cX4_openRoads 51 = some (.aload_n 0) ∧ dk cX4_openRoads 52 = some (.getfield 24) ∧ dk cX4_openRoads 55 = some (.aload_n 0) ∧ dk cX4_openRoads 56 = some (.getfield 18) ∧ fres 4 18 = some (4, 2, 0, true) ∧ dk cX4_openRoads 59 = some (.iload_n 3)) ∧ (dk cX4_openRoads 60 = some (.iaload) ∧ dk cX4_openRoads 61 = some (.dup2) ∧ dk cX4_openRoads 62 = some (.iaload) ∧ dk cX4_openRoads 63 = some (.iconst 1) ∧ dk cX4_openRoads 64 = some (.aload_n 0) ∧ dk cX4_openRoads 65 = some (.getfield 21) ∧ fres 4 21 = some (4, 3, 0, true) ∧ dk cX4_openRoads 68 = some (.iload_n 3) ∧ dk cX4_openRoads 69 = some (.iaload) ∧ dk cX4_openRoads 70 = some (.ishl)) ∧ (dk cX4_openRoads 71 = some (.iconst (-1)) ∧ dk cX4_openRoads 72 = some (.ixor) ∧ dk cX4_openRoads 73 = some (.iand) ∧ dk cX4_openRoads 74 = some (.iastore) ∧ dk cX4_openRoads 75 = some (.aload_n 0) ∧ dk cX4_openRoads 76 = some (.getfield 24) ∧ dk cX4_openRoads 79 = some (.aload_n 0) ∧ dk cX4_openRoads 80 = some (.getfield 21) ∧ dk cX4_openRoads 83 = some (.iload_n 3) ∧ dk cX4_openRoads 84 = some (.iaload)) ∧ (dk cX4_openRoads 85 = some (.dup2) ∧ dk cX4_openRoads 86 = some (.iaload) ∧ dk cX4_openRoads 87 = some (.iconst 1) ∧ dk cX4_openRoads 88 = some (.aload_n 0) ∧ dk cX4_openRoads 89 = some (.getfield 18) ∧ dk cX4_openRoads 92 = some (.iload_n 3) ∧ dk cX4_openRoads 93 = some (.iaload) ∧ dk cX4_openRoads 94 = some (.ishl) ∧ dk cX4_openRoads 95 = some (.iconst (-1)) ∧ dk cX4_openRoads 96 = some (.ixor)) ∧ (dk cX4_openRoads 97 = some (.iand) ∧ dk cX4_openRoads 98 = some (.iastore) ∧ dk cX4_openRoads 99 = some (.iinc 3 1) ∧ dk cX4_openRoads 102 = some (.goto (-67)) ∧ jok 102 (-67) = true ∧ jmp 102 (-67) = 35 ∧ dk cX4_openRoads 105 = some (.return_)) := ⟨by decide +kernel, by decide +kernel, by decide +kernel, by decide +kernel, by decide +kernel, by decide +kernel, by decide +kernel, by decide +kernel, by decide +kernel⟩
set_option maxRecDepth 100000 in
theorem D_X4_leavePosts : (dk cX4_leavePosts 0 = some (.iconst 0) ∧ dk cX4_leavePosts 1 = some (.istore_n 1) ∧ dk cX4_leavePosts 2 = some (.iload_n 1) ∧ dk cX4_leavePosts 3 = some (.bipush 10) ∧ dk cX4_leavePosts 5 = some (.if_icmp .ge 26) ∧ jok 5 26 = true ∧ jmp 5 26 = 31 ∧ dk cX4_leavePosts 8 = some (.aload_n 0) ∧ dk cX4_leavePosts 9 = some (.getfield 24) ∧ fres 4 24 = some (4, 4, 0, true)) ∧ (dk cX4_leavePosts 12 = some (.iload_n 1) ∧ dk cX4_leavePosts 13 = some (.dup2) ∧ dk cX4_leavePosts 14 = some (.iaload) ∧ dk cX4_leavePosts 15 = some (.aload_n 0) ∧ dk cX4_leavePosts 16 = some (.getfield 15) ∧ fres 4 15 = some (4, 1, 0, true) ∧ dk cX4_leavePosts 19 = some (.iload_n 1) ∧ dk cX4_leavePosts 20 = some (.iaload) ∧ dk cX4_leavePosts 21 = some (.iconst (-1)) ∧ dk cX4_leavePosts 22 = some (.ixor)) ∧ (dk cX4_leavePosts 23 = some (.iand) ∧ dk cX4_leavePosts 24 = some (.iastore) ∧ dk cX4_leavePosts 25 = some (.iinc 1 1) ∧ dk cX4_leavePosts 28 = some (.goto (-26)) ∧ jok 28 (-26) = true ∧ jmp 28 (-26) = 2 ∧ dk cX4_leavePosts 31 = some (.return_)) := ⟨by decide +kernel, by decide +kernel, by decide +kernel⟩
set_option maxRecDepth 100000 in
theorem D_X4_reach : (dk cX4_reach 0 = some (.iload_n 1) ∧ dk cX4_reach 1 = some (.istore_n 2) ∧ dk cX4_reach 2 = some (.iload_n 1) ∧ dk cX4_reach 3 = some (.istore_n 3) ∧ dk cX4_reach 4 = some (.iconst 0) ∧ dk cX4_reach 5 = some (.istore 4) ∧ dk cX4_reach 7 = some (.iload 4) ∧ dk cX4_reach 9 = some (.bipush 10) ∧ dk cX4_reach 11 = some (.if_icmp .ge 65) ∧ jok 11 65 = true) ∧ (jmp 11 65 = 76 ∧ dk cX4_reach 14 = some (.iload_n 3) ∧ dk cX4_reach 15 = some (.ifCond .eq 61) ∧ jok 15 61 = true ∧ jmp 15 61 = 76 ∧ dk cX4_reach 18 = some (.iconst 0) ∧ dk cX4_reach 19 = some (.istore 5) ∧ dk cX4_reach 21 = some (.iconst 0) ∧ dk cX4_reach 22 = some (.istore 6) ∧ dk cX4_reach 24 = some (.iload 6)) ∧ (dk cX4_reach 26 = some (.bipush 10) ∧ dk cX4_reach 28 = some (.if_icmp .ge 30) ∧ jok 28 30 = true ∧ jmp 28 30 = 58 ∧ dk cX4_reach 31 = some (.iload_n 3) ∧ dk cX4_reach 32 = some (.iload 6) ∧ dk cX4_reach 34 = some (.ishr) ∧ dk cX4_reach 35 = some (.iconst 1) ∧ dk cX4_reach 36 = some (.iand) ∧ dk cX4_reach 37 = some (.ifCond .eq 15)) ∧ (jok 37 15 = true ∧ jmp 37 15 = 52 ∧ dk cX4_reach 40 = some (.iload 5) ∧ dk cX4_reach 42 = some (.aload_n 0) ∧ dk cX4_reach 43 = some (.getfield 24) ∧ fres 4 24 = some (4, 4, 0, true) ∧ dk cX4_reach 46 = some (.iload 6) ∧ dk cX4_reach 48 = some (.iaload) ∧ dk cX4_reach 49 = some (.ior) ∧ dk cX4_reach 50 = some (.istore 5)) ∧ (dk cX4_reach 52 = some (.iinc 6 1) ∧ dk cX4_reach 55 = some (.goto (-31)) ∧ jok 55 (-31) = true ∧ jmp 55 (-31) = 24 ∧ dk cX4_reach 58 = some (.iload 5) ∧ dk cX4_reach 60 = some (.iload_n 2) ∧ dk cX4_reach 61 = some (.iconst (-1)) ∧ dk cX4_reach 62 = some (.ixor) ∧ dk cX4_reach 63 = some (.iand) ∧ dk cX4_reach 64 = some (.istore_n 3)) ∧ (dk cX4_reach 65 = some (.iload_n 2) ∧ dk cX4_reach 66 = some (.iload 5) ∧ dk cX4_reach 68 = some (.ior) ∧ dk cX4_reach 69 = some (.istore_n 2) ∧ dk cX4_reach 70 = some (.iinc 4 1) ∧ dk cX4_reach 73 = some (.goto (-66)) ∧ jok 73 (-66) = true ∧ jmp 73 (-66) = 7 ∧ dk cX4_reach 76 = some (.iload_n 2) ∧ dk cX4_reach 77 = some (.ireturn)) := ⟨by decide +kernel, by decide +kernel, by decide +kernel, by decide +kernel, by decide +kernel, by decide +kernel⟩
set_option maxRecDepth 100000 in
theorem D_X4_parts : (dk cX4_parts 0 = some (.aload_n 0) ∧ dk cX4_parts 1 = some (.iload_n 1) ∧ dk cX4_parts 2 = some (.invokevirtual 51) ∧ cres 4 51 = some 33 ∧ pM 33 = 1 ∧ sM 33 = false ∧ oM 33 = 4 ∧ dk cX4_parts 5 = some (.iload_n 2) ∧ dk cX4_parts 6 = some (.iand) ∧ dk cX4_parts 7 = some (.ifCond .ne 7)) ∧ (jok 7 7 = true ∧ jmp 7 7 = 14 ∧ dk cX4_parts 10 = some (.iconst 1) ∧ dk cX4_parts 11 = some (.goto 4) ∧ jok 11 4 = true ∧ jmp 11 4 = 15 ∧ dk cX4_parts 14 = some (.iconst 0) ∧ dk cX4_parts 15 = some (.ireturn)) := ⟨by decide +kernel, by decide +kernel⟩
set_option maxRecDepth 100000 in
theorem N_X4_parts : ((yM 33).name = "<init>") = False := by simp only [eq_iff_iff, iff_false, iff_true]; decide +kernel
set_option maxRecDepth 100000 in
theorem D_X4_findWay : (dk cX4_findWay 0 = some (.aload_n 0) ∧ dk cX4_findWay 1 = some (.iconst 0) ∧ dk cX4_findWay 2 = some (.invokevirtual 55) ∧ cres 4 55 = some 31 ∧ pM 31 = 1 ∧ sM 31 = false ∧ oM 31 = 4 ∧ dk cX4_findWay 5 = some (.aload_n 0) ∧ dk cX4_findWay 6 = some (.iload_n 2) ∧ dk cX4_findWay 7 = some (.invokevirtual 59)) ∧ (cres 4 59 = some 36 ∧ pM 36 = 1 ∧ sM 36 = false ∧ oM 36 = 4 ∧ dk cX4_findWay 10 = some (.aload_n 0) ∧ dk cX4_findWay 11 = some (.getfield 27) ∧ fres 4 27 = some (4, 5, 0, true) ∧ dk cX4_findWay 14 = some (.iload_n 1) ∧ dk cX4_findWay 15 = some (.iaload) ∧ dk cX4_findWay 16 = some (.bipush (-9))) ∧ (dk cX4_findWay 18 = some (.if_icmp .ne 5) ∧ jok 18 5 = true ∧ jmp 18 5 = 23 ∧ dk cX4_findWay 21 = some (.iconst 0) ∧ dk cX4_findWay 22 = some (.ireturn) ∧ dk cX4_findWay 23 = some (.aload_n 0) ∧ dk cX4_findWay 24 = some (.aload_n 0) ∧ dk cX4_findWay 25 = some (.getfield 27) ∧ dk cX4_findWay 28 = some (.iload_n 1) ∧ dk cX4_findWay 29 = some (.iaload)) ∧ (dk cX4_findWay 30 = some (.putfield 62) ∧ fres 4 62 = some (4, 7, 1, false) ∧ isBo (tyN 4 7) = false ∧ dk cX4_findWay 33 = some (.aload_n 0) ∧ dk cX4_findWay 34 = some (.getfield 30) ∧ fres 4 30 = some (4, 6, 0, true) ∧ dk cX4_findWay 37 = some (.iconst 0) ∧ dk cX4_findWay 38 = some (.iload_n 1) ∧ dk cX4_findWay 39 = some (.iastore) ∧ dk cX4_findWay 40 = some (.iconst 1)) ∧ (dk cX4_findWay 41 = some (.istore_n 3) ∧ dk cX4_findWay 42 = some (.iload_n 3) ∧ dk cX4_findWay 43 = some (.aload_n 0) ∧ dk cX4_findWay 44 = some (.getfield 62) ∧ dk cX4_findWay 47 = some (.if_icmp .gt 27) ∧ jok 47 27 = true ∧ jmp 47 27 = 74 ∧ dk cX4_findWay 50 = some (.aload_n 0) ∧ dk cX4_findWay 51 = some (.getfield 30) ∧ dk cX4_findWay 54 = some (.iload_n 3)) ∧ (dk cX4_findWay 55 = some (.aload_n 0) ∧ dk cX4_findWay 56 = some (.aload_n 0) ∧ dk cX4_findWay 57 = some (.getfield 30) ∧ dk cX4_findWay 60 = some (.iload_n 3) ∧ dk cX4_findWay 61 = some (.iconst 1) ∧ dk cX4_findWay 62 = some (.isub) ∧ dk cX4_findWay 63 = some (.iaload) ∧ dk cX4_findWay 64 = some (.invokevirtual 65) ∧ cres 4 65 = some 38 ∧ pM 38 = 1) ∧ (sM 38 = false ∧ oM 38 = 4 ∧ dk cX4_findWay 67 = some (.iastore) ∧ dk cX4_findWay 68 = some (.iinc 3 1) ∧ dk cX4_findWay 71 = some (.goto (-29)) ∧ jok 71 (-29) = true ∧ jmp 71 (-29) = 42 ∧ dk cX4_findWay 74 = some (.iconst 1) ∧ dk cX4_findWay 75 = some (.ireturn)) := ⟨by decide +kernel, by decide +kernel, by decide +kernel, by decide +kernel, by decide +kernel, by decide +kernel, by decide +kernel⟩
set_option maxRecDepth 100000 in
theorem N_X4_findWay : ((yM 31).name = "<init>") = False ∧ ((yM 36).name = "<init>") = False ∧ ((yM 38).name = "<init>") = False := by simp only [eq_iff_iff, iff_false, iff_true]; decide +kernel
set_option maxRecDepth 100000 in
theorem D_X4_measureFrom : (dk cX4_measureFrom 0 = some (.aload_n 0) ∧ dk cX4_measureFrom 1 = some (.getfield 27) ∧ fres 4 27 = some (4, 5, 0, true) ∧ dk cX4_measureFrom 4 = some (.bipush (-9)) ∧ dk cX4_measureFrom 6 = some (.invokestatic 68) ∧ cres 4 68 = some 254 ∧ pM 254 = 2 ∧ sM 254 = true ∧ dk cX4_measureFrom 9 = some (.aload_n 0) ∧ dk cX4_measureFrom 10 = some (.getfield 27)) ∧ (dk cX4_measureFrom 13 = some (.iload_n 1) ∧ dk cX4_measureFrom 14 = some (.iconst 0) ∧ dk cX4_measureFrom 15 = some (.iastore) ∧ dk cX4_measureFrom 16 = some (.iconst 0) ∧ dk cX4_measureFrom 17 = some (.istore_n 2) ∧ dk cX4_measureFrom 18 = some (.iload_n 2) ∧ dk cX4_measureFrom 19 = some (.bipush 10) ∧ dk cX4_measureFrom 21 = some (.if_icmp .ge 41) ∧ jok 21 41 = true ∧ jmp 21 41 = 62) ∧ (dk cX4_measureFrom 24 = some (.iconst 0) ∧ dk cX4_measureFrom 25 = some (.istore_n 3) ∧ dk cX4_measureFrom 26 = some (.iload_n 3) ∧ dk cX4_measureFrom 27 = some (.bipush 10) ∧ dk cX4_measureFrom 29 = some (.if_icmp .ge 27) ∧ jok 29 27 = true ∧ jmp 29 27 = 56 ∧ dk cX4_measureFrom 32 = some (.aload_n 0) ∧ dk cX4_measureFrom 33 = some (.getfield 27) ∧ dk cX4_measureFrom 36 = some (.iload_n 3)) ∧ (dk cX4_measureFrom 37 = some (.iaload) ∧ dk cX4_measureFrom 38 = some (.iload_n 2) ∧ dk cX4_measureFrom 39 = some (.if_icmp .ne 11) ∧ jok 39 11 = true ∧ jmp 39 11 = 50 ∧ dk cX4_measureFrom 42 = some (.aload_n 0) ∧ dk cX4_measureFrom 43 = some (.iload_n 3) ∧ dk cX4_measureFrom 44 = some (.iload_n 2) ∧ dk cX4_measureFrom 45 = some (.iconst 1) ∧ dk cX4_measureFrom 46 = some (.iadd)) ∧ (dk cX4_measureFrom 47 = some (.invokevirtual 74) ∧ cres 4 74 = some 37 ∧ pM 37 = 2 ∧ sM 37 = false ∧ oM 37 = 4 ∧ dk cX4_measureFrom 50 = some (.iinc 3 1) ∧ dk cX4_measureFrom 53 = some (.goto (-27)) ∧ jok 53 (-27) = true ∧ jmp 53 (-27) = 26 ∧ dk cX4_measureFrom 56 = some (.iinc 2 1)) ∧ (dk cX4_measureFrom 59 = some (.goto (-41)) ∧ jok 59 (-41) = true ∧ jmp 59 (-41) = 18 ∧ dk cX4_measureFrom 62 = some (.return_)) := ⟨by decide +kernel, by decide +kernel, by decide +kernel, by decide +kernel, by decide +kernel, by decide +kernel⟩
set_option maxRecDepth 100000 in
theorem N_X4_measureFrom : ((yM 37).name = "<init>") = False := by simp only [eq_iff_iff, iff_false, iff_true]; decide +kernel
set_option maxRecDepth 100000 in
theorem D_X4_measureAround : (dk cX4_measureAround 0 = some (.iconst 0) ∧ dk cX4_measureAround 1 = some (.istore_n 3) ∧ dk cX4_measureAround 2 = some (.iload_n 3) ∧ dk cX4_measureAround 3 = some (.bipush 10) ∧ dk cX4_measureAround 5 = some (.if_icmp .ge 40) ∧ jok 5 40 = true ∧ jmp 5 40 = 45 ∧ dk cX4_measureAround 8 = some (.aload_n 0) ∧ dk cX4_measureAround 9 = some (.getfield 24) ∧ fres 4 24 = some (4, 4, 0, true)) ∧ (dk cX4_measureAround 12 = some (.iload_n 1) ∧ dk cX4_measureAround 13 = some (.iaload) ∧ dk cX4_measureAround 14 = some (.iload_n 3) ∧ dk cX4_measureAround 15 = some (.ishr) ∧ dk cX4_measureAround 16 = some (.iconst 1) ∧ dk cX4_measureAround 17 = some (.iand) ∧ dk cX4_measureAround 18 = some (.ifCond .eq 21) ∧ jok 18 21 = true ∧ jmp 18 21 = 39 ∧ dk cX4_measureAround 21 = some (.aload_n 0)) ∧ (dk cX4_measureAround 22 = some (.getfield 27) ∧ fres 4 27 = some (4, 5, 0, true) ∧ dk cX4_measureAround 25 = some (.iload_n 3) ∧ dk cX4_measureAround 26 = some (.iaload) ∧ dk cX4_measureAround 27 = some (.bipush (-9)) ∧ dk cX4_measureAround 29 = some (.if_icmp .ne 10) ∧ jok 29 10 = true ∧ jmp 29 10 = 39 ∧ dk cX4_measureAround 32 = some (.aload_n 0) ∧ dk cX4_measureAround 33 = some (.getfield 27)) ∧ (dk cX4_measureAround 36 = some (.iload_n 3) ∧ dk cX4_measureAround 37 = some (.iload_n 2) ∧ dk cX4_measureAround 38 = some (.iastore) ∧ dk cX4_measureAround 39 = some (.iinc 3 1) ∧ dk cX4_measureAround 42 = some (.goto (-40)) ∧ jok 42 (-40) = true ∧ jmp 42 (-40) = 2 ∧ dk cX4_measureAround 45 = some (.return_)) := ⟨by decide +kernel, by decide +kernel, by decide +kernel, by decide +kernel⟩
set_option maxRecDepth 100000 in
theorem D_X4_firstNearer : (dk cX4_firstNearer 0 = some (.iconst 0) ∧ dk cX4_firstNearer 1 = some (.istore_n 2) ∧ dk cX4_firstNearer 2 = some (.iload_n 2) ∧ dk cX4_firstNearer 3 = some (.bipush 10) ∧ dk cX4_firstNearer 5 = some (.if_icmp .ge 41) ∧ jok 5 41 = true ∧ jmp 5 41 = 46 ∧ dk cX4_firstNearer 8 = some (.aload_n 0) ∧ dk cX4_firstNearer 9 = some (.getfield 24) ∧ fres 4 24 = some (4, 4, 0, true)) ∧ (dk cX4_firstNearer 12 = some (.iload_n 1) ∧ dk cX4_firstNearer 13 = some (.iaload) ∧ dk cX4_firstNearer 14 = some (.iload_n 2) ∧ dk cX4_firstNearer 15 = some (.ishr) ∧ dk cX4_firstNearer 16 = some (.iconst 1) ∧ dk cX4_firstNearer 17 = some (.iand) ∧ dk cX4_firstNearer 18 = some (.ifCond .eq 22) ∧ jok 18 22 = true ∧ jmp 18 22 = 40 ∧ dk cX4_firstNearer 21 = some (.aload_n 0)) ∧ (dk cX4_firstNearer 22 = some (.getfield 27) ∧ fres 4 27 = some (4, 5, 0, true) ∧ dk cX4_firstNearer 25 = some (.iload_n 2) ∧ dk cX4_firstNearer 26 = some (.iaload) ∧ dk cX4_firstNearer 27 = some (.aload_n 0) ∧ dk cX4_firstNearer 28 = some (.getfield 27) ∧ dk cX4_firstNearer 31 = some (.iload_n 1) ∧ dk cX4_firstNearer 32 = some (.iaload) ∧ dk cX4_firstNearer 33 = some (.iconst 1) ∧ dk cX4_firstNearer 34 = some (.isub)) ∧ (dk cX4_firstNearer 35 = some (.if_icmp .ne 5) ∧ jok 35 5 = true ∧ jmp 35 5 = 40 ∧ dk cX4_firstNearer 38 = some (.iload_n 2) ∧ dk cX4_firstNearer 39 = some (.ireturn) ∧ dk cX4_firstNearer 40 = some (.iinc 2 1) ∧ dk cX4_firstNearer 43 = some (.goto (-41)) ∧ jok 43 (-41) = true ∧ jmp 43 (-41) = 2 ∧ dk cX4_firstNearer 46 = some (.iload_n 1)) ∧ (dk cX4_firstNearer 47 = some (.ireturn)) := ⟨by decide +kernel, by decide +kernel, by decide +kernel, by decide +kernel, by decide +kernel⟩
set_option maxRecDepth 100000 in
theorem D_X4_wayHasPost : (dk cX4_wayHasPost 0 = some (.iconst 1) ∧ dk cX4_wayHasPost 1 = some (.istore_n 1) ∧ dk cX4_wayHasPost 2 = some (.iload_n 1) ∧ dk cX4_wayHasPost 3 = some (.aload_n 0) ∧ dk cX4_wayHasPost 4 = some (.getfield 62) ∧ fres 4 62 = some (4, 7, 1, false) ∧ dk cX4_wayHasPost 7 = some (.if_icmp .gt 32) ∧ jok 7 32 = true ∧ jmp 7 32 = 39 ∧ dk cX4_wayHasPost 10 = some (.aload_n 0)) ∧ (dk cX4_wayHasPost 11 = some (.aload_n 0) ∧ dk cX4_wayHasPost 12 = some (.getfield 30) ∧ fres 4 30 = some (4, 6, 0, true) ∧ dk cX4_wayHasPost 15 = some (.iload_n 1) ∧ dk cX4_wayHasPost 16 = some (.iconst 1) ∧ dk cX4_wayHasPost 17 = some (.isub) ∧ dk cX4_wayHasPost 18 = some (.iaload) ∧ dk cX4_wayHasPost 19 = some (.aload_n 0) ∧ dk cX4_wayHasPost 20 = some (.getfield 30) ∧ dk cX4_wayHasPost 23 = some (.iload_n 1)) ∧ (dk cX4_wayHasPost 24 = some (.iaload) ∧ dk cX4_wayHasPost 25 = some (.invokevirtual 78) ∧ cres 4 78 = some 22 ∧ pM 22 = 2 ∧ sM 22 = false ∧ oM 22 = 4 ∧ dk cX4_wayHasPost 28 = some (.ifCond .eq 5) ∧ jok 28 5 = true ∧ jmp 28 5 = 33 ∧ dk cX4_wayHasPost 31 = some (.iconst 1)) ∧ (dk cX4_wayHasPost 32 = some (.ireturn) ∧ dk cX4_wayHasPost 33 = some (.iinc 1 1) ∧ dk cX4_wayHasPost 36 = some (.goto (-34)) ∧ jok 36 (-34) = true ∧ jmp 36 (-34) = 2 ∧ dk cX4_wayHasPost 39 = some (.iconst 0) ∧ dk cX4_wayHasPost 40 = some (.ireturn)) := ⟨by decide +kernel, by decide +kernel, by decide +kernel, by decide +kernel⟩
set_option maxRecDepth 100000 in
theorem N_X4_wayHasPost : ((yM 22).name = "<init>") = False := by simp only [eq_iff_iff, iff_false, iff_true]; decide +kernel
set_option maxRecDepth 100000 in
theorem D_X5_init : (dk cX5_init 0 = some (.aload_n 0) ∧ dk cX5_init 1 = some (.invokespecial 3) ∧ dk cX5_init 4 = some (.aload_n 0) ∧ dk cX5_init 5 = some (.bipush 6) ∧ dk cX5_init 7 = some (.newarray .int) ∧ dk cX5_init 9 = some (.putfield 9) ∧ fres 5 9 = some (5, 0, 0, true) ∧ dk cX5_init 12 = some (.aload_n 0) ∧ dk cX5_init 13 = some (.iload_n 3) ∧ dk cX5_init 14 = some (.putfield 15)) ∧ (fres 5 15 = some (5, 1, 1, true) ∧ isBo (tyN 5 1) = false ∧ dk cX5_init 17 = some (.aload_n 1) ∧ dk cX5_init 18 = some (.getfield 19) ∧ fres 5 19 = some (6, 0, 0, true) ∧ dk cX5_init 21 = some (.iload_n 2) ∧ dk cX5_init 22 = some (.aload_n 0) ∧ dk cX5_init 23 = some (.getfield 9) ∧ dk cX5_init 26 = some (.iconst 0) ∧ dk cX5_init 27 = some (.iload_n 3)) ∧ (dk cX5_init 28 = some (.invokestatic 24) ∧ dk cX5_init 31 = some (.return_)) := ⟨by decide +kernel, by decide +kernel, by decide +kernel⟩
set_option maxRecDepth 100000 in
theorem D_X5_isAt : (dk cX5_isAt 0 = some (.iconst 0) ∧ dk cX5_isAt 1 = some (.istore 4) ∧ dk cX5_isAt 3 = some (.iload 4) ∧ dk cX5_isAt 5 = some (.aload_n 0) ∧ dk cX5_isAt 6 = some (.getfield 15) ∧ fres 5 15 = some (5, 1, 1, true) ∧ dk cX5_isAt 9 = some (.if_icmp .ge 41) ∧ jok 9 41 = true ∧ jmp 9 41 = 50 ∧ dk cX5_isAt 12 = some (.aload_n 0)) ∧ (dk cX5_isAt 13 = some (.getfield 9) ∧ fres 5 9 = some (5, 0, 0, true) ∧ dk cX5_isAt 16 = some (.iload 4) ∧ dk cX5_isAt 18 = some (.iaload) ∧ dk cX5_isAt 19 = some (.iconst (-1)) ∧ dk cX5_isAt 20 = some (.if_icmp .eq 24) ∧ jok 20 24 = true ∧ jmp 20 24 = 44 ∧ dk cX5_isAt 23 = some (.aload_n 0) ∧ dk cX5_isAt 24 = some (.getfield 9)) ∧ (dk cX5_isAt 27 = some (.iload 4) ∧ dk cX5_isAt 29 = some (.iaload) ∧ dk cX5_isAt 30 = some (.aload_n 1) ∧ dk cX5_isAt 31 = some (.iload_n 2) ∧ dk cX5_isAt 32 = some (.iload_n 3) ∧ dk cX5_isAt 33 = some (.iload 4) ∧ dk cX5_isAt 35 = some (.iadd) ∧ dk cX5_isAt 36 = some (.invokevirtual 30) ∧ cres 5 30 = some 62 ∧ pM 62 = 2) ∧ (sM 62 = false ∧ oM 62 = 8 ∧ dk cX5_isAt 39 = some (.if_icmp .eq 5) ∧ jok 39 5 = true ∧ jmp 39 5 = 44 ∧ dk cX5_isAt 42 = some (.iconst 0) ∧ dk cX5_isAt 43 = some (.ireturn) ∧ dk cX5_isAt 44 = some (.iinc 4 1) ∧ dk cX5_isAt 47 = some (.goto (-44)) ∧ jok 47 (-44) = true) ∧ (jmp 47 (-44) = 3 ∧ dk cX5_isAt 50 = some (.iconst 1) ∧ dk cX5_isAt 51 = some (.ireturn)) := ⟨by decide +kernel, by decide +kernel, by decide +kernel, by decide +kernel, by decide +kernel⟩
set_option maxRecDepth 100000 in
theorem N_X5_isAt : ((yM 62).name = "<init>") = False := by simp only [eq_iff_iff, iff_false, iff_true]; decide +kernel
set_option maxRecDepth 100000 in
theorem D_X5_placesIn : (dk cX5_placesIn 0 = some (.iconst 0) ∧ dk cX5_placesIn 1 = some (.istore_n 3) ∧ dk cX5_placesIn 2 = some (.aload_n 1) ∧ dk cX5_placesIn 3 = some (.invokevirtual 36) ∧ cres 5 36 = some 63 ∧ pM 63 = 0 ∧ sM 63 = false ∧ oM 63 = 8 ∧ dk cX5_placesIn 6 = some (.aload_n 0) ∧ dk cX5_placesIn 7 = some (.getfield 15)) ∧ (fres 5 15 = some (5, 1, 1, true) ∧ dk cX5_placesIn 10 = some (.isub) ∧ dk cX5_placesIn 11 = some (.istore 4) ∧ dk cX5_placesIn 13 = some (.iconst 0) ∧ dk cX5_placesIn 14 = some (.istore 5) ∧ dk cX5_placesIn 16 = some (.iload 5) ∧ dk cX5_placesIn 18 = some (.iload 4) ∧ dk cX5_placesIn 20 = some (.if_icmp .gt 23) ∧ jok 20 23 = true ∧ jmp 20 23 = 43) ∧ (dk cX5_placesIn 23 = some (.aload_n 0) ∧ dk cX5_placesIn 24 = some (.aload_n 1) ∧ dk cX5_placesIn 25 = some (.iload_n 2) ∧ dk cX5_placesIn 26 = some (.iload 5) ∧ dk cX5_placesIn 28 = some (.invokevirtual 40) ∧ cres 5 40 = some 41 ∧ pM 41 = 3 ∧ sM 41 = false ∧ oM 41 = 5 ∧ dk cX5_placesIn 31 = some (.ifCond .eq 6)) ∧ (jok 31 6 = true ∧ jmp 31 6 = 37 ∧ dk cX5_placesIn 34 = some (.iinc 3 1) ∧ dk cX5_placesIn 37 = some (.iinc 5 1) ∧ dk cX5_placesIn 40 = some (.goto (-24)) ∧ jok 40 (-24) = true ∧ jmp 40 (-24) = 16 ∧ dk cX5_placesIn 43 = some (.iload_n 3) ∧ dk cX5_placesIn 44 = some (.ireturn)) := ⟨by decide +kernel, by decide +kernel, by decide +kernel, by decide +kernel⟩
set_option maxRecDepth 100000 in
theorem N_X5_placesIn : ((yM 63).name = "<init>") = False ∧ ((yM 41).name = "<init>") = False := by simp only [eq_iff_iff, iff_false, iff_true]; decide +kernel
set_option maxRecDepth 100000 in
theorem D_X5_firstIn : (dk cX5_firstIn 0 = some (.aload_n 1) ∧ dk cX5_firstIn 1 = some (.invokevirtual 36) ∧ cres 5 36 = some 63 ∧ pM 63 = 0 ∧ sM 63 = false ∧ oM 63 = 8 ∧ dk cX5_firstIn 4 = some (.aload_n 0) ∧ dk cX5_firstIn 5 = some (.getfield 15) ∧ fres 5 15 = some (5, 1, 1, true) ∧ dk cX5_firstIn 8 = some (.isub)) ∧ (dk cX5_firstIn 9 = some (.istore_n 3) ∧ dk cX5_firstIn 10 = some (.iconst 0) ∧ dk cX5_firstIn 11 = some (.istore 4) ∧ dk cX5_firstIn 13 = some (.iload 4) ∧ dk cX5_firstIn 15 = some (.iload_n 3) ∧ dk cX5_firstIn 16 = some (.if_icmp .gt 23) ∧ jok 16 23 = true ∧ jmp 16 23 = 39 ∧ dk cX5_firstIn 19 = some (.aload_n 0) ∧ dk cX5_firstIn 20 = some (.aload_n 1)) ∧ (dk cX5_firstIn 21 = some (.iload_n 2) ∧ dk cX5_firstIn 22 = some (.iload 4) ∧ dk cX5_firstIn 24 = some (.invokevirtual 40) ∧ cres 5 40 = some 41 ∧ pM 41 = 3 ∧ sM 41 = false ∧ oM 41 = 5 ∧ dk cX5_firstIn 27 = some (.ifCond .eq 6) ∧ jok 27 6 = true ∧ jmp 27 6 = 33) ∧ (dk cX5_firstIn 30 = some (.iload 4) ∧ dk cX5_firstIn 32 = some (.ireturn) ∧ dk cX5_firstIn 33 = some (.iinc 4 1) ∧ dk cX5_firstIn 36 = some (.goto (-23)) ∧ jok 36 (-23) = true ∧ jmp 36 (-23) = 13 ∧ dk cX5_firstIn 39 = some (.bipush (-9)) ∧ dk cX5_firstIn 41 = some (.ireturn)) := ⟨by decide +kernel, by decide +kernel, by decide +kernel, by decide +kernel⟩
set_option maxRecDepth 100000 in
theorem N_X5_firstIn : ((yM 63).name = "<init>") = False ∧ ((yM 41).name = "<init>") = False := by simp only [eq_iff_iff, iff_false, iff_true]; decide +kernel
set_option maxRecDepth 100000 in
theorem D_X6_init : dk cX6_init 0 = some (.aload_n 0) ∧ dk cX6_init 1 = some (.invokespecial 3) ∧ dk cX6_init 4 = some (.aload_n 0) ∧ dk cX6_init 5 = some (.bipush 60) ∧ dk cX6_init 7 = some (.newarray .int) ∧ dk cX6_init 9 = some (.putfield 9) ∧ fres 6 9 = some (6, 0, 0, true) ∧ dk cX6_init 12 = some (.return_) := by decide +kernel
set_option maxRecDepth 100000 in
theorem D_X6_begin : (dk cX6_begin 0 = some (.aload_n 0) ∧ dk cX6_begin 1 = some (.iconst 1) ∧ dk cX6_begin 2 = some (.putfield 15) ∧ fres 6 15 = some (6, 1, 1, false) ∧ isBo (tyN 6 1) = true ∧ dk cX6_begin 5 = some (.aload_n 0) ∧ dk cX6_begin 6 = some (.iload_n 1) ∧ dk cX6_begin 7 = some (.putfield 19) ∧ fres 6 19 = some (6, 2, 1, false) ∧ isBo (tyN 6 2) = false) ∧ (dk cX6_begin 10 = some (.aload_n 0) ∧ dk cX6_begin 11 = some (.iload_n 2) ∧ dk cX6_begin 12 = some (.putfield 23) ∧ fres 6 23 = some (6, 3, 1, false) ∧ isBo (tyN 6 3) = false ∧ dk cX6_begin 15 = some (.aload_n 0) ∧ dk cX6_begin 16 = some (.getfield 9) ∧ fres 6 9 = some (6, 0, 0, true) ∧ dk cX6_begin 19 = some (.iconst 0) ∧ dk cX6_begin 20 = some (.invokestatic 26)) ∧ (cres 6 26 = some 254 ∧ pM 254 = 2 ∧ sM 254 = true ∧ dk cX6_begin 23 = some (.return_)) := ⟨by decide +kernel, by decide +kernel, by decide +kernel⟩
set_option maxRecDepth 100000 in
theorem D_X6_isOfOther : (dk cX6_isOfOther 0 = some (.aload_n 0) ∧ dk cX6_isOfOther 1 = some (.getfield 15) ∧ fres 6 15 = some (6, 1, 1, false) ∧ dk cX6_isOfOther 4 = some (.ifCond .eq 15) ∧ jok 4 15 = true ∧ jmp 4 15 = 19 ∧ dk cX6_isOfOther 7 = some (.aload_n 0) ∧ dk cX6_isOfOther 8 = some (.getfield 19) ∧ fres 6 19 = some (6, 2, 1, false) ∧ dk cX6_isOfOther 11 = some (.iload_n 1)) ∧ (dk cX6_isOfOther 12 = some (.if_icmp .eq 7) ∧ jok 12 7 = true ∧ jmp 12 7 = 19 ∧ dk cX6_isOfOther 15 = some (.iconst 1) ∧ dk cX6_isOfOther 16 = some (.goto 4) ∧ jok 16 4 = true ∧ jmp 16 4 = 20 ∧ dk cX6_isOfOther 19 = some (.iconst 0) ∧ dk cX6_isOfOther 20 = some (.ireturn)) := ⟨by decide +kernel, by decide +kernel⟩
set_option maxRecDepth 100000 in
theorem D_X6_spans : (dk cX6_spans 0 = some (.iload_n 1) ∧ dk cX6_spans 1 = some (.ifCond .lt 29) ∧ jok 1 29 = true ∧ jmp 1 29 = 30 ∧ dk cX6_spans 4 = some (.iload_n 1) ∧ dk cX6_spans 5 = some (.aload_n 0) ∧ dk cX6_spans 6 = some (.getfield 23) ∧ fres 6 23 = some (6, 3, 1, false) ∧ dk cX6_spans 9 = some (.if_icmp .gt 21) ∧ jok 9 21 = true) ∧ (jmp 9 21 = 30 ∧ dk cX6_spans 12 = some (.iload_n 2) ∧ dk cX6_spans 13 = some (.ifCond .lt 17) ∧ jok 13 17 = true ∧ jmp 13 17 = 30 ∧ dk cX6_spans 16 = some (.iload_n 2) ∧ dk cX6_spans 17 = some (.aload_n 0) ∧ dk cX6_spans 18 = some (.getfield 23) ∧ dk cX6_spans 21 = some (.iload_n 1) ∧ dk cX6_spans 22 = some (.isub)) ∧ (dk cX6_spans 23 = some (.if_icmp .gt 7) ∧ jok 23 7 = true ∧ jmp 23 7 = 30 ∧ dk cX6_spans 26 = some (.iconst 1) ∧ dk cX6_spans 27 = some (.goto 4) ∧ jok 27 4 = true ∧ jmp 27 4 = 31 ∧ dk cX6_spans 30 = some (.iconst 0) ∧ dk cX6_spans 31 = some (.ireturn)) := ⟨by decide +kernel, by decide +kernel, by decide +kernel⟩
set_option maxRecDepth 100000 in
theorem D_X6_areAllIn : (dk cX6_areAllIn 0 = some (.iload_n 1) ∧ dk cX6_areAllIn 1 = some (.istore 5) ∧ dk cX6_areAllIn 3 = some (.iload 5) ∧ dk cX6_areAllIn 5 = some (.iload_n 1) ∧ dk cX6_areAllIn 6 = some (.iload_n 2) ∧ dk cX6_areAllIn 7 = some (.iadd) ∧ dk cX6_areAllIn 8 = some (.if_icmp .ge 27) ∧ jok 8 27 = true ∧ jmp 8 27 = 35 ∧ dk cX6_areAllIn 11 = some (.aload_n 0)) ∧ (dk cX6_areAllIn 12 = some (.getfield 9) ∧ fres 6 9 = some (6, 0, 0, true) ∧ dk cX6_areAllIn 15 = some (.iload 5) ∧ dk cX6_areAllIn 17 = some (.iaload) ∧ dk cX6_areAllIn 18 = some (.iload_n 3) ∧ dk cX6_areAllIn 19 = some (.iload 4) ∧ dk cX6_areAllIn 21 = some (.invokestatic 32) ∧ cres 6 32 = some 81 ∧ pM 81 = 3 ∧ sM 81 = true) ∧ (dk cX6_areAllIn 24 = some (.ifCond .ne 5) ∧ jok 24 5 = true ∧ jmp 24 5 = 29 ∧ dk cX6_areAllIn 27 = some (.iconst 0) ∧ dk cX6_areAllIn 28 = some (.ireturn) ∧ dk cX6_areAllIn 29 = some (.iinc 5 1) ∧ dk cX6_areAllIn 32 = some (.goto (-29)) ∧ jok 32 (-29) = true ∧ jmp 32 (-29) = 3 ∧ dk cX6_areAllIn 35 = some (.iconst 1)) ∧ (dk cX6_areAllIn 36 = some (.ireturn)) := ⟨by decide +kernel, by decide +kernel, by decide +kernel, by decide +kernel⟩
set_option maxRecDepth 100000 in
theorem D_X6_cut : (dk cX6_cut 0 = some (.aload_n 0) ∧ dk cX6_cut 1 = some (.getfield 19) ∧ fres 6 19 = some (6, 2, 1, false) ∧ dk cX6_cut 4 = some (.ifCond .ne 6) ∧ jok 4 6 = true ∧ jmp 4 6 = 10 ∧ dk cX6_cut 7 = some (.iload_n 1) ∧ dk cX6_cut 8 = some (.i2b) ∧ dk cX6_cut 9 = some (.ireturn) ∧ dk cX6_cut 10 = some (.aload_n 0)) ∧ (dk cX6_cut 11 = some (.getfield 19) ∧ dk cX6_cut 14 = some (.iconst 1) ∧ dk cX6_cut 15 = some (.if_icmp .ne 8) ∧ jok 15 8 = true ∧ jmp 15 8 = 23 ∧ dk cX6_cut 18 = some (.iload_n 1) ∧ dk cX6_cut 19 = some (.i2s) ∧ dk cX6_cut 20 = some (.goto 4) ∧ jok 20 4 = true ∧ jmp 20 4 = 24) ∧ (dk cX6_cut 23 = some (.iload_n 1) ∧ dk cX6_cut 24 = some (.ireturn)) := ⟨by decide +kernel, by decide +kernel, by decide +kernel⟩
set_option maxRecDepth 100000 in
theorem D_X7_init : (dk cX7_init 0 = some (.aload_n 0) ∧ dk cX7_init 1 = some (.invokespecial 3) ∧ dk cX7_init 4 = some (.aload_n 0) ∧ dk cX7_init 5 = some (.bipush 48) ∧ dk cX7_init 7 = some (.newarray .int) ∧ dk cX7_init 9 = some (.putfield 11) ∧ fres 7 11 = some (7, 0, 0, true) ∧ dk cX7_init 12 = some (.aload_n 0) ∧ dk cX7_init 13 = some (.sipush 200) ∧ dk cX7_init 16 = some (.newarray .int)) ∧ (dk cX7_init 18 = some (.putfield 15) ∧ fres 7 15 = some (7, 1, 0, true) ∧ dk cX7_init 21 = some (.aload_n 0) ∧ dk cX7_init 22 = some (.sipush 200) ∧ dk cX7_init 25 = some (.newarray .int) ∧ dk cX7_init 27 = some (.putfield 18) ∧ fres 7 18 = some (7, 2, 0, true) ∧ dk cX7_init 30 = some (.return_)) := ⟨by decide +kernel, by decide +kernel⟩
set_option maxRecDepth 100000 in
theorem D_X7_isThing : dk cX7_isThing 0 = some (.iload_n 0) ∧ dk cX7_isThing 1 = some (.iconst 0) ∧ dk cX7_isThing 2 = some (.sipush 9999) ∧ dk cX7_isThing 5 = some (.invokestatic 21) ∧ cres 7 21 = some 81 ∧ pM 81 = 3 ∧ sM 81 = true ∧ dk cX7_isThing 8 = some (.ireturn) := by decide +kernel
set_option maxRecDepth 100000 in
theorem D_X7_spotOf : (dk cX7_spotOf 0 = some (.iload_n 1) ∧ dk cX7_spotOf 1 = some (.bipush 16) ∧ dk cX7_spotOf 3 = some (.imul) ∧ dk cX7_spotOf 4 = some (.iload_n 0) ∧ dk cX7_spotOf 5 = some (.getstatic 25) ∧ dk cX7_spotOf 8 = some (.iload_n 1) ∧ dk cX7_spotOf 9 = some (.iaload) ∧ dk cX7_spotOf 10 = some (.imul) ∧ dk cX7_spotOf 11 = some (.getstatic 28) ∧ dk cX7_spotOf 14 = some (.iload_n 1)) ∧ (dk cX7_spotOf 15 = some (.iaload) ∧ dk cX7_spotOf 16 = some (.iadd) ∧ dk cX7_spotOf 17 = some (.bipush 97) ∧ dk cX7_spotOf 19 = some (.idiv) ∧ dk cX7_spotOf 20 = some (.bipush 16) ∧ dk cX7_spotOf 22 = some (.irem) ∧ dk cX7_spotOf 23 = some (.iadd) ∧ dk cX7_spotOf 24 = some (.ireturn)) := ⟨by decide +kernel, by decide +kernel⟩
set_option maxRecDepth 100000 in
theorem D_X7_indexOf : (dk cX7_indexOf 0 = some (.iconst 0) ∧ dk cX7_indexOf 1 = some (.istore_n 2) ∧ dk cX7_indexOf 2 = some (.iload_n 2) ∧ dk cX7_indexOf 3 = some (.aload_n 0) ∧ dk cX7_indexOf 4 = some (.getfield 31) ∧ fres 7 31 = some (7, 3, 1, false) ∧ dk cX7_indexOf 7 = some (.if_icmp .ge 21) ∧ jok 7 21 = true ∧ jmp 7 21 = 28 ∧ dk cX7_indexOf 10 = some (.aload_n 0)) ∧ (dk cX7_indexOf 11 = some (.getfield 15) ∧ fres 7 15 = some (7, 1, 0, true) ∧ dk cX7_indexOf 14 = some (.iload_n 2) ∧ dk cX7_indexOf 15 = some (.iaload) ∧ dk cX7_indexOf 16 = some (.iload_n 1) ∧ dk cX7_indexOf 17 = some (.if_icmp .ne 5) ∧ jok 17 5 = true ∧ jmp 17 5 = 22 ∧ dk cX7_indexOf 20 = some (.iload_n 2) ∧ dk cX7_indexOf 21 = some (.ireturn)) ∧ (dk cX7_indexOf 22 = some (.iinc 2 1) ∧ dk cX7_indexOf 25 = some (.goto (-23)) ∧ jok 25 (-23) = true ∧ jmp 25 (-23) = 2 ∧ dk cX7_indexOf 28 = some (.bipush (-9)) ∧ dk cX7_indexOf 30 = some (.ireturn)) := ⟨by decide +kernel, by decide +kernel, by decide +kernel⟩
set_option maxRecDepth 100000 in
theorem D_X7_take : (dk cX7_take 0 = some (.aload_n 0) ∧ dk cX7_take 1 = some (.iload_n 1) ∧ dk cX7_take 2 = some (.invokevirtual 35) ∧ cres 7 35 = some 53 ∧ pM 53 = 1 ∧ sM 53 = false ∧ oM 53 = 7 ∧ dk cX7_take 5 = some (.istore_n 3) ∧ dk cX7_take 6 = some (.iload_n 3) ∧ dk cX7_take 7 = some (.bipush (-9))) ∧ (dk cX7_take 9 = some (.if_icmp .ne 37) ∧ jok 9 37 = true ∧ jmp 9 37 = 46 ∧ dk cX7_take 12 = some (.aload_n 0) ∧ dk cX7_take 13 = some (.getfield 31) ∧ fres 7 31 = some (7, 3, 1, false) ∧ dk cX7_take 16 = some (.sipush 200) ∧ dk cX7_take 19 = some (.if_icmp .lt 5) ∧ jok 19 5 = true ∧ jmp 19 5 = 24) ∧ (dk cX7_take 22 = some (.iconst 0) ∧ dk cX7_take 23 = some (.ireturn) ∧ dk cX7_take 24 = some (.aload_n 0) ∧ dk cX7_take 25 = some (.getfield 31) ∧ dk cX7_take 28 = some (.istore_n 3) ∧ dk cX7_take 29 = some (.aload_n 0) ∧ dk cX7_take 30 = some (.getfield 15) ∧ fres 7 15 = some (7, 1, 0, true) ∧ dk cX7_take 33 = some (.iload_n 3) ∧ dk cX7_take 34 = some (.iload_n 1)) ∧ (dk cX7_take 35 = some (.iastore) ∧ dk cX7_take 36 = some (.aload_n 0) ∧ dk cX7_take 37 = some (.dup) ∧ dk cX7_take 38 = some (.getfield 31) ∧ dk cX7_take 41 = some (.iconst 1) ∧ dk cX7_take 42 = some (.iadd) ∧ dk cX7_take 43 = some (.putfield 31) ∧ isBo (tyN 7 3) = false ∧ dk cX7_take 46 = some (.aload_n 0) ∧ dk cX7_take 47 = some (.getfield 18)) ∧ (fres 7 18 = some (7, 2, 0, true) ∧ dk cX7_take 50 = some (.iload_n 3) ∧ dk cX7_take 51 = some (.dup2) ∧ dk cX7_take 52 = some (.iaload) ∧ dk cX7_take 53 = some (.iload_n 2) ∧ dk cX7_take 54 = some (.iadd) ∧ dk cX7_take 55 = some (.iastore) ∧ dk cX7_take 56 = some (.iconst 0) ∧ dk cX7_take 57 = some (.istore 4) ∧ dk cX7_take 59 = some (.iload 4)) ∧ (dk cX7_take 61 = some (.iconst 3) ∧ dk cX7_take 62 = some (.if_icmp .ge 24) ∧ jok 62 24 = true ∧ jmp 62 24 = 86 ∧ dk cX7_take 65 = some (.aload_n 0) ∧ dk cX7_take 66 = some (.getfield 11) ∧ fres 7 11 = some (7, 0, 0, true) ∧ dk cX7_take 69 = some (.iload_n 1) ∧ dk cX7_take 70 = some (.iload 4) ∧ dk cX7_take 72 = some (.invokestatic 39)) ∧ (cres 7 39 = some 52 ∧ pM 52 = 2 ∧ sM 52 = true ∧ dk cX7_take 75 = some (.dup2) ∧ dk cX7_take 76 = some (.iaload) ∧ dk cX7_take 77 = some (.iload_n 2) ∧ dk cX7_take 78 = some (.iadd) ∧ dk cX7_take 79 = some (.iastore) ∧ dk cX7_take 80 = some (.iinc 4 1) ∧ dk cX7_take 83 = some (.goto (-24))) ∧ (jok 83 (-24) = true ∧ jmp 83 (-24) = 59 ∧ dk cX7_take 86 = some (.iconst 1) ∧ dk cX7_take 87 = some (.ireturn)) := ⟨by decide +kernel, by decide +kernel, by decide +kernel, by decide +kernel, by decide +kernel, by decide +kernel, by decide +kernel, by decide +kernel⟩
set_option maxRecDepth 100000 in
theorem N_X7_take : ((yM 53).name = "<init>") = False := by simp only [eq_iff_iff, iff_false, iff_true]; decide +kernel
set_option maxRecDepth 100000 in
theorem D_X7_toldOf : (dk cX7_toldOf 0 = some (.aload_n 0) ∧ dk cX7_toldOf 1 = some (.getfield 11) ∧ fres 7 11 = some (7, 0, 0, true) ∧ dk cX7_toldOf 4 = some (.iload_n 1) ∧ dk cX7_toldOf 5 = some (.iconst 0) ∧ dk cX7_toldOf 6 = some (.invokestatic 39) ∧ cres 7 39 = some 52 ∧ pM 52 = 2 ∧ sM 52 = true ∧ dk cX7_toldOf 9 = some (.iaload)) ∧ (dk cX7_toldOf 10 = some (.istore_n 2) ∧ dk cX7_toldOf 11 = some (.iconst 1) ∧ dk cX7_toldOf 12 = some (.istore_n 3) ∧ dk cX7_toldOf 13 = some (.iload_n 3) ∧ dk cX7_toldOf 14 = some (.iconst 3) ∧ dk cX7_toldOf 15 = some (.if_icmp .ge 24) ∧ jok 15 24 = true ∧ jmp 15 24 = 39 ∧ dk cX7_toldOf 18 = some (.iload_n 2) ∧ dk cX7_toldOf 19 = some (.aload_n 0)) ∧ (dk cX7_toldOf 20 = some (.getfield 11) ∧ dk cX7_toldOf 23 = some (.iload_n 1) ∧ dk cX7_toldOf 24 = some (.iload_n 3) ∧ dk cX7_toldOf 25 = some (.invokestatic 39) ∧ dk cX7_toldOf 28 = some (.iaload) ∧ dk cX7_toldOf 29 = some (.invokestatic 43) ∧ cres 7 43 = some 253 ∧ pM 253 = 2 ∧ sM 253 = true ∧ dk cX7_toldOf 32 = some (.istore_n 2)) ∧ (dk cX7_toldOf 33 = some (.iinc 3 1) ∧ dk cX7_toldOf 36 = some (.goto (-23)) ∧ jok 36 (-23) = true ∧ jmp 36 (-23) = 13 ∧ dk cX7_toldOf 39 = some (.iload_n 2) ∧ dk cX7_toldOf 40 = some (.ireturn)) := ⟨by decide +kernel, by decide +kernel, by decide +kernel, by decide +kernel⟩
set_option maxRecDepth 100000 in
theorem D_X7_trulyOf : (dk cX7_trulyOf 0 = some (.aload_n 0) ∧ dk cX7_trulyOf 1 = some (.iload_n 1) ∧ dk cX7_trulyOf 2 = some (.invokevirtual 35) ∧ cres 7 35 = some 53 ∧ pM 53 = 1 ∧ sM 53 = false ∧ oM 53 = 7 ∧ dk cX7_trulyOf 5 = some (.istore_n 2) ∧ dk cX7_trulyOf 6 = some (.iload_n 2) ∧ dk cX7_trulyOf 7 = some (.bipush (-9))) ∧ (dk cX7_trulyOf 9 = some (.if_icmp .ne 7) ∧ jok 9 7 = true ∧ jmp 9 7 = 16 ∧ dk cX7_trulyOf 12 = some (.iconst 0) ∧ dk cX7_trulyOf 13 = some (.goto 9) ∧ jok 13 9 = true ∧ jmp 13 9 = 22 ∧ dk cX7_trulyOf 16 = some (.aload_n 0) ∧ dk cX7_trulyOf 17 = some (.getfield 18) ∧ fres 7 18 = some (7, 2, 0, true)) ∧ (dk cX7_trulyOf 20 = some (.iload_n 2) ∧ dk cX7_trulyOf 21 = some (.iaload) ∧ dk cX7_trulyOf 22 = some (.ireturn)) := ⟨by decide +kernel, by decide +kernel, by decide +kernel⟩
set_option maxRecDepth 100000 in
theorem N_X7_trulyOf : ((yM 53).name = "<init>") = False := by simp only [eq_iff_iff, iff_false, iff_true]; decide +kernel
set_option maxRecDepth 100000 in
theorem D_X7_missed : (dk cX7_missed 0 = some (.iconst 0) ∧ dk cX7_missed 1 = some (.istore_n 1) ∧ dk cX7_missed 2 = some (.iconst 0) ∧ dk cX7_missed 3 = some (.istore_n 2) ∧ dk cX7_missed 4 = some (.iload_n 2) ∧ dk cX7_missed 5 = some (.aload_n 0) ∧ dk cX7_missed 6 = some (.getfield 31) ∧ fres 7 31 = some (7, 3, 1, false) ∧ dk cX7_missed 9 = some (.if_icmp .ge 31) ∧ jok 9 31 = true) ∧ (jmp 9 31 = 40 ∧ dk cX7_missed 12 = some (.aload_n 0) ∧ dk cX7_missed 13 = some (.aload_n 0) ∧ dk cX7_missed 14 = some (.getfield 15) ∧ fres 7 15 = some (7, 1, 0, true) ∧ dk cX7_missed 17 = some (.iload_n 2) ∧ dk cX7_missed 18 = some (.iaload) ∧ dk cX7_missed 19 = some (.invokevirtual 48) ∧ cres 7 48 = some 55 ∧ pM 55 = 1) ∧ (sM 55 = false ∧ oM 55 = 7 ∧ dk cX7_missed 22 = some (.aload_n 0) ∧ dk cX7_missed 23 = some (.getfield 18) ∧ fres 7 18 = some (7, 2, 0, true) ∧ dk cX7_missed 26 = some (.iload_n 2) ∧ dk cX7_missed 27 = some (.iaload) ∧ dk cX7_missed 28 = some (.if_icmp .le 6) ∧ jok 28 6 = true ∧ jmp 28 6 = 34) ∧ (dk cX7_missed 31 = some (.iinc 1 1) ∧ dk cX7_missed 34 = some (.iinc 2 1) ∧ dk cX7_missed 37 = some (.goto (-33)) ∧ jok 37 (-33) = true ∧ jmp 37 (-33) = 4 ∧ dk cX7_missed 40 = some (.iload_n 1) ∧ dk cX7_missed 41 = some (.ireturn)) := ⟨by decide +kernel, by decide +kernel, by decide +kernel, by decide +kernel⟩
set_option maxRecDepth 100000 in
theorem N_X7_missed : ((yM 55).name = "<init>") = False := by simp only [eq_iff_iff, iff_false, iff_true]; decide +kernel
set_option maxRecDepth 100000 in
theorem D_X8_init : (dk cX8_init 0 = some (.aload_n 0) ∧ dk cX8_init 1 = some (.invokespecial 3) ∧ dk cX8_init 4 = some (.aload_n 0) ∧ dk cX8_init 5 = some (.bipush 79) ∧ dk cX8_init 7 = some (.newarray .int) ∧ dk cX8_init 9 = some (.putfield 9) ∧ fres 8 9 = some (8, 4, 0, true) ∧ dk cX8_init 12 = some (.aload_n 0) ∧ dk cX8_init 13 = some (.bipush 79) ∧ dk cX8_init 15 = some (.newarray .int)) ∧ (dk cX8_init 17 = some (.putfield 15) ∧ fres 8 15 = some (8, 5, 0, true) ∧ dk cX8_init 20 = some (.aload_n 0) ∧ dk cX8_init 21 = some (.bipush (-9)) ∧ dk cX8_init 23 = some (.putfield 18) ∧ fres 8 18 = some (8, 9, 1, false) ∧ isBo (tyN 8 9) = false ∧ dk cX8_init 26 = some (.aload_n 0) ∧ dk cX8_init 27 = some (.iload_n 1) ∧ dk cX8_init 28 = some (.putfield 22)) ∧ (fres 8 22 = some (8, 0, 1, true) ∧ isBo (tyN 8 0) = false ∧ dk cX8_init 31 = some (.aload_n 0) ∧ dk cX8_init 32 = some (.iload_n 2) ∧ dk cX8_init 33 = some (.putfield 25) ∧ fres 8 25 = some (8, 1, 1, true) ∧ isBo (tyN 8 1) = false ∧ dk cX8_init 36 = some (.aload_n 0) ∧ dk cX8_init 37 = some (.iload_n 3) ∧ dk cX8_init 38 = some (.putfield 28)) ∧ (fres 8 28 = some (8, 2, 1, true) ∧ isBo (tyN 8 2) = false ∧ dk cX8_init 41 = some (.aload_n 0) ∧ dk cX8_init 42 = some (.iload 4) ∧ dk cX8_init 44 = some (.putfield 31) ∧ fres 8 31 = some (8, 3, 1, true) ∧ isBo (tyN 8 3) = false ∧ dk cX8_init 47 = some (.aload_n 0) ∧ dk cX8_init 48 = some (.getfield 9) ∧ dk cX8_init 51 = some (.bipush (-9))) ∧ (dk cX8_init 53 = some (.invokestatic 34) ∧ cres 8 34 = some 254 ∧ pM 254 = 2 ∧ sM 254 = true ∧ dk cX8_init 56 = some (.aload_n 0) ∧ dk cX8_init 57 = some (.getfield 15) ∧ dk cX8_init 60 = some (.bipush (-9)) ∧ dk cX8_init 62 = some (.invokestatic 34) ∧ dk cX8_init 65 = some (.return_)) := ⟨by decide +kernel, by decide +kernel, by decide +kernel, by decide +kernel, by decide +kernel⟩
set_option maxRecDepth 100000 in
theorem D_X8_isSealed : (dk cX8_isSealed 0 = some (.aload_n 0) ∧ dk cX8_isSealed 1 = some (.getfield 25) ∧ fres 8 25 = some (8, 1, 1, true) ∧ dk cX8_isSealed 4 = some (.iconst 1) ∧ dk cX8_isSealed 5 = some (.if_icmp .lt 7) ∧ jok 5 7 = true ∧ jmp 5 7 = 12 ∧ dk cX8_isSealed 8 = some (.iconst 1) ∧ dk cX8_isSealed 9 = some (.goto 4) ∧ jok 9 4 = true) ∧ (jmp 9 4 = 13 ∧ dk cX8_isSealed 12 = some (.iconst 0) ∧ dk cX8_isSealed 13 = some (.ireturn)) := ⟨by decide +kernel, by decide +kernel⟩
set_option maxRecDepth 100000 in
theorem D_X8_see : (dk cX8_see 0 = some (.iconst 0) ∧ dk cX8_see 1 = some (.istore 6) ∧ dk cX8_see 3 = some (.iload 6) ∧ dk cX8_see 5 = some (.iload 5) ∧ dk cX8_see 7 = some (.if_icmp .ge 27) ∧ jok 7 27 = true ∧ jmp 7 27 = 34 ∧ dk cX8_see 10 = some (.aload_n 0) ∧ dk cX8_see 11 = some (.iload_n 1) ∧ dk cX8_see 12 = some (.iload 6)) ∧ (dk cX8_see 14 = some (.iadd) ∧ dk cX8_see 15 = some (.aload_n 3) ∧ dk cX8_see 16 = some (.getfield 40) ∧ fres 8 40 = some (6, 0, 0, true) ∧ dk cX8_see 19 = some (.iload 4) ∧ dk cX8_see 21 = some (.iload 6) ∧ dk cX8_see 23 = some (.iadd) ∧ dk cX8_see 24 = some (.iaload) ∧ dk cX8_see 25 = some (.invokevirtual 45) ∧ cres 8 45 = some 61) ∧ (pM 61 = 2 ∧ sM 61 = false ∧ oM 61 = 8 ∧ dk cX8_see 28 = some (.iinc 6 1) ∧ dk cX8_see 31 = some (.goto (-28)) ∧ jok 31 (-28) = true ∧ jmp 31 (-28) = 3 ∧ dk cX8_see 34 = some (.aload_n 0) ∧ dk cX8_see 35 = some (.aload_n 0) ∧ dk cX8_see 36 = some (.getfield 49)) ∧ (fres 8 49 = some (8, 6, 1, false) ∧ dk cX8_see 39 = some (.iload_n 1) ∧ dk cX8_see 40 = some (.iload 5) ∧ dk cX8_see 42 = some (.iadd) ∧ dk cX8_see 43 = some (.invokestatic 52) ∧ cres 8 52 = some 252 ∧ pM 252 = 2 ∧ sM 252 = true ∧ dk cX8_see 46 = some (.putfield 49) ∧ isBo (tyN 8 6) = false) ∧ (dk cX8_see 49 = some (.aload_n 0) ∧ dk cX8_see 50 = some (.iload_n 2) ∧ dk cX8_see 51 = some (.putfield 18) ∧ fres 8 18 = some (8, 9, 1, false) ∧ isBo (tyN 8 9) = false ∧ dk cX8_see 54 = some (.return_)) := ⟨by decide +kernel, by decide +kernel, by decide +kernel, by decide +kernel, by decide +kernel⟩
set_option maxRecDepth 100000 in
theorem N_X8_see : ((yM 61).name = "<init>") = False := by simp only [eq_iff_iff, iff_false, iff_true]; decide +kernel
set_option maxRecDepth 100000 in
theorem D_X8_seeByte : (dk cX8_seeByte 0 = some (.aload_n 0) ∧ dk cX8_seeByte 1 = some (.getfield 9) ∧ fres 8 9 = some (8, 4, 0, true) ∧ dk cX8_seeByte 4 = some (.iload_n 1) ∧ dk cX8_seeByte 5 = some (.iaload) ∧ dk cX8_seeByte 6 = some (.bipush (-9)) ∧ dk cX8_seeByte 8 = some (.if_icmp .ne 13) ∧ jok 8 13 = true ∧ jmp 8 13 = 21 ∧ dk cX8_seeByte 11 = some (.aload_n 0)) ∧ (dk cX8_seeByte 12 = some (.getfield 9) ∧ dk cX8_seeByte 15 = some (.iload_n 1) ∧ dk cX8_seeByte 16 = some (.iload_n 2) ∧ dk cX8_seeByte 17 = some (.iastore) ∧ dk cX8_seeByte 18 = some (.goto 55) ∧ jok 18 55 = true ∧ jmp 18 55 = 73 ∧ dk cX8_seeByte 21 = some (.iload_n 2) ∧ dk cX8_seeByte 22 = some (.aload_n 0) ∧ dk cX8_seeByte 23 = some (.getfield 9)) ∧ (dk cX8_seeByte 26 = some (.iload_n 1) ∧ dk cX8_seeByte 27 = some (.iaload) ∧ dk cX8_seeByte 28 = some (.if_icmp .eq 13) ∧ jok 28 13 = true ∧ jmp 28 13 = 41 ∧ dk cX8_seeByte 31 = some (.iload_n 2) ∧ dk cX8_seeByte 32 = some (.aload_n 0) ∧ dk cX8_seeByte 33 = some (.getfield 15) ∧ fres 8 15 = some (8, 5, 0, true) ∧ dk cX8_seeByte 36 = some (.iload_n 1)) ∧ (dk cX8_seeByte 37 = some (.iaload) ∧ dk cX8_seeByte 38 = some (.if_icmp .ne 4) ∧ jok 38 4 = true ∧ jmp 38 4 = 42 ∧ dk cX8_seeByte 41 = some (.return_) ∧ dk cX8_seeByte 42 = some (.aload_n 0) ∧ dk cX8_seeByte 43 = some (.getfield 15) ∧ dk cX8_seeByte 46 = some (.iload_n 1) ∧ dk cX8_seeByte 47 = some (.iaload) ∧ dk cX8_seeByte 48 = some (.bipush (-9))) ∧ (dk cX8_seeByte 50 = some (.if_icmp .ne 13) ∧ jok 50 13 = true ∧ jmp 50 13 = 63 ∧ dk cX8_seeByte 53 = some (.aload_n 0) ∧ dk cX8_seeByte 54 = some (.getfield 15) ∧ dk cX8_seeByte 57 = some (.iload_n 1) ∧ dk cX8_seeByte 58 = some (.iload_n 2) ∧ dk cX8_seeByte 59 = some (.iastore) ∧ dk cX8_seeByte 60 = some (.goto 13) ∧ jok 60 13 = true) ∧ (jmp 60 13 = 73 ∧ dk cX8_seeByte 63 = some (.aload_n 0) ∧ dk cX8_seeByte 64 = some (.dup) ∧ dk cX8_seeByte 65 = some (.getfield 58) ∧ fres 8 58 = some (8, 7, 1, false) ∧ dk cX8_seeByte 68 = some (.iconst 1) ∧ dk cX8_seeByte 69 = some (.iadd) ∧ dk cX8_seeByte 70 = some (.putfield 58) ∧ isBo (tyN 8 7) = false ∧ dk cX8_seeByte 73 = some (.return_)) := ⟨by decide +kernel, by decide +kernel, by decide +kernel, by decide +kernel, by decide +kernel, by decide +kernel⟩
set_option maxRecDepth 100000 in
theorem D_X8_byteAt : (dk cX8_byteAt 0 = some (.iload_n 1) ∧ dk cX8_byteAt 1 = some (.iconst 1) ∧ dk cX8_byteAt 2 = some (.if_icmp .ne 23) ∧ jok 2 23 = true ∧ jmp 2 23 = 25 ∧ dk cX8_byteAt 5 = some (.aload_n 0) ∧ dk cX8_byteAt 6 = some (.getfield 15) ∧ fres 8 15 = some (8, 5, 0, true) ∧ dk cX8_byteAt 9 = some (.iload_n 2) ∧ dk cX8_byteAt 10 = some (.iaload)) ∧ (dk cX8_byteAt 11 = some (.bipush (-9)) ∧ dk cX8_byteAt 13 = some (.if_icmp .eq 12) ∧ jok 13 12 = true ∧ jmp 13 12 = 25 ∧ dk cX8_byteAt 16 = some (.aload_n 0) ∧ dk cX8_byteAt 17 = some (.getfield 15) ∧ dk cX8_byteAt 20 = some (.iload_n 2) ∧ dk cX8_byteAt 21 = some (.iaload) ∧ dk cX8_byteAt 22 = some (.goto 9) ∧ jok 22 9 = true) ∧ (jmp 22 9 = 31 ∧ dk cX8_byteAt 25 = some (.aload_n 0) ∧ dk cX8_byteAt 26 = some (.getfield 9) ∧ fres 8 9 = some (8, 4, 0, true) ∧ dk cX8_byteAt 29 = some (.iload_n 2) ∧ dk cX8_byteAt 30 = some (.iaload) ∧ dk cX8_byteAt 31 = some (.ireturn)) := ⟨by decide +kernel, by decide +kernel, by decide +kernel⟩
set_option maxRecDepth 100000 in
theorem D_X8_joined : (dk cX8_joined 0 = some (.iconst 0) ∧ dk cX8_joined 1 = some (.istore_n 1) ∧ dk cX8_joined 2 = some (.iload_n 1) ∧ dk cX8_joined 3 = some (.bipush 79) ∧ dk cX8_joined 5 = some (.if_icmp .ge 20) ∧ jok 5 20 = true ∧ jmp 5 20 = 25 ∧ dk cX8_joined 8 = some (.aload_n 0) ∧ dk cX8_joined 9 = some (.getfield 9) ∧ fres 8 9 = some (8, 4, 0, true)) ∧ (dk cX8_joined 12 = some (.iload_n 1) ∧ dk cX8_joined 13 = some (.iaload) ∧ dk cX8_joined 14 = some (.bipush (-9)) ∧ dk cX8_joined 16 = some (.if_icmp .eq 9) ∧ jok 16 9 = true ∧ jmp 16 9 = 25 ∧ dk cX8_joined 19 = some (.iinc 1 1) ∧ dk cX8_joined 22 = some (.goto (-20)) ∧ jok 22 (-20) = true ∧ jmp 22 (-20) = 2) ∧ (dk cX8_joined 25 = some (.iload_n 1) ∧ dk cX8_joined 26 = some (.ireturn)) := ⟨by decide +kernel, by decide +kernel, by decide +kernel⟩
set_option maxRecDepth 100000 in
theorem D_X8_length : (dk cX8_length 0 = some (.aload_n 0) ∧ dk cX8_length 1 = some (.getfield 25) ∧ fres 8 25 = some (8, 1, 1, true) ∧ dk cX8_length 4 = some (.iconst 2) ∧ dk cX8_length 5 = some (.if_icmp .ne 16) ∧ jok 5 16 = true ∧ jmp 5 16 = 21 ∧ dk cX8_length 8 = some (.aload_n 0) ∧ dk cX8_length 9 = some (.getfield 49) ∧ fres 8 49 = some (8, 6, 1, false)) ∧ (dk cX8_length 12 = some (.iconst 4) ∧ dk cX8_length 13 = some (.isub) ∧ dk cX8_length 14 = some (.iconst 0) ∧ dk cX8_length 15 = some (.invokestatic 52) ∧ cres 8 52 = some 252 ∧ pM 252 = 2 ∧ sM 252 = true ∧ dk cX8_length 18 = some (.goto 7) ∧ jok 18 7 = true ∧ jmp 18 7 = 25) ∧ (dk cX8_length 21 = some (.aload_n 0) ∧ dk cX8_length 22 = some (.getfield 49) ∧ dk cX8_length 25 = some (.ireturn)) := ⟨by decide +kernel, by decide +kernel, by decide +kernel⟩
set_option maxRecDepth 100000 in
theorem D_X8_twofold : (dk cX8_twofold 0 = some (.iconst 0) ∧ dk cX8_twofold 1 = some (.istore_n 1) ∧ dk cX8_twofold 2 = some (.iconst 0) ∧ dk cX8_twofold 3 = some (.istore_n 2) ∧ dk cX8_twofold 4 = some (.iload_n 2) ∧ dk cX8_twofold 5 = some (.bipush 79) ∧ dk cX8_twofold 7 = some (.if_icmp .ge 23) ∧ jok 7 23 = true ∧ jmp 7 23 = 30 ∧ dk cX8_twofold 10 = some (.aload_n 0)) ∧ (dk cX8_twofold 11 = some (.getfield 15) ∧ fres 8 15 = some (8, 5, 0, true) ∧ dk cX8_twofold 14 = some (.iload_n 2) ∧ dk cX8_twofold 15 = some (.iaload) ∧ dk cX8_twofold 16 = some (.bipush (-9)) ∧ dk cX8_twofold 18 = some (.if_icmp .eq 6) ∧ jok 18 6 = true ∧ jmp 18 6 = 24 ∧ dk cX8_twofold 21 = some (.iinc 1 1) ∧ dk cX8_twofold 24 = some (.iinc 2 1)) ∧ (dk cX8_twofold 27 = some (.goto (-23)) ∧ jok 27 (-23) = true ∧ jmp 27 (-23) = 4 ∧ dk cX8_twofold 30 = some (.iload_n 1) ∧ dk cX8_twofold 31 = some (.ireturn)) := ⟨by decide +kernel, by decide +kernel, by decide +kernel⟩
set_option maxRecDepth 100000 in
theorem D_X9_init : (dk cX9_init 0 = some (.aload_n 0) ∧ dk cX9_init 1 = some (.invokespecial 3) ∧ dk cX9_init 4 = some (.aload_n 0) ∧ dk cX9_init 5 = some (.bipush 64) ∧ dk cX9_init 7 = some (.newarray .int) ∧ dk cX9_init 9 = some (.putfield 9) ∧ fres 9 9 = some (9, 0, 0, true) ∧ dk cX9_init 12 = some (.aload_n 0) ∧ dk cX9_init 13 = some (.bipush 16) ∧ dk cX9_init 15 = some (.newarray .int)) ∧ (dk cX9_init 17 = some (.putfield 15) ∧ fres 9 15 = some (9, 1, 0, true) ∧ dk cX9_init 20 = some (.aload_n 0) ∧ dk cX9_init 21 = some (.bipush 16) ∧ dk cX9_init 23 = some (.newarray .int) ∧ dk cX9_init 25 = some (.putfield 18) ∧ fres 9 18 = some (9, 2, 0, true) ∧ dk cX9_init 28 = some (.aload_n 0) ∧ dk cX9_init 29 = some (.bipush 16) ∧ dk cX9_init 31 = some (.newarray .int)) ∧ (dk cX9_init 33 = some (.putfield 21) ∧ fres 9 21 = some (9, 3, 0, true) ∧ dk cX9_init 36 = some (.aload_n 0) ∧ dk cX9_init 37 = some (.iconst 1) ∧ dk cX9_init 38 = some (.putfield 24) ∧ fres 9 24 = some (9, 4, 1, false) ∧ isBo (tyN 9 4) = false ∧ dk cX9_init 41 = some (.return_)) := ⟨by decide +kernel, by decide +kernel, by decide +kernel⟩
set_option maxRecDepth 100000 in
theorem D_X9_isBarred : (dk cX9_isBarred 0 = some (.aload_n 0) ∧ dk cX9_isBarred 1 = some (.getfield 28) ∧ fres 9 28 = some (9, 5, 1, false) ∧ dk cX9_isBarred 4 = some (.iload_n 1) ∧ dk cX9_isBarred 5 = some (.iconst 4) ∧ dk cX9_isBarred 6 = some (.imul) ∧ dk cX9_isBarred 7 = some (.iload_n 2) ∧ dk cX9_isBarred 8 = some (.iadd) ∧ dk cX9_isBarred 9 = some (.ishr) ∧ dk cX9_isBarred 10 = some (.iconst 1)) ∧ (dk cX9_isBarred 11 = some (.iand) ∧ dk cX9_isBarred 12 = some (.ifCond .eq 7) ∧ jok 12 7 = true ∧ jmp 12 7 = 19 ∧ dk cX9_isBarred 15 = some (.iconst 1) ∧ dk cX9_isBarred 16 = some (.goto 4) ∧ jok 16 4 = true ∧ jmp 16 4 = 20 ∧ dk cX9_isBarred 19 = some (.iconst 0) ∧ dk cX9_isBarred 20 = some (.ireturn)) := ⟨by decide +kernel, by decide +kernel⟩
set_option maxRecDepth 100000 in
theorem D_X9_turnBar : (dk cX9_turnBar 0 = some (.aload_n 0) ∧ dk cX9_turnBar 1 = some (.dup) ∧ dk cX9_turnBar 2 = some (.getfield 28) ∧ fres 9 28 = some (9, 5, 1, false) ∧ dk cX9_turnBar 5 = some (.iconst 1) ∧ dk cX9_turnBar 6 = some (.iload_n 1) ∧ dk cX9_turnBar 7 = some (.iconst 4) ∧ dk cX9_turnBar 8 = some (.imul) ∧ dk cX9_turnBar 9 = some (.iload_n 2) ∧ dk cX9_turnBar 10 = some (.iadd)) ∧ (dk cX9_turnBar 11 = some (.ishl) ∧ dk cX9_turnBar 12 = some (.ixor) ∧ dk cX9_turnBar 13 = some (.putfield 28) ∧ isBo (tyN 9 5) = false ∧ dk cX9_turnBar 16 = some (.return_)) := ⟨by decide +kernel, by decide +kernel⟩
set_option maxRecDepth 100000 in
theorem D_X9_leadsTo : dk cX9_leadsTo 0 = some (.aload_n 0) ∧ dk cX9_leadsTo 1 = some (.getfield 9) ∧ fres 9 9 = some (9, 0, 0, true) ∧ dk cX9_leadsTo 4 = some (.iload_n 1) ∧ dk cX9_leadsTo 5 = some (.iconst 4) ∧ dk cX9_leadsTo 6 = some (.imul) ∧ dk cX9_leadsTo 7 = some (.iload_n 2) ∧ dk cX9_leadsTo 8 = some (.iadd) ∧ dk cX9_leadsTo 9 = some (.iaload) ∧ dk cX9_leadsTo 10 = some (.ireturn) := by decide +kernel
set_option maxRecDepth 100000 in
theorem D_X9_growBy : (dk cX9_growBy 0 = some (.aload_n 0) ∧ dk cX9_growBy 1 = some (.aload_n 1) ∧ dk cX9_growBy 2 = some (.iload_n 2) ∧ dk cX9_growBy 3 = some (.iload_n 3) ∧ dk cX9_growBy 4 = some (.invokevirtual 31) ∧ cres 9 31 = some 71 ∧ pM 71 = 3 ∧ sM 71 = false ∧ oM 71 = 9 ∧ dk cX9_growBy 7 = some (.ifCond .eq 6)) ∧ (jok 7 6 = true ∧ jmp 7 6 = 13 ∧ dk cX9_growBy 10 = some (.bipush (-3)) ∧ dk cX9_growBy 12 = some (.ireturn) ∧ dk cX9_growBy 13 = some (.iconst 0) ∧ dk cX9_growBy 14 = some (.istore 4) ∧ dk cX9_growBy 16 = some (.iconst 0) ∧ dk cX9_growBy 17 = some (.istore 5) ∧ dk cX9_growBy 19 = some (.iload 4) ∧ dk cX9_growBy 21 = some (.iload_n 3)) ∧ (dk cX9_growBy 22 = some (.if_icmp .ge 44) ∧ jok 22 44 = true ∧ jmp 22 44 = 66 ∧ dk cX9_growBy 25 = some (.aload_n 0) ∧ dk cX9_growBy 26 = some (.iload 5) ∧ dk cX9_growBy 28 = some (.aload_n 1) ∧ dk cX9_growBy 29 = some (.getfield 35) ∧ fres 9 35 = some (6, 0, 0, true) ∧ dk cX9_growBy 32 = some (.iload_n 2) ∧ dk cX9_growBy 33 = some (.iload 4)) ∧ (dk cX9_growBy 35 = some (.iadd) ∧ dk cX9_growBy 36 = some (.iaload) ∧ dk cX9_growBy 37 = some (.invokevirtual 40) ∧ cres 9 40 = some 69 ∧ pM 69 = 2 ∧ sM 69 = false ∧ oM 69 = 9 ∧ dk cX9_growBy 40 = some (.ifCond .eq 26) ∧ jok 40 26 = true ∧ jmp 40 26 = 66) ∧ (dk cX9_growBy 43 = some (.aload_n 0) ∧ dk cX9_growBy 44 = some (.iload 5) ∧ dk cX9_growBy 46 = some (.aload_n 1) ∧ dk cX9_growBy 47 = some (.getfield 35) ∧ dk cX9_growBy 50 = some (.iload_n 2) ∧ dk cX9_growBy 51 = some (.iload 4) ∧ dk cX9_growBy 53 = some (.iadd) ∧ dk cX9_growBy 54 = some (.iaload) ∧ dk cX9_growBy 55 = some (.invokevirtual 40) ∧ dk cX9_growBy 58 = some (.istore 5)) ∧ (dk cX9_growBy 60 = some (.iinc 4 1) ∧ dk cX9_growBy 63 = some (.goto (-44)) ∧ jok 63 (-44) = true ∧ jmp 63 (-44) = 19 ∧ dk cX9_growBy 66 = some (.aload_n 0) ∧ dk cX9_growBy 67 = some (.getfield 24) ∧ fres 9 24 = some (9, 4, 1, false) ∧ dk cX9_growBy 70 = some (.iload_n 3) ∧ dk cX9_growBy 71 = some (.iadd) ∧ dk cX9_growBy 72 = some (.iload 4)) ∧ (dk cX9_growBy 74 = some (.isub) ∧ dk cX9_growBy 75 = some (.bipush 16) ∧ dk cX9_growBy 77 = some (.if_icmp .le 6) ∧ jok 77 6 = true ∧ jmp 77 6 = 83 ∧ dk cX9_growBy 80 = some (.bipush (-4)) ∧ dk cX9_growBy 82 = some (.ireturn) ∧ dk cX9_growBy 83 = some (.iload 4) ∧ dk cX9_growBy 85 = some (.istore 6) ∧ dk cX9_growBy 87 = some (.iload 6)) ∧ (dk cX9_growBy 89 = some (.iload_n 3) ∧ dk cX9_growBy 90 = some (.if_icmp .ge 26) ∧ jok 90 26 = true ∧ jmp 90 26 = 116 ∧ dk cX9_growBy 93 = some (.aload_n 0) ∧ dk cX9_growBy 94 = some (.iload 5) ∧ dk cX9_growBy 96 = some (.aload_n 1) ∧ dk cX9_growBy 97 = some (.getfield 35) ∧ dk cX9_growBy 100 = some (.iload_n 2) ∧ dk cX9_growBy 101 = some (.iload 6)) ∧ (dk cX9_growBy 103 = some (.iadd) ∧ dk cX9_growBy 104 = some (.iaload) ∧ dk cX9_growBy 105 = some (.invokevirtual 44) ∧ cres 9 44 = some 72 ∧ pM 72 = 2 ∧ sM 72 = false ∧ oM 72 = 9 ∧ dk cX9_growBy 108 = some (.istore 5) ∧ dk cX9_growBy 110 = some (.iinc 6 1) ∧ dk cX9_growBy 113 = some (.goto (-26))) ∧ (jok 113 (-26) = true ∧ jmp 113 (-26) = 87 ∧ dk cX9_growBy 116 = some (.iload 5) ∧ dk cX9_growBy 118 = some (.ireturn)) := ⟨by decide +kernel, by decide +kernel, by decide +kernel, by decide +kernel, by decide +kernel, by decide +kernel, by decide +kernel, by decide +kernel, by decide +kernel, by decide +kernel⟩
set_option maxRecDepth 100000 in
theorem N_X9_growBy : ((yM 71).name = "<init>") = False ∧ ((yM 69).name = "<init>") = False ∧ ((yM 72).name = "<init>") = False := by simp only [eq_iff_iff, iff_false, iff_true]; decide +kernel
set_option maxRecDepth 100000 in
theorem D_X9_hasBarred : (dk cX9_hasBarred 0 = some (.iconst 1) ∧ dk cX9_hasBarred 1 = some (.istore 4) ∧ dk cX9_hasBarred 3 = some (.iload 4) ∧ dk cX9_hasBarred 5 = some (.iload_n 3) ∧ dk cX9_hasBarred 6 = some (.if_icmp .ge 38) ∧ jok 6 38 = true ∧ jmp 6 38 = 44 ∧ dk cX9_hasBarred 9 = some (.aload_n 0) ∧ dk cX9_hasBarred 10 = some (.aload_n 1) ∧ dk cX9_hasBarred 11 = some (.getfield 35)) ∧ (fres 9 35 = some (6, 0, 0, true) ∧ dk cX9_hasBarred 14 = some (.iload_n 2) ∧ dk cX9_hasBarred 15 = some (.iload 4) ∧ dk cX9_hasBarred 17 = some (.iadd) ∧ dk cX9_hasBarred 18 = some (.iconst 1) ∧ dk cX9_hasBarred 19 = some (.isub) ∧ dk cX9_hasBarred 20 = some (.iaload) ∧ dk cX9_hasBarred 21 = some (.aload_n 1) ∧ dk cX9_hasBarred 22 = some (.getfield 35) ∧ dk cX9_hasBarred 25 = some (.iload_n 2)) ∧ (dk cX9_hasBarred 26 = some (.iload 4) ∧ dk cX9_hasBarred 28 = some (.iadd) ∧ dk cX9_hasBarred 29 = some (.iaload) ∧ dk cX9_hasBarred 30 = some (.invokevirtual 47) ∧ cres 9 47 = some 67 ∧ pM 67 = 2 ∧ sM 67 = false ∧ oM 67 = 9 ∧ dk cX9_hasBarred 33 = some (.ifCond .eq 5) ∧ jok 33 5 = true) ∧ (jmp 33 5 = 38 ∧ dk cX9_hasBarred 36 = some (.iconst 1) ∧ dk cX9_hasBarred 37 = some (.ireturn) ∧ dk cX9_hasBarred 38 = some (.iinc 4 1) ∧ dk cX9_hasBarred 41 = some (.goto (-38)) ∧ jok 41 (-38) = true ∧ jmp 41 (-38) = 3 ∧ dk cX9_hasBarred 44 = some (.iconst 0) ∧ dk cX9_hasBarred 45 = some (.ireturn)) := ⟨by decide +kernel, by decide +kernel, by decide +kernel, by decide +kernel⟩
set_option maxRecDepth 100000 in
theorem N_X9_hasBarred : ((yM 67).name = "<init>") = False := by simp only [eq_iff_iff, iff_false, iff_true]; decide +kernel
set_option maxRecDepth 100000 in
theorem D_X9_newState : (dk cX9_newState 0 = some (.aload_n 0) ∧ dk cX9_newState 1 = some (.getfield 9) ∧ fres 9 9 = some (9, 0, 0, true) ∧ dk cX9_newState 4 = some (.iload_n 1) ∧ dk cX9_newState 5 = some (.iconst 4) ∧ dk cX9_newState 6 = some (.imul) ∧ dk cX9_newState 7 = some (.iload_n 2) ∧ dk cX9_newState 8 = some (.iadd) ∧ dk cX9_newState 9 = some (.aload_n 0) ∧ dk cX9_newState 10 = some (.getfield 24)) ∧ (fres 9 24 = some (9, 4, 1, false) ∧ dk cX9_newState 13 = some (.iastore) ∧ dk cX9_newState 14 = some (.aload_n 0) ∧ dk cX9_newState 15 = some (.getfield 15) ∧ fres 9 15 = some (9, 1, 0, true) ∧ dk cX9_newState 18 = some (.aload_n 0) ∧ dk cX9_newState 19 = some (.getfield 24) ∧ dk cX9_newState 22 = some (.iload_n 2) ∧ dk cX9_newState 23 = some (.iastore) ∧ dk cX9_newState 24 = some (.aload_n 0)) ∧ (dk cX9_newState 25 = some (.dup) ∧ dk cX9_newState 26 = some (.getfield 24) ∧ dk cX9_newState 29 = some (.iconst 1) ∧ dk cX9_newState 30 = some (.iadd) ∧ dk cX9_newState 31 = some (.putfield 24) ∧ isBo (tyN 9 4) = false ∧ dk cX9_newState 34 = some (.aload_n 0) ∧ dk cX9_newState 35 = some (.getfield 24) ∧ dk cX9_newState 38 = some (.iconst 1) ∧ dk cX9_newState 39 = some (.isub)) ∧ (dk cX9_newState 40 = some (.ireturn)) := ⟨by decide +kernel, by decide +kernel, by decide +kernel, by decide +kernel⟩
set_option maxRecDepth 100000 in
theorem D_X9_canGo : (dk cX9_canGo 0 = some (.aload_n 0) ∧ dk cX9_canGo 1 = some (.iload_n 1) ∧ dk cX9_canGo 2 = some (.iload_n 2) ∧ dk cX9_canGo 3 = some (.invokevirtual 40) ∧ cres 9 40 = some 69 ∧ pM 69 = 2 ∧ sM 69 = false ∧ oM 69 = 9 ∧ dk cX9_canGo 6 = some (.ifCond .eq 25) ∧ jok 6 25 = true) ∧ (jmp 6 25 = 31 ∧ dk cX9_canGo 9 = some (.iload_n 1) ∧ dk cX9_canGo 10 = some (.ifCond .eq 17) ∧ jok 10 17 = true ∧ jmp 10 17 = 27 ∧ dk cX9_canGo 13 = some (.aload_n 0) ∧ dk cX9_canGo 14 = some (.aload_n 0) ∧ dk cX9_canGo 15 = some (.getfield 15) ∧ fres 9 15 = some (9, 1, 0, true) ∧ dk cX9_canGo 18 = some (.iload_n 1)) ∧ (dk cX9_canGo 19 = some (.iaload) ∧ dk cX9_canGo 20 = some (.iload_n 2) ∧ dk cX9_canGo 21 = some (.invokevirtual 47) ∧ cres 9 47 = some 67 ∧ pM 67 = 2 ∧ sM 67 = false ∧ oM 67 = 9 ∧ dk cX9_canGo 24 = some (.ifCond .ne 7) ∧ jok 24 7 = true ∧ jmp 24 7 = 31) ∧ (dk cX9_canGo 27 = some (.iconst 1) ∧ dk cX9_canGo 28 = some (.goto 4) ∧ jok 28 4 = true ∧ jmp 28 4 = 32 ∧ dk cX9_canGo 31 = some (.iconst 0) ∧ dk cX9_canGo 32 = some (.ireturn)) := ⟨by decide +kernel, by decide +kernel, by decide +kernel, by decide +kernel⟩
set_option maxRecDepth 100000 in
theorem N_X9_canGo : ((yM 69).name = "<init>") = False ∧ ((yM 67).name = "<init>") = False := by simp only [eq_iff_iff, iff_false, iff_true]; decide +kernel
set_option maxRecDepth 100000 in
theorem D_X9_goneAlong : (dk cX9_goneAlong 0 = some (.iconst 0) ∧ dk cX9_goneAlong 1 = some (.istore 4) ∧ dk cX9_goneAlong 3 = some (.iconst 0) ∧ dk cX9_goneAlong 4 = some (.istore 5) ∧ dk cX9_goneAlong 6 = some (.iload 5) ∧ dk cX9_goneAlong 8 = some (.iload_n 3) ∧ dk cX9_goneAlong 9 = some (.if_icmp .ge 44) ∧ jok 9 44 = true ∧ jmp 9 44 = 53 ∧ dk cX9_goneAlong 12 = some (.aload_n 1)) ∧ (dk cX9_goneAlong 13 = some (.getfield 35) ∧ fres 9 35 = some (6, 0, 0, true) ∧ dk cX9_goneAlong 16 = some (.iload_n 2) ∧ dk cX9_goneAlong 17 = some (.iload 5) ∧ dk cX9_goneAlong 19 = some (.iadd) ∧ dk cX9_goneAlong 20 = some (.iaload) ∧ dk cX9_goneAlong 21 = some (.istore 6) ∧ dk cX9_goneAlong 23 = some (.aload_n 0) ∧ dk cX9_goneAlong 24 = some (.iload 4) ∧ dk cX9_goneAlong 26 = some (.iload 6)) ∧ (dk cX9_goneAlong 28 = some (.invokevirtual 51) ∧ cres 9 51 = some 73 ∧ pM 73 = 2 ∧ sM 73 = false ∧ oM 73 = 9 ∧ dk cX9_goneAlong 31 = some (.ifCond .ne 6) ∧ jok 31 6 = true ∧ jmp 31 6 = 37 ∧ dk cX9_goneAlong 34 = some (.iload 5) ∧ dk cX9_goneAlong 36 = some (.ireturn)) ∧ (dk cX9_goneAlong 37 = some (.aload_n 0) ∧ dk cX9_goneAlong 38 = some (.iload 4) ∧ dk cX9_goneAlong 40 = some (.iload 6) ∧ dk cX9_goneAlong 42 = some (.invokevirtual 40) ∧ cres 9 40 = some 69 ∧ pM 69 = 2 ∧ sM 69 = false ∧ oM 69 = 9 ∧ dk cX9_goneAlong 45 = some (.istore 4) ∧ dk cX9_goneAlong 47 = some (.iinc 5 1)) ∧ (dk cX9_goneAlong 50 = some (.goto (-44)) ∧ jok 50 (-44) = true ∧ jmp 50 (-44) = 6 ∧ dk cX9_goneAlong 53 = some (.iload_n 3) ∧ dk cX9_goneAlong 54 = some (.ireturn)) := ⟨by decide +kernel, by decide +kernel, by decide +kernel, by decide +kernel, by decide +kernel⟩
set_option maxRecDepth 100000 in
theorem N_X9_goneAlong : ((yM 73).name = "<init>") = False ∧ ((yM 69).name = "<init>") = False := by simp only [eq_iff_iff, iff_false, iff_true]; decide +kernel
set_option maxRecDepth 100000 in
theorem D_X9_rowsOf : (dk cX9_rowsOf 0 = some (.aload_n 0) ∧ dk cX9_rowsOf 1 = some (.getfield 21) ∧ fres 9 21 = some (9, 3, 0, true) ∧ dk cX9_rowsOf 4 = some (.bipush (-9)) ∧ dk cX9_rowsOf 6 = some (.invokestatic 54) ∧ cres 9 54 = some 254 ∧ pM 254 = 2 ∧ sM 254 = true ∧ dk cX9_rowsOf 9 = some (.aload_n 0) ∧ dk cX9_rowsOf 10 = some (.getfield 21)) ∧ (dk cX9_rowsOf 13 = some (.iconst 0) ∧ dk cX9_rowsOf 14 = some (.iconst 0) ∧ dk cX9_rowsOf 15 = some (.iastore) ∧ dk cX9_rowsOf 16 = some (.iconst 0) ∧ dk cX9_rowsOf 17 = some (.istore_n 2) ∧ dk cX9_rowsOf 18 = some (.iconst 0) ∧ dk cX9_rowsOf 19 = some (.istore_n 3) ∧ dk cX9_rowsOf 20 = some (.iload_n 3) ∧ dk cX9_rowsOf 21 = some (.aload_n 0) ∧ dk cX9_rowsOf 22 = some (.getfield 24)) ∧ (fres 9 24 = some (9, 4, 1, false) ∧ dk cX9_rowsOf 25 = some (.if_icmp .ge 81) ∧ jok 25 81 = true ∧ jmp 25 81 = 106 ∧ dk cX9_rowsOf 28 = some (.aload_n 0) ∧ dk cX9_rowsOf 29 = some (.getfield 21) ∧ dk cX9_rowsOf 32 = some (.iload_n 3) ∧ dk cX9_rowsOf 33 = some (.iaload) ∧ dk cX9_rowsOf 34 = some (.bipush (-9)) ∧ dk cX9_rowsOf 36 = some (.if_icmp .ne 6)) ∧ (jok 36 6 = true ∧ jmp 36 6 = 42 ∧ dk cX9_rowsOf 39 = some (.goto 61) ∧ jok 39 61 = true ∧ jmp 39 61 = 100 ∧ dk cX9_rowsOf 42 = some (.aload_n 0) ∧ dk cX9_rowsOf 43 = some (.getfield 21) ∧ dk cX9_rowsOf 46 = some (.iload_n 3) ∧ dk cX9_rowsOf 47 = some (.iaload) ∧ dk cX9_rowsOf 48 = some (.iload_n 1)) ∧ (dk cX9_rowsOf 49 = some (.if_icmp .ne 6) ∧ jok 49 6 = true ∧ jmp 49 6 = 55 ∧ dk cX9_rowsOf 52 = some (.iinc 2 1) ∧ dk cX9_rowsOf 55 = some (.iconst 0) ∧ dk cX9_rowsOf 56 = some (.istore 4) ∧ dk cX9_rowsOf 58 = some (.iload 4) ∧ dk cX9_rowsOf 60 = some (.iconst 4) ∧ dk cX9_rowsOf 61 = some (.if_icmp .ge 39) ∧ jok 61 39 = true) ∧ (jmp 61 39 = 100 ∧ dk cX9_rowsOf 64 = some (.aload_n 0) ∧ dk cX9_rowsOf 65 = some (.iload_n 3) ∧ dk cX9_rowsOf 66 = some (.iload 4) ∧ dk cX9_rowsOf 68 = some (.invokevirtual 51) ∧ cres 9 51 = some 73 ∧ pM 73 = 2 ∧ sM 73 = false ∧ oM 73 = 9 ∧ dk cX9_rowsOf 71 = some (.ifCond .eq 23)) ∧ (jok 71 23 = true ∧ jmp 71 23 = 94 ∧ dk cX9_rowsOf 74 = some (.aload_n 0) ∧ dk cX9_rowsOf 75 = some (.getfield 21) ∧ dk cX9_rowsOf 78 = some (.aload_n 0) ∧ dk cX9_rowsOf 79 = some (.iload_n 3) ∧ dk cX9_rowsOf 80 = some (.iload 4) ∧ dk cX9_rowsOf 82 = some (.invokevirtual 40) ∧ cres 9 40 = some 69 ∧ pM 69 = 2) ∧ (sM 69 = false ∧ oM 69 = 9 ∧ dk cX9_rowsOf 85 = some (.aload_n 0) ∧ dk cX9_rowsOf 86 = some (.getfield 21) ∧ dk cX9_rowsOf 89 = some (.iload_n 3) ∧ dk cX9_rowsOf 90 = some (.iaload) ∧ dk cX9_rowsOf 91 = some (.iconst 1) ∧ dk cX9_rowsOf 92 = some (.iadd) ∧ dk cX9_rowsOf 93 = some (.iastore) ∧ dk cX9_rowsOf 94 = some (.iinc 4 1)) ∧ (dk cX9_rowsOf 97 = some (.goto (-39)) ∧ jok 97 (-39) = true ∧ jmp 97 (-39) = 58 ∧ dk cX9_rowsOf 100 = some (.iinc 3 1) ∧ dk cX9_rowsOf 103 = some (.goto (-83)) ∧ jok 103 (-83) = true ∧ jmp 103 (-83) = 20 ∧ dk cX9_rowsOf 106 = some (.iload_n 2) ∧ dk cX9_rowsOf 107 = some (.ireturn)) := ⟨by decide +kernel, by decide +kernel, by decide +kernel, by decide +kernel, by decide +kernel, by decide +kernel, by decide +kernel, by decide +kernel, by decide +kernel⟩
set_option maxRecDepth 100000 in
theorem N_X9_rowsOf : ((yM 73).name = "<init>") = False ∧ ((yM 69).name = "<init>") = False := by simp only [eq_iff_iff, iff_false, iff_true]; decide +kernel
set_option maxRecDepth 100000 in
theorem D_X10_init : (dk cX10_init 0 = some (.aload_n 0) ∧ dk cX10_init 1 = some (.invokespecial 3) ∧ dk cX10_init 4 = some (.aload_n 0) ∧ dk cX10_init 5 = some (.bipush 8) ∧ dk cX10_init 7 = some (.newarray .int) ∧ dk cX10_init 9 = some (.putfield 9) ∧ fres 10 9 = some (10, 0, 0, true) ∧ dk cX10_init 12 = some (.aload_n 0) ∧ dk cX10_init 13 = some (.bipush 8) ∧ dk cX10_init 15 = some (.newarray .int)) ∧ (dk cX10_init 17 = some (.putfield 15) ∧ fres 10 15 = some (10, 1, 0, true) ∧ dk cX10_init 20 = some (.aload_n 0) ∧ dk cX10_init 21 = some (.bipush 8) ∧ dk cX10_init 23 = some (.newarray .int) ∧ dk cX10_init 25 = some (.putfield 18) ∧ fres 10 18 = some (10, 2, 0, true) ∧ dk cX10_init 28 = some (.return_)) := ⟨by decide +kernel, by decide +kernel⟩
set_option maxRecDepth 100000 in
theorem D_X10_keep : (dk cX10_keep 0 = some (.aload_n 0) ∧ dk cX10_keep 1 = some (.getfield 21) ∧ fres 10 21 = some (10, 3, 1, false) ∧ dk cX10_keep 4 = some (.bipush 8) ∧ dk cX10_keep 6 = some (.if_icmp .lt 6) ∧ jok 6 6 = true ∧ jmp 6 6 = 12 ∧ dk cX10_keep 9 = some (.bipush (-4)) ∧ dk cX10_keep 11 = some (.ireturn) ∧ dk cX10_keep 12 = some (.aload_n 0)) ∧ (dk cX10_keep 13 = some (.getfield 9) ∧ fres 10 9 = some (10, 0, 0, true) ∧ dk cX10_keep 16 = some (.aload_n 0) ∧ dk cX10_keep 17 = some (.getfield 21) ∧ dk cX10_keep 20 = some (.iload_n 1) ∧ dk cX10_keep 21 = some (.iastore) ∧ dk cX10_keep 22 = some (.aload_n 0) ∧ dk cX10_keep 23 = some (.getfield 15) ∧ fres 10 15 = some (10, 1, 0, true) ∧ dk cX10_keep 26 = some (.aload_n 0)) ∧ (dk cX10_keep 27 = some (.getfield 21) ∧ dk cX10_keep 30 = some (.iload_n 2) ∧ dk cX10_keep 31 = some (.iastore) ∧ dk cX10_keep 32 = some (.aload_n 0) ∧ dk cX10_keep 33 = some (.getfield 18) ∧ fres 10 18 = some (10, 2, 0, true) ∧ dk cX10_keep 36 = some (.aload_n 0) ∧ dk cX10_keep 37 = some (.getfield 21) ∧ dk cX10_keep 40 = some (.iload_n 3) ∧ dk cX10_keep 41 = some (.iastore)) ∧ (dk cX10_keep 42 = some (.aload_n 0) ∧ dk cX10_keep 43 = some (.dup) ∧ dk cX10_keep 44 = some (.getfield 21) ∧ dk cX10_keep 47 = some (.iconst 1) ∧ dk cX10_keep 48 = some (.iadd) ∧ dk cX10_keep 49 = some (.putfield 21) ∧ isBo (tyN 10 3) = false ∧ dk cX10_keep 52 = some (.aload_n 0) ∧ dk cX10_keep 53 = some (.getfield 21) ∧ dk cX10_keep 56 = some (.iconst 1)) ∧ (dk cX10_keep 57 = some (.isub) ∧ dk cX10_keep 58 = some (.ireturn)) := ⟨by decide +kernel, by decide +kernel, by decide +kernel, by decide +kernel, by decide +kernel⟩
set_option maxRecDepth 100000 in
theorem D_X10_stoppedIn : (dk cX10_stoppedIn 0 = some (.iconst 0) ∧ dk cX10_stoppedIn 1 = some (.istore_n 2) ∧ dk cX10_stoppedIn 2 = some (.iconst 0) ∧ dk cX10_stoppedIn 3 = some (.istore_n 3) ∧ dk cX10_stoppedIn 4 = some (.iload_n 3) ∧ dk cX10_stoppedIn 5 = some (.aload_n 0) ∧ dk cX10_stoppedIn 6 = some (.getfield 21) ∧ fres 10 21 = some (10, 3, 1, false) ∧ dk cX10_stoppedIn 9 = some (.if_icmp .ge 38) ∧ jok 9 38 = true) ∧ (jmp 9 38 = 47 ∧ dk cX10_stoppedIn 12 = some (.aload_n 1) ∧ dk cX10_stoppedIn 13 = some (.iconst 1) ∧ dk cX10_stoppedIn 14 = some (.aload_n 0) ∧ dk cX10_stoppedIn 15 = some (.getfield 9) ∧ fres 10 9 = some (10, 0, 0, true) ∧ dk cX10_stoppedIn 18 = some (.iload_n 3) ∧ dk cX10_stoppedIn 19 = some (.iaload) ∧ dk cX10_stoppedIn 20 = some (.ishl) ∧ dk cX10_stoppedIn 21 = some (.iconst 1)) ∧ (dk cX10_stoppedIn 22 = some (.aload_n 0) ∧ dk cX10_stoppedIn 23 = some (.getfield 15) ∧ fres 10 15 = some (10, 1, 0, true) ∧ dk cX10_stoppedIn 26 = some (.iload_n 3) ∧ dk cX10_stoppedIn 27 = some (.iaload) ∧ dk cX10_stoppedIn 28 = some (.ishl) ∧ dk cX10_stoppedIn 29 = some (.invokevirtual 25) ∧ cres 10 25 = some 34 ∧ pM 34 = 2 ∧ sM 34 = false) ∧ (oM 34 = 4 ∧ dk cX10_stoppedIn 32 = some (.ifCond .eq 9) ∧ jok 32 9 = true ∧ jmp 32 9 = 41 ∧ dk cX10_stoppedIn 35 = some (.iload_n 2) ∧ dk cX10_stoppedIn 36 = some (.iconst 1) ∧ dk cX10_stoppedIn 37 = some (.iload_n 3) ∧ dk cX10_stoppedIn 38 = some (.ishl) ∧ dk cX10_stoppedIn 39 = some (.ior) ∧ dk cX10_stoppedIn 40 = some (.istore_n 2)) ∧ (dk cX10_stoppedIn 41 = some (.iinc 3 1) ∧ dk cX10_stoppedIn 44 = some (.goto (-40)) ∧ jok 44 (-40) = true ∧ jmp 44 (-40) = 4 ∧ dk cX10_stoppedIn 47 = some (.iload_n 2) ∧ dk cX10_stoppedIn 48 = some (.ireturn)) := ⟨by decide +kernel, by decide +kernel, by decide +kernel, by decide +kernel, by decide +kernel⟩
set_option maxRecDepth 100000 in
theorem N_X10_stoppedIn : ((yM 34).name = "<init>") = False := by simp only [eq_iff_iff, iff_false, iff_true]; decide +kernel
set_option maxRecDepth 100000 in
theorem D_X10_weightOf : (dk cX10_weightOf 0 = some (.iconst 0) ∧ dk cX10_weightOf 1 = some (.istore_n 2) ∧ dk cX10_weightOf 2 = some (.iconst 0) ∧ dk cX10_weightOf 3 = some (.istore_n 3) ∧ dk cX10_weightOf 4 = some (.iload_n 3) ∧ dk cX10_weightOf 5 = some (.aload_n 0) ∧ dk cX10_weightOf 6 = some (.getfield 21) ∧ fres 10 21 = some (10, 3, 1, false) ∧ dk cX10_weightOf 9 = some (.if_icmp .ge 26) ∧ jok 9 26 = true) ∧ (jmp 9 26 = 35 ∧ dk cX10_weightOf 12 = some (.iload_n 1) ∧ dk cX10_weightOf 13 = some (.iload_n 3) ∧ dk cX10_weightOf 14 = some (.ishr) ∧ dk cX10_weightOf 15 = some (.iconst 1) ∧ dk cX10_weightOf 16 = some (.iand) ∧ dk cX10_weightOf 17 = some (.ifCond .eq 12) ∧ jok 17 12 = true ∧ jmp 17 12 = 29 ∧ dk cX10_weightOf 20 = some (.iload_n 2)) ∧ (dk cX10_weightOf 21 = some (.aload_n 0) ∧ dk cX10_weightOf 22 = some (.getfield 18) ∧ fres 10 18 = some (10, 2, 0, true) ∧ dk cX10_weightOf 25 = some (.iload_n 3) ∧ dk cX10_weightOf 26 = some (.iaload) ∧ dk cX10_weightOf 27 = some (.iadd) ∧ dk cX10_weightOf 28 = some (.istore_n 2) ∧ dk cX10_weightOf 29 = some (.iinc 3 1) ∧ dk cX10_weightOf 32 = some (.goto (-28)) ∧ jok 32 (-28) = true) ∧ (jmp 32 (-28) = 4 ∧ dk cX10_weightOf 35 = some (.iload_n 2) ∧ dk cX10_weightOf 36 = some (.ireturn)) := ⟨by decide +kernel, by decide +kernel, by decide +kernel, by decide +kernel⟩
set_option maxRecDepth 100000 in
theorem D_X11_init : (dk cX11_init 0 = some (.aload_n 0) ∧ dk cX11_init 1 = some (.invokespecial 5) ∧ dk cX11_init 4 = some (.aload_n 0) ∧ dk cX11_init 5 = some (.new 11) ∧ dk cX11_init 8 = some (.dup) ∧ dk cX11_init 9 = some (.invokespecial 13) ∧ cres 11 13 = some 20 ∧ pM 20 = 0 ∧ sM 20 = false ∧ oM 20 = 4) ∧ (dk cX11_init 12 = some (.putfield 14) ∧ fres 11 14 = some (11, 0, 0, true) ∧ dk cX11_init 15 = some (.aload_n 0) ∧ dk cX11_init 16 = some (.new 18) ∧ dk cX11_init 19 = some (.dup) ∧ dk cX11_init 20 = some (.invokespecial 20) ∧ cres 11 20 = some 76 ∧ pM 76 = 0 ∧ sM 76 = false ∧ oM 76 = 10) ∧ (dk cX11_init 23 = some (.putfield 21) ∧ fres 11 21 = some (11, 1, 0, true) ∧ dk cX11_init 26 = some (.aload_n 0) ∧ dk cX11_init 27 = some (.bipush 8) ∧ dk cX11_init 29 = some (.anewarray 25) ∧ dk cX11_init 32 = some (.putfield 27) ∧ fres 11 27 = some (11, 2, 0, true) ∧ dk cX11_init 35 = some (.aload_n 0) ∧ dk cX11_init 36 = some (.bipush 8) ∧ dk cX11_init 38 = some (.anewarray 31)) ∧ (dk cX11_init 41 = some (.putfield 33) ∧ fres 11 33 = some (11, 3, 0, true) ∧ dk cX11_init 44 = some (.aload_n 0) ∧ dk cX11_init 45 = some (.new 37) ∧ dk cX11_init 48 = some (.dup) ∧ dk cX11_init 49 = some (.invokespecial 39) ∧ cres 11 39 = some 3 ∧ pM 3 = 0 ∧ sM 3 = false ∧ oM 3 = 1) ∧ (dk cX11_init 52 = some (.putfield 40) ∧ fres 11 40 = some (11, 4, 0, true) ∧ dk cX11_init 55 = some (.aload_n 0) ∧ dk cX11_init 56 = some (.new 44) ∧ dk cX11_init 59 = some (.dup) ∧ dk cX11_init 60 = some (.invokespecial 46) ∧ cres 11 46 = some 0 ∧ pM 0 = 0 ∧ sM 0 = false ∧ oM 0 = 0) ∧ (dk cX11_init 63 = some (.putfield 47) ∧ fres 11 47 = some (11, 5, 0, true) ∧ dk cX11_init 66 = some (.aload_n 0) ∧ dk cX11_init 67 = some (.new 51) ∧ dk cX11_init 70 = some (.dup) ∧ dk cX11_init 71 = some (.invokespecial 53) ∧ cres 11 53 = some 10 ∧ pM 10 = 0 ∧ sM 10 = false ∧ oM 10 = 2) ∧ (dk cX11_init 74 = some (.putfield 54) ∧ fres 11 54 = some (11, 6, 0, true) ∧ dk cX11_init 77 = some (.aload_n 0) ∧ dk cX11_init 78 = some (.new 58) ∧ dk cX11_init 81 = some (.dup) ∧ dk cX11_init 82 = some (.invokespecial 60) ∧ cres 11 60 = some 50 ∧ pM 50 = 0 ∧ sM 50 = false ∧ oM 50 = 7) ∧ (dk cX11_init 85 = some (.putfield 61) ∧ fres 11 61 = some (11, 7, 0, true) ∧ dk cX11_init 88 = some (.aload_n 0) ∧ dk cX11_init 89 = some (.new 65) ∧ dk cX11_init 92 = some (.dup) ∧ dk cX11_init 93 = some (.invokespecial 67) ∧ cres 11 67 = some 66 ∧ pM 66 = 0 ∧ sM 66 = false ∧ oM 66 = 9) ∧ (dk cX11_init 96 = some (.putfield 68) ∧ fres 11 68 = some (11, 8, 0, true) ∧ dk cX11_init 99 = some (.aload_n 0) ∧ dk cX11_init 100 = some (.new 72) ∧ dk cX11_init 103 = some (.dup) ∧ dk cX11_init 104 = some (.invokespecial 74) ∧ cres 11 74 = some 17 ∧ pM 17 = 0 ∧ sM 17 = false ∧ oM 17 = 3) ∧ (dk cX11_init 107 = some (.putfield 75) ∧ fres 11 75 = some (11, 9, 0, true) ∧ dk cX11_init 110 = some (.aload_n 0) ∧ dk cX11_init 111 = some (.iconst 4) ∧ dk cX11_init 112 = some (.anewarray 79) ∧ dk cX11_init 115 = some (.putfield 81) ∧ fres 11 81 = some (11, 10, 0, true) ∧ dk cX11_init 118 = some (.iconst 0) ∧ dk cX11_init 119 = some (.istore_n 1) ∧ dk cX11_init 120 = some (.iload_n 1)) ∧ (dk cX11_init 121 = some (.iconst 4) ∧ dk cX11_init 122 = some (.if_icmp .ge 22) ∧ jok 122 22 = true ∧ jmp 122 22 = 144 ∧ dk cX11_init 125 = some (.aload_n 0) ∧ dk cX11_init 126 = some (.getfield 81) ∧ dk cX11_init 129 = some (.iload_n 1) ∧ dk cX11_init 130 = some (.new 79) ∧ dk cX11_init 133 = some (.dup) ∧ dk cX11_init 134 = some (.invokespecial 85)) ∧ (cres 11 85 = some 44 ∧ pM 44 = 0 ∧ sM 44 = false ∧ oM 44 = 6 ∧ dk cX11_init 137 = some (.aastore) ∧ dk cX11_init 138 = some (.iinc 1 1) ∧ dk cX11_init 141 = some (.goto (-21)) ∧ jok 141 (-21) = true ∧ jmp 141 (-21) = 120 ∧ dk cX11_init 144 = some (.return_)) := ⟨by decide +kernel, by decide +kernel, by decide +kernel, by decide +kernel, by decide +kernel, by decide +kernel, by decide +kernel, by decide +kernel, by decide +kernel, by decide +kernel, by decide +kernel, by decide +kernel⟩
set_option maxRecDepth 100000 in
theorem N_X11_init : ((yM 20).name = "<init>") = True ∧ ((yM 76).name = "<init>") = True ∧ ((yM 3).name = "<init>") = True ∧ ((yM 0).name = "<init>") = True ∧ ((yM 10).name = "<init>") = True ∧ ((yM 50).name = "<init>") = True ∧ ((yM 66).name = "<init>") = True ∧ ((yM 17).name = "<init>") = True ∧ ((yM 44).name = "<init>") = True := by simp only [eq_iff_iff, iff_false, iff_true]; decide +kernel
set_option maxRecDepth 100000 in
theorem D_X11_isIn : (dk cX11_isIn 0 = some (.iload_n 0) ∧ dk cX11_isIn 1 = some (.iload_n 1) ∧ dk cX11_isIn 2 = some (.if_icmp .lt 12) ∧ jok 2 12 = true ∧ jmp 2 12 = 14 ∧ dk cX11_isIn 5 = some (.iload_n 0) ∧ dk cX11_isIn 6 = some (.iload_n 2) ∧ dk cX11_isIn 7 = some (.if_icmp .gt 7) ∧ jok 7 7 = true ∧ jmp 7 7 = 14) ∧ (dk cX11_isIn 10 = some (.iconst 1) ∧ dk cX11_isIn 11 = some (.goto 4) ∧ jok 11 4 = true ∧ jmp 11 4 = 15 ∧ dk cX11_isIn 14 = some (.iconst 0) ∧ dk cX11_isIn 15 = some (.ireturn)) := ⟨by decide +kernel, by decide +kernel⟩
set_option maxRecDepth 100000 in
theorem D_X11_isMachine : dk cX11_isMachine 0 = some (.iload_n 0) ∧ dk cX11_isMachine 1 = some (.iconst 0) ∧ dk cX11_isMachine 2 = some (.bipush 9) ∧ dk cX11_isMachine 4 = some (.invokestatic 86) ∧ cres 11 86 = some 81 ∧ pM 81 = 3 ∧ sM 81 = true ∧ dk cX11_isMachine 7 = some (.ireturn) := by decide +kernel
set_option maxRecDepth 100000 in
theorem D_X11_areMachines : (dk cX11_areMachines 0 = some (.iload_n 0) ∧ dk cX11_areMachines 1 = some (.invokestatic 90) ∧ cres 11 90 = some 82 ∧ pM 82 = 1 ∧ sM 82 = true ∧ dk cX11_areMachines 4 = some (.ifCond .eq 14) ∧ jok 4 14 = true ∧ jmp 4 14 = 18 ∧ dk cX11_areMachines 7 = some (.iload_n 1) ∧ dk cX11_areMachines 8 = some (.invokestatic 90)) ∧ (dk cX11_areMachines 11 = some (.ifCond .eq 7) ∧ jok 11 7 = true ∧ jmp 11 7 = 18 ∧ dk cX11_areMachines 14 = some (.iconst 1) ∧ dk cX11_areMachines 15 = some (.goto 4) ∧ jok 15 4 = true ∧ jmp 15 4 = 19 ∧ dk cX11_areMachines 18 = some (.iconst 0) ∧ dk cX11_areMachines 19 = some (.ireturn)) := ⟨by decide +kernel, by decide +kernel⟩
set_option maxRecDepth 100000 in
theorem D_X11_isTick : dk cX11_isTick 0 = some (.iload_n 0) ∧ dk cX11_isTick 1 = some (.iconst 0) ∧ dk cX11_isTick 2 = some (.sipush 999) ∧ dk cX11_isTick 5 = some (.invokestatic 86) ∧ cres 11 86 = some 81 ∧ pM 81 = 3 ∧ sM 81 = true ∧ dk cX11_isTick 8 = some (.ireturn) := by decide +kernel
set_option maxRecDepth 100000 in
theorem D_X11_isLane : dk cX11_isLane 0 = some (.iload_n 0) ∧ dk cX11_isLane 1 = some (.iconst 0) ∧ dk cX11_isLane 2 = some (.iconst 2) ∧ dk cX11_isLane 3 = some (.invokestatic 86) ∧ cres 11 86 = some 81 ∧ pM 81 = 3 ∧ sM 81 = true ∧ dk cX11_isLane 6 = some (.ireturn) := by decide +kernel
set_option maxRecDepth 100000 in
theorem D_X11_isHourSet : dk cX11_isHourSet 0 = some (.iload_n 0) ∧ dk cX11_isHourSet 1 = some (.iconst 1) ∧ dk cX11_isHourSet 2 = some (.sipush 16383) ∧ dk cX11_isHourSet 5 = some (.invokestatic 86) ∧ cres 11 86 = some 81 ∧ pM 81 = 3 ∧ sM 81 = true ∧ dk cX11_isHourSet 8 = some (.ireturn) := by decide +kernel
set_option maxRecDepth 100000 in
theorem D_X11_areApart : (dk cX11_areApart 0 = some (.iload_n 0) ∧ dk cX11_areApart 1 = some (.iconst 1) ∧ dk cX11_areApart 2 = some (.sipush 1023) ∧ dk cX11_areApart 5 = some (.invokestatic 86) ∧ cres 11 86 = some 81 ∧ pM 81 = 3 ∧ sM 81 = true ∧ dk cX11_areApart 8 = some (.ifCond .eq 24) ∧ jok 8 24 = true ∧ jmp 8 24 = 32) ∧ (dk cX11_areApart 11 = some (.iload_n 1) ∧ dk cX11_areApart 12 = some (.iconst 1) ∧ dk cX11_areApart 13 = some (.sipush 1023) ∧ dk cX11_areApart 16 = some (.invokestatic 86) ∧ dk cX11_areApart 19 = some (.ifCond .eq 13) ∧ jok 19 13 = true ∧ jmp 19 13 = 32 ∧ dk cX11_areApart 22 = some (.iload_n 0) ∧ dk cX11_areApart 23 = some (.iload_n 1) ∧ dk cX11_areApart 24 = some (.iand)) ∧ (dk cX11_areApart 25 = some (.ifCond .ne 7) ∧ jok 25 7 = true ∧ jmp 25 7 = 32 ∧ dk cX11_areApart 28 = some (.iconst 1) ∧ dk cX11_areApart 29 = some (.goto 4) ∧ jok 29 4 = true ∧ jmp 29 4 = 33 ∧ dk cX11_areApart 32 = some (.iconst 0) ∧ dk cX11_areApart 33 = some (.ireturn)) := ⟨by decide +kernel, by decide +kernel, by decide +kernel⟩
set_option maxRecDepth 100000 in
theorem D_X11_areDoors : (dk cX11_areDoors 0 = some (.iload_n 1) ∧ dk cX11_areDoors 1 = some (.iconst 0) ∧ dk cX11_areDoors 2 = some (.iconst 1) ∧ dk cX11_areDoors 3 = some (.aload_n 0) ∧ dk cX11_areDoors 4 = some (.getfield 14) ∧ fres 11 14 = some (11, 0, 0, true) ∧ dk cX11_areDoors 7 = some (.getfield 94) ∧ fres 11 94 = some (4, 9, 1, false) ∧ dk cX11_areDoors 10 = some (.ishl) ∧ dk cX11_areDoors 11 = some (.iconst 1)) ∧ (dk cX11_areDoors 12 = some (.isub) ∧ dk cX11_areDoors 13 = some (.invokestatic 86) ∧ cres 11 86 = some 81 ∧ pM 81 = 3 ∧ sM 81 = true ∧ dk cX11_areDoors 16 = some (.ireturn)) := ⟨by decide +kernel, by decide +kernel⟩
set_option maxRecDepth 100000 in
theorem D_X11_talkAt : (dk cX11_talkAt 0 = some (.iload_n 1) ∧ dk cX11_talkAt 1 = some (.iconst 0) ∧ dk cX11_talkAt 2 = some (.aload_n 0) ∧ dk cX11_talkAt 3 = some (.getfield 98) ∧ fres 11 98 = some (11, 11, 1, false) ∧ dk cX11_talkAt 6 = some (.iconst 1) ∧ dk cX11_talkAt 7 = some (.isub) ∧ dk cX11_talkAt 8 = some (.invokestatic 86) ∧ cres 11 86 = some 81 ∧ pM 81 = 3) ∧ (sM 81 = true ∧ dk cX11_talkAt 11 = some (.ifCond .eq 12) ∧ jok 11 12 = true ∧ jmp 11 12 = 23 ∧ dk cX11_talkAt 14 = some (.aload_n 0) ∧ dk cX11_talkAt 15 = some (.getfield 27) ∧ fres 11 27 = some (11, 2, 0, true) ∧ dk cX11_talkAt 18 = some (.iload_n 1) ∧ dk cX11_talkAt 19 = some (.aaload) ∧ dk cX11_talkAt 20 = some (.goto 4)) ∧ (jok 20 4 = true ∧ jmp 20 4 = 24 ∧ dk cX11_talkAt 23 = some (.aconst_null) ∧ dk cX11_talkAt 24 = some (.areturn)) := ⟨by decide +kernel, by decide +kernel, by decide +kernel⟩
set_option maxRecDepth 100000 in
theorem D_X11_rowAt : (dk cX11_rowAt 0 = some (.iload_n 1) ∧ dk cX11_rowAt 1 = some (.iconst 0) ∧ dk cX11_rowAt 2 = some (.aload_n 0) ∧ dk cX11_rowAt 3 = some (.getfield 101) ∧ fres 11 101 = some (11, 12, 1, false) ∧ dk cX11_rowAt 6 = some (.iconst 1) ∧ dk cX11_rowAt 7 = some (.isub) ∧ dk cX11_rowAt 8 = some (.invokestatic 86) ∧ cres 11 86 = some 81 ∧ pM 81 = 3) ∧ (sM 81 = true ∧ dk cX11_rowAt 11 = some (.ifCond .eq 12) ∧ jok 11 12 = true ∧ jmp 11 12 = 23 ∧ dk cX11_rowAt 14 = some (.aload_n 0) ∧ dk cX11_rowAt 15 = some (.getfield 33) ∧ fres 11 33 = some (11, 3, 0, true) ∧ dk cX11_rowAt 18 = some (.iload_n 1) ∧ dk cX11_rowAt 19 = some (.aaload) ∧ dk cX11_rowAt 20 = some (.goto 4)) ∧ (jok 20 4 = true ∧ jmp 20 4 = 24 ∧ dk cX11_rowAt 23 = some (.aconst_null) ∧ dk cX11_rowAt 24 = some (.areturn)) := ⟨by decide +kernel, by decide +kernel, by decide +kernel⟩
set_option maxRecDepth 100000 in
theorem D_X11_sheetAt : (dk cX11_sheetAt 0 = some (.iload_n 1) ∧ dk cX11_sheetAt 1 = some (.iconst 0) ∧ dk cX11_sheetAt 2 = some (.iconst 3) ∧ dk cX11_sheetAt 3 = some (.invokestatic 86) ∧ cres 11 86 = some 81 ∧ pM 81 = 3 ∧ sM 81 = true ∧ dk cX11_sheetAt 6 = some (.ifCond .eq 12) ∧ jok 6 12 = true ∧ jmp 6 12 = 18) ∧ (dk cX11_sheetAt 9 = some (.aload_n 0) ∧ dk cX11_sheetAt 10 = some (.getfield 81) ∧ fres 11 81 = some (11, 10, 0, true) ∧ dk cX11_sheetAt 13 = some (.iload_n 1) ∧ dk cX11_sheetAt 14 = some (.aaload) ∧ dk cX11_sheetAt 15 = some (.goto 4) ∧ jok 15 4 = true ∧ jmp 15 4 = 19 ∧ dk cX11_sheetAt 18 = some (.aconst_null) ∧ dk cX11_sheetAt 19 = some (.areturn)) := ⟨by decide +kernel, by decide +kernel⟩
set_option maxRecDepth 100000 in
theorem D_X11_greatestShared : (dk cX11_greatestShared 0 = some (.lload_n 0) ∧ dk cX11_greatestShared 1 = some (.lstore 4) ∧ dk cX11_greatestShared 3 = some (.lload_n 2) ∧ dk cX11_greatestShared 4 = some (.lstore 6) ∧ dk cX11_greatestShared 6 = some (.iconst 0) ∧ dk cX11_greatestShared 7 = some (.istore 8) ∧ dk cX11_greatestShared 9 = some (.iload 8) ∧ dk cX11_greatestShared 11 = some (.bipush 100) ∧ dk cX11_greatestShared 13 = some (.if_icmp .ge 31) ∧ jok 13 31 = true) ∧ (jmp 13 31 = 44 ∧ dk cX11_greatestShared 16 = some (.lload 6) ∧ dk cX11_greatestShared 18 = some (.lconst 0) ∧ dk cX11_greatestShared 19 = some (.lcmp) ∧ dk cX11_greatestShared 20 = some (.ifCond .eq 24) ∧ jok 20 24 = true ∧ jmp 20 24 = 44 ∧ dk cX11_greatestShared 23 = some (.lload 4) ∧ dk cX11_greatestShared 25 = some (.lload 6) ∧ dk cX11_greatestShared 27 = some (.lrem)) ∧ (dk cX11_greatestShared 28 = some (.lstore 9) ∧ dk cX11_greatestShared 30 = some (.lload 6) ∧ dk cX11_greatestShared 32 = some (.lstore 4) ∧ dk cX11_greatestShared 34 = some (.lload 9) ∧ dk cX11_greatestShared 36 = some (.lstore 6) ∧ dk cX11_greatestShared 38 = some (.iinc 8 1) ∧ dk cX11_greatestShared 41 = some (.goto (-32)) ∧ jok 41 (-32) = true ∧ jmp 41 (-32) = 9 ∧ dk cX11_greatestShared 44 = some (.lload 4)) ∧ (dk cX11_greatestShared 46 = some (.lreturn)) := ⟨by decide +kernel, by decide +kernel, by decide +kernel, by decide +kernel⟩
set_option maxRecDepth 100000 in
theorem D_X11_share : (dk cX11_share 0 = some (.lload_n 0) ∧ dk cX11_share 1 = some (.lload_n 2) ∧ dk cX11_share 2 = some (.invokestatic 104) ∧ cres 11 104 = some 92 ∧ pM 92 = 2 ∧ sM 92 = true ∧ dk cX11_share 5 = some (.lstore 5) ∧ dk cX11_share 7 = some (.lload 5) ∧ dk cX11_share 9 = some (.lconst 0) ∧ dk cX11_share 10 = some (.lcmp)) ∧ (dk cX11_share 11 = some (.ifCond .ne 7) ∧ jok 11 7 = true ∧ jmp 11 7 = 18 ∧ dk cX11_share 14 = some (.ldc2_w 108) ∧ lres 11 108 = some (-9223372036854775808) ∧ dk cX11_share 17 = some (.lreturn) ∧ dk cX11_share 18 = some (.iload 4) ∧ dk cX11_share 20 = some (.ifCond .ne 7) ∧ jok 20 7 = true ∧ jmp 20 7 = 27) ∧ (dk cX11_share 23 = some (.lload_n 0) ∧ dk cX11_share 24 = some (.goto 4) ∧ jok 24 4 = true ∧ jmp 24 4 = 28 ∧ dk cX11_share 27 = some (.lload_n 2) ∧ dk cX11_share 28 = some (.lload 5) ∧ dk cX11_share 30 = some (.ldiv) ∧ dk cX11_share 31 = some (.lreturn)) := ⟨by decide +kernel, by decide +kernel, by decide +kernel⟩
set_option maxRecDepth 100000 in
theorem D_X11_road : (dk cX11_road 0 = some (.iload_n 1) ∧ dk cX11_road 1 = some (.iload_n 2) ∧ dk cX11_road 2 = some (.invokestatic 110) ∧ cres 11 110 = some 83 ∧ pM 83 = 2 ∧ sM 83 = true ∧ dk cX11_road 5 = some (.ifCond .ne 5) ∧ jok 5 5 = true ∧ jmp 5 5 = 10 ∧ dk cX11_road 8 = some (.iconst (-1))) ∧ (dk cX11_road 9 = some (.ireturn) ∧ dk cX11_road 10 = some (.iload_n 1) ∧ dk cX11_road 11 = some (.iload_n 2) ∧ dk cX11_road 12 = some (.if_icmp .ne 6) ∧ jok 12 6 = true ∧ jmp 12 6 = 18 ∧ dk cX11_road 15 = some (.bipush (-2)) ∧ dk cX11_road 17 = some (.ireturn) ∧ dk cX11_road 18 = some (.aload_n 0) ∧ dk cX11_road 19 = some (.getfield 14)) ∧ (fres 11 14 = some (11, 0, 0, true) ∧ dk cX11_road 22 = some (.iload_n 1) ∧ dk cX11_road 23 = some (.iload_n 2) ∧ dk cX11_road 24 = some (.invokevirtual 114) ∧ cres 11 114 = some 21 ∧ pM 21 = 2 ∧ sM 21 = false ∧ oM 21 = 4 ∧ dk cX11_road 27 = some (.iload_n 3) ∧ dk cX11_road 28 = some (.if_icmp .ne 5)) ∧ (jok 28 5 = true ∧ jmp 28 5 = 33 ∧ dk cX11_road 31 = some (.iconst 0) ∧ dk cX11_road 32 = some (.ireturn) ∧ dk cX11_road 33 = some (.iload_n 3) ∧ dk cX11_road 34 = some (.ifCond .eq 15) ∧ jok 34 15 = true ∧ jmp 34 15 = 49 ∧ dk cX11_road 37 = some (.aload_n 0) ∧ dk cX11_road 38 = some (.getfield 14)) ∧ (dk cX11_road 41 = some (.iload_n 1) ∧ dk cX11_road 42 = some (.iload_n 2) ∧ dk cX11_road 43 = some (.invokevirtual 117) ∧ cres 11 117 = some 23 ∧ pM 23 = 2 ∧ sM 23 = false ∧ oM 23 = 4 ∧ dk cX11_road 46 = some (.goto 12) ∧ jok 46 12 = true ∧ jmp 46 12 = 58) ∧ (dk cX11_road 49 = some (.aload_n 0) ∧ dk cX11_road 50 = some (.getfield 14) ∧ dk cX11_road 53 = some (.iload_n 1) ∧ dk cX11_road 54 = some (.iload_n 2) ∧ dk cX11_road 55 = some (.invokevirtual 121) ∧ cres 11 121 = some 24 ∧ pM 24 = 2 ∧ sM 24 = false ∧ oM 24 = 4 ∧ dk cX11_road 58 = some (.iconst 1)) ∧ (dk cX11_road 59 = some (.ireturn)) := ⟨by decide +kernel, by decide +kernel, by decide +kernel, by decide +kernel, by decide +kernel, by decide +kernel, by decide +kernel⟩
set_option maxRecDepth 100000 in
theorem N_X11_road : ((yM 21).name = "<init>") = False ∧ ((yM 23).name = "<init>") = False ∧ ((yM 24).name = "<init>") = False := by simp only [eq_iff_iff, iff_false, iff_true]; decide +kernel
set_option maxRecDepth 100000 in
theorem D_X11_post : (dk cX11_post 0 = some (.iload_n 1) ∧ dk cX11_post 1 = some (.iload_n 2) ∧ dk cX11_post 2 = some (.invokestatic 110) ∧ cres 11 110 = some 83 ∧ pM 83 = 2 ∧ sM 83 = true ∧ dk cX11_post 5 = some (.ifCond .eq 15) ∧ jok 5 15 = true ∧ jmp 5 15 = 20 ∧ dk cX11_post 8 = some (.aload_n 0)) ∧ (dk cX11_post 9 = some (.getfield 14) ∧ fres 11 14 = some (11, 0, 0, true) ∧ dk cX11_post 12 = some (.iload_n 1) ∧ dk cX11_post 13 = some (.iload_n 2) ∧ dk cX11_post 14 = some (.invokevirtual 114) ∧ cres 11 114 = some 21 ∧ pM 21 = 2 ∧ sM 21 = false ∧ oM 21 = 4 ∧ dk cX11_post 17 = some (.ifCond .ne 5)) ∧ (jok 17 5 = true ∧ jmp 17 5 = 22 ∧ dk cX11_post 20 = some (.iconst (-1)) ∧ dk cX11_post 21 = some (.ireturn) ∧ dk cX11_post 22 = some (.aload_n 0) ∧ dk cX11_post 23 = some (.getfield 14) ∧ dk cX11_post 26 = some (.iload_n 1) ∧ dk cX11_post 27 = some (.iload_n 2) ∧ dk cX11_post 28 = some (.invokevirtual 124) ∧ cres 11 124 = some 22) ∧ (pM 22 = 2 ∧ sM 22 = false ∧ oM 22 = 4 ∧ dk cX11_post 31 = some (.iload_n 3) ∧ dk cX11_post 32 = some (.if_icmp .ne 5) ∧ jok 32 5 = true ∧ jmp 32 5 = 37 ∧ dk cX11_post 35 = some (.iconst 0) ∧ dk cX11_post 36 = some (.ireturn) ∧ dk cX11_post 37 = some (.aload_n 0)) ∧ (dk cX11_post 38 = some (.getfield 14) ∧ dk cX11_post 41 = some (.iload_n 1) ∧ dk cX11_post 42 = some (.iload_n 2) ∧ dk cX11_post 43 = some (.invokevirtual 127) ∧ cres 11 127 = some 25 ∧ pM 25 = 2 ∧ sM 25 = false ∧ oM 25 = 4 ∧ dk cX11_post 46 = some (.iconst 1) ∧ dk cX11_post 47 = some (.ireturn)) := ⟨by decide +kernel, by decide +kernel, by decide +kernel, by decide +kernel, by decide +kernel⟩
set_option maxRecDepth 100000 in
theorem N_X11_post : ((yM 21).name = "<init>") = False ∧ ((yM 22).name = "<init>") = False ∧ ((yM 25).name = "<init>") = False := by simp only [eq_iff_iff, iff_false, iff_true]; decide +kernel
set_option maxRecDepth 100000 in
theorem D_X11_door : (dk cX11_door 0 = some (.iload_n 1) ∧ dk cX11_door 1 = some (.iload_n 2) ∧ dk cX11_door 2 = some (.invokestatic 110) ∧ cres 11 110 = some 83 ∧ pM 83 = 2 ∧ sM 83 = true ∧ dk cX11_door 5 = some (.ifCond .eq 15) ∧ jok 5 15 = true ∧ jmp 5 15 = 20 ∧ dk cX11_door 8 = some (.aload_n 0)) ∧ (dk cX11_door 9 = some (.getfield 14) ∧ fres 11 14 = some (11, 0, 0, true) ∧ dk cX11_door 12 = some (.iload_n 1) ∧ dk cX11_door 13 = some (.iload_n 2) ∧ dk cX11_door 14 = some (.invokevirtual 114) ∧ cres 11 114 = some 21 ∧ pM 21 = 2 ∧ sM 21 = false ∧ oM 21 = 4 ∧ dk cX11_door 17 = some (.ifCond .ne 5)) ∧ (jok 17 5 = true ∧ jmp 17 5 = 22 ∧ dk cX11_door 20 = some (.iconst (-1)) ∧ dk cX11_door 21 = some (.ireturn) ∧ dk cX11_door 22 = some (.aload_n 0) ∧ dk cX11_door 23 = some (.getfield 14) ∧ dk cX11_door 26 = some (.iload_n 1) ∧ dk cX11_door 27 = some (.iload_n 2) ∧ dk cX11_door 28 = some (.invokevirtual 130) ∧ cres 11 130 = some 27) ∧ (pM 27 = 2 ∧ sM 27 = false ∧ oM 27 = 4 ∧ dk cX11_door 31 = some (.ireturn)) := ⟨by decide +kernel, by decide +kernel, by decide +kernel, by decide +kernel⟩
set_option maxRecDepth 100000 in
theorem N_X11_door : ((yM 21).name = "<init>") = False ∧ ((yM 27).name = "<init>") = False := by simp only [eq_iff_iff, iff_false, iff_true]; decide +kernel
set_option maxRecDepth 100000 in
theorem D_X11_shut : (dk cX11_shut 0 = some (.iload_n 1) ∧ dk cX11_shut 1 = some (.iconst 0) ∧ dk cX11_shut 2 = some (.aload_n 0) ∧ dk cX11_shut 3 = some (.getfield 14) ∧ fres 11 14 = some (11, 0, 0, true) ∧ dk cX11_shut 6 = some (.getfield 94) ∧ fres 11 94 = some (4, 9, 1, false) ∧ dk cX11_shut 9 = some (.iconst 1) ∧ dk cX11_shut 10 = some (.isub) ∧ dk cX11_shut 11 = some (.invokestatic 86)) ∧ (cres 11 86 = some 81 ∧ pM 81 = 3 ∧ sM 81 = true ∧ dk cX11_shut 14 = some (.ifCond .ne 5) ∧ jok 14 5 = true ∧ jmp 14 5 = 19 ∧ dk cX11_shut 17 = some (.iconst (-1)) ∧ dk cX11_shut 18 = some (.ireturn) ∧ dk cX11_shut 19 = some (.aload_n 0) ∧ dk cX11_shut 20 = some (.getfield 14)) ∧ (dk cX11_shut 23 = some (.iload_n 1) ∧ dk cX11_shut 24 = some (.invokevirtual 134) ∧ cres 11 134 = some 28 ∧ pM 28 = 1 ∧ sM 28 = false ∧ oM 28 = 4 ∧ dk cX11_shut 27 = some (.ifCond .ne 6) ∧ jok 27 6 = true ∧ jmp 27 6 = 33 ∧ dk cX11_shut 30 = some (.bipush (-3))) ∧ (dk cX11_shut 32 = some (.ireturn) ∧ dk cX11_shut 33 = some (.aload_n 0) ∧ dk cX11_shut 34 = some (.getfield 14) ∧ dk cX11_shut 37 = some (.iload_n 1) ∧ dk cX11_shut 38 = some (.invokevirtual 137) ∧ cres 11 137 = some 29 ∧ pM 29 = 1 ∧ sM 29 = false ∧ oM 29 = 4 ∧ dk cX11_shut 41 = some (.iload_n 2)) ∧ (dk cX11_shut 42 = some (.if_icmp .ne 5) ∧ jok 42 5 = true ∧ jmp 42 5 = 47 ∧ dk cX11_shut 45 = some (.iconst 0) ∧ dk cX11_shut 46 = some (.ireturn) ∧ dk cX11_shut 47 = some (.aload_n 0) ∧ dk cX11_shut 48 = some (.getfield 14) ∧ dk cX11_shut 51 = some (.iload_n 1) ∧ dk cX11_shut 52 = some (.invokevirtual 140) ∧ cres 11 140 = some 30) ∧ (pM 30 = 1 ∧ sM 30 = false ∧ oM 30 = 4 ∧ dk cX11_shut 55 = some (.iconst 1) ∧ dk cX11_shut 56 = some (.ireturn)) := ⟨by decide +kernel, by decide +kernel, by decide +kernel, by decide +kernel, by decide +kernel, by decide +kernel⟩
set_option maxRecDepth 100000 in
theorem N_X11_shut : ((yM 28).name = "<init>") = False ∧ ((yM 29).name = "<init>") = False ∧ ((yM 30).name = "<init>") = False := by simp only [eq_iff_iff, iff_false, iff_true]; decide +kernel
set_option maxRecDepth 100000 in
theorem D_X11_way : (dk cX11_way 0 = some (.iload_n 1) ∧ dk cX11_way 1 = some (.iload_n 2) ∧ dk cX11_way 2 = some (.invokestatic 110) ∧ cres 11 110 = some 83 ∧ pM 83 = 2 ∧ sM 83 = true ∧ dk cX11_way 5 = some (.ifCond .eq 13) ∧ jok 5 13 = true ∧ jmp 5 13 = 18 ∧ dk cX11_way 8 = some (.iload_n 3)) ∧ (dk cX11_way 9 = some (.iconst (-1)) ∧ dk cX11_way 10 = some (.bipush 9) ∧ dk cX11_way 12 = some (.invokestatic 86) ∧ cres 11 86 = some 81 ∧ pM 81 = 3 ∧ sM 81 = true ∧ dk cX11_way 15 = some (.ifCond .ne 5) ∧ jok 15 5 = true ∧ jmp 15 5 = 20 ∧ dk cX11_way 18 = some (.iconst (-1))) ∧ (dk cX11_way 19 = some (.ireturn) ∧ dk cX11_way 20 = some (.aload_n 0) ∧ dk cX11_way 21 = some (.getfield 14) ∧ fres 11 14 = some (11, 0, 0, true) ∧ dk cX11_way 24 = some (.iload_n 1) ∧ dk cX11_way 25 = some (.iload_n 2) ∧ dk cX11_way 26 = some (.invokevirtual 144) ∧ cres 11 144 = some 35 ∧ pM 35 = 2 ∧ sM 35 = false) ∧ (oM 35 = 4 ∧ dk cX11_way 29 = some (.ifCond .ne 6) ∧ jok 29 6 = true ∧ jmp 29 6 = 35 ∧ dk cX11_way 32 = some (.bipush (-9)) ∧ dk cX11_way 34 = some (.ireturn) ∧ dk cX11_way 35 = some (.iload_n 3) ∧ dk cX11_way 36 = some (.ifCond .ge 11) ∧ jok 36 11 = true ∧ jmp 36 11 = 47) ∧ (dk cX11_way 39 = some (.aload_n 0) ∧ dk cX11_way 40 = some (.getfield 14) ∧ dk cX11_way 43 = some (.getfield 147) ∧ fres 11 147 = some (4, 7, 1, false) ∧ dk cX11_way 46 = some (.ireturn) ∧ dk cX11_way 47 = some (.iload_n 3) ∧ dk cX11_way 48 = some (.aload_n 0) ∧ dk cX11_way 49 = some (.getfield 14) ∧ dk cX11_way 52 = some (.getfield 147) ∧ dk cX11_way 55 = some (.if_icmp .gt 15)) ∧ (jok 55 15 = true ∧ jmp 55 15 = 70 ∧ dk cX11_way 58 = some (.aload_n 0) ∧ dk cX11_way 59 = some (.getfield 14) ∧ dk cX11_way 62 = some (.getfield 150) ∧ fres 11 150 = some (4, 6, 0, true) ∧ dk cX11_way 65 = some (.iload_n 3) ∧ dk cX11_way 66 = some (.iaload) ∧ dk cX11_way 67 = some (.goto 5) ∧ jok 67 5 = true) ∧ (jmp 67 5 = 72 ∧ dk cX11_way 70 = some (.bipush (-9)) ∧ dk cX11_way 72 = some (.ireturn)) := ⟨by decide +kernel, by decide +kernel, by decide +kernel, by decide +kernel, by decide +kernel, by decide +kernel, by decide +kernel⟩
set_option maxRecDepth 100000 in
theorem N_X11_way : ((yM 35).name = "<init>") = False := by simp only [eq_iff_iff, iff_false, iff_true]; decide +kernel
set_option maxRecDepth 100000 in
theorem D_X11_blind : (dk cX11_blind 0 = some (.iload_n 1) ∧ dk cX11_blind 1 = some (.iload_n 2) ∧ dk cX11_blind 2 = some (.invokestatic 110) ∧ cres 11 110 = some 83 ∧ pM 83 = 2 ∧ sM 83 = true ∧ dk cX11_blind 5 = some (.ifCond .ne 5) ∧ jok 5 5 = true ∧ jmp 5 5 = 10 ∧ dk cX11_blind 8 = some (.iconst (-1))) ∧ (dk cX11_blind 9 = some (.ireturn) ∧ dk cX11_blind 10 = some (.iload_n 1) ∧ dk cX11_blind 11 = some (.iload_n 2) ∧ dk cX11_blind 12 = some (.if_icmp .ne 6) ∧ jok 12 6 = true ∧ jmp 12 6 = 18 ∧ dk cX11_blind 15 = some (.bipush (-2)) ∧ dk cX11_blind 17 = some (.ireturn) ∧ dk cX11_blind 18 = some (.aload_n 0) ∧ dk cX11_blind 19 = some (.getfield 14)) ∧ (fres 11 14 = some (11, 0, 0, true) ∧ dk cX11_blind 22 = some (.iconst 0) ∧ dk cX11_blind 23 = some (.invokevirtual 154) ∧ cres 11 154 = some 31 ∧ pM 31 = 1 ∧ sM 31 = false ∧ oM 31 = 4 ∧ dk cX11_blind 26 = some (.aload_n 0) ∧ dk cX11_blind 27 = some (.getfield 14) ∧ dk cX11_blind 30 = some (.invokevirtual 157)) ∧ (cres 11 157 = some 32 ∧ pM 32 = 0 ∧ sM 32 = false ∧ oM 32 = 4 ∧ dk cX11_blind 33 = some (.aload_n 0) ∧ dk cX11_blind 34 = some (.getfield 14) ∧ dk cX11_blind 37 = some (.iconst 1) ∧ dk cX11_blind 38 = some (.iload_n 1) ∧ dk cX11_blind 39 = some (.ishl) ∧ dk cX11_blind 40 = some (.invokevirtual 160)) ∧ (cres 11 160 = some 33 ∧ pM 33 = 1 ∧ sM 33 = false ∧ oM 33 = 4 ∧ dk cX11_blind 43 = some (.iload_n 2) ∧ dk cX11_blind 44 = some (.ishr) ∧ dk cX11_blind 45 = some (.iconst 1) ∧ dk cX11_blind 46 = some (.iand) ∧ dk cX11_blind 47 = some (.ifCond .eq 7) ∧ jok 47 7 = true) ∧ (jmp 47 7 = 54 ∧ dk cX11_blind 50 = some (.iconst 1) ∧ dk cX11_blind 51 = some (.goto 4) ∧ jok 51 4 = true ∧ jmp 51 4 = 55 ∧ dk cX11_blind 54 = some (.iconst 0) ∧ dk cX11_blind 55 = some (.ireturn)) := ⟨by decide +kernel, by decide +kernel, by decide +kernel, by decide +kernel, by decide +kernel, by decide +kernel⟩
set_option maxRecDepth 100000 in
theorem N_X11_blind : ((yM 31).name = "<init>") = False ∧ ((yM 32).name = "<init>") = False ∧ ((yM 33).name = "<init>") = False := by simp only [eq_iff_iff, iff_false, iff_true]; decide +kernel
set_option maxRecDepth 100000 in
theorem D_X11_talk : (dk cX11_talk 0 = some (.iload_n 2) ∧ dk cX11_talk 1 = some (.iload_n 3) ∧ dk cX11_talk 2 = some (.invokestatic 110) ∧ cres 11 110 = some 83 ∧ pM 83 = 2 ∧ sM 83 = true ∧ dk cX11_talk 5 = some (.ifCond .ne 5) ∧ jok 5 5 = true ∧ jmp 5 5 = 10 ∧ dk cX11_talk 8 = some (.iconst (-1))) ∧ (dk cX11_talk 9 = some (.ireturn) ∧ dk cX11_talk 10 = some (.iload_n 1) ∧ dk cX11_talk 11 = some (.iconst 0) ∧ dk cX11_talk 12 = some (.iconst 2) ∧ dk cX11_talk 13 = some (.invokestatic 86) ∧ cres 11 86 = some 81 ∧ pM 81 = 3 ∧ sM 81 = true ∧ dk cX11_talk 16 = some (.ifCond .eq 8) ∧ jok 16 8 = true) ∧ (jmp 16 8 = 24 ∧ dk cX11_talk 19 = some (.iload_n 2) ∧ dk cX11_talk 20 = some (.iload_n 3) ∧ dk cX11_talk 21 = some (.if_icmp .ne 6) ∧ jok 21 6 = true ∧ jmp 21 6 = 27 ∧ dk cX11_talk 24 = some (.bipush (-2)) ∧ dk cX11_talk 26 = some (.ireturn) ∧ dk cX11_talk 27 = some (.aload_n 0) ∧ dk cX11_talk 28 = some (.getfield 98)) ∧ (fres 11 98 = some (11, 11, 1, false) ∧ dk cX11_talk 31 = some (.bipush 8) ∧ dk cX11_talk 33 = some (.if_icmp .lt 6) ∧ jok 33 6 = true ∧ jmp 33 6 = 39 ∧ dk cX11_talk 36 = some (.bipush (-4)) ∧ dk cX11_talk 38 = some (.ireturn) ∧ dk cX11_talk 39 = some (.aload_n 0) ∧ dk cX11_talk 40 = some (.getfield 27) ∧ fres 11 27 = some (11, 2, 0, true)) ∧ (dk cX11_talk 43 = some (.aload_n 0) ∧ dk cX11_talk 44 = some (.getfield 98) ∧ dk cX11_talk 47 = some (.new 25) ∧ dk cX11_talk 50 = some (.dup) ∧ dk cX11_talk 51 = some (.aload_n 0) ∧ dk cX11_talk 52 = some (.getfield 98) ∧ dk cX11_talk 55 = some (.iload_n 1) ∧ dk cX11_talk 56 = some (.iload_n 2) ∧ dk cX11_talk 57 = some (.iload_n 3) ∧ dk cX11_talk 58 = some (.invokespecial 164)) ∧ (cres 11 164 = some 58 ∧ pM 58 = 4 ∧ sM 58 = false ∧ oM 58 = 8 ∧ dk cX11_talk 61 = some (.aastore) ∧ dk cX11_talk 62 = some (.aload_n 0) ∧ dk cX11_talk 63 = some (.dup) ∧ dk cX11_talk 64 = some (.getfield 98) ∧ dk cX11_talk 67 = some (.iconst 1) ∧ dk cX11_talk 68 = some (.iadd)) ∧ (dk cX11_talk 69 = some (.putfield 98) ∧ isBo (tyN 11 11) = false ∧ dk cX11_talk 72 = some (.aload_n 0) ∧ dk cX11_talk 73 = some (.getfield 98) ∧ dk cX11_talk 76 = some (.iconst 1) ∧ dk cX11_talk 77 = some (.isub) ∧ dk cX11_talk 78 = some (.ireturn)) := ⟨by decide +kernel, by decide +kernel, by decide +kernel, by decide +kernel, by decide +kernel, by decide +kernel, by decide +kernel⟩
set_option maxRecDepth 100000 in
theorem N_X11_talk : ((yM 58).name = "<init>") = True := by simp only [eq_iff_iff, iff_false, iff_true]; decide +kernel
set_option maxRecDepth 100000 in
theorem D_X11_piece : (dk cX11_piece 0 = some (.aload_n 0) ∧ dk cX11_piece 1 = some (.iconst 0) ∧ dk cX11_piece 2 = some (.putfield 167) ∧ fres 11 167 = some (11, 14, 1, false) ∧ isBo (tyN 11 14) = false ∧ dk cX11_piece 5 = some (.aload_n 0) ∧ dk cX11_piece 6 = some (.iload_n 1) ∧ dk cX11_piece 7 = some (.invokevirtual 170) ∧ cres 11 170 = some 89 ∧ pM 89 = 1) ∧ (sM 89 = false ∧ oM 89 = 11 ∧ dk cX11_piece 10 = some (.astore 8) ∧ dk cX11_piece 12 = some (.aload_n 0) ∧ dk cX11_piece 13 = some (.iload 4) ∧ dk cX11_piece 15 = some (.invokevirtual 174) ∧ cres 11 174 = some 91 ∧ pM 91 = 1 ∧ sM 91 = false ∧ oM 91 = 11) ∧ (dk cX11_piece 18 = some (.astore 9) ∧ dk cX11_piece 20 = some (.aload 8) ∧ dk cX11_piece 22 = some (.ifnull 8) ∧ jok 22 8 = true ∧ jmp 22 8 = 30 ∧ dk cX11_piece 25 = some (.aload 9) ∧ dk cX11_piece 27 = some (.ifnonnull 5) ∧ jok 27 5 = true ∧ jmp 27 5 = 32 ∧ dk cX11_piece 30 = some (.iconst (-1))) ∧ (dk cX11_piece 31 = some (.ireturn) ∧ dk cX11_piece 32 = some (.iload_n 2) ∧ dk cX11_piece 33 = some (.iconst 0) ∧ dk cX11_piece 34 = some (.bipush 59) ∧ dk cX11_piece 36 = some (.invokestatic 86) ∧ cres 11 86 = some 81 ∧ pM 81 = 3 ∧ sM 81 = true ∧ dk cX11_piece 39 = some (.ifCond .eq 10) ∧ jok 39 10 = true) ∧ (jmp 39 10 = 49 ∧ dk cX11_piece 42 = some (.iload_n 3) ∧ dk cX11_piece 43 = some (.invokestatic 178) ∧ cres 11 178 = some 84 ∧ pM 84 = 1 ∧ sM 84 = true ∧ dk cX11_piece 46 = some (.ifCond .ne 6) ∧ jok 46 6 = true ∧ jmp 46 6 = 52 ∧ dk cX11_piece 49 = some (.bipush (-2))) ∧ (dk cX11_piece 51 = some (.ireturn) ∧ dk cX11_piece 52 = some (.aload_n 0) ∧ dk cX11_piece 53 = some (.aload 9) ∧ dk cX11_piece 55 = some (.iload 5) ∧ dk cX11_piece 57 = some (.iload 6) ∧ dk cX11_piece 59 = some (.iload 7) ∧ dk cX11_piece 61 = some (.invokevirtual 181) ∧ cres 11 181 = some 135 ∧ pM 135 = 4 ∧ sM 135 = false) ∧ (oM 135 = 11 ∧ dk cX11_piece 64 = some (.istore 10) ∧ dk cX11_piece 66 = some (.iload 10) ∧ dk cX11_piece 68 = some (.ifCond .eq 6) ∧ jok 68 6 = true ∧ jmp 68 6 = 74 ∧ dk cX11_piece 71 = some (.iload 10) ∧ dk cX11_piece 73 = some (.ireturn) ∧ dk cX11_piece 74 = some (.iload 7) ∧ dk cX11_piece 76 = some (.iconst 1)) ∧ (dk cX11_piece 77 = some (.bipush 20) ∧ dk cX11_piece 79 = some (.invokestatic 86) ∧ dk cX11_piece 82 = some (.ifCond .eq 18) ∧ jok 82 18 = true ∧ jmp 82 18 = 100 ∧ dk cX11_piece 85 = some (.aload 9) ∧ dk cX11_piece 87 = some (.iload 6) ∧ dk cX11_piece 89 = some (.iload 7) ∧ dk cX11_piece 91 = some (.iconst 0) ∧ dk cX11_piece 92 = some (.bipush 127)) ∧ (dk cX11_piece 94 = some (.invokevirtual 185) ∧ cres 11 185 = some 48 ∧ pM 48 = 4 ∧ sM 48 = false ∧ oM 48 = 6 ∧ dk cX11_piece 97 = some (.ifCond .ne 6) ∧ jok 97 6 = true ∧ jmp 97 6 = 103 ∧ dk cX11_piece 100 = some (.bipush (-2)) ∧ dk cX11_piece 102 = some (.ireturn)) ∧ (dk cX11_piece 103 = some (.aload_n 0) ∧ dk cX11_piece 104 = some (.getfield 14) ∧ fres 11 14 = some (11, 0, 0, true) ∧ dk cX11_piece 107 = some (.aload 8) ∧ dk cX11_piece 109 = some (.getfield 189) ∧ fres 11 189 = some (8, 2, 1, true) ∧ dk cX11_piece 112 = some (.aload 8) ∧ dk cX11_piece 114 = some (.getfield 192) ∧ fres 11 192 = some (8, 3, 1, true) ∧ dk cX11_piece 117 = some (.invokevirtual 144)) ∧ (cres 11 144 = some 35 ∧ pM 35 = 2 ∧ sM 35 = false ∧ oM 35 = 4 ∧ dk cX11_piece 120 = some (.ifCond .ne 6) ∧ jok 120 6 = true ∧ jmp 120 6 = 126 ∧ dk cX11_piece 123 = some (.bipush (-3)) ∧ dk cX11_piece 125 = some (.ireturn) ∧ dk cX11_piece 126 = some (.aload_n 0)) ∧ (dk cX11_piece 127 = some (.getfield 14) ∧ dk cX11_piece 130 = some (.invokevirtual 195) ∧ cres 11 195 = some 39 ∧ pM 39 = 0 ∧ sM 39 = false ∧ oM 39 = 4 ∧ dk cX11_piece 133 = some (.ifCond .ne 16) ∧ jok 133 16 = true ∧ jmp 133 16 = 149 ∧ dk cX11_piece 136 = some (.aload 8)) ∧ (dk cX11_piece 138 = some (.dup) ∧ dk cX11_piece 139 = some (.getfield 199) ∧ fres 11 199 = some (8, 8, 1, false) ∧ dk cX11_piece 142 = some (.iconst 1) ∧ dk cX11_piece 143 = some (.iadd) ∧ dk cX11_piece 144 = some (.putfield 199) ∧ isBo (tyN 8 8) = false ∧ dk cX11_piece 147 = some (.iconst 0) ∧ dk cX11_piece 148 = some (.ireturn) ∧ dk cX11_piece 149 = some (.aload 8)) ∧ (dk cX11_piece 151 = some (.iload_n 2) ∧ dk cX11_piece 152 = some (.iload_n 3) ∧ dk cX11_piece 153 = some (.aload 9) ∧ dk cX11_piece 155 = some (.iload 6) ∧ dk cX11_piece 157 = some (.iload 7) ∧ dk cX11_piece 159 = some (.invokevirtual 202) ∧ cres 11 202 = some 60 ∧ pM 60 = 5 ∧ sM 60 = false ∧ oM 60 = 8) ∧ (dk cX11_piece 162 = some (.iconst 1) ∧ dk cX11_piece 163 = some (.ireturn)) := ⟨by decide +kernel, by decide +kernel, by decide +kernel, by decide +kernel, by decide +kernel, by decide +kernel, by decide +kernel, by decide +kernel, by decide +kernel, by decide +kernel, by decide +kernel, by decide +kernel, by decide +kernel, by decide +kernel, by decide +kernel⟩
set_option maxRecDepth 100000 in
theorem N_X11_piece : ((yM 89).name = "<init>") = False ∧ ((yM 91).name = "<init>") = False ∧ ((yM 135).name = "<init>") = False ∧ ((yM 48).name = "<init>") = False ∧ ((yM 35).name = "<init>") = False ∧ ((yM 39).name = "<init>") = False ∧ ((yM 60).name = "<init>") = False := by simp only [eq_iff_iff, iff_false, iff_true]; decide +kernel
set_option maxRecDepth 100000 in
theorem D_X11_about : (dk cX11_about 0 = some (.aload_n 0) ∧ dk cX11_about 1 = some (.iload_n 1) ∧ dk cX11_about 2 = some (.invokevirtual 170) ∧ cres 11 170 = some 89 ∧ pM 89 = 1 ∧ sM 89 = false ∧ oM 89 = 11 ∧ dk cX11_about 5 = some (.astore_n 3) ∧ dk cX11_about 6 = some (.aload_n 3) ∧ dk cX11_about 7 = some (.ifnonnull 5)) ∧ (jok 7 5 = true ∧ jmp 7 5 = 12 ∧ dk cX11_about 10 = some (.iconst (-1)) ∧ dk cX11_about 11 = some (.ireturn) ∧ dk cX11_about 12 = some (.iload_n 2) ∧ dk cX11_about 13 = some (.tableswitch 96 0 8 #[51, 56, 61, 66, 71, 76, 81, 86, 91]) ∧ jok 13 96 = true ∧ jmp 13 96 = 109 ∧ jok 13 51 = true ∧ jmp 13 51 = 64) ∧ (jok 13 56 = true ∧ jmp 13 56 = 69 ∧ jok 13 61 = true ∧ jmp 13 61 = 74 ∧ jok 13 66 = true ∧ jmp 13 66 = 79 ∧ jok 13 71 = true ∧ jmp 13 71 = 84 ∧ jok 13 76 = true ∧ jmp 13 76 = 89) ∧ (jok 13 81 = true ∧ jmp 13 81 = 94 ∧ jok 13 86 = true ∧ jmp 13 86 = 99 ∧ jok 13 91 = true ∧ jmp 13 91 = 104 ∧ dk cX11_about 64 = some (.aload_n 3) ∧ dk cX11_about 65 = some (.getfield 206) ∧ fres 11 206 = some (8, 1, 1, true) ∧ dk cX11_about 68 = some (.ireturn)) ∧ (dk cX11_about 69 = some (.aload_n 3) ∧ dk cX11_about 70 = some (.getfield 189) ∧ fres 11 189 = some (8, 2, 1, true) ∧ dk cX11_about 73 = some (.ireturn) ∧ dk cX11_about 74 = some (.aload_n 3) ∧ dk cX11_about 75 = some (.getfield 192) ∧ fres 11 192 = some (8, 3, 1, true) ∧ dk cX11_about 78 = some (.ireturn) ∧ dk cX11_about 79 = some (.aload_n 3) ∧ dk cX11_about 80 = some (.invokevirtual 209)) ∧ (cres 11 209 = some 63 ∧ pM 63 = 0 ∧ sM 63 = false ∧ oM 63 = 8 ∧ dk cX11_about 83 = some (.ireturn) ∧ dk cX11_about 84 = some (.aload_n 3) ∧ dk cX11_about 85 = some (.invokevirtual 213) ∧ cres 11 213 = some 64 ∧ pM 64 = 0 ∧ sM 64 = false) ∧ (oM 64 = 8 ∧ dk cX11_about 88 = some (.ireturn) ∧ dk cX11_about 89 = some (.aload_n 3) ∧ dk cX11_about 90 = some (.invokevirtual 216) ∧ cres 11 216 = some 65 ∧ pM 65 = 0 ∧ sM 65 = false ∧ oM 65 = 8 ∧ dk cX11_about 93 = some (.ireturn) ∧ dk cX11_about 94 = some (.aload_n 3)) ∧ (dk cX11_about 95 = some (.getfield 219) ∧ fres 11 219 = some (8, 7, 1, false) ∧ dk cX11_about 98 = some (.ireturn) ∧ dk cX11_about 99 = some (.aload_n 3) ∧ dk cX11_about 100 = some (.getfield 199) ∧ fres 11 199 = some (8, 8, 1, false) ∧ dk cX11_about 103 = some (.ireturn) ∧ dk cX11_about 104 = some (.aload_n 3) ∧ dk cX11_about 105 = some (.getfield 222) ∧ fres 11 222 = some (8, 9, 1, false)) ∧ (dk cX11_about 108 = some (.ireturn) ∧ dk cX11_about 109 = some (.bipush (-2)) ∧ dk cX11_about 111 = some (.ireturn)) := ⟨by decide +kernel, by decide +kernel, by decide +kernel, by decide +kernel, by decide +kernel, by decide +kernel, by decide +kernel, by decide +kernel, by decide +kernel⟩
set_option maxRecDepth 100000 in
theorem N_X11_about : ((yM 89).name = "<init>") = False ∧ ((yM 63).name = "<init>") = False ∧ ((yM 64).name = "<init>") = False ∧ ((yM 65).name = "<init>") = False := by simp only [eq_iff_iff, iff_false, iff_true]; decide +kernel
set_option maxRecDepth 100000 in
theorem D_X11_at : (dk cX11_at 0 = some (.aload_n 0) ∧ dk cX11_at 1 = some (.iload_n 1) ∧ dk cX11_at 2 = some (.invokevirtual 170) ∧ cres 11 170 = some 89 ∧ pM 89 = 1 ∧ sM 89 = false ∧ oM 89 = 11 ∧ dk cX11_at 5 = some (.astore 4) ∧ dk cX11_at 7 = some (.aload 4) ∧ dk cX11_at 9 = some (.ifnull 13)) ∧ (jok 9 13 = true ∧ jmp 9 13 = 22 ∧ dk cX11_at 12 = some (.iload_n 3) ∧ dk cX11_at 13 = some (.iconst 0) ∧ dk cX11_at 14 = some (.bipush 78) ∧ dk cX11_at 16 = some (.invokestatic 86) ∧ cres 11 86 = some 81 ∧ pM 81 = 3 ∧ sM 81 = true ∧ dk cX11_at 19 = some (.ifCond .ne 5)) ∧ (jok 19 5 = true ∧ jmp 19 5 = 24 ∧ dk cX11_at 22 = some (.iconst (-1)) ∧ dk cX11_at 23 = some (.ireturn) ∧ dk cX11_at 24 = some (.iload_n 2) ∧ dk cX11_at 25 = some (.iconst 0) ∧ dk cX11_at 26 = some (.iconst 1) ∧ dk cX11_at 27 = some (.invokestatic 86) ∧ dk cX11_at 30 = some (.ifCond .ne 6) ∧ jok 30 6 = true) ∧ (jmp 30 6 = 36 ∧ dk cX11_at 33 = some (.bipush (-2)) ∧ dk cX11_at 35 = some (.ireturn) ∧ dk cX11_at 36 = some (.aload 4) ∧ dk cX11_at 38 = some (.invokevirtual 225) ∧ cres 11 225 = some 59 ∧ pM 59 = 0 ∧ sM 59 = false ∧ oM 59 = 8 ∧ dk cX11_at 41 = some (.ifCond .eq 8)) ∧ (jok 41 8 = true ∧ jmp 41 8 = 49 ∧ dk cX11_at 44 = some (.bipush (-3)) ∧ dk cX11_at 46 = some (.goto 10) ∧ jok 46 10 = true ∧ jmp 46 10 = 56 ∧ dk cX11_at 49 = some (.aload 4) ∧ dk cX11_at 51 = some (.iload_n 2) ∧ dk cX11_at 52 = some (.iload_n 3) ∧ dk cX11_at 53 = some (.invokevirtual 228)) ∧ (cres 11 228 = some 62 ∧ pM 62 = 2 ∧ sM 62 = false ∧ oM 62 = 8 ∧ dk cX11_at 56 = some (.ireturn)) := ⟨by decide +kernel, by decide +kernel, by decide +kernel, by decide +kernel, by decide +kernel, by decide +kernel⟩
set_option maxRecDepth 100000 in
theorem N_X11_at : ((yM 89).name = "<init>") = False ∧ ((yM 59).name = "<init>") = False ∧ ((yM 62).name = "<init>") = False := by simp only [eq_iff_iff, iff_false, iff_true]; decide +kernel
set_option maxRecDepth 100000 in
theorem D_X11_row : (dk cX11_row 0 = some (.aload_n 0) ∧ dk cX11_row 1 = some (.iconst 0) ∧ dk cX11_row 2 = some (.putfield 167) ∧ fres 11 167 = some (11, 14, 1, false) ∧ isBo (tyN 11 14) = false ∧ dk cX11_row 5 = some (.aload_n 0) ∧ dk cX11_row 6 = some (.iload_n 1) ∧ dk cX11_row 7 = some (.invokevirtual 174) ∧ cres 11 174 = some 91 ∧ pM 91 = 1) ∧ (sM 91 = false ∧ oM 91 = 11 ∧ dk cX11_row 10 = some (.astore 5) ∧ dk cX11_row 12 = some (.aload_n 0) ∧ dk cX11_row 13 = some (.aload 5) ∧ dk cX11_row 15 = some (.iload_n 2) ∧ dk cX11_row 16 = some (.iload_n 3) ∧ dk cX11_row 17 = some (.iload 4) ∧ dk cX11_row 19 = some (.invokevirtual 181) ∧ cres 11 181 = some 135) ∧ (pM 135 = 4 ∧ sM 135 = false ∧ oM 135 = 11 ∧ dk cX11_row 22 = some (.istore 6) ∧ dk cX11_row 24 = some (.aload 5) ∧ dk cX11_row 26 = some (.ifnull 8) ∧ jok 26 8 = true ∧ jmp 26 8 = 34 ∧ dk cX11_row 29 = some (.iload 6) ∧ dk cX11_row 31 = some (.ifCond .eq 6)) ∧ (jok 31 6 = true ∧ jmp 31 6 = 37 ∧ dk cX11_row 34 = some (.iload 6) ∧ dk cX11_row 36 = some (.ireturn) ∧ dk cX11_row 37 = some (.iload 4) ∧ dk cX11_row 39 = some (.iconst 1) ∧ dk cX11_row 40 = some (.bipush 6) ∧ dk cX11_row 42 = some (.invokestatic 86) ∧ cres 11 86 = some 81 ∧ pM 81 = 3) ∧ (sM 81 = true ∧ dk cX11_row 45 = some (.ifCond .eq 17) ∧ jok 45 17 = true ∧ jmp 45 17 = 62 ∧ dk cX11_row 48 = some (.aload 5) ∧ dk cX11_row 50 = some (.iload_n 3) ∧ dk cX11_row 51 = some (.iload 4) ∧ dk cX11_row 53 = some (.iconst (-1)) ∧ dk cX11_row 54 = some (.bipush 127) ∧ dk cX11_row 56 = some (.invokevirtual 185)) ∧ (cres 11 185 = some 48 ∧ pM 48 = 4 ∧ sM 48 = false ∧ oM 48 = 6 ∧ dk cX11_row 59 = some (.ifCond .ne 6) ∧ jok 59 6 = true ∧ jmp 59 6 = 65 ∧ dk cX11_row 62 = some (.bipush (-2)) ∧ dk cX11_row 64 = some (.ireturn) ∧ dk cX11_row 65 = some (.aload_n 0)) ∧ (dk cX11_row 66 = some (.getfield 101) ∧ fres 11 101 = some (11, 12, 1, false) ∧ dk cX11_row 69 = some (.bipush 8) ∧ dk cX11_row 71 = some (.if_icmp .lt 6) ∧ jok 71 6 = true ∧ jmp 71 6 = 77 ∧ dk cX11_row 74 = some (.bipush (-4)) ∧ dk cX11_row 76 = some (.ireturn) ∧ dk cX11_row 77 = some (.aload_n 0) ∧ dk cX11_row 78 = some (.getfield 33)) ∧ (fres 11 33 = some (11, 3, 0, true) ∧ dk cX11_row 81 = some (.aload_n 0) ∧ dk cX11_row 82 = some (.getfield 101) ∧ dk cX11_row 85 = some (.new 31) ∧ dk cX11_row 88 = some (.dup) ∧ dk cX11_row 89 = some (.aload 5) ∧ dk cX11_row 91 = some (.iload_n 3) ∧ dk cX11_row 92 = some (.iload 4) ∧ dk cX11_row 94 = some (.invokespecial 231) ∧ cres 11 231 = some 40) ∧ (pM 40 = 3 ∧ sM 40 = false ∧ oM 40 = 5 ∧ dk cX11_row 97 = some (.aastore) ∧ dk cX11_row 98 = some (.aload_n 0) ∧ dk cX11_row 99 = some (.dup) ∧ dk cX11_row 100 = some (.getfield 101) ∧ dk cX11_row 103 = some (.iconst 1) ∧ dk cX11_row 104 = some (.iadd) ∧ dk cX11_row 105 = some (.putfield 101)) ∧ (isBo (tyN 11 12) = false ∧ dk cX11_row 108 = some (.aload_n 0) ∧ dk cX11_row 109 = some (.getfield 101) ∧ dk cX11_row 112 = some (.iconst 1) ∧ dk cX11_row 113 = some (.isub) ∧ dk cX11_row 114 = some (.ireturn)) := ⟨by decide +kernel, by decide +kernel, by decide +kernel, by decide +kernel, by decide +kernel, by decide +kernel, by decide +kernel, by decide +kernel, by decide +kernel, by decide +kernel⟩
set_option maxRecDepth 100000 in
theorem N_X11_row : ((yM 91).name = "<init>") = False ∧ ((yM 135).name = "<init>") = False ∧ ((yM 48).name = "<init>") = False ∧ ((yM 40).name = "<init>") = True := by simp only [eq_iff_iff, iff_false, iff_true]; decide +kernel
set_option maxRecDepth 100000 in
theorem D_X11_fits : (dk cX11_fits 0 = some (.aload_n 0) ∧ dk cX11_fits 1 = some (.iload_n 1) ∧ dk cX11_fits 2 = some (.invokevirtual 234) ∧ cres 11 234 = some 90 ∧ pM 90 = 1 ∧ sM 90 = false ∧ oM 90 = 11 ∧ dk cX11_fits 5 = some (.astore 5) ∧ dk cX11_fits 7 = some (.aload_n 0) ∧ dk cX11_fits 8 = some (.iload_n 2)) ∧ (dk cX11_fits 9 = some (.invokevirtual 170) ∧ cres 11 170 = some 89 ∧ pM 89 = 1 ∧ sM 89 = false ∧ oM 89 = 11 ∧ dk cX11_fits 12 = some (.astore 6) ∧ dk cX11_fits 14 = some (.aload 5) ∧ dk cX11_fits 16 = some (.ifnull 8) ∧ jok 16 8 = true ∧ jmp 16 8 = 24) ∧ (dk cX11_fits 19 = some (.aload 6) ∧ dk cX11_fits 21 = some (.ifnonnull 5) ∧ jok 21 5 = true ∧ jmp 21 5 = 26 ∧ dk cX11_fits 24 = some (.iconst (-1)) ∧ dk cX11_fits 25 = some (.ireturn) ∧ dk cX11_fits 26 = some (.iload_n 3) ∧ dk cX11_fits 27 = some (.iconst 0) ∧ dk cX11_fits 28 = some (.iconst 1) ∧ dk cX11_fits 29 = some (.invokestatic 86)) ∧ (cres 11 86 = some 81 ∧ pM 81 = 3 ∧ sM 81 = true ∧ dk cX11_fits 32 = some (.ifCond .eq 13) ∧ jok 32 13 = true ∧ jmp 32 13 = 45 ∧ dk cX11_fits 35 = some (.iload 4) ∧ dk cX11_fits 37 = some (.iconst 0) ∧ dk cX11_fits 38 = some (.iconst 1) ∧ dk cX11_fits 39 = some (.invokestatic 86)) ∧ (dk cX11_fits 42 = some (.ifCond .ne 6) ∧ jok 42 6 = true ∧ jmp 42 6 = 48 ∧ dk cX11_fits 45 = some (.bipush (-2)) ∧ dk cX11_fits 47 = some (.ireturn) ∧ dk cX11_fits 48 = some (.aload 6) ∧ dk cX11_fits 50 = some (.invokevirtual 225) ∧ cres 11 225 = some 59 ∧ pM 59 = 0 ∧ sM 59 = false) ∧ (oM 59 = 8 ∧ dk cX11_fits 53 = some (.ifCond .eq 6) ∧ jok 53 6 = true ∧ jmp 53 6 = 59 ∧ dk cX11_fits 56 = some (.bipush (-3)) ∧ dk cX11_fits 58 = some (.ireturn) ∧ dk cX11_fits 59 = some (.iload 4) ∧ dk cX11_fits 61 = some (.ifCond .ne 14) ∧ jok 61 14 = true ∧ jmp 61 14 = 75) ∧ (dk cX11_fits 64 = some (.aload 5) ∧ dk cX11_fits 66 = some (.aload 6) ∧ dk cX11_fits 68 = some (.iload_n 3) ∧ dk cX11_fits 69 = some (.invokevirtual 238) ∧ cres 11 238 = some 42 ∧ pM 42 = 2 ∧ sM 42 = false ∧ oM 42 = 5 ∧ dk cX11_fits 72 = some (.goto 11) ∧ jok 72 11 = true) ∧ (jmp 72 11 = 83 ∧ dk cX11_fits 75 = some (.aload 5) ∧ dk cX11_fits 77 = some (.aload 6) ∧ dk cX11_fits 79 = some (.iload_n 3) ∧ dk cX11_fits 80 = some (.invokevirtual 242) ∧ cres 11 242 = some 43 ∧ pM 43 = 2 ∧ sM 43 = false ∧ oM 43 = 5 ∧ dk cX11_fits 83 = some (.ireturn)) := ⟨by decide +kernel, by decide +kernel, by decide +kernel, by decide +kernel, by decide +kernel, by decide +kernel, by decide +kernel, by decide +kernel⟩
set_option maxRecDepth 100000 in
theorem N_X11_fits : ((yM 90).name = "<init>") = False ∧ ((yM 89).name = "<init>") = False ∧ ((yM 59).name = "<init>") = False ∧ ((yM 42).name = "<init>") = False ∧ ((yM 43).name = "<init>") = False := by simp only [eq_iff_iff, iff_false, iff_true]; decide +kernel
set_option maxRecDepth 100000 in
theorem D_X11_scan : (dk cX11_scan 0 = some (.iload_n 1) ∧ dk cX11_scan 1 = some (.invokestatic 178) ∧ cres 11 178 = some 84 ∧ pM 84 = 1 ∧ sM 84 = true ∧ dk cX11_scan 4 = some (.ifCond .ne 6) ∧ jok 4 6 = true ∧ jmp 4 6 = 10 ∧ dk cX11_scan 7 = some (.bipush (-2)) ∧ dk cX11_scan 9 = some (.ireturn)) ∧ (dk cX11_scan 10 = some (.aload_n 0) ∧ dk cX11_scan 11 = some (.getfield 40) ∧ fres 11 40 = some (11, 4, 0, true) ∧ dk cX11_scan 14 = some (.getfield 245) ∧ fres 11 245 = some (1, 5, 1, false) ∧ dk cX11_scan 17 = some (.istore_n 2) ∧ dk cX11_scan 18 = some (.iconst 0) ∧ dk cX11_scan 19 = some (.istore_n 3) ∧ dk cX11_scan 20 = some (.iload_n 3) ∧ dk cX11_scan 21 = some (.aload_n 0)) ∧ (dk cX11_scan 22 = some (.getfield 98) ∧ fres 11 98 = some (11, 11, 1, false) ∧ dk cX11_scan 25 = some (.if_icmp .ge 35) ∧ jok 25 35 = true ∧ jmp 25 35 = 60 ∧ dk cX11_scan 28 = some (.iconst 0) ∧ dk cX11_scan 29 = some (.istore 4) ∧ dk cX11_scan 31 = some (.iload 4) ∧ dk cX11_scan 33 = some (.aload_n 0) ∧ dk cX11_scan 34 = some (.getfield 101)) ∧ (fres 11 101 = some (11, 12, 1, false) ∧ dk cX11_scan 37 = some (.if_icmp .ge 17) ∧ jok 37 17 = true ∧ jmp 37 17 = 54 ∧ dk cX11_scan 40 = some (.aload_n 0) ∧ dk cX11_scan 41 = some (.iload 4) ∧ dk cX11_scan 43 = some (.iload_n 3) ∧ dk cX11_scan 44 = some (.iload_n 1) ∧ dk cX11_scan 45 = some (.invokevirtual 248) ∧ cres 11 248 = some 107) ∧ (pM 107 = 3 ∧ sM 107 = false ∧ oM 107 = 11 ∧ dk cX11_scan 48 = some (.iinc 4 1) ∧ dk cX11_scan 51 = some (.goto (-20)) ∧ jok 51 (-20) = true ∧ jmp 51 (-20) = 31 ∧ dk cX11_scan 54 = some (.iinc 3 1) ∧ dk cX11_scan 57 = some (.goto (-37)) ∧ jok 57 (-37) = true) ∧ (jmp 57 (-37) = 20 ∧ dk cX11_scan 60 = some (.aload_n 0) ∧ dk cX11_scan 61 = some (.getfield 40) ∧ dk cX11_scan 64 = some (.getfield 245) ∧ dk cX11_scan 67 = some (.iload_n 2) ∧ dk cX11_scan 68 = some (.isub) ∧ dk cX11_scan 69 = some (.ireturn)) := ⟨by decide +kernel, by decide +kernel, by decide +kernel, by decide +kernel, by decide +kernel, by decide +kernel⟩
set_option maxRecDepth 100000 in
theorem N_X11_scan : ((yM 107).name = "<init>") = False := by simp only [eq_iff_iff, iff_false, iff_true]; decide +kernel
set_option maxRecDepth 100000 in
theorem D_X11_scanOne : (dk cX11_scanOne 0 = some (.aload_n 0) ∧ dk cX11_scanOne 1 = some (.iload_n 1) ∧ dk cX11_scanOne 2 = some (.invokevirtual 234) ∧ cres 11 234 = some 90 ∧ pM 90 = 1 ∧ sM 90 = false ∧ oM 90 = 11 ∧ dk cX11_scanOne 5 = some (.astore 4) ∧ dk cX11_scanOne 7 = some (.aload_n 0) ∧ dk cX11_scanOne 8 = some (.iload_n 2)) ∧ (dk cX11_scanOne 9 = some (.invokevirtual 170) ∧ cres 11 170 = some 89 ∧ pM 89 = 1 ∧ sM 89 = false ∧ oM 89 = 11 ∧ dk cX11_scanOne 12 = some (.astore 5) ∧ dk cX11_scanOne 14 = some (.aload 4) ∧ dk cX11_scanOne 16 = some (.ifnull 28) ∧ jok 16 28 = true ∧ jmp 16 28 = 44) ∧ (dk cX11_scanOne 19 = some (.aload 5) ∧ dk cX11_scanOne 21 = some (.ifnull 23) ∧ jok 21 23 = true ∧ jmp 21 23 = 44 ∧ dk cX11_scanOne 24 = some (.aload 5) ∧ dk cX11_scanOne 26 = some (.invokevirtual 225) ∧ cres 11 225 = some 59 ∧ pM 59 = 0 ∧ sM 59 = false ∧ oM 59 = 8) ∧ (dk cX11_scanOne 29 = some (.ifCond .ne 15) ∧ jok 29 15 = true ∧ jmp 29 15 = 44 ∧ dk cX11_scanOne 32 = some (.aload_n 0) ∧ dk cX11_scanOne 33 = some (.getfield 40) ∧ fres 11 40 = some (11, 4, 0, true) ∧ dk cX11_scanOne 36 = some (.iload_n 1) ∧ dk cX11_scanOne 37 = some (.iload_n 2) ∧ dk cX11_scanOne 38 = some (.invokevirtual 252) ∧ cres 11 252 = some 4) ∧ (pM 4 = 2 ∧ sM 4 = false ∧ oM 4 = 1 ∧ dk cX11_scanOne 41 = some (.ifCond .eq 4) ∧ jok 41 4 = true ∧ jmp 41 4 = 45 ∧ dk cX11_scanOne 44 = some (.return_) ∧ dk cX11_scanOne 45 = some (.aload 4) ∧ dk cX11_scanOne 47 = some (.aload 5) ∧ dk cX11_scanOne 49 = some (.iconst 0)) ∧ (dk cX11_scanOne 50 = some (.invokevirtual 242) ∧ cres 11 242 = some 43 ∧ pM 43 = 2 ∧ sM 43 = false ∧ oM 43 = 5 ∧ dk cX11_scanOne 53 = some (.bipush (-9)) ∧ dk cX11_scanOne 55 = some (.if_icmp .ne 16) ∧ jok 55 16 = true ∧ jmp 55 16 = 71 ∧ dk cX11_scanOne 58 = some (.aload 4)) ∧ (dk cX11_scanOne 60 = some (.aload 5) ∧ dk cX11_scanOne 62 = some (.iconst 1) ∧ dk cX11_scanOne 63 = some (.invokevirtual 242) ∧ dk cX11_scanOne 66 = some (.bipush (-9)) ∧ dk cX11_scanOne 68 = some (.if_icmp .eq 14) ∧ jok 68 14 = true ∧ jmp 68 14 = 82 ∧ dk cX11_scanOne 71 = some (.aload_n 0) ∧ dk cX11_scanOne 72 = some (.getfield 40) ∧ dk cX11_scanOne 75 = some (.iload_n 1)) ∧ (dk cX11_scanOne 76 = some (.aload 5) ∧ dk cX11_scanOne 78 = some (.iload_n 3) ∧ dk cX11_scanOne 79 = some (.invokevirtual 255) ∧ cres 11 255 = some 5 ∧ pM 5 = 3 ∧ sM 5 = false ∧ oM 5 = 1 ∧ dk cX11_scanOne 82 = some (.return_)) := ⟨by decide +kernel, by decide +kernel, by decide +kernel, by decide +kernel, by decide +kernel, by decide +kernel, by decide +kernel, by decide +kernel⟩
set_option maxRecDepth 100000 in
theorem N_X11_scanOne : ((yM 90).name = "<init>") = False ∧ ((yM 89).name = "<init>") = False ∧ ((yM 59).name = "<init>") = False ∧ ((yM 4).name = "<init>") = False ∧ ((yM 43).name = "<init>") = False ∧ ((yM 5).name = "<init>") = False := by simp only [eq_iff_iff, iff_false, iff_true]; decide +kernel
set_option maxRecDepth 100000 in
theorem D_X11_finding : (dk cX11_finding 0 = some (.iload_n 1) ∧ dk cX11_finding 1 = some (.iconst 0) ∧ dk cX11_finding 2 = some (.aload_n 0) ∧ dk cX11_finding 3 = some (.getfield 40) ∧ fres 11 40 = some (11, 4, 0, true) ∧ dk cX11_finding 6 = some (.getfield 245) ∧ fres 11 245 = some (1, 5, 1, false) ∧ dk cX11_finding 9 = some (.iconst 1) ∧ dk cX11_finding 10 = some (.isub) ∧ dk cX11_finding 11 = some (.invokestatic 86)) ∧ (cres 11 86 = some 81 ∧ pM 81 = 3 ∧ sM 81 = true ∧ dk cX11_finding 14 = some (.ifCond .ne 5) ∧ jok 14 5 = true ∧ jmp 14 5 = 19 ∧ dk cX11_finding 17 = some (.iconst (-1)) ∧ dk cX11_finding 18 = some (.ireturn) ∧ dk cX11_finding 19 = some (.iload_n 2) ∧ dk cX11_finding 20 = some (.tableswitch 72 0 3 #[32, 42, 52, 62])) ∧ (jok 20 72 = true ∧ jmp 20 72 = 92 ∧ jok 20 32 = true ∧ jmp 20 32 = 52 ∧ jok 20 42 = true ∧ jmp 20 42 = 62 ∧ jok 20 52 = true ∧ jmp 20 52 = 72 ∧ jok 20 62 = true ∧ jmp 20 62 = 82) ∧ (dk cX11_finding 52 = some (.aload_n 0) ∧ dk cX11_finding 53 = some (.getfield 40) ∧ dk cX11_finding 56 = some (.getfield 259) ∧ fres 11 259 = some (1, 0, 0, true) ∧ dk cX11_finding 59 = some (.iload_n 1) ∧ dk cX11_finding 60 = some (.iaload) ∧ dk cX11_finding 61 = some (.ireturn) ∧ dk cX11_finding 62 = some (.aload_n 0) ∧ dk cX11_finding 63 = some (.getfield 40) ∧ dk cX11_finding 66 = some (.getfield 262)) ∧ (fres 11 262 = some (1, 1, 0, true) ∧ dk cX11_finding 69 = some (.iload_n 1) ∧ dk cX11_finding 70 = some (.iaload) ∧ dk cX11_finding 71 = some (.ireturn) ∧ dk cX11_finding 72 = some (.aload_n 0) ∧ dk cX11_finding 73 = some (.getfield 40) ∧ dk cX11_finding 76 = some (.getfield 265) ∧ fres 11 265 = some (1, 3, 0, true) ∧ dk cX11_finding 79 = some (.iload_n 1) ∧ dk cX11_finding 80 = some (.iaload)) ∧ (dk cX11_finding 81 = some (.ireturn) ∧ dk cX11_finding 82 = some (.aload_n 0) ∧ dk cX11_finding 83 = some (.getfield 40) ∧ dk cX11_finding 86 = some (.getfield 268) ∧ fres 11 268 = some (1, 4, 0, true) ∧ dk cX11_finding 89 = some (.iload_n 1) ∧ dk cX11_finding 90 = some (.iaload) ∧ dk cX11_finding 91 = some (.ireturn) ∧ dk cX11_finding 92 = some (.bipush (-2)) ∧ dk cX11_finding 94 = some (.ireturn)) := ⟨by decide +kernel, by decide +kernel, by decide +kernel, by decide +kernel, by decide +kernel, by decide +kernel⟩
set_option maxRecDepth 100000 in
theorem D_X11_clear : (dk cX11_clear 0 = some (.iload_n 1) ∧ dk cX11_clear 1 = some (.iconst 0) ∧ dk cX11_clear 2 = some (.aload_n 0) ∧ dk cX11_clear 3 = some (.getfield 40) ∧ fres 11 40 = some (11, 4, 0, true) ∧ dk cX11_clear 6 = some (.getfield 245) ∧ fres 11 245 = some (1, 5, 1, false) ∧ dk cX11_clear 9 = some (.iconst 1) ∧ dk cX11_clear 10 = some (.isub) ∧ dk cX11_clear 11 = some (.invokestatic 86)) ∧ (cres 11 86 = some 81 ∧ pM 81 = 3 ∧ sM 81 = true ∧ dk cX11_clear 14 = some (.ifCond .ne 5) ∧ jok 14 5 = true ∧ jmp 14 5 = 19 ∧ dk cX11_clear 17 = some (.iconst (-1)) ∧ dk cX11_clear 18 = some (.ireturn) ∧ dk cX11_clear 19 = some (.iload_n 2) ∧ dk cX11_clear 20 = some (.iconst 0)) ∧ (dk cX11_clear 21 = some (.iconst 2) ∧ dk cX11_clear 22 = some (.invokestatic 86) ∧ dk cX11_clear 25 = some (.ifCond .ne 6) ∧ jok 25 6 = true ∧ jmp 25 6 = 31 ∧ dk cX11_clear 28 = some (.bipush (-2)) ∧ dk cX11_clear 30 = some (.ireturn) ∧ dk cX11_clear 31 = some (.aload_n 0) ∧ dk cX11_clear 32 = some (.getfield 40) ∧ dk cX11_clear 35 = some (.getfield 268)) ∧ (fres 11 268 = some (1, 4, 0, true) ∧ dk cX11_clear 38 = some (.iload_n 1) ∧ dk cX11_clear 39 = some (.iaload) ∧ dk cX11_clear 40 = some (.istore_n 3) ∧ dk cX11_clear 41 = some (.aload_n 0) ∧ dk cX11_clear 42 = some (.getfield 40) ∧ dk cX11_clear 45 = some (.getfield 268) ∧ dk cX11_clear 48 = some (.iload_n 1) ∧ dk cX11_clear 49 = some (.iload_n 2) ∧ dk cX11_clear 50 = some (.iastore)) ∧ (dk cX11_clear 51 = some (.iload_n 3) ∧ dk cX11_clear 52 = some (.ireturn)) := ⟨by decide +kernel, by decide +kernel, by decide +kernel, by decide +kernel, by decide +kernel⟩
set_option maxRecDepth 100000 in
theorem D_X11_nothing : (dk cX11_nothing 0 = some (.aload_n 0) ∧ dk cX11_nothing 1 = some (.iload_n 1) ∧ dk cX11_nothing 2 = some (.invokevirtual 234) ∧ cres 11 234 = some 90 ∧ pM 90 = 1 ∧ sM 90 = false ∧ oM 90 = 11 ∧ dk cX11_nothing 5 = some (.ifnull 12) ∧ jok 5 12 = true ∧ jmp 5 12 = 17) ∧ (dk cX11_nothing 8 = some (.iload_n 2) ∧ dk cX11_nothing 9 = some (.iconst 0) ∧ dk cX11_nothing 10 = some (.iconst 1) ∧ dk cX11_nothing 11 = some (.invokestatic 86) ∧ cres 11 86 = some 81 ∧ pM 81 = 3 ∧ sM 81 = true ∧ dk cX11_nothing 14 = some (.ifCond .ne 7) ∧ jok 14 7 = true ∧ jmp 14 7 = 21) ∧ (dk cX11_nothing 17 = some (.ldc2_w 108) ∧ lres 11 108 = some (-9223372036854775808) ∧ dk cX11_nothing 20 = some (.lreturn) ∧ dk cX11_nothing 21 = some (.aload_n 0) ∧ dk cX11_nothing 22 = some (.getfield 40) ∧ fres 11 40 = some (11, 4, 0, true) ∧ dk cX11_nothing 25 = some (.iload_n 1) ∧ dk cX11_nothing 26 = some (.iconst 1) ∧ dk cX11_nothing 27 = some (.invokevirtual 271) ∧ cres 11 271 = some 6) ∧ (pM 6 = 2 ∧ sM 6 = false ∧ oM 6 = 1 ∧ dk cX11_nothing 30 = some (.istore_n 3) ∧ dk cX11_nothing 31 = some (.iload_n 3) ∧ dk cX11_nothing 32 = some (.aload_n 0) ∧ dk cX11_nothing 33 = some (.getfield 40) ∧ dk cX11_nothing 36 = some (.iload_n 1) ∧ dk cX11_nothing 37 = some (.iconst 2) ∧ dk cX11_nothing 38 = some (.invokevirtual 271)) ∧ (dk cX11_nothing 41 = some (.iadd) ∧ dk cX11_nothing 42 = some (.istore 4) ∧ dk cX11_nothing 44 = some (.iload 4) ∧ dk cX11_nothing 46 = some (.ifCond .ne 9) ∧ jok 46 9 = true ∧ jmp 46 9 = 55 ∧ dk cX11_nothing 49 = some (.ldc2_w 108) ∧ dk cX11_nothing 52 = some (.goto 12) ∧ jok 52 12 = true ∧ jmp 52 12 = 64) ∧ (dk cX11_nothing 55 = some (.iload_n 3) ∧ dk cX11_nothing 56 = some (.i2l) ∧ dk cX11_nothing 57 = some (.iload 4) ∧ dk cX11_nothing 59 = some (.i2l) ∧ dk cX11_nothing 60 = some (.iload_n 2) ∧ dk cX11_nothing 61 = some (.invokestatic 274) ∧ cres 11 274 = some 93 ∧ pM 93 = 3 ∧ sM 93 = true ∧ dk cX11_nothing 64 = some (.lreturn)) := ⟨by decide +kernel, by decide +kernel, by decide +kernel, by decide +kernel, by decide +kernel, by decide +kernel⟩
set_option maxRecDepth 100000 in
theorem N_X11_nothing : ((yM 90).name = "<init>") = False ∧ ((yM 6).name = "<init>") = False := by simp only [eq_iff_iff, iff_false, iff_true]; decide +kernel
set_option maxRecDepth 100000 in
theorem D_X11_chain : (dk cX11_chain 0 = some (.aload_n 0) ∧ dk cX11_chain 1 = some (.iconst 0) ∧ dk cX11_chain 2 = some (.putfield 167) ∧ fres 11 167 = some (11, 14, 1, false) ∧ isBo (tyN 11 14) = false ∧ dk cX11_chain 5 = some (.aload_n 0) ∧ dk cX11_chain 6 = some (.iload_n 1) ∧ dk cX11_chain 7 = some (.invokevirtual 174) ∧ cres 11 174 = some 91 ∧ pM 91 = 1) ∧ (sM 91 = false ∧ oM 91 = 11 ∧ dk cX11_chain 10 = some (.astore 5) ∧ dk cX11_chain 12 = some (.aload_n 0) ∧ dk cX11_chain 13 = some (.aload 5) ∧ dk cX11_chain 15 = some (.iload_n 2) ∧ dk cX11_chain 16 = some (.iload_n 3) ∧ dk cX11_chain 17 = some (.iload 4) ∧ dk cX11_chain 19 = some (.invokevirtual 181) ∧ cres 11 181 = some 135) ∧ (pM 135 = 4 ∧ sM 135 = false ∧ oM 135 = 11 ∧ dk cX11_chain 22 = some (.istore 6) ∧ dk cX11_chain 24 = some (.aload 5) ∧ dk cX11_chain 26 = some (.ifnull 8) ∧ jok 26 8 = true ∧ jmp 26 8 = 34 ∧ dk cX11_chain 29 = some (.iload 6) ∧ dk cX11_chain 31 = some (.ifCond .eq 6)) ∧ (jok 31 6 = true ∧ jmp 31 6 = 37 ∧ dk cX11_chain 34 = some (.iload 6) ∧ dk cX11_chain 36 = some (.ireturn) ∧ dk cX11_chain 37 = some (.aload_n 0) ∧ dk cX11_chain 38 = some (.getfield 47) ∧ fres 11 47 = some (11, 5, 0, true) ∧ dk cX11_chain 41 = some (.aload 5) ∧ dk cX11_chain 43 = some (.iload_n 3) ∧ dk cX11_chain 44 = some (.iload 4)) ∧ (dk cX11_chain 46 = some (.aload_n 0) ∧ dk cX11_chain 47 = some (.getfield 101) ∧ fres 11 101 = some (11, 12, 1, false) ∧ dk cX11_chain 50 = some (.invokevirtual 278) ∧ cres 11 278 = some 1 ∧ pM 1 = 4 ∧ sM 1 = false ∧ oM 1 = 0 ∧ dk cX11_chain 53 = some (.istore 7) ∧ dk cX11_chain 55 = some (.iload 7)) ∧ (dk cX11_chain 57 = some (.bipush (-9)) ∧ dk cX11_chain 59 = some (.if_icmp .eq 9) ∧ jok 59 9 = true ∧ jmp 59 9 = 68 ∧ dk cX11_chain 62 = some (.bipush (-100)) ∧ dk cX11_chain 64 = some (.iload 7) ∧ dk cX11_chain 66 = some (.isub) ∧ dk cX11_chain 67 = some (.ireturn) ∧ dk cX11_chain 68 = some (.aload_n 0) ∧ dk cX11_chain 69 = some (.getfield 40)) ∧ (fres 11 40 = some (11, 4, 0, true) ∧ dk cX11_chain 72 = some (.aload_n 0) ∧ dk cX11_chain 73 = some (.getfield 47) ∧ dk cX11_chain 76 = some (.invokevirtual 281) ∧ cres 11 281 = some 7 ∧ pM 7 = 1 ∧ sM 7 = false ∧ oM 7 = 1 ∧ dk cX11_chain 79 = some (.ireturn)) := ⟨by decide +kernel, by decide +kernel, by decide +kernel, by decide +kernel, by decide +kernel, by decide +kernel, by decide +kernel⟩
set_option maxRecDepth 100000 in
theorem N_X11_chain : ((yM 91).name = "<init>") = False ∧ ((yM 135).name = "<init>") = False ∧ ((yM 1).name = "<init>") = False ∧ ((yM 7).name = "<init>") = False := by simp only [eq_iff_iff, iff_false, iff_true]; decide +kernel
set_option maxRecDepth 100000 in
theorem D_X11_count : (dk cX11_count 0 = some (.iload_n 1) ∧ dk cX11_count 1 = some (.invokestatic 90) ∧ cres 11 90 = some 82 ∧ pM 82 = 1 ∧ sM 82 = true ∧ dk cX11_count 4 = some (.ifCond .ne 5) ∧ jok 4 5 = true ∧ jmp 4 5 = 9 ∧ dk cX11_count 7 = some (.iconst (-1)) ∧ dk cX11_count 8 = some (.ireturn)) ∧ (dk cX11_count 9 = some (.iload_n 2) ∧ dk cX11_count 10 = some (.iconst 0) ∧ dk cX11_count 11 = some (.bipush 13) ∧ dk cX11_count 13 = some (.invokestatic 86) ∧ cres 11 86 = some 81 ∧ pM 81 = 3 ∧ sM 81 = true ∧ dk cX11_count 16 = some (.ifCond .eq 14) ∧ jok 16 14 = true ∧ jmp 16 14 = 30) ∧ (dk cX11_count 19 = some (.iload_n 3) ∧ dk cX11_count 20 = some (.iconst 0) ∧ dk cX11_count 21 = some (.sipush 999) ∧ dk cX11_count 24 = some (.invokestatic 86) ∧ dk cX11_count 27 = some (.ifCond .ne 6) ∧ jok 27 6 = true ∧ jmp 27 6 = 33 ∧ dk cX11_count 30 = some (.bipush (-2)) ∧ dk cX11_count 32 = some (.ireturn) ∧ dk cX11_count 33 = some (.aload_n 0)) ∧ (dk cX11_count 34 = some (.getfield 54) ∧ fres 11 54 = some (11, 6, 0, true) ∧ dk cX11_count 37 = some (.iload_n 1) ∧ dk cX11_count 38 = some (.iload_n 2) ∧ dk cX11_count 39 = some (.iload_n 3) ∧ dk cX11_count 40 = some (.invokevirtual 285) ∧ cres 11 285 = some 11 ∧ pM 11 = 3 ∧ sM 11 = false ∧ oM 11 = 2) ∧ (dk cX11_count 43 = some (.ireturn)) := ⟨by decide +kernel, by decide +kernel, by decide +kernel, by decide +kernel, by decide +kernel⟩
set_option maxRecDepth 100000 in
theorem N_X11_count : ((yM 11).name = "<init>") = False := by simp only [eq_iff_iff, iff_false, iff_true]; decide +kernel
set_option maxRecDepth 100000 in
theorem D_X11_odds : (dk cX11_odds 0 = some (.iload_n 1) ∧ dk cX11_odds 1 = some (.invokestatic 90) ∧ cres 11 90 = some 82 ∧ pM 82 = 1 ∧ sM 82 = true ∧ dk cX11_odds 4 = some (.ifCond .eq 19) ∧ jok 4 19 = true ∧ jmp 4 19 = 23 ∧ dk cX11_odds 7 = some (.iload_n 2) ∧ dk cX11_odds 8 = some (.invokestatic 289)) ∧ (cres 11 289 = some 86 ∧ pM 86 = 1 ∧ sM 86 = true ∧ dk cX11_odds 11 = some (.ifCond .eq 12) ∧ jok 11 12 = true ∧ jmp 11 12 = 23 ∧ dk cX11_odds 14 = some (.iload_n 3) ∧ dk cX11_odds 15 = some (.iconst 0) ∧ dk cX11_odds 16 = some (.iconst 1) ∧ dk cX11_odds 17 = some (.invokestatic 86)) ∧ (cres 11 86 = some 81 ∧ pM 81 = 3 ∧ sM 81 = true ∧ dk cX11_odds 20 = some (.ifCond .ne 7) ∧ jok 20 7 = true ∧ jmp 20 7 = 27 ∧ dk cX11_odds 23 = some (.ldc2_w 108) ∧ lres 11 108 = some (-9223372036854775808) ∧ dk cX11_odds 26 = some (.lreturn) ∧ dk cX11_odds 27 = some (.aload_n 0)) ∧ (dk cX11_odds 28 = some (.getfield 54) ∧ fres 11 54 = some (11, 6, 0, true) ∧ dk cX11_odds 31 = some (.iload_n 1) ∧ dk cX11_odds 32 = some (.iload_n 2) ∧ dk cX11_odds 33 = some (.invokevirtual 292) ∧ cres 11 292 = some 14 ∧ pM 14 = 2 ∧ sM 14 = false ∧ oM 14 = 2 ∧ dk cX11_odds 36 = some (.i2l)) ∧ (dk cX11_odds 37 = some (.aload_n 0) ∧ dk cX11_odds 38 = some (.getfield 54) ∧ dk cX11_odds 41 = some (.iload_n 2) ∧ dk cX11_odds 42 = some (.invokevirtual 295) ∧ cres 11 295 = some 13 ∧ pM 13 = 1 ∧ sM 13 = false ∧ oM 13 = 2 ∧ dk cX11_odds 45 = some (.i2l) ∧ dk cX11_odds 46 = some (.iload_n 3)) ∧ (dk cX11_odds 47 = some (.invokestatic 274) ∧ cres 11 274 = some 93 ∧ pM 93 = 3 ∧ sM 93 = true ∧ dk cX11_odds 50 = some (.lreturn)) := ⟨by decide +kernel, by decide +kernel, by decide +kernel, by decide +kernel, by decide +kernel, by decide +kernel⟩
set_option maxRecDepth 100000 in
theorem N_X11_odds : ((yM 14).name = "<init>") = False ∧ ((yM 13).name = "<init>") = False := by simp only [eq_iff_iff, iff_false, iff_true]; decide +kernel
set_option maxRecDepth 100000 in
theorem D_X11_group : (dk cX11_group 0 = some (.iload_n 1) ∧ dk cX11_group 1 = some (.invokestatic 90) ∧ cres 11 90 = some 82 ∧ pM 82 = 1 ∧ sM 82 = true ∧ dk cX11_group 4 = some (.ifCond .ne 5) ∧ jok 4 5 = true ∧ jmp 4 5 = 9 ∧ dk cX11_group 7 = some (.iconst (-1)) ∧ dk cX11_group 8 = some (.ireturn)) ∧ (dk cX11_group 9 = some (.iload_n 2) ∧ dk cX11_group 10 = some (.iconst 0) ∧ dk cX11_group 11 = some (.iconst 3) ∧ dk cX11_group 12 = some (.invokestatic 86) ∧ cres 11 86 = some 81 ∧ pM 81 = 3 ∧ sM 81 = true ∧ dk cX11_group 15 = some (.ifCond .ne 6) ∧ jok 15 6 = true ∧ jmp 15 6 = 21) ∧ (dk cX11_group 18 = some (.bipush (-2)) ∧ dk cX11_group 20 = some (.ireturn) ∧ dk cX11_group 21 = some (.aload_n 0) ∧ dk cX11_group 22 = some (.getfield 54) ∧ fres 11 54 = some (11, 6, 0, true) ∧ dk cX11_group 25 = some (.getfield 298) ∧ fres 11 298 = some (2, 1, 0, true) ∧ dk cX11_group 28 = some (.iload_n 1) ∧ dk cX11_group 29 = some (.iaload) ∧ dk cX11_group 30 = some (.istore_n 3)) ∧ (dk cX11_group 31 = some (.aload_n 0) ∧ dk cX11_group 32 = some (.getfield 54) ∧ dk cX11_group 35 = some (.getfield 298) ∧ dk cX11_group 38 = some (.iload_n 1) ∧ dk cX11_group 39 = some (.iload_n 2) ∧ dk cX11_group 40 = some (.iastore) ∧ dk cX11_group 41 = some (.iload_n 3) ∧ dk cX11_group 42 = some (.ireturn)) := ⟨by decide +kernel, by decide +kernel, by decide +kernel, by decide +kernel⟩
set_option maxRecDepth 100000 in
theorem D_X11_likes : (dk cX11_likes 0 = some (.iload_n 1) ∧ dk cX11_likes 1 = some (.invokestatic 90) ∧ cres 11 90 = some 82 ∧ pM 82 = 1 ∧ sM 82 = true ∧ dk cX11_likes 4 = some (.ifCond .ne 5) ∧ jok 4 5 = true ∧ jmp 4 5 = 9 ∧ dk cX11_likes 7 = some (.iconst (-1)) ∧ dk cX11_likes 8 = some (.ireturn)) ∧ (dk cX11_likes 9 = some (.iload_n 2) ∧ dk cX11_likes 10 = some (.invokestatic 289) ∧ cres 11 289 = some 86 ∧ pM 86 = 1 ∧ sM 86 = true ∧ dk cX11_likes 13 = some (.ifCond .eq 15) ∧ jok 13 15 = true ∧ jmp 13 15 = 28 ∧ dk cX11_likes 16 = some (.aload_n 0) ∧ dk cX11_likes 17 = some (.getfield 54)) ∧ (fres 11 54 = some (11, 6, 0, true) ∧ dk cX11_likes 20 = some (.iload_n 1) ∧ dk cX11_likes 21 = some (.iload_n 2) ∧ dk cX11_likes 22 = some (.invokevirtual 301) ∧ cres 11 301 = some 16 ∧ pM 16 = 2 ∧ sM 16 = false ∧ oM 16 = 2 ∧ dk cX11_likes 25 = some (.goto 5) ∧ jok 25 5 = true) ∧ (jmp 25 5 = 30 ∧ dk cX11_likes 28 = some (.bipush (-2)) ∧ dk cX11_likes 30 = some (.ireturn)) := ⟨by decide +kernel, by decide +kernel, by decide +kernel, by decide +kernel⟩
set_option maxRecDepth 100000 in
theorem N_X11_likes : ((yM 16).name = "<init>") = False := by simp only [eq_iff_iff, iff_false, iff_true]; decide +kernel
set_option maxRecDepth 100000 in
theorem D_X11_put : (dk cX11_put 0 = some (.iload_n 1) ∧ dk cX11_put 1 = some (.invokestatic 304) ∧ cres 11 304 = some 51 ∧ pM 51 = 1 ∧ sM 51 = true ∧ dk cX11_put 4 = some (.ifCond .eq 13) ∧ jok 4 13 = true ∧ jmp 4 13 = 17 ∧ dk cX11_put 7 = some (.iload_n 2) ∧ dk cX11_put 8 = some (.iconst 1)) ∧ (dk cX11_put 9 = some (.bipush 99) ∧ dk cX11_put 11 = some (.invokestatic 86) ∧ cres 11 86 = some 81 ∧ pM 81 = 3 ∧ sM 81 = true ∧ dk cX11_put 14 = some (.ifCond .ne 6) ∧ jok 14 6 = true ∧ jmp 14 6 = 20 ∧ dk cX11_put 17 = some (.bipush (-2)) ∧ dk cX11_put 19 = some (.ireturn)) ∧ (dk cX11_put 20 = some (.aload_n 0) ∧ dk cX11_put 21 = some (.getfield 61) ∧ fres 11 61 = some (11, 7, 0, true) ∧ dk cX11_put 24 = some (.iload_n 1) ∧ dk cX11_put 25 = some (.iload_n 2) ∧ dk cX11_put 26 = some (.invokevirtual 307) ∧ cres 11 307 = some 54 ∧ pM 54 = 2 ∧ sM 54 = false ∧ oM 54 = 7) ∧ (dk cX11_put 29 = some (.ifCond .eq 14) ∧ jok 29 14 = true ∧ jmp 29 14 = 43 ∧ dk cX11_put 32 = some (.aload_n 0) ∧ dk cX11_put 33 = some (.getfield 61) ∧ dk cX11_put 36 = some (.iload_n 1) ∧ dk cX11_put 37 = some (.invokevirtual 310) ∧ cres 11 310 = some 55 ∧ pM 55 = 1 ∧ sM 55 = false) ∧ (oM 55 = 7 ∧ dk cX11_put 40 = some (.goto 5) ∧ jok 40 5 = true ∧ jmp 40 5 = 45 ∧ dk cX11_put 43 = some (.bipush (-4)) ∧ dk cX11_put 45 = some (.ireturn)) := ⟨by decide +kernel, by decide +kernel, by decide +kernel, by decide +kernel, by decide +kernel⟩
set_option maxRecDepth 100000 in
theorem N_X11_put : ((yM 54).name = "<init>") = False ∧ ((yM 55).name = "<init>") = False := by simp only [eq_iff_iff, iff_false, iff_true]; decide +kernel
set_option maxRecDepth 100000 in
theorem D_X11_told : (dk cX11_told 0 = some (.iload_n 1) ∧ dk cX11_told 1 = some (.invokestatic 304) ∧ cres 11 304 = some 51 ∧ pM 51 = 1 ∧ sM 51 = true ∧ dk cX11_told 4 = some (.ifCond .eq 12) ∧ jok 4 12 = true ∧ jmp 4 12 = 16 ∧ dk cX11_told 7 = some (.iload_n 2) ∧ dk cX11_told 8 = some (.iconst 0)) ∧ (dk cX11_told 9 = some (.iconst 1) ∧ dk cX11_told 10 = some (.invokestatic 86) ∧ cres 11 86 = some 81 ∧ pM 81 = 3 ∧ sM 81 = true ∧ dk cX11_told 13 = some (.ifCond .ne 6) ∧ jok 13 6 = true ∧ jmp 13 6 = 19 ∧ dk cX11_told 16 = some (.bipush (-2)) ∧ dk cX11_told 18 = some (.ireturn)) ∧ (dk cX11_told 19 = some (.iload_n 2) ∧ dk cX11_told 20 = some (.ifCond .ne 14) ∧ jok 20 14 = true ∧ jmp 20 14 = 34 ∧ dk cX11_told 23 = some (.aload_n 0) ∧ dk cX11_told 24 = some (.getfield 61) ∧ fres 11 61 = some (11, 7, 0, true) ∧ dk cX11_told 27 = some (.iload_n 1) ∧ dk cX11_told 28 = some (.invokevirtual 310) ∧ cres 11 310 = some 55) ∧ (pM 55 = 1 ∧ sM 55 = false ∧ oM 55 = 7 ∧ dk cX11_told 31 = some (.goto 11) ∧ jok 31 11 = true ∧ jmp 31 11 = 42 ∧ dk cX11_told 34 = some (.aload_n 0) ∧ dk cX11_told 35 = some (.getfield 61) ∧ dk cX11_told 38 = some (.iload_n 1) ∧ dk cX11_told 39 = some (.invokevirtual 313)) ∧ (cres 11 313 = some 56 ∧ pM 56 = 1 ∧ sM 56 = false ∧ oM 56 = 7 ∧ dk cX11_told 42 = some (.ireturn)) := ⟨by decide +kernel, by decide +kernel, by decide +kernel, by decide +kernel, by decide +kernel⟩
set_option maxRecDepth 100000 in
theorem N_X11_told : ((yM 55).name = "<init>") = False ∧ ((yM 56).name = "<init>") = False := by simp only [eq_iff_iff, iff_false, iff_true]; decide +kernel
set_option maxRecDepth 100000 in
theorem D_X11_miss : dk cX11_miss 0 = some (.aload_n 0) ∧ dk cX11_miss 1 = some (.getfield 61) ∧ fres 11 61 = some (11, 7, 0, true) ∧ dk cX11_miss 4 = some (.invokevirtual 316) ∧ cres 11 316 = some 57 ∧ pM 57 = 0 ∧ sM 57 = false ∧ oM 57 = 7 ∧ dk cX11_miss 7 = some (.ireturn) := by decide +kernel
set_option maxRecDepth 100000 in
theorem N_X11_miss : ((yM 57).name = "<init>") = False := by simp only [eq_iff_iff, iff_false, iff_true]; decide +kernel
set_option maxRecDepth 100000 in
theorem D_X11_isSign : dk cX11_isSign 0 = some (.iload_n 0) ∧ dk cX11_isSign 1 = some (.iconst 0) ∧ dk cX11_isSign 2 = some (.iconst 3) ∧ dk cX11_isSign 3 = some (.invokestatic 86) ∧ cres 11 86 = some 81 ∧ pM 81 = 3 ∧ sM 81 = true ∧ dk cX11_isSign 6 = some (.ireturn) := by decide +kernel
set_option maxRecDepth 100000 in
theorem D_X11_bar : (dk cX11_bar 0 = some (.iload_n 1) ∧ dk cX11_bar 1 = some (.invokestatic 319) ∧ cres 11 319 = some 119 ∧ pM 119 = 1 ∧ sM 119 = true ∧ dk cX11_bar 4 = some (.ifCond .eq 10) ∧ jok 4 10 = true ∧ jmp 4 10 = 14 ∧ dk cX11_bar 7 = some (.iload_n 2) ∧ dk cX11_bar 8 = some (.invokestatic 319)) ∧ (dk cX11_bar 11 = some (.ifCond .ne 6) ∧ jok 11 6 = true ∧ jmp 11 6 = 17 ∧ dk cX11_bar 14 = some (.bipush (-2)) ∧ dk cX11_bar 16 = some (.ireturn) ∧ dk cX11_bar 17 = some (.aload_n 0) ∧ dk cX11_bar 18 = some (.getfield 68) ∧ fres 11 68 = some (11, 8, 0, true) ∧ dk cX11_bar 21 = some (.iload_n 1) ∧ dk cX11_bar 22 = some (.iload_n 2)) ∧ (dk cX11_bar 23 = some (.invokevirtual 322) ∧ cres 11 322 = some 67 ∧ pM 67 = 2 ∧ sM 67 = false ∧ oM 67 = 9 ∧ dk cX11_bar 26 = some (.iload_n 3) ∧ dk cX11_bar 27 = some (.if_icmp .ne 5) ∧ jok 27 5 = true ∧ jmp 27 5 = 32 ∧ dk cX11_bar 30 = some (.iconst 0)) ∧ (dk cX11_bar 31 = some (.ireturn) ∧ dk cX11_bar 32 = some (.aload_n 0) ∧ dk cX11_bar 33 = some (.getfield 68) ∧ dk cX11_bar 36 = some (.iload_n 1) ∧ dk cX11_bar 37 = some (.iload_n 2) ∧ dk cX11_bar 38 = some (.invokevirtual 325) ∧ cres 11 325 = some 68 ∧ pM 68 = 2 ∧ sM 68 = false ∧ oM 68 = 9) ∧ (dk cX11_bar 41 = some (.iconst 1) ∧ dk cX11_bar 42 = some (.ireturn)) := ⟨by decide +kernel, by decide +kernel, by decide +kernel, by decide +kernel, by decide +kernel⟩
set_option maxRecDepth 100000 in
theorem N_X11_bar : ((yM 67).name = "<init>") = False ∧ ((yM 68).name = "<init>") = False := by simp only [eq_iff_iff, iff_false, iff_true]; decide +kernel
set_option maxRecDepth 100000 in
theorem D_X11_grow : (dk cX11_grow 0 = some (.aload_n 0) ∧ dk cX11_grow 1 = some (.iconst 0) ∧ dk cX11_grow 2 = some (.putfield 167) ∧ fres 11 167 = some (11, 14, 1, false) ∧ isBo (tyN 11 14) = false ∧ dk cX11_grow 5 = some (.aload_n 0) ∧ dk cX11_grow 6 = some (.iload_n 1) ∧ dk cX11_grow 7 = some (.invokevirtual 174) ∧ cres 11 174 = some 91 ∧ pM 91 = 1) ∧ (sM 91 = false ∧ oM 91 = 11 ∧ dk cX11_grow 10 = some (.astore 5) ∧ dk cX11_grow 12 = some (.aload_n 0) ∧ dk cX11_grow 13 = some (.aload 5) ∧ dk cX11_grow 15 = some (.iload_n 2) ∧ dk cX11_grow 16 = some (.iload_n 3) ∧ dk cX11_grow 17 = some (.iload 4) ∧ dk cX11_grow 19 = some (.invokevirtual 181) ∧ cres 11 181 = some 135) ∧ (pM 135 = 4 ∧ sM 135 = false ∧ oM 135 = 11 ∧ dk cX11_grow 22 = some (.istore 6) ∧ dk cX11_grow 24 = some (.aload 5) ∧ dk cX11_grow 26 = some (.ifnull 8) ∧ jok 26 8 = true ∧ jmp 26 8 = 34 ∧ dk cX11_grow 29 = some (.iload 6) ∧ dk cX11_grow 31 = some (.ifCond .eq 6)) ∧ (jok 31 6 = true ∧ jmp 31 6 = 37 ∧ dk cX11_grow 34 = some (.iload 6) ∧ dk cX11_grow 36 = some (.ireturn) ∧ dk cX11_grow 37 = some (.iload 4) ∧ dk cX11_grow 39 = some (.iconst 1) ∧ dk cX11_grow 40 = some (.bipush 10) ∧ dk cX11_grow 42 = some (.invokestatic 86) ∧ cres 11 86 = some 81 ∧ pM 81 = 3) ∧ (sM 81 = true ∧ dk cX11_grow 45 = some (.ifCond .eq 16) ∧ jok 45 16 = true ∧ jmp 45 16 = 61 ∧ dk cX11_grow 48 = some (.aload 5) ∧ dk cX11_grow 50 = some (.iload_n 3) ∧ dk cX11_grow 51 = some (.iload 4) ∧ dk cX11_grow 53 = some (.iconst 0) ∧ dk cX11_grow 54 = some (.iconst 3) ∧ dk cX11_grow 55 = some (.invokevirtual 185)) ∧ (cres 11 185 = some 48 ∧ pM 48 = 4 ∧ sM 48 = false ∧ oM 48 = 6 ∧ dk cX11_grow 58 = some (.ifCond .ne 6) ∧ jok 58 6 = true ∧ jmp 58 6 = 64 ∧ dk cX11_grow 61 = some (.bipush (-2)) ∧ dk cX11_grow 63 = some (.ireturn) ∧ dk cX11_grow 64 = some (.aload_n 0)) ∧ (dk cX11_grow 65 = some (.getfield 68) ∧ fres 11 68 = some (11, 8, 0, true) ∧ dk cX11_grow 68 = some (.aload 5) ∧ dk cX11_grow 70 = some (.iload_n 3) ∧ dk cX11_grow 71 = some (.iload 4) ∧ dk cX11_grow 73 = some (.invokevirtual 328) ∧ cres 11 328 = some 70 ∧ pM 70 = 3 ∧ sM 70 = false ∧ oM 70 = 9) ∧ (dk cX11_grow 76 = some (.ireturn)) := ⟨by decide +kernel, by decide +kernel, by decide +kernel, by decide +kernel, by decide +kernel, by decide +kernel, by decide +kernel, by decide +kernel⟩
set_option maxRecDepth 100000 in
theorem N_X11_grow : ((yM 91).name = "<init>") = False ∧ ((yM 135).name = "<init>") = False ∧ ((yM 48).name = "<init>") = False ∧ ((yM 70).name = "<init>") = False := by simp only [eq_iff_iff, iff_false, iff_true]; decide +kernel
set_option maxRecDepth 100000 in
theorem D_X11_gone : (dk cX11_gone 0 = some (.aload_n 0) ∧ dk cX11_gone 1 = some (.iconst 0) ∧ dk cX11_gone 2 = some (.putfield 167) ∧ fres 11 167 = some (11, 14, 1, false) ∧ isBo (tyN 11 14) = false ∧ dk cX11_gone 5 = some (.aload_n 0) ∧ dk cX11_gone 6 = some (.iload_n 1) ∧ dk cX11_gone 7 = some (.invokevirtual 174) ∧ cres 11 174 = some 91 ∧ pM 91 = 1) ∧ (sM 91 = false ∧ oM 91 = 11 ∧ dk cX11_gone 10 = some (.astore 5) ∧ dk cX11_gone 12 = some (.aload_n 0) ∧ dk cX11_gone 13 = some (.aload 5) ∧ dk cX11_gone 15 = some (.iload_n 2) ∧ dk cX11_gone 16 = some (.iload_n 3) ∧ dk cX11_gone 17 = some (.iload 4) ∧ dk cX11_gone 19 = some (.invokevirtual 181) ∧ cres 11 181 = some 135) ∧ (pM 135 = 4 ∧ sM 135 = false ∧ oM 135 = 11 ∧ dk cX11_gone 22 = some (.istore 6) ∧ dk cX11_gone 24 = some (.aload 5) ∧ dk cX11_gone 26 = some (.ifnull 8) ∧ jok 26 8 = true ∧ jmp 26 8 = 34 ∧ dk cX11_gone 29 = some (.iload 6) ∧ dk cX11_gone 31 = some (.ifCond .eq 6)) ∧ (jok 31 6 = true ∧ jmp 31 6 = 37 ∧ dk cX11_gone 34 = some (.iload 6) ∧ dk cX11_gone 36 = some (.ireturn) ∧ dk cX11_gone 37 = some (.iload 4) ∧ dk cX11_gone 39 = some (.iconst 0) ∧ dk cX11_gone 40 = some (.bipush 10) ∧ dk cX11_gone 42 = some (.invokestatic 86) ∧ cres 11 86 = some 81 ∧ pM 81 = 3) ∧ (sM 81 = true ∧ dk cX11_gone 45 = some (.ifCond .eq 16) ∧ jok 45 16 = true ∧ jmp 45 16 = 61 ∧ dk cX11_gone 48 = some (.aload 5) ∧ dk cX11_gone 50 = some (.iload_n 3) ∧ dk cX11_gone 51 = some (.iload 4) ∧ dk cX11_gone 53 = some (.iconst 0) ∧ dk cX11_gone 54 = some (.iconst 3) ∧ dk cX11_gone 55 = some (.invokevirtual 185)) ∧ (cres 11 185 = some 48 ∧ pM 48 = 4 ∧ sM 48 = false ∧ oM 48 = 6 ∧ dk cX11_gone 58 = some (.ifCond .ne 6) ∧ jok 58 6 = true ∧ jmp 58 6 = 64 ∧ dk cX11_gone 61 = some (.bipush (-2)) ∧ dk cX11_gone 63 = some (.ireturn) ∧ dk cX11_gone 64 = some (.aload_n 0)) ∧ (dk cX11_gone 65 = some (.getfield 68) ∧ fres 11 68 = some (11, 8, 0, true) ∧ dk cX11_gone 68 = some (.aload 5) ∧ dk cX11_gone 70 = some (.iload_n 3) ∧ dk cX11_gone 71 = some (.iload 4) ∧ dk cX11_gone 73 = some (.invokevirtual 332) ∧ cres 11 332 = some 74 ∧ pM 74 = 3 ∧ sM 74 = false ∧ oM 74 = 9) ∧ (dk cX11_gone 76 = some (.ireturn)) := ⟨by decide +kernel, by decide +kernel, by decide +kernel, by decide +kernel, by decide +kernel, by decide +kernel, by decide +kernel, by decide +kernel⟩
set_option maxRecDepth 100000 in
theorem N_X11_gone : ((yM 91).name = "<init>") = False ∧ ((yM 135).name = "<init>") = False ∧ ((yM 48).name = "<init>") = False ∧ ((yM 74).name = "<init>") = False := by simp only [eq_iff_iff, iff_false, iff_true]; decide +kernel
set_option maxRecDepth 100000 in
theorem D_X11_answer : (dk cX11_answer 0 = some (.iload_n 1) ∧ dk cX11_answer 1 = some (.iconst 0) ∧ dk cX11_answer 2 = some (.aload_n 0) ∧ dk cX11_answer 3 = some (.getfield 68) ∧ fres 11 68 = some (11, 8, 0, true) ∧ dk cX11_answer 6 = some (.getfield 335) ∧ fres 11 335 = some (9, 4, 1, false) ∧ dk cX11_answer 9 = some (.iconst 1) ∧ dk cX11_answer 10 = some (.isub) ∧ dk cX11_answer 11 = some (.invokestatic 86)) ∧ (cres 11 86 = some 81 ∧ pM 81 = 3 ∧ sM 81 = true ∧ dk cX11_answer 14 = some (.ifCond .ne 5) ∧ jok 14 5 = true ∧ jmp 14 5 = 19 ∧ dk cX11_answer 17 = some (.iconst (-1)) ∧ dk cX11_answer 18 = some (.ireturn) ∧ dk cX11_answer 19 = some (.iload_n 2) ∧ dk cX11_answer 20 = some (.iconst 0)) ∧ (dk cX11_answer 21 = some (.bipush 99) ∧ dk cX11_answer 23 = some (.invokestatic 86) ∧ dk cX11_answer 26 = some (.ifCond .ne 6) ∧ jok 26 6 = true ∧ jmp 26 6 = 32 ∧ dk cX11_answer 29 = some (.bipush (-2)) ∧ dk cX11_answer 31 = some (.ireturn) ∧ dk cX11_answer 32 = some (.aload_n 0) ∧ dk cX11_answer 33 = some (.getfield 68) ∧ dk cX11_answer 36 = some (.getfield 338)) ∧ (fres 11 338 = some (9, 2, 0, true) ∧ dk cX11_answer 39 = some (.iload_n 1) ∧ dk cX11_answer 40 = some (.iaload) ∧ dk cX11_answer 41 = some (.istore_n 3) ∧ dk cX11_answer 42 = some (.aload_n 0) ∧ dk cX11_answer 43 = some (.getfield 68) ∧ dk cX11_answer 46 = some (.getfield 338) ∧ dk cX11_answer 49 = some (.iload_n 1) ∧ dk cX11_answer 50 = some (.iload_n 2) ∧ dk cX11_answer 51 = some (.iastore)) ∧ (dk cX11_answer 52 = some (.iload_n 3) ∧ dk cX11_answer 53 = some (.ireturn)) := ⟨by decide +kernel, by decide +kernel, by decide +kernel, by decide +kernel, by decide +kernel⟩
set_option maxRecDepth 100000 in
theorem D_X11_next : (dk cX11_next 0 = some (.iload_n 1) ∧ dk cX11_next 1 = some (.iconst 0) ∧ dk cX11_next 2 = some (.aload_n 0) ∧ dk cX11_next 3 = some (.getfield 68) ∧ fres 11 68 = some (11, 8, 0, true) ∧ dk cX11_next 6 = some (.getfield 335) ∧ fres 11 335 = some (9, 4, 1, false) ∧ dk cX11_next 9 = some (.iconst 1) ∧ dk cX11_next 10 = some (.isub) ∧ dk cX11_next 11 = some (.invokestatic 86)) ∧ (cres 11 86 = some 81 ∧ pM 81 = 3 ∧ sM 81 = true ∧ dk cX11_next 14 = some (.ifCond .ne 5) ∧ jok 14 5 = true ∧ jmp 14 5 = 19 ∧ dk cX11_next 17 = some (.iconst (-1)) ∧ dk cX11_next 18 = some (.ireturn) ∧ dk cX11_next 19 = some (.iload_n 2) ∧ dk cX11_next 20 = some (.invokestatic 319)) ∧ (cres 11 319 = some 119 ∧ pM 119 = 1 ∧ sM 119 = true ∧ dk cX11_next 23 = some (.ifCond .ne 6) ∧ jok 23 6 = true ∧ jmp 23 6 = 29 ∧ dk cX11_next 26 = some (.bipush (-2)) ∧ dk cX11_next 28 = some (.ireturn) ∧ dk cX11_next 29 = some (.aload_n 0) ∧ dk cX11_next 30 = some (.getfield 68)) ∧ (dk cX11_next 33 = some (.iload_n 1) ∧ dk cX11_next 34 = some (.iload_n 2) ∧ dk cX11_next 35 = some (.invokevirtual 341) ∧ cres 11 341 = some 69 ∧ pM 69 = 2 ∧ sM 69 = false ∧ oM 69 = 9 ∧ dk cX11_next 38 = some (.istore_n 3) ∧ dk cX11_next 39 = some (.iload_n 3) ∧ dk cX11_next 40 = some (.ifCond .ne 8)) ∧ (jok 40 8 = true ∧ jmp 40 8 = 48 ∧ dk cX11_next 43 = some (.bipush (-9)) ∧ dk cX11_next 45 = some (.goto 4) ∧ jok 45 4 = true ∧ jmp 45 4 = 49 ∧ dk cX11_next 48 = some (.iload_n 3) ∧ dk cX11_next 49 = some (.ireturn)) := ⟨by decide +kernel, by decide +kernel, by decide +kernel, by decide +kernel, by decide +kernel⟩
set_option maxRecDepth 100000 in
theorem N_X11_next : ((yM 69).name = "<init>") = False := by simp only [eq_iff_iff, iff_false, iff_true]; decide +kernel
set_option maxRecDepth 100000 in
theorem D_X11_rows : (dk cX11_rows 0 = some (.iload_n 1) ∧ dk cX11_rows 1 = some (.iconst 0) ∧ dk cX11_rows 2 = some (.bipush 20) ∧ dk cX11_rows 4 = some (.invokestatic 86) ∧ cres 11 86 = some 81 ∧ pM 81 = 3 ∧ sM 81 = true ∧ dk cX11_rows 7 = some (.ifCond .eq 14) ∧ jok 7 14 = true ∧ jmp 7 14 = 21) ∧ (dk cX11_rows 10 = some (.aload_n 0) ∧ dk cX11_rows 11 = some (.getfield 68) ∧ fres 11 68 = some (11, 8, 0, true) ∧ dk cX11_rows 14 = some (.iload_n 1) ∧ dk cX11_rows 15 = some (.invokevirtual 344) ∧ cres 11 344 = some 75 ∧ pM 75 = 1 ∧ sM 75 = false ∧ oM 75 = 9 ∧ dk cX11_rows 18 = some (.goto 5)) ∧ (jok 18 5 = true ∧ jmp 18 5 = 23 ∧ dk cX11_rows 21 = some (.bipush (-2)) ∧ dk cX11_rows 23 = some (.ireturn)) := ⟨by decide +kernel, by decide +kernel, by decide +kernel⟩
set_option maxRecDepth 100000 in
theorem N_X11_rows : ((yM 75).name = "<init>") = False := by simp only [eq_iff_iff, iff_false, iff_true]; decide +kernel
set_option maxRecDepth 100000 in
theorem D_X11_work : (dk cX11_work 0 = some (.iload_n 1) ∧ dk cX11_work 1 = some (.iload_n 2) ∧ dk cX11_work 2 = some (.invokestatic 110) ∧ cres 11 110 = some 83 ∧ pM 83 = 2 ∧ sM 83 = true ∧ dk cX11_work 5 = some (.ifCond .ne 5) ∧ jok 5 5 = true ∧ jmp 5 5 = 10 ∧ dk cX11_work 8 = some (.iconst (-1))) ∧ (dk cX11_work 9 = some (.ireturn) ∧ dk cX11_work 10 = some (.iload_n 1) ∧ dk cX11_work 11 = some (.iload_n 2) ∧ dk cX11_work 12 = some (.if_icmp .eq 13) ∧ jok 12 13 = true ∧ jmp 12 13 = 25 ∧ dk cX11_work 15 = some (.iload_n 3) ∧ dk cX11_work 16 = some (.iconst 1) ∧ dk cX11_work 17 = some (.bipush 99) ∧ dk cX11_work 19 = some (.invokestatic 86)) ∧ (cres 11 86 = some 81 ∧ pM 81 = 3 ∧ sM 81 = true ∧ dk cX11_work 22 = some (.ifCond .ne 6) ∧ jok 22 6 = true ∧ jmp 22 6 = 28 ∧ dk cX11_work 25 = some (.bipush (-2)) ∧ dk cX11_work 27 = some (.ireturn) ∧ dk cX11_work 28 = some (.aload_n 0) ∧ dk cX11_work 29 = some (.getfield 21)) ∧ (fres 11 21 = some (11, 1, 0, true) ∧ dk cX11_work 32 = some (.iload_n 1) ∧ dk cX11_work 33 = some (.iload_n 2) ∧ dk cX11_work 34 = some (.iload_n 3) ∧ dk cX11_work 35 = some (.invokevirtual 347) ∧ cres 11 347 = some 77 ∧ pM 77 = 3 ∧ sM 77 = false ∧ oM 77 = 10 ∧ dk cX11_work 38 = some (.ireturn)) := ⟨by decide +kernel, by decide +kernel, by decide +kernel, by decide +kernel⟩
set_option maxRecDepth 100000 in
theorem N_X11_work : ((yM 77).name = "<init>") = False := by simp only [eq_iff_iff, iff_false, iff_true]; decide +kernel
set_option maxRecDepth 100000 in
theorem D_X11_still : (dk cX11_still 0 = some (.aload_n 0) ∧ dk cX11_still 1 = some (.iload_n 1) ∧ dk cX11_still 2 = some (.invokevirtual 349) ∧ cres 11 349 = some 88 ∧ pM 88 = 1 ∧ sM 88 = false ∧ oM 88 = 11 ∧ dk cX11_still 5 = some (.ifCond .eq 12) ∧ jok 5 12 = true ∧ jmp 5 12 = 17) ∧ (dk cX11_still 8 = some (.iload_n 2) ∧ dk cX11_still 9 = some (.iconst 0) ∧ dk cX11_still 10 = some (.iconst 1) ∧ dk cX11_still 11 = some (.invokestatic 86) ∧ cres 11 86 = some 81 ∧ pM 81 = 3 ∧ sM 81 = true ∧ dk cX11_still 14 = some (.ifCond .ne 6) ∧ jok 14 6 = true ∧ jmp 14 6 = 20) ∧ (dk cX11_still 17 = some (.bipush (-2)) ∧ dk cX11_still 19 = some (.ireturn) ∧ dk cX11_still 20 = some (.aload_n 0) ∧ dk cX11_still 21 = some (.getfield 14) ∧ fres 11 14 = some (11, 0, 0, true) ∧ dk cX11_still 24 = some (.iload_n 1) ∧ dk cX11_still 25 = some (.invokevirtual 154) ∧ cres 11 154 = some 31 ∧ pM 31 = 1 ∧ sM 31 = false) ∧ (oM 31 = 4 ∧ dk cX11_still 28 = some (.aload_n 0) ∧ dk cX11_still 29 = some (.getfield 21) ∧ fres 11 21 = some (11, 1, 0, true) ∧ dk cX11_still 32 = some (.aload_n 0) ∧ dk cX11_still 33 = some (.getfield 14) ∧ dk cX11_still 36 = some (.invokevirtual 352) ∧ cres 11 352 = some 78 ∧ pM 78 = 1 ∧ sM 78 = false) ∧ (oM 78 = 10 ∧ dk cX11_still 39 = some (.istore_n 3) ∧ dk cX11_still 40 = some (.iload_n 2) ∧ dk cX11_still 41 = some (.ifCond .ne 7) ∧ jok 41 7 = true ∧ jmp 41 7 = 48 ∧ dk cX11_still 44 = some (.iload_n 3) ∧ dk cX11_still 45 = some (.goto 11) ∧ jok 45 11 = true ∧ jmp 45 11 = 56) ∧ (dk cX11_still 48 = some (.aload_n 0) ∧ dk cX11_still 49 = some (.getfield 21) ∧ dk cX11_still 52 = some (.iload_n 3) ∧ dk cX11_still 53 = some (.invokevirtual 356) ∧ cres 11 356 = some 79 ∧ pM 79 = 1 ∧ sM 79 = false ∧ oM 79 = 10 ∧ dk cX11_still 56 = some (.ireturn)) := ⟨by decide +kernel, by decide +kernel, by decide +kernel, by decide +kernel, by decide +kernel, by decide +kernel⟩
set_option maxRecDepth 100000 in
theorem N_X11_still : ((yM 88).name = "<init>") = False ∧ ((yM 31).name = "<init>") = False ∧ ((yM 78).name = "<init>") = False ∧ ((yM 79).name = "<init>") = False := by simp only [eq_iff_iff, iff_false, iff_true]; decide +kernel
set_option maxRecDepth 100000 in
theorem D_X11_parted : (dk cX11_parted 0 = some (.iload_n 1) ∧ dk cX11_parted 1 = some (.iload_n 2) ∧ dk cX11_parted 2 = some (.invokestatic 359) ∧ cres 11 359 = some 87 ∧ pM 87 = 2 ∧ sM 87 = true ∧ dk cX11_parted 5 = some (.ifCond .eq 11) ∧ jok 5 11 = true ∧ jmp 5 11 = 16 ∧ dk cX11_parted 8 = some (.aload_n 0)) ∧ (dk cX11_parted 9 = some (.iload_n 3) ∧ dk cX11_parted 10 = some (.invokevirtual 349) ∧ cres 11 349 = some 88 ∧ pM 88 = 1 ∧ sM 88 = false ∧ oM 88 = 11 ∧ dk cX11_parted 13 = some (.ifCond .ne 6) ∧ jok 13 6 = true ∧ jmp 13 6 = 19 ∧ dk cX11_parted 16 = some (.bipush (-2))) ∧ (dk cX11_parted 18 = some (.ireturn) ∧ dk cX11_parted 19 = some (.aload_n 0) ∧ dk cX11_parted 20 = some (.getfield 14) ∧ fres 11 14 = some (11, 0, 0, true) ∧ dk cX11_parted 23 = some (.iload_n 3) ∧ dk cX11_parted 24 = some (.invokevirtual 154) ∧ cres 11 154 = some 31 ∧ pM 31 = 1 ∧ sM 31 = false ∧ oM 31 = 4) ∧ (dk cX11_parted 27 = some (.aload_n 0) ∧ dk cX11_parted 28 = some (.getfield 14) ∧ dk cX11_parted 31 = some (.iload_n 1) ∧ dk cX11_parted 32 = some (.iload_n 2) ∧ dk cX11_parted 33 = some (.invokevirtual 362) ∧ cres 11 362 = some 34 ∧ pM 34 = 2 ∧ sM 34 = false ∧ oM 34 = 4 ∧ dk cX11_parted 36 = some (.ifCond .eq 7)) ∧ (jok 36 7 = true ∧ jmp 36 7 = 43 ∧ dk cX11_parted 39 = some (.iconst 1) ∧ dk cX11_parted 40 = some (.goto 4) ∧ jok 40 4 = true ∧ jmp 40 4 = 44 ∧ dk cX11_parted 43 = some (.iconst 0) ∧ dk cX11_parted 44 = some (.ireturn)) := ⟨by decide +kernel, by decide +kernel, by decide +kernel, by decide +kernel, by decide +kernel⟩
set_option maxRecDepth 100000 in
theorem N_X11_parted : ((yM 88).name = "<init>") = False ∧ ((yM 31).name = "<init>") = False ∧ ((yM 34).name = "<init>") = False := by simp only [eq_iff_iff, iff_false, iff_true]; decide +kernel
set_option maxRecDepth 100000 in
theorem D_X11_least : (dk cX11_least 0 = some (.iload_n 1) ∧ dk cX11_least 1 = some (.iload_n 2) ∧ dk cX11_least 2 = some (.invokestatic 359) ∧ cres 11 359 = some 87 ∧ pM 87 = 2 ∧ sM 87 = true ∧ dk cX11_least 5 = some (.ifCond .eq 12) ∧ jok 5 12 = true ∧ jmp 5 12 = 17 ∧ dk cX11_least 8 = some (.iload_n 3)) ∧ (dk cX11_least 9 = some (.iconst 0) ∧ dk cX11_least 10 = some (.iconst 1) ∧ dk cX11_least 11 = some (.invokestatic 86) ∧ cres 11 86 = some 81 ∧ pM 81 = 3 ∧ sM 81 = true ∧ dk cX11_least 14 = some (.ifCond .ne 6) ∧ jok 14 6 = true ∧ jmp 14 6 = 20 ∧ dk cX11_least 17 = some (.bipush (-2))) ∧ (dk cX11_least 19 = some (.ireturn) ∧ dk cX11_least 20 = some (.bipush (-9)) ∧ dk cX11_least 22 = some (.istore 4) ∧ dk cX11_least 24 = some (.bipush (-9)) ∧ dk cX11_least 26 = some (.istore 5) ∧ dk cX11_least 28 = some (.iconst 0) ∧ dk cX11_least 29 = some (.istore 6) ∧ dk cX11_least 31 = some (.iload 6) ∧ dk cX11_least 33 = some (.iconst 1) ∧ dk cX11_least 34 = some (.aload_n 0)) ∧ (dk cX11_least 35 = some (.getfield 14) ∧ fres 11 14 = some (11, 0, 0, true) ∧ dk cX11_least 38 = some (.getfield 94) ∧ fres 11 94 = some (4, 9, 1, false) ∧ dk cX11_least 41 = some (.ishl) ∧ dk cX11_least 42 = some (.if_icmp .ge 111) ∧ jok 42 111 = true ∧ jmp 42 111 = 153 ∧ dk cX11_least 45 = some (.iload 6) ∧ dk cX11_least 47 = some (.aload_n 0)) ∧ (dk cX11_least 48 = some (.getfield 14) ∧ dk cX11_least 51 = some (.getfield 365) ∧ fres 11 365 = some (4, 10, 1, false) ∧ dk cX11_least 54 = some (.iand) ∧ dk cX11_least 55 = some (.ifCond .eq 6) ∧ jok 55 6 = true ∧ jmp 55 6 = 61 ∧ dk cX11_least 58 = some (.goto 89) ∧ jok 58 89 = true ∧ jmp 58 89 = 147) ∧ (dk cX11_least 61 = some (.aload_n 0) ∧ dk cX11_least 62 = some (.getfield 14) ∧ dk cX11_least 65 = some (.iload 6) ∧ dk cX11_least 67 = some (.invokevirtual 154) ∧ cres 11 154 = some 31 ∧ pM 31 = 1 ∧ sM 31 = false ∧ oM 31 = 4 ∧ dk cX11_least 70 = some (.aload_n 0) ∧ dk cX11_least 71 = some (.getfield 14)) ∧ (dk cX11_least 74 = some (.iload_n 1) ∧ dk cX11_least 75 = some (.iload_n 2) ∧ dk cX11_least 76 = some (.invokevirtual 362) ∧ cres 11 362 = some 34 ∧ pM 34 = 2 ∧ sM 34 = false ∧ oM 34 = 4 ∧ dk cX11_least 79 = some (.ifCond .ne 6) ∧ jok 79 6 = true ∧ jmp 79 6 = 85) ∧ (dk cX11_least 82 = some (.goto 65) ∧ jok 82 65 = true ∧ jmp 82 65 = 147 ∧ dk cX11_least 85 = some (.aload_n 0) ∧ dk cX11_least 86 = some (.getfield 21) ∧ fres 11 21 = some (11, 1, 0, true) ∧ dk cX11_least 89 = some (.aload_n 0) ∧ dk cX11_least 90 = some (.getfield 21) ∧ dk cX11_least 93 = some (.aload_n 0) ∧ dk cX11_least 94 = some (.getfield 14)) ∧ (dk cX11_least 97 = some (.invokevirtual 352) ∧ cres 11 352 = some 78 ∧ pM 78 = 1 ∧ sM 78 = false ∧ oM 78 = 10 ∧ dk cX11_least 100 = some (.invokevirtual 356) ∧ cres 11 356 = some 79 ∧ pM 79 = 1 ∧ sM 79 = false ∧ oM 79 = 10) ∧ (dk cX11_least 103 = some (.istore 7) ∧ dk cX11_least 105 = some (.iload 4) ∧ dk cX11_least 107 = some (.bipush (-9)) ∧ dk cX11_least 109 = some (.if_icmp .eq 30) ∧ jok 109 30 = true ∧ jmp 109 30 = 139 ∧ dk cX11_least 112 = some (.iload 7) ∧ dk cX11_least 114 = some (.iload 5) ∧ dk cX11_least 116 = some (.if_icmp .lt 23) ∧ jok 116 23 = true) ∧ (jmp 116 23 = 139 ∧ dk cX11_least 119 = some (.iload 7) ∧ dk cX11_least 121 = some (.iload 5) ∧ dk cX11_least 123 = some (.if_icmp .ne 24) ∧ jok 123 24 = true ∧ jmp 123 24 = 147 ∧ dk cX11_least 126 = some (.iload 6) ∧ dk cX11_least 128 = some (.invokestatic 368) ∧ cres 11 368 = some 251 ∧ pM 251 = 1) ∧ (sM 251 = true ∧ dk cX11_least 131 = some (.iload 4) ∧ dk cX11_least 133 = some (.invokestatic 368) ∧ dk cX11_least 136 = some (.if_icmp .ge 11) ∧ jok 136 11 = true ∧ jmp 136 11 = 147 ∧ dk cX11_least 139 = some (.iload 6) ∧ dk cX11_least 141 = some (.istore 4) ∧ dk cX11_least 143 = some (.iload 7) ∧ dk cX11_least 145 = some (.istore 5)) ∧ (dk cX11_least 147 = some (.iinc 6 1) ∧ dk cX11_least 150 = some (.goto (-119)) ∧ jok 150 (-119) = true ∧ jmp 150 (-119) = 31 ∧ dk cX11_least 153 = some (.iload_n 3) ∧ dk cX11_least 154 = some (.ifCond .ne 8) ∧ jok 154 8 = true ∧ jmp 154 8 = 162 ∧ dk cX11_least 157 = some (.iload 4) ∧ dk cX11_least 159 = some (.goto 5)) ∧ (jok 159 5 = true ∧ jmp 159 5 = 164 ∧ dk cX11_least 162 = some (.iload 5) ∧ dk cX11_least 164 = some (.ireturn)) := ⟨by decide +kernel, by decide +kernel, by decide +kernel, by decide +kernel, by decide +kernel, by decide +kernel, by decide +kernel, by decide +kernel, by decide +kernel, by decide +kernel, by decide +kernel, by decide +kernel, by decide +kernel, by decide +kernel⟩
set_option maxRecDepth 100000 in
theorem N_X11_least : ((yM 31).name = "<init>") = False ∧ ((yM 34).name = "<init>") = False ∧ ((yM 78).name = "<init>") = False ∧ ((yM 79).name = "<init>") = False := by simp only [eq_iff_iff, iff_false, iff_true]; decide +kernel
set_option maxRecDepth 100000 in
theorem D_X11_may : (dk cX11_may 0 = some (.iload_n 1) ∧ dk cX11_may 1 = some (.iconst 0) ∧ dk cX11_may 2 = some (.iconst 3) ∧ dk cX11_may 3 = some (.invokestatic 86) ∧ cres 11 86 = some 81 ∧ pM 81 = 3 ∧ sM 81 = true ∧ dk cX11_may 6 = some (.ifCond .eq 10) ∧ jok 6 10 = true ∧ jmp 6 10 = 16) ∧ (dk cX11_may 9 = some (.iload_n 2) ∧ dk cX11_may 10 = some (.invokestatic 90) ∧ cres 11 90 = some 82 ∧ pM 82 = 1 ∧ sM 82 = true ∧ dk cX11_may 13 = some (.ifCond .ne 5) ∧ jok 13 5 = true ∧ jmp 13 5 = 18 ∧ dk cX11_may 16 = some (.iconst (-1)) ∧ dk cX11_may 17 = some (.ireturn)) ∧ (dk cX11_may 18 = some (.iload_n 3) ∧ dk cX11_may 19 = some (.iconst (-1)) ∧ dk cX11_may 20 = some (.if_icmp .eq 13) ∧ jok 20 13 = true ∧ jmp 20 13 = 33 ∧ dk cX11_may 23 = some (.iload_n 3) ∧ dk cX11_may 24 = some (.invokestatic 178) ∧ cres 11 178 = some 84 ∧ pM 84 = 1 ∧ sM 84 = true) ∧ (dk cX11_may 27 = some (.ifCond .ne 6) ∧ jok 27 6 = true ∧ jmp 27 6 = 33 ∧ dk cX11_may 30 = some (.bipush (-2)) ∧ dk cX11_may 32 = some (.ireturn) ∧ dk cX11_may 33 = some (.aload_n 0) ∧ dk cX11_may 34 = some (.getfield 75) ∧ fres 11 75 = some (11, 9, 0, true) ∧ dk cX11_may 37 = some (.iload_n 1) ∧ dk cX11_may 38 = some (.iload_n 2)) ∧ (dk cX11_may 39 = some (.iload_n 3) ∧ dk cX11_may 40 = some (.iconst (-1)) ∧ dk cX11_may 41 = some (.if_icmp .ne 8) ∧ jok 41 8 = true ∧ jmp 41 8 = 49 ∧ dk cX11_may 44 = some (.bipush (-9)) ∧ dk cX11_may 46 = some (.goto 4) ∧ jok 46 4 = true ∧ jmp 46 4 = 50 ∧ dk cX11_may 49 = some (.iload_n 3)) ∧ (dk cX11_may 50 = some (.invokevirtual 373) ∧ cres 11 373 = some 18 ∧ pM 18 = 3 ∧ sM 18 = false ∧ oM 18 = 3 ∧ dk cX11_may 53 = some (.ireturn)) := ⟨by decide +kernel, by decide +kernel, by decide +kernel, by decide +kernel, by decide +kernel, by decide +kernel⟩
set_option maxRecDepth 100000 in
theorem N_X11_may : ((yM 18).name = "<init>") = False := by simp only [eq_iff_iff, iff_false, iff_true]; decide +kernel
set_option maxRecDepth 100000 in
theorem D_X11_look : (dk cX11_look 0 = some (.aload_n 0) ∧ dk cX11_look 1 = some (.iload_n 2) ∧ dk cX11_look 2 = some (.invokevirtual 170) ∧ cres 11 170 = some 89 ∧ pM 89 = 1 ∧ sM 89 = false ∧ oM 89 = 11 ∧ dk cX11_look 5 = some (.astore 4) ∧ dk cX11_look 7 = some (.iload_n 1) ∧ dk cX11_look 8 = some (.iconst 0)) ∧ (dk cX11_look 9 = some (.iconst 3) ∧ dk cX11_look 10 = some (.invokestatic 86) ∧ cres 11 86 = some 81 ∧ pM 81 = 3 ∧ sM 81 = true ∧ dk cX11_look 13 = some (.ifCond .eq 8) ∧ jok 13 8 = true ∧ jmp 13 8 = 21 ∧ dk cX11_look 16 = some (.aload 4) ∧ dk cX11_look 18 = some (.ifnonnull 5)) ∧ (jok 18 5 = true ∧ jmp 18 5 = 23 ∧ dk cX11_look 21 = some (.iconst (-1)) ∧ dk cX11_look 22 = some (.ireturn) ∧ dk cX11_look 23 = some (.iload_n 3) ∧ dk cX11_look 24 = some (.invokestatic 178) ∧ cres 11 178 = some 84 ∧ pM 84 = 1 ∧ sM 84 = true ∧ dk cX11_look 27 = some (.ifCond .ne 6)) ∧ (jok 27 6 = true ∧ jmp 27 6 = 33 ∧ dk cX11_look 30 = some (.bipush (-2)) ∧ dk cX11_look 32 = some (.ireturn) ∧ dk cX11_look 33 = some (.aload 4) ∧ dk cX11_look 35 = some (.invokevirtual 225) ∧ cres 11 225 = some 59 ∧ pM 59 = 0 ∧ sM 59 = false ∧ oM 59 = 8) ∧ (dk cX11_look 38 = some (.ifCond .eq 6) ∧ jok 38 6 = true ∧ jmp 38 6 = 44 ∧ dk cX11_look 41 = some (.bipush (-3)) ∧ dk cX11_look 43 = some (.ireturn) ∧ dk cX11_look 44 = some (.aload_n 0) ∧ dk cX11_look 45 = some (.getfield 75) ∧ fres 11 75 = some (11, 9, 0, true) ∧ dk cX11_look 48 = some (.iload_n 1) ∧ dk cX11_look 49 = some (.aload 4)) ∧ (dk cX11_look 51 = some (.getfield 189) ∧ fres 11 189 = some (8, 2, 1, true) ∧ dk cX11_look 54 = some (.iload_n 3) ∧ dk cX11_look 55 = some (.invokevirtual 376) ∧ cres 11 376 = some 19 ∧ pM 19 = 3 ∧ sM 19 = false ∧ oM 19 = 3 ∧ dk cX11_look 58 = some (.ireturn)) := ⟨by decide +kernel, by decide +kernel, by decide +kernel, by decide +kernel, by decide +kernel, by decide +kernel⟩
set_option maxRecDepth 100000 in
theorem N_X11_look : ((yM 89).name = "<init>") = False ∧ ((yM 59).name = "<init>") = False ∧ ((yM 19).name = "<init>") = False := by simp only [eq_iff_iff, iff_false, iff_true]; decide +kernel
set_option maxRecDepth 100000 in
theorem D_X11_looks : (dk cX11_looks 0 = some (.iload_n 1) ∧ dk cX11_looks 1 = some (.iconst 0) ∧ dk cX11_looks 2 = some (.iconst 3) ∧ dk cX11_looks 3 = some (.invokestatic 86) ∧ cres 11 86 = some 81 ∧ pM 81 = 3 ∧ sM 81 = true ∧ dk cX11_looks 6 = some (.ifCond .ne 5) ∧ jok 6 5 = true ∧ jmp 6 5 = 11) ∧ (dk cX11_looks 9 = some (.iconst (-1)) ∧ dk cX11_looks 10 = some (.ireturn) ∧ dk cX11_looks 11 = some (.iload_n 2) ∧ dk cX11_looks 12 = some (.iconst 0) ∧ dk cX11_looks 13 = some (.iconst 1) ∧ dk cX11_looks 14 = some (.invokestatic 86) ∧ dk cX11_looks 17 = some (.ifCond .ne 6) ∧ jok 17 6 = true ∧ jmp 17 6 = 23 ∧ dk cX11_looks 20 = some (.bipush (-2))) ∧ (dk cX11_looks 22 = some (.ireturn) ∧ dk cX11_looks 23 = some (.iload_n 2) ∧ dk cX11_looks 24 = some (.ifCond .ne 15) ∧ jok 24 15 = true ∧ jmp 24 15 = 39 ∧ dk cX11_looks 27 = some (.aload_n 0) ∧ dk cX11_looks 28 = some (.getfield 75) ∧ fres 11 75 = some (11, 9, 0, true) ∧ dk cX11_looks 31 = some (.getfield 379) ∧ fres 11 379 = some (3, 1, 0, true)) ∧ (dk cX11_looks 34 = some (.iload_n 1) ∧ dk cX11_looks 35 = some (.iaload) ∧ dk cX11_looks 36 = some (.goto 12) ∧ jok 36 12 = true ∧ jmp 36 12 = 48 ∧ dk cX11_looks 39 = some (.aload_n 0) ∧ dk cX11_looks 40 = some (.getfield 75) ∧ dk cX11_looks 43 = some (.getfield 382) ∧ fres 11 382 = some (3, 2, 0, true) ∧ dk cX11_looks 46 = some (.iload_n 1)) ∧ (dk cX11_looks 47 = some (.iaload) ∧ dk cX11_looks 48 = some (.ireturn)) := ⟨by decide +kernel, by decide +kernel, by decide +kernel, by decide +kernel, by decide +kernel⟩
set_option maxRecDepth 100000 in
theorem D_X11_faulted : dk cX11_faulted 0 = some (.aload_n 0) ∧ dk cX11_faulted 1 = some (.iload_n 1) ∧ dk cX11_faulted 2 = some (.putfield 167) ∧ fres 11 167 = some (11, 14, 1, false) ∧ isBo (tyN 11 14) = false ∧ dk cX11_faulted 5 = some (.bipush (-10)) ∧ dk cX11_faulted 7 = some (.iload_n 1) ∧ dk cX11_faulted 8 = some (.isub) ∧ dk cX11_faulted 9 = some (.ireturn) := by decide +kernel
set_option maxRecDepth 100000 in
theorem D_X11_lostBy : dk cX11_lostBy 0 = some (.aload_n 0) ∧ dk cX11_lostBy 1 = some (.iload_n 1) ∧ dk cX11_lostBy 2 = some (.putfield 167) ∧ fres 11 167 = some (11, 14, 1, false) ∧ isBo (tyN 11 14) = false ∧ dk cX11_lostBy 5 = some (.ldc2_w 108) ∧ lres 11 108 = some (-9223372036854775808) ∧ dk cX11_lostBy 8 = some (.lreturn) := by decide +kernel
set_option maxRecDepth 100000 in
theorem D_X11_againstTaking : (dk cX11_againstTaking 0 = some (.aload_n 1) ∧ dk cX11_againstTaking 1 = some (.ifnonnull 5) ∧ jok 1 5 = true ∧ jmp 1 5 = 6 ∧ dk cX11_againstTaking 4 = some (.iconst (-1)) ∧ dk cX11_againstTaking 5 = some (.ireturn) ∧ dk cX11_againstTaking 6 = some (.iload_n 2) ∧ dk cX11_againstTaking 7 = some (.invokestatic 385) ∧ cres 11 385 = some 85 ∧ pM 85 = 1) ∧ (sM 85 = true ∧ dk cX11_againstTaking 10 = some (.ifCond .ne 6) ∧ jok 10 6 = true ∧ jmp 10 6 = 16 ∧ dk cX11_againstTaking 13 = some (.bipush (-2)) ∧ dk cX11_againstTaking 15 = some (.ireturn) ∧ dk cX11_againstTaking 16 = some (.aload_n 1) ∧ dk cX11_againstTaking 17 = some (.iload_n 2) ∧ dk cX11_againstTaking 18 = some (.invokevirtual 388) ∧ cres 11 388 = some 46) ∧ (pM 46 = 1 ∧ sM 46 = false ∧ oM 46 = 6 ∧ dk cX11_againstTaking 21 = some (.ifCond .eq 9) ∧ jok 21 9 = true ∧ jmp 21 9 = 30 ∧ dk cX11_againstTaking 24 = some (.aload_n 0) ∧ dk cX11_againstTaking 25 = some (.iconst 2) ∧ dk cX11_againstTaking 26 = some (.invokevirtual 391) ∧ cres 11 391 = some 133) ∧ (pM 133 = 1 ∧ sM 133 = false ∧ oM 133 = 11 ∧ dk cX11_againstTaking 29 = some (.ireturn) ∧ dk cX11_againstTaking 30 = some (.aload_n 1) ∧ dk cX11_againstTaking 31 = some (.getfield 394) ∧ fres 11 394 = some (6, 1, 1, false) ∧ dk cX11_againstTaking 34 = some (.ifCond .ne 9) ∧ jok 34 9 = true ∧ jmp 34 9 = 43) ∧ (dk cX11_againstTaking 37 = some (.aload_n 0) ∧ dk cX11_againstTaking 38 = some (.iconst 1) ∧ dk cX11_againstTaking 39 = some (.invokevirtual 391) ∧ dk cX11_againstTaking 42 = some (.ireturn) ∧ dk cX11_againstTaking 43 = some (.iload 4) ∧ dk cX11_againstTaking 45 = some (.ifCond .ge 9) ∧ jok 45 9 = true ∧ jmp 45 9 = 54 ∧ dk cX11_againstTaking 48 = some (.aload_n 0) ∧ dk cX11_againstTaking 49 = some (.iconst 4)) ∧ (dk cX11_againstTaking 50 = some (.invokevirtual 391) ∧ dk cX11_againstTaking 53 = some (.ireturn) ∧ dk cX11_againstTaking 54 = some (.aload_n 1) ∧ dk cX11_againstTaking 55 = some (.iload_n 3) ∧ dk cX11_againstTaking 56 = some (.iload 4) ∧ dk cX11_againstTaking 58 = some (.invokevirtual 398) ∧ cres 11 398 = some 47 ∧ pM 47 = 2 ∧ sM 47 = false ∧ oM 47 = 6) ∧ (dk cX11_againstTaking 61 = some (.ifCond .eq 7) ∧ jok 61 7 = true ∧ jmp 61 7 = 68 ∧ dk cX11_againstTaking 64 = some (.iconst 0) ∧ dk cX11_againstTaking 65 = some (.goto 8) ∧ jok 65 8 = true ∧ jmp 65 8 = 73 ∧ dk cX11_againstTaking 68 = some (.aload_n 0) ∧ dk cX11_againstTaking 69 = some (.iconst 3) ∧ dk cX11_againstTaking 70 = some (.invokevirtual 391)) ∧ (dk cX11_againstTaking 73 = some (.ireturn)) := ⟨by decide +kernel, by decide +kernel, by decide +kernel, by decide +kernel, by decide +kernel, by decide +kernel, by decide +kernel, by decide +kernel⟩
set_option maxRecDepth 100000 in
theorem N_X11_againstTaking : ((yM 46).name = "<init>") = False ∧ ((yM 133).name = "<init>") = False ∧ ((yM 47).name = "<init>") = False := by simp only [eq_iff_iff, iff_false, iff_true]; decide +kernel
set_option maxRecDepth 100000 in
theorem D_X11_sheet : (dk cX11_sheet 0 = some (.aload_n 0) ∧ dk cX11_sheet 1 = some (.iconst 0) ∧ dk cX11_sheet 2 = some (.putfield 167) ∧ fres 11 167 = some (11, 14, 1, false) ∧ isBo (tyN 11 14) = false ∧ dk cX11_sheet 5 = some (.aload_n 0) ∧ dk cX11_sheet 6 = some (.iload_n 1) ∧ dk cX11_sheet 7 = some (.invokevirtual 174) ∧ cres 11 174 = some 91 ∧ pM 91 = 1) ∧ (sM 91 = false ∧ oM 91 = 11 ∧ dk cX11_sheet 10 = some (.astore 4) ∧ dk cX11_sheet 12 = some (.aload 4) ∧ dk cX11_sheet 14 = some (.ifnonnull 5) ∧ jok 14 5 = true ∧ jmp 14 5 = 19 ∧ dk cX11_sheet 17 = some (.iconst (-1)) ∧ dk cX11_sheet 18 = some (.ireturn) ∧ dk cX11_sheet 19 = some (.iload_n 2)) ∧ (dk cX11_sheet 20 = some (.invokestatic 385) ∧ cres 11 385 = some 85 ∧ pM 85 = 1 ∧ sM 85 = true ∧ dk cX11_sheet 23 = some (.ifCond .eq 9) ∧ jok 23 9 = true ∧ jmp 23 9 = 32 ∧ dk cX11_sheet 26 = some (.iload_n 3) ∧ dk cX11_sheet 27 = some (.bipush 60) ∧ dk cX11_sheet 29 = some (.if_icmp .le 6)) ∧ (jok 29 6 = true ∧ jmp 29 6 = 35 ∧ dk cX11_sheet 32 = some (.bipush (-2)) ∧ dk cX11_sheet 34 = some (.ireturn) ∧ dk cX11_sheet 35 = some (.iload_n 3) ∧ dk cX11_sheet 36 = some (.ifCond .ge 9) ∧ jok 36 9 = true ∧ jmp 36 9 = 45 ∧ dk cX11_sheet 39 = some (.aload_n 0) ∧ dk cX11_sheet 40 = some (.iconst 4)) ∧ (dk cX11_sheet 41 = some (.invokevirtual 391) ∧ cres 11 391 = some 133 ∧ pM 133 = 1 ∧ sM 133 = false ∧ oM 133 = 11 ∧ dk cX11_sheet 44 = some (.ireturn) ∧ dk cX11_sheet 45 = some (.aload 4) ∧ dk cX11_sheet 47 = some (.iload_n 2) ∧ dk cX11_sheet 48 = some (.iload_n 3) ∧ dk cX11_sheet 49 = some (.invokevirtual 401)) ∧ (cres 11 401 = some 45 ∧ pM 45 = 2 ∧ sM 45 = false ∧ oM 45 = 6 ∧ dk cX11_sheet 52 = some (.iconst 1) ∧ dk cX11_sheet 53 = some (.ireturn)) := ⟨by decide +kernel, by decide +kernel, by decide +kernel, by decide +kernel, by decide +kernel, by decide +kernel⟩
set_option maxRecDepth 100000 in
theorem N_X11_sheet : ((yM 91).name = "<init>") = False ∧ ((yM 133).name = "<init>") = False ∧ ((yM 45).name = "<init>") = False := by simp only [eq_iff_iff, iff_false, iff_true]; decide +kernel
set_option maxRecDepth 100000 in
theorem D_X11_lose : (dk cX11_lose 0 = some (.aload_n 0) ∧ dk cX11_lose 1 = some (.iload_n 1) ∧ dk cX11_lose 2 = some (.invokevirtual 174) ∧ cres 11 174 = some 91 ∧ pM 91 = 1 ∧ sM 91 = false ∧ oM 91 = 11 ∧ dk cX11_lose 5 = some (.astore_n 2) ∧ dk cX11_lose 6 = some (.aload_n 2) ∧ dk cX11_lose 7 = some (.ifnonnull 5)) ∧ (jok 7 5 = true ∧ jmp 7 5 = 12 ∧ dk cX11_lose 10 = some (.iconst (-1)) ∧ dk cX11_lose 11 = some (.ireturn) ∧ dk cX11_lose 12 = some (.aload_n 2) ∧ dk cX11_lose 13 = some (.getfield 394) ∧ fres 11 394 = some (6, 1, 1, false) ∧ dk cX11_lose 16 = some (.ifCond .ne 5) ∧ jok 16 5 = true ∧ jmp 16 5 = 21) ∧ (dk cX11_lose 19 = some (.iconst 0) ∧ dk cX11_lose 20 = some (.ireturn) ∧ dk cX11_lose 21 = some (.aload_n 2) ∧ dk cX11_lose 22 = some (.iconst 0) ∧ dk cX11_lose 23 = some (.putfield 394) ∧ isBo (tyN 6 1) = true ∧ dk cX11_lose 26 = some (.iconst 1) ∧ dk cX11_lose 27 = some (.ireturn)) := ⟨by decide +kernel, by decide +kernel, by decide +kernel⟩
set_option maxRecDepth 100000 in
theorem N_X11_lose : ((yM 91).name = "<init>") = False := by simp only [eq_iff_iff, iff_false, iff_true]; decide +kernel
set_option maxRecDepth 100000 in
theorem D_X11_set : (dk cX11_set 0 = some (.aload_n 0) ∧ dk cX11_set 1 = some (.iconst 0) ∧ dk cX11_set 2 = some (.putfield 167) ∧ fres 11 167 = some (11, 14, 1, false) ∧ isBo (tyN 11 14) = false ∧ dk cX11_set 5 = some (.aload_n 0) ∧ dk cX11_set 6 = some (.iload_n 1) ∧ dk cX11_set 7 = some (.invokevirtual 174) ∧ cres 11 174 = some 91 ∧ pM 91 = 1) ∧ (sM 91 = false ∧ oM 91 = 11 ∧ dk cX11_set 10 = some (.astore 4) ∧ dk cX11_set 12 = some (.aload 4) ∧ dk cX11_set 14 = some (.ifnonnull 5) ∧ jok 14 5 = true ∧ jmp 14 5 = 19 ∧ dk cX11_set 17 = some (.iconst (-1)) ∧ dk cX11_set 18 = some (.ireturn) ∧ dk cX11_set 19 = some (.aload 4)) ∧ (dk cX11_set 21 = some (.getfield 394) ∧ fres 11 394 = some (6, 1, 1, false) ∧ dk cX11_set 24 = some (.ifCond .ne 9) ∧ jok 24 9 = true ∧ jmp 24 9 = 33 ∧ dk cX11_set 27 = some (.aload_n 0) ∧ dk cX11_set 28 = some (.iconst 1) ∧ dk cX11_set 29 = some (.invokevirtual 391) ∧ cres 11 391 = some 133 ∧ pM 133 = 1) ∧ (sM 133 = false ∧ oM 133 = 11 ∧ dk cX11_set 32 = some (.ireturn) ∧ dk cX11_set 33 = some (.aload 4) ∧ dk cX11_set 35 = some (.iload_n 2) ∧ dk cX11_set 36 = some (.iconst 1) ∧ dk cX11_set 37 = some (.invokevirtual 398) ∧ cres 11 398 = some 47 ∧ pM 47 = 2 ∧ sM 47 = false) ∧ (oM 47 = 6 ∧ dk cX11_set 40 = some (.ifCond .ne 9) ∧ jok 40 9 = true ∧ jmp 40 9 = 49 ∧ dk cX11_set 43 = some (.aload_n 0) ∧ dk cX11_set 44 = some (.iconst 3) ∧ dk cX11_set 45 = some (.invokevirtual 391) ∧ dk cX11_set 48 = some (.ireturn) ∧ dk cX11_set 49 = some (.aload 4) ∧ dk cX11_set 51 = some (.getfield 404)) ∧ (fres 11 404 = some (6, 0, 0, true) ∧ dk cX11_set 54 = some (.iload_n 2) ∧ dk cX11_set 55 = some (.aload 4) ∧ dk cX11_set 57 = some (.iload_n 3) ∧ dk cX11_set 58 = some (.invokevirtual 407) ∧ cres 11 407 = some 49 ∧ pM 49 = 1 ∧ sM 49 = false ∧ oM 49 = 6 ∧ dk cX11_set 61 = some (.iastore)) ∧ (dk cX11_set 62 = some (.iconst 1) ∧ dk cX11_set 63 = some (.ireturn)) := ⟨by decide +kernel, by decide +kernel, by decide +kernel, by decide +kernel, by decide +kernel, by decide +kernel, by decide +kernel⟩
set_option maxRecDepth 100000 in
theorem N_X11_set : ((yM 91).name = "<init>") = False ∧ ((yM 133).name = "<init>") = False ∧ ((yM 47).name = "<init>") = False ∧ ((yM 49).name = "<init>") = False := by simp only [eq_iff_iff, iff_false, iff_true]; decide +kernel
set_option maxRecDepth 100000 in
theorem D_X11_cell : (dk cX11_cell 0 = some (.aload_n 0) ∧ dk cX11_cell 1 = some (.iconst 0) ∧ dk cX11_cell 2 = some (.putfield 167) ∧ fres 11 167 = some (11, 14, 1, false) ∧ isBo (tyN 11 14) = false ∧ dk cX11_cell 5 = some (.aload_n 0) ∧ dk cX11_cell 6 = some (.iload_n 1) ∧ dk cX11_cell 7 = some (.invokevirtual 174) ∧ cres 11 174 = some 91 ∧ pM 91 = 1) ∧ (sM 91 = false ∧ oM 91 = 11 ∧ dk cX11_cell 10 = some (.astore 4) ∧ dk cX11_cell 12 = some (.aload 4) ∧ dk cX11_cell 14 = some (.ifnull 10) ∧ jok 14 10 = true ∧ jmp 14 10 = 24 ∧ dk cX11_cell 17 = some (.iload_n 3) ∧ dk cX11_cell 18 = some (.invokestatic 385) ∧ cres 11 385 = some 85) ∧ (pM 85 = 1 ∧ sM 85 = true ∧ dk cX11_cell 21 = some (.ifCond .ne 7) ∧ jok 21 7 = true ∧ jmp 21 7 = 28 ∧ dk cX11_cell 24 = some (.ldc2_w 108) ∧ lres 11 108 = some (-9223372036854775808) ∧ dk cX11_cell 27 = some (.lreturn) ∧ dk cX11_cell 28 = some (.aload 4) ∧ dk cX11_cell 30 = some (.iload_n 3)) ∧ (dk cX11_cell 31 = some (.invokevirtual 388) ∧ cres 11 388 = some 46 ∧ pM 46 = 1 ∧ sM 46 = false ∧ oM 46 = 6 ∧ dk cX11_cell 34 = some (.ifCond .eq 9) ∧ jok 34 9 = true ∧ jmp 34 9 = 43 ∧ dk cX11_cell 37 = some (.aload_n 0) ∧ dk cX11_cell 38 = some (.iconst 2)) ∧ (dk cX11_cell 39 = some (.invokevirtual 410) ∧ cres 11 410 = some 134 ∧ pM 134 = 1 ∧ sM 134 = false ∧ oM 134 = 11 ∧ dk cX11_cell 42 = some (.lreturn) ∧ dk cX11_cell 43 = some (.aload 4) ∧ dk cX11_cell 45 = some (.getfield 394) ∧ fres 11 394 = some (6, 1, 1, false) ∧ dk cX11_cell 48 = some (.ifCond .ne 9)) ∧ (jok 48 9 = true ∧ jmp 48 9 = 57 ∧ dk cX11_cell 51 = some (.aload_n 0) ∧ dk cX11_cell 52 = some (.iconst 1) ∧ dk cX11_cell 53 = some (.invokevirtual 410) ∧ dk cX11_cell 56 = some (.lreturn) ∧ dk cX11_cell 57 = some (.aload 4) ∧ dk cX11_cell 59 = some (.iload_n 2) ∧ dk cX11_cell 60 = some (.iconst 1) ∧ dk cX11_cell 61 = some (.invokevirtual 398)) ∧ (cres 11 398 = some 47 ∧ pM 47 = 2 ∧ sM 47 = false ∧ oM 47 = 6 ∧ dk cX11_cell 64 = some (.ifCond .ne 9) ∧ jok 64 9 = true ∧ jmp 64 9 = 73 ∧ dk cX11_cell 67 = some (.aload_n 0) ∧ dk cX11_cell 68 = some (.iconst 3) ∧ dk cX11_cell 69 = some (.invokevirtual 410)) ∧ (dk cX11_cell 72 = some (.lreturn) ∧ dk cX11_cell 73 = some (.aload 4) ∧ dk cX11_cell 75 = some (.getfield 404) ∧ fres 11 404 = some (6, 0, 0, true) ∧ dk cX11_cell 78 = some (.iload_n 2) ∧ dk cX11_cell 79 = some (.iaload) ∧ dk cX11_cell 80 = some (.i2l) ∧ dk cX11_cell 81 = some (.lreturn)) := ⟨by decide +kernel, by decide +kernel, by decide +kernel, by decide +kernel, by decide +kernel, by decide +kernel, by decide +kernel, by decide +kernel⟩
set_option maxRecDepth 100000 in
theorem N_X11_cell : ((yM 91).name = "<init>") = False ∧ ((yM 46).name = "<init>") = False ∧ ((yM 134).name = "<init>") = False ∧ ((yM 47).name = "<init>") = False := by simp only [eq_iff_iff, iff_false, iff_true]; decide +kernel
set_option maxRecDepth 100000 in
theorem D_X11_copy : (dk cX11_copy 0 = some (.aload_n 0) ∧ dk cX11_copy 1 = some (.iconst 0) ∧ dk cX11_copy 2 = some (.putfield 167) ∧ fres 11 167 = some (11, 14, 1, false) ∧ isBo (tyN 11 14) = false ∧ dk cX11_copy 5 = some (.aload_n 0) ∧ dk cX11_copy 6 = some (.iload_n 1) ∧ dk cX11_copy 7 = some (.invokevirtual 174) ∧ cres 11 174 = some 91 ∧ pM 91 = 1) ∧ (sM 91 = false ∧ oM 91 = 11 ∧ dk cX11_copy 10 = some (.astore 6) ∧ dk cX11_copy 12 = some (.aload_n 0) ∧ dk cX11_copy 13 = some (.iload_n 3) ∧ dk cX11_copy 14 = some (.invokevirtual 174) ∧ dk cX11_copy 17 = some (.astore 7) ∧ dk cX11_copy 19 = some (.aload 6) ∧ dk cX11_copy 21 = some (.ifnull 8) ∧ jok 21 8 = true) ∧ (jmp 21 8 = 29 ∧ dk cX11_copy 24 = some (.aload 7) ∧ dk cX11_copy 26 = some (.ifnonnull 5) ∧ jok 26 5 = true ∧ jmp 26 5 = 31 ∧ dk cX11_copy 29 = some (.iconst (-1)) ∧ dk cX11_copy 30 = some (.ireturn) ∧ dk cX11_copy 31 = some (.aload 6) ∧ dk cX11_copy 33 = some (.getfield 394) ∧ fres 11 394 = some (6, 1, 1, false)) ∧ (dk cX11_copy 36 = some (.ifCond .eq 11) ∧ jok 36 11 = true ∧ jmp 36 11 = 47 ∧ dk cX11_copy 39 = some (.aload 7) ∧ dk cX11_copy 41 = some (.getfield 394) ∧ dk cX11_copy 44 = some (.ifCond .ne 9) ∧ jok 44 9 = true ∧ jmp 44 9 = 53 ∧ dk cX11_copy 47 = some (.aload_n 0) ∧ dk cX11_copy 48 = some (.iconst 1)) ∧ (dk cX11_copy 49 = some (.invokevirtual 391) ∧ cres 11 391 = some 133 ∧ pM 133 = 1 ∧ sM 133 = false ∧ oM 133 = 11 ∧ dk cX11_copy 52 = some (.ireturn) ∧ dk cX11_copy 53 = some (.aload 7) ∧ dk cX11_copy 55 = some (.aload 6) ∧ dk cX11_copy 57 = some (.getfield 414) ∧ fres 11 414 = some (6, 2, 1, false)) ∧ (dk cX11_copy 60 = some (.invokevirtual 388) ∧ cres 11 388 = some 46 ∧ pM 46 = 1 ∧ sM 46 = false ∧ oM 46 = 6 ∧ dk cX11_copy 63 = some (.ifCond .eq 9) ∧ jok 63 9 = true ∧ jmp 63 9 = 72 ∧ dk cX11_copy 66 = some (.aload_n 0) ∧ dk cX11_copy 67 = some (.iconst 2)) ∧ (dk cX11_copy 68 = some (.invokevirtual 391) ∧ dk cX11_copy 71 = some (.ireturn) ∧ dk cX11_copy 72 = some (.aload 6) ∧ dk cX11_copy 74 = some (.iload_n 2) ∧ dk cX11_copy 75 = some (.iload 5) ∧ dk cX11_copy 77 = some (.invokevirtual 398) ∧ cres 11 398 = some 47 ∧ pM 47 = 2 ∧ sM 47 = false ∧ oM 47 = 6) ∧ (dk cX11_copy 80 = some (.ifCond .eq 15) ∧ jok 80 15 = true ∧ jmp 80 15 = 95 ∧ dk cX11_copy 83 = some (.aload 7) ∧ dk cX11_copy 85 = some (.iload 4) ∧ dk cX11_copy 87 = some (.iload 5) ∧ dk cX11_copy 89 = some (.invokevirtual 398) ∧ dk cX11_copy 92 = some (.ifCond .ne 9) ∧ jok 92 9 = true ∧ jmp 92 9 = 101) ∧ (dk cX11_copy 95 = some (.aload_n 0) ∧ dk cX11_copy 96 = some (.iconst 3) ∧ dk cX11_copy 97 = some (.invokevirtual 391) ∧ dk cX11_copy 100 = some (.ireturn) ∧ dk cX11_copy 101 = some (.aload 6) ∧ dk cX11_copy 103 = some (.getfield 404) ∧ fres 11 404 = some (6, 0, 0, true) ∧ dk cX11_copy 106 = some (.iload_n 2) ∧ dk cX11_copy 107 = some (.aload 7) ∧ dk cX11_copy 109 = some (.getfield 404)) ∧ (dk cX11_copy 112 = some (.iload 4) ∧ dk cX11_copy 114 = some (.iload 5) ∧ dk cX11_copy 116 = some (.invokestatic 417) ∧ dk cX11_copy 119 = some (.iload 5) ∧ dk cX11_copy 121 = some (.ireturn)) := ⟨by decide +kernel, by decide +kernel, by decide +kernel, by decide +kernel, by decide +kernel, by decide +kernel, by decide +kernel, by decide +kernel, by decide +kernel, by decide +kernel⟩
set_option maxRecDepth 100000 in
theorem N_X11_copy : ((yM 91).name = "<init>") = False ∧ ((yM 133).name = "<init>") = False ∧ ((yM 46).name = "<init>") = False ∧ ((yM 47).name = "<init>") = False := by simp only [eq_iff_iff, iff_false, iff_true]; decide +kernel
set_option maxRecDepth 100000 in
theorem D_X11_tell : (dk cX11_tell 0 = some (.aload_n 0) ∧ dk cX11_tell 1 = some (.iload_n 1) ∧ dk cX11_tell 2 = some (.invokevirtual 170) ∧ cres 11 170 = some 89 ∧ pM 89 = 1 ∧ sM 89 = false ∧ oM 89 = 11 ∧ dk cX11_tell 5 = some (.astore_n 2) ∧ dk cX11_tell 6 = some (.aload_n 2) ∧ dk cX11_tell 7 = some (.ifnonnull 5)) ∧ (jok 7 5 = true ∧ jmp 7 5 = 12 ∧ dk cX11_tell 10 = some (.iconst (-1)) ∧ dk cX11_tell 11 = some (.ireturn) ∧ dk cX11_tell 12 = some (.aload_n 2) ∧ dk cX11_tell 13 = some (.getfield 206) ∧ fres 11 206 = some (8, 1, 1, true) ∧ dk cX11_tell 16 = some (.iconst 2) ∧ dk cX11_tell 17 = some (.if_icmp .ne 9) ∧ jok 17 9 = true) ∧ (jmp 17 9 = 26 ∧ dk cX11_tell 20 = some (.aload_n 0) ∧ dk cX11_tell 21 = some (.aload_n 2) ∧ dk cX11_tell 22 = some (.invokevirtual 423) ∧ cres 11 423 = some 145 ∧ pM 145 = 1 ∧ sM 145 = false ∧ oM 145 = 11 ∧ dk cX11_tell 25 = some (.ireturn) ∧ dk cX11_tell 26 = some (.aload_n 2)) ∧ (dk cX11_tell 27 = some (.getfield 206) ∧ dk cX11_tell 30 = some (.iconst 1) ∧ dk cX11_tell 31 = some (.if_icmp .ne 11) ∧ jok 31 11 = true ∧ jmp 31 11 = 42 ∧ dk cX11_tell 34 = some (.aload_n 0) ∧ dk cX11_tell 35 = some (.aload_n 2) ∧ dk cX11_tell 36 = some (.invokevirtual 427) ∧ cres 11 427 = some 144 ∧ pM 144 = 1) ∧ (sM 144 = false ∧ oM 144 = 11 ∧ dk cX11_tell 39 = some (.goto 8) ∧ jok 39 8 = true ∧ jmp 39 8 = 47 ∧ dk cX11_tell 42 = some (.aload_n 0) ∧ dk cX11_tell 43 = some (.aload_n 2) ∧ dk cX11_tell 44 = some (.invokevirtual 430) ∧ cres 11 430 = some 143 ∧ pM 143 = 1) ∧ (sM 143 = false ∧ oM 143 = 11 ∧ dk cX11_tell 47 = some (.ireturn)) := ⟨by decide +kernel, by decide +kernel, by decide +kernel, by decide +kernel, by decide +kernel, by decide +kernel⟩
set_option maxRecDepth 100000 in
theorem N_X11_tell : ((yM 89).name = "<init>") = False ∧ ((yM 145).name = "<init>") = False ∧ ((yM 144).name = "<init>") = False ∧ ((yM 143).name = "<init>") = False := by simp only [eq_iff_iff, iff_false, iff_true]; decide +kernel
set_option maxRecDepth 100000 in
theorem D_X11_leave : (dk cX11_leave 0 = some (.aload_n 0) ∧ dk cX11_leave 1 = some (.bipush 31) ∧ dk cX11_leave 3 = some (.aload_n 0) ∧ dk cX11_leave 4 = some (.getfield 433) ∧ fres 11 433 = some (11, 13, 1, false) ∧ dk cX11_leave 7 = some (.imul) ∧ dk cX11_leave 8 = some (.iload_n 1) ∧ dk cX11_leave 9 = some (.iadd) ∧ dk cX11_leave 10 = some (.putfield 433) ∧ isBo (tyN 11 13) = false) ∧ (dk cX11_leave 13 = some (.return_)) := ⟨by decide +kernel, by decide +kernel⟩
set_option maxRecDepth 100000 in
theorem D_X11_tellingOfTalk : (dk cX11_tellingOfTalk 0 = some (.aload_n 0) ∧ dk cX11_tellingOfTalk 1 = some (.iconst 1) ∧ dk cX11_tellingOfTalk 2 = some (.invokevirtual 436) ∧ cres 11 436 = some 142 ∧ pM 142 = 1 ∧ sM 142 = false ∧ oM 142 = 11 ∧ dk cX11_tellingOfTalk 5 = some (.aload_n 1) ∧ dk cX11_tellingOfTalk 6 = some (.invokevirtual 213) ∧ cres 11 213 = some 64) ∧ (pM 64 = 0 ∧ sM 64 = false ∧ oM 64 = 8 ∧ dk cX11_tellingOfTalk 9 = some (.ireturn)) := ⟨by decide +kernel, by decide +kernel⟩
set_option maxRecDepth 100000 in
theorem N_X11_tellingOfTalk : ((yM 142).name = "<init>") = False ∧ ((yM 64).name = "<init>") = False := by simp only [eq_iff_iff, iff_false, iff_true]; decide +kernel
set_option maxRecDepth 100000 in
theorem D_X11_tellingOfSealed : (dk cX11_tellingOfSealed 0 = some (.aload_n 0) ∧ dk cX11_tellingOfSealed 1 = some (.iconst 2) ∧ dk cX11_tellingOfSealed 2 = some (.invokevirtual 436) ∧ cres 11 436 = some 142 ∧ pM 142 = 1 ∧ sM 142 = false ∧ oM 142 = 11 ∧ dk cX11_tellingOfSealed 5 = some (.aload_n 0) ∧ dk cX11_tellingOfSealed 6 = some (.aload_n 1) ∧ dk cX11_tellingOfSealed 7 = some (.invokevirtual 430)) ∧ (cres 11 430 = some 143 ∧ pM 143 = 1 ∧ sM 143 = false ∧ oM 143 = 11 ∧ dk cX11_tellingOfSealed 10 = some (.sipush 1000) ∧ dk cX11_tellingOfSealed 13 = some (.iadd) ∧ dk cX11_tellingOfSealed 14 = some (.ireturn)) := ⟨by decide +kernel, by decide +kernel⟩
set_option maxRecDepth 100000 in
theorem N_X11_tellingOfSealed : ((yM 142).name = "<init>") = False ∧ ((yM 143).name = "<init>") = False := by simp only [eq_iff_iff, iff_false, iff_true]; decide +kernel
set_option maxRecDepth 100000 in
theorem D_X11_tellingOfCarried : (dk cX11_tellingOfCarried 0 = some (.aload_n 0) ∧ dk cX11_tellingOfCarried 1 = some (.iconst 3) ∧ dk cX11_tellingOfCarried 2 = some (.invokevirtual 436) ∧ cres 11 436 = some 142 ∧ pM 142 = 1 ∧ sM 142 = false ∧ oM 142 = 11 ∧ dk cX11_tellingOfCarried 5 = some (.aload_n 0) ∧ dk cX11_tellingOfCarried 6 = some (.aload_n 1) ∧ dk cX11_tellingOfCarried 7 = some (.invokevirtual 427)) ∧ (cres 11 427 = some 144 ∧ pM 144 = 1 ∧ sM 144 = false ∧ oM 144 = 11 ∧ dk cX11_tellingOfCarried 10 = some (.istore_n 2) ∧ dk cX11_tellingOfCarried 11 = some (.iload_n 2) ∧ dk cX11_tellingOfCarried 12 = some (.aload_n 0) ∧ dk cX11_tellingOfCarried 13 = some (.aload_n 1) ∧ dk cX11_tellingOfCarried 14 = some (.invokevirtual 430) ∧ cres 11 430 = some 143) ∧ (pM 143 = 1 ∧ sM 143 = false ∧ oM 143 = 11 ∧ dk cX11_tellingOfCarried 17 = some (.iadd) ∧ dk cX11_tellingOfCarried 18 = some (.ireturn)) := ⟨by decide +kernel, by decide +kernel, by decide +kernel⟩
set_option maxRecDepth 100000 in
theorem N_X11_tellingOfCarried : ((yM 142).name = "<init>") = False ∧ ((yM 144).name = "<init>") = False ∧ ((yM 143).name = "<init>") = False := by simp only [eq_iff_iff, iff_false, iff_true]; decide +kernel
set_option maxRecDepth 100000 in
theorem D_X11_call : (dk cX11_call 0 = some (.aload_n 0) ∧ dk cX11_call 1 = some (.iload_n 1) ∧ dk cX11_call 2 = some (.invokevirtual 170) ∧ cres 11 170 = some 89 ∧ pM 89 = 1 ∧ sM 89 = false ∧ oM 89 = 11 ∧ dk cX11_call 5 = some (.astore_n 2) ∧ dk cX11_call 6 = some (.aload_n 2) ∧ dk cX11_call 7 = some (.ifnonnull 5)) ∧ (jok 7 5 = true ∧ jmp 7 5 = 12 ∧ dk cX11_call 10 = some (.iconst (-1)) ∧ dk cX11_call 11 = some (.ireturn) ∧ dk cX11_call 12 = some (.aload_n 2) ∧ dk cX11_call 13 = some (.getfield 206) ∧ fres 11 206 = some (8, 1, 1, true) ∧ dk cX11_call 16 = some (.iconst 2) ∧ dk cX11_call 17 = some (.if_icmp .ne 11) ∧ jok 17 11 = true) ∧ (jmp 17 11 = 28 ∧ dk cX11_call 20 = some (.aload_n 0) ∧ dk cX11_call 21 = some (.iconst 5) ∧ dk cX11_call 22 = some (.invokevirtual 436) ∧ cres 11 436 = some 142 ∧ pM 142 = 1 ∧ sM 142 = false ∧ oM 142 = 11 ∧ dk cX11_call 25 = some (.bipush 77) ∧ dk cX11_call 27 = some (.ireturn)) ∧ (dk cX11_call 28 = some (.aload_n 0) ∧ dk cX11_call 29 = some (.iconst 4) ∧ dk cX11_call 30 = some (.invokevirtual 436) ∧ dk cX11_call 33 = some (.aload_n 2) ∧ dk cX11_call 34 = some (.getfield 439) ∧ fres 11 439 = some (8, 0, 1, true) ∧ dk cX11_call 37 = some (.ireturn)) := ⟨by decide +kernel, by decide +kernel, by decide +kernel, by decide +kernel⟩
set_option maxRecDepth 100000 in
theorem N_X11_call : ((yM 89).name = "<init>") = False ∧ ((yM 142).name = "<init>") = False := by simp only [eq_iff_iff, iff_false, iff_true]; decide +kernel
set_option maxRecDepth 100000 in
theorem D_X11_as : (dk cX11_as 0 = some (.aload_n 0) ∧ dk cX11_as 1 = some (.iconst 0) ∧ dk cX11_as 2 = some (.putfield 167) ∧ fres 11 167 = some (11, 14, 1, false) ∧ isBo (tyN 11 14) = false ∧ dk cX11_as 5 = some (.aload_n 0) ∧ dk cX11_as 6 = some (.iload_n 1) ∧ dk cX11_as 7 = some (.invokevirtual 170) ∧ cres 11 170 = some 89 ∧ pM 89 = 1) ∧ (sM 89 = false ∧ oM 89 = 11 ∧ dk cX11_as 10 = some (.astore_n 3) ∧ dk cX11_as 11 = some (.aload_n 3) ∧ dk cX11_as 12 = some (.ifnonnull 5) ∧ jok 12 5 = true ∧ jmp 12 5 = 17 ∧ dk cX11_as 15 = some (.iconst (-1)) ∧ dk cX11_as 16 = some (.ireturn) ∧ dk cX11_as 17 = some (.iload_n 2)) ∧ (dk cX11_as 18 = some (.iconst 0) ∧ dk cX11_as 19 = some (.iconst 2) ∧ dk cX11_as 20 = some (.invokestatic 86) ∧ cres 11 86 = some 81 ∧ pM 81 = 3 ∧ sM 81 = true ∧ dk cX11_as 23 = some (.ifCond .ne 6) ∧ jok 23 6 = true ∧ jmp 23 6 = 29 ∧ dk cX11_as 26 = some (.bipush (-2))) ∧ (dk cX11_as 28 = some (.ireturn) ∧ dk cX11_as 29 = some (.aload_n 3) ∧ dk cX11_as 30 = some (.getfield 206) ∧ fres 11 206 = some (8, 1, 1, true) ∧ dk cX11_as 33 = some (.iload_n 2) ∧ dk cX11_as 34 = some (.if_icmp .lt 7) ∧ jok 34 7 = true ∧ jmp 34 7 = 41 ∧ dk cX11_as 37 = some (.iconst 1) ∧ dk cX11_as 38 = some (.goto 8)) ∧ (jok 38 8 = true ∧ jmp 38 8 = 46 ∧ dk cX11_as 41 = some (.aload_n 0) ∧ dk cX11_as 42 = some (.iconst 2) ∧ dk cX11_as 43 = some (.invokevirtual 391) ∧ cres 11 391 = some 133 ∧ pM 133 = 1 ∧ sM 133 = false ∧ oM 133 = 11 ∧ dk cX11_as 46 = some (.ireturn)) := ⟨by decide +kernel, by decide +kernel, by decide +kernel, by decide +kernel, by decide +kernel⟩
set_option maxRecDepth 100000 in
theorem N_X11_as : ((yM 89).name = "<init>") = False ∧ ((yM 133).name = "<init>") = False := by simp only [eq_iff_iff, iff_false, iff_true]; decide +kernel
set_option maxRecDepth 100000 in
theorem D_X11_trace : dk cX11_trace 0 = some (.aload_n 0) ∧ dk cX11_trace 1 = some (.getfield 433) ∧ fres 11 433 = some (11, 13, 1, false) ∧ dk cX11_trace 4 = some (.ireturn) := by decide +kernel
set_option maxRecDepth 100000 in
theorem D_X11_fault : dk cX11_fault 0 = some (.aload_n 0) ∧ dk cX11_fault 1 = some (.getfield 167) ∧ fres 11 167 = some (11, 14, 1, false) ∧ dk cX11_fault 4 = some (.ireturn) := by decide +kernel
set_option maxRecDepth 100000 in
theorem D_X11_many : (dk cX11_many 0 = some (.iload_n 1) ∧ dk cX11_many 1 = some (.tableswitch 105 0 7 #[47, 55, 63, 68, 73, 81, 89, 97]) ∧ jok 1 105 = true ∧ jmp 1 105 = 106 ∧ jok 1 47 = true ∧ jmp 1 47 = 48 ∧ jok 1 55 = true ∧ jmp 1 55 = 56 ∧ jok 1 63 = true ∧ jmp 1 63 = 64) ∧ (jok 1 68 = true ∧ jmp 1 68 = 69 ∧ jok 1 73 = true ∧ jmp 1 73 = 74 ∧ jok 1 81 = true ∧ jmp 1 81 = 82 ∧ jok 1 89 = true ∧ jmp 1 89 = 90 ∧ jok 1 97 = true ∧ jmp 1 97 = 98) ∧ (dk cX11_many 48 = some (.aload_n 0) ∧ dk cX11_many 49 = some (.getfield 14) ∧ fres 11 14 = some (11, 0, 0, true) ∧ dk cX11_many 52 = some (.getfield 442) ∧ fres 11 442 = some (4, 8, 1, false) ∧ dk cX11_many 55 = some (.ireturn) ∧ dk cX11_many 56 = some (.aload_n 0) ∧ dk cX11_many 57 = some (.getfield 14) ∧ dk cX11_many 60 = some (.getfield 94) ∧ fres 11 94 = some (4, 9, 1, false)) ∧ (dk cX11_many 63 = some (.ireturn) ∧ dk cX11_many 64 = some (.aload_n 0) ∧ dk cX11_many 65 = some (.getfield 98) ∧ fres 11 98 = some (11, 11, 1, false) ∧ dk cX11_many 68 = some (.ireturn) ∧ dk cX11_many 69 = some (.aload_n 0) ∧ dk cX11_many 70 = some (.getfield 101) ∧ fres 11 101 = some (11, 12, 1, false) ∧ dk cX11_many 73 = some (.ireturn) ∧ dk cX11_many 74 = some (.aload_n 0)) ∧ (dk cX11_many 75 = some (.getfield 40) ∧ fres 11 40 = some (11, 4, 0, true) ∧ dk cX11_many 78 = some (.getfield 245) ∧ fres 11 245 = some (1, 5, 1, false) ∧ dk cX11_many 81 = some (.ireturn) ∧ dk cX11_many 82 = some (.aload_n 0) ∧ dk cX11_many 83 = some (.getfield 68) ∧ fres 11 68 = some (11, 8, 0, true) ∧ dk cX11_many 86 = some (.getfield 335) ∧ fres 11 335 = some (9, 4, 1, false)) ∧ (dk cX11_many 89 = some (.ireturn) ∧ dk cX11_many 90 = some (.aload_n 0) ∧ dk cX11_many 91 = some (.getfield 21) ∧ fres 11 21 = some (11, 1, 0, true) ∧ dk cX11_many 94 = some (.getfield 445) ∧ fres 11 445 = some (10, 3, 1, false) ∧ dk cX11_many 97 = some (.ireturn) ∧ dk cX11_many 98 = some (.aload_n 0) ∧ dk cX11_many 99 = some (.getfield 75) ∧ fres 11 75 = some (11, 9, 0, true)) ∧ (dk cX11_many 102 = some (.getfield 447) ∧ fres 11 447 = some (3, 3, 1, false) ∧ dk cX11_many 105 = some (.ireturn) ∧ dk cX11_many 106 = some (.bipush (-2)) ∧ dk cX11_many 108 = some (.ireturn)) := ⟨by decide +kernel, by decide +kernel, by decide +kernel, by decide +kernel, by decide +kernel, by decide +kernel, by decide +kernel⟩
set_option maxRecDepth 100000 in
theorem D_J6_bitCount_0f7a4 : (dk cJ6_bitCount_0f7a4 0 = some (.iload_n 0) ∧ dk cJ6_bitCount_0f7a4 1 = some (.iload_n 0) ∧ dk cJ6_bitCount_0f7a4 2 = some (.iconst 1) ∧ dk cJ6_bitCount_0f7a4 3 = some (.iushr) ∧ dk cJ6_bitCount_0f7a4 4 = some (.ldc_w 265) ∧ kres 14 265 = some (1431655765) ∧ dk cJ6_bitCount_0f7a4 7 = some (.iand) ∧ dk cJ6_bitCount_0f7a4 8 = some (.isub) ∧ dk cJ6_bitCount_0f7a4 9 = some (.istore_n 0) ∧ dk cJ6_bitCount_0f7a4 10 = some (.iload_n 0)) ∧ (dk cJ6_bitCount_0f7a4 11 = some (.ldc_w 266) ∧ kres 14 266 = some (858993459) ∧ dk cJ6_bitCount_0f7a4 14 = some (.iand) ∧ dk cJ6_bitCount_0f7a4 15 = some (.iload_n 0) ∧ dk cJ6_bitCount_0f7a4 16 = some (.iconst 2) ∧ dk cJ6_bitCount_0f7a4 17 = some (.iushr) ∧ dk cJ6_bitCount_0f7a4 18 = some (.ldc_w 266) ∧ dk cJ6_bitCount_0f7a4 21 = some (.iand) ∧ dk cJ6_bitCount_0f7a4 22 = some (.iadd) ∧ dk cJ6_bitCount_0f7a4 23 = some (.istore_n 0)) ∧ (dk cJ6_bitCount_0f7a4 24 = some (.iload_n 0) ∧ dk cJ6_bitCount_0f7a4 25 = some (.iload_n 0) ∧ dk cJ6_bitCount_0f7a4 26 = some (.iconst 4) ∧ dk cJ6_bitCount_0f7a4 27 = some (.iushr) ∧ dk cJ6_bitCount_0f7a4 28 = some (.iadd) ∧ dk cJ6_bitCount_0f7a4 29 = some (.ldc_w 267) ∧ kres 14 267 = some (252645135) ∧ dk cJ6_bitCount_0f7a4 32 = some (.iand) ∧ dk cJ6_bitCount_0f7a4 33 = some (.istore_n 0) ∧ dk cJ6_bitCount_0f7a4 34 = some (.iload_n 0)) ∧ (dk cJ6_bitCount_0f7a4 35 = some (.iload_n 0) ∧ dk cJ6_bitCount_0f7a4 36 = some (.bipush 8) ∧ dk cJ6_bitCount_0f7a4 38 = some (.iushr) ∧ dk cJ6_bitCount_0f7a4 39 = some (.iadd) ∧ dk cJ6_bitCount_0f7a4 40 = some (.istore_n 0) ∧ dk cJ6_bitCount_0f7a4 41 = some (.iload_n 0) ∧ dk cJ6_bitCount_0f7a4 42 = some (.iload_n 0) ∧ dk cJ6_bitCount_0f7a4 43 = some (.bipush 16) ∧ dk cJ6_bitCount_0f7a4 45 = some (.iushr) ∧ dk cJ6_bitCount_0f7a4 46 = some (.iadd)) ∧ (dk cJ6_bitCount_0f7a4 47 = some (.istore_n 0) ∧ dk cJ6_bitCount_0f7a4 48 = some (.iload_n 0) ∧ dk cJ6_bitCount_0f7a4 49 = some (.bipush 63) ∧ dk cJ6_bitCount_0f7a4 51 = some (.iand) ∧ dk cJ6_bitCount_0f7a4 52 = some (.ireturn)) := ⟨by decide +kernel, by decide +kernel, by decide +kernel, by decide +kernel, by decide +kernel⟩
set_option maxRecDepth 100000 in
theorem D_J9_max_7cf53 : (dk cJ9_max_7cf53 0 = some (.iload_n 0) ∧ dk cJ9_max_7cf53 1 = some (.iload_n 1) ∧ dk cJ9_max_7cf53 2 = some (.if_icmp .lt 7) ∧ jok 2 7 = true ∧ jmp 2 7 = 9 ∧ dk cJ9_max_7cf53 5 = some (.iload_n 0) ∧ dk cJ9_max_7cf53 6 = some (.goto 4) ∧ jok 6 4 = true ∧ jmp 6 4 = 10 ∧ dk cJ9_max_7cf53 9 = some (.iload_n 1)) ∧ (dk cJ9_max_7cf53 10 = some (.ireturn)) := ⟨by decide +kernel, by decide +kernel⟩
set_option maxRecDepth 100000 in
theorem D_J9_min_7cf53 : (dk cJ9_min_7cf53 0 = some (.iload_n 0) ∧ dk cJ9_min_7cf53 1 = some (.iload_n 1) ∧ dk cJ9_min_7cf53 2 = some (.if_icmp .gt 7) ∧ jok 2 7 = true ∧ jmp 2 7 = 9 ∧ dk cJ9_min_7cf53 5 = some (.iload_n 0) ∧ dk cJ9_min_7cf53 6 = some (.goto 4) ∧ jok 6 4 = true ∧ jmp 6 4 = 10 ∧ dk cJ9_min_7cf53 9 = some (.iload_n 1)) ∧ (dk cJ9_min_7cf53 10 = some (.ireturn)) := ⟨by decide +kernel, by decide +kernel⟩
set_option maxRecDepth 100000 in
theorem D_J7_fill_53178 : (dk cJ7_fill_53178 0 = some (.iconst 0) ∧ dk cJ7_fill_53178 1 = some (.istore_n 2) ∧ dk cJ7_fill_53178 2 = some (.aload_n 0) ∧ dk cJ7_fill_53178 3 = some (.arraylength) ∧ dk cJ7_fill_53178 4 = some (.istore_n 3) ∧ dk cJ7_fill_53178 5 = some (.iload_n 2) ∧ dk cJ7_fill_53178 6 = some (.iload_n 3) ∧ dk cJ7_fill_53178 7 = some (.if_icmp .ge 13) ∧ jok 7 13 = true ∧ jmp 7 13 = 20) ∧ (dk cJ7_fill_53178 10 = some (.aload_n 0) ∧ dk cJ7_fill_53178 11 = some (.iload_n 2) ∧ dk cJ7_fill_53178 12 = some (.iload_n 1) ∧ dk cJ7_fill_53178 13 = some (.iastore) ∧ dk cJ7_fill_53178 14 = some (.iinc 2 1) ∧ dk cJ7_fill_53178 17 = some (.goto (-12)) ∧ jok 17 (-12) = true ∧ jmp 17 (-12) = 5 ∧ dk cJ7_fill_53178 20 = some (.return_)) := ⟨by decide +kernel, by decide +kernel⟩
end
section
/-! part 07: closed facts of each method of the class: its instructions, what its pool entries name, where its jumps go -/
set_option maxRecDepth 100000 in
theorem D_X12_init : (dk cX12_init 0 = some (.aload_n 0) ∧ dk cX12_init 1 = some (.invokespecial 1) ∧ dk cX12_init 4 = some (.aload_n 0) ∧ dk cX12_init 5 = some (.bipush 10) ∧ dk cX12_init 7 = some (.newarray .int) ∧ dk cX12_init 9 = some (.putfield 7) ∧ fres 12 7 = some (12, 1, 0, true) ∧ dk cX12_init 12 = some (.aload_n 0) ∧ dk cX12_init 13 = some (.bipush 10) ∧ dk cX12_init 15 = some (.newarray .int)) ∧ (dk cX12_init 17 = some (.putfield 13) ∧ fres 12 13 = some (12, 2, 0, true) ∧ dk cX12_init 20 = some (.aload_n 0) ∧ dk cX12_init 21 = some (.bipush 100) ∧ dk cX12_init 23 = some (.newarray .int) ∧ dk cX12_init 25 = some (.putfield 16) ∧ fres 12 16 = some (12, 3, 0, true) ∧ dk cX12_init 28 = some (.aload_n 0) ∧ dk cX12_init 29 = some (.bipush 8) ∧ dk cX12_init 31 = some (.newarray .int)) ∧ (dk cX12_init 33 = some (.putfield 19) ∧ fres 12 19 = some (12, 5, 0, true) ∧ dk cX12_init 36 = some (.aload_n 0) ∧ dk cX12_init 37 = some (.bipush 8) ∧ dk cX12_init 39 = some (.newarray .int) ∧ dk cX12_init 41 = some (.putfield 22) ∧ fres 12 22 = some (12, 6, 0, true) ∧ dk cX12_init 44 = some (.aload_n 0) ∧ dk cX12_init 45 = some (.bipush 10) ∧ dk cX12_init 47 = some (.newarray .int)) ∧ (dk cX12_init 49 = some (.putfield 25) ∧ fres 12 25 = some (12, 8, 0, true) ∧ dk cX12_init 52 = some (.aload_n 0) ∧ dk cX12_init 53 = some (.bipush 8) ∧ dk cX12_init 55 = some (.newarray .int) ∧ dk cX12_init 57 = some (.putfield 28) ∧ fres 12 28 = some (12, 10, 0, true) ∧ dk cX12_init 60 = some (.aload_n 0) ∧ dk cX12_init 61 = some (.bipush 8) ∧ dk cX12_init 63 = some (.newarray .int)) ∧ (dk cX12_init 65 = some (.putfield 31) ∧ fres 12 31 = some (12, 11, 0, true) ∧ dk cX12_init 68 = some (.aload_n 0) ∧ dk cX12_init 69 = some (.bipush 8) ∧ dk cX12_init 71 = some (.newarray .int) ∧ dk cX12_init 73 = some (.putfield 34) ∧ fres 12 34 = some (12, 12, 0, true) ∧ dk cX12_init 76 = some (.aload_n 0) ∧ dk cX12_init 77 = some (.sipush 640) ∧ dk cX12_init 80 = some (.newarray .int)) ∧ (dk cX12_init 82 = some (.putfield 37) ∧ fres 12 37 = some (12, 13, 0, true) ∧ dk cX12_init 85 = some (.aload_n 0) ∧ dk cX12_init 86 = some (.sipush 640) ∧ dk cX12_init 89 = some (.newarray .int) ∧ dk cX12_init 91 = some (.putfield 40) ∧ fres 12 40 = some (12, 14, 0, true) ∧ dk cX12_init 94 = some (.aload_n 0) ∧ dk cX12_init 95 = some (.bipush 8) ∧ dk cX12_init 97 = some (.newarray .int)) ∧ (dk cX12_init 99 = some (.putfield 43) ∧ fres 12 43 = some (12, 15, 0, true) ∧ dk cX12_init 102 = some (.aload_n 0) ∧ dk cX12_init 103 = some (.bipush 8) ∧ dk cX12_init 105 = some (.newarray .int) ∧ dk cX12_init 107 = some (.putfield 46) ∧ fres 12 46 = some (12, 16, 0, true) ∧ dk cX12_init 110 = some (.aload_n 0) ∧ dk cX12_init 111 = some (.bipush 8) ∧ dk cX12_init 113 = some (.newarray .int)) ∧ (dk cX12_init 115 = some (.putfield 49) ∧ fres 12 49 = some (12, 17, 0, true) ∧ dk cX12_init 118 = some (.aload_n 0) ∧ dk cX12_init 119 = some (.bipush 8) ∧ dk cX12_init 121 = some (.newarray .int) ∧ dk cX12_init 123 = some (.putfield 52) ∧ fres 12 52 = some (12, 19, 0, true) ∧ dk cX12_init 126 = some (.aload_n 0) ∧ dk cX12_init 127 = some (.bipush 48) ∧ dk cX12_init 129 = some (.newarray .int)) ∧ (dk cX12_init 131 = some (.putfield 55) ∧ fres 12 55 = some (12, 20, 0, true) ∧ dk cX12_init 134 = some (.aload_n 0) ∧ dk cX12_init 135 = some (.bipush 40) ∧ dk cX12_init 137 = some (.newarray .int) ∧ dk cX12_init 139 = some (.putfield 58) ∧ fres 12 58 = some (12, 22, 0, true) ∧ dk cX12_init 142 = some (.aload_n 0) ∧ dk cX12_init 143 = some (.bipush 40) ∧ dk cX12_init 145 = some (.newarray .int)) ∧ (dk cX12_init 147 = some (.putfield 61) ∧ fres 12 61 = some (12, 23, 0, true) ∧ dk cX12_init 150 = some (.aload_n 0) ∧ dk cX12_init 151 = some (.bipush 40) ∧ dk cX12_init 153 = some (.newarray .int) ∧ dk cX12_init 155 = some (.putfield 64) ∧ fres 12 64 = some (12, 24, 0, true) ∧ dk cX12_init 158 = some (.aload_n 0) ∧ dk cX12_init 159 = some (.bipush 40) ∧ dk cX12_init 161 = some (.newarray .int)) ∧ (dk cX12_init 163 = some (.putfield 67) ∧ fres 12 67 = some (12, 25, 0, true) ∧ dk cX12_init 166 = some (.aload_n 0) ∧ dk cX12_init 167 = some (.iconst 5) ∧ dk cX12_init 168 = some (.newarray .int) ∧ dk cX12_init 170 = some (.putfield 70) ∧ fres 12 70 = some (12, 27, 0, true) ∧ dk cX12_init 173 = some (.aload_n 0) ∧ dk cX12_init 174 = some (.sipush 140) ∧ dk cX12_init 177 = some (.newarray .int)) ∧ (dk cX12_init 179 = some (.putfield 73) ∧ fres 12 73 = some (12, 30, 0, true) ∧ dk cX12_init 182 = some (.aload_n 0) ∧ dk cX12_init 183 = some (.bipush 10) ∧ dk cX12_init 185 = some (.newarray .int) ∧ dk cX12_init 187 = some (.putfield 76) ∧ fres 12 76 = some (12, 31, 0, true) ∧ dk cX12_init 190 = some (.aload_n 0) ∧ dk cX12_init 191 = some (.bipush 48) ∧ dk cX12_init 193 = some (.newarray .int)) ∧ (dk cX12_init 195 = some (.putfield 79) ∧ fres 12 79 = some (12, 32, 0, true) ∧ dk cX12_init 198 = some (.aload_n 0) ∧ dk cX12_init 199 = some (.sipush 200) ∧ dk cX12_init 202 = some (.newarray .int) ∧ dk cX12_init 204 = some (.putfield 82) ∧ fres 12 82 = some (12, 34, 0, true) ∧ dk cX12_init 207 = some (.aload_n 0) ∧ dk cX12_init 208 = some (.sipush 200) ∧ dk cX12_init 211 = some (.newarray .int)) ∧ (dk cX12_init 213 = some (.putfield 85) ∧ fres 12 85 = some (12, 35, 0, true) ∧ dk cX12_init 216 = some (.aload_n 0) ∧ dk cX12_init 217 = some (.bipush 64) ∧ dk cX12_init 219 = some (.newarray .int) ∧ dk cX12_init 221 = some (.putfield 88) ∧ fres 12 88 = some (12, 37, 0, true) ∧ dk cX12_init 224 = some (.aload_n 0) ∧ dk cX12_init 225 = some (.bipush 16) ∧ dk cX12_init 227 = some (.newarray .int)) ∧ (dk cX12_init 229 = some (.putfield 91) ∧ fres 12 91 = some (12, 38, 0, true) ∧ dk cX12_init 232 = some (.aload_n 0) ∧ dk cX12_init 233 = some (.bipush 80) ∧ dk cX12_init 235 = some (.newarray .int) ∧ dk cX12_init 237 = some (.putfield 94) ∧ fres 12 94 = some (12, 40, 0, true) ∧ dk cX12_init 240 = some (.aload_n 0) ∧ dk cX12_init 241 = some (.bipush 80) ∧ dk cX12_init 243 = some (.newarray .int)) ∧ (dk cX12_init 245 = some (.putfield 97) ∧ fres 12 97 = some (12, 41, 0, true) ∧ dk cX12_init 248 = some (.aload_n 0) ∧ dk cX12_init 249 = some (.bipush 8) ∧ dk cX12_init 251 = some (.newarray .int) ∧ dk cX12_init 253 = some (.putfield 100) ∧ fres 12 100 = some (12, 43, 0, true) ∧ dk cX12_init 256 = some (.aload_n 0) ∧ dk cX12_init 257 = some (.bipush 8) ∧ dk cX12_init 259 = some (.newarray .int)) ∧ (dk cX12_init 261 = some (.putfield 103) ∧ fres 12 103 = some (12, 44, 0, true) ∧ dk cX12_init 264 = some (.aload_n 0) ∧ dk cX12_init 265 = some (.bipush 8) ∧ dk cX12_init 267 = some (.newarray .int) ∧ dk cX12_init 269 = some (.putfield 106) ∧ fres 12 106 = some (12, 45, 0, true) ∧ dk cX12_init 272 = some (.aload_n 0) ∧ dk cX12_init 273 = some (.bipush 40) ∧ dk cX12_init 275 = some (.newarray .int)) ∧ (dk cX12_init 277 = some (.putfield 109) ∧ fres 12 109 = some (12, 46, 0, true) ∧ dk cX12_init 280 = some (.aload_n 0) ∧ dk cX12_init 281 = some (.bipush 60) ∧ dk cX12_init 283 = some (.newarray .int) ∧ dk cX12_init 285 = some (.putfield 112) ∧ fres 12 112 = some (12, 48, 0, true) ∧ dk cX12_init 288 = some (.aload_n 0) ∧ dk cX12_init 289 = some (.bipush 60) ∧ dk cX12_init 291 = some (.newarray .boolean)) ∧ (dk cX12_init 293 = some (.putfield 115) ∧ fres 12 115 = some (12, 49, 0, true) ∧ dk cX12_init 296 = some (.aload_n 0) ∧ dk cX12_init 297 = some (.iconst 4) ∧ dk cX12_init 298 = some (.newarray .int) ∧ dk cX12_init 300 = some (.putfield 119) ∧ fres 12 119 = some (12, 50, 0, true) ∧ dk cX12_init 303 = some (.aload_n 0) ∧ dk cX12_init 304 = some (.iconst 4) ∧ dk cX12_init 305 = some (.newarray .int)) ∧ (dk cX12_init 307 = some (.putfield 122) ∧ fres 12 122 = some (12, 51, 0, true) ∧ dk cX12_init 310 = some (.aload_n 0) ∧ dk cX12_init 311 = some (.sipush 240) ∧ dk cX12_init 314 = some (.newarray .int) ∧ dk cX12_init 316 = some (.putfield 125) ∧ fres 12 125 = some (12, 52, 0, true) ∧ dk cX12_init 319 = some (.aload_n 0) ∧ dk cX12_init 320 = some (.bipush 60) ∧ dk cX12_init 322 = some (.newarray .int)) ∧ (dk cX12_init 324 = some (.putfield 128) ∧ fres 12 128 = some (12, 53, 0, true) ∧ dk cX12_init 327 = some (.aload_n 0) ∧ dk cX12_init 328 = some (.iconst 1) ∧ dk cX12_init 329 = some (.putfield 131) ∧ fres 12 131 = some (12, 36, 1, false) ∧ isBo (tyN 12 36) = false ∧ dk cX12_init 332 = some (.iconst 0) ∧ dk cX12_init 333 = some (.istore_n 1) ∧ dk cX12_init 334 = some (.iload_n 1)) ∧ (dk cX12_init 335 = some (.bipush 64) ∧ dk cX12_init 337 = some (.if_icmp .ge 17) ∧ jok 337 17 = true ∧ jmp 337 17 = 354 ∧ dk cX12_init 340 = some (.aload_n 0) ∧ dk cX12_init 341 = some (.getfield 88) ∧ dk cX12_init 344 = some (.iload_n 1) ∧ dk cX12_init 345 = some (.bipush (-9)) ∧ dk cX12_init 347 = some (.iastore) ∧ dk cX12_init 348 = some (.iinc 1 1)) ∧ (dk cX12_init 351 = some (.goto (-17)) ∧ jok 351 (-17) = true ∧ jmp 351 (-17) = 334 ∧ dk cX12_init 354 = some (.iconst 0) ∧ dk cX12_init 355 = some (.istore_n 1) ∧ dk cX12_init 356 = some (.iload_n 1) ∧ dk cX12_init 357 = some (.bipush 100) ∧ dk cX12_init 359 = some (.if_icmp .ge 17) ∧ jok 359 17 = true ∧ jmp 359 17 = 376) ∧ (dk cX12_init 362 = some (.aload_n 0) ∧ dk cX12_init 363 = some (.getfield 16) ∧ dk cX12_init 366 = some (.iload_n 1) ∧ dk cX12_init 367 = some (.bipush (-9)) ∧ dk cX12_init 369 = some (.iastore) ∧ dk cX12_init 370 = some (.iinc 1 1) ∧ dk cX12_init 373 = some (.goto (-17)) ∧ jok 373 (-17) = true ∧ jmp 373 (-17) = 356 ∧ dk cX12_init 376 = some (.iconst 0)) ∧ (dk cX12_init 377 = some (.istore_n 1) ∧ dk cX12_init 378 = some (.iload_n 1) ∧ dk cX12_init 379 = some (.bipush 40) ∧ dk cX12_init 381 = some (.if_icmp .ge 17) ∧ jok 381 17 = true ∧ jmp 381 17 = 398 ∧ dk cX12_init 384 = some (.aload_n 0) ∧ dk cX12_init 385 = some (.getfield 109) ∧ dk cX12_init 388 = some (.iload_n 1) ∧ dk cX12_init 389 = some (.bipush (-9))) ∧ (dk cX12_init 391 = some (.iastore) ∧ dk cX12_init 392 = some (.iinc 1 1) ∧ dk cX12_init 395 = some (.goto (-17)) ∧ jok 395 (-17) = true ∧ jmp 395 (-17) = 378 ∧ dk cX12_init 398 = some (.iconst 0) ∧ dk cX12_init 399 = some (.istore_n 1) ∧ dk cX12_init 400 = some (.iload_n 1) ∧ dk cX12_init 401 = some (.sipush 640) ∧ dk cX12_init 404 = some (.if_icmp .ge 25)) ∧ (jok 404 25 = true ∧ jmp 404 25 = 429 ∧ dk cX12_init 407 = some (.aload_n 0) ∧ dk cX12_init 408 = some (.getfield 37) ∧ dk cX12_init 411 = some (.iload_n 1) ∧ dk cX12_init 412 = some (.bipush (-9)) ∧ dk cX12_init 414 = some (.iastore) ∧ dk cX12_init 415 = some (.aload_n 0) ∧ dk cX12_init 416 = some (.getfield 40) ∧ dk cX12_init 419 = some (.iload_n 1)) ∧ (dk cX12_init 420 = some (.bipush (-9)) ∧ dk cX12_init 422 = some (.iastore) ∧ dk cX12_init 423 = some (.iinc 1 1) ∧ dk cX12_init 426 = some (.goto (-26)) ∧ jok 426 (-26) = true ∧ jmp 426 (-26) = 400 ∧ dk cX12_init 429 = some (.iconst 0) ∧ dk cX12_init 430 = some (.istore_n 1) ∧ dk cX12_init 431 = some (.iload_n 1) ∧ dk cX12_init 432 = some (.iconst 4)) ∧ (dk cX12_init 433 = some (.if_icmp .ge 16) ∧ jok 433 16 = true ∧ jmp 433 16 = 449 ∧ dk cX12_init 436 = some (.aload_n 0) ∧ dk cX12_init 437 = some (.getfield 119) ∧ dk cX12_init 440 = some (.iload_n 1) ∧ dk cX12_init 441 = some (.iconst (-1)) ∧ dk cX12_init 442 = some (.iastore) ∧ dk cX12_init 443 = some (.iinc 1 1) ∧ dk cX12_init 446 = some (.goto (-15))) ∧ (jok 446 (-15) = true ∧ jmp 446 (-15) = 431 ∧ dk cX12_init 449 = some (.return_)) := ⟨by decide +kernel, by decide +kernel, by decide +kernel, by decide +kernel, by decide +kernel, by decide +kernel, by decide +kernel, by decide +kernel, by decide +kernel, by decide +kernel, by decide +kernel, by decide +kernel, by decide +kernel, by decide +kernel, by decide +kernel, by decide +kernel, by decide +kernel, by decide +kernel, by decide +kernel, by decide +kernel, by decide +kernel, by decide +kernel, by decide +kernel, by decide +kernel, by decide +kernel, by decide +kernel, by decide +kernel, by decide +kernel, by decide +kernel, by decide +kernel⟩
set_option maxRecDepth 100000 in
theorem D_X12_in : (dk cX12_in 0 = some (.lload_n 0) ∧ dk cX12_in 1 = some (.lload_n 2) ∧ dk cX12_in 2 = some (.lcmp) ∧ dk cX12_in 3 = some (.ifCond .lt 14) ∧ jok 3 14 = true ∧ jmp 3 14 = 17 ∧ dk cX12_in 6 = some (.lload_n 0) ∧ dk cX12_in 7 = some (.lload 4) ∧ dk cX12_in 9 = some (.lcmp) ∧ dk cX12_in 10 = some (.ifCond .gt 7)) ∧ (jok 10 7 = true ∧ jmp 10 7 = 17 ∧ dk cX12_in 13 = some (.iconst 1) ∧ dk cX12_in 14 = some (.goto 4) ∧ jok 14 4 = true ∧ jmp 14 4 = 18 ∧ dk cX12_in 17 = some (.iconst 0) ∧ dk cX12_in 18 = some (.ireturn)) := ⟨by decide +kernel, by decide +kernel⟩
set_option maxRecDepth 100000 in
theorem D_X12_lost : dk cX12_lost 0 = some (.ldc2_w 135) ∧ lres 12 135 = some (-9223372036854775808) ∧ dk cX12_lost 3 = some (.lreturn) := by decide +kernel
set_option maxRecDepth 100000 in
theorem D_X12_hasBit : (dk cX12_hasBit 0 = some (.iload_n 0) ∧ dk cX12_hasBit 1 = some (.iload_n 1) ∧ dk cX12_hasBit 2 = some (.ishr) ∧ dk cX12_hasBit 3 = some (.iconst 1) ∧ dk cX12_hasBit 4 = some (.iand) ∧ dk cX12_hasBit 5 = some (.iconst 1) ∧ dk cX12_hasBit 6 = some (.if_icmp .ne 7) ∧ jok 6 7 = true ∧ jmp 6 7 = 13 ∧ dk cX12_hasBit 9 = some (.iconst 1)) ∧ (dk cX12_hasBit 10 = some (.goto 4) ∧ jok 10 4 = true ∧ jmp 10 4 = 14 ∧ dk cX12_hasBit 13 = some (.iconst 0) ∧ dk cX12_hasBit 14 = some (.ireturn)) := ⟨by decide +kernel, by decide +kernel⟩
set_option maxRecDepth 100000 in
theorem D_X12_bits : (dk cX12_bits 0 = some (.iconst 0) ∧ dk cX12_bits 1 = some (.istore_n 1) ∧ dk cX12_bits 2 = some (.iconst 0) ∧ dk cX12_bits 3 = some (.istore_n 2) ∧ dk cX12_bits 4 = some (.iload_n 2) ∧ dk cX12_bits 5 = some (.bipush 16) ∧ dk cX12_bits 7 = some (.if_icmp .ge 17) ∧ jok 7 17 = true ∧ jmp 7 17 = 24 ∧ dk cX12_bits 10 = some (.iload_n 1)) ∧ (dk cX12_bits 11 = some (.iload_n 0) ∧ dk cX12_bits 12 = some (.iload_n 2) ∧ dk cX12_bits 13 = some (.ishr) ∧ dk cX12_bits 14 = some (.iconst 1) ∧ dk cX12_bits 15 = some (.iand) ∧ dk cX12_bits 16 = some (.iadd) ∧ dk cX12_bits 17 = some (.istore_n 1) ∧ dk cX12_bits 18 = some (.iinc 2 1) ∧ dk cX12_bits 21 = some (.goto (-17)) ∧ jok 21 (-17) = true) ∧ (jmp 21 (-17) = 4 ∧ dk cX12_bits 24 = some (.iload_n 1) ∧ dk cX12_bits 25 = some (.ireturn)) := ⟨by decide +kernel, by decide +kernel, by decide +kernel⟩
set_option maxRecDepth 100000 in
theorem D_X12_lesser : (dk cX12_lesser 0 = some (.iload_n 0) ∧ dk cX12_lesser 1 = some (.iload_n 1) ∧ dk cX12_lesser 2 = some (.if_icmp .ge 7) ∧ jok 2 7 = true ∧ jmp 2 7 = 9 ∧ dk cX12_lesser 5 = some (.iload_n 0) ∧ dk cX12_lesser 6 = some (.goto 4) ∧ jok 6 4 = true ∧ jmp 6 4 = 10 ∧ dk cX12_lesser 9 = some (.iload_n 1)) ∧ (dk cX12_lesser 10 = some (.ireturn)) := ⟨by decide +kernel, by decide +kernel⟩
set_option maxRecDepth 100000 in
theorem D_X12_common : (dk cX12_common 0 = some (.lload_n 0) ∧ dk cX12_common 1 = some (.lstore 4) ∧ dk cX12_common 3 = some (.lload_n 2) ∧ dk cX12_common 4 = some (.lstore 6) ∧ dk cX12_common 6 = some (.lload 6) ∧ dk cX12_common 8 = some (.lconst 0) ∧ dk cX12_common 9 = some (.lcmp) ∧ dk cX12_common 10 = some (.ifCond .eq 21) ∧ jok 10 21 = true ∧ jmp 10 21 = 31) ∧ (dk cX12_common 13 = some (.lload 4) ∧ dk cX12_common 15 = some (.lload 6) ∧ dk cX12_common 17 = some (.lrem) ∧ dk cX12_common 18 = some (.lstore 8) ∧ dk cX12_common 20 = some (.lload 6) ∧ dk cX12_common 22 = some (.lstore 4) ∧ dk cX12_common 24 = some (.lload 8) ∧ dk cX12_common 26 = some (.lstore 6) ∧ dk cX12_common 28 = some (.goto (-22)) ∧ jok 28 (-22) = true) ∧ (jmp 28 (-22) = 6 ∧ dk cX12_common 31 = some (.lload 4) ∧ dk cX12_common 33 = some (.lreturn)) := ⟨by decide +kernel, by decide +kernel, by decide +kernel⟩
set_option maxRecDepth 100000 in
theorem D_X12_share : (dk cX12_share 0 = some (.iload 4) ∧ dk cX12_share 2 = some (.ifCond .ne 7) ∧ jok 2 7 = true ∧ jmp 2 7 = 9 ∧ dk cX12_share 5 = some (.lload_n 0) ∧ dk cX12_share 6 = some (.goto 4) ∧ jok 6 4 = true ∧ jmp 6 4 = 10 ∧ dk cX12_share 9 = some (.lload_n 2) ∧ dk cX12_share 10 = some (.lload_n 0)) ∧ (dk cX12_share 11 = some (.lload_n 2) ∧ dk cX12_share 12 = some (.invokestatic 137) ∧ cres 12 137 = some 157 ∧ pM 157 = 2 ∧ sM 157 = true ∧ dk cX12_share 15 = some (.ldiv) ∧ dk cX12_share 16 = some (.lreturn)) := ⟨by decide +kernel, by decide +kernel⟩
set_option maxRecDepth 100000 in
theorem D_X12_isTick : dk cX12_isTick 0 = some (.iload_n 0) ∧ dk cX12_isTick 1 = some (.i2l) ∧ dk cX12_isTick 2 = some (.lconst 0) ∧ dk cX12_isTick 3 = some (.ldc2_w 141) ∧ lres 12 141 = some (999) ∧ dk cX12_isTick 6 = some (.invokestatic 143) ∧ cres 12 143 = some 152 ∧ pM 152 = 3 ∧ sM 152 = true ∧ dk cX12_isTick 9 = some (.ireturn) := by decide +kernel
set_option maxRecDepth 100000 in
theorem D_X12_refused : dk cX12_refused 0 = some (.aload_n 0) ∧ dk cX12_refused 1 = some (.iconst 0) ∧ dk cX12_refused 2 = some (.putfield 147) ∧ fres 12 147 = some (12, 0, 1, false) ∧ isBo (tyN 12 0) = false ∧ dk cX12_refused 5 = some (.iload_n 1) ∧ dk cX12_refused 6 = some (.ireturn) := by decide +kernel
set_option maxRecDepth 100000 in
theorem D_X12_failed : dk cX12_failed 0 = some (.aload_n 0) ∧ dk cX12_failed 1 = some (.iload_n 1) ∧ dk cX12_failed 2 = some (.putfield 147) ∧ fres 12 147 = some (12, 0, 1, false) ∧ isBo (tyN 12 0) = false ∧ dk cX12_failed 5 = some (.bipush (-10)) ∧ dk cX12_failed 7 = some (.iload_n 1) ∧ dk cX12_failed 8 = some (.isub) ∧ dk cX12_failed 9 = some (.ireturn) := by decide +kernel
set_option maxRecDepth 100000 in
theorem D_X12_failedLong : dk cX12_failedLong 0 = some (.aload_n 0) ∧ dk cX12_failedLong 1 = some (.iload_n 1) ∧ dk cX12_failedLong 2 = some (.putfield 147) ∧ fres 12 147 = some (12, 0, 1, false) ∧ isBo (tyN 12 0) = false ∧ dk cX12_failedLong 5 = some (.invokestatic 150) ∧ cres 12 150 = some 153 ∧ pM 153 = 0 ∧ sM 153 = true ∧ dk cX12_failedLong 8 = some (.lreturn) := by decide +kernel
set_option maxRecDepth 100000 in
theorem D_X12_barred : (dk cX12_barred 0 = some (.iload_n 2) ∧ dk cX12_barred 1 = some (.i2l) ∧ dk cX12_barred 2 = some (.lconst 0) ∧ dk cX12_barred 3 = some (.ldc2_w 154) ∧ lres 12 154 = some (2) ∧ dk cX12_barred 6 = some (.invokestatic 143) ∧ cres 12 143 = some 152 ∧ pM 152 = 3 ∧ sM 152 = true ∧ dk cX12_barred 9 = some (.ifCond .ne 10)) ∧ (jok 9 10 = true ∧ jmp 9 10 = 19 ∧ dk cX12_barred 12 = some (.aload_n 0) ∧ dk cX12_barred 13 = some (.bipush (-2)) ∧ dk cX12_barred 15 = some (.invokevirtual 156) ∧ cres 12 156 = some 160 ∧ pM 160 = 1 ∧ sM 160 = false ∧ oM 160 = 12 ∧ dk cX12_barred 18 = some (.ireturn)) ∧ (dk cX12_barred 19 = some (.aload_n 0) ∧ dk cX12_barred 20 = some (.getfield 119) ∧ fres 12 119 = some (12, 50, 0, true) ∧ dk cX12_barred 23 = some (.iload_n 1) ∧ dk cX12_barred 24 = some (.iaload) ∧ dk cX12_barred 25 = some (.ifCond .lt 19) ∧ jok 25 19 = true ∧ jmp 25 19 = 44 ∧ dk cX12_barred 28 = some (.aload_n 0) ∧ dk cX12_barred 29 = some (.getfield 122)) ∧ (fres 12 122 = some (12, 51, 0, true) ∧ dk cX12_barred 32 = some (.iload_n 1) ∧ dk cX12_barred 33 = some (.iaload) ∧ dk cX12_barred 34 = some (.iload_n 2) ∧ dk cX12_barred 35 = some (.if_icmp .eq 9) ∧ jok 35 9 = true ∧ jmp 35 9 = 44 ∧ dk cX12_barred 38 = some (.aload_n 0) ∧ dk cX12_barred 39 = some (.iconst 2) ∧ dk cX12_barred 40 = some (.invokevirtual 160)) ∧ (cres 12 160 = some 161 ∧ pM 161 = 1 ∧ sM 161 = false ∧ oM 161 = 12 ∧ dk cX12_barred 43 = some (.ireturn) ∧ dk cX12_barred 44 = some (.aload_n 0) ∧ dk cX12_barred 45 = some (.getfield 119) ∧ dk cX12_barred 48 = some (.iload_n 1) ∧ dk cX12_barred 49 = some (.iaload) ∧ dk cX12_barred 50 = some (.ifCond .ge 9)) ∧ (jok 50 9 = true ∧ jmp 50 9 = 59 ∧ dk cX12_barred 53 = some (.aload_n 0) ∧ dk cX12_barred 54 = some (.iconst 1) ∧ dk cX12_barred 55 = some (.invokevirtual 160) ∧ dk cX12_barred 58 = some (.ireturn) ∧ dk cX12_barred 59 = some (.lload 4) ∧ dk cX12_barred 61 = some (.lconst 0) ∧ dk cX12_barred 62 = some (.lcmp) ∧ dk cX12_barred 63 = some (.ifCond .ge 9)) ∧ (jok 63 9 = true ∧ jmp 63 9 = 72 ∧ dk cX12_barred 66 = some (.aload_n 0) ∧ dk cX12_barred 67 = some (.iconst 4) ∧ dk cX12_barred 68 = some (.invokevirtual 160) ∧ dk cX12_barred 71 = some (.ireturn) ∧ dk cX12_barred 72 = some (.iload_n 3) ∧ dk cX12_barred 73 = some (.lload 4) ∧ dk cX12_barred 75 = some (.aload_n 0) ∧ dk cX12_barred 76 = some (.getfield 119)) ∧ (dk cX12_barred 79 = some (.iload_n 1) ∧ dk cX12_barred 80 = some (.iaload) ∧ dk cX12_barred 81 = some (.invokestatic 163) ∧ cres 12 163 = some 242 ∧ pM 242 = 3 ∧ sM 242 = true ∧ dk cX12_barred 84 = some (.ifCond .eq 11) ∧ jok 84 11 = true ∧ jmp 84 11 = 95 ∧ dk cX12_barred 87 = some (.aload_n 0)) ∧ (dk cX12_barred 88 = some (.iconst 3) ∧ dk cX12_barred 89 = some (.invokevirtual 160) ∧ dk cX12_barred 92 = some (.goto 4) ∧ jok 92 4 = true ∧ jmp 92 4 = 96 ∧ dk cX12_barred 95 = some (.iconst 0) ∧ dk cX12_barred 96 = some (.ireturn)) := ⟨by decide +kernel, by decide +kernel, by decide +kernel, by decide +kernel, by decide +kernel, by decide +kernel, by decide +kernel, by decide +kernel, by decide +kernel⟩
set_option maxRecDepth 100000 in
theorem N_X12_barred : ((yM 160).name = "<init>") = False ∧ ((yM 161).name = "<init>") = False := by simp only [eq_iff_iff, iff_false, iff_true]; decide +kernel
set_option maxRecDepth 100000 in
theorem D_X12_areCells : (dk cX12_areCells 0 = some (.iconst 1) ∧ dk cX12_areCells 1 = some (.istore 5) ∧ dk cX12_areCells 3 = some (.iconst 0) ∧ dk cX12_areCells 4 = some (.istore 6) ∧ dk cX12_areCells 6 = some (.iload 6) ∧ dk cX12_areCells 8 = some (.iload_n 2) ∧ dk cX12_areCells 9 = some (.if_icmp .ge 42) ∧ jok 9 42 = true ∧ jmp 9 42 = 51 ∧ dk cX12_areCells 12 = some (.iload 5)) ∧ (dk cX12_areCells 14 = some (.ifCond .eq 28) ∧ jok 14 28 = true ∧ jmp 14 28 = 42 ∧ dk cX12_areCells 17 = some (.aload_n 0) ∧ dk cX12_areCells 18 = some (.getfield 125) ∧ fres 12 125 = some (12, 52, 0, true) ∧ dk cX12_areCells 21 = some (.iload_n 1) ∧ dk cX12_areCells 22 = some (.iload 6) ∧ dk cX12_areCells 24 = some (.iadd) ∧ dk cX12_areCells 25 = some (.iaload)) ∧ (dk cX12_areCells 26 = some (.i2l) ∧ dk cX12_areCells 27 = some (.iload_n 3) ∧ dk cX12_areCells 28 = some (.i2l) ∧ dk cX12_areCells 29 = some (.iload 4) ∧ dk cX12_areCells 31 = some (.i2l) ∧ dk cX12_areCells 32 = some (.invokestatic 143) ∧ cres 12 143 = some 152 ∧ pM 152 = 3 ∧ sM 152 = true ∧ dk cX12_areCells 35 = some (.ifCond .eq 7)) ∧ (jok 35 7 = true ∧ jmp 35 7 = 42 ∧ dk cX12_areCells 38 = some (.iconst 1) ∧ dk cX12_areCells 39 = some (.goto 4) ∧ jok 39 4 = true ∧ jmp 39 4 = 43 ∧ dk cX12_areCells 42 = some (.iconst 0) ∧ dk cX12_areCells 43 = some (.istore 5) ∧ dk cX12_areCells 45 = some (.iinc 6 1) ∧ dk cX12_areCells 48 = some (.goto (-42))) ∧ (jok 48 (-42) = true ∧ jmp 48 (-42) = 6 ∧ dk cX12_areCells 51 = some (.iload 5) ∧ dk cX12_areCells 53 = some (.ireturn)) := ⟨by decide +kernel, by decide +kernel, by decide +kernel, by decide +kernel, by decide +kernel⟩
set_option maxRecDepth 100000 in
theorem D_X12_noMachine : (dk cX12_noMachine 0 = some (.iload_n 0) ∧ dk cX12_noMachine 1 = some (.i2l) ∧ dk cX12_noMachine 2 = some (.lconst 0) ∧ dk cX12_noMachine 3 = some (.ldc2_w 167) ∧ lres 12 167 = some (9) ∧ dk cX12_noMachine 6 = some (.invokestatic 143) ∧ cres 12 143 = some 152 ∧ pM 152 = 3 ∧ sM 152 = true ∧ dk cX12_noMachine 9 = some (.ifCond .ne 7)) ∧ (jok 9 7 = true ∧ jmp 9 7 = 16 ∧ dk cX12_noMachine 12 = some (.iconst 1) ∧ dk cX12_noMachine 13 = some (.goto 4) ∧ jok 13 4 = true ∧ jmp 13 4 = 17 ∧ dk cX12_noMachine 16 = some (.iconst 0) ∧ dk cX12_noMachine 17 = some (.ireturn)) := ⟨by decide +kernel, by decide +kernel⟩
set_option maxRecDepth 100000 in
theorem D_X12_road : (dk cX12_road 0 = some (.iload_n 1) ∧ dk cX12_road 1 = some (.invokestatic 169) ∧ cres 12 169 = some 165 ∧ pM 165 = 1 ∧ sM 165 = true ∧ dk cX12_road 4 = some (.ifCond .ne 10) ∧ jok 4 10 = true ∧ jmp 4 10 = 14 ∧ dk cX12_road 7 = some (.iload_n 2) ∧ dk cX12_road 8 = some (.invokestatic 169)) ∧ (dk cX12_road 11 = some (.ifCond .eq 5) ∧ jok 11 5 = true ∧ jmp 11 5 = 16 ∧ dk cX12_road 14 = some (.iconst (-1)) ∧ dk cX12_road 15 = some (.ireturn) ∧ dk cX12_road 16 = some (.iload_n 1) ∧ dk cX12_road 17 = some (.iload_n 2) ∧ dk cX12_road 18 = some (.if_icmp .ne 6) ∧ jok 18 6 = true ∧ jmp 18 6 = 24) ∧ (dk cX12_road 21 = some (.bipush (-2)) ∧ dk cX12_road 23 = some (.ireturn) ∧ dk cX12_road 24 = some (.aload_n 0) ∧ dk cX12_road 25 = some (.getfield 7) ∧ fres 12 7 = some (12, 1, 0, true) ∧ dk cX12_road 28 = some (.iload_n 1) ∧ dk cX12_road 29 = some (.iaload) ∧ dk cX12_road 30 = some (.iload_n 2) ∧ dk cX12_road 31 = some (.invokestatic 173) ∧ cres 12 173 = some 154) ∧ (pM 154 = 2 ∧ sM 154 = true ∧ dk cX12_road 34 = some (.iload_n 3) ∧ dk cX12_road 35 = some (.if_icmp .ne 5) ∧ jok 35 5 = true ∧ jmp 35 5 = 40 ∧ dk cX12_road 38 = some (.iconst 0) ∧ dk cX12_road 39 = some (.ireturn) ∧ dk cX12_road 40 = some (.aload_n 0) ∧ dk cX12_road 41 = some (.getfield 7)) ∧ (dk cX12_road 44 = some (.iload_n 1) ∧ dk cX12_road 45 = some (.dup2) ∧ dk cX12_road 46 = some (.iaload) ∧ dk cX12_road 47 = some (.iconst 1) ∧ dk cX12_road 48 = some (.iload_n 2) ∧ dk cX12_road 49 = some (.ishl) ∧ dk cX12_road 50 = some (.ixor) ∧ dk cX12_road 51 = some (.iastore) ∧ dk cX12_road 52 = some (.aload_n 0) ∧ dk cX12_road 53 = some (.getfield 7)) ∧ (dk cX12_road 56 = some (.iload_n 2) ∧ dk cX12_road 57 = some (.dup2) ∧ dk cX12_road 58 = some (.iaload) ∧ dk cX12_road 59 = some (.iconst 1) ∧ dk cX12_road 60 = some (.iload_n 1) ∧ dk cX12_road 61 = some (.ishl) ∧ dk cX12_road 62 = some (.ixor) ∧ dk cX12_road 63 = some (.iastore) ∧ dk cX12_road 64 = some (.aload_n 0) ∧ dk cX12_road 65 = some (.getfield 13)) ∧ (fres 12 13 = some (12, 2, 0, true) ∧ dk cX12_road 68 = some (.iload_n 1) ∧ dk cX12_road 69 = some (.dup2) ∧ dk cX12_road 70 = some (.iaload) ∧ dk cX12_road 71 = some (.iconst 1) ∧ dk cX12_road 72 = some (.iload_n 2) ∧ dk cX12_road 73 = some (.ishl) ∧ dk cX12_road 74 = some (.iconst (-1)) ∧ dk cX12_road 75 = some (.ixor) ∧ dk cX12_road 76 = some (.iand)) ∧ (dk cX12_road 77 = some (.iastore) ∧ dk cX12_road 78 = some (.aload_n 0) ∧ dk cX12_road 79 = some (.getfield 13) ∧ dk cX12_road 82 = some (.iload_n 2) ∧ dk cX12_road 83 = some (.dup2) ∧ dk cX12_road 84 = some (.iaload) ∧ dk cX12_road 85 = some (.iconst 1) ∧ dk cX12_road 86 = some (.iload_n 1) ∧ dk cX12_road 87 = some (.ishl) ∧ dk cX12_road 88 = some (.iconst (-1))) ∧ (dk cX12_road 89 = some (.ixor) ∧ dk cX12_road 90 = some (.iand) ∧ dk cX12_road 91 = some (.iastore) ∧ dk cX12_road 92 = some (.aload_n 0) ∧ dk cX12_road 93 = some (.dup) ∧ dk cX12_road 94 = some (.getfield 177) ∧ fres 12 177 = some (12, 7, 1, false) ∧ dk cX12_road 97 = some (.aload_n 0) ∧ dk cX12_road 98 = some (.getfield 16) ∧ fres 12 16 = some (12, 3, 0, true)) ∧ (dk cX12_road 101 = some (.bipush 10) ∧ dk cX12_road 103 = some (.iload_n 1) ∧ dk cX12_road 104 = some (.imul) ∧ dk cX12_road 105 = some (.iload_n 2) ∧ dk cX12_road 106 = some (.iadd) ∧ dk cX12_road 107 = some (.iaload) ∧ dk cX12_road 108 = some (.ifCond .ge 7) ∧ jok 108 7 = true ∧ jmp 108 7 = 115 ∧ dk cX12_road 111 = some (.iconst (-1))) ∧ (dk cX12_road 112 = some (.goto 18) ∧ jok 112 18 = true ∧ jmp 112 18 = 130 ∧ dk cX12_road 115 = some (.iconst 1) ∧ dk cX12_road 116 = some (.aload_n 0) ∧ dk cX12_road 117 = some (.getfield 16) ∧ dk cX12_road 120 = some (.bipush 10) ∧ dk cX12_road 122 = some (.iload_n 1) ∧ dk cX12_road 123 = some (.imul) ∧ dk cX12_road 124 = some (.iload_n 2)) ∧ (dk cX12_road 125 = some (.iadd) ∧ dk cX12_road 126 = some (.iaload) ∧ dk cX12_road 127 = some (.ishl) ∧ dk cX12_road 128 = some (.iconst (-1)) ∧ dk cX12_road 129 = some (.ixor) ∧ dk cX12_road 130 = some (.iand) ∧ dk cX12_road 131 = some (.putfield 177) ∧ isBo (tyN 12 7) = false ∧ dk cX12_road 134 = some (.iconst 1) ∧ dk cX12_road 135 = some (.ireturn)) := ⟨by decide +kernel, by decide +kernel, by decide +kernel, by decide +kernel, by decide +kernel, by decide +kernel, by decide +kernel, by decide +kernel, by decide +kernel, by decide +kernel, by decide +kernel, by decide +kernel⟩
set_option maxRecDepth 100000 in
theorem D_X12_noRoad : (dk cX12_noRoad 0 = some (.iload_n 1) ∧ dk cX12_noRoad 1 = some (.invokestatic 169) ∧ cres 12 169 = some 165 ∧ pM 165 = 1 ∧ sM 165 = true ∧ dk cX12_noRoad 4 = some (.ifCond .ne 23) ∧ jok 4 23 = true ∧ jmp 4 23 = 27 ∧ dk cX12_noRoad 7 = some (.iload_n 2) ∧ dk cX12_noRoad 8 = some (.invokestatic 169)) ∧ (dk cX12_noRoad 11 = some (.ifCond .ne 16) ∧ jok 11 16 = true ∧ jmp 11 16 = 27 ∧ dk cX12_noRoad 14 = some (.aload_n 0) ∧ dk cX12_noRoad 15 = some (.getfield 7) ∧ fres 12 7 = some (12, 1, 0, true) ∧ dk cX12_noRoad 18 = some (.iload_n 1) ∧ dk cX12_noRoad 19 = some (.iaload) ∧ dk cX12_noRoad 20 = some (.iload_n 2) ∧ dk cX12_noRoad 21 = some (.invokestatic 173)) ∧ (cres 12 173 = some 154 ∧ pM 154 = 2 ∧ sM 154 = true ∧ dk cX12_noRoad 24 = some (.ifCond .ne 7) ∧ jok 24 7 = true ∧ jmp 24 7 = 31 ∧ dk cX12_noRoad 27 = some (.iconst 1) ∧ dk cX12_noRoad 28 = some (.goto 4) ∧ jok 28 4 = true ∧ jmp 28 4 = 32) ∧ (dk cX12_noRoad 31 = some (.iconst 0) ∧ dk cX12_noRoad 32 = some (.ireturn)) := ⟨by decide +kernel, by decide +kernel, by decide +kernel, by decide +kernel⟩
set_option maxRecDepth 100000 in
theorem D_X12_post : (dk cX12_post 0 = some (.aload_n 0) ∧ dk cX12_post 1 = some (.iload_n 1) ∧ dk cX12_post 2 = some (.iload_n 2) ∧ dk cX12_post 3 = some (.invokevirtual 180) ∧ cres 12 180 = some 167 ∧ pM 167 = 2 ∧ sM 167 = false ∧ oM 167 = 12 ∧ dk cX12_post 6 = some (.ifCond .eq 5) ∧ jok 6 5 = true) ∧ (jmp 6 5 = 11 ∧ dk cX12_post 9 = some (.iconst (-1)) ∧ dk cX12_post 10 = some (.ireturn) ∧ dk cX12_post 11 = some (.aload_n 0) ∧ dk cX12_post 12 = some (.getfield 13) ∧ fres 12 13 = some (12, 2, 0, true) ∧ dk cX12_post 15 = some (.iload_n 1) ∧ dk cX12_post 16 = some (.iaload) ∧ dk cX12_post 17 = some (.iload_n 2) ∧ dk cX12_post 18 = some (.invokestatic 173)) ∧ (cres 12 173 = some 154 ∧ pM 154 = 2 ∧ sM 154 = true ∧ dk cX12_post 21 = some (.iload_n 3) ∧ dk cX12_post 22 = some (.if_icmp .ne 5) ∧ jok 22 5 = true ∧ jmp 22 5 = 27 ∧ dk cX12_post 25 = some (.iconst 0) ∧ dk cX12_post 26 = some (.ireturn) ∧ dk cX12_post 27 = some (.aload_n 0)) ∧ (dk cX12_post 28 = some (.getfield 13) ∧ dk cX12_post 31 = some (.iload_n 1) ∧ dk cX12_post 32 = some (.dup2) ∧ dk cX12_post 33 = some (.iaload) ∧ dk cX12_post 34 = some (.iconst 1) ∧ dk cX12_post 35 = some (.iload_n 2) ∧ dk cX12_post 36 = some (.ishl) ∧ dk cX12_post 37 = some (.ixor) ∧ dk cX12_post 38 = some (.iastore) ∧ dk cX12_post 39 = some (.aload_n 0)) ∧ (dk cX12_post 40 = some (.getfield 13) ∧ dk cX12_post 43 = some (.iload_n 2) ∧ dk cX12_post 44 = some (.dup2) ∧ dk cX12_post 45 = some (.iaload) ∧ dk cX12_post 46 = some (.iconst 1) ∧ dk cX12_post 47 = some (.iload_n 1) ∧ dk cX12_post 48 = some (.ishl) ∧ dk cX12_post 49 = some (.ixor) ∧ dk cX12_post 50 = some (.iastore) ∧ dk cX12_post 51 = some (.iconst 1)) ∧ (dk cX12_post 52 = some (.ireturn)) := ⟨by decide +kernel, by decide +kernel, by decide +kernel, by decide +kernel, by decide +kernel, by decide +kernel⟩
set_option maxRecDepth 100000 in
theorem N_X12_post : ((yM 167).name = "<init>") = False := by simp only [eq_iff_iff, iff_false, iff_true]; decide +kernel
set_option maxRecDepth 100000 in
theorem D_X12_door : (dk cX12_door 0 = some (.aload_n 0) ∧ dk cX12_door 1 = some (.iload_n 1) ∧ dk cX12_door 2 = some (.iload_n 2) ∧ dk cX12_door 3 = some (.invokevirtual 180) ∧ cres 12 180 = some 167 ∧ pM 167 = 2 ∧ sM 167 = false ∧ oM 167 = 12 ∧ dk cX12_door 6 = some (.ifCond .eq 5) ∧ jok 6 5 = true) ∧ (jmp 6 5 = 11 ∧ dk cX12_door 9 = some (.iconst (-1)) ∧ dk cX12_door 10 = some (.ireturn) ∧ dk cX12_door 11 = some (.aload_n 0) ∧ dk cX12_door 12 = some (.getfield 16) ∧ fres 12 16 = some (12, 3, 0, true) ∧ dk cX12_door 15 = some (.bipush 10) ∧ dk cX12_door 17 = some (.iload_n 1) ∧ dk cX12_door 18 = some (.imul) ∧ dk cX12_door 19 = some (.iload_n 2)) ∧ (dk cX12_door 20 = some (.iadd) ∧ dk cX12_door 21 = some (.iaload) ∧ dk cX12_door 22 = some (.ifCond .lt 15) ∧ jok 22 15 = true ∧ jmp 22 15 = 37 ∧ dk cX12_door 25 = some (.aload_n 0) ∧ dk cX12_door 26 = some (.getfield 16) ∧ dk cX12_door 29 = some (.bipush 10) ∧ dk cX12_door 31 = some (.iload_n 1) ∧ dk cX12_door 32 = some (.imul)) ∧ (dk cX12_door 33 = some (.iload_n 2) ∧ dk cX12_door 34 = some (.iadd) ∧ dk cX12_door 35 = some (.iaload) ∧ dk cX12_door 36 = some (.ireturn) ∧ dk cX12_door 37 = some (.aload_n 0) ∧ dk cX12_door 38 = some (.getfield 183) ∧ fres 12 183 = some (12, 4, 1, false) ∧ dk cX12_door 41 = some (.bipush 8) ∧ dk cX12_door 43 = some (.if_icmp .ne 6) ∧ jok 43 6 = true) ∧ (jmp 43 6 = 49 ∧ dk cX12_door 46 = some (.bipush (-4)) ∧ dk cX12_door 48 = some (.ireturn) ∧ dk cX12_door 49 = some (.aload_n 0) ∧ dk cX12_door 50 = some (.getfield 19) ∧ fres 12 19 = some (12, 5, 0, true) ∧ dk cX12_door 53 = some (.aload_n 0) ∧ dk cX12_door 54 = some (.getfield 183) ∧ dk cX12_door 57 = some (.iload_n 1) ∧ dk cX12_door 58 = some (.iastore)) ∧ (dk cX12_door 59 = some (.aload_n 0) ∧ dk cX12_door 60 = some (.getfield 22) ∧ fres 12 22 = some (12, 6, 0, true) ∧ dk cX12_door 63 = some (.aload_n 0) ∧ dk cX12_door 64 = some (.getfield 183) ∧ dk cX12_door 67 = some (.iload_n 2) ∧ dk cX12_door 68 = some (.iastore) ∧ dk cX12_door 69 = some (.aload_n 0) ∧ dk cX12_door 70 = some (.getfield 16) ∧ dk cX12_door 73 = some (.bipush 10)) ∧ (dk cX12_door 75 = some (.iload_n 1) ∧ dk cX12_door 76 = some (.imul) ∧ dk cX12_door 77 = some (.iload_n 2) ∧ dk cX12_door 78 = some (.iadd) ∧ dk cX12_door 79 = some (.aload_n 0) ∧ dk cX12_door 80 = some (.getfield 183) ∧ dk cX12_door 83 = some (.iastore) ∧ dk cX12_door 84 = some (.aload_n 0) ∧ dk cX12_door 85 = some (.getfield 16) ∧ dk cX12_door 88 = some (.bipush 10)) ∧ (dk cX12_door 90 = some (.iload_n 2) ∧ dk cX12_door 91 = some (.imul) ∧ dk cX12_door 92 = some (.iload_n 1) ∧ dk cX12_door 93 = some (.iadd) ∧ dk cX12_door 94 = some (.aload_n 0) ∧ dk cX12_door 95 = some (.getfield 183) ∧ dk cX12_door 98 = some (.iastore) ∧ dk cX12_door 99 = some (.aload_n 0) ∧ dk cX12_door 100 = some (.dup) ∧ dk cX12_door 101 = some (.getfield 183)) ∧ (dk cX12_door 104 = some (.iconst 1) ∧ dk cX12_door 105 = some (.iadd) ∧ dk cX12_door 106 = some (.putfield 183) ∧ isBo (tyN 12 4) = false ∧ dk cX12_door 109 = some (.aload_n 0) ∧ dk cX12_door 110 = some (.getfield 183) ∧ dk cX12_door 113 = some (.iconst 1) ∧ dk cX12_door 114 = some (.isub) ∧ dk cX12_door 115 = some (.ireturn)) := ⟨by decide +kernel, by decide +kernel, by decide +kernel, by decide +kernel, by decide +kernel, by decide +kernel, by decide +kernel, by decide +kernel, by decide +kernel⟩
set_option maxRecDepth 100000 in
theorem N_X12_door : ((yM 167).name = "<init>") = False := by simp only [eq_iff_iff, iff_false, iff_true]; decide +kernel
set_option maxRecDepth 100000 in
theorem D_X12_shut : (dk cX12_shut 0 = some (.iload_n 1) ∧ dk cX12_shut 1 = some (.i2l) ∧ dk cX12_shut 2 = some (.lconst 0) ∧ dk cX12_shut 3 = some (.aload_n 0) ∧ dk cX12_shut 4 = some (.getfield 183) ∧ fres 12 183 = some (12, 4, 1, false) ∧ dk cX12_shut 7 = some (.i2l) ∧ dk cX12_shut 8 = some (.lconst 1) ∧ dk cX12_shut 9 = some (.lsub) ∧ dk cX12_shut 10 = some (.invokestatic 143)) ∧ (cres 12 143 = some 152 ∧ pM 152 = 3 ∧ sM 152 = true ∧ dk cX12_shut 13 = some (.ifCond .ne 5) ∧ jok 13 5 = true ∧ jmp 13 5 = 18 ∧ dk cX12_shut 16 = some (.iconst (-1)) ∧ dk cX12_shut 17 = some (.ireturn) ∧ dk cX12_shut 18 = some (.aload_n 0) ∧ dk cX12_shut 19 = some (.getfield 7)) ∧ (fres 12 7 = some (12, 1, 0, true) ∧ dk cX12_shut 22 = some (.aload_n 0) ∧ dk cX12_shut 23 = some (.getfield 19) ∧ fres 12 19 = some (12, 5, 0, true) ∧ dk cX12_shut 26 = some (.iload_n 1) ∧ dk cX12_shut 27 = some (.iaload) ∧ dk cX12_shut 28 = some (.iaload) ∧ dk cX12_shut 29 = some (.aload_n 0) ∧ dk cX12_shut 30 = some (.getfield 22) ∧ fres 12 22 = some (12, 6, 0, true)) ∧ (dk cX12_shut 33 = some (.iload_n 1) ∧ dk cX12_shut 34 = some (.iaload) ∧ dk cX12_shut 35 = some (.invokestatic 173) ∧ cres 12 173 = some 154 ∧ pM 154 = 2 ∧ sM 154 = true ∧ dk cX12_shut 38 = some (.ifCond .ne 6) ∧ jok 38 6 = true ∧ jmp 38 6 = 44 ∧ dk cX12_shut 41 = some (.bipush (-3))) ∧ (dk cX12_shut 43 = some (.ireturn) ∧ dk cX12_shut 44 = some (.aload_n 0) ∧ dk cX12_shut 45 = some (.getfield 177) ∧ fres 12 177 = some (12, 7, 1, false) ∧ dk cX12_shut 48 = some (.iload_n 1) ∧ dk cX12_shut 49 = some (.invokestatic 173) ∧ dk cX12_shut 52 = some (.iload_n 2) ∧ dk cX12_shut 53 = some (.if_icmp .ne 5) ∧ jok 53 5 = true ∧ jmp 53 5 = 58) ∧ (dk cX12_shut 56 = some (.iconst 0) ∧ dk cX12_shut 57 = some (.ireturn) ∧ dk cX12_shut 58 = some (.aload_n 0) ∧ dk cX12_shut 59 = some (.dup) ∧ dk cX12_shut 60 = some (.getfield 177) ∧ dk cX12_shut 63 = some (.iconst 1) ∧ dk cX12_shut 64 = some (.iload_n 1) ∧ dk cX12_shut 65 = some (.ishl) ∧ dk cX12_shut 66 = some (.ixor) ∧ dk cX12_shut 67 = some (.putfield 177)) ∧ (isBo (tyN 12 7) = false ∧ dk cX12_shut 70 = some (.iconst 1) ∧ dk cX12_shut 71 = some (.ireturn)) := ⟨by decide +kernel, by decide +kernel, by decide +kernel, by decide +kernel, by decide +kernel, by decide +kernel, by decide +kernel⟩
set_option maxRecDepth 100000 in
theorem D_X12_isOpen : (dk cX12_isOpen 0 = some (.aload_n 0) ∧ dk cX12_isOpen 1 = some (.getfield 16) ∧ fres 12 16 = some (12, 3, 0, true) ∧ dk cX12_isOpen 4 = some (.bipush 10) ∧ dk cX12_isOpen 6 = some (.iload_n 1) ∧ dk cX12_isOpen 7 = some (.imul) ∧ dk cX12_isOpen 8 = some (.iload_n 2) ∧ dk cX12_isOpen 9 = some (.iadd) ∧ dk cX12_isOpen 10 = some (.iaload) ∧ dk cX12_isOpen 11 = some (.istore 5)) ∧ (dk cX12_isOpen 13 = some (.aload_n 0) ∧ dk cX12_isOpen 14 = some (.getfield 7) ∧ fres 12 7 = some (12, 1, 0, true) ∧ dk cX12_isOpen 17 = some (.iload_n 1) ∧ dk cX12_isOpen 18 = some (.iaload) ∧ dk cX12_isOpen 19 = some (.iload_n 2) ∧ dk cX12_isOpen 20 = some (.invokestatic 173) ∧ cres 12 173 = some 154 ∧ pM 154 = 2 ∧ sM 154 = true) ∧ (dk cX12_isOpen 23 = some (.ifCond .eq 39) ∧ jok 23 39 = true ∧ jmp 23 39 = 62 ∧ dk cX12_isOpen 26 = some (.iload 5) ∧ dk cX12_isOpen 28 = some (.ifCond .lt 12) ∧ jok 28 12 = true ∧ jmp 28 12 = 40 ∧ dk cX12_isOpen 31 = some (.iload_n 3) ∧ dk cX12_isOpen 32 = some (.iload 5) ∧ dk cX12_isOpen 34 = some (.invokestatic 173)) ∧ (dk cX12_isOpen 37 = some (.ifCond .ne 25) ∧ jok 37 25 = true ∧ jmp 37 25 = 62 ∧ dk cX12_isOpen 40 = some (.iload 4) ∧ dk cX12_isOpen 42 = some (.ifCond .eq 16) ∧ jok 42 16 = true ∧ jmp 42 16 = 58 ∧ dk cX12_isOpen 45 = some (.aload_n 0) ∧ dk cX12_isOpen 46 = some (.getfield 13) ∧ fres 12 13 = some (12, 2, 0, true)) ∧ (dk cX12_isOpen 49 = some (.iload_n 1) ∧ dk cX12_isOpen 50 = some (.iaload) ∧ dk cX12_isOpen 51 = some (.iload_n 2) ∧ dk cX12_isOpen 52 = some (.invokestatic 173) ∧ dk cX12_isOpen 55 = some (.ifCond .ne 7) ∧ jok 55 7 = true ∧ jmp 55 7 = 62 ∧ dk cX12_isOpen 58 = some (.iconst 1) ∧ dk cX12_isOpen 59 = some (.goto 4) ∧ jok 59 4 = true) ∧ (jmp 59 4 = 63 ∧ dk cX12_isOpen 62 = some (.iconst 0) ∧ dk cX12_isOpen 63 = some (.ireturn)) := ⟨by decide +kernel, by decide +kernel, by decide +kernel, by decide +kernel, by decide +kernel, by decide +kernel⟩
set_option maxRecDepth 100000 in
theorem D_X12_layFar : (dk cX12_layFar 0 = some (.iconst 0) ∧ dk cX12_layFar 1 = some (.istore 4) ∧ dk cX12_layFar 3 = some (.iload 4) ∧ dk cX12_layFar 5 = some (.bipush 10) ∧ dk cX12_layFar 7 = some (.if_icmp .ge 28) ∧ jok 7 28 = true ∧ jmp 7 28 = 35 ∧ dk cX12_layFar 10 = some (.aload_n 0) ∧ dk cX12_layFar 11 = some (.getfield 25) ∧ fres 12 25 = some (12, 8, 0, true)) ∧ (dk cX12_layFar 14 = some (.iload 4) ∧ dk cX12_layFar 16 = some (.iload 4) ∧ dk cX12_layFar 18 = some (.iload_n 1) ∧ dk cX12_layFar 19 = some (.if_icmp .ne 7) ∧ jok 19 7 = true ∧ jmp 19 7 = 26 ∧ dk cX12_layFar 22 = some (.iconst 0) ∧ dk cX12_layFar 23 = some (.goto 5) ∧ jok 23 5 = true ∧ jmp 23 5 = 28) ∧ (dk cX12_layFar 26 = some (.bipush (-9)) ∧ dk cX12_layFar 28 = some (.iastore) ∧ dk cX12_layFar 29 = some (.iinc 4 1) ∧ dk cX12_layFar 32 = some (.goto (-29)) ∧ jok 32 (-29) = true ∧ jmp 32 (-29) = 3 ∧ dk cX12_layFar 35 = some (.iconst 0) ∧ dk cX12_layFar 36 = some (.istore 4) ∧ dk cX12_layFar 38 = some (.iload 4) ∧ dk cX12_layFar 40 = some (.bipush 10)) ∧ (dk cX12_layFar 42 = some (.if_icmp .ge 97) ∧ jok 42 97 = true ∧ jmp 42 97 = 139 ∧ dk cX12_layFar 45 = some (.iconst 0) ∧ dk cX12_layFar 46 = some (.istore 5) ∧ dk cX12_layFar 48 = some (.iload 5) ∧ dk cX12_layFar 50 = some (.bipush 10) ∧ dk cX12_layFar 52 = some (.if_icmp .ge 81) ∧ jok 52 81 = true ∧ jmp 52 81 = 133) ∧ (dk cX12_layFar 55 = some (.iconst 0) ∧ dk cX12_layFar 56 = some (.istore 6) ∧ dk cX12_layFar 58 = some (.iload 6) ∧ dk cX12_layFar 60 = some (.bipush 10) ∧ dk cX12_layFar 62 = some (.if_icmp .ge 65) ∧ jok 62 65 = true ∧ jmp 62 65 = 127 ∧ dk cX12_layFar 65 = some (.aload_n 0) ∧ dk cX12_layFar 66 = some (.getfield 25) ∧ dk cX12_layFar 69 = some (.iload 5)) ∧ (dk cX12_layFar 71 = some (.iaload) ∧ dk cX12_layFar 72 = some (.iload 4) ∧ dk cX12_layFar 74 = some (.if_icmp .ne 53) ∧ jok 74 53 = true ∧ jmp 74 53 = 127 ∧ dk cX12_layFar 77 = some (.aload_n 0) ∧ dk cX12_layFar 78 = some (.getfield 25) ∧ dk cX12_layFar 81 = some (.iload 6) ∧ dk cX12_layFar 83 = some (.aload_n 0) ∧ dk cX12_layFar 84 = some (.getfield 25)) ∧ (dk cX12_layFar 87 = some (.iload 6) ∧ dk cX12_layFar 89 = some (.iaload) ∧ dk cX12_layFar 90 = some (.ifCond .ge 23) ∧ jok 90 23 = true ∧ jmp 90 23 = 113 ∧ dk cX12_layFar 93 = some (.aload_n 0) ∧ dk cX12_layFar 94 = some (.iload 5) ∧ dk cX12_layFar 96 = some (.iload 6) ∧ dk cX12_layFar 98 = some (.iload_n 2) ∧ dk cX12_layFar 99 = some (.iload_n 3)) ∧ (dk cX12_layFar 100 = some (.invokevirtual 186) ∧ cres 12 186 = some 171 ∧ pM 171 = 4 ∧ sM 171 = false ∧ oM 171 = 12 ∧ dk cX12_layFar 103 = some (.ifCond .eq 10) ∧ jok 103 10 = true ∧ jmp 103 10 = 113 ∧ dk cX12_layFar 106 = some (.iload 4) ∧ dk cX12_layFar 108 = some (.iconst 1)) ∧ (dk cX12_layFar 109 = some (.iadd) ∧ dk cX12_layFar 110 = some (.goto 10) ∧ jok 110 10 = true ∧ jmp 110 10 = 120 ∧ dk cX12_layFar 113 = some (.aload_n 0) ∧ dk cX12_layFar 114 = some (.getfield 25) ∧ dk cX12_layFar 117 = some (.iload 6) ∧ dk cX12_layFar 119 = some (.iaload) ∧ dk cX12_layFar 120 = some (.iastore) ∧ dk cX12_layFar 121 = some (.iinc 6 1)) ∧ (dk cX12_layFar 124 = some (.goto (-66)) ∧ jok 124 (-66) = true ∧ jmp 124 (-66) = 58 ∧ dk cX12_layFar 127 = some (.iinc 5 1) ∧ dk cX12_layFar 130 = some (.goto (-82)) ∧ jok 130 (-82) = true ∧ jmp 130 (-82) = 48 ∧ dk cX12_layFar 133 = some (.iinc 4 1) ∧ dk cX12_layFar 136 = some (.goto (-98)) ∧ jok 136 (-98) = true) ∧ (jmp 136 (-98) = 38 ∧ dk cX12_layFar 139 = some (.return_)) := ⟨by decide +kernel, by decide +kernel, by decide +kernel, by decide +kernel, by decide +kernel, by decide +kernel, by decide +kernel, by decide +kernel, by decide +kernel, by decide +kernel, by decide +kernel⟩
set_option maxRecDepth 100000 in
theorem N_X12_layFar : ((yM 171).name = "<init>") = False := by simp only [eq_iff_iff, iff_false, iff_true]; decide +kernel
set_option maxRecDepth 100000 in
theorem D_X12_nextOn : (dk cX12_nextOn 0 = some (.iconst 0) ∧ dk cX12_nextOn 1 = some (.istore_n 2) ∧ dk cX12_nextOn 2 = some (.iload_n 2) ∧ dk cX12_nextOn 3 = some (.bipush 10) ∧ dk cX12_nextOn 5 = some (.if_icmp .ge 42) ∧ jok 5 42 = true ∧ jmp 5 42 = 47 ∧ dk cX12_nextOn 8 = some (.aload_n 0) ∧ dk cX12_nextOn 9 = some (.getfield 25) ∧ fres 12 25 = some (12, 8, 0, true)) ∧ (dk cX12_nextOn 12 = some (.iload_n 2) ∧ dk cX12_nextOn 13 = some (.iaload) ∧ dk cX12_nextOn 14 = some (.aload_n 0) ∧ dk cX12_nextOn 15 = some (.getfield 25) ∧ dk cX12_nextOn 18 = some (.iload_n 1) ∧ dk cX12_nextOn 19 = some (.iaload) ∧ dk cX12_nextOn 20 = some (.iconst 1) ∧ dk cX12_nextOn 21 = some (.isub) ∧ dk cX12_nextOn 22 = some (.if_icmp .ne 19) ∧ jok 22 19 = true) ∧ (jmp 22 19 = 41 ∧ dk cX12_nextOn 25 = some (.aload_n 0) ∧ dk cX12_nextOn 26 = some (.iload_n 1) ∧ dk cX12_nextOn 27 = some (.iload_n 2) ∧ dk cX12_nextOn 28 = some (.aload_n 0) ∧ dk cX12_nextOn 29 = some (.getfield 177) ∧ fres 12 177 = some (12, 7, 1, false) ∧ dk cX12_nextOn 32 = some (.iconst 0) ∧ dk cX12_nextOn 33 = some (.invokevirtual 186) ∧ cres 12 186 = some 171) ∧ (pM 171 = 4 ∧ sM 171 = false ∧ oM 171 = 12 ∧ dk cX12_nextOn 36 = some (.ifCond .eq 5) ∧ jok 36 5 = true ∧ jmp 36 5 = 41 ∧ dk cX12_nextOn 39 = some (.iload_n 2) ∧ dk cX12_nextOn 40 = some (.ireturn) ∧ dk cX12_nextOn 41 = some (.iinc 2 1) ∧ dk cX12_nextOn 44 = some (.goto (-42))) ∧ (jok 44 (-42) = true ∧ jmp 44 (-42) = 2 ∧ dk cX12_nextOn 47 = some (.bipush (-9)) ∧ dk cX12_nextOn 49 = some (.ireturn)) := ⟨by decide +kernel, by decide +kernel, by decide +kernel, by decide +kernel, by decide +kernel⟩
set_option maxRecDepth 100000 in
theorem N_X12_nextOn : ((yM 171).name = "<init>") = False := by simp only [eq_iff_iff, iff_false, iff_true]; decide +kernel
set_option maxRecDepth 100000 in
theorem D_X12_way : (dk cX12_way 0 = some (.iload_n 1) ∧ dk cX12_way 1 = some (.invokestatic 169) ∧ cres 12 169 = some 165 ∧ pM 165 = 1 ∧ sM 165 = true ∧ dk cX12_way 4 = some (.ifCond .ne 24) ∧ jok 4 24 = true ∧ jmp 4 24 = 28 ∧ dk cX12_way 7 = some (.iload_n 2) ∧ dk cX12_way 8 = some (.invokestatic 169)) ∧ (dk cX12_way 11 = some (.ifCond .ne 17) ∧ jok 11 17 = true ∧ jmp 11 17 = 28 ∧ dk cX12_way 14 = some (.iload_n 3) ∧ dk cX12_way 15 = some (.i2l) ∧ dk cX12_way 16 = some (.ldc2_w 190) ∧ lres 12 190 = some (-1) ∧ dk cX12_way 19 = some (.ldc2_w 167) ∧ lres 12 167 = some (9) ∧ dk cX12_way 22 = some (.invokestatic 143)) ∧ (cres 12 143 = some 152 ∧ pM 152 = 3 ∧ sM 152 = true ∧ dk cX12_way 25 = some (.ifCond .ne 5) ∧ jok 25 5 = true ∧ jmp 25 5 = 30 ∧ dk cX12_way 28 = some (.iconst (-1)) ∧ dk cX12_way 29 = some (.ireturn) ∧ dk cX12_way 30 = some (.aload_n 0) ∧ dk cX12_way 31 = some (.iload_n 2)) ∧ (dk cX12_way 32 = some (.aload_n 0) ∧ dk cX12_way 33 = some (.getfield 177) ∧ fres 12 177 = some (12, 7, 1, false) ∧ dk cX12_way 36 = some (.iconst 0) ∧ dk cX12_way 37 = some (.invokevirtual 192) ∧ cres 12 192 = some 172 ∧ pM 172 = 3 ∧ sM 172 = false ∧ oM 172 = 12 ∧ dk cX12_way 40 = some (.aload_n 0)) ∧ (dk cX12_way 41 = some (.getfield 25) ∧ fres 12 25 = some (12, 8, 0, true) ∧ dk cX12_way 44 = some (.iload_n 1) ∧ dk cX12_way 45 = some (.iaload) ∧ dk cX12_way 46 = some (.istore 4) ∧ dk cX12_way 48 = some (.iload 4) ∧ dk cX12_way 50 = some (.ifCond .lt 9) ∧ jok 50 9 = true ∧ jmp 50 9 = 59 ∧ dk cX12_way 53 = some (.iload_n 3)) ∧ (dk cX12_way 54 = some (.iload 4) ∧ dk cX12_way 56 = some (.if_icmp .le 6) ∧ jok 56 6 = true ∧ jmp 56 6 = 62 ∧ dk cX12_way 59 = some (.bipush (-9)) ∧ dk cX12_way 61 = some (.ireturn) ∧ dk cX12_way 62 = some (.iload_n 1) ∧ dk cX12_way 63 = some (.istore 5) ∧ dk cX12_way 65 = some (.iconst 0) ∧ dk cX12_way 66 = some (.istore 6)) ∧ (dk cX12_way 68 = some (.iload 6) ∧ dk cX12_way 70 = some (.iload_n 3) ∧ dk cX12_way 71 = some (.if_icmp .ge 17) ∧ jok 71 17 = true ∧ jmp 71 17 = 88 ∧ dk cX12_way 74 = some (.aload_n 0) ∧ dk cX12_way 75 = some (.iload 5) ∧ dk cX12_way 77 = some (.invokevirtual 196) ∧ cres 12 196 = some 173 ∧ pM 173 = 1) ∧ (sM 173 = false ∧ oM 173 = 12 ∧ dk cX12_way 80 = some (.istore 5) ∧ dk cX12_way 82 = some (.iinc 6 1) ∧ dk cX12_way 85 = some (.goto (-17)) ∧ jok 85 (-17) = true ∧ jmp 85 (-17) = 68 ∧ dk cX12_way 88 = some (.iload_n 3) ∧ dk cX12_way 89 = some (.ifCond .ge 8) ∧ jok 89 8 = true) ∧ (jmp 89 8 = 97 ∧ dk cX12_way 92 = some (.iload 4) ∧ dk cX12_way 94 = some (.goto 5) ∧ jok 94 5 = true ∧ jmp 94 5 = 99 ∧ dk cX12_way 97 = some (.iload 5) ∧ dk cX12_way 99 = some (.ireturn)) := ⟨by decide +kernel, by decide +kernel, by decide +kernel, by decide +kernel, by decide +kernel, by decide +kernel, by decide +kernel, by decide +kernel, by decide +kernel⟩
set_option maxRecDepth 100000 in
theorem N_X12_way : ((yM 172).name = "<init>") = False ∧ ((yM 173).name = "<init>") = False := by simp only [eq_iff_iff, iff_false, iff_true]; decide +kernel
set_option maxRecDepth 100000 in
theorem D_X12_blind : (dk cX12_blind 0 = some (.iload_n 1) ∧ dk cX12_blind 1 = some (.invokestatic 169) ∧ cres 12 169 = some 165 ∧ pM 165 = 1 ∧ sM 165 = true ∧ dk cX12_blind 4 = some (.ifCond .ne 10) ∧ jok 4 10 = true ∧ jmp 4 10 = 14 ∧ dk cX12_blind 7 = some (.iload_n 2) ∧ dk cX12_blind 8 = some (.invokestatic 169)) ∧ (dk cX12_blind 11 = some (.ifCond .eq 5) ∧ jok 11 5 = true ∧ jmp 11 5 = 16 ∧ dk cX12_blind 14 = some (.iconst (-1)) ∧ dk cX12_blind 15 = some (.ireturn) ∧ dk cX12_blind 16 = some (.iload_n 1) ∧ dk cX12_blind 17 = some (.iload_n 2) ∧ dk cX12_blind 18 = some (.if_icmp .ne 6) ∧ jok 18 6 = true ∧ jmp 18 6 = 24) ∧ (dk cX12_blind 21 = some (.bipush (-2)) ∧ dk cX12_blind 23 = some (.ireturn) ∧ dk cX12_blind 24 = some (.aload_n 0) ∧ dk cX12_blind 25 = some (.iload_n 1) ∧ dk cX12_blind 26 = some (.aload_n 0) ∧ dk cX12_blind 27 = some (.getfield 177) ∧ fres 12 177 = some (12, 7, 1, false) ∧ dk cX12_blind 30 = some (.iconst 1) ∧ dk cX12_blind 31 = some (.invokevirtual 192) ∧ cres 12 192 = some 172) ∧ (pM 172 = 3 ∧ sM 172 = false ∧ oM 172 = 12 ∧ dk cX12_blind 34 = some (.aload_n 0) ∧ dk cX12_blind 35 = some (.getfield 25) ∧ fres 12 25 = some (12, 8, 0, true) ∧ dk cX12_blind 38 = some (.iload_n 2) ∧ dk cX12_blind 39 = some (.iaload) ∧ dk cX12_blind 40 = some (.ifCond .ge 7) ∧ jok 40 7 = true) ∧ (jmp 40 7 = 47 ∧ dk cX12_blind 43 = some (.iconst 0) ∧ dk cX12_blind 44 = some (.goto 4) ∧ jok 44 4 = true ∧ jmp 44 4 = 48 ∧ dk cX12_blind 47 = some (.iconst 1) ∧ dk cX12_blind 48 = some (.ireturn)) := ⟨by decide +kernel, by decide +kernel, by decide +kernel, by decide +kernel, by decide +kernel⟩
set_option maxRecDepth 100000 in
theorem N_X12_blind : ((yM 172).name = "<init>") = False := by simp only [eq_iff_iff, iff_false, iff_true]; decide +kernel
set_option maxRecDepth 100000 in
theorem D_X12_noTalk : (dk cX12_noTalk 0 = some (.iload_n 1) ∧ dk cX12_noTalk 1 = some (.i2l) ∧ dk cX12_noTalk 2 = some (.lconst 0) ∧ dk cX12_noTalk 3 = some (.aload_n 0) ∧ dk cX12_noTalk 4 = some (.getfield 199) ∧ fres 12 199 = some (12, 9, 1, false) ∧ dk cX12_noTalk 7 = some (.i2l) ∧ dk cX12_noTalk 8 = some (.lconst 1) ∧ dk cX12_noTalk 9 = some (.lsub) ∧ dk cX12_noTalk 10 = some (.invokestatic 143)) ∧ (cres 12 143 = some 152 ∧ pM 152 = 3 ∧ sM 152 = true ∧ dk cX12_noTalk 13 = some (.ifCond .ne 7) ∧ jok 13 7 = true ∧ jmp 13 7 = 20 ∧ dk cX12_noTalk 16 = some (.iconst 1) ∧ dk cX12_noTalk 17 = some (.goto 4) ∧ jok 17 4 = true ∧ jmp 17 4 = 21) ∧ (dk cX12_noTalk 20 = some (.iconst 0) ∧ dk cX12_noTalk 21 = some (.ireturn)) := ⟨by decide +kernel, by decide +kernel, by decide +kernel⟩
set_option maxRecDepth 100000 in
theorem D_X12_talk : (dk cX12_talk 0 = some (.iload_n 2) ∧ dk cX12_talk 1 = some (.invokestatic 169) ∧ cres 12 169 = some 165 ∧ pM 165 = 1 ∧ sM 165 = true ∧ dk cX12_talk 4 = some (.ifCond .ne 10) ∧ jok 4 10 = true ∧ jmp 4 10 = 14 ∧ dk cX12_talk 7 = some (.iload_n 3) ∧ dk cX12_talk 8 = some (.invokestatic 169)) ∧ (dk cX12_talk 11 = some (.ifCond .eq 5) ∧ jok 11 5 = true ∧ jmp 11 5 = 16 ∧ dk cX12_talk 14 = some (.iconst (-1)) ∧ dk cX12_talk 15 = some (.ireturn) ∧ dk cX12_talk 16 = some (.iload_n 1) ∧ dk cX12_talk 17 = some (.i2l) ∧ dk cX12_talk 18 = some (.lconst 0) ∧ dk cX12_talk 19 = some (.ldc2_w 154) ∧ lres 12 154 = some (2)) ∧ (dk cX12_talk 22 = some (.invokestatic 143) ∧ cres 12 143 = some 152 ∧ pM 152 = 3 ∧ sM 152 = true ∧ dk cX12_talk 25 = some (.ifCond .eq 8) ∧ jok 25 8 = true ∧ jmp 25 8 = 33 ∧ dk cX12_talk 28 = some (.iload_n 2) ∧ dk cX12_talk 29 = some (.iload_n 3) ∧ dk cX12_talk 30 = some (.if_icmp .ne 6)) ∧ (jok 30 6 = true ∧ jmp 30 6 = 36 ∧ dk cX12_talk 33 = some (.bipush (-2)) ∧ dk cX12_talk 35 = some (.ireturn) ∧ dk cX12_talk 36 = some (.aload_n 0) ∧ dk cX12_talk 37 = some (.getfield 199) ∧ fres 12 199 = some (12, 9, 1, false) ∧ dk cX12_talk 40 = some (.bipush 8) ∧ dk cX12_talk 42 = some (.if_icmp .ne 6) ∧ jok 42 6 = true) ∧ (jmp 42 6 = 48 ∧ dk cX12_talk 45 = some (.bipush (-4)) ∧ dk cX12_talk 47 = some (.ireturn) ∧ dk cX12_talk 48 = some (.aload_n 0) ∧ dk cX12_talk 49 = some (.getfield 28) ∧ fres 12 28 = some (12, 10, 0, true) ∧ dk cX12_talk 52 = some (.aload_n 0) ∧ dk cX12_talk 53 = some (.getfield 199) ∧ dk cX12_talk 56 = some (.iload_n 1) ∧ dk cX12_talk 57 = some (.iastore)) ∧ (dk cX12_talk 58 = some (.aload_n 0) ∧ dk cX12_talk 59 = some (.getfield 31) ∧ fres 12 31 = some (12, 11, 0, true) ∧ dk cX12_talk 62 = some (.aload_n 0) ∧ dk cX12_talk 63 = some (.getfield 199) ∧ dk cX12_talk 66 = some (.iload_n 2) ∧ dk cX12_talk 67 = some (.iastore) ∧ dk cX12_talk 68 = some (.aload_n 0) ∧ dk cX12_talk 69 = some (.getfield 34) ∧ fres 12 34 = some (12, 12, 0, true)) ∧ (dk cX12_talk 72 = some (.aload_n 0) ∧ dk cX12_talk 73 = some (.getfield 199) ∧ dk cX12_talk 76 = some (.iload_n 3) ∧ dk cX12_talk 77 = some (.iastore) ∧ dk cX12_talk 78 = some (.aload_n 0) ∧ dk cX12_talk 79 = some (.getfield 49) ∧ fres 12 49 = some (12, 17, 0, true) ∧ dk cX12_talk 82 = some (.aload_n 0) ∧ dk cX12_talk 83 = some (.getfield 199) ∧ dk cX12_talk 86 = some (.bipush (-9))) ∧ (dk cX12_talk 88 = some (.iastore) ∧ dk cX12_talk 89 = some (.aload_n 0) ∧ dk cX12_talk 90 = some (.dup) ∧ dk cX12_talk 91 = some (.getfield 199) ∧ dk cX12_talk 94 = some (.iconst 1) ∧ dk cX12_talk 95 = some (.iadd) ∧ dk cX12_talk 96 = some (.putfield 199) ∧ isBo (tyN 12 9) = false ∧ dk cX12_talk 99 = some (.aload_n 0) ∧ dk cX12_talk 100 = some (.getfield 199)) ∧ (dk cX12_talk 103 = some (.iconst 1) ∧ dk cX12_talk 104 = some (.isub) ∧ dk cX12_talk 105 = some (.ireturn)) := ⟨by decide +kernel, by decide +kernel, by decide +kernel, by decide +kernel, by decide +kernel, by decide +kernel, by decide +kernel, by decide +kernel, by decide +kernel⟩
set_option maxRecDepth 100000 in
theorem D_X12_isSeen : (dk cX12_isSeen 0 = some (.iconst 0) ∧ dk cX12_isSeen 1 = some (.istore_n 2) ∧ dk cX12_isSeen 2 = some (.iload_n 1) ∧ dk cX12_isSeen 3 = some (.istore_n 3) ∧ dk cX12_isSeen 4 = some (.aload_n 0) ∧ dk cX12_isSeen 5 = some (.getfield 25) ∧ fres 12 25 = some (12, 8, 0, true) ∧ dk cX12_isSeen 8 = some (.iload_n 3) ∧ dk cX12_isSeen 9 = some (.iaload) ∧ dk cX12_isSeen 10 = some (.ifCond .le 40)) ∧ (jok 10 40 = true ∧ jmp 10 40 = 50 ∧ dk cX12_isSeen 13 = some (.aload_n 0) ∧ dk cX12_isSeen 14 = some (.iload_n 3) ∧ dk cX12_isSeen 15 = some (.invokevirtual 196) ∧ cres 12 196 = some 173 ∧ pM 173 = 1 ∧ sM 173 = false ∧ oM 173 = 12 ∧ dk cX12_isSeen 18 = some (.istore 4)) ∧ (dk cX12_isSeen 20 = some (.iload_n 2) ∧ dk cX12_isSeen 21 = some (.ifCond .ne 17) ∧ jok 21 17 = true ∧ jmp 21 17 = 38 ∧ dk cX12_isSeen 24 = some (.aload_n 0) ∧ dk cX12_isSeen 25 = some (.getfield 13) ∧ fres 12 13 = some (12, 2, 0, true) ∧ dk cX12_isSeen 28 = some (.iload_n 3) ∧ dk cX12_isSeen 29 = some (.iaload) ∧ dk cX12_isSeen 30 = some (.iload 4)) ∧ (dk cX12_isSeen 32 = some (.invokestatic 173) ∧ cres 12 173 = some 154 ∧ pM 154 = 2 ∧ sM 154 = true ∧ dk cX12_isSeen 35 = some (.ifCond .eq 7) ∧ jok 35 7 = true ∧ jmp 35 7 = 42 ∧ dk cX12_isSeen 38 = some (.iconst 1) ∧ dk cX12_isSeen 39 = some (.goto 4) ∧ jok 39 4 = true) ∧ (jmp 39 4 = 43 ∧ dk cX12_isSeen 42 = some (.iconst 0) ∧ dk cX12_isSeen 43 = some (.istore_n 2) ∧ dk cX12_isSeen 44 = some (.iload 4) ∧ dk cX12_isSeen 46 = some (.istore_n 3) ∧ dk cX12_isSeen 47 = some (.goto (-43)) ∧ jok 47 (-43) = true ∧ jmp 47 (-43) = 4 ∧ dk cX12_isSeen 50 = some (.iload_n 2) ∧ dk cX12_isSeen 51 = some (.ireturn)) := ⟨by decide +kernel, by decide +kernel, by decide +kernel, by decide +kernel, by decide +kernel⟩
set_option maxRecDepth 100000 in
theorem N_X12_isSeen : ((yM 173).name = "<init>") = False := by simp only [eq_iff_iff, iff_false, iff_true]; decide +kernel
set_option maxRecDepth 100000 in
theorem D_X12_take : (dk cX12_take 0 = some (.bipush 80) ∧ dk cX12_take 2 = some (.iload_n 1) ∧ dk cX12_take 3 = some (.imul) ∧ dk cX12_take 4 = some (.iload_n 2) ∧ dk cX12_take 5 = some (.iadd) ∧ dk cX12_take 6 = some (.istore 4) ∧ dk cX12_take 8 = some (.aload_n 0) ∧ dk cX12_take 9 = some (.getfield 37) ∧ fres 12 37 = some (12, 13, 0, true) ∧ dk cX12_take 12 = some (.iload 4)) ∧ (dk cX12_take 14 = some (.iaload) ∧ dk cX12_take 15 = some (.ifCond .ge 14) ∧ jok 15 14 = true ∧ jmp 15 14 = 29 ∧ dk cX12_take 18 = some (.aload_n 0) ∧ dk cX12_take 19 = some (.getfield 37) ∧ dk cX12_take 22 = some (.iload 4) ∧ dk cX12_take 24 = some (.iload_n 3) ∧ dk cX12_take 25 = some (.iastore) ∧ dk cX12_take 26 = some (.goto 67)) ∧ (jok 26 67 = true ∧ jmp 26 67 = 93 ∧ dk cX12_take 29 = some (.aload_n 0) ∧ dk cX12_take 30 = some (.getfield 37) ∧ dk cX12_take 33 = some (.iload 4) ∧ dk cX12_take 35 = some (.iaload) ∧ dk cX12_take 36 = some (.iload_n 3) ∧ dk cX12_take 37 = some (.if_icmp .eq 24) ∧ jok 37 24 = true ∧ jmp 37 24 = 61) ∧ (dk cX12_take 40 = some (.aload_n 0) ∧ dk cX12_take 41 = some (.getfield 40) ∧ fres 12 40 = some (12, 14, 0, true) ∧ dk cX12_take 44 = some (.iload 4) ∧ dk cX12_take 46 = some (.iaload) ∧ dk cX12_take 47 = some (.ifCond .ge 14) ∧ jok 47 14 = true ∧ jmp 47 14 = 61 ∧ dk cX12_take 50 = some (.aload_n 0) ∧ dk cX12_take 51 = some (.getfield 40)) ∧ (dk cX12_take 54 = some (.iload 4) ∧ dk cX12_take 56 = some (.iload_n 3) ∧ dk cX12_take 57 = some (.iastore) ∧ dk cX12_take 58 = some (.goto 35) ∧ jok 58 35 = true ∧ jmp 58 35 = 93 ∧ dk cX12_take 61 = some (.aload_n 0) ∧ dk cX12_take 62 = some (.getfield 37) ∧ dk cX12_take 65 = some (.iload 4) ∧ dk cX12_take 67 = some (.iaload)) ∧ (dk cX12_take 68 = some (.iload_n 3) ∧ dk cX12_take 69 = some (.if_icmp .eq 24) ∧ jok 69 24 = true ∧ jmp 69 24 = 93 ∧ dk cX12_take 72 = some (.aload_n 0) ∧ dk cX12_take 73 = some (.getfield 40) ∧ dk cX12_take 76 = some (.iload 4) ∧ dk cX12_take 78 = some (.iaload) ∧ dk cX12_take 79 = some (.iload_n 3) ∧ dk cX12_take 80 = some (.if_icmp .eq 13)) ∧ (jok 80 13 = true ∧ jmp 80 13 = 93 ∧ dk cX12_take 83 = some (.aload_n 0) ∧ dk cX12_take 84 = some (.getfield 43) ∧ fres 12 43 = some (12, 15, 0, true) ∧ dk cX12_take 87 = some (.iload_n 1) ∧ dk cX12_take 88 = some (.dup2) ∧ dk cX12_take 89 = some (.iaload) ∧ dk cX12_take 90 = some (.iconst 1) ∧ dk cX12_take 91 = some (.iadd)) ∧ (dk cX12_take 92 = some (.iastore) ∧ dk cX12_take 93 = some (.return_)) := ⟨by decide +kernel, by decide +kernel, by decide +kernel, by decide +kernel, by decide +kernel, by decide +kernel, by decide +kernel, by decide +kernel⟩
set_option maxRecDepth 100000 in
theorem D_X12_piece : (dk cX12_piece 0 = some (.aload_n 0) ∧ dk cX12_piece 1 = some (.iload_n 1) ∧ dk cX12_piece 2 = some (.invokevirtual 202) ∧ cres 12 202 = some 176 ∧ pM 176 = 1 ∧ sM 176 = false ∧ oM 176 = 12 ∧ dk cX12_piece 5 = some (.ifCond .ne 11) ∧ jok 5 11 = true ∧ jmp 5 11 = 16) ∧ (dk cX12_piece 8 = some (.iload 4) ∧ dk cX12_piece 10 = some (.invokestatic 205) ∧ cres 12 205 = some 236 ∧ pM 236 = 1 ∧ sM 236 = true ∧ dk cX12_piece 13 = some (.ifCond .eq 9) ∧ jok 13 9 = true ∧ jmp 13 9 = 22 ∧ dk cX12_piece 16 = some (.aload_n 0) ∧ dk cX12_piece 17 = some (.iconst (-1))) ∧ (dk cX12_piece 18 = some (.invokevirtual 156) ∧ cres 12 156 = some 160 ∧ pM 160 = 1 ∧ sM 160 = false ∧ oM 160 = 12 ∧ dk cX12_piece 21 = some (.ireturn) ∧ dk cX12_piece 22 = some (.iload_n 2) ∧ dk cX12_piece 23 = some (.i2l) ∧ dk cX12_piece 24 = some (.lconst 0) ∧ dk cX12_piece 25 = some (.ldc2_w 208)) ∧ (lres 12 208 = some (59) ∧ dk cX12_piece 28 = some (.invokestatic 143) ∧ cres 12 143 = some 152 ∧ pM 152 = 3 ∧ sM 152 = true ∧ dk cX12_piece 31 = some (.ifCond .eq 10) ∧ jok 31 10 = true ∧ jmp 31 10 = 41 ∧ dk cX12_piece 34 = some (.iload_n 3) ∧ dk cX12_piece 35 = some (.invokestatic 210)) ∧ (cres 12 210 = some 159 ∧ pM 159 = 1 ∧ sM 159 = true ∧ dk cX12_piece 38 = some (.ifCond .ne 10) ∧ jok 38 10 = true ∧ jmp 38 10 = 48 ∧ dk cX12_piece 41 = some (.aload_n 0) ∧ dk cX12_piece 42 = some (.bipush (-2)) ∧ dk cX12_piece 44 = some (.invokevirtual 156) ∧ dk cX12_piece 47 = some (.ireturn)) ∧ (dk cX12_piece 48 = some (.aload_n 0) ∧ dk cX12_piece 49 = some (.iload 4) ∧ dk cX12_piece 51 = some (.iload 5) ∧ dk cX12_piece 53 = some (.iload 6) ∧ dk cX12_piece 55 = some (.iload 7) ∧ dk cX12_piece 57 = some (.i2l) ∧ dk cX12_piece 58 = some (.invokevirtual 213) ∧ cres 12 213 = some 163 ∧ pM 163 = 4 ∧ sM 163 = false) ∧ (oM 163 = 12 ∧ dk cX12_piece 61 = some (.istore 8) ∧ dk cX12_piece 63 = some (.iload 8) ∧ dk cX12_piece 65 = some (.ifCond .ge 6) ∧ jok 65 6 = true ∧ jmp 65 6 = 71 ∧ dk cX12_piece 68 = some (.iload 8) ∧ dk cX12_piece 70 = some (.ireturn) ∧ dk cX12_piece 71 = some (.iload 7) ∧ dk cX12_piece 73 = some (.i2l)) ∧ (dk cX12_piece 74 = some (.lconst 1) ∧ dk cX12_piece 75 = some (.ldc2_w 217) ∧ lres 12 217 = some (20) ∧ dk cX12_piece 78 = some (.invokestatic 143) ∧ dk cX12_piece 81 = some (.ifCond .eq 23) ∧ jok 81 23 = true ∧ jmp 81 23 = 104 ∧ dk cX12_piece 84 = some (.aload_n 0) ∧ dk cX12_piece 85 = some (.bipush 60) ∧ dk cX12_piece 87 = some (.iload 4)) ∧ (dk cX12_piece 89 = some (.imul) ∧ dk cX12_piece 90 = some (.iload 6) ∧ dk cX12_piece 92 = some (.iadd) ∧ dk cX12_piece 93 = some (.iload 7) ∧ dk cX12_piece 95 = some (.iconst 0) ∧ dk cX12_piece 96 = some (.bipush 127) ∧ dk cX12_piece 98 = some (.invokevirtual 219) ∧ cres 12 219 = some 164 ∧ pM 164 = 4 ∧ sM 164 = false) ∧ (oM 164 = 12 ∧ dk cX12_piece 101 = some (.ifCond .ne 10) ∧ jok 101 10 = true ∧ jmp 101 10 = 111 ∧ dk cX12_piece 104 = some (.aload_n 0) ∧ dk cX12_piece 105 = some (.bipush (-2)) ∧ dk cX12_piece 107 = some (.invokevirtual 156) ∧ dk cX12_piece 110 = some (.ireturn) ∧ dk cX12_piece 111 = some (.aload_n 0) ∧ dk cX12_piece 112 = some (.aload_n 0)) ∧ (dk cX12_piece 113 = some (.getfield 34) ∧ fres 12 34 = some (12, 12, 0, true) ∧ dk cX12_piece 116 = some (.iload_n 1) ∧ dk cX12_piece 117 = some (.iaload) ∧ dk cX12_piece 118 = some (.aload_n 0) ∧ dk cX12_piece 119 = some (.getfield 177) ∧ fres 12 177 = some (12, 7, 1, false) ∧ dk cX12_piece 122 = some (.iconst 0) ∧ dk cX12_piece 123 = some (.invokevirtual 192) ∧ cres 12 192 = some 172) ∧ (pM 172 = 3 ∧ sM 172 = false ∧ oM 172 = 12 ∧ dk cX12_piece 126 = some (.aload_n 0) ∧ dk cX12_piece 127 = some (.getfield 25) ∧ fres 12 25 = some (12, 8, 0, true) ∧ dk cX12_piece 130 = some (.aload_n 0) ∧ dk cX12_piece 131 = some (.getfield 31) ∧ fres 12 31 = some (12, 11, 0, true) ∧ dk cX12_piece 134 = some (.iload_n 1)) ∧ (dk cX12_piece 135 = some (.iaload) ∧ dk cX12_piece 136 = some (.iaload) ∧ dk cX12_piece 137 = some (.ifCond .ge 10) ∧ jok 137 10 = true ∧ jmp 137 10 = 147 ∧ dk cX12_piece 140 = some (.aload_n 0) ∧ dk cX12_piece 141 = some (.bipush (-3)) ∧ dk cX12_piece 143 = some (.invokevirtual 156) ∧ dk cX12_piece 146 = some (.ireturn) ∧ dk cX12_piece 147 = some (.aload_n 0)) ∧ (dk cX12_piece 148 = some (.aload_n 0) ∧ dk cX12_piece 149 = some (.getfield 31) ∧ dk cX12_piece 152 = some (.iload_n 1) ∧ dk cX12_piece 153 = some (.iaload) ∧ dk cX12_piece 154 = some (.invokevirtual 223) ∧ cres 12 223 = some 178 ∧ pM 178 = 1 ∧ sM 178 = false ∧ oM 178 = 12 ∧ dk cX12_piece 157 = some (.ifCond .ne 19)) ∧ (jok 157 19 = true ∧ jmp 157 19 = 176 ∧ dk cX12_piece 160 = some (.aload_n 0) ∧ dk cX12_piece 161 = some (.getfield 46) ∧ fres 12 46 = some (12, 16, 0, true) ∧ dk cX12_piece 164 = some (.iload_n 1) ∧ dk cX12_piece 165 = some (.dup2) ∧ dk cX12_piece 166 = some (.iaload) ∧ dk cX12_piece 167 = some (.iconst 1) ∧ dk cX12_piece 168 = some (.iadd)) ∧ (dk cX12_piece 169 = some (.iastore) ∧ dk cX12_piece 170 = some (.aload_n 0) ∧ dk cX12_piece 171 = some (.iconst 0) ∧ dk cX12_piece 172 = some (.invokevirtual 156) ∧ dk cX12_piece 175 = some (.ireturn) ∧ dk cX12_piece 176 = some (.iconst 0) ∧ dk cX12_piece 177 = some (.istore 9) ∧ dk cX12_piece 179 = some (.iload 9) ∧ dk cX12_piece 181 = some (.iload 7) ∧ dk cX12_piece 183 = some (.if_icmp .ge 34)) ∧ (jok 183 34 = true ∧ jmp 183 34 = 217 ∧ dk cX12_piece 186 = some (.aload_n 0) ∧ dk cX12_piece 187 = some (.iload_n 1) ∧ dk cX12_piece 188 = some (.iload_n 2) ∧ dk cX12_piece 189 = some (.iload 9) ∧ dk cX12_piece 191 = some (.iadd) ∧ dk cX12_piece 192 = some (.aload_n 0) ∧ dk cX12_piece 193 = some (.getfield 125) ∧ fres 12 125 = some (12, 52, 0, true)) ∧ (dk cX12_piece 196 = some (.bipush 60) ∧ dk cX12_piece 198 = some (.iload 4) ∧ dk cX12_piece 200 = some (.imul) ∧ dk cX12_piece 201 = some (.iload 6) ∧ dk cX12_piece 203 = some (.iadd) ∧ dk cX12_piece 204 = some (.iload 9) ∧ dk cX12_piece 206 = some (.iadd) ∧ dk cX12_piece 207 = some (.iaload) ∧ dk cX12_piece 208 = some (.invokevirtual 226) ∧ cres 12 226 = some 179) ∧ (pM 179 = 3 ∧ sM 179 = false ∧ oM 179 = 12 ∧ dk cX12_piece 211 = some (.iinc 9 1) ∧ dk cX12_piece 214 = some (.goto (-35)) ∧ jok 214 (-35) = true ∧ jmp 214 (-35) = 179 ∧ dk cX12_piece 217 = some (.aload_n 0) ∧ dk cX12_piece 218 = some (.getfield 49) ∧ fres 12 49 = some (12, 17, 0, true)) ∧ (dk cX12_piece 221 = some (.iload_n 1) ∧ dk cX12_piece 222 = some (.iload_n 3) ∧ dk cX12_piece 223 = some (.iastore) ∧ dk cX12_piece 224 = some (.aload_n 0) ∧ dk cX12_piece 225 = some (.iconst 1) ∧ dk cX12_piece 226 = some (.invokevirtual 156) ∧ dk cX12_piece 229 = some (.ireturn)) := ⟨by decide +kernel, by decide +kernel, by decide +kernel, by decide +kernel, by decide +kernel, by decide +kernel, by decide +kernel, by decide +kernel, by decide +kernel, by decide +kernel, by decide +kernel, by decide +kernel, by decide +kernel, by decide +kernel, by decide +kernel, by decide +kernel, by decide +kernel, by decide +kernel, by decide +kernel, by decide +kernel⟩
set_option maxRecDepth 100000 in
theorem N_X12_piece : ((yM 176).name = "<init>") = False ∧ ((yM 160).name = "<init>") = False ∧ ((yM 163).name = "<init>") = False ∧ ((yM 164).name = "<init>") = False ∧ ((yM 172).name = "<init>") = False ∧ ((yM 178).name = "<init>") = False ∧ ((yM 179).name = "<init>") = False := by simp only [eq_iff_iff, iff_false, iff_true]; decide +kernel
set_option maxRecDepth 100000 in
theorem D_X12_joinedOf : (dk cX12_joinedOf 0 = some (.iconst 0) ∧ dk cX12_joinedOf 1 = some (.istore_n 2) ∧ dk cX12_joinedOf 2 = some (.iload_n 2) ∧ dk cX12_joinedOf 3 = some (.bipush 79) ∧ dk cX12_joinedOf 5 = some (.if_icmp .ge 23) ∧ jok 5 23 = true ∧ jmp 5 23 = 28 ∧ dk cX12_joinedOf 8 = some (.aload_n 0) ∧ dk cX12_joinedOf 9 = some (.getfield 37) ∧ fres 12 37 = some (12, 13, 0, true)) ∧ (dk cX12_joinedOf 12 = some (.bipush 80) ∧ dk cX12_joinedOf 14 = some (.iload_n 1) ∧ dk cX12_joinedOf 15 = some (.imul) ∧ dk cX12_joinedOf 16 = some (.iload_n 2) ∧ dk cX12_joinedOf 17 = some (.iadd) ∧ dk cX12_joinedOf 18 = some (.iaload) ∧ dk cX12_joinedOf 19 = some (.ifCond .lt 9) ∧ jok 19 9 = true ∧ jmp 19 9 = 28 ∧ dk cX12_joinedOf 22 = some (.iinc 2 1)) ∧ (dk cX12_joinedOf 25 = some (.goto (-23)) ∧ jok 25 (-23) = true ∧ jmp 25 (-23) = 2 ∧ dk cX12_joinedOf 28 = some (.iload_n 2) ∧ dk cX12_joinedOf 29 = some (.ireturn)) := ⟨by decide +kernel, by decide +kernel, by decide +kernel⟩
set_option maxRecDepth 100000 in
theorem D_X12_lengthOf : (dk cX12_lengthOf 0 = some (.iconst 0) ∧ dk cX12_lengthOf 1 = some (.istore_n 2) ∧ dk cX12_lengthOf 2 = some (.iconst 0) ∧ dk cX12_lengthOf 3 = some (.istore_n 3) ∧ dk cX12_lengthOf 4 = some (.iload_n 3) ∧ dk cX12_lengthOf 5 = some (.bipush 79) ∧ dk cX12_lengthOf 7 = some (.if_icmp .ge 31) ∧ jok 7 31 = true ∧ jmp 7 31 = 38 ∧ dk cX12_lengthOf 10 = some (.aload_n 0)) ∧ (dk cX12_lengthOf 11 = some (.getfield 37) ∧ fres 12 37 = some (12, 13, 0, true) ∧ dk cX12_lengthOf 14 = some (.bipush 80) ∧ dk cX12_lengthOf 16 = some (.iload_n 1) ∧ dk cX12_lengthOf 17 = some (.imul) ∧ dk cX12_lengthOf 18 = some (.iload_n 3) ∧ dk cX12_lengthOf 19 = some (.iadd) ∧ dk cX12_lengthOf 20 = some (.iaload) ∧ dk cX12_lengthOf 21 = some (.ifCond .lt 9) ∧ jok 21 9 = true) ∧ (jmp 21 9 = 30 ∧ dk cX12_lengthOf 24 = some (.iload_n 3) ∧ dk cX12_lengthOf 25 = some (.iconst 1) ∧ dk cX12_lengthOf 26 = some (.iadd) ∧ dk cX12_lengthOf 27 = some (.goto 4) ∧ jok 27 4 = true ∧ jmp 27 4 = 31 ∧ dk cX12_lengthOf 30 = some (.iload_n 2) ∧ dk cX12_lengthOf 31 = some (.istore_n 2) ∧ dk cX12_lengthOf 32 = some (.iinc 3 1)) ∧ (dk cX12_lengthOf 35 = some (.goto (-31)) ∧ jok 35 (-31) = true ∧ jmp 35 (-31) = 4 ∧ dk cX12_lengthOf 38 = some (.aload_n 0) ∧ dk cX12_lengthOf 39 = some (.getfield 28) ∧ fres 12 28 = some (12, 10, 0, true) ∧ dk cX12_lengthOf 42 = some (.iload_n 1) ∧ dk cX12_lengthOf 43 = some (.iaload) ∧ dk cX12_lengthOf 44 = some (.iconst 2) ∧ dk cX12_lengthOf 45 = some (.if_icmp .ge 7)) ∧ (jok 45 7 = true ∧ jmp 45 7 = 52 ∧ dk cX12_lengthOf 48 = some (.iload_n 2) ∧ dk cX12_lengthOf 49 = some (.goto 15) ∧ jok 49 15 = true ∧ jmp 49 15 = 64 ∧ dk cX12_lengthOf 52 = some (.iload_n 2) ∧ dk cX12_lengthOf 53 = some (.iconst 4) ∧ dk cX12_lengthOf 54 = some (.if_icmp .ge 7) ∧ jok 54 7 = true) ∧ (jmp 54 7 = 61 ∧ dk cX12_lengthOf 57 = some (.iconst 0) ∧ dk cX12_lengthOf 58 = some (.goto 6) ∧ jok 58 6 = true ∧ jmp 58 6 = 64 ∧ dk cX12_lengthOf 61 = some (.iload_n 2) ∧ dk cX12_lengthOf 62 = some (.iconst 4) ∧ dk cX12_lengthOf 63 = some (.isub) ∧ dk cX12_lengthOf 64 = some (.ireturn)) := ⟨by decide +kernel, by decide +kernel, by decide +kernel, by decide +kernel, by decide +kernel, by decide +kernel⟩
set_option maxRecDepth 100000 in
theorem D_X12_about : (dk cX12_about 0 = some (.aload_n 0) ∧ dk cX12_about 1 = some (.iload_n 1) ∧ dk cX12_about 2 = some (.invokevirtual 202) ∧ cres 12 202 = some 176 ∧ pM 176 = 1 ∧ sM 176 = false ∧ oM 176 = 12 ∧ dk cX12_about 5 = some (.ifCond .eq 5) ∧ jok 5 5 = true ∧ jmp 5 5 = 10) ∧ (dk cX12_about 8 = some (.iconst (-1)) ∧ dk cX12_about 9 = some (.ireturn) ∧ dk cX12_about 10 = some (.iconst 0) ∧ dk cX12_about 11 = some (.istore_n 3) ∧ dk cX12_about 12 = some (.iload_n 2) ∧ dk cX12_about 13 = some (.tableswitch 146 0 8 #[51, 58, 65, 72, 78, 84, 125, 132, 139]) ∧ jok 13 146 = true ∧ jmp 13 146 = 159 ∧ jok 13 51 = true ∧ jmp 13 51 = 64) ∧ (jok 13 58 = true ∧ jmp 13 58 = 71 ∧ jok 13 65 = true ∧ jmp 13 65 = 78 ∧ jok 13 72 = true ∧ jmp 13 72 = 85 ∧ jok 13 78 = true ∧ jmp 13 78 = 91 ∧ jok 13 84 = true ∧ jmp 13 84 = 97) ∧ (jok 13 125 = true ∧ jmp 13 125 = 138 ∧ jok 13 132 = true ∧ jmp 13 132 = 145 ∧ jok 13 139 = true ∧ jmp 13 139 = 152 ∧ dk cX12_about 64 = some (.aload_n 0) ∧ dk cX12_about 65 = some (.getfield 28) ∧ fres 12 28 = some (12, 10, 0, true) ∧ dk cX12_about 68 = some (.iload_n 1)) ∧ (dk cX12_about 69 = some (.iaload) ∧ dk cX12_about 70 = some (.ireturn) ∧ dk cX12_about 71 = some (.aload_n 0) ∧ dk cX12_about 72 = some (.getfield 31) ∧ fres 12 31 = some (12, 11, 0, true) ∧ dk cX12_about 75 = some (.iload_n 1) ∧ dk cX12_about 76 = some (.iaload) ∧ dk cX12_about 77 = some (.ireturn) ∧ dk cX12_about 78 = some (.aload_n 0) ∧ dk cX12_about 79 = some (.getfield 34)) ∧ (fres 12 34 = some (12, 12, 0, true) ∧ dk cX12_about 82 = some (.iload_n 1) ∧ dk cX12_about 83 = some (.iaload) ∧ dk cX12_about 84 = some (.ireturn) ∧ dk cX12_about 85 = some (.aload_n 0) ∧ dk cX12_about 86 = some (.iload_n 1) ∧ dk cX12_about 87 = some (.invokevirtual 230) ∧ cres 12 230 = some 181 ∧ pM 181 = 1 ∧ sM 181 = false) ∧ (oM 181 = 12 ∧ dk cX12_about 90 = some (.ireturn) ∧ dk cX12_about 91 = some (.aload_n 0) ∧ dk cX12_about 92 = some (.iload_n 1) ∧ dk cX12_about 93 = some (.invokevirtual 233) ∧ cres 12 233 = some 182 ∧ pM 182 = 1 ∧ sM 182 = false ∧ oM 182 = 12 ∧ dk cX12_about 96 = some (.ireturn)) ∧ (dk cX12_about 97 = some (.iconst 0) ∧ dk cX12_about 98 = some (.istore 4) ∧ dk cX12_about 100 = some (.iload 4) ∧ dk cX12_about 102 = some (.bipush 79) ∧ dk cX12_about 104 = some (.if_icmp .ge 32) ∧ jok 104 32 = true ∧ jmp 104 32 = 136 ∧ dk cX12_about 107 = some (.iload_n 3) ∧ dk cX12_about 108 = some (.aload_n 0) ∧ dk cX12_about 109 = some (.getfield 40)) ∧ (fres 12 40 = some (12, 14, 0, true) ∧ dk cX12_about 112 = some (.bipush 80) ∧ dk cX12_about 114 = some (.iload_n 1) ∧ dk cX12_about 115 = some (.imul) ∧ dk cX12_about 116 = some (.iload 4) ∧ dk cX12_about 118 = some (.iadd) ∧ dk cX12_about 119 = some (.iaload) ∧ dk cX12_about 120 = some (.ifCond .lt 7) ∧ jok 120 7 = true ∧ jmp 120 7 = 127) ∧ (dk cX12_about 123 = some (.iconst 1) ∧ dk cX12_about 124 = some (.goto 4) ∧ jok 124 4 = true ∧ jmp 124 4 = 128 ∧ dk cX12_about 127 = some (.iconst 0) ∧ dk cX12_about 128 = some (.iadd) ∧ dk cX12_about 129 = some (.istore_n 3) ∧ dk cX12_about 130 = some (.iinc 4 1) ∧ dk cX12_about 133 = some (.goto (-33)) ∧ jok 133 (-33) = true) ∧ (jmp 133 (-33) = 100 ∧ dk cX12_about 136 = some (.iload_n 3) ∧ dk cX12_about 137 = some (.ireturn) ∧ dk cX12_about 138 = some (.aload_n 0) ∧ dk cX12_about 139 = some (.getfield 43) ∧ fres 12 43 = some (12, 15, 0, true) ∧ dk cX12_about 142 = some (.iload_n 1) ∧ dk cX12_about 143 = some (.iaload) ∧ dk cX12_about 144 = some (.ireturn) ∧ dk cX12_about 145 = some (.aload_n 0)) ∧ (dk cX12_about 146 = some (.getfield 46) ∧ fres 12 46 = some (12, 16, 0, true) ∧ dk cX12_about 149 = some (.iload_n 1) ∧ dk cX12_about 150 = some (.iaload) ∧ dk cX12_about 151 = some (.ireturn) ∧ dk cX12_about 152 = some (.aload_n 0) ∧ dk cX12_about 153 = some (.getfield 49) ∧ fres 12 49 = some (12, 17, 0, true) ∧ dk cX12_about 156 = some (.iload_n 1) ∧ dk cX12_about 157 = some (.iaload)) ∧ (dk cX12_about 158 = some (.ireturn) ∧ dk cX12_about 159 = some (.bipush (-2)) ∧ dk cX12_about 161 = some (.ireturn)) := ⟨by decide +kernel, by decide +kernel, by decide +kernel, by decide +kernel, by decide +kernel, by decide +kernel, by decide +kernel, by decide +kernel, by decide +kernel, by decide +kernel, by decide +kernel, by decide +kernel, by decide +kernel⟩
set_option maxRecDepth 100000 in
theorem N_X12_about : ((yM 176).name = "<init>") = False ∧ ((yM 181).name = "<init>") = False ∧ ((yM 182).name = "<init>") = False := by simp only [eq_iff_iff, iff_false, iff_true]; decide +kernel
set_option maxRecDepth 100000 in
theorem D_X12_byteAt : (dk cX12_byteAt 0 = some (.bipush 80) ∧ dk cX12_byteAt 2 = some (.iload_n 1) ∧ dk cX12_byteAt 3 = some (.imul) ∧ dk cX12_byteAt 4 = some (.iload_n 3) ∧ dk cX12_byteAt 5 = some (.iadd) ∧ dk cX12_byteAt 6 = some (.istore 4) ∧ dk cX12_byteAt 8 = some (.iload_n 2) ∧ dk cX12_byteAt 9 = some (.iconst 1) ∧ dk cX12_byteAt 10 = some (.if_icmp .ne 23) ∧ jok 10 23 = true) ∧ (jmp 10 23 = 33 ∧ dk cX12_byteAt 13 = some (.aload_n 0) ∧ dk cX12_byteAt 14 = some (.getfield 40) ∧ fres 12 40 = some (12, 14, 0, true) ∧ dk cX12_byteAt 17 = some (.iload 4) ∧ dk cX12_byteAt 19 = some (.iaload) ∧ dk cX12_byteAt 20 = some (.ifCond .lt 13) ∧ jok 20 13 = true ∧ jmp 20 13 = 33 ∧ dk cX12_byteAt 23 = some (.aload_n 0)) ∧ (dk cX12_byteAt 24 = some (.getfield 40) ∧ dk cX12_byteAt 27 = some (.iload 4) ∧ dk cX12_byteAt 29 = some (.iaload) ∧ dk cX12_byteAt 30 = some (.goto 10) ∧ jok 30 10 = true ∧ jmp 30 10 = 40 ∧ dk cX12_byteAt 33 = some (.aload_n 0) ∧ dk cX12_byteAt 34 = some (.getfield 37) ∧ fres 12 37 = some (12, 13, 0, true) ∧ dk cX12_byteAt 37 = some (.iload 4)) ∧ (dk cX12_byteAt 39 = some (.iaload) ∧ dk cX12_byteAt 40 = some (.ireturn)) := ⟨by decide +kernel, by decide +kernel, by decide +kernel, by decide +kernel⟩
set_option maxRecDepth 100000 in
theorem D_X12_at : (dk cX12_at 0 = some (.aload_n 0) ∧ dk cX12_at 1 = some (.iload_n 1) ∧ dk cX12_at 2 = some (.invokevirtual 202) ∧ cres 12 202 = some 176 ∧ pM 176 = 1 ∧ sM 176 = false ∧ oM 176 = 12 ∧ dk cX12_at 5 = some (.ifCond .ne 15) ∧ jok 5 15 = true ∧ jmp 5 15 = 20) ∧ (dk cX12_at 8 = some (.iload_n 3) ∧ dk cX12_at 9 = some (.i2l) ∧ dk cX12_at 10 = some (.lconst 0) ∧ dk cX12_at 11 = some (.ldc2_w 236) ∧ lres 12 236 = some (78) ∧ dk cX12_at 14 = some (.invokestatic 143) ∧ cres 12 143 = some 152 ∧ pM 152 = 3 ∧ sM 152 = true ∧ dk cX12_at 17 = some (.ifCond .ne 5)) ∧ (jok 17 5 = true ∧ jmp 17 5 = 22 ∧ dk cX12_at 20 = some (.iconst (-1)) ∧ dk cX12_at 21 = some (.ireturn) ∧ dk cX12_at 22 = some (.iload_n 2) ∧ dk cX12_at 23 = some (.i2l) ∧ dk cX12_at 24 = some (.lconst 0) ∧ dk cX12_at 25 = some (.lconst 1) ∧ dk cX12_at 26 = some (.invokestatic 143) ∧ dk cX12_at 29 = some (.ifCond .ne 6)) ∧ (jok 29 6 = true ∧ jmp 29 6 = 35 ∧ dk cX12_at 32 = some (.bipush (-2)) ∧ dk cX12_at 34 = some (.ireturn) ∧ dk cX12_at 35 = some (.aload_n 0) ∧ dk cX12_at 36 = some (.getfield 28) ∧ fres 12 28 = some (12, 10, 0, true) ∧ dk cX12_at 39 = some (.iload_n 1) ∧ dk cX12_at 40 = some (.iaload) ∧ dk cX12_at 41 = some (.ifCond .le 8)) ∧ (jok 41 8 = true ∧ jmp 41 8 = 49 ∧ dk cX12_at 44 = some (.bipush (-3)) ∧ dk cX12_at 46 = some (.goto 10) ∧ jok 46 10 = true ∧ jmp 46 10 = 56 ∧ dk cX12_at 49 = some (.aload_n 0) ∧ dk cX12_at 50 = some (.iload_n 1) ∧ dk cX12_at 51 = some (.iload_n 2) ∧ dk cX12_at 52 = some (.iload_n 3)) ∧ (dk cX12_at 53 = some (.invokevirtual 238) ∧ cres 12 238 = some 184 ∧ pM 184 = 3 ∧ sM 184 = false ∧ oM 184 = 12 ∧ dk cX12_at 56 = some (.ireturn)) := ⟨by decide +kernel, by decide +kernel, by decide +kernel, by decide +kernel, by decide +kernel, by decide +kernel⟩
set_option maxRecDepth 100000 in
theorem N_X12_at : ((yM 176).name = "<init>") = False ∧ ((yM 184).name = "<init>") = False := by simp only [eq_iff_iff, iff_false, iff_true]; decide +kernel
set_option maxRecDepth 100000 in
theorem D_X12_noRow : (dk cX12_noRow 0 = some (.iload_n 1) ∧ dk cX12_noRow 1 = some (.i2l) ∧ dk cX12_noRow 2 = some (.lconst 0) ∧ dk cX12_noRow 3 = some (.aload_n 0) ∧ dk cX12_noRow 4 = some (.getfield 242) ∧ fres 12 242 = some (12, 18, 1, false) ∧ dk cX12_noRow 7 = some (.i2l) ∧ dk cX12_noRow 8 = some (.lconst 1) ∧ dk cX12_noRow 9 = some (.lsub) ∧ dk cX12_noRow 10 = some (.invokestatic 143)) ∧ (cres 12 143 = some 152 ∧ pM 152 = 3 ∧ sM 152 = true ∧ dk cX12_noRow 13 = some (.ifCond .ne 7) ∧ jok 13 7 = true ∧ jmp 13 7 = 20 ∧ dk cX12_noRow 16 = some (.iconst 1) ∧ dk cX12_noRow 17 = some (.goto 4) ∧ jok 17 4 = true ∧ jmp 17 4 = 21) ∧ (dk cX12_noRow 20 = some (.iconst 0) ∧ dk cX12_noRow 21 = some (.ireturn)) := ⟨by decide +kernel, by decide +kernel, by decide +kernel⟩
set_option maxRecDepth 100000 in
theorem D_X12_row : (dk cX12_row 0 = some (.iload_n 1) ∧ dk cX12_row 1 = some (.invokestatic 205) ∧ cres 12 205 = some 236 ∧ pM 236 = 1 ∧ sM 236 = true ∧ dk cX12_row 4 = some (.ifCond .eq 9) ∧ jok 4 9 = true ∧ jmp 4 9 = 13 ∧ dk cX12_row 7 = some (.aload_n 0) ∧ dk cX12_row 8 = some (.iconst (-1))) ∧ (dk cX12_row 9 = some (.invokevirtual 156) ∧ cres 12 156 = some 160 ∧ pM 160 = 1 ∧ sM 160 = false ∧ oM 160 = 12 ∧ dk cX12_row 12 = some (.ireturn) ∧ dk cX12_row 13 = some (.aload_n 0) ∧ dk cX12_row 14 = some (.iload_n 1) ∧ dk cX12_row 15 = some (.iload_n 2) ∧ dk cX12_row 16 = some (.iload_n 3)) ∧ (dk cX12_row 17 = some (.iload 4) ∧ dk cX12_row 19 = some (.i2l) ∧ dk cX12_row 20 = some (.invokevirtual 213) ∧ cres 12 213 = some 163 ∧ pM 163 = 4 ∧ sM 163 = false ∧ oM 163 = 12 ∧ dk cX12_row 23 = some (.istore 5) ∧ dk cX12_row 25 = some (.iload 5) ∧ dk cX12_row 27 = some (.ifCond .ge 6)) ∧ (jok 27 6 = true ∧ jmp 27 6 = 33 ∧ dk cX12_row 30 = some (.iload 5) ∧ dk cX12_row 32 = some (.ireturn) ∧ dk cX12_row 33 = some (.iload 4) ∧ dk cX12_row 35 = some (.i2l) ∧ dk cX12_row 36 = some (.lconst 1) ∧ dk cX12_row 37 = some (.ldc2_w 245) ∧ lres 12 245 = some (6) ∧ dk cX12_row 40 = some (.invokestatic 143)) ∧ (cres 12 143 = some 152 ∧ pM 152 = 3 ∧ sM 152 = true ∧ dk cX12_row 43 = some (.ifCond .eq 21) ∧ jok 43 21 = true ∧ jmp 43 21 = 64 ∧ dk cX12_row 46 = some (.aload_n 0) ∧ dk cX12_row 47 = some (.bipush 60) ∧ dk cX12_row 49 = some (.iload_n 1) ∧ dk cX12_row 50 = some (.imul)) ∧ (dk cX12_row 51 = some (.iload_n 3) ∧ dk cX12_row 52 = some (.iadd) ∧ dk cX12_row 53 = some (.iload 4) ∧ dk cX12_row 55 = some (.iconst (-1)) ∧ dk cX12_row 56 = some (.bipush 127) ∧ dk cX12_row 58 = some (.invokevirtual 219) ∧ cres 12 219 = some 164 ∧ pM 164 = 4 ∧ sM 164 = false ∧ oM 164 = 12) ∧ (dk cX12_row 61 = some (.ifCond .ne 10) ∧ jok 61 10 = true ∧ jmp 61 10 = 71 ∧ dk cX12_row 64 = some (.aload_n 0) ∧ dk cX12_row 65 = some (.bipush (-2)) ∧ dk cX12_row 67 = some (.invokevirtual 156) ∧ dk cX12_row 70 = some (.ireturn) ∧ dk cX12_row 71 = some (.aload_n 0) ∧ dk cX12_row 72 = some (.getfield 242) ∧ fres 12 242 = some (12, 18, 1, false)) ∧ (dk cX12_row 75 = some (.bipush 8) ∧ dk cX12_row 77 = some (.if_icmp .ne 10) ∧ jok 77 10 = true ∧ jmp 77 10 = 87 ∧ dk cX12_row 80 = some (.aload_n 0) ∧ dk cX12_row 81 = some (.bipush (-4)) ∧ dk cX12_row 83 = some (.invokevirtual 156) ∧ dk cX12_row 86 = some (.ireturn) ∧ dk cX12_row 87 = some (.aload_n 0) ∧ dk cX12_row 88 = some (.getfield 52)) ∧ (fres 12 52 = some (12, 19, 0, true) ∧ dk cX12_row 91 = some (.aload_n 0) ∧ dk cX12_row 92 = some (.getfield 242) ∧ dk cX12_row 95 = some (.iload 4) ∧ dk cX12_row 97 = some (.iastore) ∧ dk cX12_row 98 = some (.iconst 0) ∧ dk cX12_row 99 = some (.istore 6) ∧ dk cX12_row 101 = some (.iload 6) ∧ dk cX12_row 103 = some (.iload 4) ∧ dk cX12_row 105 = some (.if_icmp .ge 38)) ∧ (jok 105 38 = true ∧ jmp 105 38 = 143 ∧ dk cX12_row 108 = some (.aload_n 0) ∧ dk cX12_row 109 = some (.getfield 55) ∧ fres 12 55 = some (12, 20, 0, true) ∧ dk cX12_row 112 = some (.bipush 6) ∧ dk cX12_row 114 = some (.aload_n 0) ∧ dk cX12_row 115 = some (.getfield 242) ∧ dk cX12_row 118 = some (.imul) ∧ dk cX12_row 119 = some (.iload 6)) ∧ (dk cX12_row 121 = some (.iadd) ∧ dk cX12_row 122 = some (.aload_n 0) ∧ dk cX12_row 123 = some (.getfield 125) ∧ fres 12 125 = some (12, 52, 0, true) ∧ dk cX12_row 126 = some (.bipush 60) ∧ dk cX12_row 128 = some (.iload_n 1) ∧ dk cX12_row 129 = some (.imul) ∧ dk cX12_row 130 = some (.iload_n 3) ∧ dk cX12_row 131 = some (.iadd) ∧ dk cX12_row 132 = some (.iload 6)) ∧ (dk cX12_row 134 = some (.iadd) ∧ dk cX12_row 135 = some (.iaload) ∧ dk cX12_row 136 = some (.iastore) ∧ dk cX12_row 137 = some (.iinc 6 1) ∧ dk cX12_row 140 = some (.goto (-39)) ∧ jok 140 (-39) = true ∧ jmp 140 (-39) = 101 ∧ dk cX12_row 143 = some (.aload_n 0) ∧ dk cX12_row 144 = some (.dup) ∧ dk cX12_row 145 = some (.getfield 242)) ∧ (dk cX12_row 148 = some (.iconst 1) ∧ dk cX12_row 149 = some (.iadd) ∧ dk cX12_row 150 = some (.putfield 242) ∧ isBo (tyN 12 18) = false ∧ dk cX12_row 153 = some (.aload_n 0) ∧ dk cX12_row 154 = some (.aload_n 0) ∧ dk cX12_row 155 = some (.getfield 242) ∧ dk cX12_row 158 = some (.iconst 1) ∧ dk cX12_row 159 = some (.isub) ∧ dk cX12_row 160 = some (.invokevirtual 156)) ∧ (dk cX12_row 163 = some (.ireturn)) := ⟨by decide +kernel, by decide +kernel, by decide +kernel, by decide +kernel, by decide +kernel, by decide +kernel, by decide +kernel, by decide +kernel, by decide +kernel, by decide +kernel, by decide +kernel, by decide +kernel, by decide +kernel, by decide +kernel⟩
set_option maxRecDepth 100000 in
theorem N_X12_row : ((yM 160).name = "<init>") = False ∧ ((yM 163).name = "<init>") = False ∧ ((yM 164).name = "<init>") = False := by simp only [eq_iff_iff, iff_false, iff_true]; decide +kernel
set_option maxRecDepth 100000 in
theorem D_X12_doesFit : (dk cX12_doesFit 0 = some (.iload 4) ∧ dk cX12_doesFit 2 = some (.aload_n 0) ∧ dk cX12_doesFit 3 = some (.getfield 52) ∧ fres 12 52 = some (12, 19, 0, true) ∧ dk cX12_doesFit 6 = some (.iload_n 1) ∧ dk cX12_doesFit 7 = some (.iaload) ∧ dk cX12_doesFit 8 = some (.iadd) ∧ dk cX12_doesFit 9 = some (.iload 5) ∧ dk cX12_doesFit 11 = some (.if_icmp .gt 7) ∧ jok 11 7 = true) ∧ (jmp 11 7 = 18 ∧ dk cX12_doesFit 14 = some (.iconst 1) ∧ dk cX12_doesFit 15 = some (.goto 4) ∧ jok 15 4 = true ∧ jmp 15 4 = 19 ∧ dk cX12_doesFit 18 = some (.iconst 0) ∧ dk cX12_doesFit 19 = some (.istore 6) ∧ dk cX12_doesFit 21 = some (.iconst 0) ∧ dk cX12_doesFit 22 = some (.istore 7) ∧ dk cX12_doesFit 24 = some (.iload 7)) ∧ (dk cX12_doesFit 26 = some (.aload_n 0) ∧ dk cX12_doesFit 27 = some (.getfield 52) ∧ dk cX12_doesFit 30 = some (.iload_n 1) ∧ dk cX12_doesFit 31 = some (.iaload) ∧ dk cX12_doesFit 32 = some (.if_icmp .ge 56) ∧ jok 32 56 = true ∧ jmp 32 56 = 88 ∧ dk cX12_doesFit 35 = some (.iload 6) ∧ dk cX12_doesFit 37 = some (.ifCond .eq 51) ∧ jok 37 51 = true) ∧ (jmp 37 51 = 88 ∧ dk cX12_doesFit 40 = some (.aload_n 0) ∧ dk cX12_doesFit 41 = some (.getfield 55) ∧ fres 12 55 = some (12, 20, 0, true) ∧ dk cX12_doesFit 44 = some (.bipush 6) ∧ dk cX12_doesFit 46 = some (.iload_n 1) ∧ dk cX12_doesFit 47 = some (.imul) ∧ dk cX12_doesFit 48 = some (.iload 7) ∧ dk cX12_doesFit 50 = some (.iadd) ∧ dk cX12_doesFit 51 = some (.iaload)) ∧ (dk cX12_doesFit 52 = some (.istore 8) ∧ dk cX12_doesFit 54 = some (.iload 8) ∧ dk cX12_doesFit 56 = some (.ifCond .lt 19) ∧ jok 56 19 = true ∧ jmp 56 19 = 75 ∧ dk cX12_doesFit 59 = some (.aload_n 0) ∧ dk cX12_doesFit 60 = some (.iload_n 2) ∧ dk cX12_doesFit 61 = some (.iload_n 3) ∧ dk cX12_doesFit 62 = some (.iload 4) ∧ dk cX12_doesFit 64 = some (.iload 7)) ∧ (dk cX12_doesFit 66 = some (.iadd) ∧ dk cX12_doesFit 67 = some (.invokevirtual 238) ∧ cres 12 238 = some 184 ∧ pM 184 = 3 ∧ sM 184 = false ∧ oM 184 = 12 ∧ dk cX12_doesFit 70 = some (.iload 8) ∧ dk cX12_doesFit 72 = some (.if_icmp .ne 7) ∧ jok 72 7 = true ∧ jmp 72 7 = 79) ∧ (dk cX12_doesFit 75 = some (.iconst 1) ∧ dk cX12_doesFit 76 = some (.goto 4) ∧ jok 76 4 = true ∧ jmp 76 4 = 80 ∧ dk cX12_doesFit 79 = some (.iconst 0) ∧ dk cX12_doesFit 80 = some (.istore 6) ∧ dk cX12_doesFit 82 = some (.iinc 7 1) ∧ dk cX12_doesFit 85 = some (.goto (-61)) ∧ jok 85 (-61) = true ∧ jmp 85 (-61) = 24) ∧ (dk cX12_doesFit 88 = some (.iload 6) ∧ dk cX12_doesFit 90 = some (.ireturn)) := ⟨by decide +kernel, by decide +kernel, by decide +kernel, by decide +kernel, by decide +kernel, by decide +kernel, by decide +kernel, by decide +kernel⟩
set_option maxRecDepth 100000 in
theorem N_X12_doesFit : ((yM 184).name = "<init>") = False := by simp only [eq_iff_iff, iff_false, iff_true]; decide +kernel
set_option maxRecDepth 100000 in
theorem D_X12_fitsOf : (dk cX12_fitsOf 0 = some (.aload_n 0) ∧ dk cX12_fitsOf 1 = some (.iload_n 2) ∧ dk cX12_fitsOf 2 = some (.invokevirtual 230) ∧ cres 12 230 = some 181 ∧ pM 181 = 1 ∧ sM 181 = false ∧ oM 181 = 12 ∧ dk cX12_fitsOf 5 = some (.istore 5) ∧ dk cX12_fitsOf 7 = some (.iconst 0) ∧ dk cX12_fitsOf 8 = some (.istore 6)) ∧ (dk cX12_fitsOf 10 = some (.bipush (-9)) ∧ dk cX12_fitsOf 12 = some (.istore 7) ∧ dk cX12_fitsOf 14 = some (.iload 5) ∧ dk cX12_fitsOf 16 = some (.iconst 1) ∧ dk cX12_fitsOf 17 = some (.isub) ∧ dk cX12_fitsOf 18 = some (.istore 8) ∧ dk cX12_fitsOf 20 = some (.iload 8) ∧ dk cX12_fitsOf 22 = some (.ifCond .lt 30) ∧ jok 22 30 = true ∧ jmp 22 30 = 52) ∧ (dk cX12_fitsOf 25 = some (.aload_n 0) ∧ dk cX12_fitsOf 26 = some (.iload_n 1) ∧ dk cX12_fitsOf 27 = some (.iload_n 2) ∧ dk cX12_fitsOf 28 = some (.iload_n 3) ∧ dk cX12_fitsOf 29 = some (.iload 8) ∧ dk cX12_fitsOf 31 = some (.iload 5) ∧ dk cX12_fitsOf 33 = some (.invokevirtual 247) ∧ cres 12 247 = some 188 ∧ pM 188 = 5 ∧ sM 188 = false) ∧ (oM 188 = 12 ∧ dk cX12_fitsOf 36 = some (.ifCond .eq 10) ∧ jok 36 10 = true ∧ jmp 36 10 = 46 ∧ dk cX12_fitsOf 39 = some (.iinc 6 1) ∧ dk cX12_fitsOf 42 = some (.iload 8) ∧ dk cX12_fitsOf 44 = some (.istore 7) ∧ dk cX12_fitsOf 46 = some (.iinc 8 (-1)) ∧ dk cX12_fitsOf 49 = some (.goto (-29)) ∧ jok 49 (-29) = true) ∧ (jmp 49 (-29) = 20 ∧ dk cX12_fitsOf 52 = some (.iload 4) ∧ dk cX12_fitsOf 54 = some (.ifCond .ne 8) ∧ jok 54 8 = true ∧ jmp 54 8 = 62 ∧ dk cX12_fitsOf 57 = some (.iload 6) ∧ dk cX12_fitsOf 59 = some (.goto 5) ∧ jok 59 5 = true ∧ jmp 59 5 = 64 ∧ dk cX12_fitsOf 62 = some (.iload 7)) ∧ (dk cX12_fitsOf 64 = some (.ireturn)) := ⟨by decide +kernel, by decide +kernel, by decide +kernel, by decide +kernel, by decide +kernel, by decide +kernel⟩
set_option maxRecDepth 100000 in
theorem N_X12_fitsOf : ((yM 181).name = "<init>") = False ∧ ((yM 188).name = "<init>") = False := by simp only [eq_iff_iff, iff_false, iff_true]; decide +kernel
set_option maxRecDepth 100000 in
theorem D_X12_fits : (dk cX12_fits 0 = some (.aload_n 0) ∧ dk cX12_fits 1 = some (.iload_n 1) ∧ dk cX12_fits 2 = some (.invokevirtual 251) ∧ cres 12 251 = some 186 ∧ pM 186 = 1 ∧ sM 186 = false ∧ oM 186 = 12 ∧ dk cX12_fits 5 = some (.ifCond .ne 11) ∧ jok 5 11 = true ∧ jmp 5 11 = 16) ∧ (dk cX12_fits 8 = some (.aload_n 0) ∧ dk cX12_fits 9 = some (.iload_n 2) ∧ dk cX12_fits 10 = some (.invokevirtual 202) ∧ cres 12 202 = some 176 ∧ pM 176 = 1 ∧ sM 176 = false ∧ oM 176 = 12 ∧ dk cX12_fits 13 = some (.ifCond .eq 5) ∧ jok 13 5 = true ∧ jmp 13 5 = 18) ∧ (dk cX12_fits 16 = some (.iconst (-1)) ∧ dk cX12_fits 17 = some (.ireturn) ∧ dk cX12_fits 18 = some (.iload_n 3) ∧ dk cX12_fits 19 = some (.i2l) ∧ dk cX12_fits 20 = some (.lconst 0) ∧ dk cX12_fits 21 = some (.lconst 1) ∧ dk cX12_fits 22 = some (.invokestatic 143) ∧ cres 12 143 = some 152 ∧ pM 152 = 3 ∧ sM 152 = true) ∧ (dk cX12_fits 25 = some (.ifCond .eq 14) ∧ jok 25 14 = true ∧ jmp 25 14 = 39 ∧ dk cX12_fits 28 = some (.iload 4) ∧ dk cX12_fits 30 = some (.i2l) ∧ dk cX12_fits 31 = some (.lconst 0) ∧ dk cX12_fits 32 = some (.lconst 1) ∧ dk cX12_fits 33 = some (.invokestatic 143) ∧ dk cX12_fits 36 = some (.ifCond .ne 6) ∧ jok 36 6 = true) ∧ (jmp 36 6 = 42 ∧ dk cX12_fits 39 = some (.bipush (-2)) ∧ dk cX12_fits 41 = some (.ireturn) ∧ dk cX12_fits 42 = some (.aload_n 0) ∧ dk cX12_fits 43 = some (.getfield 28) ∧ fres 12 28 = some (12, 10, 0, true) ∧ dk cX12_fits 46 = some (.iload_n 2) ∧ dk cX12_fits 47 = some (.iaload) ∧ dk cX12_fits 48 = some (.ifCond .le 8) ∧ jok 48 8 = true) ∧ (jmp 48 8 = 56 ∧ dk cX12_fits 51 = some (.bipush (-3)) ∧ dk cX12_fits 53 = some (.goto 12) ∧ jok 53 12 = true ∧ jmp 53 12 = 65 ∧ dk cX12_fits 56 = some (.aload_n 0) ∧ dk cX12_fits 57 = some (.iload_n 1) ∧ dk cX12_fits 58 = some (.iload_n 2) ∧ dk cX12_fits 59 = some (.iload_n 3) ∧ dk cX12_fits 60 = some (.iload 4)) ∧ (dk cX12_fits 62 = some (.invokevirtual 254) ∧ cres 12 254 = some 189 ∧ pM 189 = 4 ∧ sM 189 = false ∧ oM 189 = 12 ∧ dk cX12_fits 65 = some (.ireturn)) := ⟨by decide +kernel, by decide +kernel, by decide +kernel, by decide +kernel, by decide +kernel, by decide +kernel, by decide +kernel⟩
set_option maxRecDepth 100000 in
theorem N_X12_fits : ((yM 186).name = "<init>") = False ∧ ((yM 176).name = "<init>") = False ∧ ((yM 189).name = "<init>") = False := by simp only [eq_iff_iff, iff_false, iff_true]; decide +kernel
set_option maxRecDepth 100000 in
theorem D_X12_isFound : (dk cX12_isFound 0 = some (.iconst 0) ∧ dk cX12_isFound 1 = some (.istore_n 3) ∧ dk cX12_isFound 2 = some (.iconst 0) ∧ dk cX12_isFound 3 = some (.istore 4) ∧ dk cX12_isFound 5 = some (.iload 4) ∧ dk cX12_isFound 7 = some (.aload_n 0) ∧ dk cX12_isFound 8 = some (.getfield 258) ∧ fres 12 258 = some (12, 21, 1, false) ∧ dk cX12_isFound 11 = some (.if_icmp .ge 41) ∧ jok 11 41 = true) ∧ (jmp 11 41 = 52 ∧ dk cX12_isFound 14 = some (.iload_n 3) ∧ dk cX12_isFound 15 = some (.ifCond .ne 25) ∧ jok 15 25 = true ∧ jmp 15 25 = 40 ∧ dk cX12_isFound 18 = some (.aload_n 0) ∧ dk cX12_isFound 19 = some (.getfield 58) ∧ fres 12 58 = some (12, 22, 0, true) ∧ dk cX12_isFound 22 = some (.iload 4) ∧ dk cX12_isFound 24 = some (.iaload)) ∧ (dk cX12_isFound 25 = some (.iload_n 1) ∧ dk cX12_isFound 26 = some (.if_icmp .ne 18) ∧ jok 26 18 = true ∧ jmp 26 18 = 44 ∧ dk cX12_isFound 29 = some (.aload_n 0) ∧ dk cX12_isFound 30 = some (.getfield 61) ∧ fres 12 61 = some (12, 23, 0, true) ∧ dk cX12_isFound 33 = some (.iload 4) ∧ dk cX12_isFound 35 = some (.iaload) ∧ dk cX12_isFound 36 = some (.iload_n 2)) ∧ (dk cX12_isFound 37 = some (.if_icmp .ne 7) ∧ jok 37 7 = true ∧ jmp 37 7 = 44 ∧ dk cX12_isFound 40 = some (.iconst 1) ∧ dk cX12_isFound 41 = some (.goto 4) ∧ jok 41 4 = true ∧ jmp 41 4 = 45 ∧ dk cX12_isFound 44 = some (.iconst 0) ∧ dk cX12_isFound 45 = some (.istore_n 3) ∧ dk cX12_isFound 46 = some (.iinc 4 1)) ∧ (dk cX12_isFound 49 = some (.goto (-44)) ∧ jok 49 (-44) = true ∧ jmp 49 (-44) = 5 ∧ dk cX12_isFound 52 = some (.iload_n 3) ∧ dk cX12_isFound 53 = some (.ireturn)) := ⟨by decide +kernel, by decide +kernel, by decide +kernel, by decide +kernel, by decide +kernel⟩
set_option maxRecDepth 100000 in
theorem D_X12_scan : (dk cX12_scan 0 = some (.iload_n 1) ∧ dk cX12_scan 1 = some (.invokestatic 210) ∧ cres 12 210 = some 159 ∧ pM 159 = 1 ∧ sM 159 = true ∧ dk cX12_scan 4 = some (.ifCond .ne 6) ∧ jok 4 6 = true ∧ jmp 4 6 = 10 ∧ dk cX12_scan 7 = some (.bipush (-2)) ∧ dk cX12_scan 9 = some (.ireturn)) ∧ (dk cX12_scan 10 = some (.aload_n 0) ∧ dk cX12_scan 11 = some (.getfield 258) ∧ fres 12 258 = some (12, 21, 1, false) ∧ dk cX12_scan 14 = some (.istore_n 2) ∧ dk cX12_scan 15 = some (.iconst 0) ∧ dk cX12_scan 16 = some (.istore_n 3) ∧ dk cX12_scan 17 = some (.iload_n 3) ∧ dk cX12_scan 18 = some (.aload_n 0) ∧ dk cX12_scan 19 = some (.getfield 199) ∧ fres 12 199 = some (12, 9, 1, false)) ∧ (dk cX12_scan 22 = some (.if_icmp .ge 140) ∧ jok 22 140 = true ∧ jmp 22 140 = 162 ∧ dk cX12_scan 25 = some (.iconst 0) ∧ dk cX12_scan 26 = some (.istore 4) ∧ dk cX12_scan 28 = some (.iload 4) ∧ dk cX12_scan 30 = some (.aload_n 0) ∧ dk cX12_scan 31 = some (.getfield 242) ∧ fres 12 242 = some (12, 18, 1, false) ∧ dk cX12_scan 34 = some (.if_icmp .ge 122)) ∧ (jok 34 122 = true ∧ jmp 34 122 = 156 ∧ dk cX12_scan 37 = some (.aload_n 0) ∧ dk cX12_scan 38 = some (.getfield 28) ∧ fres 12 28 = some (12, 10, 0, true) ∧ dk cX12_scan 41 = some (.iload_n 3) ∧ dk cX12_scan 42 = some (.iaload) ∧ dk cX12_scan 43 = some (.ifCond .ne 113) ∧ jok 43 113 = true ∧ jmp 43 113 = 156) ∧ (dk cX12_scan 46 = some (.aload_n 0) ∧ dk cX12_scan 47 = some (.iload 4) ∧ dk cX12_scan 49 = some (.iload_n 3) ∧ dk cX12_scan 50 = some (.iconst 0) ∧ dk cX12_scan 51 = some (.iconst 0) ∧ dk cX12_scan 52 = some (.invokevirtual 254) ∧ cres 12 254 = some 189 ∧ pM 189 = 4 ∧ sM 189 = false ∧ oM 189 = 12) ∧ (dk cX12_scan 55 = some (.aload_n 0) ∧ dk cX12_scan 56 = some (.iload 4) ∧ dk cX12_scan 58 = some (.iload_n 3) ∧ dk cX12_scan 59 = some (.iconst 1) ∧ dk cX12_scan 60 = some (.iconst 0) ∧ dk cX12_scan 61 = some (.invokevirtual 254) ∧ dk cX12_scan 64 = some (.iadd) ∧ dk cX12_scan 65 = some (.ifCond .le 7) ∧ jok 65 7 = true ∧ jmp 65 7 = 72) ∧ (dk cX12_scan 68 = some (.iconst 1) ∧ dk cX12_scan 69 = some (.goto 4) ∧ jok 69 4 = true ∧ jmp 69 4 = 73 ∧ dk cX12_scan 72 = some (.iconst 0) ∧ dk cX12_scan 73 = some (.istore 5) ∧ dk cX12_scan 75 = some (.iload 5) ∧ dk cX12_scan 77 = some (.ifCond .eq 73) ∧ jok 77 73 = true ∧ jmp 77 73 = 150) ∧ (dk cX12_scan 80 = some (.aload_n 0) ∧ dk cX12_scan 81 = some (.iload 4) ∧ dk cX12_scan 83 = some (.iload_n 3) ∧ dk cX12_scan 84 = some (.invokevirtual 261) ∧ cres 12 261 = some 191 ∧ pM 191 = 2 ∧ sM 191 = false ∧ oM 191 = 12 ∧ dk cX12_scan 87 = some (.ifCond .ne 63) ∧ jok 87 63 = true) ∧ (jmp 87 63 = 150 ∧ dk cX12_scan 90 = some (.aload_n 0) ∧ dk cX12_scan 91 = some (.getfield 258) ∧ dk cX12_scan 94 = some (.bipush 40) ∧ dk cX12_scan 96 = some (.if_icmp .ge 54) ∧ jok 96 54 = true ∧ jmp 96 54 = 150 ∧ dk cX12_scan 99 = some (.aload_n 0) ∧ dk cX12_scan 100 = some (.getfield 58) ∧ fres 12 58 = some (12, 22, 0, true)) ∧ (dk cX12_scan 103 = some (.aload_n 0) ∧ dk cX12_scan 104 = some (.getfield 258) ∧ dk cX12_scan 107 = some (.iload 4) ∧ dk cX12_scan 109 = some (.iastore) ∧ dk cX12_scan 110 = some (.aload_n 0) ∧ dk cX12_scan 111 = some (.getfield 61) ∧ fres 12 61 = some (12, 23, 0, true) ∧ dk cX12_scan 114 = some (.aload_n 0) ∧ dk cX12_scan 115 = some (.getfield 258) ∧ dk cX12_scan 118 = some (.iload_n 3)) ∧ (dk cX12_scan 119 = some (.iastore) ∧ dk cX12_scan 120 = some (.aload_n 0) ∧ dk cX12_scan 121 = some (.getfield 64) ∧ fres 12 64 = some (12, 24, 0, true) ∧ dk cX12_scan 124 = some (.aload_n 0) ∧ dk cX12_scan 125 = some (.getfield 258) ∧ dk cX12_scan 128 = some (.iload_n 1) ∧ dk cX12_scan 129 = some (.iastore) ∧ dk cX12_scan 130 = some (.aload_n 0) ∧ dk cX12_scan 131 = some (.getfield 67)) ∧ (fres 12 67 = some (12, 25, 0, true) ∧ dk cX12_scan 134 = some (.aload_n 0) ∧ dk cX12_scan 135 = some (.getfield 258) ∧ dk cX12_scan 138 = some (.iconst 0) ∧ dk cX12_scan 139 = some (.iastore) ∧ dk cX12_scan 140 = some (.aload_n 0) ∧ dk cX12_scan 141 = some (.dup) ∧ dk cX12_scan 142 = some (.getfield 258) ∧ dk cX12_scan 145 = some (.iconst 1) ∧ dk cX12_scan 146 = some (.iadd)) ∧ (dk cX12_scan 147 = some (.putfield 258) ∧ isBo (tyN 12 21) = false ∧ dk cX12_scan 150 = some (.iinc 4 1) ∧ dk cX12_scan 153 = some (.goto (-125)) ∧ jok 153 (-125) = true ∧ jmp 153 (-125) = 28 ∧ dk cX12_scan 156 = some (.iinc 3 1) ∧ dk cX12_scan 159 = some (.goto (-142)) ∧ jok 159 (-142) = true ∧ jmp 159 (-142) = 17) ∧ (dk cX12_scan 162 = some (.aload_n 0) ∧ dk cX12_scan 163 = some (.getfield 258) ∧ dk cX12_scan 166 = some (.iload_n 2) ∧ dk cX12_scan 167 = some (.isub) ∧ dk cX12_scan 168 = some (.ireturn)) := ⟨by decide +kernel, by decide +kernel, by decide +kernel, by decide +kernel, by decide +kernel, by decide +kernel, by decide +kernel, by decide +kernel, by decide +kernel, by decide +kernel, by decide +kernel, by decide +kernel, by decide +kernel, by decide +kernel⟩
set_option maxRecDepth 100000 in
theorem N_X12_scan : ((yM 189).name = "<init>") = False ∧ ((yM 191).name = "<init>") = False := by simp only [eq_iff_iff, iff_false, iff_true]; decide +kernel
set_option maxRecDepth 100000 in
theorem D_X12_finding : (dk cX12_finding 0 = some (.iload_n 1) ∧ dk cX12_finding 1 = some (.i2l) ∧ dk cX12_finding 2 = some (.lconst 0) ∧ dk cX12_finding 3 = some (.aload_n 0) ∧ dk cX12_finding 4 = some (.getfield 258) ∧ fres 12 258 = some (12, 21, 1, false) ∧ dk cX12_finding 7 = some (.i2l) ∧ dk cX12_finding 8 = some (.lconst 1) ∧ dk cX12_finding 9 = some (.lsub) ∧ dk cX12_finding 10 = some (.invokestatic 143)) ∧ (cres 12 143 = some 152 ∧ pM 152 = 3 ∧ sM 152 = true ∧ dk cX12_finding 13 = some (.ifCond .ne 5) ∧ jok 13 5 = true ∧ jmp 13 5 = 18 ∧ dk cX12_finding 16 = some (.iconst (-1)) ∧ dk cX12_finding 17 = some (.ireturn) ∧ dk cX12_finding 18 = some (.iload_n 2) ∧ dk cX12_finding 19 = some (.tableswitch 57 0 3 #[29, 36, 43, 50])) ∧ (jok 19 57 = true ∧ jmp 19 57 = 76 ∧ jok 19 29 = true ∧ jmp 19 29 = 48 ∧ jok 19 36 = true ∧ jmp 19 36 = 55 ∧ jok 19 43 = true ∧ jmp 19 43 = 62 ∧ jok 19 50 = true ∧ jmp 19 50 = 69) ∧ (dk cX12_finding 48 = some (.aload_n 0) ∧ dk cX12_finding 49 = some (.getfield 58) ∧ fres 12 58 = some (12, 22, 0, true) ∧ dk cX12_finding 52 = some (.iload_n 1) ∧ dk cX12_finding 53 = some (.iaload) ∧ dk cX12_finding 54 = some (.ireturn) ∧ dk cX12_finding 55 = some (.aload_n 0) ∧ dk cX12_finding 56 = some (.getfield 61) ∧ fres 12 61 = some (12, 23, 0, true) ∧ dk cX12_finding 59 = some (.iload_n 1)) ∧ (dk cX12_finding 60 = some (.iaload) ∧ dk cX12_finding 61 = some (.ireturn) ∧ dk cX12_finding 62 = some (.aload_n 0) ∧ dk cX12_finding 63 = some (.getfield 64) ∧ fres 12 64 = some (12, 24, 0, true) ∧ dk cX12_finding 66 = some (.iload_n 1) ∧ dk cX12_finding 67 = some (.iaload) ∧ dk cX12_finding 68 = some (.ireturn) ∧ dk cX12_finding 69 = some (.aload_n 0) ∧ dk cX12_finding 70 = some (.getfield 67)) ∧ (fres 12 67 = some (12, 25, 0, true) ∧ dk cX12_finding 73 = some (.iload_n 1) ∧ dk cX12_finding 74 = some (.iaload) ∧ dk cX12_finding 75 = some (.ireturn) ∧ dk cX12_finding 76 = some (.bipush (-2)) ∧ dk cX12_finding 78 = some (.ireturn)) := ⟨by decide +kernel, by decide +kernel, by decide +kernel, by decide +kernel, by decide +kernel, by decide +kernel⟩
set_option maxRecDepth 100000 in
theorem D_X12_clear : (dk cX12_clear 0 = some (.iload_n 1) ∧ dk cX12_clear 1 = some (.i2l) ∧ dk cX12_clear 2 = some (.lconst 0) ∧ dk cX12_clear 3 = some (.aload_n 0) ∧ dk cX12_clear 4 = some (.getfield 258) ∧ fres 12 258 = some (12, 21, 1, false) ∧ dk cX12_clear 7 = some (.i2l) ∧ dk cX12_clear 8 = some (.lconst 1) ∧ dk cX12_clear 9 = some (.lsub) ∧ dk cX12_clear 10 = some (.invokestatic 143)) ∧ (cres 12 143 = some 152 ∧ pM 152 = 3 ∧ sM 152 = true ∧ dk cX12_clear 13 = some (.ifCond .ne 5) ∧ jok 13 5 = true ∧ jmp 13 5 = 18 ∧ dk cX12_clear 16 = some (.iconst (-1)) ∧ dk cX12_clear 17 = some (.ireturn) ∧ dk cX12_clear 18 = some (.iload_n 2) ∧ dk cX12_clear 19 = some (.i2l)) ∧ (dk cX12_clear 20 = some (.lconst 0) ∧ dk cX12_clear 21 = some (.ldc2_w 154) ∧ lres 12 154 = some (2) ∧ dk cX12_clear 24 = some (.invokestatic 143) ∧ dk cX12_clear 27 = some (.ifCond .ne 6) ∧ jok 27 6 = true ∧ jmp 27 6 = 33 ∧ dk cX12_clear 30 = some (.bipush (-2)) ∧ dk cX12_clear 32 = some (.ireturn) ∧ dk cX12_clear 33 = some (.aload_n 0)) ∧ (dk cX12_clear 34 = some (.getfield 67) ∧ fres 12 67 = some (12, 25, 0, true) ∧ dk cX12_clear 37 = some (.iload_n 1) ∧ dk cX12_clear 38 = some (.iaload) ∧ dk cX12_clear 39 = some (.istore_n 3) ∧ dk cX12_clear 40 = some (.aload_n 0) ∧ dk cX12_clear 41 = some (.getfield 67) ∧ dk cX12_clear 44 = some (.iload_n 1) ∧ dk cX12_clear 45 = some (.iload_n 2) ∧ dk cX12_clear 46 = some (.iastore)) ∧ (dk cX12_clear 47 = some (.iload_n 3) ∧ dk cX12_clear 48 = some (.ireturn)) := ⟨by decide +kernel, by decide +kernel, by decide +kernel, by decide +kernel, by decide +kernel⟩
set_option maxRecDepth 100000 in
theorem D_X12_nothing : (dk cX12_nothing 0 = some (.aload_n 0) ∧ dk cX12_nothing 1 = some (.iload_n 1) ∧ dk cX12_nothing 2 = some (.invokevirtual 251) ∧ cres 12 251 = some 186 ∧ pM 186 = 1 ∧ sM 186 = false ∧ oM 186 = 12 ∧ dk cX12_nothing 5 = some (.ifCond .ne 13) ∧ jok 5 13 = true ∧ jmp 5 13 = 18) ∧ (dk cX12_nothing 8 = some (.iload_n 2) ∧ dk cX12_nothing 9 = some (.i2l) ∧ dk cX12_nothing 10 = some (.lconst 0) ∧ dk cX12_nothing 11 = some (.lconst 1) ∧ dk cX12_nothing 12 = some (.invokestatic 143) ∧ cres 12 143 = some 152 ∧ pM 152 = 3 ∧ sM 152 = true ∧ dk cX12_nothing 15 = some (.ifCond .ne 7) ∧ jok 15 7 = true) ∧ (jmp 15 7 = 22 ∧ dk cX12_nothing 18 = some (.invokestatic 150) ∧ cres 12 150 = some 153 ∧ pM 153 = 0 ∧ sM 153 = true ∧ dk cX12_nothing 21 = some (.lreturn) ∧ dk cX12_nothing 22 = some (.iconst 0) ∧ dk cX12_nothing 23 = some (.istore_n 3) ∧ dk cX12_nothing 24 = some (.iconst 0) ∧ dk cX12_nothing 25 = some (.istore 4)) ∧ (dk cX12_nothing 27 = some (.iconst 0) ∧ dk cX12_nothing 28 = some (.istore 5) ∧ dk cX12_nothing 30 = some (.iload 5) ∧ dk cX12_nothing 32 = some (.aload_n 0) ∧ dk cX12_nothing 33 = some (.getfield 258) ∧ fres 12 258 = some (12, 21, 1, false) ∧ dk cX12_nothing 36 = some (.if_icmp .ge 70) ∧ jok 36 70 = true ∧ jmp 36 70 = 106 ∧ dk cX12_nothing 39 = some (.iload_n 3)) ∧ (dk cX12_nothing 40 = some (.aload_n 0) ∧ dk cX12_nothing 41 = some (.getfield 58) ∧ fres 12 58 = some (12, 22, 0, true) ∧ dk cX12_nothing 44 = some (.iload 5) ∧ dk cX12_nothing 46 = some (.iaload) ∧ dk cX12_nothing 47 = some (.iload_n 1) ∧ dk cX12_nothing 48 = some (.if_icmp .ne 18) ∧ jok 48 18 = true ∧ jmp 48 18 = 66 ∧ dk cX12_nothing 51 = some (.aload_n 0)) ∧ (dk cX12_nothing 52 = some (.getfield 67) ∧ fres 12 67 = some (12, 25, 0, true) ∧ dk cX12_nothing 55 = some (.iload 5) ∧ dk cX12_nothing 57 = some (.iaload) ∧ dk cX12_nothing 58 = some (.iconst 1) ∧ dk cX12_nothing 59 = some (.if_icmp .ne 7) ∧ jok 59 7 = true ∧ jmp 59 7 = 66 ∧ dk cX12_nothing 62 = some (.iconst 1) ∧ dk cX12_nothing 63 = some (.goto 4)) ∧ (jok 63 4 = true ∧ jmp 63 4 = 67 ∧ dk cX12_nothing 66 = some (.iconst 0) ∧ dk cX12_nothing 67 = some (.iadd) ∧ dk cX12_nothing 68 = some (.istore_n 3) ∧ dk cX12_nothing 69 = some (.iload 4) ∧ dk cX12_nothing 71 = some (.aload_n 0) ∧ dk cX12_nothing 72 = some (.getfield 58) ∧ dk cX12_nothing 75 = some (.iload 5) ∧ dk cX12_nothing 77 = some (.iaload)) ∧ (dk cX12_nothing 78 = some (.iload_n 1) ∧ dk cX12_nothing 79 = some (.if_icmp .ne 17) ∧ jok 79 17 = true ∧ jmp 79 17 = 96 ∧ dk cX12_nothing 82 = some (.aload_n 0) ∧ dk cX12_nothing 83 = some (.getfield 67) ∧ dk cX12_nothing 86 = some (.iload 5) ∧ dk cX12_nothing 88 = some (.iaload) ∧ dk cX12_nothing 89 = some (.ifCond .le 7) ∧ jok 89 7 = true) ∧ (jmp 89 7 = 96 ∧ dk cX12_nothing 92 = some (.iconst 1) ∧ dk cX12_nothing 93 = some (.goto 4) ∧ jok 93 4 = true ∧ jmp 93 4 = 97 ∧ dk cX12_nothing 96 = some (.iconst 0) ∧ dk cX12_nothing 97 = some (.iadd) ∧ dk cX12_nothing 98 = some (.istore 4) ∧ dk cX12_nothing 100 = some (.iinc 5 1) ∧ dk cX12_nothing 103 = some (.goto (-73))) ∧ (jok 103 (-73) = true ∧ jmp 103 (-73) = 30 ∧ dk cX12_nothing 106 = some (.iload 4) ∧ dk cX12_nothing 108 = some (.ifCond .ne 9) ∧ jok 108 9 = true ∧ jmp 108 9 = 117 ∧ dk cX12_nothing 111 = some (.invokestatic 150) ∧ dk cX12_nothing 114 = some (.goto 12) ∧ jok 114 12 = true ∧ jmp 114 12 = 126) ∧ (dk cX12_nothing 117 = some (.iload_n 3) ∧ dk cX12_nothing 118 = some (.i2l) ∧ dk cX12_nothing 119 = some (.iload 4) ∧ dk cX12_nothing 121 = some (.i2l) ∧ dk cX12_nothing 122 = some (.iload_n 2) ∧ dk cX12_nothing 123 = some (.invokestatic 264) ∧ cres 12 264 = some 158 ∧ pM 158 = 3 ∧ sM 158 = true ∧ dk cX12_nothing 126 = some (.lreturn)) := ⟨by decide +kernel, by decide +kernel, by decide +kernel, by decide +kernel, by decide +kernel, by decide +kernel, by decide +kernel, by decide +kernel, by decide +kernel, by decide +kernel, by decide +kernel⟩
set_option maxRecDepth 100000 in
theorem N_X12_nothing : ((yM 186).name = "<init>") = False := by simp only [eq_iff_iff, iff_false, iff_true]; decide +kernel
set_option maxRecDepth 100000 in
theorem D_X12_readChain : (dk cX12_readChain 0 = some (.aload_n 0) ∧ dk cX12_readChain 1 = some (.iconst 0) ∧ dk cX12_readChain 2 = some (.putfield 268) ∧ fres 12 268 = some (12, 26, 1, false) ∧ isBo (tyN 12 26) = false ∧ dk cX12_readChain 5 = some (.aload_n 0) ∧ dk cX12_readChain 6 = some (.iconst 0) ∧ dk cX12_readChain 7 = some (.putfield 271) ∧ fres 12 271 = some (12, 28, 1, false) ∧ isBo (tyN 12 28) = false) ∧ (dk cX12_readChain 10 = some (.iconst 0) ∧ dk cX12_readChain 11 = some (.istore_n 3) ∧ dk cX12_readChain 12 = some (.iconst 0) ∧ dk cX12_readChain 13 = some (.istore 4) ∧ dk cX12_readChain 15 = some (.iload 4) ∧ dk cX12_readChain 17 = some (.iload_n 2) ∧ dk cX12_readChain 18 = some (.if_icmp .ge 167) ∧ jok 18 167 = true ∧ jmp 18 167 = 185 ∧ dk cX12_readChain 21 = some (.aload_n 0)) ∧ (dk cX12_readChain 22 = some (.getfield 125) ∧ fres 12 125 = some (12, 52, 0, true) ∧ dk cX12_readChain 25 = some (.iload_n 1) ∧ dk cX12_readChain 26 = some (.iload 4) ∧ dk cX12_readChain 28 = some (.iadd) ∧ dk cX12_readChain 29 = some (.iaload) ∧ dk cX12_readChain 30 = some (.istore 5) ∧ dk cX12_readChain 32 = some (.iload 5) ∧ dk cX12_readChain 34 = some (.i2l) ∧ dk cX12_readChain 35 = some (.ldc2_w 274)) ∧ (lres 12 274 = some (48) ∧ dk cX12_readChain 38 = some (.ldc2_w 276) ∧ lres 12 276 = some (57) ∧ dk cX12_readChain 41 = some (.invokestatic 143) ∧ cres 12 143 = some 152 ∧ pM 152 = 3 ∧ sM 152 = true ∧ dk cX12_readChain 44 = some (.istore 6) ∧ dk cX12_readChain 46 = some (.iload_n 3) ∧ dk cX12_readChain 47 = some (.ifCond .ne 49)) ∧ (jok 47 49 = true ∧ jmp 47 49 = 96 ∧ dk cX12_readChain 50 = some (.iload 6) ∧ dk cX12_readChain 52 = some (.ifCond .eq 44) ∧ jok 52 44 = true ∧ jmp 52 44 = 96 ∧ dk cX12_readChain 55 = some (.aload_n 0) ∧ dk cX12_readChain 56 = some (.iload 5) ∧ dk cX12_readChain 58 = some (.bipush 48) ∧ dk cX12_readChain 60 = some (.isub)) ∧ (dk cX12_readChain 61 = some (.invokevirtual 251) ∧ cres 12 251 = some 186 ∧ pM 186 = 1 ∧ sM 186 = false ∧ oM 186 = 12 ∧ dk cX12_readChain 64 = some (.ifCond .ne 32) ∧ jok 64 32 = true ∧ jmp 64 32 = 96 ∧ dk cX12_readChain 67 = some (.aload_n 0) ∧ dk cX12_readChain 68 = some (.getfield 70)) ∧ (fres 12 70 = some (12, 27, 0, true) ∧ dk cX12_readChain 71 = some (.aload_n 0) ∧ dk cX12_readChain 72 = some (.getfield 268) ∧ dk cX12_readChain 75 = some (.iload 5) ∧ dk cX12_readChain 77 = some (.bipush 48) ∧ dk cX12_readChain 79 = some (.isub) ∧ dk cX12_readChain 80 = some (.iastore) ∧ dk cX12_readChain 81 = some (.aload_n 0) ∧ dk cX12_readChain 82 = some (.dup) ∧ dk cX12_readChain 83 = some (.getfield 268)) ∧ (dk cX12_readChain 86 = some (.iconst 1) ∧ dk cX12_readChain 87 = some (.iadd) ∧ dk cX12_readChain 88 = some (.putfield 268) ∧ dk cX12_readChain 91 = some (.iconst 1) ∧ dk cX12_readChain 92 = some (.istore_n 3) ∧ dk cX12_readChain 93 = some (.goto 86) ∧ jok 93 86 = true ∧ jmp 93 86 = 179 ∧ dk cX12_readChain 96 = some (.iload_n 3) ∧ dk cX12_readChain 97 = some (.iconst 1)) ∧ (dk cX12_readChain 98 = some (.if_icmp .ne 23) ∧ jok 98 23 = true ∧ jmp 98 23 = 121 ∧ dk cX12_readChain 101 = some (.iload 5) ∧ dk cX12_readChain 103 = some (.bipush 44) ∧ dk cX12_readChain 105 = some (.if_icmp .ne 16) ∧ jok 105 16 = true ∧ jmp 105 16 = 121 ∧ dk cX12_readChain 108 = some (.aload_n 0) ∧ dk cX12_readChain 109 = some (.getfield 268)) ∧ (dk cX12_readChain 112 = some (.iconst 5) ∧ dk cX12_readChain 113 = some (.if_icmp .ge 8) ∧ jok 113 8 = true ∧ jmp 113 8 = 121 ∧ dk cX12_readChain 116 = some (.iconst 0) ∧ dk cX12_readChain 117 = some (.istore_n 3) ∧ dk cX12_readChain 118 = some (.goto 61) ∧ jok 118 61 = true ∧ jmp 118 61 = 179 ∧ dk cX12_readChain 121 = some (.iload_n 3)) ∧ (dk cX12_readChain 122 = some (.iconst 1) ∧ dk cX12_readChain 123 = some (.if_icmp .ne 15) ∧ jok 123 15 = true ∧ jmp 123 15 = 138 ∧ dk cX12_readChain 126 = some (.iload 5) ∧ dk cX12_readChain 128 = some (.bipush 64) ∧ dk cX12_readChain 130 = some (.if_icmp .ne 8) ∧ jok 130 8 = true ∧ jmp 130 8 = 138 ∧ dk cX12_readChain 133 = some (.iconst 2)) ∧ (dk cX12_readChain 134 = some (.istore_n 3) ∧ dk cX12_readChain 135 = some (.goto 44) ∧ jok 135 44 = true ∧ jmp 135 44 = 179 ∧ dk cX12_readChain 138 = some (.iload_n 3) ∧ dk cX12_readChain 139 = some (.iconst 2) ∧ dk cX12_readChain 140 = some (.if_icmp .lt 36) ∧ jok 140 36 = true ∧ jmp 140 36 = 176 ∧ dk cX12_readChain 143 = some (.iload_n 3)) ∧ (dk cX12_readChain 144 = some (.iconst 5) ∧ dk cX12_readChain 145 = some (.if_icmp .ge 31) ∧ jok 145 31 = true ∧ jmp 145 31 = 176 ∧ dk cX12_readChain 148 = some (.iload 6) ∧ dk cX12_readChain 150 = some (.ifCond .eq 26) ∧ jok 150 26 = true ∧ jmp 150 26 = 176 ∧ dk cX12_readChain 153 = some (.aload_n 0) ∧ dk cX12_readChain 154 = some (.bipush 10)) ∧ (dk cX12_readChain 156 = some (.aload_n 0) ∧ dk cX12_readChain 157 = some (.getfield 271) ∧ dk cX12_readChain 160 = some (.imul) ∧ dk cX12_readChain 161 = some (.iload 5) ∧ dk cX12_readChain 163 = some (.iadd) ∧ dk cX12_readChain 164 = some (.bipush 48) ∧ dk cX12_readChain 166 = some (.isub) ∧ dk cX12_readChain 167 = some (.putfield 271) ∧ dk cX12_readChain 170 = some (.iinc 3 1) ∧ dk cX12_readChain 173 = some (.goto 6)) ∧ (jok 173 6 = true ∧ jmp 173 6 = 179 ∧ dk cX12_readChain 176 = some (.iload 4) ∧ dk cX12_readChain 178 = some (.ireturn) ∧ dk cX12_readChain 179 = some (.iinc 4 1) ∧ dk cX12_readChain 182 = some (.goto (-167)) ∧ jok 182 (-167) = true ∧ jmp 182 (-167) = 15 ∧ dk cX12_readChain 185 = some (.iload_n 3) ∧ dk cX12_readChain 186 = some (.iconst 2)) ∧ (dk cX12_readChain 187 = some (.if_icmp .le 7) ∧ jok 187 7 = true ∧ jmp 187 7 = 194 ∧ dk cX12_readChain 190 = some (.iconst (-1)) ∧ dk cX12_readChain 191 = some (.goto 4) ∧ jok 191 4 = true ∧ jmp 191 4 = 195 ∧ dk cX12_readChain 194 = some (.iload_n 2) ∧ dk cX12_readChain 195 = some (.ireturn)) := ⟨by decide +kernel, by decide +kernel, by decide +kernel, by decide +kernel, by decide +kernel, by decide +kernel, by decide +kernel, by decide +kernel, by decide +kernel, by decide +kernel, by decide +kernel, by decide +kernel, by decide +kernel, by decide +kernel, by decide +kernel, by decide +kernel⟩
set_option maxRecDepth 100000 in
theorem N_X12_readChain : ((yM 186).name = "<init>") = False := by simp only [eq_iff_iff, iff_false, iff_true]; decide +kernel
set_option maxRecDepth 100000 in
theorem D_X12_findAfter : (dk cX12_findAfter 0 = some (.bipush (-9)) ∧ dk cX12_findAfter 2 = some (.istore 4) ∧ dk cX12_findAfter 4 = some (.iconst 0) ∧ dk cX12_findAfter 5 = some (.istore 5) ∧ dk cX12_findAfter 7 = some (.iload 5) ∧ dk cX12_findAfter 9 = some (.aload_n 0) ∧ dk cX12_findAfter 10 = some (.getfield 258) ∧ fres 12 258 = some (12, 21, 1, false) ∧ dk cX12_findAfter 13 = some (.if_icmp .ge 115) ∧ jok 13 115 = true) ∧ (jmp 13 115 = 128 ∧ dk cX12_findAfter 16 = some (.aload_n 0) ∧ dk cX12_findAfter 17 = some (.getfield 58) ∧ fres 12 58 = some (12, 22, 0, true) ∧ dk cX12_findAfter 20 = some (.iload 5) ∧ dk cX12_findAfter 22 = some (.iaload) ∧ dk cX12_findAfter 23 = some (.iload_n 2) ∧ dk cX12_findAfter 24 = some (.if_icmp .ne 59) ∧ jok 24 59 = true ∧ jmp 24 59 = 83) ∧ (dk cX12_findAfter 27 = some (.aload_n 0) ∧ dk cX12_findAfter 28 = some (.getfield 67) ∧ fres 12 67 = some (12, 25, 0, true) ∧ dk cX12_findAfter 31 = some (.iload 5) ∧ dk cX12_findAfter 33 = some (.iaload) ∧ dk cX12_findAfter 34 = some (.iconst 1) ∧ dk cX12_findAfter 35 = some (.if_icmp .eq 48) ∧ jok 35 48 = true ∧ jmp 35 48 = 83 ∧ dk cX12_findAfter 38 = some (.aload_n 0)) ∧ (dk cX12_findAfter 39 = some (.getfield 31) ∧ fres 12 31 = some (12, 11, 0, true) ∧ dk cX12_findAfter 42 = some (.aload_n 0) ∧ dk cX12_findAfter 43 = some (.getfield 61) ∧ fres 12 61 = some (12, 23, 0, true) ∧ dk cX12_findAfter 46 = some (.iload 5) ∧ dk cX12_findAfter 48 = some (.iaload) ∧ dk cX12_findAfter 49 = some (.iaload) ∧ dk cX12_findAfter 50 = some (.iload_n 1) ∧ dk cX12_findAfter 51 = some (.if_icmp .ne 32)) ∧ (jok 51 32 = true ∧ jmp 51 32 = 83 ∧ dk cX12_findAfter 54 = some (.aload_n 0) ∧ dk cX12_findAfter 55 = some (.getfield 64) ∧ fres 12 64 = some (12, 24, 0, true) ∧ dk cX12_findAfter 58 = some (.iload 5) ∧ dk cX12_findAfter 60 = some (.iaload) ∧ dk cX12_findAfter 61 = some (.iload_n 3) ∧ dk cX12_findAfter 62 = some (.if_icmp .lt 21) ∧ jok 62 21 = true) ∧ (jmp 62 21 = 83 ∧ dk cX12_findAfter 65 = some (.aload_n 0) ∧ dk cX12_findAfter 66 = some (.getfield 278) ∧ fres 12 278 = some (12, 29, 2, false) ∧ dk cX12_findAfter 69 = some (.iload 5) ∧ dk cX12_findAfter 71 = some (.lshr) ∧ dk cX12_findAfter 72 = some (.lconst 1) ∧ dk cX12_findAfter 73 = some (.land) ∧ dk cX12_findAfter 74 = some (.lconst 0) ∧ dk cX12_findAfter 75 = some (.lcmp)) ∧ (dk cX12_findAfter 76 = some (.ifCond .ne 7) ∧ jok 76 7 = true ∧ jmp 76 7 = 83 ∧ dk cX12_findAfter 79 = some (.iconst 1) ∧ dk cX12_findAfter 80 = some (.goto 4) ∧ jok 80 4 = true ∧ jmp 80 4 = 84 ∧ dk cX12_findAfter 83 = some (.iconst 0) ∧ dk cX12_findAfter 84 = some (.istore 6) ∧ dk cX12_findAfter 86 = some (.iload 6)) ∧ (dk cX12_findAfter 88 = some (.ifCond .eq 30) ∧ jok 88 30 = true ∧ jmp 88 30 = 118 ∧ dk cX12_findAfter 91 = some (.iload 4) ∧ dk cX12_findAfter 93 = some (.ifCond .lt 20) ∧ jok 93 20 = true ∧ jmp 93 20 = 113 ∧ dk cX12_findAfter 96 = some (.aload_n 0) ∧ dk cX12_findAfter 97 = some (.getfield 64) ∧ dk cX12_findAfter 100 = some (.iload 5)) ∧ (dk cX12_findAfter 102 = some (.iaload) ∧ dk cX12_findAfter 103 = some (.aload_n 0) ∧ dk cX12_findAfter 104 = some (.getfield 64) ∧ dk cX12_findAfter 107 = some (.iload 4) ∧ dk cX12_findAfter 109 = some (.iaload) ∧ dk cX12_findAfter 110 = some (.if_icmp .ge 8) ∧ jok 110 8 = true ∧ jmp 110 8 = 118 ∧ dk cX12_findAfter 113 = some (.iload 5) ∧ dk cX12_findAfter 115 = some (.goto 5)) ∧ (jok 115 5 = true ∧ jmp 115 5 = 120 ∧ dk cX12_findAfter 118 = some (.iload 4) ∧ dk cX12_findAfter 120 = some (.istore 4) ∧ dk cX12_findAfter 122 = some (.iinc 5 1) ∧ dk cX12_findAfter 125 = some (.goto (-118)) ∧ jok 125 (-118) = true ∧ jmp 125 (-118) = 7 ∧ dk cX12_findAfter 128 = some (.iload 4) ∧ dk cX12_findAfter 130 = some (.ireturn)) := ⟨by decide +kernel, by decide +kernel, by decide +kernel, by decide +kernel, by decide +kernel, by decide +kernel, by decide +kernel, by decide +kernel, by decide +kernel, by decide +kernel⟩
set_option maxRecDepth 100000 in
theorem D_X12_hasFrom : (dk cX12_hasFrom 0 = some (.aload_n 0) ∧ dk cX12_hasFrom 1 = some (.lconst 1) ∧ dk cX12_hasFrom 2 = some (.iload_n 2) ∧ dk cX12_hasFrom 3 = some (.lshl) ∧ dk cX12_hasFrom 4 = some (.putfield 278) ∧ fres 12 278 = some (12, 29, 2, false) ∧ dk cX12_hasFrom 7 = some (.aload_n 0) ∧ dk cX12_hasFrom 8 = some (.getfield 64) ∧ fres 12 64 = some (12, 24, 0, true) ∧ dk cX12_hasFrom 11 = some (.iload_n 2)) ∧ (dk cX12_hasFrom 12 = some (.iaload) ∧ dk cX12_hasFrom 13 = some (.istore_n 3) ∧ dk cX12_hasFrom 14 = some (.iconst 1) ∧ dk cX12_hasFrom 15 = some (.istore 4) ∧ dk cX12_hasFrom 17 = some (.iload 4) ∧ dk cX12_hasFrom 19 = some (.aload_n 0) ∧ dk cX12_hasFrom 20 = some (.getfield 268) ∧ fres 12 268 = some (12, 26, 1, false) ∧ dk cX12_hasFrom 23 = some (.if_icmp .ge 52) ∧ jok 23 52 = true) ∧ (jmp 23 52 = 75 ∧ dk cX12_hasFrom 26 = some (.aload_n 0) ∧ dk cX12_hasFrom 27 = some (.iload_n 1) ∧ dk cX12_hasFrom 28 = some (.aload_n 0) ∧ dk cX12_hasFrom 29 = some (.getfield 70) ∧ fres 12 70 = some (12, 27, 0, true) ∧ dk cX12_hasFrom 32 = some (.iload 4) ∧ dk cX12_hasFrom 34 = some (.iaload) ∧ dk cX12_hasFrom 35 = some (.iload_n 3) ∧ dk cX12_hasFrom 36 = some (.invokevirtual 282)) ∧ (cres 12 282 = some 197 ∧ pM 197 = 3 ∧ sM 197 = false ∧ oM 197 = 12 ∧ dk cX12_hasFrom 39 = some (.istore 5) ∧ dk cX12_hasFrom 41 = some (.iload 5) ∧ dk cX12_hasFrom 43 = some (.ifCond .ge 5) ∧ jok 43 5 = true ∧ jmp 43 5 = 48 ∧ dk cX12_hasFrom 46 = some (.iconst 0)) ∧ (dk cX12_hasFrom 47 = some (.ireturn) ∧ dk cX12_hasFrom 48 = some (.aload_n 0) ∧ dk cX12_hasFrom 49 = some (.dup) ∧ dk cX12_hasFrom 50 = some (.getfield 278) ∧ dk cX12_hasFrom 53 = some (.lconst 1) ∧ dk cX12_hasFrom 54 = some (.iload 5) ∧ dk cX12_hasFrom 56 = some (.lshl) ∧ dk cX12_hasFrom 57 = some (.lor) ∧ dk cX12_hasFrom 58 = some (.putfield 278) ∧ dk cX12_hasFrom 61 = some (.aload_n 0)) ∧ (dk cX12_hasFrom 62 = some (.getfield 64) ∧ dk cX12_hasFrom 65 = some (.iload 5) ∧ dk cX12_hasFrom 67 = some (.iaload) ∧ dk cX12_hasFrom 68 = some (.istore_n 3) ∧ dk cX12_hasFrom 69 = some (.iinc 4 1) ∧ dk cX12_hasFrom 72 = some (.goto (-55)) ∧ jok 72 (-55) = true ∧ jmp 72 (-55) = 17 ∧ dk cX12_hasFrom 75 = some (.iload_n 3) ∧ dk cX12_hasFrom 76 = some (.aload_n 0)) ∧ (dk cX12_hasFrom 77 = some (.getfield 64) ∧ dk cX12_hasFrom 80 = some (.iload_n 2) ∧ dk cX12_hasFrom 81 = some (.iaload) ∧ dk cX12_hasFrom 82 = some (.isub) ∧ dk cX12_hasFrom 83 = some (.aload_n 0) ∧ dk cX12_hasFrom 84 = some (.getfield 271) ∧ fres 12 271 = some (12, 28, 1, false) ∧ dk cX12_hasFrom 87 = some (.if_icmp .gt 7) ∧ jok 87 7 = true ∧ jmp 87 7 = 94) ∧ (dk cX12_hasFrom 90 = some (.iconst 1) ∧ dk cX12_hasFrom 91 = some (.goto 4) ∧ jok 91 4 = true ∧ jmp 91 4 = 95 ∧ dk cX12_hasFrom 94 = some (.iconst 0) ∧ dk cX12_hasFrom 95 = some (.ireturn)) := ⟨by decide +kernel, by decide +kernel, by decide +kernel, by decide +kernel, by decide +kernel, by decide +kernel, by decide +kernel, by decide +kernel⟩
set_option maxRecDepth 100000 in
theorem N_X12_hasFrom : ((yM 197).name = "<init>") = False := by simp only [eq_iff_iff, iff_false, iff_true]; decide +kernel
set_option maxRecDepth 100000 in
theorem D_X12_chain : (dk cX12_chain 0 = some (.iload_n 1) ∧ dk cX12_chain 1 = some (.invokestatic 205) ∧ cres 12 205 = some 236 ∧ pM 236 = 1 ∧ sM 236 = true ∧ dk cX12_chain 4 = some (.ifCond .eq 9) ∧ jok 4 9 = true ∧ jmp 4 9 = 13 ∧ dk cX12_chain 7 = some (.aload_n 0) ∧ dk cX12_chain 8 = some (.iconst (-1))) ∧ (dk cX12_chain 9 = some (.invokevirtual 156) ∧ cres 12 156 = some 160 ∧ pM 160 = 1 ∧ sM 160 = false ∧ oM 160 = 12 ∧ dk cX12_chain 12 = some (.ireturn) ∧ dk cX12_chain 13 = some (.aload_n 0) ∧ dk cX12_chain 14 = some (.iload_n 1) ∧ dk cX12_chain 15 = some (.iload_n 2) ∧ dk cX12_chain 16 = some (.iload_n 3)) ∧ (dk cX12_chain 17 = some (.iload 4) ∧ dk cX12_chain 19 = some (.i2l) ∧ dk cX12_chain 20 = some (.invokevirtual 213) ∧ cres 12 213 = some 163 ∧ pM 163 = 4 ∧ sM 163 = false ∧ oM 163 = 12 ∧ dk cX12_chain 23 = some (.istore 5) ∧ dk cX12_chain 25 = some (.iload 5) ∧ dk cX12_chain 27 = some (.ifCond .ge 6)) ∧ (jok 27 6 = true ∧ jmp 27 6 = 33 ∧ dk cX12_chain 30 = some (.iload 5) ∧ dk cX12_chain 32 = some (.ireturn) ∧ dk cX12_chain 33 = some (.aload_n 0) ∧ dk cX12_chain 34 = some (.bipush 60) ∧ dk cX12_chain 36 = some (.iload_n 1) ∧ dk cX12_chain 37 = some (.imul) ∧ dk cX12_chain 38 = some (.iload_n 3) ∧ dk cX12_chain 39 = some (.iadd)) ∧ (dk cX12_chain 40 = some (.iload 4) ∧ dk cX12_chain 42 = some (.invokevirtual 285) ∧ cres 12 285 = some 196 ∧ pM 196 = 2 ∧ sM 196 = false ∧ oM 196 = 12 ∧ dk cX12_chain 45 = some (.istore 6) ∧ dk cX12_chain 47 = some (.iload 6) ∧ dk cX12_chain 49 = some (.ifCond .lt 13) ∧ jok 49 13 = true) ∧ (jmp 49 13 = 62 ∧ dk cX12_chain 52 = some (.aload_n 0) ∧ dk cX12_chain 53 = some (.bipush (-100)) ∧ dk cX12_chain 55 = some (.iload 6) ∧ dk cX12_chain 57 = some (.isub) ∧ dk cX12_chain 58 = some (.invokevirtual 156) ∧ dk cX12_chain 61 = some (.ireturn) ∧ dk cX12_chain 62 = some (.iconst 0) ∧ dk cX12_chain 63 = some (.istore 7) ∧ dk cX12_chain 65 = some (.iconst 0)) ∧ (dk cX12_chain 66 = some (.istore 8) ∧ dk cX12_chain 68 = some (.iload 8) ∧ dk cX12_chain 70 = some (.aload_n 0) ∧ dk cX12_chain 71 = some (.getfield 258) ∧ fres 12 258 = some (12, 21, 1, false) ∧ dk cX12_chain 74 = some (.if_icmp .ge 74) ∧ jok 74 74 = true ∧ jmp 74 74 = 148 ∧ dk cX12_chain 77 = some (.aload_n 0) ∧ dk cX12_chain 78 = some (.getfield 31)) ∧ (fres 12 31 = some (12, 11, 0, true) ∧ dk cX12_chain 81 = some (.aload_n 0) ∧ dk cX12_chain 82 = some (.getfield 61) ∧ fres 12 61 = some (12, 23, 0, true) ∧ dk cX12_chain 85 = some (.iload 8) ∧ dk cX12_chain 87 = some (.iaload) ∧ dk cX12_chain 88 = some (.iaload) ∧ dk cX12_chain 89 = some (.istore 9) ∧ dk cX12_chain 91 = some (.iload 7) ∧ dk cX12_chain 93 = some (.aload_n 0)) ∧ (dk cX12_chain 94 = some (.getfield 58) ∧ fres 12 58 = some (12, 22, 0, true) ∧ dk cX12_chain 97 = some (.iload 8) ∧ dk cX12_chain 99 = some (.iaload) ∧ dk cX12_chain 100 = some (.aload_n 0) ∧ dk cX12_chain 101 = some (.getfield 70) ∧ fres 12 70 = some (12, 27, 0, true) ∧ dk cX12_chain 104 = some (.iconst 0) ∧ dk cX12_chain 105 = some (.iaload) ∧ dk cX12_chain 106 = some (.if_icmp .ne 32)) ∧ (jok 106 32 = true ∧ jmp 106 32 = 138 ∧ dk cX12_chain 109 = some (.aload_n 0) ∧ dk cX12_chain 110 = some (.getfield 67) ∧ fres 12 67 = some (12, 25, 0, true) ∧ dk cX12_chain 113 = some (.iload 8) ∧ dk cX12_chain 115 = some (.iaload) ∧ dk cX12_chain 116 = some (.iconst 1) ∧ dk cX12_chain 117 = some (.if_icmp .eq 21) ∧ jok 117 21 = true) ∧ (jmp 117 21 = 138 ∧ dk cX12_chain 120 = some (.aload_n 0) ∧ dk cX12_chain 121 = some (.iload 9) ∧ dk cX12_chain 123 = some (.iload 8) ∧ dk cX12_chain 125 = some (.invokevirtual 289) ∧ cres 12 289 = some 198 ∧ pM 198 = 2 ∧ sM 198 = false ∧ oM 198 = 12 ∧ dk cX12_chain 128 = some (.ifCond .eq 10)) ∧ (jok 128 10 = true ∧ jmp 128 10 = 138 ∧ dk cX12_chain 131 = some (.iconst 1) ∧ dk cX12_chain 132 = some (.iload 9) ∧ dk cX12_chain 134 = some (.ishl) ∧ dk cX12_chain 135 = some (.goto 4) ∧ jok 135 4 = true ∧ jmp 135 4 = 139 ∧ dk cX12_chain 138 = some (.iconst 0) ∧ dk cX12_chain 139 = some (.ior)) ∧ (dk cX12_chain 140 = some (.istore 7) ∧ dk cX12_chain 142 = some (.iinc 8 1) ∧ dk cX12_chain 145 = some (.goto (-77)) ∧ jok 145 (-77) = true ∧ jmp 145 (-77) = 68 ∧ dk cX12_chain 148 = some (.aload_n 0) ∧ dk cX12_chain 149 = some (.iload 7) ∧ dk cX12_chain 151 = some (.invokevirtual 156) ∧ dk cX12_chain 154 = some (.ireturn)) := ⟨by decide +kernel, by decide +kernel, by decide +kernel, by decide +kernel, by decide +kernel, by decide +kernel, by decide +kernel, by decide +kernel, by decide +kernel, by decide +kernel, by decide +kernel, by decide +kernel, by decide +kernel⟩
set_option maxRecDepth 100000 in
theorem N_X12_chain : ((yM 160).name = "<init>") = False ∧ ((yM 163).name = "<init>") = False ∧ ((yM 196).name = "<init>") = False ∧ ((yM 198).name = "<init>") = False := by simp only [eq_iff_iff, iff_false, iff_true]; decide +kernel
set_option maxRecDepth 100000 in
theorem D_X12_areHours : dk cX12_areHours 0 = some (.iload_n 0) ∧ dk cX12_areHours 1 = some (.i2l) ∧ dk cX12_areHours 2 = some (.lconst 1) ∧ dk cX12_areHours 3 = some (.ldc2_w 292) ∧ lres 12 292 = some (16383) ∧ dk cX12_areHours 6 = some (.invokestatic 143) ∧ cres 12 143 = some 152 ∧ pM 152 = 3 ∧ sM 152 = true ∧ dk cX12_areHours 9 = some (.ireturn) := by decide +kernel
set_option maxRecDepth 100000 in
theorem D_X12_count : (dk cX12_count 0 = some (.iload_n 1) ∧ dk cX12_count 1 = some (.invokestatic 169) ∧ cres 12 169 = some 165 ∧ pM 165 = 1 ∧ sM 165 = true ∧ dk cX12_count 4 = some (.ifCond .eq 5) ∧ jok 4 5 = true ∧ jmp 4 5 = 9 ∧ dk cX12_count 7 = some (.iconst (-1)) ∧ dk cX12_count 8 = some (.ireturn)) ∧ (dk cX12_count 9 = some (.iload_n 2) ∧ dk cX12_count 10 = some (.i2l) ∧ dk cX12_count 11 = some (.lconst 0) ∧ dk cX12_count 12 = some (.ldc2_w 294) ∧ lres 12 294 = some (13) ∧ dk cX12_count 15 = some (.invokestatic 143) ∧ cres 12 143 = some 152 ∧ pM 152 = 3 ∧ sM 152 = true ∧ dk cX12_count 18 = some (.ifCond .eq 15)) ∧ (jok 18 15 = true ∧ jmp 18 15 = 33 ∧ dk cX12_count 21 = some (.iload_n 3) ∧ dk cX12_count 22 = some (.i2l) ∧ dk cX12_count 23 = some (.lconst 0) ∧ dk cX12_count 24 = some (.ldc2_w 141) ∧ lres 12 141 = some (999) ∧ dk cX12_count 27 = some (.invokestatic 143) ∧ dk cX12_count 30 = some (.ifCond .ne 6) ∧ jok 30 6 = true) ∧ (jmp 30 6 = 36 ∧ dk cX12_count 33 = some (.bipush (-2)) ∧ dk cX12_count 35 = some (.ireturn) ∧ dk cX12_count 36 = some (.aload_n 0) ∧ dk cX12_count 37 = some (.getfield 73) ∧ fres 12 73 = some (12, 30, 0, true) ∧ dk cX12_count 40 = some (.bipush 14) ∧ dk cX12_count 42 = some (.iload_n 1) ∧ dk cX12_count 43 = some (.imul) ∧ dk cX12_count 44 = some (.iload_n 2)) ∧ (dk cX12_count 45 = some (.iadd) ∧ dk cX12_count 46 = some (.iaload) ∧ dk cX12_count 47 = some (.istore 4) ∧ dk cX12_count 49 = some (.aload_n 0) ∧ dk cX12_count 50 = some (.getfield 73) ∧ dk cX12_count 53 = some (.bipush 14) ∧ dk cX12_count 55 = some (.iload_n 1) ∧ dk cX12_count 56 = some (.imul) ∧ dk cX12_count 57 = some (.iload_n 2) ∧ dk cX12_count 58 = some (.iadd)) ∧ (dk cX12_count 59 = some (.iload_n 3) ∧ dk cX12_count 60 = some (.iastore) ∧ dk cX12_count 61 = some (.iload 4) ∧ dk cX12_count 63 = some (.ireturn)) := ⟨by decide +kernel, by decide +kernel, by decide +kernel, by decide +kernel, by decide +kernel, by decide +kernel⟩
set_option maxRecDepth 100000 in
theorem D_X12_sumIn : (dk cX12_sumIn 0 = some (.iconst 0) ∧ dk cX12_sumIn 1 = some (.istore_n 3) ∧ dk cX12_sumIn 2 = some (.iconst 0) ∧ dk cX12_sumIn 3 = some (.istore 4) ∧ dk cX12_sumIn 5 = some (.iload 4) ∧ dk cX12_sumIn 7 = some (.bipush 14) ∧ dk cX12_sumIn 9 = some (.if_icmp .ge 37) ∧ jok 9 37 = true ∧ jmp 9 37 = 46 ∧ dk cX12_sumIn 12 = some (.iload_n 3)) ∧ (dk cX12_sumIn 13 = some (.iload_n 2) ∧ dk cX12_sumIn 14 = some (.iload 4) ∧ dk cX12_sumIn 16 = some (.invokestatic 173) ∧ cres 12 173 = some 154 ∧ pM 154 = 2 ∧ sM 154 = true ∧ dk cX12_sumIn 19 = some (.ifCond .eq 18) ∧ jok 19 18 = true ∧ jmp 19 18 = 37 ∧ dk cX12_sumIn 22 = some (.aload_n 0)) ∧ (dk cX12_sumIn 23 = some (.getfield 73) ∧ fres 12 73 = some (12, 30, 0, true) ∧ dk cX12_sumIn 26 = some (.bipush 14) ∧ dk cX12_sumIn 28 = some (.iload_n 1) ∧ dk cX12_sumIn 29 = some (.imul) ∧ dk cX12_sumIn 30 = some (.iload 4) ∧ dk cX12_sumIn 32 = some (.iadd) ∧ dk cX12_sumIn 33 = some (.iaload) ∧ dk cX12_sumIn 34 = some (.goto 4) ∧ jok 34 4 = true) ∧ (jmp 34 4 = 38 ∧ dk cX12_sumIn 37 = some (.iconst 0) ∧ dk cX12_sumIn 38 = some (.iadd) ∧ dk cX12_sumIn 39 = some (.istore_n 3) ∧ dk cX12_sumIn 40 = some (.iinc 4 1) ∧ dk cX12_sumIn 43 = some (.goto (-38)) ∧ jok 43 (-38) = true ∧ jmp 43 (-38) = 5 ∧ dk cX12_sumIn 46 = some (.iload_n 3) ∧ dk cX12_sumIn 47 = some (.ireturn)) := ⟨by decide +kernel, by decide +kernel, by decide +kernel, by decide +kernel⟩
set_option maxRecDepth 100000 in
theorem D_X12_odds : (dk cX12_odds 0 = some (.iload_n 1) ∧ dk cX12_odds 1 = some (.invokestatic 169) ∧ cres 12 169 = some 165 ∧ pM 165 = 1 ∧ sM 165 = true ∧ dk cX12_odds 4 = some (.ifCond .ne 20) ∧ jok 4 20 = true ∧ jmp 4 20 = 24 ∧ dk cX12_odds 7 = some (.iload_n 2) ∧ dk cX12_odds 8 = some (.invokestatic 296)) ∧ (cres 12 296 = some 200 ∧ pM 200 = 1 ∧ sM 200 = true ∧ dk cX12_odds 11 = some (.ifCond .eq 13) ∧ jok 11 13 = true ∧ jmp 11 13 = 24 ∧ dk cX12_odds 14 = some (.iload_n 3) ∧ dk cX12_odds 15 = some (.i2l) ∧ dk cX12_odds 16 = some (.lconst 0) ∧ dk cX12_odds 17 = some (.lconst 1)) ∧ (dk cX12_odds 18 = some (.invokestatic 143) ∧ cres 12 143 = some 152 ∧ pM 152 = 3 ∧ sM 152 = true ∧ dk cX12_odds 21 = some (.ifCond .ne 7) ∧ jok 21 7 = true ∧ jmp 21 7 = 28 ∧ dk cX12_odds 24 = some (.invokestatic 150) ∧ cres 12 150 = some 153 ∧ pM 153 = 0) ∧ (sM 153 = true ∧ dk cX12_odds 27 = some (.lreturn) ∧ dk cX12_odds 28 = some (.aload_n 0) ∧ dk cX12_odds 29 = some (.iload_n 1) ∧ dk cX12_odds 30 = some (.iload_n 2) ∧ dk cX12_odds 31 = some (.invokevirtual 299) ∧ cres 12 299 = some 202 ∧ pM 202 = 2 ∧ sM 202 = false ∧ oM 202 = 12) ∧ (dk cX12_odds 34 = some (.istore 4) ∧ dk cX12_odds 36 = some (.iload_n 2) ∧ dk cX12_odds 37 = some (.invokestatic 302) ∧ cres 12 302 = some 155 ∧ pM 155 = 1 ∧ sM 155 = true ∧ dk cX12_odds 40 = some (.istore 5) ∧ dk cX12_odds 42 = some (.iconst 0) ∧ dk cX12_odds 43 = some (.istore 6) ∧ dk cX12_odds 45 = some (.iconst 0)) ∧ (dk cX12_odds 46 = some (.istore 7) ∧ dk cX12_odds 48 = some (.iconst 1) ∧ dk cX12_odds 49 = some (.istore 8) ∧ dk cX12_odds 51 = some (.iload 8) ∧ dk cX12_odds 53 = some (.sipush 16384) ∧ dk cX12_odds 56 = some (.if_icmp .ge 44) ∧ jok 56 44 = true ∧ jmp 56 44 = 100 ∧ dk cX12_odds 59 = some (.iload 8) ∧ dk cX12_odds 61 = some (.invokestatic 302)) ∧ (dk cX12_odds 64 = some (.iload 5) ∧ dk cX12_odds 66 = some (.if_icmp .ne 28) ∧ jok 66 28 = true ∧ jmp 66 28 = 94 ∧ dk cX12_odds 69 = some (.iinc 7 1) ∧ dk cX12_odds 72 = some (.iload 6) ∧ dk cX12_odds 74 = some (.aload_n 0) ∧ dk cX12_odds 75 = some (.iload_n 1) ∧ dk cX12_odds 76 = some (.iload 8) ∧ dk cX12_odds 78 = some (.invokevirtual 299)) ∧ (dk cX12_odds 81 = some (.iload 4) ∧ dk cX12_odds 83 = some (.if_icmp .lt 7) ∧ jok 83 7 = true ∧ jmp 83 7 = 90 ∧ dk cX12_odds 86 = some (.iconst 1) ∧ dk cX12_odds 87 = some (.goto 4) ∧ jok 87 4 = true ∧ jmp 87 4 = 91 ∧ dk cX12_odds 90 = some (.iconst 0) ∧ dk cX12_odds 91 = some (.iadd)) ∧ (dk cX12_odds 92 = some (.istore 6) ∧ dk cX12_odds 94 = some (.iinc 8 1) ∧ dk cX12_odds 97 = some (.goto (-46)) ∧ jok 97 (-46) = true ∧ jmp 97 (-46) = 51 ∧ dk cX12_odds 100 = some (.iload 6) ∧ dk cX12_odds 102 = some (.i2l) ∧ dk cX12_odds 103 = some (.iload 7) ∧ dk cX12_odds 105 = some (.i2l) ∧ dk cX12_odds 106 = some (.iload_n 3)) ∧ (dk cX12_odds 107 = some (.invokestatic 264) ∧ cres 12 264 = some 158 ∧ pM 158 = 3 ∧ sM 158 = true ∧ dk cX12_odds 110 = some (.lreturn)) := ⟨by decide +kernel, by decide +kernel, by decide +kernel, by decide +kernel, by decide +kernel, by decide +kernel, by decide +kernel, by decide +kernel, by decide +kernel, by decide +kernel⟩
set_option maxRecDepth 100000 in
theorem N_X12_odds : ((yM 202).name = "<init>") = False := by simp only [eq_iff_iff, iff_false, iff_true]; decide +kernel
set_option maxRecDepth 100000 in
theorem D_X12_group : (dk cX12_group 0 = some (.iload_n 1) ∧ dk cX12_group 1 = some (.invokestatic 169) ∧ cres 12 169 = some 165 ∧ pM 165 = 1 ∧ sM 165 = true ∧ dk cX12_group 4 = some (.ifCond .eq 5) ∧ jok 4 5 = true ∧ jmp 4 5 = 9 ∧ dk cX12_group 7 = some (.iconst (-1)) ∧ dk cX12_group 8 = some (.ireturn)) ∧ (dk cX12_group 9 = some (.iload_n 2) ∧ dk cX12_group 10 = some (.i2l) ∧ dk cX12_group 11 = some (.lconst 0) ∧ dk cX12_group 12 = some (.ldc2_w 305) ∧ lres 12 305 = some (3) ∧ dk cX12_group 15 = some (.invokestatic 143) ∧ cres 12 143 = some 152 ∧ pM 152 = 3 ∧ sM 152 = true ∧ dk cX12_group 18 = some (.ifCond .ne 6)) ∧ (jok 18 6 = true ∧ jmp 18 6 = 24 ∧ dk cX12_group 21 = some (.bipush (-2)) ∧ dk cX12_group 23 = some (.ireturn) ∧ dk cX12_group 24 = some (.aload_n 0) ∧ dk cX12_group 25 = some (.getfield 76) ∧ fres 12 76 = some (12, 31, 0, true) ∧ dk cX12_group 28 = some (.iload_n 1) ∧ dk cX12_group 29 = some (.iaload) ∧ dk cX12_group 30 = some (.istore_n 3)) ∧ (dk cX12_group 31 = some (.aload_n 0) ∧ dk cX12_group 32 = some (.getfield 76) ∧ dk cX12_group 35 = some (.iload_n 1) ∧ dk cX12_group 36 = some (.iload_n 2) ∧ dk cX12_group 37 = some (.iastore) ∧ dk cX12_group 38 = some (.iload_n 3) ∧ dk cX12_group 39 = some (.ireturn)) := ⟨by decide +kernel, by decide +kernel, by decide +kernel, by decide +kernel⟩
set_option maxRecDepth 100000 in
theorem D_X12_likes : (dk cX12_likes 0 = some (.iload_n 1) ∧ dk cX12_likes 1 = some (.invokestatic 169) ∧ cres 12 169 = some 165 ∧ pM 165 = 1 ∧ sM 165 = true ∧ dk cX12_likes 4 = some (.ifCond .eq 5) ∧ jok 4 5 = true ∧ jmp 4 5 = 9 ∧ dk cX12_likes 7 = some (.iconst (-1)) ∧ dk cX12_likes 8 = some (.ireturn)) ∧ (dk cX12_likes 9 = some (.iload_n 2) ∧ dk cX12_likes 10 = some (.invokestatic 296) ∧ cres 12 296 = some 200 ∧ pM 200 = 1 ∧ sM 200 = true ∧ dk cX12_likes 13 = some (.ifCond .ne 6) ∧ jok 13 6 = true ∧ jmp 13 6 = 19 ∧ dk cX12_likes 16 = some (.bipush (-2)) ∧ dk cX12_likes 18 = some (.ireturn)) ∧ (dk cX12_likes 19 = some (.iconst 0) ∧ dk cX12_likes 20 = some (.istore_n 3) ∧ dk cX12_likes 21 = some (.iconst 0) ∧ dk cX12_likes 22 = some (.istore 4) ∧ dk cX12_likes 24 = some (.iload 4) ∧ dk cX12_likes 26 = some (.bipush 10) ∧ dk cX12_likes 28 = some (.if_icmp .ge 49) ∧ jok 28 49 = true ∧ jmp 28 49 = 77 ∧ dk cX12_likes 31 = some (.iload_n 3)) ∧ (dk cX12_likes 32 = some (.aload_n 0) ∧ dk cX12_likes 33 = some (.getfield 76) ∧ fres 12 76 = some (12, 31, 0, true) ∧ dk cX12_likes 36 = some (.iload 4) ∧ dk cX12_likes 38 = some (.iaload) ∧ dk cX12_likes 39 = some (.aload_n 0) ∧ dk cX12_likes 40 = some (.getfield 76) ∧ dk cX12_likes 43 = some (.iload_n 1) ∧ dk cX12_likes 44 = some (.iaload) ∧ dk cX12_likes 45 = some (.if_icmp .ne 23)) ∧ (jok 45 23 = true ∧ jmp 45 23 = 68 ∧ dk cX12_likes 48 = some (.aload_n 0) ∧ dk cX12_likes 49 = some (.iload 4) ∧ dk cX12_likes 51 = some (.iload_n 2) ∧ dk cX12_likes 52 = some (.invokevirtual 299) ∧ cres 12 299 = some 202 ∧ pM 202 = 2 ∧ sM 202 = false ∧ oM 202 = 12) ∧ (dk cX12_likes 55 = some (.aload_n 0) ∧ dk cX12_likes 56 = some (.iload_n 1) ∧ dk cX12_likes 57 = some (.iload_n 2) ∧ dk cX12_likes 58 = some (.invokevirtual 299) ∧ dk cX12_likes 61 = some (.if_icmp .lt 7) ∧ jok 61 7 = true ∧ jmp 61 7 = 68 ∧ dk cX12_likes 64 = some (.iconst 1) ∧ dk cX12_likes 65 = some (.goto 4) ∧ jok 65 4 = true) ∧ (jmp 65 4 = 69 ∧ dk cX12_likes 68 = some (.iconst 0) ∧ dk cX12_likes 69 = some (.iadd) ∧ dk cX12_likes 70 = some (.istore_n 3) ∧ dk cX12_likes 71 = some (.iinc 4 1) ∧ dk cX12_likes 74 = some (.goto (-50)) ∧ jok 74 (-50) = true ∧ jmp 74 (-50) = 24 ∧ dk cX12_likes 77 = some (.iload_n 3) ∧ dk cX12_likes 78 = some (.ireturn)) := ⟨by decide +kernel, by decide +kernel, by decide +kernel, by decide +kernel, by decide +kernel, by decide +kernel, by decide +kernel⟩
set_option maxRecDepth 100000 in
theorem N_X12_likes : ((yM 202).name = "<init>") = False := by simp only [eq_iff_iff, iff_false, iff_true]; decide +kernel
set_option maxRecDepth 100000 in
theorem D_X12_placeIn : (dk cX12_placeIn 0 = some (.iload_n 1) ∧ dk cX12_placeIn 1 = some (.ifCond .ne 8) ∧ jok 1 8 = true ∧ jmp 1 8 = 9 ∧ dk cX12_placeIn 4 = some (.bipush 31) ∧ dk cX12_placeIn 6 = some (.goto 15) ∧ jok 6 15 = true ∧ jmp 6 15 = 21 ∧ dk cX12_placeIn 9 = some (.iload_n 1) ∧ dk cX12_placeIn 10 = some (.iconst 1)) ∧ (dk cX12_placeIn 11 = some (.if_icmp .ne 8) ∧ jok 11 8 = true ∧ jmp 11 8 = 19 ∧ dk cX12_placeIn 14 = some (.bipush 57) ∧ dk cX12_placeIn 16 = some (.goto 5) ∧ jok 16 5 = true ∧ jmp 16 5 = 21 ∧ dk cX12_placeIn 19 = some (.bipush 83) ∧ dk cX12_placeIn 21 = some (.istore_n 2) ∧ dk cX12_placeIn 22 = some (.iload_n 1)) ∧ (dk cX12_placeIn 23 = some (.ifCond .ne 8) ∧ jok 23 8 = true ∧ jmp 23 8 = 31 ∧ dk cX12_placeIn 26 = some (.bipush 7) ∧ dk cX12_placeIn 28 = some (.goto 14) ∧ jok 28 14 = true ∧ jmp 28 14 = 42 ∧ dk cX12_placeIn 31 = some (.iload_n 1) ∧ dk cX12_placeIn 32 = some (.iconst 1) ∧ dk cX12_placeIn 33 = some (.if_icmp .ne 8)) ∧ (jok 33 8 = true ∧ jmp 33 8 = 41 ∧ dk cX12_placeIn 36 = some (.bipush 19) ∧ dk cX12_placeIn 38 = some (.goto 4) ∧ jok 38 4 = true ∧ jmp 38 4 = 42 ∧ dk cX12_placeIn 41 = some (.iconst 5) ∧ dk cX12_placeIn 42 = some (.istore_n 3) ∧ dk cX12_placeIn 43 = some (.bipush 16) ∧ dk cX12_placeIn 45 = some (.iload_n 1)) ∧ (dk cX12_placeIn 46 = some (.imul) ∧ dk cX12_placeIn 47 = some (.iload_n 0) ∧ dk cX12_placeIn 48 = some (.iload_n 2) ∧ dk cX12_placeIn 49 = some (.imul) ∧ dk cX12_placeIn 50 = some (.iload_n 3) ∧ dk cX12_placeIn 51 = some (.iadd) ∧ dk cX12_placeIn 52 = some (.bipush 97) ∧ dk cX12_placeIn 54 = some (.idiv) ∧ dk cX12_placeIn 55 = some (.bipush 16) ∧ dk cX12_placeIn 57 = some (.irem)) ∧ (dk cX12_placeIn 58 = some (.iadd) ∧ dk cX12_placeIn 59 = some (.ireturn)) := ⟨by decide +kernel, by decide +kernel, by decide +kernel, by decide +kernel, by decide +kernel, by decide +kernel⟩
set_option maxRecDepth 100000 in
theorem D_X12_toldOf : (dk cX12_toldOf 0 = some (.aload_n 0) ∧ dk cX12_toldOf 1 = some (.getfield 79) ∧ fres 12 79 = some (12, 32, 0, true) ∧ dk cX12_toldOf 4 = some (.iload_n 1) ∧ dk cX12_toldOf 5 = some (.iconst 0) ∧ dk cX12_toldOf 6 = some (.invokestatic 307) ∧ cres 12 307 = some 206 ∧ pM 206 = 2 ∧ sM 206 = true ∧ dk cX12_toldOf 9 = some (.iaload)) ∧ (dk cX12_toldOf 10 = some (.aload_n 0) ∧ dk cX12_toldOf 11 = some (.getfield 79) ∧ dk cX12_toldOf 14 = some (.iload_n 1) ∧ dk cX12_toldOf 15 = some (.iconst 1) ∧ dk cX12_toldOf 16 = some (.invokestatic 307) ∧ dk cX12_toldOf 19 = some (.iaload) ∧ dk cX12_toldOf 20 = some (.aload_n 0) ∧ dk cX12_toldOf 21 = some (.getfield 79) ∧ dk cX12_toldOf 24 = some (.iload_n 1) ∧ dk cX12_toldOf 25 = some (.iconst 2)) ∧ (dk cX12_toldOf 26 = some (.invokestatic 307) ∧ dk cX12_toldOf 29 = some (.iaload) ∧ dk cX12_toldOf 30 = some (.invokestatic 310) ∧ cres 12 310 = some 156 ∧ pM 156 = 2 ∧ sM 156 = true ∧ dk cX12_toldOf 33 = some (.invokestatic 310) ∧ dk cX12_toldOf 36 = some (.ireturn)) := ⟨by decide +kernel, by decide +kernel, by decide +kernel⟩
set_option maxRecDepth 100000 in
theorem D_X12_thingOf : (dk cX12_thingOf 0 = some (.iconst 0) ∧ dk cX12_thingOf 1 = some (.istore_n 2) ∧ dk cX12_thingOf 2 = some (.iload_n 2) ∧ dk cX12_thingOf 3 = some (.aload_n 0) ∧ dk cX12_thingOf 4 = some (.getfield 313) ∧ fres 12 313 = some (12, 33, 1, false) ∧ dk cX12_thingOf 7 = some (.if_icmp .ge 21) ∧ jok 7 21 = true ∧ jmp 7 21 = 28 ∧ dk cX12_thingOf 10 = some (.aload_n 0)) ∧ (dk cX12_thingOf 11 = some (.getfield 82) ∧ fres 12 82 = some (12, 34, 0, true) ∧ dk cX12_thingOf 14 = some (.iload_n 2) ∧ dk cX12_thingOf 15 = some (.iaload) ∧ dk cX12_thingOf 16 = some (.iload_n 1) ∧ dk cX12_thingOf 17 = some (.if_icmp .ne 5) ∧ jok 17 5 = true ∧ jmp 17 5 = 22 ∧ dk cX12_thingOf 20 = some (.iload_n 2) ∧ dk cX12_thingOf 21 = some (.ireturn)) ∧ (dk cX12_thingOf 22 = some (.iinc 2 1) ∧ dk cX12_thingOf 25 = some (.goto (-23)) ∧ jok 25 (-23) = true ∧ jmp 25 (-23) = 2 ∧ dk cX12_thingOf 28 = some (.bipush (-9)) ∧ dk cX12_thingOf 30 = some (.ireturn)) := ⟨by decide +kernel, by decide +kernel, by decide +kernel⟩
set_option maxRecDepth 100000 in
theorem D_X12_isThing : dk cX12_isThing 0 = some (.iload_n 0) ∧ dk cX12_isThing 1 = some (.i2l) ∧ dk cX12_isThing 2 = some (.lconst 0) ∧ dk cX12_isThing 3 = some (.ldc2_w 316) ∧ lres 12 316 = some (9999) ∧ dk cX12_isThing 6 = some (.invokestatic 143) ∧ cres 12 143 = some 152 ∧ pM 152 = 3 ∧ sM 152 = true ∧ dk cX12_isThing 9 = some (.ireturn) := by decide +kernel
set_option maxRecDepth 100000 in
theorem D_X12_put : (dk cX12_put 0 = some (.iload_n 1) ∧ dk cX12_put 1 = some (.invokestatic 318) ∧ cres 12 318 = some 209 ∧ pM 209 = 1 ∧ sM 209 = true ∧ dk cX12_put 4 = some (.ifCond .eq 15) ∧ jok 4 15 = true ∧ jmp 4 15 = 19 ∧ dk cX12_put 7 = some (.iload_n 2) ∧ dk cX12_put 8 = some (.i2l)) ∧ (dk cX12_put 9 = some (.lconst 1) ∧ dk cX12_put 10 = some (.ldc2_w 321) ∧ lres 12 321 = some (99) ∧ dk cX12_put 13 = some (.invokestatic 143) ∧ cres 12 143 = some 152 ∧ pM 152 = 3 ∧ sM 152 = true ∧ dk cX12_put 16 = some (.ifCond .ne 6) ∧ jok 16 6 = true ∧ jmp 16 6 = 22) ∧ (dk cX12_put 19 = some (.bipush (-2)) ∧ dk cX12_put 21 = some (.ireturn) ∧ dk cX12_put 22 = some (.aload_n 0) ∧ dk cX12_put 23 = some (.iload_n 1) ∧ dk cX12_put 24 = some (.invokevirtual 323) ∧ cres 12 323 = some 208 ∧ pM 208 = 1 ∧ sM 208 = false ∧ oM 208 = 12 ∧ dk cX12_put 27 = some (.istore_n 3)) ∧ (dk cX12_put 28 = some (.iload_n 3) ∧ dk cX12_put 29 = some (.ifCond .ge 16) ∧ jok 29 16 = true ∧ jmp 29 16 = 45 ∧ dk cX12_put 32 = some (.aload_n 0) ∧ dk cX12_put 33 = some (.getfield 313) ∧ fres 12 313 = some (12, 33, 1, false) ∧ dk cX12_put 36 = some (.sipush 200) ∧ dk cX12_put 39 = some (.if_icmp .ne 6) ∧ jok 39 6 = true) ∧ (jmp 39 6 = 45 ∧ dk cX12_put 42 = some (.bipush (-4)) ∧ dk cX12_put 44 = some (.ireturn) ∧ dk cX12_put 45 = some (.iload_n 3) ∧ dk cX12_put 46 = some (.ifCond .ge 32) ∧ jok 46 32 = true ∧ jmp 46 32 = 78 ∧ dk cX12_put 49 = some (.aload_n 0) ∧ dk cX12_put 50 = some (.getfield 313) ∧ dk cX12_put 53 = some (.istore_n 3)) ∧ (dk cX12_put 54 = some (.aload_n 0) ∧ dk cX12_put 55 = some (.getfield 82) ∧ fres 12 82 = some (12, 34, 0, true) ∧ dk cX12_put 58 = some (.iload_n 3) ∧ dk cX12_put 59 = some (.iload_n 1) ∧ dk cX12_put 60 = some (.iastore) ∧ dk cX12_put 61 = some (.aload_n 0) ∧ dk cX12_put 62 = some (.getfield 85) ∧ fres 12 85 = some (12, 35, 0, true) ∧ dk cX12_put 65 = some (.iload_n 3)) ∧ (dk cX12_put 66 = some (.iconst 0) ∧ dk cX12_put 67 = some (.iastore) ∧ dk cX12_put 68 = some (.aload_n 0) ∧ dk cX12_put 69 = some (.dup) ∧ dk cX12_put 70 = some (.getfield 313) ∧ dk cX12_put 73 = some (.iconst 1) ∧ dk cX12_put 74 = some (.iadd) ∧ dk cX12_put 75 = some (.putfield 313) ∧ isBo (tyN 12 33) = false ∧ dk cX12_put 78 = some (.aload_n 0)) ∧ (dk cX12_put 79 = some (.getfield 85) ∧ dk cX12_put 82 = some (.iload_n 3) ∧ dk cX12_put 83 = some (.dup2) ∧ dk cX12_put 84 = some (.iaload) ∧ dk cX12_put 85 = some (.iload_n 2) ∧ dk cX12_put 86 = some (.iadd) ∧ dk cX12_put 87 = some (.iastore) ∧ dk cX12_put 88 = some (.iconst 0) ∧ dk cX12_put 89 = some (.istore 4) ∧ dk cX12_put 91 = some (.iload 4)) ∧ (dk cX12_put 93 = some (.iconst 3) ∧ dk cX12_put 94 = some (.if_icmp .ge 24) ∧ jok 94 24 = true ∧ jmp 94 24 = 118 ∧ dk cX12_put 97 = some (.aload_n 0) ∧ dk cX12_put 98 = some (.getfield 79) ∧ fres 12 79 = some (12, 32, 0, true) ∧ dk cX12_put 101 = some (.iload_n 1) ∧ dk cX12_put 102 = some (.iload 4) ∧ dk cX12_put 104 = some (.invokestatic 307)) ∧ (cres 12 307 = some 206 ∧ pM 206 = 2 ∧ sM 206 = true ∧ dk cX12_put 107 = some (.dup2) ∧ dk cX12_put 108 = some (.iaload) ∧ dk cX12_put 109 = some (.iload_n 2) ∧ dk cX12_put 110 = some (.iadd) ∧ dk cX12_put 111 = some (.iastore) ∧ dk cX12_put 112 = some (.iinc 4 1) ∧ dk cX12_put 115 = some (.goto (-24))) ∧ (jok 115 (-24) = true ∧ jmp 115 (-24) = 91 ∧ dk cX12_put 118 = some (.aload_n 0) ∧ dk cX12_put 119 = some (.iload_n 1) ∧ dk cX12_put 120 = some (.invokevirtual 326) ∧ cres 12 326 = some 207 ∧ pM 207 = 1 ∧ sM 207 = false ∧ oM 207 = 12 ∧ dk cX12_put 123 = some (.ireturn)) := ⟨by decide +kernel, by decide +kernel, by decide +kernel, by decide +kernel, by decide +kernel, by decide +kernel, by decide +kernel, by decide +kernel, by decide +kernel, by decide +kernel, by decide +kernel⟩
set_option maxRecDepth 100000 in
theorem N_X12_put : ((yM 208).name = "<init>") = False ∧ ((yM 207).name = "<init>") = False := by simp only [eq_iff_iff, iff_false, iff_true]; decide +kernel
set_option maxRecDepth 100000 in
theorem D_X12_told : (dk cX12_told 0 = some (.iload_n 1) ∧ dk cX12_told 1 = some (.invokestatic 318) ∧ cres 12 318 = some 209 ∧ pM 209 = 1 ∧ sM 209 = true ∧ dk cX12_told 4 = some (.ifCond .eq 13) ∧ jok 4 13 = true ∧ jmp 4 13 = 17 ∧ dk cX12_told 7 = some (.iload_n 2) ∧ dk cX12_told 8 = some (.i2l)) ∧ (dk cX12_told 9 = some (.lconst 0) ∧ dk cX12_told 10 = some (.lconst 1) ∧ dk cX12_told 11 = some (.invokestatic 143) ∧ cres 12 143 = some 152 ∧ pM 152 = 3 ∧ sM 152 = true ∧ dk cX12_told 14 = some (.ifCond .ne 6) ∧ jok 14 6 = true ∧ jmp 14 6 = 20 ∧ dk cX12_told 17 = some (.bipush (-2))) ∧ (dk cX12_told 19 = some (.ireturn) ∧ dk cX12_told 20 = some (.aload_n 0) ∧ dk cX12_told 21 = some (.iload_n 1) ∧ dk cX12_told 22 = some (.invokevirtual 323) ∧ cres 12 323 = some 208 ∧ pM 208 = 1 ∧ sM 208 = false ∧ oM 208 = 12 ∧ dk cX12_told 25 = some (.istore_n 3) ∧ dk cX12_told 26 = some (.iload_n 2)) ∧ (dk cX12_told 27 = some (.ifCond .ne 11) ∧ jok 27 11 = true ∧ jmp 27 11 = 38 ∧ dk cX12_told 30 = some (.aload_n 0) ∧ dk cX12_told 31 = some (.iload_n 1) ∧ dk cX12_told 32 = some (.invokevirtual 326) ∧ cres 12 326 = some 207 ∧ pM 207 = 1 ∧ sM 207 = false ∧ oM 207 = 12) ∧ (dk cX12_told 35 = some (.goto 17) ∧ jok 35 17 = true ∧ jmp 35 17 = 52 ∧ dk cX12_told 38 = some (.iload_n 3) ∧ dk cX12_told 39 = some (.ifCond .ge 7) ∧ jok 39 7 = true ∧ jmp 39 7 = 46 ∧ dk cX12_told 42 = some (.iconst 0) ∧ dk cX12_told 43 = some (.goto 9) ∧ jok 43 9 = true) ∧ (jmp 43 9 = 52 ∧ dk cX12_told 46 = some (.aload_n 0) ∧ dk cX12_told 47 = some (.getfield 85) ∧ fres 12 85 = some (12, 35, 0, true) ∧ dk cX12_told 50 = some (.iload_n 3) ∧ dk cX12_told 51 = some (.iaload) ∧ dk cX12_told 52 = some (.ireturn)) := ⟨by decide +kernel, by decide +kernel, by decide +kernel, by decide +kernel, by decide +kernel, by decide +kernel⟩
set_option maxRecDepth 100000 in
theorem N_X12_told : ((yM 208).name = "<init>") = False ∧ ((yM 207).name = "<init>") = False := by simp only [eq_iff_iff, iff_false, iff_true]; decide +kernel
set_option maxRecDepth 100000 in
theorem D_X12_miss : (dk cX12_miss 0 = some (.iconst 0) ∧ dk cX12_miss 1 = some (.istore_n 1) ∧ dk cX12_miss 2 = some (.iconst 0) ∧ dk cX12_miss 3 = some (.istore_n 2) ∧ dk cX12_miss 4 = some (.iload_n 2) ∧ dk cX12_miss 5 = some (.aload_n 0) ∧ dk cX12_miss 6 = some (.getfield 313) ∧ fres 12 313 = some (12, 33, 1, false) ∧ dk cX12_miss 9 = some (.if_icmp .ge 36) ∧ jok 9 36 = true) ∧ (jmp 9 36 = 45 ∧ dk cX12_miss 12 = some (.iload_n 1) ∧ dk cX12_miss 13 = some (.aload_n 0) ∧ dk cX12_miss 14 = some (.aload_n 0) ∧ dk cX12_miss 15 = some (.getfield 82) ∧ fres 12 82 = some (12, 34, 0, true) ∧ dk cX12_miss 18 = some (.iload_n 2) ∧ dk cX12_miss 19 = some (.iaload) ∧ dk cX12_miss 20 = some (.invokevirtual 326) ∧ cres 12 326 = some 207) ∧ (pM 207 = 1 ∧ sM 207 = false ∧ oM 207 = 12 ∧ dk cX12_miss 23 = some (.aload_n 0) ∧ dk cX12_miss 24 = some (.getfield 85) ∧ fres 12 85 = some (12, 35, 0, true) ∧ dk cX12_miss 27 = some (.iload_n 2) ∧ dk cX12_miss 28 = some (.iaload) ∧ dk cX12_miss 29 = some (.if_icmp .le 7) ∧ jok 29 7 = true) ∧ (jmp 29 7 = 36 ∧ dk cX12_miss 32 = some (.iconst 1) ∧ dk cX12_miss 33 = some (.goto 4) ∧ jok 33 4 = true ∧ jmp 33 4 = 37 ∧ dk cX12_miss 36 = some (.iconst 0) ∧ dk cX12_miss 37 = some (.iadd) ∧ dk cX12_miss 38 = some (.istore_n 1) ∧ dk cX12_miss 39 = some (.iinc 2 1) ∧ dk cX12_miss 42 = some (.goto (-38))) ∧ (jok 42 (-38) = true ∧ jmp 42 (-38) = 4 ∧ dk cX12_miss 45 = some (.iload_n 1) ∧ dk cX12_miss 46 = some (.ireturn)) := ⟨by decide +kernel, by decide +kernel, by decide +kernel, by decide +kernel, by decide +kernel⟩
set_option maxRecDepth 100000 in
theorem N_X12_miss : ((yM 207).name = "<init>") = False := by simp only [eq_iff_iff, iff_false, iff_true]; decide +kernel
set_option maxRecDepth 100000 in
theorem D_X12_isSign : dk cX12_isSign 0 = some (.iload_n 0) ∧ dk cX12_isSign 1 = some (.i2l) ∧ dk cX12_isSign 2 = some (.lconst 0) ∧ dk cX12_isSign 3 = some (.ldc2_w 305) ∧ lres 12 305 = some (3) ∧ dk cX12_isSign 6 = some (.invokestatic 143) ∧ cres 12 143 = some 152 ∧ pM 152 = 3 ∧ sM 152 = true ∧ dk cX12_isSign 9 = some (.ireturn) := by decide +kernel
set_option maxRecDepth 100000 in
theorem D_X12_isBarred : (dk cX12_isBarred 0 = some (.aload_n 0) ∧ dk cX12_isBarred 1 = some (.getfield 329) ∧ fres 12 329 = some (12, 39, 1, false) ∧ dk cX12_isBarred 4 = some (.iconst 4) ∧ dk cX12_isBarred 5 = some (.iload_n 1) ∧ dk cX12_isBarred 6 = some (.imul) ∧ dk cX12_isBarred 7 = some (.iload_n 2) ∧ dk cX12_isBarred 8 = some (.iadd) ∧ dk cX12_isBarred 9 = some (.invokestatic 173) ∧ cres 12 173 = some 154) ∧ (pM 154 = 2 ∧ sM 154 = true ∧ dk cX12_isBarred 12 = some (.ireturn)) := ⟨by decide +kernel, by decide +kernel⟩
set_option maxRecDepth 100000 in
theorem D_X12_bar : (dk cX12_bar 0 = some (.iload_n 1) ∧ dk cX12_bar 1 = some (.invokestatic 332) ∧ cres 12 332 = some 213 ∧ pM 213 = 1 ∧ sM 213 = true ∧ dk cX12_bar 4 = some (.ifCond .eq 10) ∧ jok 4 10 = true ∧ jmp 4 10 = 14 ∧ dk cX12_bar 7 = some (.iload_n 2) ∧ dk cX12_bar 8 = some (.invokestatic 332)) ∧ (dk cX12_bar 11 = some (.ifCond .ne 6) ∧ jok 11 6 = true ∧ jmp 11 6 = 17 ∧ dk cX12_bar 14 = some (.bipush (-2)) ∧ dk cX12_bar 16 = some (.ireturn) ∧ dk cX12_bar 17 = some (.aload_n 0) ∧ dk cX12_bar 18 = some (.iload_n 1) ∧ dk cX12_bar 19 = some (.iload_n 2) ∧ dk cX12_bar 20 = some (.invokevirtual 335) ∧ cres 12 335 = some 214) ∧ (pM 214 = 2 ∧ sM 214 = false ∧ oM 214 = 12 ∧ dk cX12_bar 23 = some (.iload_n 3) ∧ dk cX12_bar 24 = some (.if_icmp .ne 5) ∧ jok 24 5 = true ∧ jmp 24 5 = 29 ∧ dk cX12_bar 27 = some (.iconst 0) ∧ dk cX12_bar 28 = some (.ireturn) ∧ dk cX12_bar 29 = some (.aload_n 0)) ∧ (dk cX12_bar 30 = some (.dup) ∧ dk cX12_bar 31 = some (.getfield 329) ∧ fres 12 329 = some (12, 39, 1, false) ∧ dk cX12_bar 34 = some (.iconst 1) ∧ dk cX12_bar 35 = some (.iconst 4) ∧ dk cX12_bar 36 = some (.iload_n 1) ∧ dk cX12_bar 37 = some (.imul) ∧ dk cX12_bar 38 = some (.iload_n 2) ∧ dk cX12_bar 39 = some (.iadd) ∧ dk cX12_bar 40 = some (.ishl)) ∧ (dk cX12_bar 41 = some (.ixor) ∧ dk cX12_bar 42 = some (.putfield 329) ∧ isBo (tyN 12 39) = false ∧ dk cX12_bar 45 = some (.iconst 1) ∧ dk cX12_bar 46 = some (.ireturn)) := ⟨by decide +kernel, by decide +kernel, by decide +kernel, by decide +kernel, by decide +kernel⟩
set_option maxRecDepth 100000 in
theorem N_X12_bar : ((yM 214).name = "<init>") = False := by simp only [eq_iff_iff, iff_false, iff_true]; decide +kernel
set_option maxRecDepth 100000 in
theorem D_X12_noGrowing : (dk cX12_noGrowing 0 = some (.iconst 0) ∧ dk cX12_noGrowing 1 = some (.istore_n 3) ∧ dk cX12_noGrowing 2 = some (.iconst 0) ∧ dk cX12_noGrowing 3 = some (.istore 4) ∧ dk cX12_noGrowing 5 = some (.iconst 0) ∧ dk cX12_noGrowing 6 = some (.istore 5) ∧ dk cX12_noGrowing 8 = some (.iload 5) ∧ dk cX12_noGrowing 10 = some (.iload_n 2) ∧ dk cX12_noGrowing 11 = some (.if_icmp .ge 86) ∧ jok 11 86 = true) ∧ (jmp 11 86 = 97 ∧ dk cX12_noGrowing 14 = some (.iload 5) ∧ dk cX12_noGrowing 16 = some (.ifCond .le 33) ∧ jok 16 33 = true ∧ jmp 16 33 = 49 ∧ dk cX12_noGrowing 19 = some (.aload_n 0) ∧ dk cX12_noGrowing 20 = some (.aload_n 0) ∧ dk cX12_noGrowing 21 = some (.getfield 125) ∧ fres 12 125 = some (12, 52, 0, true) ∧ dk cX12_noGrowing 24 = some (.iload_n 1)) ∧ (dk cX12_noGrowing 25 = some (.iload 5) ∧ dk cX12_noGrowing 27 = some (.iadd) ∧ dk cX12_noGrowing 28 = some (.iconst 1) ∧ dk cX12_noGrowing 29 = some (.isub) ∧ dk cX12_noGrowing 30 = some (.iaload) ∧ dk cX12_noGrowing 31 = some (.aload_n 0) ∧ dk cX12_noGrowing 32 = some (.getfield 125) ∧ dk cX12_noGrowing 35 = some (.iload_n 1) ∧ dk cX12_noGrowing 36 = some (.iload 5) ∧ dk cX12_noGrowing 38 = some (.iadd)) ∧ (dk cX12_noGrowing 39 = some (.iaload) ∧ dk cX12_noGrowing 40 = some (.invokevirtual 335) ∧ cres 12 335 = some 214 ∧ pM 214 = 2 ∧ sM 214 = false ∧ oM 214 = 12 ∧ dk cX12_noGrowing 43 = some (.ifCond .eq 6) ∧ jok 43 6 = true ∧ jmp 43 6 = 49 ∧ dk cX12_noGrowing 46 = some (.bipush (-3))) ∧ (dk cX12_noGrowing 48 = some (.ireturn) ∧ dk cX12_noGrowing 49 = some (.iload_n 3) ∧ dk cX12_noGrowing 50 = some (.ifCond .ge 8) ∧ jok 50 8 = true ∧ jmp 50 8 = 58 ∧ dk cX12_noGrowing 53 = some (.bipush (-9)) ∧ dk cX12_noGrowing 55 = some (.goto 21) ∧ jok 55 21 = true ∧ jmp 55 21 = 76 ∧ dk cX12_noGrowing 58 = some (.aload_n 0)) ∧ (dk cX12_noGrowing 59 = some (.getfield 88) ∧ fres 12 88 = some (12, 37, 0, true) ∧ dk cX12_noGrowing 62 = some (.iconst 4) ∧ dk cX12_noGrowing 63 = some (.iload_n 3) ∧ dk cX12_noGrowing 64 = some (.imul) ∧ dk cX12_noGrowing 65 = some (.aload_n 0) ∧ dk cX12_noGrowing 66 = some (.getfield 125) ∧ dk cX12_noGrowing 69 = some (.iload_n 1) ∧ dk cX12_noGrowing 70 = some (.iload 5) ∧ dk cX12_noGrowing 72 = some (.iadd)) ∧ (dk cX12_noGrowing 73 = some (.iaload) ∧ dk cX12_noGrowing 74 = some (.iadd) ∧ dk cX12_noGrowing 75 = some (.iaload) ∧ dk cX12_noGrowing 76 = some (.istore_n 3) ∧ dk cX12_noGrowing 77 = some (.iload 4) ∧ dk cX12_noGrowing 79 = some (.iload_n 3) ∧ dk cX12_noGrowing 80 = some (.ifCond .ge 7) ∧ jok 80 7 = true ∧ jmp 80 7 = 87 ∧ dk cX12_noGrowing 83 = some (.iconst 1)) ∧ (dk cX12_noGrowing 84 = some (.goto 4) ∧ jok 84 4 = true ∧ jmp 84 4 = 88 ∧ dk cX12_noGrowing 87 = some (.iconst 0) ∧ dk cX12_noGrowing 88 = some (.iadd) ∧ dk cX12_noGrowing 89 = some (.istore 4) ∧ dk cX12_noGrowing 91 = some (.iinc 5 1) ∧ dk cX12_noGrowing 94 = some (.goto (-86)) ∧ jok 94 (-86) = true ∧ jmp 94 (-86) = 8) ∧ (dk cX12_noGrowing 97 = some (.aload_n 0) ∧ dk cX12_noGrowing 98 = some (.getfield 131) ∧ fres 12 131 = some (12, 36, 1, false) ∧ dk cX12_noGrowing 101 = some (.iload 4) ∧ dk cX12_noGrowing 103 = some (.iadd) ∧ dk cX12_noGrowing 104 = some (.bipush 16) ∧ dk cX12_noGrowing 106 = some (.if_icmp .le 8) ∧ jok 106 8 = true ∧ jmp 106 8 = 114 ∧ dk cX12_noGrowing 109 = some (.bipush (-4))) ∧ (dk cX12_noGrowing 111 = some (.goto 4) ∧ jok 111 4 = true ∧ jmp 111 4 = 115 ∧ dk cX12_noGrowing 114 = some (.iconst 0) ∧ dk cX12_noGrowing 115 = some (.ireturn)) := ⟨by decide +kernel, by decide +kernel, by decide +kernel, by decide +kernel, by decide +kernel, by decide +kernel, by decide +kernel, by decide +kernel, by decide +kernel, by decide +kernel⟩
set_option maxRecDepth 100000 in
theorem N_X12_noGrowing : ((yM 214).name = "<init>") = False := by simp only [eq_iff_iff, iff_false, iff_true]; decide +kernel
set_option maxRecDepth 100000 in
theorem D_X12_grow : (dk cX12_grow 0 = some (.iload_n 1) ∧ dk cX12_grow 1 = some (.invokestatic 205) ∧ cres 12 205 = some 236 ∧ pM 236 = 1 ∧ sM 236 = true ∧ dk cX12_grow 4 = some (.ifCond .eq 9) ∧ jok 4 9 = true ∧ jmp 4 9 = 13 ∧ dk cX12_grow 7 = some (.aload_n 0) ∧ dk cX12_grow 8 = some (.iconst (-1))) ∧ (dk cX12_grow 9 = some (.invokevirtual 156) ∧ cres 12 156 = some 160 ∧ pM 160 = 1 ∧ sM 160 = false ∧ oM 160 = 12 ∧ dk cX12_grow 12 = some (.ireturn) ∧ dk cX12_grow 13 = some (.aload_n 0) ∧ dk cX12_grow 14 = some (.iload_n 1) ∧ dk cX12_grow 15 = some (.iload_n 2) ∧ dk cX12_grow 16 = some (.iload_n 3)) ∧ (dk cX12_grow 17 = some (.iload 4) ∧ dk cX12_grow 19 = some (.i2l) ∧ dk cX12_grow 20 = some (.invokevirtual 213) ∧ cres 12 213 = some 163 ∧ pM 163 = 4 ∧ sM 163 = false ∧ oM 163 = 12 ∧ dk cX12_grow 23 = some (.istore 5) ∧ dk cX12_grow 25 = some (.iload 5) ∧ dk cX12_grow 27 = some (.ifCond .ge 6)) ∧ (jok 27 6 = true ∧ jmp 27 6 = 33 ∧ dk cX12_grow 30 = some (.iload 5) ∧ dk cX12_grow 32 = some (.ireturn) ∧ dk cX12_grow 33 = some (.bipush 60) ∧ dk cX12_grow 35 = some (.iload_n 1) ∧ dk cX12_grow 36 = some (.imul) ∧ dk cX12_grow 37 = some (.iload_n 3) ∧ dk cX12_grow 38 = some (.iadd) ∧ dk cX12_grow 39 = some (.istore 6)) ∧ (dk cX12_grow 41 = some (.iload 4) ∧ dk cX12_grow 43 = some (.i2l) ∧ dk cX12_grow 44 = some (.lconst 1) ∧ dk cX12_grow 45 = some (.ldc2_w 338) ∧ lres 12 338 = some (10) ∧ dk cX12_grow 48 = some (.invokestatic 143) ∧ cres 12 143 = some 152 ∧ pM 152 = 3 ∧ sM 152 = true ∧ dk cX12_grow 51 = some (.ifCond .eq 16)) ∧ (jok 51 16 = true ∧ jmp 51 16 = 67 ∧ dk cX12_grow 54 = some (.aload_n 0) ∧ dk cX12_grow 55 = some (.iload 6) ∧ dk cX12_grow 57 = some (.iload 4) ∧ dk cX12_grow 59 = some (.iconst 0) ∧ dk cX12_grow 60 = some (.iconst 3) ∧ dk cX12_grow 61 = some (.invokevirtual 219) ∧ cres 12 219 = some 164 ∧ pM 164 = 4) ∧ (sM 164 = false ∧ oM 164 = 12 ∧ dk cX12_grow 64 = some (.ifCond .ne 10) ∧ jok 64 10 = true ∧ jmp 64 10 = 74 ∧ dk cX12_grow 67 = some (.aload_n 0) ∧ dk cX12_grow 68 = some (.bipush (-2)) ∧ dk cX12_grow 70 = some (.invokevirtual 156) ∧ dk cX12_grow 73 = some (.ireturn) ∧ dk cX12_grow 74 = some (.aload_n 0)) ∧ (dk cX12_grow 75 = some (.iload 6) ∧ dk cX12_grow 77 = some (.iload 4) ∧ dk cX12_grow 79 = some (.invokevirtual 340) ∧ cres 12 340 = some 216 ∧ pM 216 = 2 ∧ sM 216 = false ∧ oM 216 = 12 ∧ dk cX12_grow 82 = some (.istore 7) ∧ dk cX12_grow 84 = some (.iload 7) ∧ dk cX12_grow 86 = some (.ifCond .ge 10)) ∧ (jok 86 10 = true ∧ jmp 86 10 = 96 ∧ dk cX12_grow 89 = some (.aload_n 0) ∧ dk cX12_grow 90 = some (.iload 7) ∧ dk cX12_grow 92 = some (.invokevirtual 156) ∧ dk cX12_grow 95 = some (.ireturn) ∧ dk cX12_grow 96 = some (.iconst 0) ∧ dk cX12_grow 97 = some (.istore 8) ∧ dk cX12_grow 99 = some (.iconst 0) ∧ dk cX12_grow 100 = some (.istore 9)) ∧ (dk cX12_grow 102 = some (.iload 9) ∧ dk cX12_grow 104 = some (.iload 4) ∧ dk cX12_grow 106 = some (.if_icmp .ge 66) ∧ jok 106 66 = true ∧ jmp 106 66 = 172 ∧ dk cX12_grow 109 = some (.iconst 4) ∧ dk cX12_grow 110 = some (.iload 8) ∧ dk cX12_grow 112 = some (.imul) ∧ dk cX12_grow 113 = some (.aload_n 0) ∧ dk cX12_grow 114 = some (.getfield 125)) ∧ (fres 12 125 = some (12, 52, 0, true) ∧ dk cX12_grow 117 = some (.iload 6) ∧ dk cX12_grow 119 = some (.iload 9) ∧ dk cX12_grow 121 = some (.iadd) ∧ dk cX12_grow 122 = some (.iaload) ∧ dk cX12_grow 123 = some (.iadd) ∧ dk cX12_grow 124 = some (.istore 10) ∧ dk cX12_grow 126 = some (.aload_n 0) ∧ dk cX12_grow 127 = some (.getfield 88) ∧ fres 12 88 = some (12, 37, 0, true)) ∧ (dk cX12_grow 130 = some (.iload 10) ∧ dk cX12_grow 132 = some (.iaload) ∧ dk cX12_grow 133 = some (.ifCond .ge 24) ∧ jok 133 24 = true ∧ jmp 133 24 = 157 ∧ dk cX12_grow 136 = some (.aload_n 0) ∧ dk cX12_grow 137 = some (.getfield 88) ∧ dk cX12_grow 140 = some (.iload 10) ∧ dk cX12_grow 142 = some (.aload_n 0) ∧ dk cX12_grow 143 = some (.getfield 131)) ∧ (fres 12 131 = some (12, 36, 1, false) ∧ dk cX12_grow 146 = some (.iastore) ∧ dk cX12_grow 147 = some (.aload_n 0) ∧ dk cX12_grow 148 = some (.dup) ∧ dk cX12_grow 149 = some (.getfield 131) ∧ dk cX12_grow 152 = some (.iconst 1) ∧ dk cX12_grow 153 = some (.iadd) ∧ dk cX12_grow 154 = some (.putfield 131) ∧ isBo (tyN 12 36) = false ∧ dk cX12_grow 157 = some (.aload_n 0)) ∧ (dk cX12_grow 158 = some (.getfield 88) ∧ dk cX12_grow 161 = some (.iload 10) ∧ dk cX12_grow 163 = some (.iaload) ∧ dk cX12_grow 164 = some (.istore 8) ∧ dk cX12_grow 166 = some (.iinc 9 1) ∧ dk cX12_grow 169 = some (.goto (-67)) ∧ jok 169 (-67) = true ∧ jmp 169 (-67) = 102 ∧ dk cX12_grow 172 = some (.aload_n 0) ∧ dk cX12_grow 173 = some (.iload 8)) ∧ (dk cX12_grow 175 = some (.invokevirtual 156) ∧ dk cX12_grow 178 = some (.ireturn)) := ⟨by decide +kernel, by decide +kernel, by decide +kernel, by decide +kernel, by decide +kernel, by decide +kernel, by decide +kernel, by decide +kernel, by decide +kernel, by decide +kernel, by decide +kernel, by decide +kernel, by decide +kernel, by decide +kernel, by decide +kernel⟩
set_option maxRecDepth 100000 in
theorem N_X12_grow : ((yM 160).name = "<init>") = False ∧ ((yM 163).name = "<init>") = False ∧ ((yM 164).name = "<init>") = False ∧ ((yM 216).name = "<init>") = False := by simp only [eq_iff_iff, iff_false, iff_true]; decide +kernel
set_option maxRecDepth 100000 in
theorem D_X12_gone : (dk cX12_gone 0 = some (.iload_n 1) ∧ dk cX12_gone 1 = some (.invokestatic 205) ∧ cres 12 205 = some 236 ∧ pM 236 = 1 ∧ sM 236 = true ∧ dk cX12_gone 4 = some (.ifCond .eq 9) ∧ jok 4 9 = true ∧ jmp 4 9 = 13 ∧ dk cX12_gone 7 = some (.aload_n 0) ∧ dk cX12_gone 8 = some (.iconst (-1))) ∧ (dk cX12_gone 9 = some (.invokevirtual 156) ∧ cres 12 156 = some 160 ∧ pM 160 = 1 ∧ sM 160 = false ∧ oM 160 = 12 ∧ dk cX12_gone 12 = some (.ireturn) ∧ dk cX12_gone 13 = some (.aload_n 0) ∧ dk cX12_gone 14 = some (.iload_n 1) ∧ dk cX12_gone 15 = some (.iload_n 2) ∧ dk cX12_gone 16 = some (.iload_n 3)) ∧ (dk cX12_gone 17 = some (.iload 4) ∧ dk cX12_gone 19 = some (.i2l) ∧ dk cX12_gone 20 = some (.invokevirtual 213) ∧ cres 12 213 = some 163 ∧ pM 163 = 4 ∧ sM 163 = false ∧ oM 163 = 12 ∧ dk cX12_gone 23 = some (.istore 5) ∧ dk cX12_gone 25 = some (.iload 5) ∧ dk cX12_gone 27 = some (.ifCond .ge 6)) ∧ (jok 27 6 = true ∧ jmp 27 6 = 33 ∧ dk cX12_gone 30 = some (.iload 5) ∧ dk cX12_gone 32 = some (.ireturn) ∧ dk cX12_gone 33 = some (.bipush 60) ∧ dk cX12_gone 35 = some (.iload_n 1) ∧ dk cX12_gone 36 = some (.imul) ∧ dk cX12_gone 37 = some (.iload_n 3) ∧ dk cX12_gone 38 = some (.iadd) ∧ dk cX12_gone 39 = some (.istore 6)) ∧ (dk cX12_gone 41 = some (.iload 4) ∧ dk cX12_gone 43 = some (.bipush 10) ∧ dk cX12_gone 45 = some (.if_icmp .gt 16) ∧ jok 45 16 = true ∧ jmp 45 16 = 61 ∧ dk cX12_gone 48 = some (.aload_n 0) ∧ dk cX12_gone 49 = some (.iload 6) ∧ dk cX12_gone 51 = some (.iload 4) ∧ dk cX12_gone 53 = some (.iconst 0) ∧ dk cX12_gone 54 = some (.iconst 3)) ∧ (dk cX12_gone 55 = some (.invokevirtual 219) ∧ cres 12 219 = some 164 ∧ pM 164 = 4 ∧ sM 164 = false ∧ oM 164 = 12 ∧ dk cX12_gone 58 = some (.ifCond .ne 10) ∧ jok 58 10 = true ∧ jmp 58 10 = 68 ∧ dk cX12_gone 61 = some (.aload_n 0) ∧ dk cX12_gone 62 = some (.bipush (-2))) ∧ (dk cX12_gone 64 = some (.invokevirtual 156) ∧ dk cX12_gone 67 = some (.ireturn) ∧ dk cX12_gone 68 = some (.iconst 0) ∧ dk cX12_gone 69 = some (.istore 7) ∧ dk cX12_gone 71 = some (.iconst 0) ∧ dk cX12_gone 72 = some (.istore 8) ∧ dk cX12_gone 74 = some (.iload 8) ∧ dk cX12_gone 76 = some (.iload 4) ∧ dk cX12_gone 78 = some (.if_icmp .ge 94) ∧ jok 78 94 = true) ∧ (jmp 78 94 = 172 ∧ dk cX12_gone 81 = some (.iload 8) ∧ dk cX12_gone 83 = some (.ifCond .le 36) ∧ jok 83 36 = true ∧ jmp 83 36 = 119 ∧ dk cX12_gone 86 = some (.aload_n 0) ∧ dk cX12_gone 87 = some (.aload_n 0) ∧ dk cX12_gone 88 = some (.getfield 125) ∧ fres 12 125 = some (12, 52, 0, true) ∧ dk cX12_gone 91 = some (.iload 6)) ∧ (dk cX12_gone 93 = some (.iload 8) ∧ dk cX12_gone 95 = some (.iadd) ∧ dk cX12_gone 96 = some (.iconst 1) ∧ dk cX12_gone 97 = some (.isub) ∧ dk cX12_gone 98 = some (.iaload) ∧ dk cX12_gone 99 = some (.aload_n 0) ∧ dk cX12_gone 100 = some (.getfield 125) ∧ dk cX12_gone 103 = some (.iload 6) ∧ dk cX12_gone 105 = some (.iload 8) ∧ dk cX12_gone 107 = some (.iadd)) ∧ (dk cX12_gone 108 = some (.iaload) ∧ dk cX12_gone 109 = some (.invokevirtual 335) ∧ cres 12 335 = some 214 ∧ pM 214 = 2 ∧ sM 214 = false ∧ oM 214 = 12 ∧ dk cX12_gone 112 = some (.ifCond .eq 7) ∧ jok 112 7 = true ∧ jmp 112 7 = 119 ∧ dk cX12_gone 115 = some (.iconst 1)) ∧ (dk cX12_gone 116 = some (.goto 4) ∧ jok 116 4 = true ∧ jmp 116 4 = 120 ∧ dk cX12_gone 119 = some (.iconst 0) ∧ dk cX12_gone 120 = some (.istore 9) ∧ dk cX12_gone 122 = some (.iload 9) ∧ dk cX12_gone 124 = some (.ifCond .eq 8) ∧ jok 124 8 = true ∧ jmp 124 8 = 132 ∧ dk cX12_gone 127 = some (.bipush (-9))) ∧ (dk cX12_gone 129 = some (.goto 23) ∧ jok 129 23 = true ∧ jmp 129 23 = 152 ∧ dk cX12_gone 132 = some (.aload_n 0) ∧ dk cX12_gone 133 = some (.getfield 88) ∧ fres 12 88 = some (12, 37, 0, true) ∧ dk cX12_gone 136 = some (.iconst 4) ∧ dk cX12_gone 137 = some (.iload 7) ∧ dk cX12_gone 139 = some (.imul) ∧ dk cX12_gone 140 = some (.aload_n 0)) ∧ (dk cX12_gone 141 = some (.getfield 125) ∧ dk cX12_gone 144 = some (.iload 6) ∧ dk cX12_gone 146 = some (.iload 8) ∧ dk cX12_gone 148 = some (.iadd) ∧ dk cX12_gone 149 = some (.iaload) ∧ dk cX12_gone 150 = some (.iadd) ∧ dk cX12_gone 151 = some (.iaload) ∧ dk cX12_gone 152 = some (.istore 7) ∧ dk cX12_gone 154 = some (.iload 7) ∧ dk cX12_gone 156 = some (.ifCond .ge 10)) ∧ (jok 156 10 = true ∧ jmp 156 10 = 166 ∧ dk cX12_gone 159 = some (.aload_n 0) ∧ dk cX12_gone 160 = some (.iload 8) ∧ dk cX12_gone 162 = some (.invokevirtual 156) ∧ dk cX12_gone 165 = some (.ireturn) ∧ dk cX12_gone 166 = some (.iinc 8 1) ∧ dk cX12_gone 169 = some (.goto (-95)) ∧ jok 169 (-95) = true ∧ jmp 169 (-95) = 74) ∧ (dk cX12_gone 172 = some (.aload_n 0) ∧ dk cX12_gone 173 = some (.iload 4) ∧ dk cX12_gone 175 = some (.invokevirtual 156) ∧ dk cX12_gone 178 = some (.ireturn)) := ⟨by decide +kernel, by decide +kernel, by decide +kernel, by decide +kernel, by decide +kernel, by decide +kernel, by decide +kernel, by decide +kernel, by decide +kernel, by decide +kernel, by decide +kernel, by decide +kernel, by decide +kernel, by decide +kernel, by decide +kernel⟩
set_option maxRecDepth 100000 in
theorem N_X12_gone : ((yM 160).name = "<init>") = False ∧ ((yM 163).name = "<init>") = False ∧ ((yM 164).name = "<init>") = False ∧ ((yM 214).name = "<init>") = False := by simp only [eq_iff_iff, iff_false, iff_true]; decide +kernel
set_option maxRecDepth 100000 in
theorem D_X12_noState : (dk cX12_noState 0 = some (.iload_n 1) ∧ dk cX12_noState 1 = some (.i2l) ∧ dk cX12_noState 2 = some (.lconst 0) ∧ dk cX12_noState 3 = some (.aload_n 0) ∧ dk cX12_noState 4 = some (.getfield 131) ∧ fres 12 131 = some (12, 36, 1, false) ∧ dk cX12_noState 7 = some (.i2l) ∧ dk cX12_noState 8 = some (.lconst 1) ∧ dk cX12_noState 9 = some (.lsub) ∧ dk cX12_noState 10 = some (.invokestatic 143)) ∧ (cres 12 143 = some 152 ∧ pM 152 = 3 ∧ sM 152 = true ∧ dk cX12_noState 13 = some (.ifCond .ne 7) ∧ jok 13 7 = true ∧ jmp 13 7 = 20 ∧ dk cX12_noState 16 = some (.iconst 1) ∧ dk cX12_noState 17 = some (.goto 4) ∧ jok 17 4 = true ∧ jmp 17 4 = 21) ∧ (dk cX12_noState 20 = some (.iconst 0) ∧ dk cX12_noState 21 = some (.ireturn)) := ⟨by decide +kernel, by decide +kernel, by decide +kernel⟩
set_option maxRecDepth 100000 in
theorem D_X12_answer : (dk cX12_answer 0 = some (.aload_n 0) ∧ dk cX12_answer 1 = some (.iload_n 1) ∧ dk cX12_answer 2 = some (.invokevirtual 343) ∧ cres 12 343 = some 219 ∧ pM 219 = 1 ∧ sM 219 = false ∧ oM 219 = 12 ∧ dk cX12_answer 5 = some (.ifCond .eq 5) ∧ jok 5 5 = true ∧ jmp 5 5 = 10) ∧ (dk cX12_answer 8 = some (.iconst (-1)) ∧ dk cX12_answer 9 = some (.ireturn) ∧ dk cX12_answer 10 = some (.iload_n 2) ∧ dk cX12_answer 11 = some (.i2l) ∧ dk cX12_answer 12 = some (.lconst 0) ∧ dk cX12_answer 13 = some (.ldc2_w 321) ∧ lres 12 321 = some (99) ∧ dk cX12_answer 16 = some (.invokestatic 143) ∧ cres 12 143 = some 152 ∧ pM 152 = 3) ∧ (sM 152 = true ∧ dk cX12_answer 19 = some (.ifCond .ne 6) ∧ jok 19 6 = true ∧ jmp 19 6 = 25 ∧ dk cX12_answer 22 = some (.bipush (-2)) ∧ dk cX12_answer 24 = some (.ireturn) ∧ dk cX12_answer 25 = some (.aload_n 0) ∧ dk cX12_answer 26 = some (.getfield 91) ∧ fres 12 91 = some (12, 38, 0, true) ∧ dk cX12_answer 29 = some (.iload_n 1)) ∧ (dk cX12_answer 30 = some (.iaload) ∧ dk cX12_answer 31 = some (.istore_n 3) ∧ dk cX12_answer 32 = some (.aload_n 0) ∧ dk cX12_answer 33 = some (.getfield 91) ∧ dk cX12_answer 36 = some (.iload_n 1) ∧ dk cX12_answer 37 = some (.iload_n 2) ∧ dk cX12_answer 38 = some (.iastore) ∧ dk cX12_answer 39 = some (.iload_n 3) ∧ dk cX12_answer 40 = some (.ireturn)) := ⟨by decide +kernel, by decide +kernel, by decide +kernel, by decide +kernel⟩
set_option maxRecDepth 100000 in
theorem N_X12_answer : ((yM 219).name = "<init>") = False := by simp only [eq_iff_iff, iff_false, iff_true]; decide +kernel
set_option maxRecDepth 100000 in
theorem D_X12_next : (dk cX12_next 0 = some (.aload_n 0) ∧ dk cX12_next 1 = some (.iload_n 1) ∧ dk cX12_next 2 = some (.invokevirtual 343) ∧ cres 12 343 = some 219 ∧ pM 219 = 1 ∧ sM 219 = false ∧ oM 219 = 12 ∧ dk cX12_next 5 = some (.ifCond .eq 5) ∧ jok 5 5 = true ∧ jmp 5 5 = 10) ∧ (dk cX12_next 8 = some (.iconst (-1)) ∧ dk cX12_next 9 = some (.ireturn) ∧ dk cX12_next 10 = some (.iload_n 2) ∧ dk cX12_next 11 = some (.invokestatic 332) ∧ cres 12 332 = some 213 ∧ pM 213 = 1 ∧ sM 213 = true ∧ dk cX12_next 14 = some (.ifCond .eq 16) ∧ jok 14 16 = true ∧ jmp 14 16 = 30) ∧ (dk cX12_next 17 = some (.aload_n 0) ∧ dk cX12_next 18 = some (.getfield 88) ∧ fres 12 88 = some (12, 37, 0, true) ∧ dk cX12_next 21 = some (.iconst 4) ∧ dk cX12_next 22 = some (.iload_n 1) ∧ dk cX12_next 23 = some (.imul) ∧ dk cX12_next 24 = some (.iload_n 2) ∧ dk cX12_next 25 = some (.iadd) ∧ dk cX12_next 26 = some (.iaload) ∧ dk cX12_next 27 = some (.goto 5)) ∧ (jok 27 5 = true ∧ jmp 27 5 = 32 ∧ dk cX12_next 30 = some (.bipush (-2)) ∧ dk cX12_next 32 = some (.ireturn)) := ⟨by decide +kernel, by decide +kernel, by decide +kernel, by decide +kernel⟩
set_option maxRecDepth 100000 in
theorem N_X12_next : ((yM 219).name = "<init>") = False := by simp only [eq_iff_iff, iff_false, iff_true]; decide +kernel
set_option maxRecDepth 100000 in
theorem D_X12_rows : (dk cX12_rows 0 = some (.iload_n 1) ∧ dk cX12_rows 1 = some (.i2l) ∧ dk cX12_rows 2 = some (.lconst 0) ∧ dk cX12_rows 3 = some (.ldc2_w 217) ∧ lres 12 217 = some (20) ∧ dk cX12_rows 6 = some (.invokestatic 143) ∧ cres 12 143 = some 152 ∧ pM 152 = 3 ∧ sM 152 = true ∧ dk cX12_rows 9 = some (.ifCond .ne 6)) ∧ (jok 9 6 = true ∧ jmp 9 6 = 15 ∧ dk cX12_rows 12 = some (.bipush (-2)) ∧ dk cX12_rows 14 = some (.ireturn) ∧ dk cX12_rows 15 = some (.iconst 0) ∧ dk cX12_rows 16 = some (.istore_n 2) ∧ dk cX12_rows 17 = some (.iload_n 2) ∧ dk cX12_rows 18 = some (.bipush 80) ∧ dk cX12_rows 20 = some (.if_icmp .ge 25) ∧ jok 20 25 = true) ∧ (jmp 20 25 = 45 ∧ dk cX12_rows 23 = some (.aload_n 0) ∧ dk cX12_rows 24 = some (.getfield 94) ∧ fres 12 94 = some (12, 40, 0, true) ∧ dk cX12_rows 27 = some (.iload_n 2) ∧ dk cX12_rows 28 = some (.iload_n 2) ∧ dk cX12_rows 29 = some (.iconst 4) ∧ dk cX12_rows 30 = some (.if_icmp .ne 7) ∧ jok 30 7 = true ∧ jmp 30 7 = 37) ∧ (dk cX12_rows 33 = some (.iconst 1) ∧ dk cX12_rows 34 = some (.goto 4) ∧ jok 34 4 = true ∧ jmp 34 4 = 38 ∧ dk cX12_rows 37 = some (.iconst 0) ∧ dk cX12_rows 38 = some (.iastore) ∧ dk cX12_rows 39 = some (.iinc 2 1) ∧ dk cX12_rows 42 = some (.goto (-25)) ∧ jok 42 (-25) = true ∧ jmp 42 (-25) = 17) ∧ (dk cX12_rows 45 = some (.iconst 0) ∧ dk cX12_rows 46 = some (.istore_n 2) ∧ dk cX12_rows 47 = some (.iload_n 2) ∧ dk cX12_rows 48 = some (.iload_n 1) ∧ dk cX12_rows 49 = some (.if_icmp .ge 170) ∧ jok 49 170 = true ∧ jmp 49 170 = 219 ∧ dk cX12_rows 52 = some (.iconst 0) ∧ dk cX12_rows 53 = some (.istore_n 3) ∧ dk cX12_rows 54 = some (.iload_n 3)) ∧ (dk cX12_rows 55 = some (.bipush 80) ∧ dk cX12_rows 57 = some (.if_icmp .ge 16) ∧ jok 57 16 = true ∧ jmp 57 16 = 73 ∧ dk cX12_rows 60 = some (.aload_n 0) ∧ dk cX12_rows 61 = some (.getfield 97) ∧ fres 12 97 = some (12, 41, 0, true) ∧ dk cX12_rows 64 = some (.iload_n 3) ∧ dk cX12_rows 65 = some (.iconst 0) ∧ dk cX12_rows 66 = some (.iastore)) ∧ (dk cX12_rows 67 = some (.iinc 3 1) ∧ dk cX12_rows 70 = some (.goto (-16)) ∧ jok 70 (-16) = true ∧ jmp 70 (-16) = 54 ∧ dk cX12_rows 73 = some (.iconst 0) ∧ dk cX12_rows 74 = some (.istore_n 3) ∧ dk cX12_rows 75 = some (.iload_n 3) ∧ dk cX12_rows 76 = some (.iconst 5) ∧ dk cX12_rows 77 = some (.aload_n 0) ∧ dk cX12_rows 78 = some (.getfield 131)) ∧ (fres 12 131 = some (12, 36, 1, false) ∧ dk cX12_rows 81 = some (.imul) ∧ dk cX12_rows 82 = some (.if_icmp .ge 105) ∧ jok 82 105 = true ∧ jmp 82 105 = 187 ∧ dk cX12_rows 85 = some (.iconst 0) ∧ dk cX12_rows 86 = some (.istore 4) ∧ dk cX12_rows 88 = some (.iload 4) ∧ dk cX12_rows 90 = some (.iconst 4) ∧ dk cX12_rows 91 = some (.if_icmp .ge 90)) ∧ (jok 91 90 = true ∧ jmp 91 90 = 181 ∧ dk cX12_rows 94 = some (.aload_n 0) ∧ dk cX12_rows 95 = some (.getfield 94) ∧ dk cX12_rows 98 = some (.iload_n 3) ∧ dk cX12_rows 99 = some (.iaload) ∧ dk cX12_rows 100 = some (.ifCond .le 81) ∧ jok 100 81 = true ∧ jmp 100 81 = 181 ∧ dk cX12_rows 103 = some (.aload_n 0)) ∧ (dk cX12_rows 104 = some (.getfield 88) ∧ fres 12 88 = some (12, 37, 0, true) ∧ dk cX12_rows 107 = some (.iconst 4) ∧ dk cX12_rows 108 = some (.iload_n 3) ∧ dk cX12_rows 109 = some (.iconst 5) ∧ dk cX12_rows 110 = some (.idiv) ∧ dk cX12_rows 111 = some (.imul) ∧ dk cX12_rows 112 = some (.iload 4) ∧ dk cX12_rows 114 = some (.iadd) ∧ dk cX12_rows 115 = some (.iaload)) ∧ (dk cX12_rows 116 = some (.istore 5) ∧ dk cX12_rows 118 = some (.iload 5) ∧ dk cX12_rows 120 = some (.ifCond .lt 26) ∧ jok 120 26 = true ∧ jmp 120 26 = 146 ∧ dk cX12_rows 123 = some (.iload_n 3) ∧ dk cX12_rows 124 = some (.iconst 5) ∧ dk cX12_rows 125 = some (.irem) ∧ dk cX12_rows 126 = some (.iconst 4) ∧ dk cX12_rows 127 = some (.if_icmp .ge 15)) ∧ (jok 127 15 = true ∧ jmp 127 15 = 142 ∧ dk cX12_rows 130 = some (.aload_n 0) ∧ dk cX12_rows 131 = some (.iload_n 3) ∧ dk cX12_rows 132 = some (.iconst 5) ∧ dk cX12_rows 133 = some (.irem) ∧ dk cX12_rows 134 = some (.iload 4) ∧ dk cX12_rows 136 = some (.invokevirtual 335) ∧ cres 12 335 = some 214 ∧ pM 214 = 2) ∧ (sM 214 = false ∧ oM 214 = 12 ∧ dk cX12_rows 139 = some (.ifCond .ne 7) ∧ jok 139 7 = true ∧ jmp 139 7 = 146 ∧ dk cX12_rows 142 = some (.iconst 1) ∧ dk cX12_rows 143 = some (.goto 4) ∧ jok 143 4 = true ∧ jmp 143 4 = 147 ∧ dk cX12_rows 146 = some (.iconst 0)) ∧ (dk cX12_rows 147 = some (.istore 6) ∧ dk cX12_rows 149 = some (.iload 6) ∧ dk cX12_rows 151 = some (.ifCond .eq 24) ∧ jok 151 24 = true ∧ jmp 151 24 = 175 ∧ dk cX12_rows 154 = some (.aload_n 0) ∧ dk cX12_rows 155 = some (.getfield 97) ∧ dk cX12_rows 158 = some (.iconst 5) ∧ dk cX12_rows 159 = some (.iload 5) ∧ dk cX12_rows 161 = some (.imul)) ∧ (dk cX12_rows 162 = some (.iload 4) ∧ dk cX12_rows 164 = some (.iadd) ∧ dk cX12_rows 165 = some (.dup2) ∧ dk cX12_rows 166 = some (.iaload) ∧ dk cX12_rows 167 = some (.aload_n 0) ∧ dk cX12_rows 168 = some (.getfield 94) ∧ dk cX12_rows 171 = some (.iload_n 3) ∧ dk cX12_rows 172 = some (.iaload) ∧ dk cX12_rows 173 = some (.iadd) ∧ dk cX12_rows 174 = some (.iastore)) ∧ (dk cX12_rows 175 = some (.iinc 4 1) ∧ dk cX12_rows 178 = some (.goto (-90)) ∧ jok 178 (-90) = true ∧ jmp 178 (-90) = 88 ∧ dk cX12_rows 181 = some (.iinc 3 1) ∧ dk cX12_rows 184 = some (.goto (-109)) ∧ jok 184 (-109) = true ∧ jmp 184 (-109) = 75 ∧ dk cX12_rows 187 = some (.iconst 0) ∧ dk cX12_rows 188 = some (.istore_n 3)) ∧ (dk cX12_rows 189 = some (.iload_n 3) ∧ dk cX12_rows 190 = some (.bipush 80) ∧ dk cX12_rows 192 = some (.if_icmp .ge 21) ∧ jok 192 21 = true ∧ jmp 192 21 = 213 ∧ dk cX12_rows 195 = some (.aload_n 0) ∧ dk cX12_rows 196 = some (.getfield 94) ∧ dk cX12_rows 199 = some (.iload_n 3) ∧ dk cX12_rows 200 = some (.aload_n 0) ∧ dk cX12_rows 201 = some (.getfield 97)) ∧ (dk cX12_rows 204 = some (.iload_n 3) ∧ dk cX12_rows 205 = some (.iaload) ∧ dk cX12_rows 206 = some (.iastore) ∧ dk cX12_rows 207 = some (.iinc 3 1) ∧ dk cX12_rows 210 = some (.goto (-21)) ∧ jok 210 (-21) = true ∧ jmp 210 (-21) = 189 ∧ dk cX12_rows 213 = some (.iinc 2 1) ∧ dk cX12_rows 216 = some (.goto (-169)) ∧ jok 216 (-169) = true) ∧ (jmp 216 (-169) = 47 ∧ dk cX12_rows 219 = some (.iconst 0) ∧ dk cX12_rows 220 = some (.istore_n 2) ∧ dk cX12_rows 221 = some (.iconst 0) ∧ dk cX12_rows 222 = some (.istore_n 3) ∧ dk cX12_rows 223 = some (.iload_n 3) ∧ dk cX12_rows 224 = some (.bipush 80) ∧ dk cX12_rows 226 = some (.if_icmp .ge 18) ∧ jok 226 18 = true ∧ jmp 226 18 = 244) ∧ (dk cX12_rows 229 = some (.iload_n 2) ∧ dk cX12_rows 230 = some (.aload_n 0) ∧ dk cX12_rows 231 = some (.getfield 94) ∧ dk cX12_rows 234 = some (.iload_n 3) ∧ dk cX12_rows 235 = some (.iaload) ∧ dk cX12_rows 236 = some (.iadd) ∧ dk cX12_rows 237 = some (.istore_n 2) ∧ dk cX12_rows 238 = some (.iinc 3 1) ∧ dk cX12_rows 241 = some (.goto (-18)) ∧ jok 241 (-18) = true) ∧ (jmp 241 (-18) = 223 ∧ dk cX12_rows 244 = some (.iload_n 2) ∧ dk cX12_rows 245 = some (.ireturn)) := ⟨by decide +kernel, by decide +kernel, by decide +kernel, by decide +kernel, by decide +kernel, by decide +kernel, by decide +kernel, by decide +kernel, by decide +kernel, by decide +kernel, by decide +kernel, by decide +kernel, by decide +kernel, by decide +kernel, by decide +kernel, by decide +kernel, by decide +kernel, by decide +kernel, by decide +kernel, by decide +kernel, by decide +kernel⟩
set_option maxRecDepth 100000 in
theorem N_X12_rows : ((yM 214).name = "<init>") = False := by simp only [eq_iff_iff, iff_false, iff_true]; decide +kernel
set_option maxRecDepth 100000 in
theorem D_X12_work : (dk cX12_work 0 = some (.iload_n 1) ∧ dk cX12_work 1 = some (.invokestatic 169) ∧ cres 12 169 = some 165 ∧ pM 165 = 1 ∧ sM 165 = true ∧ dk cX12_work 4 = some (.ifCond .ne 10) ∧ jok 4 10 = true ∧ jmp 4 10 = 14 ∧ dk cX12_work 7 = some (.iload_n 2) ∧ dk cX12_work 8 = some (.invokestatic 169)) ∧ (dk cX12_work 11 = some (.ifCond .eq 5) ∧ jok 11 5 = true ∧ jmp 11 5 = 16 ∧ dk cX12_work 14 = some (.iconst (-1)) ∧ dk cX12_work 15 = some (.ireturn) ∧ dk cX12_work 16 = some (.iload_n 1) ∧ dk cX12_work 17 = some (.iload_n 2) ∧ dk cX12_work 18 = some (.if_icmp .eq 15) ∧ jok 18 15 = true ∧ jmp 18 15 = 33) ∧ (dk cX12_work 21 = some (.iload_n 3) ∧ dk cX12_work 22 = some (.i2l) ∧ dk cX12_work 23 = some (.lconst 1) ∧ dk cX12_work 24 = some (.ldc2_w 321) ∧ lres 12 321 = some (99) ∧ dk cX12_work 27 = some (.invokestatic 143) ∧ cres 12 143 = some 152 ∧ pM 152 = 3 ∧ sM 152 = true ∧ dk cX12_work 30 = some (.ifCond .ne 6)) ∧ (jok 30 6 = true ∧ jmp 30 6 = 36 ∧ dk cX12_work 33 = some (.bipush (-2)) ∧ dk cX12_work 35 = some (.ireturn) ∧ dk cX12_work 36 = some (.aload_n 0) ∧ dk cX12_work 37 = some (.getfield 346) ∧ fres 12 346 = some (12, 42, 1, false) ∧ dk cX12_work 40 = some (.bipush 8) ∧ dk cX12_work 42 = some (.if_icmp .ne 6) ∧ jok 42 6 = true) ∧ (jmp 42 6 = 48 ∧ dk cX12_work 45 = some (.bipush (-4)) ∧ dk cX12_work 47 = some (.ireturn) ∧ dk cX12_work 48 = some (.aload_n 0) ∧ dk cX12_work 49 = some (.getfield 100) ∧ fres 12 100 = some (12, 43, 0, true) ∧ dk cX12_work 52 = some (.aload_n 0) ∧ dk cX12_work 53 = some (.getfield 346) ∧ dk cX12_work 56 = some (.iload_n 1) ∧ dk cX12_work 57 = some (.iastore)) ∧ (dk cX12_work 58 = some (.aload_n 0) ∧ dk cX12_work 59 = some (.getfield 103) ∧ fres 12 103 = some (12, 44, 0, true) ∧ dk cX12_work 62 = some (.aload_n 0) ∧ dk cX12_work 63 = some (.getfield 346) ∧ dk cX12_work 66 = some (.iload_n 2) ∧ dk cX12_work 67 = some (.iastore) ∧ dk cX12_work 68 = some (.aload_n 0) ∧ dk cX12_work 69 = some (.getfield 106) ∧ fres 12 106 = some (12, 45, 0, true)) ∧ (dk cX12_work 72 = some (.aload_n 0) ∧ dk cX12_work 73 = some (.getfield 346) ∧ dk cX12_work 76 = some (.iload_n 3) ∧ dk cX12_work 77 = some (.iastore) ∧ dk cX12_work 78 = some (.aload_n 0) ∧ dk cX12_work 79 = some (.dup) ∧ dk cX12_work 80 = some (.getfield 346) ∧ dk cX12_work 83 = some (.iconst 1) ∧ dk cX12_work 84 = some (.iadd) ∧ dk cX12_work 85 = some (.putfield 346)) ∧ (isBo (tyN 12 42) = false ∧ dk cX12_work 88 = some (.aload_n 0) ∧ dk cX12_work 89 = some (.getfield 346) ∧ dk cX12_work 92 = some (.iconst 1) ∧ dk cX12_work 93 = some (.isub) ∧ dk cX12_work 94 = some (.ireturn)) := ⟨by decide +kernel, by decide +kernel, by decide +kernel, by decide +kernel, by decide +kernel, by decide +kernel, by decide +kernel, by decide +kernel⟩
set_option maxRecDepth 100000 in
theorem D_X12_areDoors : (dk cX12_areDoors 0 = some (.iload_n 1) ∧ dk cX12_areDoors 1 = some (.i2l) ∧ dk cX12_areDoors 2 = some (.lconst 0) ∧ dk cX12_areDoors 3 = some (.lconst 1) ∧ dk cX12_areDoors 4 = some (.aload_n 0) ∧ dk cX12_areDoors 5 = some (.getfield 183) ∧ fres 12 183 = some (12, 4, 1, false) ∧ dk cX12_areDoors 8 = some (.lshl) ∧ dk cX12_areDoors 9 = some (.lconst 1) ∧ dk cX12_areDoors 10 = some (.lsub)) ∧ (dk cX12_areDoors 11 = some (.invokestatic 143) ∧ cres 12 143 = some 152 ∧ pM 152 = 3 ∧ sM 152 = true ∧ dk cX12_areDoors 14 = some (.ireturn)) := ⟨by decide +kernel, by decide +kernel⟩
set_option maxRecDepth 100000 in
theorem D_X12_stillBy : (dk cX12_stillBy 0 = some (.iconst 0) ∧ dk cX12_stillBy 1 = some (.istore_n 2) ∧ dk cX12_stillBy 2 = some (.iconst 0) ∧ dk cX12_stillBy 3 = some (.istore_n 3) ∧ dk cX12_stillBy 4 = some (.iload_n 3) ∧ dk cX12_stillBy 5 = some (.aload_n 0) ∧ dk cX12_stillBy 6 = some (.getfield 346) ∧ fres 12 346 = some (12, 42, 1, false) ∧ dk cX12_stillBy 9 = some (.if_icmp .ge 45) ∧ jok 9 45 = true) ∧ (jmp 9 45 = 54 ∧ dk cX12_stillBy 12 = some (.aload_n 0) ∧ dk cX12_stillBy 13 = some (.aload_n 0) ∧ dk cX12_stillBy 14 = some (.getfield 100) ∧ fres 12 100 = some (12, 43, 0, true) ∧ dk cX12_stillBy 17 = some (.iload_n 3) ∧ dk cX12_stillBy 18 = some (.iaload) ∧ dk cX12_stillBy 19 = some (.iload_n 1) ∧ dk cX12_stillBy 20 = some (.iconst 0) ∧ dk cX12_stillBy 21 = some (.invokevirtual 192)) ∧ (cres 12 192 = some 172 ∧ pM 172 = 3 ∧ sM 172 = false ∧ oM 172 = 12 ∧ dk cX12_stillBy 24 = some (.iload_n 2) ∧ dk cX12_stillBy 25 = some (.aload_n 0) ∧ dk cX12_stillBy 26 = some (.getfield 25) ∧ fres 12 25 = some (12, 8, 0, true) ∧ dk cX12_stillBy 29 = some (.aload_n 0) ∧ dk cX12_stillBy 30 = some (.getfield 103)) ∧ (fres 12 103 = some (12, 44, 0, true) ∧ dk cX12_stillBy 33 = some (.iload_n 3) ∧ dk cX12_stillBy 34 = some (.iaload) ∧ dk cX12_stillBy 35 = some (.iaload) ∧ dk cX12_stillBy 36 = some (.ifCond .ge 9) ∧ jok 36 9 = true ∧ jmp 36 9 = 45 ∧ dk cX12_stillBy 39 = some (.iconst 1) ∧ dk cX12_stillBy 40 = some (.iload_n 3) ∧ dk cX12_stillBy 41 = some (.ishl)) ∧ (dk cX12_stillBy 42 = some (.goto 4) ∧ jok 42 4 = true ∧ jmp 42 4 = 46 ∧ dk cX12_stillBy 45 = some (.iconst 0) ∧ dk cX12_stillBy 46 = some (.ior) ∧ dk cX12_stillBy 47 = some (.istore_n 2) ∧ dk cX12_stillBy 48 = some (.iinc 3 1) ∧ dk cX12_stillBy 51 = some (.goto (-47)) ∧ jok 51 (-47) = true ∧ jmp 51 (-47) = 4) ∧ (dk cX12_stillBy 54 = some (.iload_n 2) ∧ dk cX12_stillBy 55 = some (.ireturn)) := ⟨by decide +kernel, by decide +kernel, by decide +kernel, by decide +kernel, by decide +kernel, by decide +kernel⟩
set_option maxRecDepth 100000 in
theorem N_X12_stillBy : ((yM 172).name = "<init>") = False := by simp only [eq_iff_iff, iff_false, iff_true]; decide +kernel
set_option maxRecDepth 100000 in
theorem D_X12_harmOf : (dk cX12_harmOf 0 = some (.iconst 0) ∧ dk cX12_harmOf 1 = some (.istore_n 2) ∧ dk cX12_harmOf 2 = some (.iconst 0) ∧ dk cX12_harmOf 3 = some (.istore_n 3) ∧ dk cX12_harmOf 4 = some (.iload_n 3) ∧ dk cX12_harmOf 5 = some (.aload_n 0) ∧ dk cX12_harmOf 6 = some (.getfield 346) ∧ fres 12 346 = some (12, 42, 1, false) ∧ dk cX12_harmOf 9 = some (.if_icmp .ge 30) ∧ jok 9 30 = true) ∧ (jmp 9 30 = 39 ∧ dk cX12_harmOf 12 = some (.iload_n 2) ∧ dk cX12_harmOf 13 = some (.iload_n 1) ∧ dk cX12_harmOf 14 = some (.iload_n 3) ∧ dk cX12_harmOf 15 = some (.invokestatic 173) ∧ cres 12 173 = some 154 ∧ pM 154 = 2 ∧ sM 154 = true ∧ dk cX12_harmOf 18 = some (.ifCond .eq 12) ∧ jok 18 12 = true) ∧ (jmp 18 12 = 30 ∧ dk cX12_harmOf 21 = some (.aload_n 0) ∧ dk cX12_harmOf 22 = some (.getfield 106) ∧ fres 12 106 = some (12, 45, 0, true) ∧ dk cX12_harmOf 25 = some (.iload_n 3) ∧ dk cX12_harmOf 26 = some (.iaload) ∧ dk cX12_harmOf 27 = some (.goto 4) ∧ jok 27 4 = true ∧ jmp 27 4 = 31 ∧ dk cX12_harmOf 30 = some (.iconst 0)) ∧ (dk cX12_harmOf 31 = some (.iadd) ∧ dk cX12_harmOf 32 = some (.istore_n 2) ∧ dk cX12_harmOf 33 = some (.iinc 3 1) ∧ dk cX12_harmOf 36 = some (.goto (-32)) ∧ jok 36 (-32) = true ∧ jmp 36 (-32) = 4 ∧ dk cX12_harmOf 39 = some (.iload_n 2) ∧ dk cX12_harmOf 40 = some (.ireturn)) := ⟨by decide +kernel, by decide +kernel, by decide +kernel, by decide +kernel⟩
set_option maxRecDepth 100000 in
theorem D_X12_still : (dk cX12_still 0 = some (.aload_n 0) ∧ dk cX12_still 1 = some (.iload_n 1) ∧ dk cX12_still 2 = some (.invokevirtual 349) ∧ cres 12 349 = some 224 ∧ pM 224 = 1 ∧ sM 224 = false ∧ oM 224 = 12 ∧ dk cX12_still 5 = some (.ifCond .eq 13) ∧ jok 5 13 = true ∧ jmp 5 13 = 18) ∧ (dk cX12_still 8 = some (.iload_n 2) ∧ dk cX12_still 9 = some (.i2l) ∧ dk cX12_still 10 = some (.lconst 0) ∧ dk cX12_still 11 = some (.lconst 1) ∧ dk cX12_still 12 = some (.invokestatic 143) ∧ cres 12 143 = some 152 ∧ pM 152 = 3 ∧ sM 152 = true ∧ dk cX12_still 15 = some (.ifCond .ne 6) ∧ jok 15 6 = true) ∧ (jmp 15 6 = 21 ∧ dk cX12_still 18 = some (.bipush (-2)) ∧ dk cX12_still 20 = some (.ireturn) ∧ dk cX12_still 21 = some (.aload_n 0) ∧ dk cX12_still 22 = some (.aload_n 0) ∧ dk cX12_still 23 = some (.getfield 177) ∧ fres 12 177 = some (12, 7, 1, false) ∧ dk cX12_still 26 = some (.iload_n 1) ∧ dk cX12_still 27 = some (.ior) ∧ dk cX12_still 28 = some (.invokevirtual 352)) ∧ (cres 12 352 = some 225 ∧ pM 225 = 1 ∧ sM 225 = false ∧ oM 225 = 12 ∧ dk cX12_still 31 = some (.istore_n 3) ∧ dk cX12_still 32 = some (.iload_n 2) ∧ dk cX12_still 33 = some (.ifCond .ne 7) ∧ jok 33 7 = true ∧ jmp 33 7 = 40 ∧ dk cX12_still 36 = some (.iload_n 3)) ∧ (dk cX12_still 37 = some (.goto 8) ∧ jok 37 8 = true ∧ jmp 37 8 = 45 ∧ dk cX12_still 40 = some (.aload_n 0) ∧ dk cX12_still 41 = some (.iload_n 3) ∧ dk cX12_still 42 = some (.invokevirtual 355) ∧ cres 12 355 = some 226 ∧ pM 226 = 1 ∧ sM 226 = false ∧ oM 226 = 12) ∧ (dk cX12_still 45 = some (.ireturn)) := ⟨by decide +kernel, by decide +kernel, by decide +kernel, by decide +kernel, by decide +kernel, by decide +kernel⟩
set_option maxRecDepth 100000 in
theorem N_X12_still : ((yM 224).name = "<init>") = False ∧ ((yM 225).name = "<init>") = False ∧ ((yM 226).name = "<init>") = False := by simp only [eq_iff_iff, iff_false, iff_true]; decide +kernel
set_option maxRecDepth 100000 in
theorem D_X12_areApart : (dk cX12_areApart 0 = some (.iload_n 0) ∧ dk cX12_areApart 1 = some (.i2l) ∧ dk cX12_areApart 2 = some (.lconst 1) ∧ dk cX12_areApart 3 = some (.ldc2_w 358) ∧ lres 12 358 = some (1023) ∧ dk cX12_areApart 6 = some (.invokestatic 143) ∧ cres 12 143 = some 152 ∧ pM 152 = 3 ∧ sM 152 = true ∧ dk cX12_areApart 9 = some (.ifCond .eq 25)) ∧ (jok 9 25 = true ∧ jmp 9 25 = 34 ∧ dk cX12_areApart 12 = some (.iload_n 1) ∧ dk cX12_areApart 13 = some (.i2l) ∧ dk cX12_areApart 14 = some (.lconst 1) ∧ dk cX12_areApart 15 = some (.ldc2_w 358) ∧ dk cX12_areApart 18 = some (.invokestatic 143) ∧ dk cX12_areApart 21 = some (.ifCond .eq 13) ∧ jok 21 13 = true ∧ jmp 21 13 = 34) ∧ (dk cX12_areApart 24 = some (.iload_n 0) ∧ dk cX12_areApart 25 = some (.iload_n 1) ∧ dk cX12_areApart 26 = some (.iand) ∧ dk cX12_areApart 27 = some (.ifCond .ne 7) ∧ jok 27 7 = true ∧ jmp 27 7 = 34 ∧ dk cX12_areApart 30 = some (.iconst 1) ∧ dk cX12_areApart 31 = some (.goto 4) ∧ jok 31 4 = true ∧ jmp 31 4 = 35) ∧ (dk cX12_areApart 34 = some (.iconst 0) ∧ dk cX12_areApart 35 = some (.ireturn)) := ⟨by decide +kernel, by decide +kernel, by decide +kernel, by decide +kernel⟩
set_option maxRecDepth 100000 in
theorem D_X12_areParted : (dk cX12_areParted 0 = some (.iconst 1) ∧ dk cX12_areParted 1 = some (.istore 4) ∧ dk cX12_areParted 3 = some (.iconst 0) ∧ dk cX12_areParted 4 = some (.istore 5) ∧ dk cX12_areParted 6 = some (.iload 5) ∧ dk cX12_areParted 8 = some (.bipush 10) ∧ dk cX12_areParted 10 = some (.if_icmp .ge 73) ∧ jok 10 73 = true ∧ jmp 10 73 = 83 ∧ dk cX12_areParted 13 = some (.iload_n 1)) ∧ (dk cX12_areParted 14 = some (.iload 5) ∧ dk cX12_areParted 16 = some (.invokestatic 173) ∧ cres 12 173 = some 154 ∧ pM 154 = 2 ∧ sM 154 = true ∧ dk cX12_areParted 19 = some (.ifCond .eq 58) ∧ jok 19 58 = true ∧ jmp 19 58 = 77 ∧ dk cX12_areParted 22 = some (.aload_n 0) ∧ dk cX12_areParted 23 = some (.iload 5)) ∧ (dk cX12_areParted 25 = some (.iload_n 3) ∧ dk cX12_areParted 26 = some (.iconst 0) ∧ dk cX12_areParted 27 = some (.invokevirtual 192) ∧ cres 12 192 = some 172 ∧ pM 172 = 3 ∧ sM 172 = false ∧ oM 172 = 12 ∧ dk cX12_areParted 30 = some (.iconst 0) ∧ dk cX12_areParted 31 = some (.istore 6) ∧ dk cX12_areParted 33 = some (.iload 6)) ∧ (dk cX12_areParted 35 = some (.bipush 10) ∧ dk cX12_areParted 37 = some (.if_icmp .ge 40) ∧ jok 37 40 = true ∧ jmp 37 40 = 77 ∧ dk cX12_areParted 40 = some (.iload 4) ∧ dk cX12_areParted 42 = some (.ifCond .eq 26) ∧ jok 42 26 = true ∧ jmp 42 26 = 68 ∧ dk cX12_areParted 45 = some (.iload_n 2) ∧ dk cX12_areParted 46 = some (.iload 6)) ∧ (dk cX12_areParted 48 = some (.invokestatic 173) ∧ dk cX12_areParted 51 = some (.ifCond .eq 13) ∧ jok 51 13 = true ∧ jmp 51 13 = 64 ∧ dk cX12_areParted 54 = some (.aload_n 0) ∧ dk cX12_areParted 55 = some (.getfield 25) ∧ fres 12 25 = some (12, 8, 0, true) ∧ dk cX12_areParted 58 = some (.iload 6) ∧ dk cX12_areParted 60 = some (.iaload) ∧ dk cX12_areParted 61 = some (.ifCond .ge 7)) ∧ (jok 61 7 = true ∧ jmp 61 7 = 68 ∧ dk cX12_areParted 64 = some (.iconst 1) ∧ dk cX12_areParted 65 = some (.goto 4) ∧ jok 65 4 = true ∧ jmp 65 4 = 69 ∧ dk cX12_areParted 68 = some (.iconst 0) ∧ dk cX12_areParted 69 = some (.istore 4) ∧ dk cX12_areParted 71 = some (.iinc 6 1) ∧ dk cX12_areParted 74 = some (.goto (-41))) ∧ (jok 74 (-41) = true ∧ jmp 74 (-41) = 33 ∧ dk cX12_areParted 77 = some (.iinc 5 1) ∧ dk cX12_areParted 80 = some (.goto (-74)) ∧ jok 80 (-74) = true ∧ jmp 80 (-74) = 6 ∧ dk cX12_areParted 83 = some (.iload 4) ∧ dk cX12_areParted 85 = some (.ireturn)) := ⟨by decide +kernel, by decide +kernel, by decide +kernel, by decide +kernel, by decide +kernel, by decide +kernel, by decide +kernel⟩
set_option maxRecDepth 100000 in
theorem N_X12_areParted : ((yM 172).name = "<init>") = False := by simp only [eq_iff_iff, iff_false, iff_true]; decide +kernel
set_option maxRecDepth 100000 in
theorem D_X12_parted : (dk cX12_parted 0 = some (.iload_n 1) ∧ dk cX12_parted 1 = some (.iload_n 2) ∧ dk cX12_parted 2 = some (.invokestatic 360) ∧ cres 12 360 = some 228 ∧ pM 228 = 2 ∧ sM 228 = true ∧ dk cX12_parted 5 = some (.ifCond .eq 11) ∧ jok 5 11 = true ∧ jmp 5 11 = 16 ∧ dk cX12_parted 8 = some (.aload_n 0)) ∧ (dk cX12_parted 9 = some (.iload_n 3) ∧ dk cX12_parted 10 = some (.invokevirtual 349) ∧ cres 12 349 = some 224 ∧ pM 224 = 1 ∧ sM 224 = false ∧ oM 224 = 12 ∧ dk cX12_parted 13 = some (.ifCond .ne 6) ∧ jok 13 6 = true ∧ jmp 13 6 = 19 ∧ dk cX12_parted 16 = some (.bipush (-2))) ∧ (dk cX12_parted 18 = some (.ireturn) ∧ dk cX12_parted 19 = some (.aload_n 0) ∧ dk cX12_parted 20 = some (.iload_n 1) ∧ dk cX12_parted 21 = some (.iload_n 2) ∧ dk cX12_parted 22 = some (.aload_n 0) ∧ dk cX12_parted 23 = some (.getfield 177) ∧ fres 12 177 = some (12, 7, 1, false) ∧ dk cX12_parted 26 = some (.iload_n 3) ∧ dk cX12_parted 27 = some (.ior) ∧ dk cX12_parted 28 = some (.invokevirtual 363)) ∧ (cres 12 363 = some 229 ∧ pM 229 = 3 ∧ sM 229 = false ∧ oM 229 = 12 ∧ dk cX12_parted 31 = some (.ifCond .eq 7) ∧ jok 31 7 = true ∧ jmp 31 7 = 38 ∧ dk cX12_parted 34 = some (.iconst 1) ∧ dk cX12_parted 35 = some (.goto 4) ∧ jok 35 4 = true) ∧ (jmp 35 4 = 39 ∧ dk cX12_parted 38 = some (.iconst 0) ∧ dk cX12_parted 39 = some (.ireturn)) := ⟨by decide +kernel, by decide +kernel, by decide +kernel, by decide +kernel, by decide +kernel⟩
set_option maxRecDepth 100000 in
theorem N_X12_parted : ((yM 224).name = "<init>") = False ∧ ((yM 229).name = "<init>") = False := by simp only [eq_iff_iff, iff_false, iff_true]; decide +kernel
set_option maxRecDepth 100000 in
theorem D_X12_least : (dk cX12_least 0 = some (.iload_n 1) ∧ dk cX12_least 1 = some (.iload_n 2) ∧ dk cX12_least 2 = some (.invokestatic 360) ∧ cres 12 360 = some 228 ∧ pM 228 = 2 ∧ sM 228 = true ∧ dk cX12_least 5 = some (.ifCond .eq 13) ∧ jok 5 13 = true ∧ jmp 5 13 = 18 ∧ dk cX12_least 8 = some (.iload_n 3)) ∧ (dk cX12_least 9 = some (.i2l) ∧ dk cX12_least 10 = some (.lconst 0) ∧ dk cX12_least 11 = some (.lconst 1) ∧ dk cX12_least 12 = some (.invokestatic 143) ∧ cres 12 143 = some 152 ∧ pM 152 = 3 ∧ sM 152 = true ∧ dk cX12_least 15 = some (.ifCond .ne 6) ∧ jok 15 6 = true ∧ jmp 15 6 = 21) ∧ (dk cX12_least 18 = some (.bipush (-2)) ∧ dk cX12_least 20 = some (.ireturn) ∧ dk cX12_least 21 = some (.bipush (-9)) ∧ dk cX12_least 23 = some (.istore 4) ∧ dk cX12_least 25 = some (.iconst 0) ∧ dk cX12_least 26 = some (.istore 5) ∧ dk cX12_least 28 = some (.iconst 0) ∧ dk cX12_least 29 = some (.istore 6) ∧ dk cX12_least 31 = some (.iload 6) ∧ dk cX12_least 33 = some (.iconst 1)) ∧ (dk cX12_least 34 = some (.aload_n 0) ∧ dk cX12_least 35 = some (.getfield 183) ∧ fres 12 183 = some (12, 4, 1, false) ∧ dk cX12_least 38 = some (.ishl) ∧ dk cX12_least 39 = some (.if_icmp .ge 92) ∧ jok 39 92 = true ∧ jmp 39 92 = 131 ∧ dk cX12_least 42 = some (.iload 6) ∧ dk cX12_least 44 = some (.aload_n 0) ∧ dk cX12_least 45 = some (.getfield 177)) ∧ (fres 12 177 = some (12, 7, 1, false) ∧ dk cX12_least 48 = some (.iand) ∧ dk cX12_least 49 = some (.ifCond .ne 76) ∧ jok 49 76 = true ∧ jmp 49 76 = 125 ∧ dk cX12_least 52 = some (.aload_n 0) ∧ dk cX12_least 53 = some (.iload_n 1) ∧ dk cX12_least 54 = some (.iload_n 2) ∧ dk cX12_least 55 = some (.aload_n 0) ∧ dk cX12_least 56 = some (.getfield 177)) ∧ (dk cX12_least 59 = some (.iload 6) ∧ dk cX12_least 61 = some (.ior) ∧ dk cX12_least 62 = some (.invokevirtual 363) ∧ cres 12 363 = some 229 ∧ pM 229 = 3 ∧ sM 229 = false ∧ oM 229 = 12 ∧ dk cX12_least 65 = some (.ifCond .eq 60) ∧ jok 65 60 = true ∧ jmp 65 60 = 125) ∧ (dk cX12_least 68 = some (.aload_n 0) ∧ dk cX12_least 69 = some (.aload_n 0) ∧ dk cX12_least 70 = some (.aload_n 0) ∧ dk cX12_least 71 = some (.getfield 177) ∧ dk cX12_least 74 = some (.iload 6) ∧ dk cX12_least 76 = some (.ior) ∧ dk cX12_least 77 = some (.invokevirtual 352) ∧ cres 12 352 = some 225 ∧ pM 225 = 1 ∧ sM 225 = false) ∧ (oM 225 = 12 ∧ dk cX12_least 80 = some (.invokevirtual 355) ∧ cres 12 355 = some 226 ∧ pM 226 = 1 ∧ sM 226 = false ∧ oM 226 = 12 ∧ dk cX12_least 83 = some (.istore 7) ∧ dk cX12_least 85 = some (.iload 4) ∧ dk cX12_least 87 = some (.ifCond .lt 30) ∧ jok 87 30 = true) ∧ (jmp 87 30 = 117 ∧ dk cX12_least 90 = some (.iload 7) ∧ dk cX12_least 92 = some (.iload 5) ∧ dk cX12_least 94 = some (.if_icmp .lt 23) ∧ jok 94 23 = true ∧ jmp 94 23 = 117 ∧ dk cX12_least 97 = some (.iload 7) ∧ dk cX12_least 99 = some (.iload 5) ∧ dk cX12_least 101 = some (.if_icmp .ne 24) ∧ jok 101 24 = true) ∧ (jmp 101 24 = 125 ∧ dk cX12_least 104 = some (.iload 6) ∧ dk cX12_least 106 = some (.invokestatic 302) ∧ cres 12 302 = some 155 ∧ pM 155 = 1 ∧ sM 155 = true ∧ dk cX12_least 109 = some (.iload 4) ∧ dk cX12_least 111 = some (.invokestatic 302) ∧ dk cX12_least 114 = some (.if_icmp .ge 11) ∧ jok 114 11 = true) ∧ (jmp 114 11 = 125 ∧ dk cX12_least 117 = some (.iload 6) ∧ dk cX12_least 119 = some (.istore 4) ∧ dk cX12_least 121 = some (.iload 7) ∧ dk cX12_least 123 = some (.istore 5) ∧ dk cX12_least 125 = some (.iinc 6 1) ∧ dk cX12_least 128 = some (.goto (-97)) ∧ jok 128 (-97) = true ∧ jmp 128 (-97) = 31 ∧ dk cX12_least 131 = some (.iload 4)) ∧ (dk cX12_least 133 = some (.ifCond .ge 8) ∧ jok 133 8 = true ∧ jmp 133 8 = 141 ∧ dk cX12_least 136 = some (.bipush (-9)) ∧ dk cX12_least 138 = some (.goto 14) ∧ jok 138 14 = true ∧ jmp 138 14 = 152 ∧ dk cX12_least 141 = some (.iload_n 3) ∧ dk cX12_least 142 = some (.ifCond .ne 8) ∧ jok 142 8 = true) ∧ (jmp 142 8 = 150 ∧ dk cX12_least 145 = some (.iload 4) ∧ dk cX12_least 147 = some (.goto 5) ∧ jok 147 5 = true ∧ jmp 147 5 = 152 ∧ dk cX12_least 150 = some (.iload 5) ∧ dk cX12_least 152 = some (.ireturn)) := ⟨by decide +kernel, by decide +kernel, by decide +kernel, by decide +kernel, by decide +kernel, by decide +kernel, by decide +kernel, by decide +kernel, by decide +kernel, by decide +kernel, by decide +kernel, by decide +kernel, by decide +kernel⟩
set_option maxRecDepth 100000 in
theorem N_X12_least : ((yM 229).name = "<init>") = False ∧ ((yM 225).name = "<init>") = False ∧ ((yM 226).name = "<init>") = False := by simp only [eq_iff_iff, iff_false, iff_true]; decide +kernel
set_option maxRecDepth 100000 in
theorem D_X12_noKeeper : (dk cX12_noKeeper 0 = some (.iload_n 0) ∧ dk cX12_noKeeper 1 = some (.i2l) ∧ dk cX12_noKeeper 2 = some (.lconst 0) ∧ dk cX12_noKeeper 3 = some (.ldc2_w 305) ∧ lres 12 305 = some (3) ∧ dk cX12_noKeeper 6 = some (.invokestatic 143) ∧ cres 12 143 = some 152 ∧ pM 152 = 3 ∧ sM 152 = true ∧ dk cX12_noKeeper 9 = some (.ifCond .ne 7)) ∧ (jok 9 7 = true ∧ jmp 9 7 = 16 ∧ dk cX12_noKeeper 12 = some (.iconst 1) ∧ dk cX12_noKeeper 13 = some (.goto 4) ∧ jok 13 4 = true ∧ jmp 13 4 = 17 ∧ dk cX12_noKeeper 16 = some (.iconst 0) ∧ dk cX12_noKeeper 17 = some (.ireturn)) := ⟨by decide +kernel, by decide +kernel⟩
set_option maxRecDepth 100000 in
theorem D_X12_may : (dk cX12_may 0 = some (.iload_n 1) ∧ dk cX12_may 1 = some (.invokestatic 367) ∧ cres 12 367 = some 232 ∧ pM 232 = 1 ∧ sM 232 = true ∧ dk cX12_may 4 = some (.ifCond .ne 10) ∧ jok 4 10 = true ∧ jmp 4 10 = 14 ∧ dk cX12_may 7 = some (.iload_n 2) ∧ dk cX12_may 8 = some (.invokestatic 169)) ∧ (cres 12 169 = some 165 ∧ pM 165 = 1 ∧ sM 165 = true ∧ dk cX12_may 11 = some (.ifCond .eq 5) ∧ jok 11 5 = true ∧ jmp 11 5 = 16 ∧ dk cX12_may 14 = some (.iconst (-1)) ∧ dk cX12_may 15 = some (.ireturn) ∧ dk cX12_may 16 = some (.iload_n 3) ∧ dk cX12_may 17 = some (.i2l)) ∧ (dk cX12_may 18 = some (.ldc2_w 190) ∧ lres 12 190 = some (-1) ∧ dk cX12_may 21 = some (.ldc2_w 141) ∧ lres 12 141 = some (999) ∧ dk cX12_may 24 = some (.invokestatic 143) ∧ cres 12 143 = some 152 ∧ pM 152 = 3 ∧ sM 152 = true ∧ dk cX12_may 27 = some (.ifCond .ne 6) ∧ jok 27 6 = true) ∧ (jmp 27 6 = 33 ∧ dk cX12_may 30 = some (.bipush (-2)) ∧ dk cX12_may 32 = some (.ireturn) ∧ dk cX12_may 33 = some (.aload_n 0) ∧ dk cX12_may 34 = some (.getfield 109) ∧ fres 12 109 = some (12, 46, 0, true) ∧ dk cX12_may 37 = some (.bipush 10) ∧ dk cX12_may 39 = some (.iload_n 1) ∧ dk cX12_may 40 = some (.imul) ∧ dk cX12_may 41 = some (.iload_n 2)) ∧ (dk cX12_may 42 = some (.iadd) ∧ dk cX12_may 43 = some (.iaload) ∧ dk cX12_may 44 = some (.istore 4) ∧ dk cX12_may 46 = some (.aload_n 0) ∧ dk cX12_may 47 = some (.getfield 109) ∧ dk cX12_may 50 = some (.bipush 10) ∧ dk cX12_may 52 = some (.iload_n 1) ∧ dk cX12_may 53 = some (.imul) ∧ dk cX12_may 54 = some (.iload_n 2) ∧ dk cX12_may 55 = some (.iadd)) ∧ (dk cX12_may 56 = some (.iload_n 3) ∧ dk cX12_may 57 = some (.ifCond .ge 8) ∧ jok 57 8 = true ∧ jmp 57 8 = 65 ∧ dk cX12_may 60 = some (.bipush (-9)) ∧ dk cX12_may 62 = some (.goto 4) ∧ jok 62 4 = true ∧ jmp 62 4 = 66 ∧ dk cX12_may 65 = some (.iload_n 3) ∧ dk cX12_may 66 = some (.iastore)) ∧ (dk cX12_may 67 = some (.iload 4) ∧ dk cX12_may 69 = some (.ireturn)) := ⟨by decide +kernel, by decide +kernel, by decide +kernel, by decide +kernel, by decide +kernel, by decide +kernel, by decide +kernel⟩
set_option maxRecDepth 100000 in
theorem D_X12_look : (dk cX12_look 0 = some (.iload_n 1) ∧ dk cX12_look 1 = some (.invokestatic 367) ∧ cres 12 367 = some 232 ∧ pM 232 = 1 ∧ sM 232 = true ∧ dk cX12_look 4 = some (.ifCond .ne 11) ∧ jok 4 11 = true ∧ jmp 4 11 = 15 ∧ dk cX12_look 7 = some (.aload_n 0) ∧ dk cX12_look 8 = some (.iload_n 2)) ∧ (dk cX12_look 9 = some (.invokevirtual 202) ∧ cres 12 202 = some 176 ∧ pM 176 = 1 ∧ sM 176 = false ∧ oM 176 = 12 ∧ dk cX12_look 12 = some (.ifCond .eq 5) ∧ jok 12 5 = true ∧ jmp 12 5 = 17 ∧ dk cX12_look 15 = some (.iconst (-1)) ∧ dk cX12_look 16 = some (.ireturn)) ∧ (dk cX12_look 17 = some (.iload_n 3) ∧ dk cX12_look 18 = some (.invokestatic 210) ∧ cres 12 210 = some 159 ∧ pM 159 = 1 ∧ sM 159 = true ∧ dk cX12_look 21 = some (.ifCond .ne 6) ∧ jok 21 6 = true ∧ jmp 21 6 = 27 ∧ dk cX12_look 24 = some (.bipush (-2)) ∧ dk cX12_look 26 = some (.ireturn)) ∧ (dk cX12_look 27 = some (.aload_n 0) ∧ dk cX12_look 28 = some (.getfield 28) ∧ fres 12 28 = some (12, 10, 0, true) ∧ dk cX12_look 31 = some (.iload_n 2) ∧ dk cX12_look 32 = some (.iaload) ∧ dk cX12_look 33 = some (.ifCond .le 6) ∧ jok 33 6 = true ∧ jmp 33 6 = 39 ∧ dk cX12_look 36 = some (.bipush (-3)) ∧ dk cX12_look 38 = some (.ireturn)) ∧ (dk cX12_look 39 = some (.aload_n 0) ∧ dk cX12_look 40 = some (.getfield 370) ∧ fres 12 370 = some (12, 47, 1, false) ∧ dk cX12_look 43 = some (.bipush 60) ∧ dk cX12_look 45 = some (.if_icmp .ne 6) ∧ jok 45 6 = true ∧ jmp 45 6 = 51 ∧ dk cX12_look 48 = some (.bipush (-4)) ∧ dk cX12_look 50 = some (.ireturn) ∧ dk cX12_look 51 = some (.aload_n 0)) ∧ (dk cX12_look 52 = some (.getfield 112) ∧ fres 12 112 = some (12, 48, 0, true) ∧ dk cX12_look 55 = some (.aload_n 0) ∧ dk cX12_look 56 = some (.getfield 370) ∧ dk cX12_look 59 = some (.iload_n 1) ∧ dk cX12_look 60 = some (.iastore) ∧ dk cX12_look 61 = some (.aload_n 0) ∧ dk cX12_look 62 = some (.getfield 115) ∧ fres 12 115 = some (12, 49, 0, true) ∧ dk cX12_look 65 = some (.aload_n 0)) ∧ (dk cX12_look 66 = some (.getfield 370) ∧ dk cX12_look 69 = some (.iload_n 3) ∧ dk cX12_look 70 = some (.aload_n 0) ∧ dk cX12_look 71 = some (.getfield 109) ∧ fres 12 109 = some (12, 46, 0, true) ∧ dk cX12_look 74 = some (.bipush 10) ∧ dk cX12_look 76 = some (.iload_n 1) ∧ dk cX12_look 77 = some (.imul) ∧ dk cX12_look 78 = some (.aload_n 0) ∧ dk cX12_look 79 = some (.getfield 31)) ∧ (fres 12 31 = some (12, 11, 0, true) ∧ dk cX12_look 82 = some (.iload_n 2) ∧ dk cX12_look 83 = some (.iaload) ∧ dk cX12_look 84 = some (.iadd) ∧ dk cX12_look 85 = some (.iaload) ∧ dk cX12_look 86 = some (.if_icmp .gt 7) ∧ jok 86 7 = true ∧ jmp 86 7 = 93 ∧ dk cX12_look 89 = some (.iconst 1) ∧ dk cX12_look 90 = some (.goto 4)) ∧ (jok 90 4 = true ∧ jmp 90 4 = 94 ∧ dk cX12_look 93 = some (.iconst 0) ∧ dk cX12_look 94 = some (.bastore) ∧ dk cX12_look 95 = some (.aload_n 0) ∧ dk cX12_look 96 = some (.dup) ∧ dk cX12_look 97 = some (.getfield 370) ∧ dk cX12_look 100 = some (.iconst 1) ∧ dk cX12_look 101 = some (.iadd) ∧ dk cX12_look 102 = some (.putfield 370)) ∧ (isBo (tyN 12 47) = false ∧ dk cX12_look 105 = some (.aload_n 0) ∧ dk cX12_look 106 = some (.getfield 115) ∧ dk cX12_look 109 = some (.aload_n 0) ∧ dk cX12_look 110 = some (.getfield 370) ∧ dk cX12_look 113 = some (.iconst 1) ∧ dk cX12_look 114 = some (.isub) ∧ dk cX12_look 115 = some (.baload) ∧ dk cX12_look 116 = some (.ifCond .eq 7) ∧ jok 116 7 = true) ∧ (jmp 116 7 = 123 ∧ dk cX12_look 119 = some (.iconst 1) ∧ dk cX12_look 120 = some (.goto 4) ∧ jok 120 4 = true ∧ jmp 120 4 = 124 ∧ dk cX12_look 123 = some (.iconst 0) ∧ dk cX12_look 124 = some (.ireturn)) := ⟨by decide +kernel, by decide +kernel, by decide +kernel, by decide +kernel, by decide +kernel, by decide +kernel, by decide +kernel, by decide +kernel, by decide +kernel, by decide +kernel, by decide +kernel⟩
set_option maxRecDepth 100000 in
theorem N_X12_look : ((yM 176).name = "<init>") = False := by simp only [eq_iff_iff, iff_false, iff_true]; decide +kernel
set_option maxRecDepth 100000 in
theorem D_X12_looks : (dk cX12_looks 0 = some (.iload_n 1) ∧ dk cX12_looks 1 = some (.invokestatic 367) ∧ cres 12 367 = some 232 ∧ pM 232 = 1 ∧ sM 232 = true ∧ dk cX12_looks 4 = some (.ifCond .eq 5) ∧ jok 4 5 = true ∧ jmp 4 5 = 9 ∧ dk cX12_looks 7 = some (.iconst (-1)) ∧ dk cX12_looks 8 = some (.ireturn)) ∧ (dk cX12_looks 9 = some (.iload_n 2) ∧ dk cX12_looks 10 = some (.i2l) ∧ dk cX12_looks 11 = some (.lconst 0) ∧ dk cX12_looks 12 = some (.lconst 1) ∧ dk cX12_looks 13 = some (.invokestatic 143) ∧ cres 12 143 = some 152 ∧ pM 152 = 3 ∧ sM 152 = true ∧ dk cX12_looks 16 = some (.ifCond .ne 6) ∧ jok 16 6 = true) ∧ (jmp 16 6 = 22 ∧ dk cX12_looks 19 = some (.bipush (-2)) ∧ dk cX12_looks 21 = some (.ireturn) ∧ dk cX12_looks 22 = some (.iconst 0) ∧ dk cX12_looks 23 = some (.istore_n 3) ∧ dk cX12_looks 24 = some (.iconst 0) ∧ dk cX12_looks 25 = some (.istore 4) ∧ dk cX12_looks 27 = some (.iload 4) ∧ dk cX12_looks 29 = some (.aload_n 0) ∧ dk cX12_looks 30 = some (.getfield 370)) ∧ (fres 12 370 = some (12, 47, 1, false) ∧ dk cX12_looks 33 = some (.if_icmp .ge 42) ∧ jok 33 42 = true ∧ jmp 33 42 = 75 ∧ dk cX12_looks 36 = some (.iload_n 3) ∧ dk cX12_looks 37 = some (.aload_n 0) ∧ dk cX12_looks 38 = some (.getfield 112) ∧ fres 12 112 = some (12, 48, 0, true) ∧ dk cX12_looks 41 = some (.iload 4) ∧ dk cX12_looks 43 = some (.iaload)) ∧ (dk cX12_looks 44 = some (.iload_n 1) ∧ dk cX12_looks 45 = some (.if_icmp .ne 21) ∧ jok 45 21 = true ∧ jmp 45 21 = 66 ∧ dk cX12_looks 48 = some (.iload_n 2) ∧ dk cX12_looks 49 = some (.ifCond .eq 13) ∧ jok 49 13 = true ∧ jmp 49 13 = 62 ∧ dk cX12_looks 52 = some (.aload_n 0) ∧ dk cX12_looks 53 = some (.getfield 115)) ∧ (fres 12 115 = some (12, 49, 0, true) ∧ dk cX12_looks 56 = some (.iload 4) ∧ dk cX12_looks 58 = some (.baload) ∧ dk cX12_looks 59 = some (.ifCond .ne 7) ∧ jok 59 7 = true ∧ jmp 59 7 = 66 ∧ dk cX12_looks 62 = some (.iconst 1) ∧ dk cX12_looks 63 = some (.goto 4) ∧ jok 63 4 = true ∧ jmp 63 4 = 67) ∧ (dk cX12_looks 66 = some (.iconst 0) ∧ dk cX12_looks 67 = some (.iadd) ∧ dk cX12_looks 68 = some (.istore_n 3) ∧ dk cX12_looks 69 = some (.iinc 4 1) ∧ dk cX12_looks 72 = some (.goto (-45)) ∧ jok 72 (-45) = true ∧ jmp 72 (-45) = 27 ∧ dk cX12_looks 75 = some (.iload_n 3) ∧ dk cX12_looks 76 = some (.ireturn)) := ⟨by decide +kernel, by decide +kernel, by decide +kernel, by decide +kernel, by decide +kernel, by decide +kernel, by decide +kernel⟩
set_option maxRecDepth 100000 in
theorem D_X12_noSheet : (dk cX12_noSheet 0 = some (.iload_n 0) ∧ dk cX12_noSheet 1 = some (.i2l) ∧ dk cX12_noSheet 2 = some (.lconst 0) ∧ dk cX12_noSheet 3 = some (.ldc2_w 305) ∧ lres 12 305 = some (3) ∧ dk cX12_noSheet 6 = some (.invokestatic 143) ∧ cres 12 143 = some 152 ∧ pM 152 = 3 ∧ sM 152 = true ∧ dk cX12_noSheet 9 = some (.ifCond .ne 7)) ∧ (jok 9 7 = true ∧ jmp 9 7 = 16 ∧ dk cX12_noSheet 12 = some (.iconst 1) ∧ dk cX12_noSheet 13 = some (.goto 4) ∧ jok 13 4 = true ∧ jmp 13 4 = 17 ∧ dk cX12_noSheet 16 = some (.iconst 0) ∧ dk cX12_noSheet 17 = some (.ireturn)) := ⟨by decide +kernel, by decide +kernel⟩
set_option maxRecDepth 100000 in
theorem D_X12_sheet : (dk cX12_sheet 0 = some (.iload_n 1) ∧ dk cX12_sheet 1 = some (.invokestatic 205) ∧ cres 12 205 = some 236 ∧ pM 236 = 1 ∧ sM 236 = true ∧ dk cX12_sheet 4 = some (.ifCond .eq 9) ∧ jok 4 9 = true ∧ jmp 4 9 = 13 ∧ dk cX12_sheet 7 = some (.aload_n 0) ∧ dk cX12_sheet 8 = some (.iconst (-1))) ∧ (dk cX12_sheet 9 = some (.invokevirtual 156) ∧ cres 12 156 = some 160 ∧ pM 160 = 1 ∧ sM 160 = false ∧ oM 160 = 12 ∧ dk cX12_sheet 12 = some (.ireturn) ∧ dk cX12_sheet 13 = some (.iload_n 2) ∧ dk cX12_sheet 14 = some (.i2l) ∧ dk cX12_sheet 15 = some (.lconst 0) ∧ dk cX12_sheet 16 = some (.ldc2_w 154)) ∧ (lres 12 154 = some (2) ∧ dk cX12_sheet 19 = some (.invokestatic 143) ∧ cres 12 143 = some 152 ∧ pM 152 = 3 ∧ sM 152 = true ∧ dk cX12_sheet 22 = some (.ifCond .eq 9) ∧ jok 22 9 = true ∧ jmp 22 9 = 31 ∧ dk cX12_sheet 25 = some (.iload_n 3) ∧ dk cX12_sheet 26 = some (.bipush 60)) ∧ (dk cX12_sheet 28 = some (.if_icmp .le 10) ∧ jok 28 10 = true ∧ jmp 28 10 = 38 ∧ dk cX12_sheet 31 = some (.aload_n 0) ∧ dk cX12_sheet 32 = some (.bipush (-2)) ∧ dk cX12_sheet 34 = some (.invokevirtual 156) ∧ dk cX12_sheet 37 = some (.ireturn) ∧ dk cX12_sheet 38 = some (.iload_n 3) ∧ dk cX12_sheet 39 = some (.ifCond .ge 9) ∧ jok 39 9 = true) ∧ (jmp 39 9 = 48 ∧ dk cX12_sheet 42 = some (.aload_n 0) ∧ dk cX12_sheet 43 = some (.iconst 4) ∧ dk cX12_sheet 44 = some (.invokevirtual 160) ∧ cres 12 160 = some 161 ∧ pM 161 = 1 ∧ sM 161 = false ∧ oM 161 = 12 ∧ dk cX12_sheet 47 = some (.ireturn) ∧ dk cX12_sheet 48 = some (.aload_n 0)) ∧ (dk cX12_sheet 49 = some (.getfield 119) ∧ fres 12 119 = some (12, 50, 0, true) ∧ dk cX12_sheet 52 = some (.iload_n 1) ∧ dk cX12_sheet 53 = some (.iload_n 3) ∧ dk cX12_sheet 54 = some (.iastore) ∧ dk cX12_sheet 55 = some (.aload_n 0) ∧ dk cX12_sheet 56 = some (.getfield 122) ∧ fres 12 122 = some (12, 51, 0, true) ∧ dk cX12_sheet 59 = some (.iload_n 1) ∧ dk cX12_sheet 60 = some (.iload_n 2)) ∧ (dk cX12_sheet 61 = some (.iastore) ∧ dk cX12_sheet 62 = some (.iconst 0) ∧ dk cX12_sheet 63 = some (.istore 4) ∧ dk cX12_sheet 65 = some (.iload 4) ∧ dk cX12_sheet 67 = some (.iload_n 3) ∧ dk cX12_sheet 68 = some (.if_icmp .ge 22) ∧ jok 68 22 = true ∧ jmp 68 22 = 90 ∧ dk cX12_sheet 71 = some (.aload_n 0) ∧ dk cX12_sheet 72 = some (.getfield 125)) ∧ (fres 12 125 = some (12, 52, 0, true) ∧ dk cX12_sheet 75 = some (.bipush 60) ∧ dk cX12_sheet 77 = some (.iload_n 1) ∧ dk cX12_sheet 78 = some (.imul) ∧ dk cX12_sheet 79 = some (.iload 4) ∧ dk cX12_sheet 81 = some (.iadd) ∧ dk cX12_sheet 82 = some (.iconst 0) ∧ dk cX12_sheet 83 = some (.iastore) ∧ dk cX12_sheet 84 = some (.iinc 4 1) ∧ dk cX12_sheet 87 = some (.goto (-22))) ∧ (jok 87 (-22) = true ∧ jmp 87 (-22) = 65 ∧ dk cX12_sheet 90 = some (.aload_n 0) ∧ dk cX12_sheet 91 = some (.iconst 1) ∧ dk cX12_sheet 92 = some (.invokevirtual 156) ∧ dk cX12_sheet 95 = some (.ireturn)) := ⟨by decide +kernel, by decide +kernel, by decide +kernel, by decide +kernel, by decide +kernel, by decide +kernel, by decide +kernel, by decide +kernel, by decide +kernel⟩
set_option maxRecDepth 100000 in
theorem N_X12_sheet : ((yM 160).name = "<init>") = False ∧ ((yM 161).name = "<init>") = False := by simp only [eq_iff_iff, iff_false, iff_true]; decide +kernel
set_option maxRecDepth 100000 in
theorem D_X12_lose : (dk cX12_lose 0 = some (.iload_n 1) ∧ dk cX12_lose 1 = some (.invokestatic 205) ∧ cres 12 205 = some 236 ∧ pM 236 = 1 ∧ sM 236 = true ∧ dk cX12_lose 4 = some (.ifCond .eq 5) ∧ jok 4 5 = true ∧ jmp 4 5 = 9 ∧ dk cX12_lose 7 = some (.iconst (-1)) ∧ dk cX12_lose 8 = some (.ireturn)) ∧ (dk cX12_lose 9 = some (.aload_n 0) ∧ dk cX12_lose 10 = some (.getfield 119) ∧ fres 12 119 = some (12, 50, 0, true) ∧ dk cX12_lose 13 = some (.iload_n 1) ∧ dk cX12_lose 14 = some (.iaload) ∧ dk cX12_lose 15 = some (.ifCond .ge 7) ∧ jok 15 7 = true ∧ jmp 15 7 = 22 ∧ dk cX12_lose 18 = some (.iconst 0) ∧ dk cX12_lose 19 = some (.goto 4)) ∧ (jok 19 4 = true ∧ jmp 19 4 = 23 ∧ dk cX12_lose 22 = some (.iconst 1) ∧ dk cX12_lose 23 = some (.istore_n 2) ∧ dk cX12_lose 24 = some (.aload_n 0) ∧ dk cX12_lose 25 = some (.getfield 119) ∧ dk cX12_lose 28 = some (.iload_n 1) ∧ dk cX12_lose 29 = some (.iconst (-1)) ∧ dk cX12_lose 30 = some (.iastore) ∧ dk cX12_lose 31 = some (.iload_n 2)) ∧ (dk cX12_lose 32 = some (.ireturn)) := ⟨by decide +kernel, by decide +kernel, by decide +kernel, by decide +kernel⟩
set_option maxRecDepth 100000 in
theorem D_X12_noCell : (dk cX12_noCell 0 = some (.aload_n 0) ∧ dk cX12_noCell 1 = some (.getfield 119) ∧ fres 12 119 = some (12, 50, 0, true) ∧ dk cX12_noCell 4 = some (.iload_n 1) ∧ dk cX12_noCell 5 = some (.iaload) ∧ dk cX12_noCell 6 = some (.ifCond .ge 7) ∧ jok 6 7 = true ∧ jmp 6 7 = 13 ∧ dk cX12_noCell 9 = some (.iconst 1) ∧ dk cX12_noCell 10 = some (.goto 26)) ∧ (jok 10 26 = true ∧ jmp 10 26 = 36 ∧ dk cX12_noCell 13 = some (.iload_n 2) ∧ dk cX12_noCell 14 = some (.i2l) ∧ dk cX12_noCell 15 = some (.lconst 0) ∧ dk cX12_noCell 16 = some (.aload_n 0) ∧ dk cX12_noCell 17 = some (.getfield 119) ∧ dk cX12_noCell 20 = some (.iload_n 1) ∧ dk cX12_noCell 21 = some (.iaload) ∧ dk cX12_noCell 22 = some (.i2l)) ∧ (dk cX12_noCell 23 = some (.lconst 1) ∧ dk cX12_noCell 24 = some (.lsub) ∧ dk cX12_noCell 25 = some (.invokestatic 143) ∧ cres 12 143 = some 152 ∧ pM 152 = 3 ∧ sM 152 = true ∧ dk cX12_noCell 28 = some (.ifCond .eq 7) ∧ jok 28 7 = true ∧ jmp 28 7 = 35 ∧ dk cX12_noCell 31 = some (.iconst 0)) ∧ (dk cX12_noCell 32 = some (.goto 4) ∧ jok 32 4 = true ∧ jmp 32 4 = 36 ∧ dk cX12_noCell 35 = some (.iconst 3) ∧ dk cX12_noCell 36 = some (.ireturn)) := ⟨by decide +kernel, by decide +kernel, by decide +kernel, by decide +kernel⟩
set_option maxRecDepth 100000 in
theorem D_X12_set : (dk cX12_set 0 = some (.iload_n 1) ∧ dk cX12_set 1 = some (.invokestatic 205) ∧ cres 12 205 = some 236 ∧ pM 236 = 1 ∧ sM 236 = true ∧ dk cX12_set 4 = some (.ifCond .eq 9) ∧ jok 4 9 = true ∧ jmp 4 9 = 13 ∧ dk cX12_set 7 = some (.aload_n 0) ∧ dk cX12_set 8 = some (.iconst (-1))) ∧ (dk cX12_set 9 = some (.invokevirtual 156) ∧ cres 12 156 = some 160 ∧ pM 160 = 1 ∧ sM 160 = false ∧ oM 160 = 12 ∧ dk cX12_set 12 = some (.ireturn) ∧ dk cX12_set 13 = some (.aload_n 0) ∧ dk cX12_set 14 = some (.iload_n 1) ∧ dk cX12_set 15 = some (.iload_n 2) ∧ dk cX12_set 16 = some (.invokevirtual 373)) ∧ (cres 12 373 = some 239 ∧ pM 239 = 2 ∧ sM 239 = false ∧ oM 239 = 12 ∧ dk cX12_set 19 = some (.ifCond .le 14) ∧ jok 19 14 = true ∧ jmp 19 14 = 33 ∧ dk cX12_set 22 = some (.aload_n 0) ∧ dk cX12_set 23 = some (.aload_n 0) ∧ dk cX12_set 24 = some (.iload_n 1)) ∧ (dk cX12_set 25 = some (.iload_n 2) ∧ dk cX12_set 26 = some (.invokevirtual 373) ∧ dk cX12_set 29 = some (.invokevirtual 160) ∧ cres 12 160 = some 161 ∧ pM 161 = 1 ∧ sM 161 = false ∧ oM 161 = 12 ∧ dk cX12_set 32 = some (.ireturn) ∧ dk cX12_set 33 = some (.aload_n 0) ∧ dk cX12_set 34 = some (.getfield 125)) ∧ (fres 12 125 = some (12, 52, 0, true) ∧ dk cX12_set 37 = some (.bipush 60) ∧ dk cX12_set 39 = some (.iload_n 1) ∧ dk cX12_set 40 = some (.imul) ∧ dk cX12_set 41 = some (.iload_n 2) ∧ dk cX12_set 42 = some (.iadd) ∧ dk cX12_set 43 = some (.aload_n 0) ∧ dk cX12_set 44 = some (.getfield 122) ∧ fres 12 122 = some (12, 51, 0, true) ∧ dk cX12_set 47 = some (.iload_n 1)) ∧ (dk cX12_set 48 = some (.iaload) ∧ dk cX12_set 49 = some (.ifCond .ne 8) ∧ jok 49 8 = true ∧ jmp 49 8 = 57 ∧ dk cX12_set 52 = some (.iload_n 3) ∧ dk cX12_set 53 = some (.i2b) ∧ dk cX12_set 54 = some (.goto 19) ∧ jok 54 19 = true ∧ jmp 54 19 = 73 ∧ dk cX12_set 57 = some (.aload_n 0)) ∧ (dk cX12_set 58 = some (.getfield 122) ∧ dk cX12_set 61 = some (.iload_n 1) ∧ dk cX12_set 62 = some (.iaload) ∧ dk cX12_set 63 = some (.iconst 1) ∧ dk cX12_set 64 = some (.if_icmp .ne 8) ∧ jok 64 8 = true ∧ jmp 64 8 = 72 ∧ dk cX12_set 67 = some (.iload_n 3) ∧ dk cX12_set 68 = some (.i2s) ∧ dk cX12_set 69 = some (.goto 4)) ∧ (jok 69 4 = true ∧ jmp 69 4 = 73 ∧ dk cX12_set 72 = some (.iload_n 3) ∧ dk cX12_set 73 = some (.iastore) ∧ dk cX12_set 74 = some (.aload_n 0) ∧ dk cX12_set 75 = some (.iconst 1) ∧ dk cX12_set 76 = some (.invokevirtual 156) ∧ dk cX12_set 79 = some (.ireturn)) := ⟨by decide +kernel, by decide +kernel, by decide +kernel, by decide +kernel, by decide +kernel, by decide +kernel, by decide +kernel, by decide +kernel⟩
set_option maxRecDepth 100000 in
theorem N_X12_set : ((yM 160).name = "<init>") = False ∧ ((yM 239).name = "<init>") = False ∧ ((yM 161).name = "<init>") = False := by simp only [eq_iff_iff, iff_false, iff_true]; decide +kernel
set_option maxRecDepth 100000 in
theorem D_X12_cell : (dk cX12_cell 0 = some (.aload_n 0) ∧ dk cX12_cell 1 = some (.iconst 0) ∧ dk cX12_cell 2 = some (.putfield 147) ∧ fres 12 147 = some (12, 0, 1, false) ∧ isBo (tyN 12 0) = false ∧ dk cX12_cell 5 = some (.iload_n 1) ∧ dk cX12_cell 6 = some (.invokestatic 205) ∧ cres 12 205 = some 236 ∧ pM 236 = 1 ∧ sM 236 = true) ∧ (dk cX12_cell 9 = some (.ifCond .ne 15) ∧ jok 9 15 = true ∧ jmp 9 15 = 24 ∧ dk cX12_cell 12 = some (.iload_n 3) ∧ dk cX12_cell 13 = some (.i2l) ∧ dk cX12_cell 14 = some (.lconst 0) ∧ dk cX12_cell 15 = some (.ldc2_w 154) ∧ lres 12 154 = some (2) ∧ dk cX12_cell 18 = some (.invokestatic 143) ∧ cres 12 143 = some 152) ∧ (pM 152 = 3 ∧ sM 152 = true ∧ dk cX12_cell 21 = some (.ifCond .ne 7) ∧ jok 21 7 = true ∧ jmp 21 7 = 28 ∧ dk cX12_cell 24 = some (.invokestatic 150) ∧ cres 12 150 = some 153 ∧ pM 153 = 0 ∧ sM 153 = true ∧ dk cX12_cell 27 = some (.lreturn)) ∧ (dk cX12_cell 28 = some (.aload_n 0) ∧ dk cX12_cell 29 = some (.getfield 119) ∧ fres 12 119 = some (12, 50, 0, true) ∧ dk cX12_cell 32 = some (.iload_n 1) ∧ dk cX12_cell 33 = some (.iaload) ∧ dk cX12_cell 34 = some (.ifCond .lt 19) ∧ jok 34 19 = true ∧ jmp 34 19 = 53 ∧ dk cX12_cell 37 = some (.aload_n 0) ∧ dk cX12_cell 38 = some (.getfield 122)) ∧ (fres 12 122 = some (12, 51, 0, true) ∧ dk cX12_cell 41 = some (.iload_n 1) ∧ dk cX12_cell 42 = some (.iaload) ∧ dk cX12_cell 43 = some (.iload_n 3) ∧ dk cX12_cell 44 = some (.if_icmp .eq 9) ∧ jok 44 9 = true ∧ jmp 44 9 = 53 ∧ dk cX12_cell 47 = some (.aload_n 0) ∧ dk cX12_cell 48 = some (.iconst 2) ∧ dk cX12_cell 49 = some (.invokevirtual 376)) ∧ (cres 12 376 = some 162 ∧ pM 162 = 1 ∧ sM 162 = false ∧ oM 162 = 12 ∧ dk cX12_cell 52 = some (.lreturn) ∧ dk cX12_cell 53 = some (.aload_n 0) ∧ dk cX12_cell 54 = some (.iload_n 1) ∧ dk cX12_cell 55 = some (.iload_n 2) ∧ dk cX12_cell 56 = some (.invokevirtual 373) ∧ cres 12 373 = some 239) ∧ (pM 239 = 2 ∧ sM 239 = false ∧ oM 239 = 12 ∧ dk cX12_cell 59 = some (.ifCond .le 16) ∧ jok 59 16 = true ∧ jmp 59 16 = 75 ∧ dk cX12_cell 62 = some (.aload_n 0) ∧ dk cX12_cell 63 = some (.aload_n 0) ∧ dk cX12_cell 64 = some (.iload_n 1) ∧ dk cX12_cell 65 = some (.iload_n 2)) ∧ (dk cX12_cell 66 = some (.invokevirtual 373) ∧ dk cX12_cell 69 = some (.invokevirtual 376) ∧ dk cX12_cell 72 = some (.goto 15) ∧ jok 72 15 = true ∧ jmp 72 15 = 87 ∧ dk cX12_cell 75 = some (.aload_n 0) ∧ dk cX12_cell 76 = some (.getfield 125) ∧ fres 12 125 = some (12, 52, 0, true) ∧ dk cX12_cell 79 = some (.bipush 60) ∧ dk cX12_cell 81 = some (.iload_n 1)) ∧ (dk cX12_cell 82 = some (.imul) ∧ dk cX12_cell 83 = some (.iload_n 2) ∧ dk cX12_cell 84 = some (.iadd) ∧ dk cX12_cell 85 = some (.iaload) ∧ dk cX12_cell 86 = some (.i2l) ∧ dk cX12_cell 87 = some (.lreturn)) := ⟨by decide +kernel, by decide +kernel, by decide +kernel, by decide +kernel, by decide +kernel, by decide +kernel, by decide +kernel, by decide +kernel, by decide +kernel⟩
set_option maxRecDepth 100000 in
theorem N_X12_cell : ((yM 162).name = "<init>") = False ∧ ((yM 239).name = "<init>") = False := by simp only [eq_iff_iff, iff_false, iff_true]; decide +kernel
set_option maxRecDepth 100000 in
theorem D_X12_isBeyond : (dk cX12_isBeyond 0 = some (.iload_n 0) ∧ dk cX12_isBeyond 1 = some (.ifCond .lt 19) ∧ jok 1 19 = true ∧ jmp 1 19 = 20 ∧ dk cX12_isBeyond 4 = some (.lload_n 1) ∧ dk cX12_isBeyond 5 = some (.lconst 0) ∧ dk cX12_isBeyond 6 = some (.lcmp) ∧ dk cX12_isBeyond 7 = some (.ifCond .lt 13) ∧ jok 7 13 = true ∧ jmp 7 13 = 20) ∧ (dk cX12_isBeyond 10 = some (.iload_n 0) ∧ dk cX12_isBeyond 11 = some (.i2l) ∧ dk cX12_isBeyond 12 = some (.lload_n 1) ∧ dk cX12_isBeyond 13 = some (.ladd) ∧ dk cX12_isBeyond 14 = some (.iload_n 3) ∧ dk cX12_isBeyond 15 = some (.i2l) ∧ dk cX12_isBeyond 16 = some (.lcmp) ∧ dk cX12_isBeyond 17 = some (.ifCond .le 7) ∧ jok 17 7 = true ∧ jmp 17 7 = 24) ∧ (dk cX12_isBeyond 20 = some (.iconst 1) ∧ dk cX12_isBeyond 21 = some (.goto 4) ∧ jok 21 4 = true ∧ jmp 21 4 = 25 ∧ dk cX12_isBeyond 24 = some (.iconst 0) ∧ dk cX12_isBeyond 25 = some (.ireturn)) := ⟨by decide +kernel, by decide +kernel, by decide +kernel⟩
set_option maxRecDepth 100000 in
theorem D_X12_copy : (dk cX12_copy 0 = some (.iload_n 1) ∧ dk cX12_copy 1 = some (.invokestatic 205) ∧ cres 12 205 = some 236 ∧ pM 236 = 1 ∧ sM 236 = true ∧ dk cX12_copy 4 = some (.ifCond .ne 10) ∧ jok 4 10 = true ∧ jmp 4 10 = 14 ∧ dk cX12_copy 7 = some (.iload_n 3) ∧ dk cX12_copy 8 = some (.invokestatic 205)) ∧ (dk cX12_copy 11 = some (.ifCond .eq 9) ∧ jok 11 9 = true ∧ jmp 11 9 = 20 ∧ dk cX12_copy 14 = some (.aload_n 0) ∧ dk cX12_copy 15 = some (.iconst (-1)) ∧ dk cX12_copy 16 = some (.invokevirtual 156) ∧ cres 12 156 = some 160 ∧ pM 160 = 1 ∧ sM 160 = false ∧ oM 160 = 12) ∧ (dk cX12_copy 19 = some (.ireturn) ∧ dk cX12_copy 20 = some (.aload_n 0) ∧ dk cX12_copy 21 = some (.getfield 119) ∧ fres 12 119 = some (12, 50, 0, true) ∧ dk cX12_copy 24 = some (.iload_n 1) ∧ dk cX12_copy 25 = some (.iaload) ∧ dk cX12_copy 26 = some (.ifCond .lt 12) ∧ jok 26 12 = true ∧ jmp 26 12 = 38 ∧ dk cX12_copy 29 = some (.aload_n 0)) ∧ (dk cX12_copy 30 = some (.getfield 119) ∧ dk cX12_copy 33 = some (.iload_n 3) ∧ dk cX12_copy 34 = some (.iaload) ∧ dk cX12_copy 35 = some (.ifCond .ge 9) ∧ jok 35 9 = true ∧ jmp 35 9 = 44 ∧ dk cX12_copy 38 = some (.aload_n 0) ∧ dk cX12_copy 39 = some (.iconst 1) ∧ dk cX12_copy 40 = some (.invokevirtual 160) ∧ cres 12 160 = some 161) ∧ (pM 161 = 1 ∧ sM 161 = false ∧ oM 161 = 12 ∧ dk cX12_copy 43 = some (.ireturn) ∧ dk cX12_copy 44 = some (.aload_n 0) ∧ dk cX12_copy 45 = some (.getfield 122) ∧ fres 12 122 = some (12, 51, 0, true) ∧ dk cX12_copy 48 = some (.iload_n 1) ∧ dk cX12_copy 49 = some (.iaload) ∧ dk cX12_copy 50 = some (.aload_n 0)) ∧ (dk cX12_copy 51 = some (.getfield 122) ∧ dk cX12_copy 54 = some (.iload_n 3) ∧ dk cX12_copy 55 = some (.iaload) ∧ dk cX12_copy 56 = some (.if_icmp .eq 9) ∧ jok 56 9 = true ∧ jmp 56 9 = 65 ∧ dk cX12_copy 59 = some (.aload_n 0) ∧ dk cX12_copy 60 = some (.iconst 2) ∧ dk cX12_copy 61 = some (.invokevirtual 160) ∧ dk cX12_copy 64 = some (.ireturn)) ∧ (dk cX12_copy 65 = some (.iload_n 2) ∧ dk cX12_copy 66 = some (.iload 5) ∧ dk cX12_copy 68 = some (.i2l) ∧ dk cX12_copy 69 = some (.aload_n 0) ∧ dk cX12_copy 70 = some (.getfield 119) ∧ dk cX12_copy 73 = some (.iload_n 1) ∧ dk cX12_copy 74 = some (.iaload) ∧ dk cX12_copy 75 = some (.invokestatic 163) ∧ cres 12 163 = some 242 ∧ pM 242 = 3) ∧ (sM 242 = true ∧ dk cX12_copy 78 = some (.ifCond .ne 20) ∧ jok 78 20 = true ∧ jmp 78 20 = 98 ∧ dk cX12_copy 81 = some (.iload 4) ∧ dk cX12_copy 83 = some (.iload 5) ∧ dk cX12_copy 85 = some (.i2l) ∧ dk cX12_copy 86 = some (.aload_n 0) ∧ dk cX12_copy 87 = some (.getfield 119) ∧ dk cX12_copy 90 = some (.iload_n 3)) ∧ (dk cX12_copy 91 = some (.iaload) ∧ dk cX12_copy 92 = some (.invokestatic 163) ∧ dk cX12_copy 95 = some (.ifCond .eq 9) ∧ jok 95 9 = true ∧ jmp 95 9 = 104 ∧ dk cX12_copy 98 = some (.aload_n 0) ∧ dk cX12_copy 99 = some (.iconst 3) ∧ dk cX12_copy 100 = some (.invokevirtual 160) ∧ dk cX12_copy 103 = some (.ireturn) ∧ dk cX12_copy 104 = some (.iconst 0)) ∧ (dk cX12_copy 105 = some (.istore 6) ∧ dk cX12_copy 107 = some (.iload 6) ∧ dk cX12_copy 109 = some (.iload 5) ∧ dk cX12_copy 111 = some (.if_icmp .ge 30) ∧ jok 111 30 = true ∧ jmp 111 30 = 141 ∧ dk cX12_copy 114 = some (.aload_n 0) ∧ dk cX12_copy 115 = some (.getfield 128) ∧ fres 12 128 = some (12, 53, 0, true) ∧ dk cX12_copy 118 = some (.iload 6)) ∧ (dk cX12_copy 120 = some (.aload_n 0) ∧ dk cX12_copy 121 = some (.getfield 125) ∧ fres 12 125 = some (12, 52, 0, true) ∧ dk cX12_copy 124 = some (.bipush 60) ∧ dk cX12_copy 126 = some (.iload_n 1) ∧ dk cX12_copy 127 = some (.imul) ∧ dk cX12_copy 128 = some (.iload_n 2) ∧ dk cX12_copy 129 = some (.iadd) ∧ dk cX12_copy 130 = some (.iload 6) ∧ dk cX12_copy 132 = some (.iadd)) ∧ (dk cX12_copy 133 = some (.iaload) ∧ dk cX12_copy 134 = some (.iastore) ∧ dk cX12_copy 135 = some (.iinc 6 1) ∧ dk cX12_copy 138 = some (.goto (-31)) ∧ jok 138 (-31) = true ∧ jmp 138 (-31) = 107 ∧ dk cX12_copy 141 = some (.iconst 0) ∧ dk cX12_copy 142 = some (.istore 6) ∧ dk cX12_copy 144 = some (.iload 6) ∧ dk cX12_copy 146 = some (.iload 5)) ∧ (dk cX12_copy 148 = some (.if_icmp .ge 31) ∧ jok 148 31 = true ∧ jmp 148 31 = 179 ∧ dk cX12_copy 151 = some (.aload_n 0) ∧ dk cX12_copy 152 = some (.getfield 125) ∧ dk cX12_copy 155 = some (.bipush 60) ∧ dk cX12_copy 157 = some (.iload_n 3) ∧ dk cX12_copy 158 = some (.imul) ∧ dk cX12_copy 159 = some (.iload 4) ∧ dk cX12_copy 161 = some (.iadd)) ∧ (dk cX12_copy 162 = some (.iload 6) ∧ dk cX12_copy 164 = some (.iadd) ∧ dk cX12_copy 165 = some (.aload_n 0) ∧ dk cX12_copy 166 = some (.getfield 128) ∧ dk cX12_copy 169 = some (.iload 6) ∧ dk cX12_copy 171 = some (.iaload) ∧ dk cX12_copy 172 = some (.iastore) ∧ dk cX12_copy 173 = some (.iinc 6 1) ∧ dk cX12_copy 176 = some (.goto (-32)) ∧ jok 176 (-32) = true) ∧ (jmp 176 (-32) = 144 ∧ dk cX12_copy 179 = some (.aload_n 0) ∧ dk cX12_copy 180 = some (.iload 5) ∧ dk cX12_copy 182 = some (.invokevirtual 156) ∧ dk cX12_copy 185 = some (.ireturn)) := ⟨by decide +kernel, by decide +kernel, by decide +kernel, by decide +kernel, by decide +kernel, by decide +kernel, by decide +kernel, by decide +kernel, by decide +kernel, by decide +kernel, by decide +kernel, by decide +kernel, by decide +kernel, by decide +kernel, by decide +kernel⟩
set_option maxRecDepth 100000 in
theorem N_X12_copy : ((yM 160).name = "<init>") = False ∧ ((yM 161).name = "<init>") = False := by simp only [eq_iff_iff, iff_false, iff_true]; decide +kernel
set_option maxRecDepth 100000 in
theorem D_X12_traced : (dk cX12_traced 0 = some (.aload_n 0) ∧ dk cX12_traced 1 = some (.bipush 31) ∧ dk cX12_traced 3 = some (.aload_n 0) ∧ dk cX12_traced 4 = some (.getfield 380) ∧ fres 12 380 = some (12, 54, 1, false) ∧ dk cX12_traced 7 = some (.imul) ∧ dk cX12_traced 8 = some (.iload_n 1) ∧ dk cX12_traced 9 = some (.iadd) ∧ dk cX12_traced 10 = some (.putfield 380) ∧ isBo (tyN 12 54) = false) ∧ (dk cX12_traced 13 = some (.return_)) := ⟨by decide +kernel, by decide +kernel⟩
set_option maxRecDepth 100000 in
theorem D_X12_tell : (dk cX12_tell 0 = some (.aload_n 0) ∧ dk cX12_tell 1 = some (.iload_n 1) ∧ dk cX12_tell 2 = some (.invokevirtual 202) ∧ cres 12 202 = some 176 ∧ pM 176 = 1 ∧ sM 176 = false ∧ oM 176 = 12 ∧ dk cX12_tell 5 = some (.ifCond .eq 5) ∧ jok 5 5 = true ∧ jmp 5 5 = 10) ∧ (dk cX12_tell 8 = some (.iconst (-1)) ∧ dk cX12_tell 9 = some (.ireturn) ∧ dk cX12_tell 10 = some (.aload_n 0) ∧ dk cX12_tell 11 = some (.getfield 28) ∧ fres 12 28 = some (12, 10, 0, true) ∧ dk cX12_tell 14 = some (.iload_n 1) ∧ dk cX12_tell 15 = some (.iaload) ∧ dk cX12_tell 16 = some (.istore_n 2) ∧ dk cX12_tell 17 = some (.iload_n 2) ∧ dk cX12_tell 18 = some (.iconst 2)) ∧ (dk cX12_tell 19 = some (.if_icmp .ne 8) ∧ jok 19 8 = true ∧ jmp 19 8 = 27 ∧ dk cX12_tell 22 = some (.aload_n 0) ∧ dk cX12_tell 23 = some (.iconst 3) ∧ dk cX12_tell 24 = some (.invokevirtual 383) ∧ cres 12 383 = some 244 ∧ pM 244 = 1 ∧ sM 244 = false ∧ oM 244 = 12) ∧ (dk cX12_tell 27 = some (.iload_n 2) ∧ dk cX12_tell 28 = some (.ifCond .le 8) ∧ jok 28 8 = true ∧ jmp 28 8 = 36 ∧ dk cX12_tell 31 = some (.aload_n 0) ∧ dk cX12_tell 32 = some (.iconst 2) ∧ dk cX12_tell 33 = some (.invokevirtual 383) ∧ dk cX12_tell 36 = some (.aload_n 0) ∧ dk cX12_tell 37 = some (.iconst 1) ∧ dk cX12_tell 38 = some (.invokevirtual 383)) ∧ (dk cX12_tell 41 = some (.iload_n 2) ∧ dk cX12_tell 42 = some (.iconst 2) ∧ dk cX12_tell 43 = some (.if_icmp .ne 8) ∧ jok 43 8 = true ∧ jmp 43 8 = 51 ∧ dk cX12_tell 46 = some (.aload_n 0) ∧ dk cX12_tell 47 = some (.iconst 1) ∧ dk cX12_tell 48 = some (.invokevirtual 383) ∧ dk cX12_tell 51 = some (.aload_n 0) ∧ dk cX12_tell 52 = some (.iload_n 1)) ∧ (dk cX12_tell 53 = some (.invokevirtual 233) ∧ cres 12 233 = some 182 ∧ pM 182 = 1 ∧ sM 182 = false ∧ oM 182 = 12 ∧ dk cX12_tell 56 = some (.istore_n 3) ∧ dk cX12_tell 57 = some (.iload_n 2) ∧ dk cX12_tell 58 = some (.ifCond .ne 7) ∧ jok 58 7 = true ∧ jmp 58 7 = 65) ∧ (dk cX12_tell 61 = some (.iload_n 3) ∧ dk cX12_tell 62 = some (.goto 23) ∧ jok 62 23 = true ∧ jmp 62 23 = 85 ∧ dk cX12_tell 65 = some (.iload_n 2) ∧ dk cX12_tell 66 = some (.iconst 1) ∧ dk cX12_tell 67 = some (.if_icmp .ne 11) ∧ jok 67 11 = true ∧ jmp 67 11 = 78 ∧ dk cX12_tell 70 = some (.iload_n 3)) ∧ (dk cX12_tell 71 = some (.sipush 1000) ∧ dk cX12_tell 74 = some (.iadd) ∧ dk cX12_tell 75 = some (.goto 10) ∧ jok 75 10 = true ∧ jmp 75 10 = 85 ∧ dk cX12_tell 78 = some (.iconst 2) ∧ dk cX12_tell 79 = some (.iload_n 3) ∧ dk cX12_tell 80 = some (.imul) ∧ dk cX12_tell 81 = some (.sipush 1000) ∧ dk cX12_tell 84 = some (.iadd)) ∧ (dk cX12_tell 85 = some (.ireturn)) := ⟨by decide +kernel, by decide +kernel, by decide +kernel, by decide +kernel, by decide +kernel, by decide +kernel, by decide +kernel, by decide +kernel, by decide +kernel⟩
set_option maxRecDepth 100000 in
theorem N_X12_tell : ((yM 176).name = "<init>") = False ∧ ((yM 244).name = "<init>") = False ∧ ((yM 182).name = "<init>") = False := by simp only [eq_iff_iff, iff_false, iff_true]; decide +kernel
set_option maxRecDepth 100000 in
theorem D_X12_call : (dk cX12_call 0 = some (.aload_n 0) ∧ dk cX12_call 1 = some (.iload_n 1) ∧ dk cX12_call 2 = some (.invokevirtual 202) ∧ cres 12 202 = some 176 ∧ pM 176 = 1 ∧ sM 176 = false ∧ oM 176 = 12 ∧ dk cX12_call 5 = some (.ifCond .eq 5) ∧ jok 5 5 = true ∧ jmp 5 5 = 10) ∧ (dk cX12_call 8 = some (.iconst (-1)) ∧ dk cX12_call 9 = some (.ireturn) ∧ dk cX12_call 10 = some (.aload_n 0) ∧ dk cX12_call 11 = some (.aload_n 0) ∧ dk cX12_call 12 = some (.getfield 28) ∧ fres 12 28 = some (12, 10, 0, true) ∧ dk cX12_call 15 = some (.iload_n 1) ∧ dk cX12_call 16 = some (.iaload) ∧ dk cX12_call 17 = some (.iconst 2) ∧ dk cX12_call 18 = some (.if_icmp .ne 7)) ∧ (jok 18 7 = true ∧ jmp 18 7 = 25 ∧ dk cX12_call 21 = some (.iconst 5) ∧ dk cX12_call 22 = some (.goto 4) ∧ jok 22 4 = true ∧ jmp 22 4 = 26 ∧ dk cX12_call 25 = some (.iconst 4) ∧ dk cX12_call 26 = some (.invokevirtual 383) ∧ cres 12 383 = some 244 ∧ pM 244 = 1) ∧ (sM 244 = false ∧ oM 244 = 12 ∧ dk cX12_call 29 = some (.aload_n 0) ∧ dk cX12_call 30 = some (.getfield 28) ∧ dk cX12_call 33 = some (.iload_n 1) ∧ dk cX12_call 34 = some (.iaload) ∧ dk cX12_call 35 = some (.iconst 2) ∧ dk cX12_call 36 = some (.if_icmp .ne 8) ∧ jok 36 8 = true ∧ jmp 36 8 = 44) ∧ (dk cX12_call 39 = some (.bipush 77) ∧ dk cX12_call 41 = some (.goto 4) ∧ jok 41 4 = true ∧ jmp 41 4 = 45 ∧ dk cX12_call 44 = some (.iload_n 1) ∧ dk cX12_call 45 = some (.ireturn)) := ⟨by decide +kernel, by decide +kernel, by decide +kernel, by decide +kernel, by decide +kernel⟩
set_option maxRecDepth 100000 in
theorem N_X12_call : ((yM 176).name = "<init>") = False ∧ ((yM 244).name = "<init>") = False := by simp only [eq_iff_iff, iff_false, iff_true]; decide +kernel
set_option maxRecDepth 100000 in
theorem D_X12_as : (dk cX12_as 0 = some (.aload_n 0) ∧ dk cX12_as 1 = some (.iload_n 1) ∧ dk cX12_as 2 = some (.invokevirtual 202) ∧ cres 12 202 = some 176 ∧ pM 176 = 1 ∧ sM 176 = false ∧ oM 176 = 12 ∧ dk cX12_as 5 = some (.ifCond .eq 9) ∧ jok 5 9 = true ∧ jmp 5 9 = 14) ∧ (dk cX12_as 8 = some (.aload_n 0) ∧ dk cX12_as 9 = some (.iconst (-1)) ∧ dk cX12_as 10 = some (.invokevirtual 156) ∧ cres 12 156 = some 160 ∧ pM 160 = 1 ∧ sM 160 = false ∧ oM 160 = 12 ∧ dk cX12_as 13 = some (.ireturn) ∧ dk cX12_as 14 = some (.iload_n 2) ∧ dk cX12_as 15 = some (.i2l)) ∧ (dk cX12_as 16 = some (.lconst 0) ∧ dk cX12_as 17 = some (.ldc2_w 154) ∧ lres 12 154 = some (2) ∧ dk cX12_as 20 = some (.invokestatic 143) ∧ cres 12 143 = some 152 ∧ pM 152 = 3 ∧ sM 152 = true ∧ dk cX12_as 23 = some (.ifCond .ne 10) ∧ jok 23 10 = true ∧ jmp 23 10 = 33) ∧ (dk cX12_as 26 = some (.aload_n 0) ∧ dk cX12_as 27 = some (.bipush (-2)) ∧ dk cX12_as 29 = some (.invokevirtual 156) ∧ dk cX12_as 32 = some (.ireturn) ∧ dk cX12_as 33 = some (.aload_n 0) ∧ dk cX12_as 34 = some (.getfield 28) ∧ fres 12 28 = some (12, 10, 0, true) ∧ dk cX12_as 37 = some (.iload_n 1) ∧ dk cX12_as 38 = some (.iaload) ∧ dk cX12_as 39 = some (.iload_n 2)) ∧ (dk cX12_as 40 = some (.if_icmp .lt 11) ∧ jok 40 11 = true ∧ jmp 40 11 = 51 ∧ dk cX12_as 43 = some (.aload_n 0) ∧ dk cX12_as 44 = some (.iconst 1) ∧ dk cX12_as 45 = some (.invokevirtual 156) ∧ dk cX12_as 48 = some (.goto 8) ∧ jok 48 8 = true ∧ jmp 48 8 = 56 ∧ dk cX12_as 51 = some (.aload_n 0)) ∧ (dk cX12_as 52 = some (.iconst 2) ∧ dk cX12_as 53 = some (.invokevirtual 160) ∧ cres 12 160 = some 161 ∧ pM 161 = 1 ∧ sM 161 = false ∧ oM 161 = 12 ∧ dk cX12_as 56 = some (.ireturn)) := ⟨by decide +kernel, by decide +kernel, by decide +kernel, by decide +kernel, by decide +kernel, by decide +kernel⟩
set_option maxRecDepth 100000 in
theorem N_X12_as : ((yM 176).name = "<init>") = False ∧ ((yM 160).name = "<init>") = False ∧ ((yM 161).name = "<init>") = False := by simp only [eq_iff_iff, iff_false, iff_true]; decide +kernel
set_option maxRecDepth 100000 in
theorem D_X12_trace : dk cX12_trace 0 = some (.aload_n 0) ∧ dk cX12_trace 1 = some (.getfield 380) ∧ fres 12 380 = some (12, 54, 1, false) ∧ dk cX12_trace 4 = some (.ireturn) := by decide +kernel
set_option maxRecDepth 100000 in
theorem D_X12_fault : dk cX12_fault 0 = some (.aload_n 0) ∧ dk cX12_fault 1 = some (.getfield 147) ∧ fres 12 147 = some (12, 0, 1, false) ∧ dk cX12_fault 4 = some (.ireturn) := by decide +kernel
set_option maxRecDepth 100000 in
theorem D_X12_many : (dk cX12_many 0 = some (.iconst 0) ∧ dk cX12_many 1 = some (.istore_n 2) ∧ dk cX12_many 2 = some (.iload_n 1) ∧ dk cX12_many 3 = some (.tableswitch 110 0 7 #[45, 75, 80, 85, 90, 95, 100, 105]) ∧ jok 3 110 = true ∧ jmp 3 110 = 113 ∧ jok 3 45 = true ∧ jmp 3 45 = 48 ∧ jok 3 75 = true ∧ jmp 3 75 = 78) ∧ (jok 3 80 = true ∧ jmp 3 80 = 83 ∧ jok 3 85 = true ∧ jmp 3 85 = 88 ∧ jok 3 90 = true ∧ jmp 3 90 = 93 ∧ jok 3 95 = true ∧ jmp 3 95 = 98 ∧ jok 3 100 = true ∧ jmp 3 100 = 103) ∧ (jok 3 105 = true ∧ jmp 3 105 = 108 ∧ dk cX12_many 48 = some (.iconst 0) ∧ dk cX12_many 49 = some (.istore_n 3) ∧ dk cX12_many 50 = some (.iload_n 3) ∧ dk cX12_many 51 = some (.bipush 10) ∧ dk cX12_many 53 = some (.if_icmp .ge 21) ∧ jok 53 21 = true ∧ jmp 53 21 = 74 ∧ dk cX12_many 56 = some (.iload_n 2)) ∧ (dk cX12_many 57 = some (.aload_n 0) ∧ dk cX12_many 58 = some (.getfield 7) ∧ fres 12 7 = some (12, 1, 0, true) ∧ dk cX12_many 61 = some (.iload_n 3) ∧ dk cX12_many 62 = some (.iaload) ∧ dk cX12_many 63 = some (.invokestatic 302) ∧ cres 12 302 = some 155 ∧ pM 155 = 1 ∧ sM 155 = true ∧ dk cX12_many 66 = some (.iadd)) ∧ (dk cX12_many 67 = some (.istore_n 2) ∧ dk cX12_many 68 = some (.iinc 3 1) ∧ dk cX12_many 71 = some (.goto (-21)) ∧ jok 71 (-21) = true ∧ jmp 71 (-21) = 50 ∧ dk cX12_many 74 = some (.iload_n 2) ∧ dk cX12_many 75 = some (.iconst 2) ∧ dk cX12_many 76 = some (.idiv) ∧ dk cX12_many 77 = some (.ireturn) ∧ dk cX12_many 78 = some (.aload_n 0)) ∧ (dk cX12_many 79 = some (.getfield 183) ∧ fres 12 183 = some (12, 4, 1, false) ∧ dk cX12_many 82 = some (.ireturn) ∧ dk cX12_many 83 = some (.aload_n 0) ∧ dk cX12_many 84 = some (.getfield 199) ∧ fres 12 199 = some (12, 9, 1, false) ∧ dk cX12_many 87 = some (.ireturn) ∧ dk cX12_many 88 = some (.aload_n 0) ∧ dk cX12_many 89 = some (.getfield 242) ∧ fres 12 242 = some (12, 18, 1, false)) ∧ (dk cX12_many 92 = some (.ireturn) ∧ dk cX12_many 93 = some (.aload_n 0) ∧ dk cX12_many 94 = some (.getfield 258) ∧ fres 12 258 = some (12, 21, 1, false) ∧ dk cX12_many 97 = some (.ireturn) ∧ dk cX12_many 98 = some (.aload_n 0) ∧ dk cX12_many 99 = some (.getfield 131) ∧ fres 12 131 = some (12, 36, 1, false) ∧ dk cX12_many 102 = some (.ireturn) ∧ dk cX12_many 103 = some (.aload_n 0)) ∧ (dk cX12_many 104 = some (.getfield 346) ∧ fres 12 346 = some (12, 42, 1, false) ∧ dk cX12_many 107 = some (.ireturn) ∧ dk cX12_many 108 = some (.aload_n 0) ∧ dk cX12_many 109 = some (.getfield 370) ∧ fres 12 370 = some (12, 47, 1, false) ∧ dk cX12_many 112 = some (.ireturn) ∧ dk cX12_many 113 = some (.bipush (-2)) ∧ dk cX12_many 115 = some (.ireturn)) := ⟨by decide +kernel, by decide +kernel, by decide +kernel, by decide +kernel, by decide +kernel, by decide +kernel, by decide +kernel, by decide +kernel⟩
end
section
theorem lg_has {ls : Array Slot} {mL B i : Nat} {L : List Value} {v : Value} (hl : lv_has ls mL (aLf B L)) (h : lg L i = v) (hv : nf v = true) : ls[i]? = some (.val (cv B v)) := by
  have h1 : L[i]? = some v := by
    unfold lg at h
    rw [List.getD_eq_getElem?_getD] at h
    cases hq : L[i]? with
    | none => rw [hq] at h; simp at h; subst h; simp [nf] at hv
    | some w => rw [hq] at h; simp at h; rw [h]
  exact hl.2.2 (i, cv B v) (aLf_mem.mpr ⟨i, v, h1, hv, rfl⟩)
theorem pv_ok {L : List Value} {i : Nat} (h : pv L i = true) : ∀ j w, j + 1 = i → L[j]? = some w → nl w = true := by
  intro j w hj hw
  subst hj
  simpa [pv, lg, List.getD_eq_getElem?_getD, hw] using h
theorem ptF_spec {K : aS → Prop} {mu : aM} {sg : aS} {a : Nat} {x : Int32} {q : Option (Nat × Nat × Nat × Bool)} (h : ptF K mu sg a x q) : ∃ ci k, q = some (ci, k, 1, false) ∧ (mu a).1 = 10 + ci ∧ (isBo (tyN ci k) = true → b01 x) ∧ K (s2 sg a k x) := by
  unfold ptF at h
  split at h
  · exact ⟨_, _, rfl, h⟩
  · exact h.elim
theorem ptL_spec {K : aS → Prop} {mu : aM} {sg : aS} {a : Nat} {x : Int64} {q : Option (Nat × Nat × Nat × Bool)} (h : ptL K mu sg a x q) : ∃ ci k, q = some (ci, k, 2, false) ∧ (mu a).1 = 10 + ci ∧ K (s2l sg a k x) := by
  unfold ptL at h
  split at h
  · exact ⟨_, _, rfl, h⟩
  · exact h.elim
theorem gtF_spec {K : Value → Prop} {mu : aM} {ro : aR} {sg : aS} {a : Nat} {q : Option (Nat × Nat × Nat × Bool)} (h : gtF K mu ro sg a q) : ∃ ci k kd f, q = some (ci, k, kd, f) ∧ (mu a).1 = 10 + ci ∧ ((kd = 1 ∧ K (.int (sg a k))) ∨ (kd = 0 ∧ K (va_rf (ro a k))) ∨ (kd = 2 ∧ K (.long (jl (sg a (100 + k)) (sg a (200 + k)))))) := by
  unfold gtF at h
  split at h
  · exact ⟨_, _, _, _, rfl, h.1, Or.inl ⟨rfl, h.2⟩⟩
  · exact ⟨_, _, _, _, rfl, h.1, Or.inr (Or.inl ⟨rfl, h.2⟩)⟩
  · exact ⟨_, _, _, _, rfl, h.1, Or.inr (Or.inr ⟨rfl, h.2⟩)⟩
  · exact h.elim
theorem narrow_I {ty : FieldType} {x : Int32} (h : kdT ty = 1) (hb : isBo ty = true → b01 x) : narrow ty (.int x) = .int x ∧ fits ty (.int x) = true := by
  cases ty with
  | int => exact ⟨rfl, rfl⟩
  | boolean => rcases hb rfl with rfl | rfl <;> exact ⟨by decide, by decide⟩
  | _ => simp [kdT] at h

section SND
variable {G : aG} {mL d n0 o n nc ns pc : Nat} {cc : ByteArray} {mu : aM} {ro : aR} {sg : aS} {L st : List Value} {K : Nat → List Value → List Value → aS → Prop} {Rt : Option Value → aS → Prop}

theorem sv_iconst (hC : Cx G mL d n0 o cc) (hL : L.length ≤ mL) (hK : ∀ pc L st sg, L.length ≤ mL → K pc L st sg → AW G mL n nc ns mu ro sg pc L st) {c : Int} (hd : dk cc pc = some (.iconst c)) (h : vcI K Rt o d n mu ro pc L st sg (.iconst c)) : AW G mL n nc ns mu ro sg pc L st := by
  obtain ⟨⟨p, l, e, R, s, m⟩, ⟨args, below, meth, c⟩, ⟨D, dA, B⟩, Q⟩ := G
  obtain ⟨hx, hb, hml, hown, hts, hlk, hk, hz, h0, hf, hlo⟩ := hC
  intro H locs ls hP hS hl
  have hdd := dk_1 hd rfl
  simp only [vcI] at h
  exact lv_iconst hx hb hdd rfl (hK _ _ _ _ hL h H locs ls hP hS hl)

theorem sv_bipush (hC : Cx G mL d n0 o cc) (hL : L.length ≤ mL) (hK : ∀ pc L st sg, L.length ≤ mL → K pc L st sg → AW G mL n nc ns mu ro sg pc L st) {c : Int} (hd : dk cc pc = some (.bipush c)) (h : vcI K Rt o d n mu ro pc L st sg (.bipush c)) : AW G mL n nc ns mu ro sg pc L st := by
  obtain ⟨⟨p, l, e, R, s, m⟩, ⟨args, below, meth, c⟩, ⟨D, dA, B⟩, Q⟩ := G
  obtain ⟨hx, hb, hml, hown, hts, hlk, hk, hz, h0, hf, hlo⟩ := hC
  intro H locs ls hP hS hl
  have hdd := dk_1 hd rfl
  simp only [vcI] at h
  exact lv_bipush hx hb hdd rfl (hK _ _ _ _ hL h H locs ls hP hS hl)

theorem sv_sipush (hC : Cx G mL d n0 o cc) (hL : L.length ≤ mL) (hK : ∀ pc L st sg, L.length ≤ mL → K pc L st sg → AW G mL n nc ns mu ro sg pc L st) {c : Int} (hd : dk cc pc = some (.sipush c)) (h : vcI K Rt o d n mu ro pc L st sg (.sipush c)) : AW G mL n nc ns mu ro sg pc L st := by
  obtain ⟨⟨p, l, e, R, s, m⟩, ⟨args, below, meth, c⟩, ⟨D, dA, B⟩, Q⟩ := G
  obtain ⟨hx, hb, hml, hown, hts, hlk, hk, hz, h0, hf, hlo⟩ := hC
  intro H locs ls hP hS hl
  have hdd := dk_1 hd rfl
  simp only [vcI] at h
  exact lv_sipush hx hb hdd rfl (hK _ _ _ _ hL h H locs ls hP hS hl)

theorem sv_lconst (hC : Cx G mL d n0 o cc) (hL : L.length ≤ mL) (hK : ∀ pc L st sg, L.length ≤ mL → K pc L st sg → AW G mL n nc ns mu ro sg pc L st) {c : Fin 2} (hd : dk cc pc = some (.lconst c)) (h : vcI K Rt o d n mu ro pc L st sg (.lconst c)) : AW G mL n nc ns mu ro sg pc L st := by
  obtain ⟨⟨p, l, e, R, s, m⟩, ⟨args, below, meth, c⟩, ⟨D, dA, B⟩, Q⟩ := G
  obtain ⟨hx, hb, hml, hown, hts, hlk, hk, hz, h0, hf, hlo⟩ := hC
  intro H locs ls hP hS hl
  have hdd := dk_1 hd rfl
  simp only [vcI] at h
  exact lv_lconst hx hb hdd rfl (hK _ _ _ _ hL h H locs ls hP hS hl)

theorem sv_null (hC : Cx G mL d n0 o cc) (hL : L.length ≤ mL) (hK : ∀ pc L st sg, L.length ≤ mL → K pc L st sg → AW G mL n nc ns mu ro sg pc L st) (hd : dk cc pc = some (.aconst_null)) (h : vcI K Rt o d n mu ro pc L st sg (.aconst_null)) : AW G mL n nc ns mu ro sg pc L st := by
  obtain ⟨⟨p, l, e, R, s, m⟩, ⟨args, below, meth, c⟩, ⟨D, dA, B⟩, Q⟩ := G
  obtain ⟨hx, hb, hml, hown, hts, hlk, hk, hz, h0, hf, hlo⟩ := hC
  intro H locs ls hP hS hl
  have hdd := dk_1 hd rfl
  simp only [vcI] at h
  exact lv_null hx hb hdd (hK _ _ _ _ hL h H locs ls hP hS hl)

theorem sv_ldc (hC : Cx G mL d n0 o cc) (hL : L.length ≤ mL) (hK : ∀ pc L st sg, L.length ≤ mL → K pc L st sg → AW G mL n nc ns mu ro sg pc L st) {i : Nat} (hd : dk cc pc = some (.ldc i)) (h : vcI K Rt o d n mu ro pc L st sg (.ldc i)) : AW G mL n nc ns mu ro sg pc L st := by
  obtain ⟨⟨p, l, e, R, s, m⟩, ⟨args, below, meth, c⟩, ⟨D, dA, B⟩, Q⟩ := G
  obtain ⟨hx, hb, hml, hown, hts, hlk, hk, hz, h0, hf, hlo⟩ := hC
  intro H locs ls hP hS hl
  have hdd := dk_1 hd rfl
  simp only [vcI] at h
  split at h
  · next v hv => exact lv_ldc hx hb hown (hts _ (kres_ok hv)) hdd (hK _ _ _ _ hL h H locs ls hP hS hl)
  · exact h.elim

theorem sv_ldcw (hC : Cx G mL d n0 o cc) (hL : L.length ≤ mL) (hK : ∀ pc L st sg, L.length ≤ mL → K pc L st sg → AW G mL n nc ns mu ro sg pc L st) {i : Nat} (hd : dk cc pc = some (.ldc_w i)) (h : vcI K Rt o d n mu ro pc L st sg (.ldc_w i)) : AW G mL n nc ns mu ro sg pc L st := by
  obtain ⟨⟨p, l, e, R, s, m⟩, ⟨args, below, meth, c⟩, ⟨D, dA, B⟩, Q⟩ := G
  obtain ⟨hx, hb, hml, hown, hts, hlk, hk, hz, h0, hf, hlo⟩ := hC
  intro H locs ls hP hS hl
  have hdd := dk_1 hd rfl
  simp only [vcI] at h
  split at h
  · next v hv => exact lv_ldcw hx hb hown (hts _ (kres_ok hv)) hdd (hK _ _ _ _ hL h H locs ls hP hS hl)
  · exact h.elim

theorem sv_ldc2 (hC : Cx G mL d n0 o cc) (hL : L.length ≤ mL) (hK : ∀ pc L st sg, L.length ≤ mL → K pc L st sg → AW G mL n nc ns mu ro sg pc L st) {i : Nat} (hd : dk cc pc = some (.ldc2_w i)) (h : vcI K Rt o d n mu ro pc L st sg (.ldc2_w i)) : AW G mL n nc ns mu ro sg pc L st := by
  obtain ⟨⟨p, l, e, R, s, m⟩, ⟨args, below, meth, c⟩, ⟨D, dA, B⟩, Q⟩ := G
  obtain ⟨hx, hb, hml, hown, hts, hlk, hk, hz, h0, hf, hlo⟩ := hC
  intro H locs ls hP hS hl
  have hdd := dk_1 hd rfl
  simp only [vcI] at h
  split at h
  · next v hv => exact lv_ldc2 hx hb hown (hts _ (lres_ok hv)) hdd (hK _ _ _ _ hL h H locs ls hP hS hl)
  · exact h.elim

theorem sv_iload_n (hC : Cx G mL d n0 o cc) (hL : L.length ≤ mL) (hK : ∀ pc L st sg, L.length ≤ mL → K pc L st sg → AW G mL n nc ns mu ro sg pc L st) {i : Fin 4} (hd : dk cc pc = some (.iload_n i)) (h : vcI K Rt o d n mu ro pc L st sg (.iload_n i)) : AW G mL n nc ns mu ro sg pc L st := by
  obtain ⟨⟨p, l, e, R, s, m⟩, ⟨args, below, meth, c⟩, ⟨D, dA, B⟩, Q⟩ := G
  obtain ⟨hx, hb, hml, hown, hts, hlk, hk, hz, h0, hf, hlo⟩ := hC
  intro H locs ls hP hS hl
  have hdd := dk_1 hd rfl
  simp only [vcI] at h
  split at h
  · next x hv => exact lv_iload_n hx hb hdd rfl (lg_has hl hv rfl) (hK _ _ _ _ hL h H locs ls hP hS hl)
  · exact h.elim

theorem sv_iload (hC : Cx G mL d n0 o cc) (hL : L.length ≤ mL) (hK : ∀ pc L st sg, L.length ≤ mL → K pc L st sg → AW G mL n nc ns mu ro sg pc L st) {i : Nat} (hd : dk cc pc = some (.iload i)) (h : vcI K Rt o d n mu ro pc L st sg (.iload i)) : AW G mL n nc ns mu ro sg pc L st := by
  obtain ⟨⟨p, l, e, R, s, m⟩, ⟨args, below, meth, c⟩, ⟨D, dA, B⟩, Q⟩ := G
  obtain ⟨hx, hb, hml, hown, hts, hlk, hk, hz, h0, hf, hlo⟩ := hC
  intro H locs ls hP hS hl
  have hdd := dk_1 hd rfl
  simp only [vcI] at h
  split at h
  · next x hv => exact lv_iload hx hb hdd (lg_has hl hv rfl) (hK _ _ _ _ hL h H locs ls hP hS hl)
  · exact h.elim

theorem sv_lload_n (hC : Cx G mL d n0 o cc) (hL : L.length ≤ mL) (hK : ∀ pc L st sg, L.length ≤ mL → K pc L st sg → AW G mL n nc ns mu ro sg pc L st) {i : Fin 4} (hd : dk cc pc = some (.lload_n i)) (h : vcI K Rt o d n mu ro pc L st sg (.lload_n i)) : AW G mL n nc ns mu ro sg pc L st := by
  obtain ⟨⟨p, l, e, R, s, m⟩, ⟨args, below, meth, c⟩, ⟨D, dA, B⟩, Q⟩ := G
  obtain ⟨hx, hb, hml, hown, hts, hlk, hk, hz, h0, hf, hlo⟩ := hC
  intro H locs ls hP hS hl
  have hdd := dk_1 hd rfl
  simp only [vcI] at h
  split at h
  · next x hv => exact lv_lload_n hx hb hdd rfl (lg_has hl hv rfl) (hK _ _ _ _ hL h H locs ls hP hS hl)
  · exact h.elim

theorem sv_lload (hC : Cx G mL d n0 o cc) (hL : L.length ≤ mL) (hK : ∀ pc L st sg, L.length ≤ mL → K pc L st sg → AW G mL n nc ns mu ro sg pc L st) {i : Nat} (hd : dk cc pc = some (.lload i)) (h : vcI K Rt o d n mu ro pc L st sg (.lload i)) : AW G mL n nc ns mu ro sg pc L st := by
  obtain ⟨⟨p, l, e, R, s, m⟩, ⟨args, below, meth, c⟩, ⟨D, dA, B⟩, Q⟩ := G
  obtain ⟨hx, hb, hml, hown, hts, hlk, hk, hz, h0, hf, hlo⟩ := hC
  intro H locs ls hP hS hl
  have hdd := dk_1 hd rfl
  simp only [vcI] at h
  split at h
  · next x hv => exact lv_lload hx hb hdd (lg_has hl hv rfl) (hK _ _ _ _ hL h H locs ls hP hS hl)
  · exact h.elim

theorem sv_aload_n (hC : Cx G mL d n0 o cc) (hL : L.length ≤ mL) (hK : ∀ pc L st sg, L.length ≤ mL → K pc L st sg → AW G mL n nc ns mu ro sg pc L st) {i : Fin 4} (hd : dk cc pc = some (.aload_n i)) (h : vcI K Rt o d n mu ro pc L st sg (.aload_n i)) : AW G mL n nc ns mu ro sg pc L st := by
  obtain ⟨⟨p, l, e, R, s, m⟩, ⟨args, below, meth, c⟩, ⟨D, dA, B⟩, Q⟩ := G
  obtain ⟨hx, hb, hml, hown, hts, hlk, hk, hz, h0, hf, hlo⟩ := hC
  intro H locs ls hP hS hl
  have hdd := dk_1 hd rfl
  simp only [vcI] at h
  split at h
  · next x hv => exact lv_aload_n hx hb hdd rfl (lg_has hl hv rfl) (hK _ _ _ _ hL h H locs ls hP hS hl)
  · next hv => exact lv_aload_nN hx hb hdd rfl (lg_has hl hv rfl) (hK _ _ _ _ hL h H locs ls hP hS hl)
  · exact h.elim

theorem sv_aload (hC : Cx G mL d n0 o cc) (hL : L.length ≤ mL) (hK : ∀ pc L st sg, L.length ≤ mL → K pc L st sg → AW G mL n nc ns mu ro sg pc L st) {i : Nat} (hd : dk cc pc = some (.aload i)) (h : vcI K Rt o d n mu ro pc L st sg (.aload i)) : AW G mL n nc ns mu ro sg pc L st := by
  obtain ⟨⟨p, l, e, R, s, m⟩, ⟨args, below, meth, c⟩, ⟨D, dA, B⟩, Q⟩ := G
  obtain ⟨hx, hb, hml, hown, hts, hlk, hk, hz, h0, hf, hlo⟩ := hC
  intro H locs ls hP hS hl
  have hdd := dk_1 hd rfl
  simp only [vcI] at h
  split at h
  · next x hv => exact lv_aload hx hb hdd (lg_has hl hv rfl) (hK _ _ _ _ hL h H locs ls hP hS hl)
  · next hv => exact lv_aloadN hx hb hdd (lg_has hl hv rfl) (hK _ _ _ _ hL h H locs ls hP hS hl)
  · exact h.elim

theorem sv_istore_n (hC : Cx G mL d n0 o cc) (hL : L.length ≤ mL) (hK : ∀ pc L st sg, L.length ≤ mL → K pc L st sg → AW G mL n nc ns mu ro sg pc L st) {i : Fin 4} (hd : dk cc pc = some (.istore_n i)) (h : vcI K Rt o d n mu ro pc L st sg (.istore_n i)) : AW G mL n nc ns mu ro sg pc L st := by
  obtain ⟨⟨p, l, e, R, s, m⟩, ⟨args, below, meth, c⟩, ⟨D, dA, B⟩, Q⟩ := G
  obtain ⟨hx, hb, hml, hown, hts, hlk, hk, hz, h0, hf, hlo⟩ := hC
  intro H locs ls hP hS hl
  have hdd := dk_1 hd rfl
  simp only [vcI] at h
  split at h
  · exact lv_istore_n hx hb hdd rfl hl (Nat.lt_of_lt_of_le h.2.1 hL) rfl (fun ls1 hl1 => hK _ _ _ _ (by rw [List.length_set]; exact hL) h.2.2 H locs ls1 hP hS (aLf_set h.2.1 (pv_ok h.1) hl1))
  · exact h.elim

theorem sv_istore (hC : Cx G mL d n0 o cc) (hL : L.length ≤ mL) (hK : ∀ pc L st sg, L.length ≤ mL → K pc L st sg → AW G mL n nc ns mu ro sg pc L st) {i : Nat} (hd : dk cc pc = some (.istore i)) (h : vcI K Rt o d n mu ro pc L st sg (.istore i)) : AW G mL n nc ns mu ro sg pc L st := by
  obtain ⟨⟨p, l, e, R, s, m⟩, ⟨args, below, meth, c⟩, ⟨D, dA, B⟩, Q⟩ := G
  obtain ⟨hx, hb, hml, hown, hts, hlk, hk, hz, h0, hf, hlo⟩ := hC
  intro H locs ls hP hS hl
  have hdd := dk_1 hd rfl
  simp only [vcI] at h
  split at h
  · exact lv_istore hx hb hdd hl (Nat.lt_of_lt_of_le h.2.1 hL) rfl (fun ls1 hl1 => hK _ _ _ _ (by rw [List.length_set]; exact hL) h.2.2 H locs ls1 hP hS (aLf_set h.2.1 (pv_ok h.1) hl1))
  · exact h.elim

theorem sv_lstore_n (hC : Cx G mL d n0 o cc) (hL : L.length ≤ mL) (hK : ∀ pc L st sg, L.length ≤ mL → K pc L st sg → AW G mL n nc ns mu ro sg pc L st) {i : Fin 4} (hd : dk cc pc = some (.lstore_n i)) (h : vcI K Rt o d n mu ro pc L st sg (.lstore_n i)) : AW G mL n nc ns mu ro sg pc L st := by
  obtain ⟨⟨p, l, e, R, s, m⟩, ⟨args, below, meth, c⟩, ⟨D, dA, B⟩, Q⟩ := G
  obtain ⟨hx, hb, hml, hown, hts, hlk, hk, hz, h0, hf, hlo⟩ := hC
  intro H locs ls hP hS hl
  have hdd := dk_1 hd rfl
  simp only [vcI] at h
  split at h
  · exact lv_lstore_n hx hb hdd rfl hl (Nat.lt_of_lt_of_le h.2.1 hL) rfl (fun ls1 hl1 => hK _ _ _ _ (by rw [List.length_set, List.length_set]; exact hL) h.2.2 H locs ls1 hP hS (aLf_set2 (Nat.lt_of_succ_lt h.2.1) (pv_ok h.1) hl1))
  · exact h.elim

theorem sv_lstore (hC : Cx G mL d n0 o cc) (hL : L.length ≤ mL) (hK : ∀ pc L st sg, L.length ≤ mL → K pc L st sg → AW G mL n nc ns mu ro sg pc L st) {i : Nat} (hd : dk cc pc = some (.lstore i)) (h : vcI K Rt o d n mu ro pc L st sg (.lstore i)) : AW G mL n nc ns mu ro sg pc L st := by
  obtain ⟨⟨p, l, e, R, s, m⟩, ⟨args, below, meth, c⟩, ⟨D, dA, B⟩, Q⟩ := G
  obtain ⟨hx, hb, hml, hown, hts, hlk, hk, hz, h0, hf, hlo⟩ := hC
  intro H locs ls hP hS hl
  have hdd := dk_1 hd rfl
  simp only [vcI] at h
  split at h
  · exact lv_lstore hx hb hdd hl (Nat.lt_of_lt_of_le h.2.1 hL) rfl (fun ls1 hl1 => hK _ _ _ _ (by rw [List.length_set, List.length_set]; exact hL) h.2.2 H locs ls1 hP hS (aLf_set2 (Nat.lt_of_succ_lt h.2.1) (pv_ok h.1) hl1))
  · exact h.elim

theorem sv_astore_n (hC : Cx G mL d n0 o cc) (hL : L.length ≤ mL) (hK : ∀ pc L st sg, L.length ≤ mL → K pc L st sg → AW G mL n nc ns mu ro sg pc L st) {i : Fin 4} (hd : dk cc pc = some (.astore_n i)) (h : vcI K Rt o d n mu ro pc L st sg (.astore_n i)) : AW G mL n nc ns mu ro sg pc L st := by
  obtain ⟨⟨p, l, e, R, s, m⟩, ⟨args, below, meth, c⟩, ⟨D, dA, B⟩, Q⟩ := G
  obtain ⟨hx, hb, hml, hown, hts, hlk, hk, hz, h0, hf, hlo⟩ := hC
  intro H locs ls hP hS hl
  have hdd := dk_1 hd rfl
  simp only [vcI] at h
  split at h
  · exact lv_astore_n hx hb hdd rfl hl (Nat.lt_of_lt_of_le h.2.1 hL) rfl (fun ls1 hl1 => hK _ _ _ _ (by rw [List.length_set]; exact hL) h.2.2 H locs ls1 hP hS (aLf_set h.2.1 (pv_ok h.1) hl1))
  · exact lv_astore_nN hx hb hdd rfl hl (Nat.lt_of_lt_of_le h.2.1 hL) rfl (fun ls1 hl1 => hK _ _ _ _ (by rw [List.length_set]; exact hL) h.2.2 H locs ls1 hP hS (aLf_set h.2.1 (pv_ok h.1) hl1))
  · exact h.elim

theorem sv_astore (hC : Cx G mL d n0 o cc) (hL : L.length ≤ mL) (hK : ∀ pc L st sg, L.length ≤ mL → K pc L st sg → AW G mL n nc ns mu ro sg pc L st) {i : Nat} (hd : dk cc pc = some (.astore i)) (h : vcI K Rt o d n mu ro pc L st sg (.astore i)) : AW G mL n nc ns mu ro sg pc L st := by
  obtain ⟨⟨p, l, e, R, s, m⟩, ⟨args, below, meth, c⟩, ⟨D, dA, B⟩, Q⟩ := G
  obtain ⟨hx, hb, hml, hown, hts, hlk, hk, hz, h0, hf, hlo⟩ := hC
  intro H locs ls hP hS hl
  have hdd := dk_1 hd rfl
  simp only [vcI] at h
  split at h
  · exact lv_astore hx hb hdd hl (Nat.lt_of_lt_of_le h.2.1 hL) rfl (fun ls1 hl1 => hK _ _ _ _ (by rw [List.length_set]; exact hL) h.2.2 H locs ls1 hP hS (aLf_set h.2.1 (pv_ok h.1) hl1))
  · exact lv_astoreN hx hb hdd hl (Nat.lt_of_lt_of_le h.2.1 hL) rfl (fun ls1 hl1 => hK _ _ _ _ (by rw [List.length_set]; exact hL) h.2.2 H locs ls1 hP hS (aLf_set h.2.1 (pv_ok h.1) hl1))
  · exact h.elim

theorem sv_iinc (hC : Cx G mL d n0 o cc) (hL : L.length ≤ mL) (hK : ∀ pc L st sg, L.length ≤ mL → K pc L st sg → AW G mL n nc ns mu ro sg pc L st) {i : Nat} {c : Int} (hd : dk cc pc = some (.iinc i c)) (h : vcI K Rt o d n mu ro pc L st sg (.iinc i c)) : AW G mL n nc ns mu ro sg pc L st := by
  obtain ⟨⟨p, l, e, R, s, m⟩, ⟨args, below, meth, c⟩, ⟨D, dA, B⟩, Q⟩ := G
  obtain ⟨hx, hb, hml, hown, hts, hlk, hk, hz, h0, hf, hlo⟩ := hC
  intro H locs ls hP hS hl
  have hdd := dk_1 hd rfl
  simp only [vcI] at h
  split at h
  · next x hv =>
    have hm : (i, Value.int x) ∈ aLf B L := by
      have h1 : L[i]? = some (.int x) := by
        unfold lg at hv
        rw [List.getD_eq_getElem?_getD] at hv
        cases hq : L[i]? with
        | none => rw [hq] at hv; simp at hv
        | some w => rw [hq] at hv; simp at hv; rw [hv]
      exact aLf_mem.mpr ⟨i, .int x, h1, rfl, rfl⟩
    obtain ⟨k, hk9⟩ := List.getElem?_of_mem hm
    exact lv_iinc hx hb hdd hl hk9 rfl (Nat.lt_of_lt_of_le h.2.1 hL) rfl (fun ls1 hl1 => hK _ _ _ _ (by rw [List.length_set]; exact hL) h.2.2 H locs ls1 hP hS (aLf_set h.2.1 (pv_ok h.1) hl1))
  · exact h.elim

theorem sv_iadd (hC : Cx G mL d n0 o cc) (hL : L.length ≤ mL) (hK : ∀ pc L st sg, L.length ≤ mL → K pc L st sg → AW G mL n nc ns mu ro sg pc L st) (hd : dk cc pc = some (.iadd)) (h : vcI K Rt o d n mu ro pc L st sg (.iadd)) : AW G mL n nc ns mu ro sg pc L st := by
  obtain ⟨⟨p, l, e, R, s, m⟩, ⟨args, below, meth, c⟩, ⟨D, dA, B⟩, Q⟩ := G
  obtain ⟨hx, hb, hml, hown, hts, hlk, hk, hz, h0, hf, hlo⟩ := hC
  intro H locs ls hP hS hl
  have hdd := dk_1 hd rfl
  simp only [vcI] at h
  split at h
  · exact lv_iadd hx hb hdd (hK _ _ _ _ hL h H locs ls hP hS hl)
  · exact h.elim

theorem sv_isub (hC : Cx G mL d n0 o cc) (hL : L.length ≤ mL) (hK : ∀ pc L st sg, L.length ≤ mL → K pc L st sg → AW G mL n nc ns mu ro sg pc L st) (hd : dk cc pc = some (.isub)) (h : vcI K Rt o d n mu ro pc L st sg (.isub)) : AW G mL n nc ns mu ro sg pc L st := by
  obtain ⟨⟨p, l, e, R, s, m⟩, ⟨args, below, meth, c⟩, ⟨D, dA, B⟩, Q⟩ := G
  obtain ⟨hx, hb, hml, hown, hts, hlk, hk, hz, h0, hf, hlo⟩ := hC
  intro H locs ls hP hS hl
  have hdd := dk_1 hd rfl
  simp only [vcI] at h
  split at h
  · exact lv_isub hx hb hdd (hK _ _ _ _ hL h H locs ls hP hS hl)
  · exact h.elim

theorem sv_imul (hC : Cx G mL d n0 o cc) (hL : L.length ≤ mL) (hK : ∀ pc L st sg, L.length ≤ mL → K pc L st sg → AW G mL n nc ns mu ro sg pc L st) (hd : dk cc pc = some (.imul)) (h : vcI K Rt o d n mu ro pc L st sg (.imul)) : AW G mL n nc ns mu ro sg pc L st := by
  obtain ⟨⟨p, l, e, R, s, m⟩, ⟨args, below, meth, c⟩, ⟨D, dA, B⟩, Q⟩ := G
  obtain ⟨hx, hb, hml, hown, hts, hlk, hk, hz, h0, hf, hlo⟩ := hC
  intro H locs ls hP hS hl
  have hdd := dk_1 hd rfl
  simp only [vcI] at h
  split at h
  · exact lv_imul hx hb hdd (hK _ _ _ _ hL h H locs ls hP hS hl)
  · exact h.elim

theorem sv_iand (hC : Cx G mL d n0 o cc) (hL : L.length ≤ mL) (hK : ∀ pc L st sg, L.length ≤ mL → K pc L st sg → AW G mL n nc ns mu ro sg pc L st) (hd : dk cc pc = some (.iand)) (h : vcI K Rt o d n mu ro pc L st sg (.iand)) : AW G mL n nc ns mu ro sg pc L st := by
  obtain ⟨⟨p, l, e, R, s, m⟩, ⟨args, below, meth, c⟩, ⟨D, dA, B⟩, Q⟩ := G
  obtain ⟨hx, hb, hml, hown, hts, hlk, hk, hz, h0, hf, hlo⟩ := hC
  intro H locs ls hP hS hl
  have hdd := dk_1 hd rfl
  simp only [vcI] at h
  split at h
  · exact lv_iand hx hb hdd (hK _ _ _ _ hL h H locs ls hP hS hl)
  · exact h.elim

theorem sv_ior (hC : Cx G mL d n0 o cc) (hL : L.length ≤ mL) (hK : ∀ pc L st sg, L.length ≤ mL → K pc L st sg → AW G mL n nc ns mu ro sg pc L st) (hd : dk cc pc = some (.ior)) (h : vcI K Rt o d n mu ro pc L st sg (.ior)) : AW G mL n nc ns mu ro sg pc L st := by
  obtain ⟨⟨p, l, e, R, s, m⟩, ⟨args, below, meth, c⟩, ⟨D, dA, B⟩, Q⟩ := G
  obtain ⟨hx, hb, hml, hown, hts, hlk, hk, hz, h0, hf, hlo⟩ := hC
  intro H locs ls hP hS hl
  have hdd := dk_1 hd rfl
  simp only [vcI] at h
  split at h
  · exact lv_ior hx hb hdd (hK _ _ _ _ hL h H locs ls hP hS hl)
  · exact h.elim

theorem sv_ixor (hC : Cx G mL d n0 o cc) (hL : L.length ≤ mL) (hK : ∀ pc L st sg, L.length ≤ mL → K pc L st sg → AW G mL n nc ns mu ro sg pc L st) (hd : dk cc pc = some (.ixor)) (h : vcI K Rt o d n mu ro pc L st sg (.ixor)) : AW G mL n nc ns mu ro sg pc L st := by
  obtain ⟨⟨p, l, e, R, s, m⟩, ⟨args, below, meth, c⟩, ⟨D, dA, B⟩, Q⟩ := G
  obtain ⟨hx, hb, hml, hown, hts, hlk, hk, hz, h0, hf, hlo⟩ := hC
  intro H locs ls hP hS hl
  have hdd := dk_1 hd rfl
  simp only [vcI] at h
  split at h
  · exact lv_ixor hx hb hdd (hK _ _ _ _ hL h H locs ls hP hS hl)
  · exact h.elim

theorem sv_ishl (hC : Cx G mL d n0 o cc) (hL : L.length ≤ mL) (hK : ∀ pc L st sg, L.length ≤ mL → K pc L st sg → AW G mL n nc ns mu ro sg pc L st) (hd : dk cc pc = some (.ishl)) (h : vcI K Rt o d n mu ro pc L st sg (.ishl)) : AW G mL n nc ns mu ro sg pc L st := by
  obtain ⟨⟨p, l, e, R, s, m⟩, ⟨args, below, meth, c⟩, ⟨D, dA, B⟩, Q⟩ := G
  obtain ⟨hx, hb, hml, hown, hts, hlk, hk, hz, h0, hf, hlo⟩ := hC
  intro H locs ls hP hS hl
  have hdd := dk_1 hd rfl
  simp only [vcI] at h
  split at h
  · exact lv_ishl hx hb hdd (hK _ _ _ _ hL h H locs ls hP hS hl)
  · exact h.elim

theorem sv_ishr (hC : Cx G mL d n0 o cc) (hL : L.length ≤ mL) (hK : ∀ pc L st sg, L.length ≤ mL → K pc L st sg → AW G mL n nc ns mu ro sg pc L st) (hd : dk cc pc = some (.ishr)) (h : vcI K Rt o d n mu ro pc L st sg (.ishr)) : AW G mL n nc ns mu ro sg pc L st := by
  obtain ⟨⟨p, l, e, R, s, m⟩, ⟨args, below, meth, c⟩, ⟨D, dA, B⟩, Q⟩ := G
  obtain ⟨hx, hb, hml, hown, hts, hlk, hk, hz, h0, hf, hlo⟩ := hC
  intro H locs ls hP hS hl
  have hdd := dk_1 hd rfl
  simp only [vcI] at h
  split at h
  · exact lv_ishr hx hb hdd (hK _ _ _ _ hL h H locs ls hP hS hl)
  · exact h.elim

theorem sv_ladd (hC : Cx G mL d n0 o cc) (hL : L.length ≤ mL) (hK : ∀ pc L st sg, L.length ≤ mL → K pc L st sg → AW G mL n nc ns mu ro sg pc L st) (hd : dk cc pc = some (.ladd)) (h : vcI K Rt o d n mu ro pc L st sg (.ladd)) : AW G mL n nc ns mu ro sg pc L st := by
  obtain ⟨⟨p, l, e, R, s, m⟩, ⟨args, below, meth, c⟩, ⟨D, dA, B⟩, Q⟩ := G
  obtain ⟨hx, hb, hml, hown, hts, hlk, hk, hz, h0, hf, hlo⟩ := hC
  intro H locs ls hP hS hl
  have hdd := dk_1 hd rfl
  simp only [vcI] at h
  split at h
  · exact lv_ladd hx hb hdd (hK _ _ _ _ hL h H locs ls hP hS hl)
  · exact h.elim

theorem sv_lsub (hC : Cx G mL d n0 o cc) (hL : L.length ≤ mL) (hK : ∀ pc L st sg, L.length ≤ mL → K pc L st sg → AW G mL n nc ns mu ro sg pc L st) (hd : dk cc pc = some (.lsub)) (h : vcI K Rt o d n mu ro pc L st sg (.lsub)) : AW G mL n nc ns mu ro sg pc L st := by
  obtain ⟨⟨p, l, e, R, s, m⟩, ⟨args, below, meth, c⟩, ⟨D, dA, B⟩, Q⟩ := G
  obtain ⟨hx, hb, hml, hown, hts, hlk, hk, hz, h0, hf, hlo⟩ := hC
  intro H locs ls hP hS hl
  have hdd := dk_1 hd rfl
  simp only [vcI] at h
  split at h
  · exact lv_lsub hx hb hdd (hK _ _ _ _ hL h H locs ls hP hS hl)
  · exact h.elim

theorem sv_land (hC : Cx G mL d n0 o cc) (hL : L.length ≤ mL) (hK : ∀ pc L st sg, L.length ≤ mL → K pc L st sg → AW G mL n nc ns mu ro sg pc L st) (hd : dk cc pc = some (.land)) (h : vcI K Rt o d n mu ro pc L st sg (.land)) : AW G mL n nc ns mu ro sg pc L st := by
  obtain ⟨⟨p, l, e, R, s, m⟩, ⟨args, below, meth, c⟩, ⟨D, dA, B⟩, Q⟩ := G
  obtain ⟨hx, hb, hml, hown, hts, hlk, hk, hz, h0, hf, hlo⟩ := hC
  intro H locs ls hP hS hl
  have hdd := dk_1 hd rfl
  simp only [vcI] at h
  split at h
  · exact lv_land hx hb hdd (hK _ _ _ _ hL h H locs ls hP hS hl)
  · exact h.elim

theorem sv_lor (hC : Cx G mL d n0 o cc) (hL : L.length ≤ mL) (hK : ∀ pc L st sg, L.length ≤ mL → K pc L st sg → AW G mL n nc ns mu ro sg pc L st) (hd : dk cc pc = some (.lor)) (h : vcI K Rt o d n mu ro pc L st sg (.lor)) : AW G mL n nc ns mu ro sg pc L st := by
  obtain ⟨⟨p, l, e, R, s, m⟩, ⟨args, below, meth, c⟩, ⟨D, dA, B⟩, Q⟩ := G
  obtain ⟨hx, hb, hml, hown, hts, hlk, hk, hz, h0, hf, hlo⟩ := hC
  intro H locs ls hP hS hl
  have hdd := dk_1 hd rfl
  simp only [vcI] at h
  split at h
  · exact lv_lor hx hb hdd (hK _ _ _ _ hL h H locs ls hP hS hl)
  · exact h.elim

theorem sv_iushr (hC : Cx G mL d n0 o cc) (hL : L.length ≤ mL) (hK : ∀ pc L st sg, L.length ≤ mL → K pc L st sg → AW G mL n nc ns mu ro sg pc L st) (hd : dk cc pc = some (.iushr)) (h : vcI K Rt o d n mu ro pc L st sg (.iushr)) : AW G mL n nc ns mu ro sg pc L st := by
  obtain ⟨⟨p, l, e, R, s, m⟩, ⟨args, below, meth, c⟩, ⟨D, dA, B⟩, Q⟩ := G
  obtain ⟨hx, hb, hml, hown, hts, hlk, hk, hz, h0, hf, hlo⟩ := hC
  intro H locs ls hP hS hl
  have hdd := dk_1 hd rfl
  simp only [vcI] at h
  split at h
  · exact lv_iushr hx hb hdd rfl (hK _ _ _ _ hL h H locs ls hP hS hl)
  · exact h.elim

theorem sv_lshl (hC : Cx G mL d n0 o cc) (hL : L.length ≤ mL) (hK : ∀ pc L st sg, L.length ≤ mL → K pc L st sg → AW G mL n nc ns mu ro sg pc L st) (hd : dk cc pc = some (.lshl)) (h : vcI K Rt o d n mu ro pc L st sg (.lshl)) : AW G mL n nc ns mu ro sg pc L st := by
  obtain ⟨⟨p, l, e, R, s, m⟩, ⟨args, below, meth, c⟩, ⟨D, dA, B⟩, Q⟩ := G
  obtain ⟨hx, hb, hml, hown, hts, hlk, hk, hz, h0, hf, hlo⟩ := hC
  intro H locs ls hP hS hl
  have hdd := dk_1 hd rfl
  simp only [vcI] at h
  split at h
  · exact lv_lshl hx hb hdd rfl (hK _ _ _ _ hL h H locs ls hP hS hl)
  · exact h.elim

theorem sv_lshr (hC : Cx G mL d n0 o cc) (hL : L.length ≤ mL) (hK : ∀ pc L st sg, L.length ≤ mL → K pc L st sg → AW G mL n nc ns mu ro sg pc L st) (hd : dk cc pc = some (.lshr)) (h : vcI K Rt o d n mu ro pc L st sg (.lshr)) : AW G mL n nc ns mu ro sg pc L st := by
  obtain ⟨⟨p, l, e, R, s, m⟩, ⟨args, below, meth, c⟩, ⟨D, dA, B⟩, Q⟩ := G
  obtain ⟨hx, hb, hml, hown, hts, hlk, hk, hz, h0, hf, hlo⟩ := hC
  intro H locs ls hP hS hl
  have hdd := dk_1 hd rfl
  simp only [vcI] at h
  split at h
  · exact lv_lshr hx hb hdd rfl (hK _ _ _ _ hL h H locs ls hP hS hl)
  · exact h.elim

theorem sv_i2l (hC : Cx G mL d n0 o cc) (hL : L.length ≤ mL) (hK : ∀ pc L st sg, L.length ≤ mL → K pc L st sg → AW G mL n nc ns mu ro sg pc L st) (hd : dk cc pc = some (.i2l)) (h : vcI K Rt o d n mu ro pc L st sg (.i2l)) : AW G mL n nc ns mu ro sg pc L st := by
  obtain ⟨⟨p, l, e, R, s, m⟩, ⟨args, below, meth, c⟩, ⟨D, dA, B⟩, Q⟩ := G
  obtain ⟨hx, hb, hml, hown, hts, hlk, hk, hz, h0, hf, hlo⟩ := hC
  intro H locs ls hP hS hl
  have hdd := dk_1 hd rfl
  simp only [vcI] at h
  split at h
  · exact lv_i2l hx hb hdd rfl (hK _ _ _ _ hL h H locs ls hP hS hl)
  · exact h.elim

theorem sv_i2b (hC : Cx G mL d n0 o cc) (hL : L.length ≤ mL) (hK : ∀ pc L st sg, L.length ≤ mL → K pc L st sg → AW G mL n nc ns mu ro sg pc L st) (hd : dk cc pc = some (.i2b)) (h : vcI K Rt o d n mu ro pc L st sg (.i2b)) : AW G mL n nc ns mu ro sg pc L st := by
  obtain ⟨⟨p, l, e, R, s, m⟩, ⟨args, below, meth, c⟩, ⟨D, dA, B⟩, Q⟩ := G
  obtain ⟨hx, hb, hml, hown, hts, hlk, hk, hz, h0, hf, hlo⟩ := hC
  intro H locs ls hP hS hl
  have hdd := dk_1 hd rfl
  simp only [vcI] at h
  split at h
  · exact lv_i2b hx hb hdd rfl (hK _ _ _ _ hL h H locs ls hP hS hl)
  · exact h.elim

theorem sv_i2s (hC : Cx G mL d n0 o cc) (hL : L.length ≤ mL) (hK : ∀ pc L st sg, L.length ≤ mL → K pc L st sg → AW G mL n nc ns mu ro sg pc L st) (hd : dk cc pc = some (.i2s)) (h : vcI K Rt o d n mu ro pc L st sg (.i2s)) : AW G mL n nc ns mu ro sg pc L st := by
  obtain ⟨⟨p, l, e, R, s, m⟩, ⟨args, below, meth, c⟩, ⟨D, dA, B⟩, Q⟩ := G
  obtain ⟨hx, hb, hml, hown, hts, hlk, hk, hz, h0, hf, hlo⟩ := hC
  intro H locs ls hP hS hl
  have hdd := dk_1 hd rfl
  simp only [vcI] at h
  split at h
  · exact lv_i2s hx hb hdd rfl (hK _ _ _ _ hL h H locs ls hP hS hl)
  · exact h.elim

theorem sv_idiv (hC : Cx G mL d n0 o cc) (hL : L.length ≤ mL) (hK : ∀ pc L st sg, L.length ≤ mL → K pc L st sg → AW G mL n nc ns mu ro sg pc L st) (hd : dk cc pc = some (.idiv)) (h : vcI K Rt o d n mu ro pc L st sg (.idiv)) : AW G mL n nc ns mu ro sg pc L st := by
  obtain ⟨⟨p, l, e, R, s, m⟩, ⟨args, below, meth, c⟩, ⟨D, dA, B⟩, Q⟩ := G
  obtain ⟨hx, hb, hml, hown, hts, hlk, hk, hz, h0, hf, hlo⟩ := hC
  intro H locs ls hP hS hl
  have hdd := dk_1 hd rfl
  simp only [vcI] at h
  split at h
  · exact lv_idiv hx hb hdd h.1 (hK _ _ _ _ hL h.2 H locs ls hP hS hl)
  · exact h.elim

theorem sv_irem (hC : Cx G mL d n0 o cc) (hL : L.length ≤ mL) (hK : ∀ pc L st sg, L.length ≤ mL → K pc L st sg → AW G mL n nc ns mu ro sg pc L st) (hd : dk cc pc = some (.irem)) (h : vcI K Rt o d n mu ro pc L st sg (.irem)) : AW G mL n nc ns mu ro sg pc L st := by
  obtain ⟨⟨p, l, e, R, s, m⟩, ⟨args, below, meth, c⟩, ⟨D, dA, B⟩, Q⟩ := G
  obtain ⟨hx, hb, hml, hown, hts, hlk, hk, hz, h0, hf, hlo⟩ := hC
  intro H locs ls hP hS hl
  have hdd := dk_1 hd rfl
  simp only [vcI] at h
  split at h
  · exact lv_irem hx hb hdd h.1 (hK _ _ _ _ hL h.2 H locs ls hP hS hl)
  · exact h.elim

theorem sv_ldiv (hC : Cx G mL d n0 o cc) (hL : L.length ≤ mL) (hK : ∀ pc L st sg, L.length ≤ mL → K pc L st sg → AW G mL n nc ns mu ro sg pc L st) (hd : dk cc pc = some (.ldiv)) (h : vcI K Rt o d n mu ro pc L st sg (.ldiv)) : AW G mL n nc ns mu ro sg pc L st := by
  obtain ⟨⟨p, l, e, R, s, m⟩, ⟨args, below, meth, c⟩, ⟨D, dA, B⟩, Q⟩ := G
  obtain ⟨hx, hb, hml, hown, hts, hlk, hk, hz, h0, hf, hlo⟩ := hC
  intro H locs ls hP hS hl
  have hdd := dk_1 hd rfl
  simp only [vcI] at h
  split at h
  · exact lv_ldiv hx hb hdd h.1 (hK _ _ _ _ hL h.2 H locs ls hP hS hl)
  · exact h.elim

theorem sv_lrem (hC : Cx G mL d n0 o cc) (hL : L.length ≤ mL) (hK : ∀ pc L st sg, L.length ≤ mL → K pc L st sg → AW G mL n nc ns mu ro sg pc L st) (hd : dk cc pc = some (.lrem)) (h : vcI K Rt o d n mu ro pc L st sg (.lrem)) : AW G mL n nc ns mu ro sg pc L st := by
  obtain ⟨⟨p, l, e, R, s, m⟩, ⟨args, below, meth, c⟩, ⟨D, dA, B⟩, Q⟩ := G
  obtain ⟨hx, hb, hml, hown, hts, hlk, hk, hz, h0, hf, hlo⟩ := hC
  intro H locs ls hP hS hl
  have hdd := dk_1 hd rfl
  simp only [vcI] at h
  split at h
  · exact lv_lrem hx hb hdd h.1 (hK _ _ _ _ hL h.2 H locs ls hP hS hl)
  · exact h.elim

theorem sv_lcmp (hC : Cx G mL d n0 o cc) (hL : L.length ≤ mL) (hK : ∀ pc L st sg, L.length ≤ mL → K pc L st sg → AW G mL n nc ns mu ro sg pc L st) (hd : dk cc pc = some (.lcmp)) (h : vcI K Rt o d n mu ro pc L st sg (.lcmp)) : AW G mL n nc ns mu ro sg pc L st := by
  obtain ⟨⟨p, l, e, R, s, m⟩, ⟨args, below, meth, c⟩, ⟨D, dA, B⟩, Q⟩ := G
  obtain ⟨hx, hb, hml, hown, hts, hlk, hk, hz, h0, hf, hlo⟩ := hC
  intro H locs ls hP hS hl
  have hdd := dk_1 hd rfl
  simp only [vcI] at h
  split at h
  · exact W.lcmp hx hb hdd (hK _ _ _ _ hL h H locs ls hP hS hl)
  · exact h.elim

theorem sv_dup (hC : Cx G mL d n0 o cc) (hL : L.length ≤ mL) (hK : ∀ pc L st sg, L.length ≤ mL → K pc L st sg → AW G mL n nc ns mu ro sg pc L st) (hd : dk cc pc = some (.dup)) (h : vcI K Rt o d n mu ro pc L st sg (.dup)) : AW G mL n nc ns mu ro sg pc L st := by
  obtain ⟨⟨p, l, e, R, s, m⟩, ⟨args, below, meth, c⟩, ⟨D, dA, B⟩, Q⟩ := G
  obtain ⟨hx, hb, hml, hown, hts, hlk, hk, hz, h0, hf, hlo⟩ := hC
  intro H locs ls hP hS hl
  have hdd := dk_1 hd rfl
  simp only [vcI] at h
  split at h
  · exact lv_dup hx hb hdd rfl (hK _ _ _ _ hL h H locs ls hP hS hl)
  · exact lv_dup hx hb hdd rfl (hK _ _ _ _ hL h H locs ls hP hS hl)
  · exact h.elim

theorem sv_dup2 (hC : Cx G mL d n0 o cc) (hL : L.length ≤ mL) (hK : ∀ pc L st sg, L.length ≤ mL → K pc L st sg → AW G mL n nc ns mu ro sg pc L st) (hd : dk cc pc = some (.dup2)) (h : vcI K Rt o d n mu ro pc L st sg (.dup2)) : AW G mL n nc ns mu ro sg pc L st := by
  obtain ⟨⟨p, l, e, R, s, m⟩, ⟨args, below, meth, c⟩, ⟨D, dA, B⟩, Q⟩ := G
  obtain ⟨hx, hb, hml, hown, hts, hlk, hk, hz, h0, hf, hlo⟩ := hC
  intro H locs ls hP hS hl
  have hdd := dk_1 hd rfl
  simp only [vcI] at h
  split at h
  · exact lv_dup2_11 hx hb hdd rfl rfl (hK _ _ _ _ hL h H locs ls hP hS hl)
  · exact lv_dup2_11 hx hb hdd rfl rfl (hK _ _ _ _ hL h H locs ls hP hS hl)
  · exact h.elim

theorem sv_pop (hC : Cx G mL d n0 o cc) (hL : L.length ≤ mL) (hK : ∀ pc L st sg, L.length ≤ mL → K pc L st sg → AW G mL n nc ns mu ro sg pc L st) (hd : dk cc pc = some (.pop)) (h : vcI K Rt o d n mu ro pc L st sg (.pop)) : AW G mL n nc ns mu ro sg pc L st := by
  obtain ⟨⟨p, l, e, R, s, m⟩, ⟨args, below, meth, c⟩, ⟨D, dA, B⟩, Q⟩ := G
  obtain ⟨hx, hb, hml, hown, hts, hlk, hk, hz, h0, hf, hlo⟩ := hC
  intro H locs ls hP hS hl
  have hdd := dk_1 hd rfl
  simp only [vcI] at h
  split at h
  · exact lv_pop hx hb hdd rfl (hK _ _ _ _ hL h H locs ls hP hS hl)
  · exact h.elim

theorem sv_goto (hC : Cx G mL d n0 o cc) (hL : L.length ≤ mL) (hK : ∀ pc L st sg, L.length ≤ mL → K pc L st sg → AW G mL n nc ns mu ro sg pc L st) {off : Int} (hd : dk cc pc = some (.goto off)) (h : vcI K Rt o d n mu ro pc L st sg (.goto off)) : AW G mL n nc ns mu ro sg pc L st := by
  obtain ⟨⟨p, l, e, R, s, m⟩, ⟨args, below, meth, c⟩, ⟨D, dA, B⟩, Q⟩ := G
  obtain ⟨hx, hb, hml, hown, hts, hlk, hk, hz, h0, hf, hlo⟩ := hC
  intro H locs ls hP hS hl
  have hdd := dk_1 hd rfl
  simp only [vcI] at h
  exact lv_goto hx hb hdd (jmp_ok h.1) (hK _ _ _ _ hL h.2 H locs ls hP hS hl)

theorem sv_if_eq (hC : Cx G mL d n0 o cc) (hL : L.length ≤ mL) (hK : ∀ pc L st sg, L.length ≤ mL → K pc L st sg → AW G mL n nc ns mu ro sg pc L st) {off : Int} (hd : dk cc pc = some (.ifCond .eq off)) (h : vcI K Rt o d n mu ro pc L st sg (.ifCond .eq off)) : AW G mL n nc ns mu ro sg pc L st := by
  obtain ⟨⟨p, l, e, R, s, m⟩, ⟨args, below, meth, c⟩, ⟨D, dA, B⟩, Q⟩ := G
  obtain ⟨hx, hb, hml, hown, hts, hlk, hk, hz, h0, hf, hlo⟩ := hC
  intro H locs ls hP hS hl
  have hdd := dk_1 hd rfl
  simp only [vcI] at h
  split at h
  · exact lv_if_eq hx hb hdd (jmp_ok h.1) (fun q => hK _ _ _ _ hL (h.2.1 q) H locs ls hP hS hl) (fun q => hK _ _ _ _ hL (h.2.2 q) H locs ls hP hS hl)
  · exact h.elim

theorem sv_icmp_eq (hC : Cx G mL d n0 o cc) (hL : L.length ≤ mL) (hK : ∀ pc L st sg, L.length ≤ mL → K pc L st sg → AW G mL n nc ns mu ro sg pc L st) {off : Int} (hd : dk cc pc = some (.if_icmp .eq off)) (h : vcI K Rt o d n mu ro pc L st sg (.if_icmp .eq off)) : AW G mL n nc ns mu ro sg pc L st := by
  obtain ⟨⟨p, l, e, R, s, m⟩, ⟨args, below, meth, c⟩, ⟨D, dA, B⟩, Q⟩ := G
  obtain ⟨hx, hb, hml, hown, hts, hlk, hk, hz, h0, hf, hlo⟩ := hC
  intro H locs ls hP hS hl
  have hdd := dk_1 hd rfl
  simp only [vcI] at h
  split at h
  · exact lv_icmp_eq hx hb hdd (jmp_ok h.1) (fun q => hK _ _ _ _ hL (h.2.1 q) H locs ls hP hS hl) (fun q => hK _ _ _ _ hL (h.2.2 q) H locs ls hP hS hl)
  · exact h.elim

theorem sv_if_ne (hC : Cx G mL d n0 o cc) (hL : L.length ≤ mL) (hK : ∀ pc L st sg, L.length ≤ mL → K pc L st sg → AW G mL n nc ns mu ro sg pc L st) {off : Int} (hd : dk cc pc = some (.ifCond .ne off)) (h : vcI K Rt o d n mu ro pc L st sg (.ifCond .ne off)) : AW G mL n nc ns mu ro sg pc L st := by
  obtain ⟨⟨p, l, e, R, s, m⟩, ⟨args, below, meth, c⟩, ⟨D, dA, B⟩, Q⟩ := G
  obtain ⟨hx, hb, hml, hown, hts, hlk, hk, hz, h0, hf, hlo⟩ := hC
  intro H locs ls hP hS hl
  have hdd := dk_1 hd rfl
  simp only [vcI] at h
  split at h
  · exact lv_if_ne hx hb hdd (jmp_ok h.1) (fun q => hK _ _ _ _ hL (h.2.1 q) H locs ls hP hS hl) (fun q => hK _ _ _ _ hL (h.2.2 q) H locs ls hP hS hl)
  · exact h.elim

theorem sv_icmp_ne (hC : Cx G mL d n0 o cc) (hL : L.length ≤ mL) (hK : ∀ pc L st sg, L.length ≤ mL → K pc L st sg → AW G mL n nc ns mu ro sg pc L st) {off : Int} (hd : dk cc pc = some (.if_icmp .ne off)) (h : vcI K Rt o d n mu ro pc L st sg (.if_icmp .ne off)) : AW G mL n nc ns mu ro sg pc L st := by
  obtain ⟨⟨p, l, e, R, s, m⟩, ⟨args, below, meth, c⟩, ⟨D, dA, B⟩, Q⟩ := G
  obtain ⟨hx, hb, hml, hown, hts, hlk, hk, hz, h0, hf, hlo⟩ := hC
  intro H locs ls hP hS hl
  have hdd := dk_1 hd rfl
  simp only [vcI] at h
  split at h
  · exact lv_icmp_ne hx hb hdd (jmp_ok h.1) (fun q => hK _ _ _ _ hL (h.2.1 q) H locs ls hP hS hl) (fun q => hK _ _ _ _ hL (h.2.2 q) H locs ls hP hS hl)
  · exact h.elim

theorem sv_if_lt (hC : Cx G mL d n0 o cc) (hL : L.length ≤ mL) (hK : ∀ pc L st sg, L.length ≤ mL → K pc L st sg → AW G mL n nc ns mu ro sg pc L st) {off : Int} (hd : dk cc pc = some (.ifCond .lt off)) (h : vcI K Rt o d n mu ro pc L st sg (.ifCond .lt off)) : AW G mL n nc ns mu ro sg pc L st := by
  obtain ⟨⟨p, l, e, R, s, m⟩, ⟨args, below, meth, c⟩, ⟨D, dA, B⟩, Q⟩ := G
  obtain ⟨hx, hb, hml, hown, hts, hlk, hk, hz, h0, hf, hlo⟩ := hC
  intro H locs ls hP hS hl
  have hdd := dk_1 hd rfl
  simp only [vcI] at h
  split at h
  · exact lv_if_lt hx hb hdd (jmp_ok h.1) (fun q => hK _ _ _ _ hL (h.2.1 q) H locs ls hP hS hl) (fun q => hK _ _ _ _ hL (h.2.2 q) H locs ls hP hS hl)
  · exact h.elim

theorem sv_icmp_lt (hC : Cx G mL d n0 o cc) (hL : L.length ≤ mL) (hK : ∀ pc L st sg, L.length ≤ mL → K pc L st sg → AW G mL n nc ns mu ro sg pc L st) {off : Int} (hd : dk cc pc = some (.if_icmp .lt off)) (h : vcI K Rt o d n mu ro pc L st sg (.if_icmp .lt off)) : AW G mL n nc ns mu ro sg pc L st := by
  obtain ⟨⟨p, l, e, R, s, m⟩, ⟨args, below, meth, c⟩, ⟨D, dA, B⟩, Q⟩ := G
  obtain ⟨hx, hb, hml, hown, hts, hlk, hk, hz, h0, hf, hlo⟩ := hC
  intro H locs ls hP hS hl
  have hdd := dk_1 hd rfl
  simp only [vcI] at h
  split at h
  · exact lv_icmp_lt hx hb hdd (jmp_ok h.1) (fun q => hK _ _ _ _ hL (h.2.1 q) H locs ls hP hS hl) (fun q => hK _ _ _ _ hL (h.2.2 q) H locs ls hP hS hl)
  · exact h.elim

theorem sv_if_ge (hC : Cx G mL d n0 o cc) (hL : L.length ≤ mL) (hK : ∀ pc L st sg, L.length ≤ mL → K pc L st sg → AW G mL n nc ns mu ro sg pc L st) {off : Int} (hd : dk cc pc = some (.ifCond .ge off)) (h : vcI K Rt o d n mu ro pc L st sg (.ifCond .ge off)) : AW G mL n nc ns mu ro sg pc L st := by
  obtain ⟨⟨p, l, e, R, s, m⟩, ⟨args, below, meth, c⟩, ⟨D, dA, B⟩, Q⟩ := G
  obtain ⟨hx, hb, hml, hown, hts, hlk, hk, hz, h0, hf, hlo⟩ := hC
  intro H locs ls hP hS hl
  have hdd := dk_1 hd rfl
  simp only [vcI] at h
  split at h
  · exact lv_if_ge hx hb hdd (jmp_ok h.1) (fun q => hK _ _ _ _ hL (h.2.1 q) H locs ls hP hS hl) (fun q => hK _ _ _ _ hL (h.2.2 q) H locs ls hP hS hl)
  · exact h.elim

theorem sv_icmp_ge (hC : Cx G mL d n0 o cc) (hL : L.length ≤ mL) (hK : ∀ pc L st sg, L.length ≤ mL → K pc L st sg → AW G mL n nc ns mu ro sg pc L st) {off : Int} (hd : dk cc pc = some (.if_icmp .ge off)) (h : vcI K Rt o d n mu ro pc L st sg (.if_icmp .ge off)) : AW G mL n nc ns mu ro sg pc L st := by
  obtain ⟨⟨p, l, e, R, s, m⟩, ⟨args, below, meth, c⟩, ⟨D, dA, B⟩, Q⟩ := G
  obtain ⟨hx, hb, hml, hown, hts, hlk, hk, hz, h0, hf, hlo⟩ := hC
  intro H locs ls hP hS hl
  have hdd := dk_1 hd rfl
  simp only [vcI] at h
  split at h
  · exact lv_icmp_ge hx hb hdd (jmp_ok h.1) (fun q => hK _ _ _ _ hL (h.2.1 q) H locs ls hP hS hl) (fun q => hK _ _ _ _ hL (h.2.2 q) H locs ls hP hS hl)
  · exact h.elim

theorem sv_if_gt (hC : Cx G mL d n0 o cc) (hL : L.length ≤ mL) (hK : ∀ pc L st sg, L.length ≤ mL → K pc L st sg → AW G mL n nc ns mu ro sg pc L st) {off : Int} (hd : dk cc pc = some (.ifCond .gt off)) (h : vcI K Rt o d n mu ro pc L st sg (.ifCond .gt off)) : AW G mL n nc ns mu ro sg pc L st := by
  obtain ⟨⟨p, l, e, R, s, m⟩, ⟨args, below, meth, c⟩, ⟨D, dA, B⟩, Q⟩ := G
  obtain ⟨hx, hb, hml, hown, hts, hlk, hk, hz, h0, hf, hlo⟩ := hC
  intro H locs ls hP hS hl
  have hdd := dk_1 hd rfl
  simp only [vcI] at h
  split at h
  · exact lv_if_gt hx hb hdd (jmp_ok h.1) (fun q => hK _ _ _ _ hL (h.2.1 q) H locs ls hP hS hl) (fun q => hK _ _ _ _ hL (h.2.2 q) H locs ls hP hS hl)
  · exact h.elim

theorem sv_icmp_gt (hC : Cx G mL d n0 o cc) (hL : L.length ≤ mL) (hK : ∀ pc L st sg, L.length ≤ mL → K pc L st sg → AW G mL n nc ns mu ro sg pc L st) {off : Int} (hd : dk cc pc = some (.if_icmp .gt off)) (h : vcI K Rt o d n mu ro pc L st sg (.if_icmp .gt off)) : AW G mL n nc ns mu ro sg pc L st := by
  obtain ⟨⟨p, l, e, R, s, m⟩, ⟨args, below, meth, c⟩, ⟨D, dA, B⟩, Q⟩ := G
  obtain ⟨hx, hb, hml, hown, hts, hlk, hk, hz, h0, hf, hlo⟩ := hC
  intro H locs ls hP hS hl
  have hdd := dk_1 hd rfl
  simp only [vcI] at h
  split at h
  · exact lv_icmp_gt hx hb hdd (jmp_ok h.1) (fun q => hK _ _ _ _ hL (h.2.1 q) H locs ls hP hS hl) (fun q => hK _ _ _ _ hL (h.2.2 q) H locs ls hP hS hl)
  · exact h.elim

theorem sv_if_le (hC : Cx G mL d n0 o cc) (hL : L.length ≤ mL) (hK : ∀ pc L st sg, L.length ≤ mL → K pc L st sg → AW G mL n nc ns mu ro sg pc L st) {off : Int} (hd : dk cc pc = some (.ifCond .le off)) (h : vcI K Rt o d n mu ro pc L st sg (.ifCond .le off)) : AW G mL n nc ns mu ro sg pc L st := by
  obtain ⟨⟨p, l, e, R, s, m⟩, ⟨args, below, meth, c⟩, ⟨D, dA, B⟩, Q⟩ := G
  obtain ⟨hx, hb, hml, hown, hts, hlk, hk, hz, h0, hf, hlo⟩ := hC
  intro H locs ls hP hS hl
  have hdd := dk_1 hd rfl
  simp only [vcI] at h
  split at h
  · exact lv_if_le hx hb hdd (jmp_ok h.1) (fun q => hK _ _ _ _ hL (h.2.1 q) H locs ls hP hS hl) (fun q => hK _ _ _ _ hL (h.2.2 q) H locs ls hP hS hl)
  · exact h.elim

theorem sv_icmp_le (hC : Cx G mL d n0 o cc) (hL : L.length ≤ mL) (hK : ∀ pc L st sg, L.length ≤ mL → K pc L st sg → AW G mL n nc ns mu ro sg pc L st) {off : Int} (hd : dk cc pc = some (.if_icmp .le off)) (h : vcI K Rt o d n mu ro pc L st sg (.if_icmp .le off)) : AW G mL n nc ns mu ro sg pc L st := by
  obtain ⟨⟨p, l, e, R, s, m⟩, ⟨args, below, meth, c⟩, ⟨D, dA, B⟩, Q⟩ := G
  obtain ⟨hx, hb, hml, hown, hts, hlk, hk, hz, h0, hf, hlo⟩ := hC
  intro H locs ls hP hS hl
  have hdd := dk_1 hd rfl
  simp only [vcI] at h
  split at h
  · exact lv_icmp_le hx hb hdd (jmp_ok h.1) (fun q => hK _ _ _ _ hL (h.2.1 q) H locs ls hP hS hl) (fun q => hK _ _ _ _ hL (h.2.2 q) H locs ls hP hS hl)
  · exact h.elim

theorem sv_ifnull (hC : Cx G mL d n0 o cc) (hL : L.length ≤ mL) (hK : ∀ pc L st sg, L.length ≤ mL → K pc L st sg → AW G mL n nc ns mu ro sg pc L st) {off : Int} (hd : dk cc pc = some (.ifnull off)) (h : vcI K Rt o d n mu ro pc L st sg (.ifnull off)) : AW G mL n nc ns mu ro sg pc L st := by
  obtain ⟨⟨p, l, e, R, s, m⟩, ⟨args, below, meth, c⟩, ⟨D, dA, B⟩, Q⟩ := G
  obtain ⟨hx, hb, hml, hown, hts, hlk, hk, hz, h0, hf, hlo⟩ := hC
  intro H locs ls hP hS hl
  have hdd := dk_1 hd rfl
  simp only [vcI] at h
  split at h
  · exact lv_ifnull hx hb hdd (hK _ _ _ _ hL h H locs ls hP hS hl)
  · exact lv_ifnullN hx hb hdd (jmp_ok h.1) (hK _ _ _ _ hL h.2 H locs ls hP hS hl)
  · exact h.elim

theorem sv_ifnonnull (hC : Cx G mL d n0 o cc) (hL : L.length ≤ mL) (hK : ∀ pc L st sg, L.length ≤ mL → K pc L st sg → AW G mL n nc ns mu ro sg pc L st) {off : Int} (hd : dk cc pc = some (.ifnonnull off)) (h : vcI K Rt o d n mu ro pc L st sg (.ifnonnull off)) : AW G mL n nc ns mu ro sg pc L st := by
  obtain ⟨⟨p, l, e, R, s, m⟩, ⟨args, below, meth, c⟩, ⟨D, dA, B⟩, Q⟩ := G
  obtain ⟨hx, hb, hml, hown, hts, hlk, hk, hz, h0, hf, hlo⟩ := hC
  intro H locs ls hP hS hl
  have hdd := dk_1 hd rfl
  simp only [vcI] at h
  split at h
  · exact lv_ifnonnull hx hb hdd (jmp_ok h.1) (hK _ _ _ _ hL h.2 H locs ls hP hS hl)
  · exact lv_ifnonnullN hx hb hdd (hK _ _ _ _ hL h H locs ls hP hS hl)
  · exact h.elim

theorem sv_getfield (hC : Cx G mL d n0 o cc) (hL : L.length ≤ mL) (hK : ∀ pc L st sg, L.length ≤ mL → K pc L st sg → AW G mL n nc ns mu ro sg pc L st) {i : Nat} (hd : dk cc pc = some (.getfield i)) (h : vcI K Rt o d n mu ro pc L st sg (.getfield i)) : AW G mL n nc ns mu ro sg pc L st := by
  obtain ⟨⟨p, l, e, R, s, m⟩, ⟨args, below, meth, c⟩, ⟨D, dA, B⟩, Q⟩ := G
  obtain ⟨hx, hb, hml, hown, hts, hlk, hk, hz, h0, hf, hlo⟩ := hC
  intro H locs ls hP hS hl
  have hdd := dk_1 hd rfl
  simp only [vcI] at h
  split at h
  · next a st1 =>
    obtain ⟨ci, k, kd, bf, hq, hmu, h1⟩ := gtF_spec h
    obtain ⟨g1, g2, g3, g4, g5, g6⟩ := fres_ok hq
    have ha : a < n := hP.lt (by rw [hmu]; omega)
    have he := aW_at (dA := dA) (B := B) (mu := mu) (ro := ro) (sg := sg) ha
    rw [aE_obj (N := 0) hmu] at he
    refine va_get (D := D) (v := fvl B (kdT (tyN ci k)) k (ro a) (sg a)) hx hb hts (inT ci g2) hown hk.1 hP.1 a he (vwCl_at ci g2) k g3 (hts _ g1) (fun _ h9 => h9) (aF_at g3) hdd ?_
    rw [g4]
    rcases h1 with ⟨rfl, h1⟩ | ⟨rfl, h1⟩ | ⟨rfl, h1⟩
    · exact hK _ _ _ _ hL h1 H locs ls hP hS hl
    · have h2 := hK _ _ _ _ hL h1 H locs ls hP hS hl
      simp only [List.map_cons, cv_rf] at h2
      exact h2
    · exact hK _ _ _ _ hL h1 H locs ls hP hS hl
  · exact h.elim

theorem sv_putfield (hC : Cx G mL d n0 o cc) (hL : L.length ≤ mL) (hK : ∀ pc L st sg, L.length ≤ mL → K pc L st sg → AW G mL n nc ns mu ro sg pc L st) {i : Nat} (hd : dk cc pc = some (.putfield i)) (h : vcI K Rt o d n mu ro pc L st sg (.putfield i)) : AW G mL n nc ns mu ro sg pc L st := by
  obtain ⟨⟨p, l, e, R, s, m⟩, ⟨args, below, meth, c⟩, ⟨D, dA, B⟩, Q⟩ := G
  obtain ⟨hx, hb, hml, hown, hts, hlk, hk, hz, h0, hf, hlo⟩ := hC
  intro H locs ls hP hS hl
  have hdd := dk_1 hd rfl
  simp only [vcI] at h
  split at h
  · next x a st1 =>
    obtain ⟨ci, k, hq, hmu, hbo, h1⟩ := ptF_spec h
    obtain ⟨g1, g2, g3, g4, g5, g6⟩ := fres_ok hq
    have ha : a < n := hP.lt (by rw [hmu]; omega)
    have he := aW_at (dA := dA) (B := B) (mu := mu) (ro := ro) (sg := sg) ha
    rw [aE_obj (N := 0) hmu] at he
    obtain ⟨nr, ft⟩ := narrow_I g4 hbo
    refine va_put (D := D) (v := .int x) (ty := tyN ci k) hx hb hts (inT ci g2) (tyN ci) (tyN_ok ci g2) (nmN_ok ci g2) hown hk.1 hP.1 (aD dA B n mu ro sg) hS a he (vwCl_at ci g2) k g3 (hts _ g1) (fun _ h9 => h9) g5 (tyN_ok ci g2 k g3) nr ft (by rw [aF_len]; exact g3) hdd (fun H1 locs1 hP1 _ hS1 => ?_)
    refine hK _ _ _ _ hL h1 H1 locs1 ls (hP.set ha (fun b hb => s2_ne hb) (fun _ _ => rfl) ?_) hS1 hl
    rw [aE_obj (N := 0) hmu, s2_eq, ← aF_set g2 g3 g4]
    exact hP1
  · next x a st1 =>
    obtain ⟨ci, k, hq, hmu, h1⟩ := ptL_spec h
    obtain ⟨g1, g2, g3, g4, g5, g6⟩ := fres_ok hq
    have ha : a < n := hP.lt (by rw [hmu]; omega)
    have he := aW_at (dA := dA) (B := B) (mu := mu) (ro := ro) (sg := sg) ha
    rw [aE_obj (N := 0) hmu] at he
    have hty : tyN ci k = .long := by
      cases hq9 : tyN ci k <;> rw [hq9] at g4 <;> first | rfl | (simp [kdT] at g4)
    refine va_put (D := D) (v := .long x) (ty := tyN ci k) hx hb hts (inT ci g2) (tyN ci) (tyN_ok ci g2) (nmN_ok ci g2) hown hk.1 hP.1 (aD dA B n mu ro sg) hS a he (vwCl_at ci g2) k g3 (hts _ g1) (fun _ h9 => h9) g5 (tyN_ok ci g2 k g3) (by rw [hty]; rfl) (by rw [hty]; rfl) (by rw [aF_len]; exact g3) hdd (fun H1 locs1 hP1 _ hS1 => ?_)
    refine hK _ _ _ _ hL h1 H1 locs1 ls (hP.set ha (fun b hb => s2l_ne hb) (fun _ _ => rfl) ?_) hS1 hl
    rw [aE_obj (N := 0) hmu, s2l_eq, ← aF_setl g2 g3 g4]
    exact hP1
  · exact h.elim

theorem sv_iaload (hC : Cx G mL d n0 o cc) (hL : L.length ≤ mL) (hK : ∀ pc L st sg, L.length ≤ mL → K pc L st sg → AW G mL n nc ns mu ro sg pc L st) (hd : dk cc pc = some (.iaload)) (h : vcI K Rt o d n mu ro pc L st sg (.iaload)) : AW G mL n nc ns mu ro sg pc L st := by
  obtain ⟨⟨p, l, e, R, s, m⟩, ⟨args, below, meth, c⟩, ⟨D, dA, B⟩, Q⟩ := G
  obtain ⟨hx, hb, hml, hown, hts, hlk, hk, hz, h0, hf, hlo⟩ := hC
  intro H locs ls hP hS hl
  have hdd := dk_1 hd rfl
  simp only [vcI] at h
  split at h
  · next i a st1 =>
    obtain ⟨hmu, hin, h1⟩ := h
    have ha : a < n := hP.lt (by rw [hmu]; omega)
    have he := aW_at (dA := dA) (B := B) (mu := mu) (ro := ro) (sg := sg) ha
    rw [aE_int hmu] at he
    exact va_iald hx hb hk.1 hP.1 a 0 he rfl hin hdd (hK _ _ _ _ hL h1 H locs ls hP hS hl)
  · exact h.elim

theorem sv_baload (hC : Cx G mL d n0 o cc) (hL : L.length ≤ mL) (hK : ∀ pc L st sg, L.length ≤ mL → K pc L st sg → AW G mL n nc ns mu ro sg pc L st) (hd : dk cc pc = some (.baload)) (h : vcI K Rt o d n mu ro pc L st sg (.baload)) : AW G mL n nc ns mu ro sg pc L st := by
  obtain ⟨⟨p, l, e, R, s, m⟩, ⟨args, below, meth, c⟩, ⟨D, dA, B⟩, Q⟩ := G
  obtain ⟨hx, hb, hml, hown, hts, hlk, hk, hz, h0, hf, hlo⟩ := hC
  intro H locs ls hP hS hl
  have hdd := dk_1 hd rfl
  simp only [vcI] at h
  split at h
  · next i a st1 =>
    obtain ⟨hmu, hin, h1⟩ := h
    have ha : a < n := hP.lt (by rw [hmu]; omega)
    have he := aW_at (dA := dA) (B := B) (mu := mu) (ro := ro) (sg := sg) ha
    rw [aE_boo hmu] at he
    exact va_zald hx hb hk.1 hP.1 a 1 he rfl hin hdd (hK _ _ _ _ hL h1 H locs ls hP hS hl)
  · exact h.elim

theorem sv_iastore (hC : Cx G mL d n0 o cc) (hL : L.length ≤ mL) (hK : ∀ pc L st sg, L.length ≤ mL → K pc L st sg → AW G mL n nc ns mu ro sg pc L st) (hd : dk cc pc = some (.iastore)) (h : vcI K Rt o d n mu ro pc L st sg (.iastore)) : AW G mL n nc ns mu ro sg pc L st := by
  obtain ⟨⟨p, l, e, R, s, m⟩, ⟨args, below, meth, c⟩, ⟨D, dA, B⟩, Q⟩ := G
  obtain ⟨hx, hb, hml, hown, hts, hlk, hk, hz, h0, hf, hlo⟩ := hC
  intro H locs ls hP hS hl
  have hdd := dk_1 hd rfl
  simp only [vcI] at h
  split at h
  · next x i a st1 =>
    obtain ⟨hmu, hin, h1⟩ := h
    have ha : a < n := hP.lt (by rw [hmu]; omega)
    have he := aW_at (dA := dA) (B := B) (mu := mu) (ro := ro) (sg := sg) ha
    rw [aE_int hmu] at he
    refine va_iast hx hb hk.1 hP.1 (aD dA B n mu ro sg) hS a 0 he rfl hin hdd (fun H1 locs1 hP1 _ hS1 => ?_)
    refine hK _ _ _ _ hL h1 H1 locs1 ls (hP.set ha (fun b hb => s2_ne hb) (fun _ _ => rfl) ?_) hS1 hl
    rw [aE_int hmu, s2_eq]
    exact hP1
  · exact h.elim

theorem sv_bastore (hC : Cx G mL d n0 o cc) (hL : L.length ≤ mL) (hK : ∀ pc L st sg, L.length ≤ mL → K pc L st sg → AW G mL n nc ns mu ro sg pc L st) (hd : dk cc pc = some (.bastore)) (h : vcI K Rt o d n mu ro pc L st sg (.bastore)) : AW G mL n nc ns mu ro sg pc L st := by
  obtain ⟨⟨p, l, e, R, s, m⟩, ⟨args, below, meth, c⟩, ⟨D, dA, B⟩, Q⟩ := G
  obtain ⟨hx, hb, hml, hown, hts, hlk, hk, hz, h0, hf, hlo⟩ := hC
  intro H locs ls hP hS hl
  have hdd := dk_1 hd rfl
  simp only [vcI] at h
  split at h
  · next x i a st1 =>
    obtain ⟨hmu, hin, hx01, h1⟩ := h
    have ha : a < n := hP.lt (by rw [hmu]; omega)
    have he := aW_at (dA := dA) (B := B) (mu := mu) (ro := ro) (sg := sg) ha
    rw [aE_boo hmu] at he
    have hnr : vp_nar .boolean x = x := by rcases hx01 with rfl | rfl <;> decide
    refine va_zast hx hb hk.1 hP.1 (aD dA B n mu ro sg) hS a 1 he rfl hin hdd (fun H1 locs1 hP1 _ hS1 => ?_)
    rw [hnr] at hP1
    refine hK _ _ _ _ hL h1 H1 locs1 ls (hP.set ha (fun b hb => s2_ne hb) (fun _ _ => rfl) ?_) hS1 hl
    rw [aE_boo hmu, s2_eq]
    exact hP1
  · exact h.elim

theorem sv_aaload (hC : Cx G mL d n0 o cc) (hL : L.length ≤ mL) (hK : ∀ pc L st sg, L.length ≤ mL → K pc L st sg → AW G mL n nc ns mu ro sg pc L st) (hd : dk cc pc = some (.aaload)) (h : vcI K Rt o d n mu ro pc L st sg (.aaload)) : AW G mL n nc ns mu ro sg pc L st := by
  obtain ⟨⟨p, l, e, R, s, m⟩, ⟨args, below, meth, c⟩, ⟨D, dA, B⟩, Q⟩ := G
  obtain ⟨hx, hb, hml, hown, hts, hlk, hk, hz, h0, hf, hlo⟩ := hC
  intro H locs ls hP hS hl
  have hdd := dk_1 hd rfl
  simp only [vcI] at h
  split at h
  · next i a st1 =>
    obtain ⟨hm3, hm5, hin, h1⟩ := h
    have ha : a < n := hP.lt (by omega)
    have he := aW_at (dA := dA) (B := B) (mu := mu) (ro := ro) (sg := sg) ha
    rw [aE_ref hm3 hm5] at he
    have h2 := hK _ _ _ _ hL h1 H locs ls hP hS hl
    simp only [List.map_cons, cv_rf] at h2
    rcases (show (mu a).1 = 3 ∨ (mu a).1 = 4 ∨ (mu a).1 = 5 by omega) with q | q | q
    · rw [q] at he
      exact va_aldq hx hb hk.1 hP.1 a 2 he rfl hin hdd h2
    · rw [q] at he
      exact va_aldq hx hb hk.1 hP.1 a 3 he rfl hin hdd h2
    · rw [q] at he
      exact va_aldq hx hb hk.1 hP.1 a 4 he rfl hin hdd h2
  · exact h.elim

theorem sv_alen (hC : Cx G mL d n0 o cc) (hL : L.length ≤ mL) (hK : ∀ pc L st sg, L.length ≤ mL → K pc L st sg → AW G mL n nc ns mu ro sg pc L st) (hd : dk cc pc = some (.arraylength)) (h : vcI K Rt o d n mu ro pc L st sg (.arraylength)) : AW G mL n nc ns mu ro sg pc L st := by
  obtain ⟨⟨p, l, e, R, s, m⟩, ⟨args, below, meth, c⟩, ⟨D, dA, B⟩, Q⟩ := G
  obtain ⟨hx, hb, hml, hown, hts, hlk, hk, hz, h0, hf, hlo⟩ := hC
  intro H locs ls hP hS hl
  have hdd := dk_1 hd rfl
  simp only [vcI] at h
  split at h
  · next a st1 =>
    obtain ⟨hmu, h1⟩ := h
    have ha : a < n := hP.lt (by rw [hmu]; omega)
    have he := aW_at (dA := dA) (B := B) (mu := mu) (ro := ro) (sg := sg) ha
    rw [aE_int hmu] at he
    exact va_alen hx hb hk.1 hP.1 a 0 he rfl rfl hdd (hK _ _ _ _ hL h1 H locs ls hP hS hl)
  · exact h.elim

end SND
end
section
/-! part 05: calls, switches, returns; the run of many instructions; how a contract begins -/
theorem okM_spec {k : Nat} (hk : k < 255) : (sM k = true → Cond.static (yM k) ∈ tgw) ∧ (sM k = false → Cond.instanceMethod (yM k) ∈ tgw) ∧ Cond.initialized (yM k).cls ∈ tgw ∧ (sM k = false → (yM k).name ≠ "<init>" → Cond.selects (RN (oM k)) (yM k) (yM k) ∈ tgw) ∧ (yM k).cls = RN (oM k) ∧ ((yM k).cls ≠ "java/lang/invoke/MethodHandle" ∧ (yM k).cls ≠ "java/lang/invoke/VarHandle" ∧ (parseMethodDescriptor (yM k).desc).map (fun d => d.parameters.length) = some (pM k)) ∧ lM k ≤ 40 ∧ (sM k = false → oM k < 13) := by
  have h := okM_all hk
  unfold okM at h
  rcases hm : mpos.getD k (0, 0, 0, 0, false, 0, 0) with ⟨pc, ps, pl, pi, st, np, oc⟩
  rw [hm] at h
  have e1 : sM k = st := by unfold sM; rw [hm]
  have e2 : pM k = np := by unfold pM; rw [hm]
  have e3 : oM k = oc := by unfold oM; rw [hm]
  rw [e1, e2, e3]
  simp only [Bool.and_eq_true, decide_eq_true_eq, Bool.or_eq_true, beq_iff_eq] at h
  obtain ⟨⟨⟨⟨⟨⟨h2, h3⟩, h4⟩, h5⟩, h6⟩, h7⟩, h8⟩ := h
  refine ⟨fun q => ?_, fun q => ?_, tgw_at h3 rfl, fun q q2 => ?_, h5, h6, h7, fun q => ?_⟩
  · rw [if_pos q] at h2
    exact tgw_at h2 rfl
  · rw [if_neg (by rw [q]; decide)] at h2
    exact tgw_at h2 rfl
  · rcases h4 with (h4 | h4) | h4
    · rw [q] at h4; cases h4
    · exact absurd h4 q2
    · exact tgw_at h4 rfl
  · rcases h8 with h8 | h8
    · rw [q] at h8; cases h8
    · exact h8
theorem good_k {k : Nat} (hk : k < 255) : GoodIn tgw (Cond.code (yM k) (cM k) (lM k) (rM k) :: tgw) := by
  intro w hw
  rcases List.mem_cons.mp hw with rfl | hw
  · exact ⟨mcode k hk, Or.inl rfl⟩
  · exact tgw_good w hw
theorem aPre_blind {av : List Value} {D : va_G} {dA : Nat → ClassId} {B n : Nat} {mu : aM} {ro : aR} {sg : aS} : FrameBlind (va_Pc av (aPre D dA B n mu ro sg)) := by
  intro a U g mk q
  obtain ⟨q0, q1, q2, q3, q4⟩ := q
  exact ⟨q0, q1, q2.same rfl, q3.to (U := U.calling g mk a) (locs := []) (Vm.Alike.refl U.vm) va_S.rf, q4⟩
section ACL
variable {p : Program} {l : Launch} {e : Env} {R : Room} {s : State} {m : MethodId} {args : Array Value} {below : List Frame} {meth : Method} {c : Code} {H : Heap} {locs : List Loc} {cells slots : Nat} {Q : State → Prop}
variable {pc : Nat} {ls : Array Slot} {rest st0 : List Value} {a : Array Value} {H0 : Heap} {mc ms B : Nat} {D : va_G} {dA : Nat → ClassId} {K : Option Value → Nat → aM → aR → aS → Prop}
/-- behind a call -/
theorem aw_call (hr : va_Run p l e R s m args below meth c H locs cells slots mc ms (F0 m pc ls st0) rest (aQ D dA B K a) (fun q => B ≤ q)) (hS : va_S (fun q => B ≤ q) H0 H locs)
    (kk : ∀ (r : Option Value) (n' : Nat) (mu' : aM) (ro' : aR) (sg' : aS) (H1 : Heap) (locs1 : List Loc), K r n' mu' ro' sg' → aP D dA B n' mu' ro' sg' H1 → H1.size = B + n' → va_S (fun q => B ≤ q) H0 H1 locs1 → W p l e R s m args below meth c H1 locs1 (cells + mc) (slots + ms) Q (F0 m (pc + 3) ls ((r.map (cv B)).toList ++ rest))) : W p l e R s m args below meth c H locs cells slots Q (F0 m pc ls st0) := by
  intro T hT X
  obtain ⟨v, st₀, t, T', L, h0, X', hL, e1, e2, ⟨⟨r, n', mu', ro', sg', hv, hk, hp, hsz⟩, hz, hkp⟩, st⟩ := hr T hT X
  cases hv
  rw [h0] at hz hkp
  obtain ⟨t2, a1, b1⟩ := kk r n' mu' ro' sg' T'.heap (locs ++ L) hk (by rw [e1]; exact hp) (by rw [e1]; exact hsz) ⟨Nat.le_trans hS.1 (by rw [e1]; exact hz), fun q h1 h2 => by rw [e1, hkp q (Nat.lt_of_lt_of_le h1 hS.1) h2]; exact hS.2.1 q h1 h2, fun q hq => by
      rcases List.mem_append.mp hq with h | h
      · exact hS.2.2 q h
      · exact hL q h⟩ T' rfl X'
  exact ⟨t2, st t2 a1, b1⟩
end ACL
theorem map_app {B : Nat} {r : Option Value} {rest : List Value} : (r.toList ++ rest).map (cv B) = (r.map (cv B)).toList ++ rest.map (cv B) := by
  cases r <;> simp
section SND2
variable {G : aG} {mL d n0 o n nc ns pc mc ms : Nat} {cc : ByteArray} {mu : aM} {ro : aR} {sg : aS} {L st : List Value} {K : Nat → List Value → List Value → aS → Prop} {Rt : Option Value → aS → Prop}
def Rm (G : aG) (nc ns : Nat) : Prop := match G with
  | ((_, _, _, R, _, _), _, _, _) => nc ≤ R.cells ∧ ns ≤ R.slots
/-- a static method is called, in general -/
theorem av_static {k i : Nat} {av rest : List Value} {KA : Option Value → Nat → aM → aR → aS → Prop} (hC : Cx G mL d n0 o cc) (hn : n = n0 + nc) (hRm : Rm G (nc + mc) (ns + ms)) (hd : dk cc pc = some (.invokestatic i)) (hk : cres o i = some k) (hst : sM k = true) (hr8 : cs rest ≤ 8) (hd1 : 1 ≤ d) (ht : takeA (pM k) [] st = some (av, rest))
    (hM : aCallA mc ms (d - 1) k av n mu ro sg KA) (hK : ∀ r n' mu' ro' sg', KA r n' mu' ro' sg' → AW G mL n' (nc + mc) (ns + ms) mu' ro' sg' (pc + 3) L (r.toList ++ rest)) : AW G mL n nc ns mu ro sg pc L st := by
  obtain ⟨⟨p, l, e, R, s, m⟩, ⟨args, below, meth, c⟩, ⟨D, dA, B⟩, Q⟩ := G
  obtain ⟨hx, hb, hml, hown, hts, hlk, hkk, hz, h0, hf, hlo⟩ := hC
  obtain ⟨k1, k2⟩ := cres_ok hk
  obtain ⟨o1, o2, o3, o4, o5, o6, o7, o8⟩ := okM_spec k1
  obtain ⟨t, t1, t2, t3⟩ := takeA_ok _ _ _ _ _ ht
  intro H locs ls hP hS hl
  refine W.sized (fun hsz => ?_)
  have hsz2 := hP.size hS h0 hn hsz
  have hdd := dk_1 hd rfl
  have hstack : st.map (cv B) = (av.map (cv B)).reverse ++ rest.map (cv B) := by rw [t1, t2]; simp
  have hlen : (av.map (cv B)).length = pM k := by rw [t2]; simp [t3]
  have hroom : 2 * (F0 m pc ls (st.map (cv B))).monitorRoom + ((rest.map (cv B)).map fun v => v.category).sum ≤ 8 := lv_room (by rw [cs_map]; exact hr8)
  have hRR : (d - 1) + 1 ≤ R.frames ∧ 8 + (lM k + 11) + 64 * (d - 1) ≤ R.locals := by omega
  have hpre : PreS s H (va_Pc (av.map (cv B)) (aPre D dA B n mu ro sg)) (av.map (cv B)) := ⟨aPre_blind, fun U hU hW => ⟨rfl, by rw [hU]; exact hP, hkk.warm hW, hz.to (locs := locs) hW.alike (by rw [hU]; exact hS), by rw [hU]; exact hsz2⟩⟩
  have hrun : va_Run p l e R s m args below meth c H locs nc ns mc ms (F0 m pc ls (st.map (cv B))) (rest.map (cv B)) (aQ D dA B KA (av.map (cv B)).toArray) (fun q => B ≤ q) := by
    rcases k2 with k2 | k2
    · exact va_runS ⟨hx, hb, hml, hown, hts⟩ (hM l D dA B) ⟨callB_of (pM k) hts (good_k k1) rfl rfl rfl (hts _ o3) (hts _ k2) o6 hRR, hts _ (o1 hst)⟩ hpre rfl hlen hl.1 hstack hroom hdd hRm
    · exact va_runSN ⟨hx, hb, hml, hown, hts⟩ (hM l D dA B) ⟨va_cnB (pM k) hts (good_k k1) rfl rfl rfl (hkk.2.1 _ k2) (hts _ o3) o6 hRR, hts _ (o1 hst), trivial⟩ hpre rfl hlen hl.1 hstack hroom hdd hRm
  refine aw_call hrun hS (fun r n' mu' ro' sg' H1 locs1 hKA hP1 _ hS1 => ?_)
  have := hK r n' mu' ro' sg' hKA H1 locs1 ls hP1 hS1 hl
  rw [map_app] at this
  exact this
/-- an instance's method is called, in general -/
theorem av_virtual {k i b : Nat} {av rest : List Value} {KA : Option Value → Nat → aM → aR → aS → Prop} (hC : Cx G mL d n0 o cc) (hn : n = n0 + nc) (hRm : Rm G (nc + mc) (ns + ms)) (hd : dk cc pc = some (.invokevirtual i)) (hk : cres o i = some k) (hst : sM k = false) (hin : (yM k).name ≠ "<init>") (hr8 : cs rest ≤ 8) (hd1 : 1 ≤ d) (hmb : (mu b).1 = 10 + oM k) (ht : takeA (pM k + 1) [] st = some (.ref b :: av, rest))
    (hM : aCallA mc ms (d - 1) k (.ref b :: av) n mu ro sg KA) (hK : ∀ r n' mu' ro' sg', KA r n' mu' ro' sg' → AW G mL n' (nc + mc) (ns + ms) mu' ro' sg' (pc + 3) L (r.toList ++ rest)) : AW G mL n nc ns mu ro sg pc L st := by
  obtain ⟨⟨p, l, e, R, s, m⟩, ⟨args, below, meth, c⟩, ⟨D, dA, B⟩, Q⟩ := G
  obtain ⟨hx, hb, hml, hown, hts, hlk, hkk, hz, h0, hf, hlo⟩ := hC
  obtain ⟨k1, k2⟩ := cres_ok hk
  obtain ⟨o1, o2, o3, o4, o5, o6, o7, o8⟩ := okM_spec k1
  obtain ⟨t, t1, t2, t3⟩ := takeA_ok _ _ _ _ _ ht
  intro H locs ls hP hS hl
  refine W.sized (fun hsz => ?_)
  have hsz2 := hP.size hS h0 hn hsz
  have hdd := dk_1 hd rfl
  have ht2 : t = av.reverse ++ [.ref b] := by
    have : t.reverse = .ref b :: av := by simpa using t2.symm
    have := congrArg List.reverse this
    simpa using this
  have hstack : st.map (cv B) = (av.map (cv B)).reverse ++ .ref (B + b) :: rest.map (cv B) := by rw [t1, ht2]; simp [cv]
  have hlen : (av.map (cv B)).length = pM k := by
    rw [ht2] at t3
    simpa using t3
  have hroom : 2 * (F0 m pc ls (st.map (cv B))).monitorRoom + ((rest.map (cv B)).map fun v => v.category).sum ≤ 8 := lv_room (by rw [cs_map]; exact hr8)
  have hRR : (d - 1) + 1 ≤ R.frames ∧ 8 + (lM k + 11) + 64 * (d - 1) ≤ R.locals := by omega
  have hbn : b < n := hP.lt (by rw [hmb]; omega)
  have he := aW_at (dA := dA) (B := B) (mu := mu) (ro := ro) (sg := sg) hbn
  rw [aE_obj (N := 0) hmb] at he
  have hpre : PreV s H (RN (oM k)) (B + b) (va_Pc ((Value.ref b :: av).map (cv B)) (aPre D dA B n mu ro sg)) (av.map (cv B)) := ⟨aPre_blind, va_recv hkk.1 hP.1 (vwCl_at _ (o8 hst)) he, fun U hU hW => ⟨rfl, by rw [hU]; exact hP, hkk.warm hW, hz.to (locs := locs) hW.alike (by rw [hU]; exact hS), by rw [hU]; exact hsz2⟩⟩
  have hrun : va_Run p l e R s m args below meth c H locs nc ns mc ms (F0 m pc ls (st.map (cv B))) (rest.map (cv B)) (aQ D dA B KA (Value.ref (B + b) :: av.map (cv B)).toArray) (fun q => B ≤ q) := by
    rcases k2 with k2 | k2
    · exact va_runV ⟨hx, hb, hml, hown, hts⟩ (hM l D dA B) ⟨callB_of (pM k) hts (good_k k1) rfl rfl rfl (hts _ o3) (hts _ k2) o6 hRR, hts _ (o2 hst), hts _ (o4 hst hin)⟩ hpre rfl hlen hl.1 hstack hroom hdd hRm
    · exact va_runVN ⟨hx, hb, hml, hown, hts⟩ (hM l D dA B) ⟨va_cnB (pM k) hts (good_k k1) rfl rfl rfl (hkk.2.1 _ k2) (hts _ o3) o6 hRR, hts _ (o2 hst), hts _ (o4 hst hin)⟩ hpre rfl hlen hl.1 hstack hroom hdd hRm
  refine aw_call hrun hS (fun r n' mu' ro' sg' H1 locs1 hKA hP1 _ hS1 => ?_)
  have := hK r n' mu' ro' sg' hKA H1 locs1 ls hP1 hS1 hl
  rw [map_app] at this
  exact this
theorem sv_invokestatic {i : Nat} (hC : Cx G mL d n0 o cc) (hn : n = n0 + nc) (hRm : Rm G nc ns) (hL : L.length ≤ mL) (hK : ∀ pc L st sg, L.length ≤ mL → K pc L st sg → AW G mL n nc ns mu ro sg pc L st) (hd : dk cc pc = some (.invokestatic i)) (h : vcI K Rt o d n mu ro pc L st sg (.invokestatic i)) : AW G mL n nc ns mu ro sg pc L st := by
  simp only [vcI] at h
  cases hk : cres o i with
  | none => rw [hk] at h; exact h.elim
  | some k =>
    rw [hk] at h
    simp only [inS] at h
    split at h
    · next av rest ht =>
      obtain ⟨h1, h2, h3, h4⟩ := h
      refine av_static (mc := 0) (ms := 0) hC hn hRm hd hk h1 h2 h3 ht h4 (fun r n' mu' ro' sg' hq => ?_)
      obtain ⟨rfl, rfl, rfl, hq⟩ := hq
      exact hK _ _ _ _ hL hq
    · exact h.elim
theorem sv_invokevirtual {i : Nat} (hC : Cx G mL d n0 o cc) (hn : n = n0 + nc) (hRm : Rm G nc ns) (hL : L.length ≤ mL) (hK : ∀ pc L st sg, L.length ≤ mL → K pc L st sg → AW G mL n nc ns mu ro sg pc L st) (hd : dk cc pc = some (.invokevirtual i)) (h : vcI K Rt o d n mu ro pc L st sg (.invokevirtual i)) : AW G mL n nc ns mu ro sg pc L st := by
  simp only [vcI] at h
  cases hk : cres o i with
  | none => rw [hk] at h; exact h.elim
  | some k =>
    rw [hk] at h
    simp only [inV] at h
    split at h
    · next b av rest ht =>
      obtain ⟨h1, h2, h3, h4, h5, h6⟩ := h
      refine av_virtual (mc := 0) (ms := 0) hC hn hRm hd hk h1 h2 h3 h4 h5 ht h6 (fun r n' mu' ro' sg' hq => ?_)
      obtain ⟨rfl, rfl, rfl, hq⟩ := hq
      exact hK _ _ _ _ hL hq
    · exact h.elim
theorem swL_ok {KN : Nat → Prop} {pc : Nat} {x : Int32} : ∀ (os : List Int) (lo : Int), swL KN pc x os lo → ∀ (j : Nat) (off : Int), os[j]? = some off → x.toInt = lo + j → jok pc off = true ∧ KN (jmp pc off)
  | [], lo, _, j, off, h, _ => by simp at h
  | o1 :: os, lo, h, j, off, hj, hx => by
    cases j with
    | zero =>
      simp at hj
      subst hj
      exact h.1 (by simpa using hx)
    | succ j => exact swL_ok os (lo + 1) h.2 j off (by simpa using hj) (by push_cast at hx; omega)
theorem sv_tableswitch {dflt lo hi : Int} {offs : Array Int} (hC : Cx G mL d n0 o cc) (hL : L.length ≤ mL) (hK : ∀ pc L st sg, L.length ≤ mL → K pc L st sg → AW G mL n nc ns mu ro sg pc L st) (hd : dk cc pc = some (.tableswitch dflt lo hi offs)) (h : vcI K Rt o d n mu ro pc L st sg (.tableswitch dflt lo hi offs)) : AW G mL n nc ns mu ro sg pc L st := by
  obtain ⟨len, hdd, -⟩ := dk_ok hd
  obtain ⟨⟨p, l, e, R, s, m⟩, ⟨args, below, meth, c⟩, ⟨D, dA, B⟩, Q⟩ := G
  obtain ⟨hx, hb, hml, hown, hts, hlk, hkk, hz, h0, hf, hlo⟩ := hC
  intro H locs ls hP hS hl
  simp only [vcI] at h
  split at h
  · next x st1 =>
    obtain ⟨h1, h2, h3, h4, h5⟩ := h
    by_cases hout : x.toInt < lo ∨ hi < x.toInt
    · exact lv_tableOut hx hb hdd hout (jmp_ok h1) (hK _ _ _ _ hL (h4 hout) H locs ls hP hS hl)
    · have q1 : ¬ x.toInt < lo := fun q => hout (Or.inl q)
      have q2 : ¬ hi < x.toInt := fun q => hout (Or.inr q)
      have hj : (x.toInt - lo).toNat < offs.size := by rw [h2]; omega
      have ho : offs[(x.toInt - lo).toNat]? = some offs[(x.toInt - lo).toNat] := Array.getElem?_eq_getElem hj
      obtain ⟨g1, g2⟩ := swL_ok offs.toList lo h5 (x.toInt - lo).toNat offs[(x.toInt - lo).toNat] (by rw [Array.getElem?_toList]; exact ho) (by omega)
      exact lv_tableIn hx hb hdd q1 q2 ho (jmp_ok g1) (hK _ _ _ _ hL g2 H locs ls hP hS hl)
  · exact h.elim
/-- what is returned is enough at the method's end -/
def RtOK (G : aG) (mL n nc ns : Nat) (mu : aM) (ro : aR) (cc : ByteArray) (Rt : Option Value → aS → Prop) : Prop :=
  (∀ x sg pc L, decode cc pc = .ok (.ireturn, 1) → Rt (some (.int x)) sg → AW G mL n nc ns mu ro sg pc L [.int x]) ∧ (∀ x sg pc L, decode cc pc = .ok (.lreturn, 1) → Rt (some (.long x)) sg → AW G mL n nc ns mu ro sg pc L [.long x])
  ∧ (∀ x sg pc L, decode cc pc = .ok (.areturn, 1) → Rt (some (.ref x)) sg → AW G mL n nc ns mu ro sg pc L [.ref x]) ∧ (∀ sg pc L, decode cc pc = .ok (.areturn, 1) → Rt (some .null) sg → AW G mL n nc ns mu ro sg pc L [.null]) ∧ (∀ sg pc L, decode cc pc = .ok (.return_, 1) → Rt none sg → AW G mL n nc ns mu ro sg pc L [])
theorem sv_ireturn (hR : RtOK G mL n nc ns mu ro cc Rt) (hd : dk cc pc = some .ireturn) (h : vcI K Rt o d n mu ro pc L st sg .ireturn) : AW G mL n nc ns mu ro sg pc L st := by
  simp only [vcI] at h
  split at h
  · exact hR.1 _ _ _ _ (dk_1 hd rfl) h
  · exact h.elim
theorem sv_lreturn (hR : RtOK G mL n nc ns mu ro cc Rt) (hd : dk cc pc = some .lreturn) (h : vcI K Rt o d n mu ro pc L st sg .lreturn) : AW G mL n nc ns mu ro sg pc L st := by
  simp only [vcI] at h
  split at h
  · exact hR.2.1 _ _ _ _ (dk_1 hd rfl) h
  · exact h.elim
theorem sv_areturn (hR : RtOK G mL n nc ns mu ro cc Rt) (hd : dk cc pc = some .areturn) (h : vcI K Rt o d n mu ro pc L st sg .areturn) : AW G mL n nc ns mu ro sg pc L st := by
  simp only [vcI] at h
  split at h
  · exact hR.2.2.1 _ _ _ _ (dk_1 hd rfl) h
  · exact hR.2.2.2.1 _ _ _ (dk_1 hd rfl) h
  · exact h.elim
theorem sv_return (hR : RtOK G mL n nc ns mu ro cc Rt) (hd : dk cc pc = some .return_) (h : vcI K Rt o d n mu ro pc L st sg .return_) : AW G mL n nc ns mu ro sg pc L st := by
  simp only [vcI] at h
  split at h
  · exact hR.2.2.2.2 _ _ _ (dk_1 hd rfl) h
  · exact h.elim
end SND2
end
section
/-! part 06: the run of many instructions; how a contract begins, how it ends -/
section SND3
variable {G : aG} {mL d n0 o n nc ns pc : Nat} {cc : ByteArray} {mu : aM} {ro : aR} {sg : aS} {L st : List Value} {K : Nat → List Value → List Value → aS → Prop} {Rt : Option Value → aS → Prop}
theorem vcI_sound {ins : Instr} (hC : Cx G mL d n0 o cc) (hn : n = n0 + nc) (hRm : Rm G nc ns) (hR : RtOK G mL n nc ns mu ro cc Rt) (hL : L.length ≤ mL) (hK : ∀ pc L st sg, L.length ≤ mL → K pc L st sg → AW G mL n nc ns mu ro sg pc L st) (hd : dk cc pc = some ins) (h : vcI K Rt o d n mu ro pc L st sg ins) : AW G mL n nc ns mu ro sg pc L st := by
  cases ins with
  | iconst _ => exact sv_iconst hC hL hK hd h
  | bipush _ => exact sv_bipush hC hL hK hd h
  | sipush _ => exact sv_sipush hC hL hK hd h
  | lconst _ => exact sv_lconst hC hL hK hd h
  | aconst_null  => exact sv_null hC hL hK hd h
  | ldc _ => exact sv_ldc hC hL hK hd h
  | ldc_w _ => exact sv_ldcw hC hL hK hd h
  | ldc2_w _ => exact sv_ldc2 hC hL hK hd h
  | iload_n _ => exact sv_iload_n hC hL hK hd h
  | iload _ => exact sv_iload hC hL hK hd h
  | lload_n _ => exact sv_lload_n hC hL hK hd h
  | lload _ => exact sv_lload hC hL hK hd h
  | aload_n _ => exact sv_aload_n hC hL hK hd h
  | aload _ => exact sv_aload hC hL hK hd h
  | istore_n _ => exact sv_istore_n hC hL hK hd h
  | istore _ => exact sv_istore hC hL hK hd h
  | lstore_n _ => exact sv_lstore_n hC hL hK hd h
  | lstore _ => exact sv_lstore hC hL hK hd h
  | astore_n _ => exact sv_astore_n hC hL hK hd h
  | astore _ => exact sv_astore hC hL hK hd h
  | iinc _ _ => exact sv_iinc hC hL hK hd h
  | iadd  => exact sv_iadd hC hL hK hd h
  | isub  => exact sv_isub hC hL hK hd h
  | imul  => exact sv_imul hC hL hK hd h
  | iand  => exact sv_iand hC hL hK hd h
  | ior  => exact sv_ior hC hL hK hd h
  | ixor  => exact sv_ixor hC hL hK hd h
  | ishl  => exact sv_ishl hC hL hK hd h
  | ishr  => exact sv_ishr hC hL hK hd h
  | ladd  => exact sv_ladd hC hL hK hd h
  | lsub  => exact sv_lsub hC hL hK hd h
  | land  => exact sv_land hC hL hK hd h
  | lor  => exact sv_lor hC hL hK hd h
  | iushr  => exact sv_iushr hC hL hK hd h
  | lshl  => exact sv_lshl hC hL hK hd h
  | lshr  => exact sv_lshr hC hL hK hd h
  | i2l  => exact sv_i2l hC hL hK hd h
  | i2b  => exact sv_i2b hC hL hK hd h
  | i2s  => exact sv_i2s hC hL hK hd h
  | idiv  => exact sv_idiv hC hL hK hd h
  | irem  => exact sv_irem hC hL hK hd h
  | ldiv  => exact sv_ldiv hC hL hK hd h
  | lrem  => exact sv_lrem hC hL hK hd h
  | lcmp  => exact sv_lcmp hC hL hK hd h
  | dup  => exact sv_dup hC hL hK hd h
  | dup2  => exact sv_dup2 hC hL hK hd h
  | pop  => exact sv_pop hC hL hK hd h
  | goto _ => exact sv_goto hC hL hK hd h
  | ifnull _ => exact sv_ifnull hC hL hK hd h
  | ifnonnull _ => exact sv_ifnonnull hC hL hK hd h
  | getfield _ => exact sv_getfield hC hL hK hd h
  | putfield _ => exact sv_putfield hC hL hK hd h
  | iaload  => exact sv_iaload hC hL hK hd h
  | baload  => exact sv_baload hC hL hK hd h
  | iastore  => exact sv_iastore hC hL hK hd h
  | bastore  => exact sv_bastore hC hL hK hd h
  | aaload  => exact sv_aaload hC hL hK hd h
  | arraylength  => exact sv_alen hC hL hK hd h
  | ifCond cnd off => cases cnd with
    | eq => exact sv_if_eq hC hL hK hd h
    | ne => exact sv_if_ne hC hL hK hd h
    | lt => exact sv_if_lt hC hL hK hd h
    | ge => exact sv_if_ge hC hL hK hd h
    | gt => exact sv_if_gt hC hL hK hd h
    | le => exact sv_if_le hC hL hK hd h
  | if_icmp cnd off => cases cnd with
    | eq => exact sv_icmp_eq hC hL hK hd h
    | ne => exact sv_icmp_ne hC hL hK hd h
    | lt => exact sv_icmp_lt hC hL hK hd h
    | ge => exact sv_icmp_ge hC hL hK hd h
    | gt => exact sv_icmp_gt hC hL hK hd h
    | le => exact sv_icmp_le hC hL hK hd h
  | tableswitch _ _ _ _ => exact sv_tableswitch hC hL hK hd h
  | invokestatic _ => exact sv_invokestatic hC hn hRm hL hK hd h
  | invokevirtual _ => exact sv_invokevirtual hC hn hRm hL hK hd h
  | ireturn => exact sv_ireturn hR hd h
  | lreturn => exact sv_lreturn hR hd h
  | areturn => exact sv_areturn hR hd h
  | return_ => exact sv_return hR hd h
  | _ => exact False.elim h
end SND3
def vcS (K : Nat → List Value → List Value → aS → Prop) (Rt : Option Value → aS → Prop) (cc : ByteArray) (o d n : Nat) (mu : aM) (ro : aR) (pc : Nat) (L st : List Value) (sg : aS) : Option Instr → Prop
  | some ins => vcI K Rt o d n mu ro pc L st sg ins
  | none => False
/-- at most f instructions on, or till a pc of 'cut' -/
def vcC (G : aG) (mL nc ns : Nat) (cc : ByteArray) (o d n : Nat) (mu : aM) (ro : aR) (Rt : Option Value → aS → Prop) (cut : Nat → Bool) : Nat → Nat → List Value → List Value → aS → Prop
  | 0, pc, L, st, sg => AW G mL n nc ns mu ro sg pc L st
  | f + 1, pc, L, st, sg => if cut pc = true then AW G mL n nc ns mu ro sg pc L st else vcS (vcC G mL nc ns cc o d n mu ro Rt cut f) Rt cc o d n mu ro pc L st sg (dk cc pc)
/-- the run's law of a frame -/
def RP (G : aG) (mL nc ns : Nat) (cc : ByteArray) (o d n : Nat) (mu : aM) (ro : aR) (Rt : Option Value → aS → Prop) : Prop :=
  ∀ (cut : Nat → Bool) (f pc : Nat) (L st : List Value) (sg : aS), L.length ≤ mL → vcS (vcC G mL nc ns cc o d n mu ro Rt cut f) Rt cc o d n mu ro pc L st sg (dk cc pc) → AW G mL n nc ns mu ro sg pc L st
theorem RP_of {G : aG} {mL nc ns o d n n0 : Nat} {cc : ByteArray} {mu : aM} {ro : aR} {Rt : Option Value → aS → Prop} (hC : Cx G mL d n0 o cc) (hn : n = n0 + nc) (hRm : Rm G nc ns) (hR : RtOK G mL n nc ns mu ro cc Rt) : RP G mL nc ns cc o d n mu ro Rt := by
  have step : ∀ (KK : Nat → List Value → List Value → aS → Prop) (hKK : ∀ pc L st sg, L.length ≤ mL → KK pc L st sg → AW G mL n nc ns mu ro sg pc L st) (pc : Nat) (L st : List Value) (sg : aS), L.length ≤ mL → vcS KK Rt cc o d n mu ro pc L st sg (dk cc pc) → AW G mL n nc ns mu ro sg pc L st := by
    intro KK hKK pc L st sg hL h
    cases hd : dk cc pc with
    | none => rw [hd] at h; exact h.elim
    | some ins =>
      rw [hd] at h
      exact vcI_sound hC hn hRm hR hL hKK hd h
  have all : ∀ (cut : Nat → Bool) (f pc : Nat) (L st : List Value) (sg : aS), L.length ≤ mL → vcC G mL nc ns cc o d n mu ro Rt cut f pc L st sg → AW G mL n nc ns mu ro sg pc L st := by
    intro cut f
    induction f with
    | zero => exact fun pc L st sg _ h => h
    | succ f ih =>
      intro pc L st sg hL h
      unfold vcC at h
      split at h
      · exact h
      · exact step _ ih pc L st sg hL h
  exact fun cut f pc L st sg hL h => step _ (all cut f) pc L st sg hL h
/-- the kind of what is returned -/
def rtOk : Option FieldType → Option Value → Prop
  | some .int, some (.int _) => True
  | some .boolean, some (.int x) => b01 x
  | some .long, some (.long _) => True
  | some (.object _), some (.ref _) => True
  | some (.object _), some .null => True
  | none, none => True
  | _, _ => False
theorem exL_len (B : Nat) : ∀ av : List Value, (lg_sl (av.map (cv B))).length = (exL av).length
  | [] => rfl
  | a :: r => by
    have ih := exL_len B r
    have key : lg_sl ((a :: r).map (cv B)) = (if (cv B a).category = 2 then [Slot.val (cv B a), .second] else [Slot.val (cv B a)]) ++ lg_sl (r.map (cv B)) := by simp [lg_sl]
    rw [key, List.length_append, ih]
    cases a <;> simp [cv, Value.category, exL] <;> omega
theorem fent {p : Program} {l : Launch} {e : Env} {R : Room} {s : State} {m : MethodId} {args : Array Value} {below : List Frame} {meth : Method} {c : Code} {Q : State → Prop} {D : va_G} {dA : Nat → ClassId} {B mL n t : Nat} {mu : aM} {ro : aR} {sg : aS} {av : List Value} (hl : (exL av).length ≤ mL) (hP : aP D dA B n mu ro sg s.heap)
    (h : AW ((p, l, e, R, s, m), (args, below, meth, c), (D, dA, B), Q) mL n 0 0 mu ro sg 0 (exL av ++ List.replicate t (.float 0)) []) : W p l e R s m args below meth c s.heap [] 0 0 Q (entryFrame m (av.map (cv B)).toArray mL) := by
  rw [lg_entry_eq]
  exact h s.heap [] _ hP va_S.rf (aLf_entry (lv_entry (av.map (cv B)) (by rw [exL_len]; exact hl)))
/-- a contract begins: what makes nothing -/
theorem aCall_start {k d n mL o : Nat} {cc : ByteArray} {ret : Option FieldType} {av : List Value} {mu : aM} {ro : aR} {sg : aS} {K : Option Value → aS → Prop} (t : Nat) (hk : k < 255) (hpl : plainName (yM k).cls = true) (hm : lM k = mL) (hc : cM k = cc) (ho : oM k = o) (hr : rM k = ret) (hl : (exL av).length ≤ mL)
    (h : ∀ G : aG, Cx G mL d n o cc → RP G mL 0 0 cc o d n mu ro (fun r sg' => rtOk ret r ∧ K r sg') → AW G mL n 0 0 mu ro sg 0 (exL av ++ List.replicate t (.float 0)) []) : aCall d k av n mu ro sg K := by
  intro l D dA B
  subst hm; subst hc; subst ho; subst hr
  refine Met.ofW (cc := cM k) (maxL := lM k) (ret := rM k) hpl rfl ?_
  intro p e s m args below meth c s₁ BB hml hv
  obtain ⟨rfl, hP, hK, hZ, hsz⟩ := hv
  refine fent (t := t) hl hP ?_
  have hC : Cx ((p, l, e, (headSpec (Cond.code (yM k) (cM k) (lM k) (rM k) :: tgw) { frames := d, cells := 0, slots := 0, locals := 64 * d }).room, s, m), ((av.map (cv B)).toArray, below, meth, c), (D, dA, B), MQ below (aQ D dA B (fun r n' mu' ro' sg' => n' = n ∧ mu' = mu ∧ ro' = ro ∧ K r sg')) (av.map (cv B)).toArray s 0 0 (fun q => B ≤ q)) (lM k) d n (oM k) (cM k) := by
    refine ⟨BB.exec, BB.bytes, hml, ?_, fun w hw => atoms_spec (ws := Cond.code (yM k) (cM k) (lM k) (rM k) :: tgw) BB.pre w (List.mem_cons_of_mem _ hw), BB.notSynchronized, hK, hZ, hsz, Nat.le_refl _, Nat.le_refl _⟩
    rw [← (okM_spec hk).2.2.2.2.1]
    exact findClass_of_methodNamed BB.named
  refine h _ hC (RP_of hC rfl ⟨Nat.le_refl _, Nat.le_refl _⟩ ?_)
  have hlk := BB.notSynchronized
  have hbk : ∀ (r : Option Value) (sg' : aS) (H : Heap) (locs : List Loc), K r sg' → aP D dA B n mu ro sg' H → va_S (fun q => B ≤ q) s.heap H locs → H.size ≤ s.heap.size + 0 → ∀ t : State, t.heap = H → s.WarmedH t.vm → aQ D dA B (fun r n' mu' ro' sg' => n' = n ∧ mu' = mu ∧ ro' = ro ∧ K r sg') (av.map (cv B)).toArray s (.returned (r.map (cv B))) t := by
    intro r sg' H locs hk1 hp1 hs1 hz1 t ht _
    exact ⟨⟨r, n, mu, ro, sg', rfl, ⟨rfl, rfl, rfl, hk1⟩, by rw [ht]; exact hp1, by rw [ht]; exact hp1.size hs1 hsz rfl hz1⟩, hs1.F ht⟩
  refine ⟨fun x sg' pc L hdg hq H locs ls hP1 hS1 hl1 => W.sized fun hz1 => ?_, fun x sg' pc L hdg hq H locs ls hP1 hS1 hl1 => W.sized fun hz1 => ?_, fun x sg' pc L hdg hq H locs ls hP1 hS1 hl1 => W.sized fun hz1 => ?_, fun sg' pc L hdg hq H locs ls hP1 hS1 hl1 => W.sized fun hz1 => ?_, fun sg' pc L hdg hq H locs ls hP1 hS1 hl1 => W.sized fun hz1 => ?_⟩
  · obtain ⟨q1, q2⟩ := hq
    have hq9 := hbk _ _ H locs q2 hP1 hS1 hz1
    have hr := BB.returns
    generalize rM k = rt at hr q1
    match rt, q1 with
    | some .int, _ => exact W.iret BB.exec BB.bytes hr hq9 hS1.2.2 hdg
    | some .boolean, q1 =>
      refine W.zret BB.exec BB.bytes hr ?_ hq9 hS1.2.2 hdg
      rcases q1 with rfl | rfl <;> decide
  · obtain ⟨q1, q2⟩ := hq
    have hq9 := hbk _ _ H locs q2 hP1 hS1 hz1
    have hr := BB.returns
    generalize rM k = rt at hr q1
    match rt, q1 with
    | some .long, _ => exact W.lret BB.exec BB.bytes hr hq9 hS1.2.2 hdg
  · obtain ⟨q1, q2⟩ := hq
    have hq9 := hbk _ _ H locs q2 hP1 hS1 hz1
    have hr := BB.returns
    generalize rM k = rt at hr q1
    match rt, q1 with
    | some (.object nn), _ => exact W.aret BB.exec BB.bytes hr (Or.inl ⟨nn, rfl⟩) (Or.inr ⟨_, rfl⟩) hq9 hS1.2.2 hdg
  · obtain ⟨q1, q2⟩ := hq
    have hq9 := hbk _ _ H locs q2 hP1 hS1 hz1
    have hr := BB.returns
    generalize rM k = rt at hr q1
    match rt, q1 with
    | some (.object nn), _ => exact W.aret BB.exec BB.bytes hr (Or.inl ⟨nn, rfl⟩) (Or.inl rfl) hq9 hS1.2.2 hdg
  · obtain ⟨q1, q2⟩ := hq
    have hq9 := hbk _ _ H locs q2 hP1 hS1 hz1
    have hr := BB.returns
    generalize rM k = rt at hr q1
    match rt, q1 with
    | none, _ => exact W.vret BB.exec BB.bytes hr hq9 hS1.2.2 hdg
    | some ft, q1 => cases ft <;> exact q1.elim
end
section
/-! part 06x: the instructions that vcI has not: Math, static rows, System.arraycopy -/
theorem cw_nat : Cond.native arraycopyName ∈ tgw := tgw_at (i := 609) (by decide +kernel) rfl
theorem cw_sta : Cond.static arraycopyName ∈ tgw := tgw_at (i := 608) (by decide +kernel) rfl
theorem cw_ini : Cond.initialized "java/lang/System" ∈ tgw := tgw_at (i := 75) (by decide +kernel) rfl
section MORE
variable {G : aG} {mL d n0 o n nc ns pc : Nat} {cc : ByteArray} {mu : aM} {ro : aR} {sg : aS} {L st : List Value}
theorem mw_max : Cond.code Lib.Math.max.name Lib.Math.max.code 2 (some .int) ∈ tgw := mcode 252 (by decide)
theorem mw_min : Cond.code Lib.Math.min.name Lib.Math.min.code 2 (some .int) ∈ tgw := mcode 253 (by decide)
theorem av_max {i : Nat} {x y : Int32} (hC : Cx G mL d n0 o cc) (hRm : Rm G nc ns) (hd : dk cc pc = some (.invokestatic i)) (hk : cres o i = some 252) (hr8 : cs st ≤ 8) (hd1 : 1 ≤ d) (h : AW G mL n nc ns mu ro sg (pc + 3) L (.int (if x < y then y else x) :: st)) : AW G mL n nc ns mu ro sg pc L (.int y :: .int x :: st) := by
  obtain ⟨⟨p, l, e, R, s, m⟩, ⟨args, below, meth, c⟩, ⟨D, dA, B⟩, Q⟩ := G
  obtain ⟨hx, hb, hml, hown, hts, hlk, hkk, hz, h0, hf, hlo⟩ := hC
  obtain ⟨k1, k2⟩ := cres_ok hk
  obtain ⟨o1, o2, o3, o4, o5, o6, o7, o8⟩ := okM_spec k1
  intro H locs ls hP hS hl
  rcases k2 with k2 | k2
  · exact va_mmax hx hb (hml.trans hl.1.symm) hown (hts _ k2) (hts _ (o1 (by decide +kernel))) (hts _ o3) (hts _ mw_max) (by omega) (by rw [cs_map]; omega) hRm.1 hRm.2 (dk_1 hd rfl) (h H locs ls hP hS hl)
  · exact absurd rfl ((show ∀ w ∈ nestQ, w.2.2.1 ≠ yM 252 by decide +kernel) _ k2)
theorem av_min {i : Nat} {x y : Int32} (hC : Cx G mL d n0 o cc) (hRm : Rm G nc ns) (hd : dk cc pc = some (.invokestatic i)) (hk : cres o i = some 253) (hr8 : cs st ≤ 8) (hd1 : 1 ≤ d) (h : AW G mL n nc ns mu ro sg (pc + 3) L (.int (if y < x then y else x) :: st)) : AW G mL n nc ns mu ro sg pc L (.int y :: .int x :: st) := by
  obtain ⟨⟨p, l, e, R, s, m⟩, ⟨args, below, meth, c⟩, ⟨D, dA, B⟩, Q⟩ := G
  obtain ⟨hx, hb, hml, hown, hts, hlk, hkk, hz, h0, hf, hlo⟩ := hC
  obtain ⟨k1, k2⟩ := cres_ok hk
  obtain ⟨o1, o2, o3, o4, o5, o6, o7, o8⟩ := okM_spec k1
  intro H locs ls hP hS hl
  rcases k2 with k2 | k2
  · exact va_mmin hx hb (hml.trans hl.1.symm) hown (hts _ k2) (hts _ (o1 (by decide +kernel))) (hts _ o3) (hts _ mw_min) (by omega) (by rw [cs_map]; omega) hRm.1 hRm.2 (dk_1 hd rfl) (h H locs ls hP hS hl)
  · exact absurd rfl ((show ∀ w ∈ nestQ, w.2.2.1 ≠ yM 253 by decide +kernel) _ k2)
/-- a static row is read: getstatic, iload, iaload -/
theorem av_tab {i N : Nat} {j : Fin 4} {C f : String} {g : Nat → Int32} {x : Int32} (hC : Cx G mL d n0 o cc) (hZ : ∀ B U, aZ B U → aZ1 C f N g B U) (hd : dk cc pc = some (.getstatic i)) (hw : Cond.fieldLink (RN o) i C f "[I" ∈ tgw) (hd2 : dk cc (pc + 3) = some (.iload_n j)) (hx9 : lg L (j : Nat) = .int x) (hd3 : dk cc (pc + 4) = some .iaload) (hin : vp_in x N)
    (h : AW G mL n nc ns mu ro sg (pc + 5) L (.int (g x.toNatClampNeg) :: st)) : AW G mL n nc ns mu ro sg pc L st := by
  obtain ⟨⟨p, l, e, R, s, m⟩, ⟨args, below, meth, c⟩, ⟨D, dA, B⟩, Q⟩ := G
  obtain ⟨hx, hb, hml, hown, hts, hlk, hkk, hz, h0, hf, hlo⟩ := hC
  obtain ⟨t, z1, z2⟩ := hZ B s hz
  intro H locs ls hP hS hl
  refine va_gets hx hb z1 hS hown (hts _ hw) (fun _ h9 => h9) (dk_1 hd rfl) ?_
  refine lv_iload_n hx hb (dk_1 hd2 rfl) rfl (lg_has hl hx9 rfl) ?_
  exact va_ti hx hb z2 hS hin rfl (dk_1 hd3 rfl) (h H locs ls hP hS hl)
/-- System.arraycopy of ints -/
theorem av_copy {i a b : Nat} {sp dp w : Int32} (hC : Cx G mL d n0 o cc) (hd : dk cc pc = some (.invokestatic i)) (hw : Cond.methodLink (RN o) i arraycopyName ∈ tgw) (hr8 : cs st ≤ 8) (hd1 : 1 ≤ d) (ha : (mu a).1 = 1) (hb1 : (mu b).1 = 1) (h1 : ¬ sp < 0) (h2 : ¬ dp < 0) (h3 : ¬ w < 0) (h4 : sp.toNatClampNeg + w.toNatClampNeg ≤ (mu a).2) (h5 : dp.toNatClampNeg + w.toNatClampNeg ≤ (mu b).2)
    (h : AW G mL n nc ns mu ro (va_up sg b (va_cpy (sg a) (sg b) sp.toNatClampNeg dp.toNatClampNeg w.toNatClampNeg)) (pc + 3) L st) : AW G mL n nc ns mu ro sg pc L (.int w :: .int dp :: .ref b :: .int sp :: .ref a :: st) := by
  obtain ⟨⟨p, l, e, R, s, m⟩, ⟨args, below, meth, c⟩, ⟨D, dA, B⟩, Q⟩ := G
  obtain ⟨hx, hb, hml, hown, hts, hlk, hkk, hz, h0, hf, hlo⟩ := hC
  intro H locs ls hP hS hl
  have han : a < n := hP.lt (by rw [ha]; omega)
  have hbn : b < n := hP.lt (by rw [hb1]; omega)
  have hea := aW_at (dA := dA) (B := B) (mu := mu) (ro := ro) (sg := sg) han
  have heb := aW_at (dA := dA) (B := B) (mu := mu) (ro := ro) (sg := sg) hbn
  rw [aE_int ha] at hea
  rw [aE_int hb1] at heb
  refine va_copyi hx hb (hml.trans hl.1.symm) hown (hts _ hw) (hts _ cw_nat) (hts _ cw_sta) (hts _ cw_ini) hkk.1 hP.1 (aD dA B n mu ro sg) hS a b 0 0 hea heb rfl rfl rfl h1 h2 h3 h4 h5 (fun _ _ => rfl) (by omega) ?_ (dk_1 hd rfl) (fun H1 locs1 hP1 _ hS1 => ?_)
  · have e1 : nativeFrameWords "java/lang/System" "arraycopy" 5 ≤ 40 := by decide +kernel
    rw [cs_map]
    omega
  · refine h H1 locs1 ls (hP.set hbn (fun c hc => va_up_ne _ _ hc) (fun _ _ => rfl) ?_) hS1 hl
    rw [aE_int hb1, va_up_self]
    exact hP1
end MORE
end
section
/-! part 06y: what makes objects and rows; constructors; contracts that make something -/
theorem ow_ins : Cond.instanceMethod objectInit ∈ tgw := tgw_at (i := 83) (by decide +kernel) rfl
theorem ow_cod : Cond.code objectInit ⟨#[0xb1]⟩ 1 none ∈ tgw := tgw_at (i := 84) (by decide +kernel) rfl
theorem aw_int : Cond.arrayClass .int ∈ tgw := tgw_at (i := 130) (by decide +kernel) rfl
theorem aw_boo : Cond.arrayClass .boolean ∈ tgw := tgw_at (i := 1173) (by decide +kernel) rfl
theorem dfN : ∀ ci, ci < 13 → ∀ j, j < nN ci → defaultValue (tyN ci j) = (if kdT (tyN ci j) = 1 then .int 0 else if kdT (tyN ci j) = 2 then .long 0 else .null) ∧ kdT (tyN ci j) ≤ 2 := by decide +kernel
def Mn (G : aG) : Prop := match G with
  | ((_, _, _, _, _, _), (_, _, meth, _), _, _) => meth.name = "<init>"
/-- where the new cell lies -/
theorem new_at {D : va_G} {dA : Nat → ClassId} {B n q : Nat} {mu : aM} {ro : aR} {sg : aS} {H1 : Heap} {e : va_E} (hP : va_P D vwCl (aW dA B n mu ro sg ++ [(q, e)]) H1) (hD : va_D (fun q => B ≤ q) (aW dA B n mu ro sg ++ [(q, e)])) (hz : H1.size ≤ B + n + 1) : q = B + n := by
  have hlen : (aW dA B n mu ro sg).length = n := by simp [aW]
  have h1 : (aW dA B n mu ro sg ++ [(q, e)])[n]? = some (q, e) := by
    rw [List.getElem?_append_right (by omega), hlen]
    simp
  have h2 := (hP n _ h1).lt
  have h3 := hD.2 n _ h1
  simp only at h2 h3
  rcases Nat.lt_or_ge q (B + n) with hq | hq
  · have h4 : (aW dA B n mu ro sg ++ [(q, e)])[q - B]? = some (B + (q - B), aE dA B (mu (q - B)) (ro (q - B)) (sg (q - B))) := by
      rw [List.getElem?_append_left (by omega)]
      exact aW_at (by omega)
    have := hD.1 (q - B) n _ _ h4 h1 (by show B + (q - B) = q; omega)
    omega
  · omega
section ALC
variable {G : aG} {mL d n0 o n nc ns pc mc ms : Nat} {cc : ByteArray} {mu : aM} {ro : aR} {sg : aS} {L st : List Value}
theorem av_objInit {i a : Nat} (hC : Cx G mL d n0 o cc) (hd : dk cc pc = some (.invokespecial i)) (hw : Cond.methodLink (RN o) i objectInit ∈ tgw) (hr8 : cs st ≤ 8) (hd1 : 1 ≤ d) (h : AW G mL n nc ns mu ro sg (pc + 3) L st) : AW G mL n nc ns mu ro sg pc L (.ref a :: st) := by
  obtain ⟨⟨p, l, e, R, s, m⟩, ⟨args, below, meth, c⟩, ⟨D, dA, B⟩, Q⟩ := G
  obtain ⟨hx, hb, hml, hown, hts, hlk, hkk, hz, h0, hf, hlo⟩ := hC
  intro H locs ls hP hS hl
  refine W.objInit hx hb hown (hts _ hw) (hts _ ow_ins) (hts _ ow_cod) rfl (by rw [hml]; exact hl.1) rfl (dk_1 hd rfl) (by omega) ?_ (h H locs ls hP hS hl)
  have : ((st.map (cv B)).map fun v => v.category).sum = cs st := cs_map B st
  show 2 * 0 + ((st.map (cv B)).map fun v => v.category).sum + 12 ≤ R.locals
  omega
theorem av_new {i ci : Nat} (hC : Cx G mL d n0 o cc) (hn : n = n0 + nc) (hRm : Rm G (nc + 1) (ns + nN ci)) (hd : dk cc pc = some (.new i)) (hci : ci < 13) (hw1 : Cond.classLink (RN o) i (RN ci) ∈ tgw) (hw2 : Cond.instantiable (RN ci) (nN ci) ∈ tgw) (hw3 : Cond.initialized (RN ci) ∈ tgw)
    (h : AW G mL (n + 1) (nc + 1) (ns + nN ci) (va_up mu n (10 + ci, nN ci)) (va_up ro n (fun _ => none)) (va_up sg n (fun _ => 0)) (pc + 3) L (.ref n :: st)) : AW G mL n nc ns mu ro sg pc L st := by
  obtain ⟨⟨p, l, e, R, s, m⟩, ⟨args, below, meth, c⟩, ⟨D, dA, B⟩, Q⟩ := G
  obtain ⟨hx, hb, hml, hown, hts, hlk, hkk, hz, h0, hf, hlo⟩ := hC
  intro H locs ls hP hS hl
  refine va_new (D := D) (fs := aF B ci (fun _ => none) (fun _ => 0)) hx hb hts (inT ci hci) (tyN ci) (tyN_ok ci hci) hown (hts _ hw1) (hts _ hw2) (hts _ hw3) hkk.1 hP.1 (aD dA B n mu ro sg) hS (fun q hq => by show B ≤ q; omega) (vwCl_at ci hci) (fun j hj => ?_) hRm.1 hRm.2 (dk_1 hd rfl) (fun q H1 hP1 hD1 hS1 => W.sized (fun hsz => ?_))
  · rw [vp_V, List.getD_eq_getElem?_getD, aF_at hj, (dfN ci hci j hj).1]
    have h2 := (dfN ci hci j hj).2
    rcases (show kdT (tyN ci j) = 0 ∨ kdT (tyN ci j) = 1 ∨ kdT (tyN ci j) = 2 by omega) with q | q | q
    · rw [q]; rfl
    · rw [q]; rfl
    · rw [q]
      show Value.long 0 = Value.long (jl 0 0)
      rw [jl_00]
  · have hq := new_at hP1 hD1 (by omega)
    subst hq
    refine h H1 locs ls (aP.push hP.2 (fun b hb => va_up_ne _ _ hb) (fun b hb => va_up_ne _ _ hb) (fun b hb => va_up_ne _ _ hb) ?_) hS1 hl
    rw [va_up_self, va_up_self, va_up_self, aE_obj (N := 0) (ci := ci) rfl]
    exact hP1
theorem cls_same {D : va_G} {dA : Nat → ClassId} {s : State} {cA : ClassId} {ty : FieldType} (k : Nat) (hk : (aTy dA)[k]? = some (dA (k + 1), ty)) (h : va_K D vwCl (aTy dA ++ [(cA, ty)]) s) : cA = dA (k + 1) := by
  have h1 := (h.2 k (dA (k + 1), ty) (by rw [List.getElem?_append_left (List.getElem?_eq_some_iff.mp hk).1]; exact hk)).2
  have h2 := (h.2 5 (cA, ty) (by simp [aTy])).2
  cases ty with
  | object C =>
    obtain ⟨_, _, _, _, _, e1⟩ := h1
    obtain ⟨_, _, _, _, _, e2⟩ := h2
    exact Option.some.inj (e2.symm.trans e1)
  | _ => exact Option.some.inj (Eq.trans (Eq.symm h2) h1)
theorem av_newI {w : Int32} {N : Nat} (hC : Cx G mL d n0 o cc) (hn : n = n0 + nc) (hRm : Rm G (nc + 1) (ns + N)) (hd : dk cc pc = some (.newarray .int)) (hw : ¬ w < 0) (hN : w.toNatClampNeg = N) (hN2 : N ≤ 100000)
    (h : AW G mL (n + 1) (nc + 1) (ns + N) (va_up mu n (1, N)) (va_up ro n (fun _ => none)) (va_up sg n (fun _ => 0)) (pc + 2) L (.ref n :: st)) : AW G mL n nc ns mu ro sg pc L (.int w :: st) := by
  obtain ⟨⟨p, l, e, R, s, m⟩, ⟨args, below, meth, c⟩, ⟨D, dA, B⟩, Q⟩ := G
  obtain ⟨hx, hb, hml, hown, hts, hlk, hkk, hz, h0, hf, hlo⟩ := hC
  intro H locs ls hP hS hl
  refine va_newa (atype := .int) (ty := .int) (a0 := (N, .inl (fun _ => 0))) hx hb (hts _ aw_int) rfl hkk.1 hP.1 (aD dA B n mu ro sg) hS (fun q hq => by show B ≤ q; omega) (fun _ => rfl) hw hN (by show N * 4 ≤ _; omega) hRm.1 hRm.2 (dk_1 hd rfl) (fun q cA H1 hK1 hP1 hD1 hS1 => W.sized (fun hsz => ?_))
  have hq := new_at hP1 hD1 (by omega)
  subst hq
  have hcA := cls_same 0 rfl hK1
  subst hcA
  refine h H1 locs ls (aP.push hP.2 (fun b hb => va_up_ne _ _ hb) (fun b hb => va_up_ne _ _ hb) (fun b hb => va_up_ne _ _ hb) ?_) hS1 hl
  rw [va_up_self, va_up_self, va_up_self, aE_int rfl]
  exact hP1
theorem av_newZ {w : Int32} {N : Nat} (hC : Cx G mL d n0 o cc) (hn : n = n0 + nc) (hRm : Rm G (nc + 1) (ns + N)) (hd : dk cc pc = some (.newarray .boolean)) (hw : ¬ w < 0) (hN : w.toNatClampNeg = N) (hN2 : N ≤ 100000)
    (h : AW G mL (n + 1) (nc + 1) (ns + N) (va_up mu n (2, N)) (va_up ro n (fun _ => none)) (va_up sg n (fun _ => 0)) (pc + 2) L (.ref n :: st)) : AW G mL n nc ns mu ro sg pc L (.int w :: st) := by
  obtain ⟨⟨p, l, e, R, s, m⟩, ⟨args, below, meth, c⟩, ⟨D, dA, B⟩, Q⟩ := G
  obtain ⟨hx, hb, hml, hown, hts, hlk, hkk, hz, h0, hf, hlo⟩ := hC
  intro H locs ls hP hS hl
  refine va_newa (atype := .boolean) (ty := .boolean) (a0 := (N, .inl (fun _ => 0))) hx hb (hts _ aw_boo) rfl hkk.1 hP.1 (aD dA B n mu ro sg) hS (fun q hq => by show B ≤ q; omega) (fun _ => rfl) hw hN (by show N * 1 ≤ _; omega) hRm.1 hRm.2 (dk_1 hd rfl) (fun q cA H1 hK1 hP1 hD1 hS1 => W.sized (fun hsz => ?_))
  have hq := new_at hP1 hD1 (by omega)
  subst hq
  have hcA := cls_same 1 rfl hK1
  subst hcA
  refine h H1 locs ls (aP.push hP.2 (fun b hb => va_up_ne _ _ hb) (fun b hb => va_up_ne _ _ hb) (fun b hb => va_up_ne _ _ hb) ?_) hS1 hl
  rw [va_up_self, va_up_self, va_up_self, aE_boo rfl]
  exact hP1
theorem av_newQ {i N kd : Nat} {w : Int32} {C : String} (hC : Cx G mL d n0 o cc) (hn : n = n0 + nc) (hRm : Rm G (nc + 1) (ns + N)) (hd : dk cc pc = some (.anewarray i)) (hw : ¬ w < 0) (hN : w.toNatClampNeg = N) (hN2 : N ≤ 100000) (hw1 : Cond.classLink (RN o) i C ∈ tgw) (hkd : (kd = 3 ∧ C = RX5) ∨ (kd = 4 ∧ C = RX6) ∨ (kd = 5 ∧ C = RX8))
    (h : AW G mL (n + 1) (nc + 1) (ns + N) (va_up mu n (kd, N)) (va_up ro n (fun _ => none)) (va_up sg n (fun _ => 0)) (pc + 3) L (.ref n :: st)) : AW G mL n nc ns mu ro sg pc L (.int w :: st) := by
  obtain ⟨⟨p, l, e, R, s, m⟩, ⟨args, below, meth, c⟩, ⟨D, dA, B⟩, Q⟩ := G
  obtain ⟨hx, hb, hml, hown, hts, hlk, hkk, hz, h0, hf, hlo⟩ := hC
  intro H locs ls hP hS hl
  have hov : va_AO C s := by
    rcases hkd with ⟨-, rfl⟩ | ⟨-, rfl⟩ | ⟨-, rfl⟩
    · exact hkk.2.2.1
    · exact hkk.2.2.2.1
    · exact hkk.2.2.2.2
  refine va_newq hx hb hown (hts _ hw1) hov hkk.1 hP.1 (aD dA B n mu ro sg) hS (fun q hq => by show B ≤ q; omega) hw hN (by omega) hRm.1 hRm.2 (dk_1 hd rfl) (fun q cA H1 hK1 hP1 hD1 hS1 => W.sized (fun hsz => ?_))
  have hq := new_at hP1 hD1 (by omega)
  subst hq
  have hcA : cA = dA kd := by
    rcases hkd with ⟨rfl, rfl⟩ | ⟨rfl, rfl⟩ | ⟨rfl, rfl⟩
    · exact cls_same 2 rfl hK1
    · exact cls_same 3 rfl hK1
    · exact cls_same 4 rfl hK1
  subst hcA
  refine h H1 locs ls (aP.push hP.2 (fun b hb => va_up_ne _ _ hb) (fun b hb => va_up_ne _ _ hb) (fun b hb => va_up_ne _ _ hb) ?_) hS1 hl
  rw [va_up_self, va_up_self, va_up_self, aE_ref (q := (kd, N)) (by show 3 ≤ kd; omega) (by show kd ≤ 5; omega)]
  exact hP1
/-- a final int field is set, in a constructor -/
theorem av_putI {i a ci k : Nat} {x : Int32} (hC : Cx G mL d n0 o cc) (hM : Mn G) (hd : dk cc pc = some (.putfield i)) (hf9 : fres o i = some (ci, k, 1, true)) (hoc : o = ci) (hbo : isBo (tyN ci k) = false) (ha : (mu a).1 = 10 + ci)
    (h : AW G mL n nc ns mu ro (s2 sg a k x) (pc + 3) L st) : AW G mL n nc ns mu ro sg pc L (.int x :: .ref a :: st) := by
  obtain ⟨⟨p, l, e, R, s, m⟩, ⟨args, below, meth, c⟩, ⟨D, dA, B⟩, Q⟩ := G
  obtain ⟨hx, hb, hml, hown, hts, hlk, hkk, hz, h0, hf, hlo⟩ := hC
  intro H locs ls hP hS hl
  obtain ⟨g1, g2, g3, g4, g5, g6⟩ := fres_ok hf9
  have han : a < n := hP.lt (by rw [ha]; omega)
  have he := aW_at (dA := dA) (B := B) (mu := mu) (ro := ro) (sg := sg) han
  rw [aE_obj (N := 0) ha] at he
  obtain ⟨nr, ft⟩ := narrow_I (x := x) g4 (fun q => by rw [hbo] at q; cases q)
  refine va_putF (D := D) (v := .int x) (ty := tyN ci k) hx hb hts (inT ci g2) (tyN ci) (tyN_ok ci g2) (nmN_ok ci g2) hown hkk.1 hP.1 (aD dA B n mu ro sg) hS a he (vwCl_at ci g2) k g3 (hts _ g1) (fun _ h9 => h9) g5 hM (by rw [g6, hoc]) (tyN_ok ci g2 k g3) nr ft (by rw [aF_len]; exact g3) (dk_1 hd rfl) (fun H1 locs1 hP1 _ hS1 => ?_)
  refine h H1 locs1 ls (hP.set han (fun b hb => s2_ne hb) (fun _ _ => rfl) ?_) hS1 hl
  rw [aE_obj (N := 0) ha, s2_eq, ← aF_set g2 g3 g4]
  exact hP1
/-- a final field gets a reference, in a constructor -/
theorem av_putR {i a ci k b : Nat} (hC : Cx G mL d n0 o cc) (hM : Mn G) (hd : dk cc pc = some (.putfield i)) (hf9 : fres o i = some (ci, k, 0, true)) (hoc : o = ci) (ha : (mu a).1 = 10 + ci) (hty : ∀ v, narrow (tyN ci k) (.ref v) = .ref v ∧ fits (tyN ci k) (.ref v) = true)
    (h : AW G mL n nc ns mu (r2 ro a k (some b)) sg (pc + 3) L st) : AW G mL n nc ns mu ro sg pc L (.ref b :: .ref a :: st) := by
  obtain ⟨⟨p, l, e, R, s, m⟩, ⟨args, below, meth, c⟩, ⟨D, dA, B⟩, Q⟩ := G
  obtain ⟨hx, hb, hml, hown, hts, hlk, hkk, hz, h0, hf, hlo⟩ := hC
  intro H locs ls hP hS hl
  obtain ⟨g1, g2, g3, g4, g5, g6⟩ := fres_ok hf9
  have han : a < n := hP.lt (by rw [ha]; omega)
  have he := aW_at (dA := dA) (B := B) (mu := mu) (ro := ro) (sg := sg) han
  rw [aE_obj (N := 0) ha] at he
  refine va_putF (D := D) (v := .ref (B + b)) (ty := tyN ci k) hx hb hts (inT ci g2) (tyN ci) (tyN_ok ci g2) (nmN_ok ci g2) hown hkk.1 hP.1 (aD dA B n mu ro sg) hS a he (vwCl_at ci g2) k g3 (hts _ g1) (fun _ h9 => h9) g5 hM (by rw [g6, hoc]) (tyN_ok ci g2 k g3) (hty _).1 (hty _).2 (by rw [aF_len]; exact g3) (dk_1 hd rfl) (fun H1 locs1 hP1 _ hS1 => ?_)
  refine h H1 locs1 ls (hP.set han (fun _ _ => rfl) (fun b hb => r2_ne hb) ?_) hS1 hl
  rw [aE_obj (N := 0) ha, r2_eq, ← aF_setr g3 g4]
  exact hP1
/-- an object comes into a row of references -/
theorem av_aast {a b ci : Nat} {i : Int32} (hC : Cx G mL d n0 o cc) (hd : dk cc pc = some .aastore) (hk : ((mu a).1 = 3 ∧ ci = 5) ∨ ((mu a).1 = 4 ∧ ci = 6) ∨ ((mu a).1 = 5 ∧ ci = 8)) (hb9 : (mu b).1 = 10 + ci) (hin : vp_in i (mu a).2)
    (h : AW G mL n nc ns mu (r2 ro a i.toNatClampNeg (some b)) sg (pc + 1) L st) : AW G mL n nc ns mu ro sg pc L (.ref b :: .int i :: .ref a :: st) := by
  obtain ⟨⟨p, l, e, R, s, m⟩, ⟨args, below, meth, c⟩, ⟨D, dA, B⟩, Q⟩ := G
  obtain ⟨hx, hb, hml, hown, hts, hlk, hkk, hz, h0, hf, hlo⟩ := hC
  intro H locs ls hP hS hl
  have hm3 : 3 ≤ (mu a).1 ∧ (mu a).1 ≤ 5 := by omega
  have han : a < n := hP.lt (by omega)
  have hbn : b < n := hP.lt (by rw [hb9]; omega)
  have he := aW_at (dA := dA) (B := B) (mu := mu) (ro := ro) (sg := sg) han
  have he2 := aW_at (dA := dA) (B := B) (mu := mu) (ro := ro) (sg := sg) hbn
  rw [aE_ref hm3.1 hm3.2] at he
  rw [aE_obj (N := 0) hb9] at he2
  have hci : ci < 13 := by omega
  have fin : ∀ (H1 : Heap) (locs1 : List Loc), va_P D vwCl ((aW dA B n mu ro sg).set a (B + a, .inl (dA (mu a).1, (mu a).2, .inr (.inr (.inr (.inr (va_up (fun i => rb B (ro a i)) i.toNatClampNeg (some (B + b))))))))) H1 → va_S (fun q => B ≤ q) s.heap H1 locs1 → W p l e R s m args below meth c H1 locs1 nc ns Q (F0 m (pc + 1) ls (st.map (cv B))) := by
    intro H1 locs1 hP1 hS1
    refine h H1 locs1 ls (hP.set han (fun _ _ => rfl) (fun b hb => r2_ne hb) ?_) hS1 hl
    rw [aE_ref hm3.1 hm3.2, r2_eq]
    have : (fun j => rb B (va_up (ro a) i.toNatClampNeg (some b) j)) = va_up (fun i => rb B (ro a i)) i.toNatClampNeg (some (B + b)) := by
      funext j
      by_cases hj : j = i.toNatClampNeg <;> simp [va_up, hj, rb]
    rw [this]
    exact hP1
  rcases hk with ⟨q, rfl⟩ | ⟨q, rfl⟩ | ⟨q, rfl⟩
  · rw [q] at he fin
    exact va_astq hx hb hkk.1 hP.1 (aD dA B n mu ro sg) hS a 2 b 5 (r := (RN 5, TN 5, nN 5)) he rfl he2 rfl hin (dk_1 hd rfl) (fun H1 locs1 hP1 _ hS1 => fin H1 locs1 hP1 hS1)
  · rw [q] at he fin
    exact va_astq hx hb hkk.1 hP.1 (aD dA B n mu ro sg) hS a 3 b 6 (r := (RN 6, TN 6, nN 6)) he rfl he2 rfl hin (dk_1 hd rfl) (fun H1 locs1 hP1 _ hS1 => fin H1 locs1 hP1 hS1)
  · rw [q] at he fin
    exact va_astq hx hb hkk.1 hP.1 (aD dA B n mu ro sg) hS a 4 b 8 (r := (RN 8, TN 8, nN 8)) he rfl he2 rfl hin (dk_1 hd rfl) (fun H1 locs1 hP1 _ hS1 => fin H1 locs1 hP1 hS1)
/-- a constructor is called -/
theorem av_special {k i b : Nat} {av rest : List Value} {KA : Option Value → Nat → aM → aR → aS → Prop} (hC : Cx G mL d n0 o cc) (hn : n = n0 + nc) (hRm : Rm G (nc + mc) (ns + ms)) (hd : dk cc pc = some (.invokespecial i)) (hk : cres o i = some k) (hst : sM k = false) (hin : (yM k).name = "<init>") (hret : rM k = none) (hr8 : cs rest ≤ 8) (hd1 : 1 ≤ d) (ht : takeA (pM k + 1) [] st = some (.ref b :: av, rest))
    (hM : aCallA mc ms (d - 1) k (.ref b :: av) n mu ro sg KA) (hK : ∀ r n' mu' ro' sg', KA r n' mu' ro' sg' → AW G mL n' (nc + mc) (ns + ms) mu' ro' sg' (pc + 3) L (r.toList ++ rest)) : AW G mL n nc ns mu ro sg pc L st := by
  obtain ⟨⟨p, l, e, R, s, m⟩, ⟨args, below, meth, c⟩, ⟨D, dA, B⟩, Q⟩ := G
  obtain ⟨hx, hb, hml, hown, hts, hlk, hkk, hz, h0, hf, hlo⟩ := hC
  obtain ⟨k1, k2⟩ := cres_ok hk
  obtain ⟨o1, o2, o3, o4, o5, o6, o7, o8⟩ := okM_spec k1
  obtain ⟨t, t1, t2, t3⟩ := takeA_ok _ _ _ _ _ ht
  intro H locs ls hP hS hl
  refine W.sized (fun hsz => ?_)
  have hsz2 := hP.size hS h0 hn hsz
  have hdd := dk_1 hd rfl
  have ht2 : t = av.reverse ++ [.ref b] := by
    have : t.reverse = .ref b :: av := by simpa using t2.symm
    have := congrArg List.reverse this
    simpa using this
  have hstack : st.map (cv B) = (av.map (cv B)).reverse ++ .ref (B + b) :: rest.map (cv B) := by rw [t1, ht2]; simp [cv]
  have hlen : (av.map (cv B)).length = pM k := by
    rw [ht2] at t3
    simpa using t3
  have hroom : 2 * (F0 m pc ls (st.map (cv B))).monitorRoom + ((rest.map (cv B)).map fun v => v.category).sum ≤ 8 := lv_room (by rw [cs_map]; exact hr8)
  have hRR : (d - 1) + 1 ≤ R.frames ∧ 8 + (lM k + 11) + 64 * (d - 1) ≤ R.locals := by omega
  have hgk := good_k k1
  have hMM := hM l D dA B
  rw [hret] at hgk hMM
  have hpre : PreS s H (va_Pc ((Value.ref b :: av).map (cv B)) (aPre D dA B n mu ro sg)) (.ref (B + b) :: av.map (cv B)) := ⟨aPre_blind, fun U hU hW => ⟨rfl, by rw [hU]; exact hP, hkk.warm hW, hz.to (locs := locs) hW.alike (by rw [hU]; exact hS), by rw [hU]; exact hsz2⟩⟩
  have hrun : va_Run p l e R s m args below meth c H locs nc ns mc ms (F0 m pc ls (st.map (cv B))) (rest.map (cv B)) (aQ D dA B KA (Value.ref (B + b) :: av.map (cv B)).toArray) (fun q => B ≤ q) := by
    rcases k2 with k2 | k2
    · exact va_runI ⟨hx, hb, hml, hown, hts⟩ hMM ⟨callB_of (pM k) hts hgk rfl rfl rfl (hts _ o3) (hts _ k2) o6 hRR, hin, hts _ (o2 hst)⟩ hpre rfl hlen hl.1 hstack hroom hdd hRm
    · exact va_runIN ⟨hx, hb, hml, hown, hts⟩ hMM ⟨va_cnB (pM k) hts hgk rfl rfl rfl (hkk.2.1 _ k2) (hts _ o3) o6 hRR, hin, hts _ (o2 hst)⟩ hpre rfl hlen hl.1 hstack hroom hdd hRm
  refine aw_call hrun hS (fun r n' mu' ro' sg' H1 locs1 hKA hP1 _ hS1 => ?_)
  have := hK r n' mu' ro' sg' hKA H1 locs1 ls hP1 hS1 hl
  rw [map_app] at this
  exact this
end ALC
/-- a contract begins: what may make something -/
theorem aCallA_start {k d n mL o mc ms : Nat} {cc : ByteArray} {ret : Option FieldType} {nm : String} {av : List Value} {mu : aM} {ro : aR} {sg : aS} {K : Option Value → Nat → aM → aR → aS → Prop} (t : Nat) (hk : k < 255) (hpl : plainName (yM k).cls = true) (hm : lM k = mL) (hc : cM k = cc) (ho : oM k = o) (hr : rM k = ret) (hnm : (yM k).name = nm) (hl : (exL av).length ≤ mL)
    (h : ∀ G : aG, Cx G mL d n o cc → (nm = "<init>" → Mn G) → (∀ nc ns, nc ≤ mc → ns ≤ ms → Rm G nc ns) → (∀ n' nc ns mu' ro', n' = n + nc → nc ≤ mc → ns ≤ ms → RP G mL nc ns cc o d n' mu' ro' (fun r sg' => rtOk ret r ∧ K r n' mu' ro' sg')) → AW G mL n 0 0 mu ro sg 0 (exL av ++ List.replicate t (.float 0)) []) : aCallA mc ms d k av n mu ro sg K := by
  intro l D dA B
  subst hm; subst hc; subst ho; subst hr; subst hnm
  refine Met.ofW (cc := cM k) (maxL := lM k) (ret := rM k) hpl rfl ?_
  intro p e s m args below meth c s₁ BB hml hv
  obtain ⟨rfl, hP, hK, hZ, hsz⟩ := hv
  refine fent (t := t) hl hP ?_
  have hC : Cx ((p, l, e, (headSpec (Cond.code (yM k) (cM k) (lM k) (rM k) :: tgw) { frames := d, cells := mc, slots := ms, locals := 64 * d }).room, s, m), ((av.map (cv B)).toArray, below, meth, c), (D, dA, B), MQ below (aQ D dA B K) (av.map (cv B)).toArray s mc ms (fun q => B ≤ q)) (lM k) d n (oM k) (cM k) := by
    refine ⟨BB.exec, BB.bytes, hml, ?_, fun w hw => atoms_spec (ws := Cond.code (yM k) (cM k) (lM k) (rM k) :: tgw) BB.pre w (List.mem_cons_of_mem _ hw), BB.notSynchronized, hK, hZ, hsz, Nat.le_refl _, Nat.le_refl _⟩
    rw [← (okM_spec hk).2.2.2.2.1]
    exact findClass_of_methodNamed BB.named
  refine h _ hC (fun hq => (name_of_methodNamed BB.named BB.method).1.trans hq) (fun nc ns h1 h2 => ⟨h1, h2⟩) (fun n' nc ns mu' ro' hn' hnc hns => RP_of hC hn' ⟨hnc, hns⟩ ?_)
  have hlk := BB.notSynchronized
  have hbk : ∀ (r : Option Value) (sg' : aS) (H : Heap) (locs : List Loc), K r n' mu' ro' sg' → aP D dA B n' mu' ro' sg' H → va_S (fun q => B ≤ q) s.heap H locs → H.size ≤ s.heap.size + nc → ∀ t : State, t.heap = H → s.WarmedH t.vm → aQ D dA B K (av.map (cv B)).toArray s (.returned (r.map (cv B))) t := by
    intro r sg' H locs hk1 hp1 hs1 hz1 t ht _
    exact ⟨⟨r, n', mu', ro', sg', rfl, hk1, by rw [ht]; exact hp1, by rw [ht]; exact hp1.size hs1 hsz hn' hz1⟩, hs1.F ht⟩
  refine ⟨fun x sg' pc L hdg hq H locs ls hP1 hS1 hl1 => W.sized fun hz1 => W.widen hnc hns ?_, fun x sg' pc L hdg hq H locs ls hP1 hS1 hl1 => W.sized fun hz1 => W.widen hnc hns ?_, fun x sg' pc L hdg hq H locs ls hP1 hS1 hl1 => W.sized fun hz1 => W.widen hnc hns ?_, fun sg' pc L hdg hq H locs ls hP1 hS1 hl1 => W.sized fun hz1 => W.widen hnc hns ?_, fun sg' pc L hdg hq H locs ls hP1 hS1 hl1 => W.sized fun hz1 => W.widen hnc hns ?_⟩
  · obtain ⟨q1, q2⟩ := hq
    have hq9 := hbk _ _ H locs q2 hP1 hS1 hz1
    have hr := BB.returns
    generalize rM k = rt at hr q1
    match rt, q1 with
    | some .int, _ => exact W.iret BB.exec BB.bytes hr hq9 hS1.2.2 hdg
    | some .boolean, q1 =>
      refine W.zret BB.exec BB.bytes hr ?_ hq9 hS1.2.2 hdg
      rcases q1 with rfl | rfl <;> decide
  · obtain ⟨q1, q2⟩ := hq
    have hq9 := hbk _ _ H locs q2 hP1 hS1 hz1
    have hr := BB.returns
    generalize rM k = rt at hr q1
    match rt, q1 with
    | some .long, _ => exact W.lret BB.exec BB.bytes hr hq9 hS1.2.2 hdg
  · obtain ⟨q1, q2⟩ := hq
    have hq9 := hbk _ _ H locs q2 hP1 hS1 hz1
    have hr := BB.returns
    generalize rM k = rt at hr q1
    match rt, q1 with
    | some (.object nn), _ => exact W.aret BB.exec BB.bytes hr (Or.inl ⟨nn, rfl⟩) (Or.inr ⟨_, rfl⟩) hq9 hS1.2.2 hdg
  · obtain ⟨q1, q2⟩ := hq
    have hq9 := hbk _ _ H locs q2 hP1 hS1 hz1
    have hr := BB.returns
    generalize rM k = rt at hr q1
    match rt, q1 with
    | some (.object nn), _ => exact W.aret BB.exec BB.bytes hr (Or.inl ⟨nn, rfl⟩) (Or.inl rfl) hq9 hS1.2.2 hdg
  · obtain ⟨q1, q2⟩ := hq
    have hq9 := hbk _ _ H locs q2 hP1 hS1 hz1
    have hr := BB.returns
    generalize rM k = rt at hr q1
    match rt, q1 with
    | none, _ => exact W.vret BB.exec BB.bytes hr hq9 hS1.2.2 hdg
    | some ft, q1 => cases ft <;> exact q1.elim
end
section
/-! part 09: small rows that evaluate -/
theorem CST1 : ((Int8.ofInt (-100)).toInt32 = (-100) ∧ (Int8.ofInt (-10)).toInt32 = (-10) ∧ (Int8.ofInt (-9)).toInt32 = (-9) ∧ (Int8.ofInt (-4)).toInt32 = (-4) ∧ (Int8.ofInt (-3)).toInt32 = (-3) ∧ (Int8.ofInt (-2)).toInt32 = (-2) ∧ (Int8.ofInt 6).toInt32 = 6 ∧ (Int8.ofInt 7).toInt32 = 7 ∧ (Int8.ofInt 8).toInt32 = 8 ∧ (Int8.ofInt 9).toInt32 = 9 ∧ (Int8.ofInt 10).toInt32 = 10 ∧ (Int8.ofInt 13).toInt32 = 13) ∧ ((Int8.ofInt 14).toInt32 = 14 ∧ (Int8.ofInt 16).toInt32 = 16 ∧ (Int8.ofInt 19).toInt32 = 19 ∧ (Int8.ofInt 20).toInt32 = 20 ∧ (Int8.ofInt 31).toInt32 = 31 ∧ (Int8.ofInt 40).toInt32 = 40 ∧ (Int8.ofInt 44).toInt32 = 44 ∧ (Int8.ofInt 48).toInt32 = 48 ∧ (Int8.ofInt 57).toInt32 = 57 ∧ (Int8.ofInt 59).toInt32 = 59 ∧ (Int8.ofInt 60).toInt32 = 60 ∧ (Int8.ofInt 63).toInt32 = 63) ∧ ((Int8.ofInt 64).toInt32 = 64 ∧ (Int8.ofInt 77).toInt32 = 77 ∧ (Int8.ofInt 78).toInt32 = 78 ∧ (Int8.ofInt 79).toInt32 = 79 ∧ (Int8.ofInt 80).toInt32 = 80 ∧ (Int8.ofInt 83).toInt32 = 83 ∧ (Int8.ofInt 97).toInt32 = 97 ∧ (Int8.ofInt 99).toInt32 = 99 ∧ (Int8.ofInt 100).toInt32 = 100 ∧ (Int8.ofInt 127).toInt32 = 127 ∧ Int32.ofInt (-1) = (-1) ∧ Int32.ofInt 0 = 0) ∧ (Int32.ofInt 1 = 1 ∧ Int32.ofInt 2 = 2 ∧ Int32.ofInt 3 = 3 ∧ Int32.ofInt 4 = 4 ∧ Int32.ofInt 5 = 5 ∧ Int32.ofInt 8 = 8 ∧ (Int16.ofInt 140).toInt32 = 140 ∧ (Int16.ofInt 200).toInt32 = 200 ∧ (Int16.ofInt 240).toInt32 = 240 ∧ (Int16.ofInt 640).toInt32 = 640 ∧ (Int16.ofInt 999).toInt32 = 999 ∧ (Int16.ofInt 1000).toInt32 = 1000) ∧ ((Int16.ofInt 1023).toInt32 = 1023 ∧ (Int16.ofInt 9999).toInt32 = 9999 ∧ (Int16.ofInt 16383).toInt32 = 16383 ∧ (Int16.ofInt 16384).toInt32 = 16384) := ⟨by decide +kernel, by decide +kernel, by decide +kernel, by decide +kernel, by decide +kernel⟩
theorem fv0 : ((0 : Fin 4) : Nat) = 0 := rfl
theorem fv1 : ((1 : Fin 4) : Nat) = 1 := rfl
theorem fv2 : ((2 : Fin 4) : Nat) = 2 := rfl
theorem fv3 : ((3 : Fin 4) : Nat) = 3 := rfl
theorem fw0 : Int64.ofNat ((0 : Fin 2) : Nat) = 0 := rfl
theorem fw1 : Int64.ofNat ((1 : Fin 2) : Nat) = 1 := rfl
theorem lg_0 {a0 : Value} {L : List Value} : lg (a0 :: L) 0 = a0 := rfl
theorem lsq_0 {a0 v : Value} {L : List Value} {K : List Value → Prop} : lsq (a0 :: L) 0 v K = (K (v :: L)) := by simp [lsq, pv, lg]
theorem lsl_0 {a0 a1 : Value} {x : Int64} {L : List Value} {K : List Value → Prop} : lsl (a0 :: a1 :: L) 0 x K = (K (.long x :: .float 0 :: L)) := by simp [lsl, pv, lg]
theorem lg_1 {a0 a1 : Value} {L : List Value} : lg (a0 :: a1 :: L) 1 = a1 := rfl
theorem lsq_1 {a0 a1 v : Value} {L : List Value} {K : List Value → Prop} : lsq (a0 :: a1 :: L) 1 v K = (nl a0 = true ∧ K (a0 :: v :: L)) := by simp [lsq, pv, lg]
theorem lsl_1 {a0 a1 a2 : Value} {x : Int64} {L : List Value} {K : List Value → Prop} : lsl (a0 :: a1 :: a2 :: L) 1 x K = (nl a0 = true ∧ K (a0 :: .long x :: .float 0 :: L)) := by simp [lsl, pv, lg]
theorem lg_2 {a0 a1 a2 : Value} {L : List Value} : lg (a0 :: a1 :: a2 :: L) 2 = a2 := rfl
theorem lsq_2 {a0 a1 a2 v : Value} {L : List Value} {K : List Value → Prop} : lsq (a0 :: a1 :: a2 :: L) 2 v K = (nl a1 = true ∧ K (a0 :: a1 :: v :: L)) := by simp [lsq, pv, lg]
theorem lsl_2 {a0 a1 a2 a3 : Value} {x : Int64} {L : List Value} {K : List Value → Prop} : lsl (a0 :: a1 :: a2 :: a3 :: L) 2 x K = (nl a1 = true ∧ K (a0 :: a1 :: .long x :: .float 0 :: L)) := by simp [lsl, pv, lg]
theorem lg_3 {a0 a1 a2 a3 : Value} {L : List Value} : lg (a0 :: a1 :: a2 :: a3 :: L) 3 = a3 := rfl
theorem lsq_3 {a0 a1 a2 a3 v : Value} {L : List Value} {K : List Value → Prop} : lsq (a0 :: a1 :: a2 :: a3 :: L) 3 v K = (nl a2 = true ∧ K (a0 :: a1 :: a2 :: v :: L)) := by simp [lsq, pv, lg]
theorem lsl_3 {a0 a1 a2 a3 a4 : Value} {x : Int64} {L : List Value} {K : List Value → Prop} : lsl (a0 :: a1 :: a2 :: a3 :: a4 :: L) 3 x K = (nl a2 = true ∧ K (a0 :: a1 :: a2 :: .long x :: .float 0 :: L)) := by simp [lsl, pv, lg]
theorem lg_4 {a0 a1 a2 a3 a4 : Value} {L : List Value} : lg (a0 :: a1 :: a2 :: a3 :: a4 :: L) 4 = a4 := rfl
theorem lsq_4 {a0 a1 a2 a3 a4 v : Value} {L : List Value} {K : List Value → Prop} : lsq (a0 :: a1 :: a2 :: a3 :: a4 :: L) 4 v K = (nl a3 = true ∧ K (a0 :: a1 :: a2 :: a3 :: v :: L)) := by simp [lsq, pv, lg]
theorem lsl_4 {a0 a1 a2 a3 a4 a5 : Value} {x : Int64} {L : List Value} {K : List Value → Prop} : lsl (a0 :: a1 :: a2 :: a3 :: a4 :: a5 :: L) 4 x K = (nl a3 = true ∧ K (a0 :: a1 :: a2 :: a3 :: .long x :: .float 0 :: L)) := by simp [lsl, pv, lg]
theorem lg_5 {a0 a1 a2 a3 a4 a5 : Value} {L : List Value} : lg (a0 :: a1 :: a2 :: a3 :: a4 :: a5 :: L) 5 = a5 := rfl
theorem lsq_5 {a0 a1 a2 a3 a4 a5 v : Value} {L : List Value} {K : List Value → Prop} : lsq (a0 :: a1 :: a2 :: a3 :: a4 :: a5 :: L) 5 v K = (nl a4 = true ∧ K (a0 :: a1 :: a2 :: a3 :: a4 :: v :: L)) := by simp [lsq, pv, lg]
theorem lsl_5 {a0 a1 a2 a3 a4 a5 a6 : Value} {x : Int64} {L : List Value} {K : List Value → Prop} : lsl (a0 :: a1 :: a2 :: a3 :: a4 :: a5 :: a6 :: L) 5 x K = (nl a4 = true ∧ K (a0 :: a1 :: a2 :: a3 :: a4 :: .long x :: .float 0 :: L)) := by simp [lsl, pv, lg]
theorem lg_6 {a0 a1 a2 a3 a4 a5 a6 : Value} {L : List Value} : lg (a0 :: a1 :: a2 :: a3 :: a4 :: a5 :: a6 :: L) 6 = a6 := rfl
theorem lsq_6 {a0 a1 a2 a3 a4 a5 a6 v : Value} {L : List Value} {K : List Value → Prop} : lsq (a0 :: a1 :: a2 :: a3 :: a4 :: a5 :: a6 :: L) 6 v K = (nl a5 = true ∧ K (a0 :: a1 :: a2 :: a3 :: a4 :: a5 :: v :: L)) := by simp [lsq, pv, lg]
theorem lsl_6 {a0 a1 a2 a3 a4 a5 a6 a7 : Value} {x : Int64} {L : List Value} {K : List Value → Prop} : lsl (a0 :: a1 :: a2 :: a3 :: a4 :: a5 :: a6 :: a7 :: L) 6 x K = (nl a5 = true ∧ K (a0 :: a1 :: a2 :: a3 :: a4 :: a5 :: .long x :: .float 0 :: L)) := by simp [lsl, pv, lg]
theorem lg_7 {a0 a1 a2 a3 a4 a5 a6 a7 : Value} {L : List Value} : lg (a0 :: a1 :: a2 :: a3 :: a4 :: a5 :: a6 :: a7 :: L) 7 = a7 := rfl
theorem lsq_7 {a0 a1 a2 a3 a4 a5 a6 a7 v : Value} {L : List Value} {K : List Value → Prop} : lsq (a0 :: a1 :: a2 :: a3 :: a4 :: a5 :: a6 :: a7 :: L) 7 v K = (nl a6 = true ∧ K (a0 :: a1 :: a2 :: a3 :: a4 :: a5 :: a6 :: v :: L)) := by simp [lsq, pv, lg]
theorem lsl_7 {a0 a1 a2 a3 a4 a5 a6 a7 a8 : Value} {x : Int64} {L : List Value} {K : List Value → Prop} : lsl (a0 :: a1 :: a2 :: a3 :: a4 :: a5 :: a6 :: a7 :: a8 :: L) 7 x K = (nl a6 = true ∧ K (a0 :: a1 :: a2 :: a3 :: a4 :: a5 :: a6 :: .long x :: .float 0 :: L)) := by simp [lsl, pv, lg]
theorem lg_8 {a0 a1 a2 a3 a4 a5 a6 a7 a8 : Value} {L : List Value} : lg (a0 :: a1 :: a2 :: a3 :: a4 :: a5 :: a6 :: a7 :: a8 :: L) 8 = a8 := rfl
theorem lsq_8 {a0 a1 a2 a3 a4 a5 a6 a7 a8 v : Value} {L : List Value} {K : List Value → Prop} : lsq (a0 :: a1 :: a2 :: a3 :: a4 :: a5 :: a6 :: a7 :: a8 :: L) 8 v K = (nl a7 = true ∧ K (a0 :: a1 :: a2 :: a3 :: a4 :: a5 :: a6 :: a7 :: v :: L)) := by simp [lsq, pv, lg]
theorem lsl_8 {a0 a1 a2 a3 a4 a5 a6 a7 a8 a9 : Value} {x : Int64} {L : List Value} {K : List Value → Prop} : lsl (a0 :: a1 :: a2 :: a3 :: a4 :: a5 :: a6 :: a7 :: a8 :: a9 :: L) 8 x K = (nl a7 = true ∧ K (a0 :: a1 :: a2 :: a3 :: a4 :: a5 :: a6 :: a7 :: .long x :: .float 0 :: L)) := by simp [lsl, pv, lg]
theorem lg_9 {a0 a1 a2 a3 a4 a5 a6 a7 a8 a9 : Value} {L : List Value} : lg (a0 :: a1 :: a2 :: a3 :: a4 :: a5 :: a6 :: a7 :: a8 :: a9 :: L) 9 = a9 := rfl
theorem lsq_9 {a0 a1 a2 a3 a4 a5 a6 a7 a8 a9 v : Value} {L : List Value} {K : List Value → Prop} : lsq (a0 :: a1 :: a2 :: a3 :: a4 :: a5 :: a6 :: a7 :: a8 :: a9 :: L) 9 v K = (nl a8 = true ∧ K (a0 :: a1 :: a2 :: a3 :: a4 :: a5 :: a6 :: a7 :: a8 :: v :: L)) := by simp [lsq, pv, lg]
theorem lsl_9 {a0 a1 a2 a3 a4 a5 a6 a7 a8 a9 a10 : Value} {x : Int64} {L : List Value} {K : List Value → Prop} : lsl (a0 :: a1 :: a2 :: a3 :: a4 :: a5 :: a6 :: a7 :: a8 :: a9 :: a10 :: L) 9 x K = (nl a8 = true ∧ K (a0 :: a1 :: a2 :: a3 :: a4 :: a5 :: a6 :: a7 :: a8 :: .long x :: .float 0 :: L)) := by simp [lsl, pv, lg]
theorem lg_10 {a0 a1 a2 a3 a4 a5 a6 a7 a8 a9 a10 : Value} {L : List Value} : lg (a0 :: a1 :: a2 :: a3 :: a4 :: a5 :: a6 :: a7 :: a8 :: a9 :: a10 :: L) 10 = a10 := rfl
theorem lsq_10 {a0 a1 a2 a3 a4 a5 a6 a7 a8 a9 a10 v : Value} {L : List Value} {K : List Value → Prop} : lsq (a0 :: a1 :: a2 :: a3 :: a4 :: a5 :: a6 :: a7 :: a8 :: a9 :: a10 :: L) 10 v K = (nl a9 = true ∧ K (a0 :: a1 :: a2 :: a3 :: a4 :: a5 :: a6 :: a7 :: a8 :: a9 :: v :: L)) := by simp [lsq, pv, lg]
theorem lsl_10 {a0 a1 a2 a3 a4 a5 a6 a7 a8 a9 a10 a11 : Value} {x : Int64} {L : List Value} {K : List Value → Prop} : lsl (a0 :: a1 :: a2 :: a3 :: a4 :: a5 :: a6 :: a7 :: a8 :: a9 :: a10 :: a11 :: L) 10 x K = (nl a9 = true ∧ K (a0 :: a1 :: a2 :: a3 :: a4 :: a5 :: a6 :: a7 :: a8 :: a9 :: .long x :: .float 0 :: L)) := by simp [lsl, pv, lg]
theorem lg_11 {a0 a1 a2 a3 a4 a5 a6 a7 a8 a9 a10 a11 : Value} {L : List Value} : lg (a0 :: a1 :: a2 :: a3 :: a4 :: a5 :: a6 :: a7 :: a8 :: a9 :: a10 :: a11 :: L) 11 = a11 := rfl
theorem lsq_11 {a0 a1 a2 a3 a4 a5 a6 a7 a8 a9 a10 a11 v : Value} {L : List Value} {K : List Value → Prop} : lsq (a0 :: a1 :: a2 :: a3 :: a4 :: a5 :: a6 :: a7 :: a8 :: a9 :: a10 :: a11 :: L) 11 v K = (nl a10 = true ∧ K (a0 :: a1 :: a2 :: a3 :: a4 :: a5 :: a6 :: a7 :: a8 :: a9 :: a10 :: v :: L)) := by simp [lsq, pv, lg]
theorem lsl_11 {a0 a1 a2 a3 a4 a5 a6 a7 a8 a9 a10 a11 a12 : Value} {x : Int64} {L : List Value} {K : List Value → Prop} : lsl (a0 :: a1 :: a2 :: a3 :: a4 :: a5 :: a6 :: a7 :: a8 :: a9 :: a10 :: a11 :: a12 :: L) 11 x K = (nl a10 = true ∧ K (a0 :: a1 :: a2 :: a3 :: a4 :: a5 :: a6 :: a7 :: a8 :: a9 :: a10 :: .long x :: .float 0 :: L)) := by simp [lsl, pv, lg]
theorem lg_12 {a0 a1 a2 a3 a4 a5 a6 a7 a8 a9 a10 a11 a12 : Value} {L : List Value} : lg (a0 :: a1 :: a2 :: a3 :: a4 :: a5 :: a6 :: a7 :: a8 :: a9 :: a10 :: a11 :: a12 :: L) 12 = a12 := rfl
theorem lsq_12 {a0 a1 a2 a3 a4 a5 a6 a7 a8 a9 a10 a11 a12 v : Value} {L : List Value} {K : List Value → Prop} : lsq (a0 :: a1 :: a2 :: a3 :: a4 :: a5 :: a6 :: a7 :: a8 :: a9 :: a10 :: a11 :: a12 :: L) 12 v K = (nl a11 = true ∧ K (a0 :: a1 :: a2 :: a3 :: a4 :: a5 :: a6 :: a7 :: a8 :: a9 :: a10 :: a11 :: v :: L)) := by simp [lsq, pv, lg]
theorem lsl_12 {a0 a1 a2 a3 a4 a5 a6 a7 a8 a9 a10 a11 a12 a13 : Value} {x : Int64} {L : List Value} {K : List Value → Prop} : lsl (a0 :: a1 :: a2 :: a3 :: a4 :: a5 :: a6 :: a7 :: a8 :: a9 :: a10 :: a11 :: a12 :: a13 :: L) 12 x K = (nl a11 = true ∧ K (a0 :: a1 :: a2 :: a3 :: a4 :: a5 :: a6 :: a7 :: a8 :: a9 :: a10 :: a11 :: .long x :: .float 0 :: L)) := by simp [lsl, pv, lg]
theorem lg_13 {a0 a1 a2 a3 a4 a5 a6 a7 a8 a9 a10 a11 a12 a13 : Value} {L : List Value} : lg (a0 :: a1 :: a2 :: a3 :: a4 :: a5 :: a6 :: a7 :: a8 :: a9 :: a10 :: a11 :: a12 :: a13 :: L) 13 = a13 := rfl
theorem lsq_13 {a0 a1 a2 a3 a4 a5 a6 a7 a8 a9 a10 a11 a12 a13 v : Value} {L : List Value} {K : List Value → Prop} : lsq (a0 :: a1 :: a2 :: a3 :: a4 :: a5 :: a6 :: a7 :: a8 :: a9 :: a10 :: a11 :: a12 :: a13 :: L) 13 v K = (nl a12 = true ∧ K (a0 :: a1 :: a2 :: a3 :: a4 :: a5 :: a6 :: a7 :: a8 :: a9 :: a10 :: a11 :: a12 :: v :: L)) := by simp [lsq, pv, lg]
theorem lsl_13 {a0 a1 a2 a3 a4 a5 a6 a7 a8 a9 a10 a11 a12 a13 a14 : Value} {x : Int64} {L : List Value} {K : List Value → Prop} : lsl (a0 :: a1 :: a2 :: a3 :: a4 :: a5 :: a6 :: a7 :: a8 :: a9 :: a10 :: a11 :: a12 :: a13 :: a14 :: L) 13 x K = (nl a12 = true ∧ K (a0 :: a1 :: a2 :: a3 :: a4 :: a5 :: a6 :: a7 :: a8 :: a9 :: a10 :: a11 :: a12 :: .long x :: .float 0 :: L)) := by simp [lsl, pv, lg]
theorem lg_14 {a0 a1 a2 a3 a4 a5 a6 a7 a8 a9 a10 a11 a12 a13 a14 : Value} {L : List Value} : lg (a0 :: a1 :: a2 :: a3 :: a4 :: a5 :: a6 :: a7 :: a8 :: a9 :: a10 :: a11 :: a12 :: a13 :: a14 :: L) 14 = a14 := rfl
theorem lsq_14 {a0 a1 a2 a3 a4 a5 a6 a7 a8 a9 a10 a11 a12 a13 a14 v : Value} {L : List Value} {K : List Value → Prop} : lsq (a0 :: a1 :: a2 :: a3 :: a4 :: a5 :: a6 :: a7 :: a8 :: a9 :: a10 :: a11 :: a12 :: a13 :: a14 :: L) 14 v K = (nl a13 = true ∧ K (a0 :: a1 :: a2 :: a3 :: a4 :: a5 :: a6 :: a7 :: a8 :: a9 :: a10 :: a11 :: a12 :: a13 :: v :: L)) := by simp [lsq, pv, lg]
theorem lsl_14 {a0 a1 a2 a3 a4 a5 a6 a7 a8 a9 a10 a11 a12 a13 a14 a15 : Value} {x : Int64} {L : List Value} {K : List Value → Prop} : lsl (a0 :: a1 :: a2 :: a3 :: a4 :: a5 :: a6 :: a7 :: a8 :: a9 :: a10 :: a11 :: a12 :: a13 :: a14 :: a15 :: L) 14 x K = (nl a13 = true ∧ K (a0 :: a1 :: a2 :: a3 :: a4 :: a5 :: a6 :: a7 :: a8 :: a9 :: a10 :: a11 :: a12 :: a13 :: .long x :: .float 0 :: L)) := by simp [lsl, pv, lg]
theorem rp_0 {v : Value} : List.replicate 0 v = [] := rfl
theorem rp_1 {v : Value} : List.replicate 1 v = [v] := rfl
theorem rp_2 {v : Value} : List.replicate 2 v = [v, v] := rfl
theorem rp_3 {v : Value} : List.replicate 3 v = [v, v, v] := rfl
theorem rp_4 {v : Value} : List.replicate 4 v = [v, v, v, v] := rfl
theorem rp_5 {v : Value} : List.replicate 5 v = [v, v, v, v, v] := rfl
theorem rp_6 {v : Value} : List.replicate 6 v = [v, v, v, v, v, v] := rfl
theorem rp_7 {v : Value} : List.replicate 7 v = [v, v, v, v, v, v, v] := rfl
theorem rp_8 {v : Value} : List.replicate 8 v = [v, v, v, v, v, v, v, v] := rfl
theorem rp_9 {v : Value} : List.replicate 9 v = [v, v, v, v, v, v, v, v, v] := rfl
theorem rp_10 {v : Value} : List.replicate 10 v = [v, v, v, v, v, v, v, v, v, v] := rfl
theorem rp_11 {v : Value} : List.replicate 11 v = [v, v, v, v, v, v, v, v, v, v, v] := rfl
theorem tk_0 {st : List Value} : takeA 0 [] (st) = some ([], st) := rfl
theorem tk_1 {a0 : Value} {st : List Value} : takeA 1 [] (a0 :: st) = some ([a0], st) := rfl
theorem tk_2 {a0 a1 : Value} {st : List Value} : takeA 2 [] (a1 :: a0 :: st) = some ([a0, a1], st) := rfl
theorem tk_3 {a0 a1 a2 : Value} {st : List Value} : takeA 3 [] (a2 :: a1 :: a0 :: st) = some ([a0, a1, a2], st) := rfl
theorem tk_4 {a0 a1 a2 a3 : Value} {st : List Value} : takeA 4 [] (a3 :: a2 :: a1 :: a0 :: st) = some ([a0, a1, a2, a3], st) := rfl
theorem tk_5 {a0 a1 a2 a3 a4 : Value} {st : List Value} : takeA 5 [] (a4 :: a3 :: a2 :: a1 :: a0 :: st) = some ([a0, a1, a2, a3, a4], st) := rfl
theorem tk_6 {a0 a1 a2 a3 a4 a5 : Value} {st : List Value} : takeA 6 [] (a5 :: a4 :: a3 :: a2 :: a1 :: a0 :: st) = some ([a0, a1, a2, a3, a4, a5], st) := rfl
theorem tk_7 {a0 a1 a2 a3 a4 a5 a6 : Value} {st : List Value} : takeA 7 [] (a6 :: a5 :: a4 :: a3 :: a2 :: a1 :: a0 :: st) = some ([a0, a1, a2, a3, a4, a5, a6], st) := rfl
theorem tk_8 {a0 a1 a2 a3 a4 a5 a6 a7 : Value} {st : List Value} : takeA 8 [] (a7 :: a6 :: a5 :: a4 :: a3 :: a2 :: a1 :: a0 :: st) = some ([a0, a1, a2, a3, a4, a5, a6, a7], st) := rfl
theorem LIT1 : ((-100 : Int32).toInt = -100 ∧ (-10 : Int32).toInt = -10 ∧ (-9 : Int32).toInt = -9 ∧ (-8 : Int32).toInt = -8 ∧ (-7 : Int32).toInt = -7 ∧ (-6 : Int32).toInt = -6 ∧ (-5 : Int32).toInt = -5 ∧ (-4 : Int32).toInt = -4 ∧ (-3 : Int32).toInt = -3 ∧ (-2 : Int32).toInt = -2) ∧ ((-1 : Int32).toInt = -1 ∧ (0 : Int32).toInt = 0 ∧ (1 : Int32).toInt = 1 ∧ (2 : Int32).toInt = 2 ∧ (3 : Int32).toInt = 3 ∧ (4 : Int32).toInt = 4 ∧ (5 : Int32).toInt = 5 ∧ (6 : Int32).toInt = 6 ∧ (7 : Int32).toInt = 7 ∧ (8 : Int32).toInt = 8) ∧ ((9 : Int32).toInt = 9 ∧ (10 : Int32).toInt = 10 ∧ (13 : Int32).toInt = 13 ∧ (14 : Int32).toInt = 14 ∧ (16 : Int32).toInt = 16 ∧ (19 : Int32).toInt = 19 ∧ (20 : Int32).toInt = 20 ∧ (31 : Int32).toInt = 31 ∧ (40 : Int32).toInt = 40 ∧ (44 : Int32).toInt = 44) ∧ ((48 : Int32).toInt = 48 ∧ (57 : Int32).toInt = 57 ∧ (59 : Int32).toInt = 59 ∧ (60 : Int32).toInt = 60 ∧ (63 : Int32).toInt = 63 ∧ (64 : Int32).toInt = 64 ∧ (77 : Int32).toInt = 77 ∧ (78 : Int32).toInt = 78 ∧ (79 : Int32).toInt = 79 ∧ (80 : Int32).toInt = 80) ∧ ((83 : Int32).toInt = 83 ∧ (97 : Int32).toInt = 97 ∧ (99 : Int32).toInt = 99 ∧ (100 : Int32).toInt = 100 ∧ (127 : Int32).toInt = 127 ∧ (140 : Int32).toInt = 140 ∧ (200 : Int32).toInt = 200 ∧ (240 : Int32).toInt = 240 ∧ (639 : Int32).toInt = 639 ∧ (640 : Int32).toInt = 640) ∧ ((999 : Int32).toInt = 999 ∧ (1000 : Int32).toInt = 1000 ∧ (1023 : Int32).toInt = 1023 ∧ (9999 : Int32).toInt = 9999 ∧ (16383 : Int32).toInt = 16383 ∧ (16384 : Int32).toInt = 16384) := ⟨by decide +kernel, by decide +kernel, by decide +kernel, by decide +kernel, by decide +kernel, by decide +kernel⟩
theorem LIT2 : ((-100 : Int64).toInt = -100 ∧ (-10 : Int64).toInt = -10 ∧ (-9 : Int64).toInt = -9 ∧ (-8 : Int64).toInt = -8 ∧ (-7 : Int64).toInt = -7 ∧ (-6 : Int64).toInt = -6 ∧ (-5 : Int64).toInt = -5 ∧ (-4 : Int64).toInt = -4 ∧ (-3 : Int64).toInt = -3 ∧ (-2 : Int64).toInt = -2) ∧ ((-1 : Int64).toInt = -1 ∧ (0 : Int64).toInt = 0 ∧ (1 : Int64).toInt = 1 ∧ (2 : Int64).toInt = 2 ∧ (3 : Int64).toInt = 3 ∧ (4 : Int64).toInt = 4 ∧ (5 : Int64).toInt = 5 ∧ (6 : Int64).toInt = 6 ∧ (7 : Int64).toInt = 7 ∧ (8 : Int64).toInt = 8) ∧ ((9 : Int64).toInt = 9 ∧ (10 : Int64).toInt = 10 ∧ (13 : Int64).toInt = 13 ∧ (14 : Int64).toInt = 14 ∧ (16 : Int64).toInt = 16 ∧ (19 : Int64).toInt = 19 ∧ (20 : Int64).toInt = 20 ∧ (31 : Int64).toInt = 31 ∧ (40 : Int64).toInt = 40 ∧ (44 : Int64).toInt = 44) ∧ ((48 : Int64).toInt = 48 ∧ (57 : Int64).toInt = 57 ∧ (59 : Int64).toInt = 59 ∧ (60 : Int64).toInt = 60 ∧ (63 : Int64).toInt = 63 ∧ (64 : Int64).toInt = 64 ∧ (77 : Int64).toInt = 77 ∧ (78 : Int64).toInt = 78 ∧ (79 : Int64).toInt = 79 ∧ (80 : Int64).toInt = 80) ∧ ((83 : Int64).toInt = 83 ∧ (97 : Int64).toInt = 97 ∧ (99 : Int64).toInt = 99 ∧ (100 : Int64).toInt = 100 ∧ (127 : Int64).toInt = 127 ∧ (140 : Int64).toInt = 140 ∧ (200 : Int64).toInt = 200 ∧ (240 : Int64).toInt = 240 ∧ (639 : Int64).toInt = 639 ∧ (640 : Int64).toInt = 640) ∧ ((999 : Int64).toInt = 999 ∧ (1000 : Int64).toInt = 1000 ∧ (1023 : Int64).toInt = 1023 ∧ (9999 : Int64).toInt = 9999 ∧ (16383 : Int64).toInt = 16383 ∧ (16384 : Int64).toInt = 16384) := ⟨by decide +kernel, by decide +kernel, by decide +kernel, by decide +kernel, by decide +kernel, by decide +kernel⟩
theorem i_le {a b : Int32} : a ≤ b ↔ a.toInt ≤ b.toInt := Int32.le_iff_toInt_le
theorem i_lt {a b : Int32} : a < b ↔ a.toInt < b.toInt := Int32.lt_iff_toInt_lt
theorem i_eq {a b : Int32} : a = b ↔ a.toInt = b.toInt := Int32.toInt_inj.symm
theorem i_ne {a b : Int32} : a ≠ b ↔ a.toInt ≠ b.toInt := by rw [Ne, i_eq]
theorem l_le {a b : Int64} : a ≤ b ↔ a.toInt ≤ b.toInt := Int64.le_iff_toInt_le
theorem l_lt {a b : Int64} : a < b ↔ a.toInt < b.toInt := Int64.lt_iff_toInt_lt
theorem l_eq {a b : Int64} : a = b ↔ a.toInt = b.toInt := Int64.toInt_inj.symm
theorem l_ne {a b : Int64} : a ≠ b ↔ a.toInt ≠ b.toInt := by rw [Ne, l_eq]
theorem toL {a : Int32} : a.toInt64.toInt = a.toInt := Int32.toInt_toInt64 a
theorem cs_n : cs [] = 0 := rfl
theorem cs_i {x : Int32} {l : List Value} : cs (.int x :: l) = 1 + cs l := rfl
theorem cs_l {x : Int64} {l : List Value} : cs (.long x :: l) = 2 + cs l := rfl
theorem cs_r {x : Nat} {l : List Value} : cs (.ref x :: l) = 1 + cs l := rfl
theorem cs_u {l : List Value} : cs (.null :: l) = 1 + cs l := rfl
theorem rt_s {v : Value} {l : List Value} : (some v).toList ++ l = v :: l := rfl
theorem rt_n {l : List Value} : (none : Option Value).toList ++ l = l := rfl
theorem if1_0 {p : Prop} [Decidable p] : ((if p then (1 : Int32) else 0) = 0) = ¬ p := by by_cases h : p <;> simp [h]
theorem if1_1 {p : Prop} [Decidable p] : ((if p then (1 : Int32) else 0) = 1) = p := by by_cases h : p <;> simp [h]
theorem if1_01 {p : Prop} [Decidable p] : b01 (if p then (1 : Int32) else 0) = True := by by_cases h : p <;> simp [h, b01]
theorem one_01 : b01 1 = True := by simp [b01]
theorem zer_01 : b01 0 = True := by simp [b01]
theorem i_rng (x : Int32) : -2147483648 ≤ x.toInt ∧ x.toInt ≤ 2147483647 := ⟨Int32.minValue_le_toInt x, Int32.toInt_le x⟩
theorem l_add {a b : Int32} : (a.toInt64 + b.toInt64).toInt = a.toInt + b.toInt := by
  have := i_rng a
  have := i_rng b
  rw [Int64.toInt_add, toL, toL]
  simp only [Int64.size, Int.bmod_def]
  omega
theorem i_sub {a b : Int32} (h1 : -2147483648 ≤ a.toInt - b.toInt) (h2 : a.toInt - b.toInt ≤ 2147483647) : (a - b).toInt = a.toInt - b.toInt := by
  rw [Int32.toInt_sub]
  simp only [Int32.size, Int.bmod_def]
  omega
theorem i_add {a b : Int32} (h1 : -2147483648 ≤ a.toInt + b.toInt) (h2 : a.toInt + b.toInt ≤ 2147483647) : (a + b).toInt = a.toInt + b.toInt := by
  rw [Int32.toInt_add]
  simp only [Int32.size, Int.bmod_def]
  omega
theorem i_mul {a b : Int32} (h1 : -2147483648 ≤ a.toInt * b.toInt) (h2 : a.toInt * b.toInt ≤ 2147483647) : (a * b).toInt = a.toInt * b.toInt := by
  rw [Int32.toInt_mul]
  simp only [Int32.size, Int.bmod_def]
  omega
theorem l_sub1 {a : Int32} : (a.toInt64 - 1).toInt = a.toInt - 1 := by
  have := i_rng a
  rw [Int64.toInt_sub, toL]
  simp only [Int64.size, Int.bmod_def, show (1 : Int64).toInt = 1 from rfl]
  omega
theorem i_cl {x : Int32} (h : 0 ≤ x.toInt) : (x.toNatClampNeg : Int) = x.toInt := by
  show ((x.toInt.toNat : Nat) : Int) = x.toInt
  omega
theorem ix_4 {k m : Int32} (h1 : 0 ≤ k.toInt ∧ k.toInt ≤ 200) (h2 : 0 ≤ m.toInt ∧ m.toInt ≤ 1000) : (4 * k + m).toInt = 4 * k.toInt + m.toInt ∧ (4 * k + m).toNatClampNeg = 4 * k.toNatClampNeg + m.toNatClampNeg ∧ k * 4 + m = 4 * k + m := by
  have e0 : (4 : Int32).toInt = 4 := by decide
  have e1 : (4 * k).toInt = 4 * k.toInt := by rw [i_mul (by rw [e0]; omega) (by rw [e0]; omega), e0]
  have e2 : (4 * k + m).toInt = 4 * k.toInt + m.toInt := by rw [i_add (by rw [e1]; omega) (by rw [e1]; omega), e1]
  refine ⟨e2, ?_, by rw [Int32.mul_comm]⟩
  have q1 := i_cl (x := 4 * k + m) (by omega)
  have q2 := i_cl h1.1
  have q3 := i_cl h2.1
  omega
theorem ix_5 {k m : Int32} (h1 : 0 ≤ k.toInt ∧ k.toInt ≤ 200) (h2 : 0 ≤ m.toInt ∧ m.toInt ≤ 1000) : (5 * k + m).toInt = 5 * k.toInt + m.toInt ∧ (5 * k + m).toNatClampNeg = 5 * k.toNatClampNeg + m.toNatClampNeg ∧ k * 5 + m = 5 * k + m := by
  have e0 : (5 : Int32).toInt = 5 := by decide
  have e1 : (5 * k).toInt = 5 * k.toInt := by rw [i_mul (by rw [e0]; omega) (by rw [e0]; omega), e0]
  have e2 : (5 * k + m).toInt = 5 * k.toInt + m.toInt := by rw [i_add (by rw [e1]; omega) (by rw [e1]; omega), e1]
  refine ⟨e2, ?_, by rw [Int32.mul_comm]⟩
  have q1 := i_cl (x := 5 * k + m) (by omega)
  have q2 := i_cl h1.1
  have q3 := i_cl h2.1
  omega
theorem ix_6 {k m : Int32} (h1 : 0 ≤ k.toInt ∧ k.toInt ≤ 200) (h2 : 0 ≤ m.toInt ∧ m.toInt ≤ 1000) : (6 * k + m).toInt = 6 * k.toInt + m.toInt ∧ (6 * k + m).toNatClampNeg = 6 * k.toNatClampNeg + m.toNatClampNeg ∧ k * 6 + m = 6 * k + m := by
  have e0 : (6 : Int32).toInt = 6 := by decide
  have e1 : (6 * k).toInt = 6 * k.toInt := by rw [i_mul (by rw [e0]; omega) (by rw [e0]; omega), e0]
  have e2 : (6 * k + m).toInt = 6 * k.toInt + m.toInt := by rw [i_add (by rw [e1]; omega) (by rw [e1]; omega), e1]
  refine ⟨e2, ?_, by rw [Int32.mul_comm]⟩
  have q1 := i_cl (x := 6 * k + m) (by omega)
  have q2 := i_cl h1.1
  have q3 := i_cl h2.1
  omega
theorem ix_10 {k m : Int32} (h1 : 0 ≤ k.toInt ∧ k.toInt ≤ 200) (h2 : 0 ≤ m.toInt ∧ m.toInt ≤ 1000) : (10 * k + m).toInt = 10 * k.toInt + m.toInt ∧ (10 * k + m).toNatClampNeg = 10 * k.toNatClampNeg + m.toNatClampNeg ∧ k * 10 + m = 10 * k + m := by
  have e0 : (10 : Int32).toInt = 10 := by decide
  have e1 : (10 * k).toInt = 10 * k.toInt := by rw [i_mul (by rw [e0]; omega) (by rw [e0]; omega), e0]
  have e2 : (10 * k + m).toInt = 10 * k.toInt + m.toInt := by rw [i_add (by rw [e1]; omega) (by rw [e1]; omega), e1]
  refine ⟨e2, ?_, by rw [Int32.mul_comm]⟩
  have q1 := i_cl (x := 10 * k + m) (by omega)
  have q2 := i_cl h1.1
  have q3 := i_cl h2.1
  omega
theorem ix_14 {k m : Int32} (h1 : 0 ≤ k.toInt ∧ k.toInt ≤ 200) (h2 : 0 ≤ m.toInt ∧ m.toInt ≤ 1000) : (14 * k + m).toInt = 14 * k.toInt + m.toInt ∧ (14 * k + m).toNatClampNeg = 14 * k.toNatClampNeg + m.toNatClampNeg ∧ k * 14 + m = 14 * k + m := by
  have e0 : (14 : Int32).toInt = 14 := by decide
  have e1 : (14 * k).toInt = 14 * k.toInt := by rw [i_mul (by rw [e0]; omega) (by rw [e0]; omega), e0]
  have e2 : (14 * k + m).toInt = 14 * k.toInt + m.toInt := by rw [i_add (by rw [e1]; omega) (by rw [e1]; omega), e1]
  refine ⟨e2, ?_, by rw [Int32.mul_comm]⟩
  have q1 := i_cl (x := 14 * k + m) (by omega)
  have q2 := i_cl h1.1
  have q3 := i_cl h2.1
  omega
theorem ix_16 {k m : Int32} (h1 : 0 ≤ k.toInt ∧ k.toInt ≤ 200) (h2 : 0 ≤ m.toInt ∧ m.toInt ≤ 1000) : (16 * k + m).toInt = 16 * k.toInt + m.toInt ∧ (16 * k + m).toNatClampNeg = 16 * k.toNatClampNeg + m.toNatClampNeg ∧ k * 16 + m = 16 * k + m := by
  have e0 : (16 : Int32).toInt = 16 := by decide
  have e1 : (16 * k).toInt = 16 * k.toInt := by rw [i_mul (by rw [e0]; omega) (by rw [e0]; omega), e0]
  have e2 : (16 * k + m).toInt = 16 * k.toInt + m.toInt := by rw [i_add (by rw [e1]; omega) (by rw [e1]; omega), e1]
  refine ⟨e2, ?_, by rw [Int32.mul_comm]⟩
  have q1 := i_cl (x := 16 * k + m) (by omega)
  have q2 := i_cl h1.1
  have q3 := i_cl h2.1
  omega
theorem ix_60 {k m : Int32} (h1 : 0 ≤ k.toInt ∧ k.toInt ≤ 200) (h2 : 0 ≤ m.toInt ∧ m.toInt ≤ 1000) : (60 * k + m).toInt = 60 * k.toInt + m.toInt ∧ (60 * k + m).toNatClampNeg = 60 * k.toNatClampNeg + m.toNatClampNeg ∧ k * 60 + m = 60 * k + m := by
  have e0 : (60 : Int32).toInt = 60 := by decide
  have e1 : (60 * k).toInt = 60 * k.toInt := by rw [i_mul (by rw [e0]; omega) (by rw [e0]; omega), e0]
  have e2 : (60 * k + m).toInt = 60 * k.toInt + m.toInt := by rw [i_add (by rw [e1]; omega) (by rw [e1]; omega), e1]
  refine ⟨e2, ?_, by rw [Int32.mul_comm]⟩
  have q1 := i_cl (x := 60 * k + m) (by omega)
  have q2 := i_cl h1.1
  have q3 := i_cl h2.1
  omega
theorem ix_80 {k m : Int32} (h1 : 0 ≤ k.toInt ∧ k.toInt ≤ 200) (h2 : 0 ≤ m.toInt ∧ m.toInt ≤ 1000) : (80 * k + m).toInt = 80 * k.toInt + m.toInt ∧ (80 * k + m).toNatClampNeg = 80 * k.toNatClampNeg + m.toNatClampNeg ∧ k * 80 + m = 80 * k + m := by
  have e0 : (80 : Int32).toInt = 80 := by decide
  have e1 : (80 * k).toInt = 80 * k.toInt := by rw [i_mul (by rw [e0]; omega) (by rw [e0]; omega), e0]
  have e2 : (80 * k + m).toInt = 80 * k.toInt + m.toInt := by rw [i_add (by rw [e1]; omega) (by rw [e1]; omega), e1]
  refine ⟨e2, ?_, by rw [Int32.mul_comm]⟩
  have q1 := i_cl (x := 80 * k + m) (by omega)
  have q2 := i_cl h1.1
  have q3 := i_cl h2.1
  omega
end
section
/-! part 09x: the shape of the memory behind the two constructors -/
def muS : List (Nat × Nat) := [(21, 15), (14, 11), (1, 10), (1, 10), (1, 8), (1, 8), (1, 10), (1, 10), (1, 10), (20, 4), (1, 8), (1, 8), (1, 8), (5, 8), (3, 8), (11, 6), (1, 40), (1, 40), (1, 40), (1, 40), (1, 40), (10, 3), (1, 5), (12, 2), (1, 140), (1, 10), (17, 4), (1, 48), (1, 200), (1, 200), (19, 6), (1, 64), (1, 16), (1, 16), (1, 16), (13, 4), (1, 40), (1, 4), (1, 4), (4, 4), (16, 4), (1, 60), (16, 4), (1, 60), (16, 4), (1, 60), (16, 4), (1, 60), (22, 55), (1, 10), (1, 10), (1, 100), (1, 8), (1, 8), (1, 10), (1, 8), (1, 8), (1, 8), (1, 640), (1, 640), (1, 8), (1, 8), (1, 8), (1, 8), (1, 48), (1, 40), (1, 40), (1, 40), (1, 40), (1, 5), (1, 140), (1, 10), (1, 48), (1, 200), (1, 200), (1, 64), (1, 16), (1, 80), (1, 80), (1, 8), (1, 8), (1, 8), (1, 40), (1, 60), (2, 60), (1, 4), (1, 4), (1, 240), (1, 60)]
def roS : List (List (Option Nat)) := [[some 1, some 9, some 13, some 14, some 15, some 21, some 23, some 26, some 30, some 35, some 39], [some 2, some 3, some 4, some 5, some 6, some 7, some 8], [], [], [], [], [], [], [], [some 10, some 11, some 12], [], [], [], [], [], [some 16, some 17, some 18, some 19, some 20], [], [], [], [], [], [some 22], [], [some 24, some 25], [], [], [some 27, some 28, some 29], [], [], [], [some 31, some 32, some 33, some 34], [], [], [], [], [some 36, some 37, some 38], [], [], [], [some 40, some 42, some 44, some 46], [some 41], [], [some 43], [], [some 45], [], [some 47], [], [none, some 49, some 50, some 51, none, some 52, some 53, none, some 54, none, some 55, some 56, some 57, some 58, some 59, some 60, some 61, some 62, none, some 63, some 64, none, some 65, some 66, some 67, some 68, none, some 69, none, none, some 70, some 71, some 72, none, some 73, some 74, none, some 75, some 76, none, some 77, some 78, none, some 79, some 80, some 81, some 82, none, some 83, some 84, some 85, some 86, some 87, some 88], [], [], [], [], [], [], [], [], [], [], [], [], [], [], [], [], [], [], [], [], [], [], [], [], [], [], [], [], [], [], [], [], [], [], [], [], [], [], [], []]
def Sh (mu : aM) (ro : aR) : Prop := (∀ a, a < 89 → mu a = muS.getD a (0, 0)) ∧ ∀ a k, a < 89 → a ≠ 13 → a ≠ 14 → k < 60 → ro a k = (roS.getD a []).getD k none
theorem SHm {mu : aM} {ro : aR} (h : Sh mu ro) : (mu 0 = (21, 15) ∧ mu 1 = (14, 11) ∧ mu 2 = (1, 10) ∧ mu 3 = (1, 10) ∧ mu 4 = (1, 8) ∧ mu 5 = (1, 8) ∧ mu 6 = (1, 10) ∧ mu 7 = (1, 10) ∧ mu 8 = (1, 10) ∧ mu 9 = (20, 4)) ∧ (mu 10 = (1, 8) ∧ mu 11 = (1, 8) ∧ mu 12 = (1, 8) ∧ mu 13 = (5, 8) ∧ mu 14 = (3, 8) ∧ mu 15 = (11, 6) ∧ mu 16 = (1, 40) ∧ mu 17 = (1, 40) ∧ mu 18 = (1, 40) ∧ mu 19 = (1, 40)) ∧ (mu 20 = (1, 40) ∧ mu 21 = (10, 3) ∧ mu 22 = (1, 5) ∧ mu 23 = (12, 2) ∧ mu 24 = (1, 140) ∧ mu 25 = (1, 10) ∧ mu 26 = (17, 4) ∧ mu 27 = (1, 48) ∧ mu 28 = (1, 200) ∧ mu 29 = (1, 200)) ∧ (mu 30 = (19, 6) ∧ mu 31 = (1, 64) ∧ mu 32 = (1, 16) ∧ mu 33 = (1, 16) ∧ mu 34 = (1, 16) ∧ mu 35 = (13, 4) ∧ mu 36 = (1, 40) ∧ mu 37 = (1, 4) ∧ mu 38 = (1, 4) ∧ mu 39 = (4, 4)) ∧ (mu 40 = (16, 4) ∧ mu 41 = (1, 60) ∧ mu 42 = (16, 4) ∧ mu 43 = (1, 60) ∧ mu 44 = (16, 4) ∧ mu 45 = (1, 60) ∧ mu 46 = (16, 4) ∧ mu 47 = (1, 60) ∧ mu 48 = (22, 55) ∧ mu 49 = (1, 10)) ∧ (mu 50 = (1, 10) ∧ mu 51 = (1, 100) ∧ mu 52 = (1, 8) ∧ mu 53 = (1, 8) ∧ mu 54 = (1, 10) ∧ mu 55 = (1, 8) ∧ mu 56 = (1, 8) ∧ mu 57 = (1, 8) ∧ mu 58 = (1, 640) ∧ mu 59 = (1, 640)) ∧ (mu 60 = (1, 8) ∧ mu 61 = (1, 8) ∧ mu 62 = (1, 8) ∧ mu 63 = (1, 8) ∧ mu 64 = (1, 48) ∧ mu 65 = (1, 40) ∧ mu 66 = (1, 40) ∧ mu 67 = (1, 40) ∧ mu 68 = (1, 40) ∧ mu 69 = (1, 5)) ∧ (mu 70 = (1, 140) ∧ mu 71 = (1, 10) ∧ mu 72 = (1, 48) ∧ mu 73 = (1, 200) ∧ mu 74 = (1, 200) ∧ mu 75 = (1, 64) ∧ mu 76 = (1, 16) ∧ mu 77 = (1, 80) ∧ mu 78 = (1, 80) ∧ mu 79 = (1, 8)) ∧ (mu 80 = (1, 8) ∧ mu 81 = (1, 8) ∧ mu 82 = (1, 40) ∧ mu 83 = (1, 60) ∧ mu 84 = (2, 60) ∧ mu 85 = (1, 4) ∧ mu 86 = (1, 4) ∧ mu 87 = (1, 240) ∧ mu 88 = (1, 60)) := ⟨⟨h.1 0 (by decide), h.1 1 (by decide), h.1 2 (by decide), h.1 3 (by decide), h.1 4 (by decide), h.1 5 (by decide), h.1 6 (by decide), h.1 7 (by decide), h.1 8 (by decide), h.1 9 (by decide)⟩, ⟨h.1 10 (by decide), h.1 11 (by decide), h.1 12 (by decide), h.1 13 (by decide), h.1 14 (by decide), h.1 15 (by decide), h.1 16 (by decide), h.1 17 (by decide), h.1 18 (by decide), h.1 19 (by decide)⟩, ⟨h.1 20 (by decide), h.1 21 (by decide), h.1 22 (by decide), h.1 23 (by decide), h.1 24 (by decide), h.1 25 (by decide), h.1 26 (by decide), h.1 27 (by decide), h.1 28 (by decide), h.1 29 (by decide)⟩, ⟨h.1 30 (by decide), h.1 31 (by decide), h.1 32 (by decide), h.1 33 (by decide), h.1 34 (by decide), h.1 35 (by decide), h.1 36 (by decide), h.1 37 (by decide), h.1 38 (by decide), h.1 39 (by decide)⟩, ⟨h.1 40 (by decide), h.1 41 (by decide), h.1 42 (by decide), h.1 43 (by decide), h.1 44 (by decide), h.1 45 (by decide), h.1 46 (by decide), h.1 47 (by decide), h.1 48 (by decide), h.1 49 (by decide)⟩, ⟨h.1 50 (by decide), h.1 51 (by decide), h.1 52 (by decide), h.1 53 (by decide), h.1 54 (by decide), h.1 55 (by decide), h.1 56 (by decide), h.1 57 (by decide), h.1 58 (by decide), h.1 59 (by decide)⟩, ⟨h.1 60 (by decide), h.1 61 (by decide), h.1 62 (by decide), h.1 63 (by decide), h.1 64 (by decide), h.1 65 (by decide), h.1 66 (by decide), h.1 67 (by decide), h.1 68 (by decide), h.1 69 (by decide)⟩, ⟨h.1 70 (by decide), h.1 71 (by decide), h.1 72 (by decide), h.1 73 (by decide), h.1 74 (by decide), h.1 75 (by decide), h.1 76 (by decide), h.1 77 (by decide), h.1 78 (by decide), h.1 79 (by decide)⟩, ⟨h.1 80 (by decide), h.1 81 (by decide), h.1 82 (by decide), h.1 83 (by decide), h.1 84 (by decide), h.1 85 (by decide), h.1 86 (by decide), h.1 87 (by decide), h.1 88 (by decide)⟩⟩
theorem SHr {mu : aM} {ro : aR} (h : Sh mu ro) : (ro 0 0 = some 1 ∧ ro 0 1 = some 9 ∧ ro 0 2 = some 13 ∧ ro 0 3 = some 14 ∧ ro 0 4 = some 15 ∧ ro 0 5 = some 21 ∧ ro 0 6 = some 23 ∧ ro 0 7 = some 26 ∧ ro 0 8 = some 30 ∧ ro 0 9 = some 35) ∧ (ro 0 10 = some 39 ∧ ro 1 0 = some 2 ∧ ro 1 1 = some 3 ∧ ro 1 2 = some 4 ∧ ro 1 3 = some 5 ∧ ro 1 4 = some 6 ∧ ro 1 5 = some 7 ∧ ro 1 6 = some 8 ∧ ro 9 0 = some 10 ∧ ro 9 1 = some 11) ∧ (ro 9 2 = some 12 ∧ ro 15 0 = some 16 ∧ ro 15 1 = some 17 ∧ ro 15 2 = some 18 ∧ ro 15 3 = some 19 ∧ ro 15 4 = some 20 ∧ ro 21 0 = some 22 ∧ ro 23 0 = some 24 ∧ ro 23 1 = some 25 ∧ ro 26 0 = some 27) ∧ (ro 26 1 = some 28 ∧ ro 26 2 = some 29 ∧ ro 30 0 = some 31 ∧ ro 30 1 = some 32 ∧ ro 30 2 = some 33 ∧ ro 30 3 = some 34 ∧ ro 35 0 = some 36 ∧ ro 35 1 = some 37 ∧ ro 35 2 = some 38 ∧ ro 39 0 = some 40) ∧ (ro 39 1 = some 42 ∧ ro 39 2 = some 44 ∧ ro 39 3 = some 46 ∧ ro 40 0 = some 41 ∧ ro 42 0 = some 43 ∧ ro 44 0 = some 45 ∧ ro 46 0 = some 47 ∧ ro 48 1 = some 49 ∧ ro 48 2 = some 50 ∧ ro 48 3 = some 51) ∧ (ro 48 5 = some 52 ∧ ro 48 6 = some 53 ∧ ro 48 8 = some 54 ∧ ro 48 10 = some 55 ∧ ro 48 11 = some 56 ∧ ro 48 12 = some 57 ∧ ro 48 13 = some 58 ∧ ro 48 14 = some 59 ∧ ro 48 15 = some 60 ∧ ro 48 16 = some 61) ∧ (ro 48 17 = some 62 ∧ ro 48 19 = some 63 ∧ ro 48 20 = some 64 ∧ ro 48 22 = some 65 ∧ ro 48 23 = some 66 ∧ ro 48 24 = some 67 ∧ ro 48 25 = some 68 ∧ ro 48 27 = some 69 ∧ ro 48 30 = some 70 ∧ ro 48 31 = some 71) ∧ (ro 48 32 = some 72 ∧ ro 48 34 = some 73 ∧ ro 48 35 = some 74 ∧ ro 48 37 = some 75 ∧ ro 48 38 = some 76 ∧ ro 48 40 = some 77 ∧ ro 48 41 = some 78 ∧ ro 48 43 = some 79 ∧ ro 48 44 = some 80 ∧ ro 48 45 = some 81) ∧ (ro 48 46 = some 82 ∧ ro 48 48 = some 83 ∧ ro 48 49 = some 84 ∧ ro 48 50 = some 85 ∧ ro 48 51 = some 86 ∧ ro 48 52 = some 87 ∧ ro 48 53 = some 88) := ⟨⟨h.2 0 0 (by decide) (by decide) (by decide) (by decide), h.2 0 1 (by decide) (by decide) (by decide) (by decide), h.2 0 2 (by decide) (by decide) (by decide) (by decide), h.2 0 3 (by decide) (by decide) (by decide) (by decide), h.2 0 4 (by decide) (by decide) (by decide) (by decide), h.2 0 5 (by decide) (by decide) (by decide) (by decide), h.2 0 6 (by decide) (by decide) (by decide) (by decide), h.2 0 7 (by decide) (by decide) (by decide) (by decide), h.2 0 8 (by decide) (by decide) (by decide) (by decide), h.2 0 9 (by decide) (by decide) (by decide) (by decide)⟩, ⟨h.2 0 10 (by decide) (by decide) (by decide) (by decide), h.2 1 0 (by decide) (by decide) (by decide) (by decide), h.2 1 1 (by decide) (by decide) (by decide) (by decide), h.2 1 2 (by decide) (by decide) (by decide) (by decide), h.2 1 3 (by decide) (by decide) (by decide) (by decide), h.2 1 4 (by decide) (by decide) (by decide) (by decide), h.2 1 5 (by decide) (by decide) (by decide) (by decide), h.2 1 6 (by decide) (by decide) (by decide) (by decide), h.2 9 0 (by decide) (by decide) (by decide) (by decide), h.2 9 1 (by decide) (by decide) (by decide) (by decide)⟩, ⟨h.2 9 2 (by decide) (by decide) (by decide) (by decide), h.2 15 0 (by decide) (by decide) (by decide) (by decide), h.2 15 1 (by decide) (by decide) (by decide) (by decide), h.2 15 2 (by decide) (by decide) (by decide) (by decide), h.2 15 3 (by decide) (by decide) (by decide) (by decide), h.2 15 4 (by decide) (by decide) (by decide) (by decide), h.2 21 0 (by decide) (by decide) (by decide) (by decide), h.2 23 0 (by decide) (by decide) (by decide) (by decide), h.2 23 1 (by decide) (by decide) (by decide) (by decide), h.2 26 0 (by decide) (by decide) (by decide) (by decide)⟩, ⟨h.2 26 1 (by decide) (by decide) (by decide) (by decide), h.2 26 2 (by decide) (by decide) (by decide) (by decide), h.2 30 0 (by decide) (by decide) (by decide) (by decide), h.2 30 1 (by decide) (by decide) (by decide) (by decide), h.2 30 2 (by decide) (by decide) (by decide) (by decide), h.2 30 3 (by decide) (by decide) (by decide) (by decide), h.2 35 0 (by decide) (by decide) (by decide) (by decide), h.2 35 1 (by decide) (by decide) (by decide) (by decide), h.2 35 2 (by decide) (by decide) (by decide) (by decide), h.2 39 0 (by decide) (by decide) (by decide) (by decide)⟩, ⟨h.2 39 1 (by decide) (by decide) (by decide) (by decide), h.2 39 2 (by decide) (by decide) (by decide) (by decide), h.2 39 3 (by decide) (by decide) (by decide) (by decide), h.2 40 0 (by decide) (by decide) (by decide) (by decide), h.2 42 0 (by decide) (by decide) (by decide) (by decide), h.2 44 0 (by decide) (by decide) (by decide) (by decide), h.2 46 0 (by decide) (by decide) (by decide) (by decide), h.2 48 1 (by decide) (by decide) (by decide) (by decide), h.2 48 2 (by decide) (by decide) (by decide) (by decide), h.2 48 3 (by decide) (by decide) (by decide) (by decide)⟩, ⟨h.2 48 5 (by decide) (by decide) (by decide) (by decide), h.2 48 6 (by decide) (by decide) (by decide) (by decide), h.2 48 8 (by decide) (by decide) (by decide) (by decide), h.2 48 10 (by decide) (by decide) (by decide) (by decide), h.2 48 11 (by decide) (by decide) (by decide) (by decide), h.2 48 12 (by decide) (by decide) (by decide) (by decide), h.2 48 13 (by decide) (by decide) (by decide) (by decide), h.2 48 14 (by decide) (by decide) (by decide) (by decide), h.2 48 15 (by decide) (by decide) (by decide) (by decide), h.2 48 16 (by decide) (by decide) (by decide) (by decide)⟩, ⟨h.2 48 17 (by decide) (by decide) (by decide) (by decide), h.2 48 19 (by decide) (by decide) (by decide) (by decide), h.2 48 20 (by decide) (by decide) (by decide) (by decide), h.2 48 22 (by decide) (by decide) (by decide) (by decide), h.2 48 23 (by decide) (by decide) (by decide) (by decide), h.2 48 24 (by decide) (by decide) (by decide) (by decide), h.2 48 25 (by decide) (by decide) (by decide) (by decide), h.2 48 27 (by decide) (by decide) (by decide) (by decide), h.2 48 30 (by decide) (by decide) (by decide) (by decide), h.2 48 31 (by decide) (by decide) (by decide) (by decide)⟩, ⟨h.2 48 32 (by decide) (by decide) (by decide) (by decide), h.2 48 34 (by decide) (by decide) (by decide) (by decide), h.2 48 35 (by decide) (by decide) (by decide) (by decide), h.2 48 37 (by decide) (by decide) (by decide) (by decide), h.2 48 38 (by decide) (by decide) (by decide) (by decide), h.2 48 40 (by decide) (by decide) (by decide) (by decide), h.2 48 41 (by decide) (by decide) (by decide) (by decide), h.2 48 43 (by decide) (by decide) (by decide) (by decide), h.2 48 44 (by decide) (by decide) (by decide) (by decide), h.2 48 45 (by decide) (by decide) (by decide) (by decide)⟩, ⟨h.2 48 46 (by decide) (by decide) (by decide) (by decide), h.2 48 48 (by decide) (by decide) (by decide) (by decide), h.2 48 49 (by decide) (by decide) (by decide) (by decide), h.2 48 50 (by decide) (by decide) (by decide) (by decide), h.2 48 51 (by decide) (by decide) (by decide) (by decide), h.2 48 52 (by decide) (by decide) (by decide) (by decide), h.2 48 53 (by decide) (by decide) (by decide) (by decide)⟩⟩
end
section
/-! part 10: static helpers of the class and of the reference -/
section H10
variable {d n : Nat} {mu : aM} {ro : aR} {sg : aS} {K : Option Value → aS → Prop}
set_option maxHeartbeats 4000000 in
set_option maxRecDepth 100000 in
theorem c_isIn {v lo hi : Int32} (hk : K (some (.int (if lo.toInt ≤ v.toInt ∧ v.toInt ≤ hi.toInt then 1 else 0))) sg) : aCall d 81 [.int v, .int lo, .int hi] n mu ro sg K := by
  refine aCall_start (mL := 3) (cc := cX11_isIn) (o := 11) (ret := (some .boolean)) 0 (by decide) (by decide +kernel) rfl rfl rfl rfl (Nat.le_of_ble_eq_true rfl) (fun G hC hG => ?_)
  simp only [exL, List.cons_append, List.nil_append, rp_0, rp_1, rp_2, rp_3, rp_4, rp_5, rp_6, rp_7, rp_8, rp_9, rp_10, rp_11, List.append_nil]
  refine hG (fun _ => false) 40 _ _ _ _ (Nat.le_of_ble_eq_true rfl) ?_
  simp only [D_X11_isIn, vcS, vcC, vcI, gtF, ptF, inS, inV, fv0, fv1, fv2, fv3, fw0, fw1, lg_0, lg_1, lg_2, lg_3, lg_4, lg_5, lg_6, lg_7, lg_8, lg_9, lg_10, lg_11, lg_12, lg_13, lg_14, lsq_0, lsl_0, lsq_1, lsl_1, lsq_2, lsl_2, lsq_3, lsl_3, lsq_4, lsl_4, lsq_5, lsl_5, lsq_6, lsl_6, lsq_7, lsl_7, lsq_8, lsl_8, lsq_9, lsl_9, lsq_10, lsl_10, lsq_11, lsl_11, lsq_12, lsl_12, lsq_13, lsl_13, lsq_14, lsl_14, tk_0, tk_1, tk_2, tk_3, tk_4, tk_5, tk_6, tk_7, tk_8, cs_n, cs_i, cs_l, cs_r, cs_u, nl, rt_s, rt_n, CST1, Nat.reduceAdd, Nat.reduceLeDiff, va_rf, rtOk, Bool.false_eq_true, Bool.true_eq_false, if_false, if_true, ite_true, ite_false, true_and, and_true, eq_self, ne_eq, not_false_eq_true, not_true_eq_false, false_implies, true_implies, and_self, reduceCtorEq, Nat.reduceBEq, Bool.or_false, Bool.false_or, Bool.or_true, Bool.true_or, if1_0, if1_1, if1_01, one_01, zer_01, lg_cmp_ge, lg_cmp_le, lg_cmp_gt, lg_cmp_lt, lg_cmp_eq, Classical.not_not]
  refine ⟨fun h1 => ?_, fun h1 => ⟨fun h2 => ?_, fun h2 => ?_⟩⟩ <;> (first | exact hk | (refine Eq.mp (congrArg (fun z => K (some (.int z)) sg) ?_) hk; split <;> first | rfl | (exfalso; ((try simp only [i_le, i_lt, i_eq, l_le, l_lt, l_eq, i_ne, l_ne, toL, l_add, l_sub1, LIT1, LIT2, Int.reduceNeg, ge_iff_le, gt_iff_lt] at *); omega))))
set_option maxHeartbeats 4000000 in
set_option maxRecDepth 100000 in
theorem c_isMachine {v : Int32} (hd : 1 ≤ d) (hk : K (some (.int (if 0 ≤ v.toInt ∧ v.toInt ≤ 9 then 1 else 0))) sg) : aCall d 82 [.int v] n mu ro sg K := by
  refine aCall_start (mL := 1) (cc := cX11_isMachine) (o := 11) (ret := (some .boolean)) 0 (by decide) (by decide +kernel) rfl rfl rfl rfl (Nat.le_of_ble_eq_true rfl) (fun G hC hG => ?_)
  simp only [exL, List.cons_append, List.nil_append, rp_0, rp_1, rp_2, rp_3, rp_4, rp_5, rp_6, rp_7, rp_8, rp_9, rp_10, rp_11, List.append_nil]
  refine hG (fun _ => false) 40 _ _ _ _ (Nat.le_of_ble_eq_true rfl) ?_
  simp only [D_X11_isMachine, vcS, vcC, vcI, gtF, ptF, inS, inV, fv0, fv1, fv2, fv3, fw0, fw1, lg_0, lg_1, lg_2, lg_3, lg_4, lg_5, lg_6, lg_7, lg_8, lg_9, lg_10, lg_11, lg_12, lg_13, lg_14, lsq_0, lsl_0, lsq_1, lsl_1, lsq_2, lsl_2, lsq_3, lsl_3, lsq_4, lsl_4, lsq_5, lsl_5, lsq_6, lsl_6, lsq_7, lsl_7, lsq_8, lsl_8, lsq_9, lsl_9, lsq_10, lsl_10, lsq_11, lsl_11, lsq_12, lsl_12, lsq_13, lsl_13, lsq_14, lsl_14, tk_0, tk_1, tk_2, tk_3, tk_4, tk_5, tk_6, tk_7, tk_8, cs_n, cs_i, cs_l, cs_r, cs_u, nl, rt_s, rt_n, CST1, Nat.reduceAdd, Nat.reduceLeDiff, va_rf, rtOk, Bool.false_eq_true, Bool.true_eq_false, if_false, if_true, ite_true, ite_false, true_and, and_true, eq_self, ne_eq, not_false_eq_true, not_true_eq_false, false_implies, true_implies, and_self, reduceCtorEq, Nat.reduceBEq, Bool.or_false, Bool.false_or, Bool.or_true, Bool.true_or, if1_0, if1_1, if1_01, one_01, zer_01, lg_cmp_ge, lg_cmp_le, lg_cmp_gt, lg_cmp_lt, lg_cmp_eq, Classical.not_not]
  refine ⟨hd, c_isIn ?_⟩
  simp only [D_X11_isMachine, vcS, vcC, vcI, gtF, ptF, inS, inV, fv0, fv1, fv2, fv3, fw0, fw1, lg_0, lg_1, lg_2, lg_3, lg_4, lg_5, lg_6, lg_7, lg_8, lg_9, lg_10, lg_11, lg_12, lg_13, lg_14, lsq_0, lsl_0, lsq_1, lsl_1, lsq_2, lsl_2, lsq_3, lsl_3, lsq_4, lsl_4, lsq_5, lsl_5, lsq_6, lsl_6, lsq_7, lsl_7, lsq_8, lsl_8, lsq_9, lsl_9, lsq_10, lsl_10, lsq_11, lsl_11, lsq_12, lsl_12, lsq_13, lsl_13, lsq_14, lsl_14, tk_0, tk_1, tk_2, tk_3, tk_4, tk_5, tk_6, tk_7, tk_8, cs_n, cs_i, cs_l, cs_r, cs_u, nl, rt_s, rt_n, CST1, Nat.reduceAdd, Nat.reduceLeDiff, va_rf, rtOk, Bool.false_eq_true, Bool.true_eq_false, if_false, if_true, ite_true, ite_false, true_and, and_true, eq_self, ne_eq, not_false_eq_true, not_true_eq_false, false_implies, true_implies, and_self, reduceCtorEq, Nat.reduceBEq, Bool.or_false, Bool.false_or, Bool.or_true, Bool.true_or, if1_0, if1_1, if1_01, one_01, zer_01, lg_cmp_ge, lg_cmp_le, lg_cmp_gt, lg_cmp_lt, lg_cmp_eq, Classical.not_not, LIT1]
  exact hk
set_option maxHeartbeats 4000000 in
set_option maxRecDepth 100000 in
theorem c_areMachines {a b : Int32} (hd : 2 ≤ d) (hk : K (some (.int (if (0 ≤ a.toInt ∧ a.toInt ≤ 9) ∧ (0 ≤ b.toInt ∧ b.toInt ≤ 9) then 1 else 0))) sg) : aCall d 83 [.int a, .int b] n mu ro sg K := by
  refine aCall_start (mL := 2) (cc := cX11_areMachines) (o := 11) (ret := (some .boolean)) 0 (by decide) (by decide +kernel) rfl rfl rfl rfl (Nat.le_of_ble_eq_true rfl) (fun G hC hG => ?_)
  simp only [exL, List.cons_append, List.nil_append, rp_0, rp_1, rp_2, rp_3, rp_4, rp_5, rp_6, rp_7, rp_8, rp_9, rp_10, rp_11, List.append_nil]
  refine hG (fun _ => false) 40 _ _ _ _ (Nat.le_of_ble_eq_true rfl) ?_
  simp only [D_X11_areMachines, vcS, vcC, vcI, gtF, ptF, inS, inV, fv0, fv1, fv2, fv3, fw0, fw1, lg_0, lg_1, lg_2, lg_3, lg_4, lg_5, lg_6, lg_7, lg_8, lg_9, lg_10, lg_11, lg_12, lg_13, lg_14, lsq_0, lsl_0, lsq_1, lsl_1, lsq_2, lsl_2, lsq_3, lsl_3, lsq_4, lsl_4, lsq_5, lsl_5, lsq_6, lsl_6, lsq_7, lsl_7, lsq_8, lsl_8, lsq_9, lsl_9, lsq_10, lsl_10, lsq_11, lsl_11, lsq_12, lsl_12, lsq_13, lsl_13, lsq_14, lsl_14, tk_0, tk_1, tk_2, tk_3, tk_4, tk_5, tk_6, tk_7, tk_8, cs_n, cs_i, cs_l, cs_r, cs_u, nl, rt_s, rt_n, CST1, Nat.reduceAdd, Nat.reduceLeDiff, va_rf, rtOk, Bool.false_eq_true, Bool.true_eq_false, if_false, if_true, ite_true, ite_false, true_and, and_true, eq_self, ne_eq, not_false_eq_true, not_true_eq_false, false_implies, true_implies, and_self, reduceCtorEq, Nat.reduceBEq, Bool.or_false, Bool.false_or, Bool.or_true, Bool.true_or, if1_0, if1_1, if1_01, one_01, zer_01, lg_cmp_ge, lg_cmp_le, lg_cmp_gt, lg_cmp_lt, lg_cmp_eq, Classical.not_not]
  refine ⟨by omega, c_isMachine (by omega) ?_⟩
  simp only [D_X11_areMachines, vcS, vcC, vcI, gtF, ptF, inS, inV, fv0, fv1, fv2, fv3, fw0, fw1, lg_0, lg_1, lg_2, lg_3, lg_4, lg_5, lg_6, lg_7, lg_8, lg_9, lg_10, lg_11, lg_12, lg_13, lg_14, lsq_0, lsl_0, lsq_1, lsl_1, lsq_2, lsl_2, lsq_3, lsl_3, lsq_4, lsl_4, lsq_5, lsl_5, lsq_6, lsl_6, lsq_7, lsl_7, lsq_8, lsl_8, lsq_9, lsl_9, lsq_10, lsl_10, lsq_11, lsl_11, lsq_12, lsl_12, lsq_13, lsl_13, lsq_14, lsl_14, tk_0, tk_1, tk_2, tk_3, tk_4, tk_5, tk_6, tk_7, tk_8, cs_n, cs_i, cs_l, cs_r, cs_u, nl, rt_s, rt_n, CST1, Nat.reduceAdd, Nat.reduceLeDiff, va_rf, rtOk, Bool.false_eq_true, Bool.true_eq_false, if_false, if_true, ite_true, ite_false, true_and, and_true, eq_self, ne_eq, not_false_eq_true, not_true_eq_false, false_implies, true_implies, and_self, reduceCtorEq, Nat.reduceBEq, Bool.or_false, Bool.false_or, Bool.or_true, Bool.true_or, if1_0, if1_1, if1_01, one_01, zer_01, lg_cmp_ge, lg_cmp_le, lg_cmp_gt, lg_cmp_lt, lg_cmp_eq, Classical.not_not]
  refine ⟨fun h1 => ?_, fun h1 => ⟨by omega, c_isMachine (by omega) ?_⟩⟩
  · first | exact hk | (refine Eq.mp (congrArg (fun z => K (some (.int z)) sg) ?_) hk; split <;> first | rfl | (exfalso; ((try simp only [i_le, i_lt, i_eq, l_le, l_lt, l_eq, i_ne, l_ne, toL, l_add, l_sub1, LIT1, LIT2, Int.reduceNeg, ge_iff_le, gt_iff_lt] at *); omega)))
  · simp only [D_X11_areMachines, vcS, vcC, vcI, gtF, ptF, inS, inV, fv0, fv1, fv2, fv3, fw0, fw1, lg_0, lg_1, lg_2, lg_3, lg_4, lg_5, lg_6, lg_7, lg_8, lg_9, lg_10, lg_11, lg_12, lg_13, lg_14, lsq_0, lsl_0, lsq_1, lsl_1, lsq_2, lsl_2, lsq_3, lsl_3, lsq_4, lsl_4, lsq_5, lsl_5, lsq_6, lsl_6, lsq_7, lsl_7, lsq_8, lsl_8, lsq_9, lsl_9, lsq_10, lsl_10, lsq_11, lsl_11, lsq_12, lsl_12, lsq_13, lsl_13, lsq_14, lsl_14, tk_0, tk_1, tk_2, tk_3, tk_4, tk_5, tk_6, tk_7, tk_8, cs_n, cs_i, cs_l, cs_r, cs_u, nl, rt_s, rt_n, CST1, Nat.reduceAdd, Nat.reduceLeDiff, va_rf, rtOk, Bool.false_eq_true, Bool.true_eq_false, if_false, if_true, ite_true, ite_false, true_and, and_true, eq_self, ne_eq, not_false_eq_true, not_true_eq_false, false_implies, true_implies, and_self, reduceCtorEq, Nat.reduceBEq, Bool.or_false, Bool.false_or, Bool.or_true, Bool.true_or, if1_0, if1_1, if1_01, one_01, zer_01, lg_cmp_ge, lg_cmp_le, lg_cmp_gt, lg_cmp_lt, lg_cmp_eq, Classical.not_not]
    refine ⟨fun h2 => ?_, fun h2 => ?_⟩ <;> (first | exact hk | (refine Eq.mp (congrArg (fun z => K (some (.int z)) sg) ?_) hk; split <;> first | rfl | (exfalso; ((try simp only [i_le, i_lt, i_eq, l_le, l_lt, l_eq, i_ne, l_ne, toL, l_add, l_sub1, LIT1, LIT2, Int.reduceNeg, ge_iff_le, gt_iff_lt] at *); omega))))
set_option maxHeartbeats 4000000 in
set_option maxRecDepth 100000 in
theorem c_isTick {v : Int32} (hd : 1 ≤ d) (hk : K (some (.int (if 0 ≤ v.toInt ∧ v.toInt ≤ 999 then 1 else 0))) sg) : aCall d 84 [.int v] n mu ro sg K := by
  refine aCall_start (mL := 1) (cc := cX11_isTick) (o := 11) (ret := (some .boolean)) 0 (by decide) (by decide +kernel) rfl rfl rfl rfl (Nat.le_of_ble_eq_true rfl) (fun G hC hG => ?_)
  simp only [exL, List.cons_append, List.nil_append, rp_0, rp_1, rp_2, rp_3, rp_4, rp_5, rp_6, rp_7, rp_8, rp_9, rp_10, rp_11, List.append_nil]
  refine hG (fun _ => false) 40 _ _ _ _ (Nat.le_of_ble_eq_true rfl) ?_
  simp only [D_X11_isTick, vcS, vcC, vcI, gtF, ptF, inS, inV, fv0, fv1, fv2, fv3, fw0, fw1, lg_0, lg_1, lg_2, lg_3, lg_4, lg_5, lg_6, lg_7, lg_8, lg_9, lg_10, lg_11, lg_12, lg_13, lg_14, lsq_0, lsl_0, lsq_1, lsl_1, lsq_2, lsl_2, lsq_3, lsl_3, lsq_4, lsl_4, lsq_5, lsl_5, lsq_6, lsl_6, lsq_7, lsl_7, lsq_8, lsl_8, lsq_9, lsl_9, lsq_10, lsl_10, lsq_11, lsl_11, lsq_12, lsl_12, lsq_13, lsl_13, lsq_14, lsl_14, tk_0, tk_1, tk_2, tk_3, tk_4, tk_5, tk_6, tk_7, tk_8, cs_n, cs_i, cs_l, cs_r, cs_u, nl, rt_s, rt_n, CST1, Nat.reduceAdd, Nat.reduceLeDiff, va_rf, rtOk, Bool.false_eq_true, Bool.true_eq_false, if_false, if_true, ite_true, ite_false, true_and, and_true, eq_self, ne_eq, not_false_eq_true, not_true_eq_false, false_implies, true_implies, and_self, reduceCtorEq, Nat.reduceBEq, Bool.or_false, Bool.false_or, Bool.or_true, Bool.true_or, if1_0, if1_1, if1_01, one_01, zer_01, lg_cmp_ge, lg_cmp_le, lg_cmp_gt, lg_cmp_lt, lg_cmp_eq, Classical.not_not]
  refine ⟨hd, c_isIn ?_⟩
  simp only [D_X11_isTick, vcS, vcC, vcI, gtF, ptF, inS, inV, fv0, fv1, fv2, fv3, fw0, fw1, lg_0, lg_1, lg_2, lg_3, lg_4, lg_5, lg_6, lg_7, lg_8, lg_9, lg_10, lg_11, lg_12, lg_13, lg_14, lsq_0, lsl_0, lsq_1, lsl_1, lsq_2, lsl_2, lsq_3, lsl_3, lsq_4, lsl_4, lsq_5, lsl_5, lsq_6, lsl_6, lsq_7, lsl_7, lsq_8, lsl_8, lsq_9, lsl_9, lsq_10, lsl_10, lsq_11, lsl_11, lsq_12, lsl_12, lsq_13, lsl_13, lsq_14, lsl_14, tk_0, tk_1, tk_2, tk_3, tk_4, tk_5, tk_6, tk_7, tk_8, cs_n, cs_i, cs_l, cs_r, cs_u, nl, rt_s, rt_n, CST1, Nat.reduceAdd, Nat.reduceLeDiff, va_rf, rtOk, Bool.false_eq_true, Bool.true_eq_false, if_false, if_true, ite_true, ite_false, true_and, and_true, eq_self, ne_eq, not_false_eq_true, not_true_eq_false, false_implies, true_implies, and_self, reduceCtorEq, Nat.reduceBEq, Bool.or_false, Bool.false_or, Bool.or_true, Bool.true_or, if1_0, if1_1, if1_01, one_01, zer_01, lg_cmp_ge, lg_cmp_le, lg_cmp_gt, lg_cmp_lt, lg_cmp_eq, Classical.not_not, LIT1]
  exact hk
set_option maxHeartbeats 4000000 in
set_option maxRecDepth 100000 in
theorem c_isLane {v : Int32} (hd : 1 ≤ d) (hk : K (some (.int (if 0 ≤ v.toInt ∧ v.toInt ≤ 2 then 1 else 0))) sg) : aCall d 85 [.int v] n mu ro sg K := by
  refine aCall_start (mL := 1) (cc := cX11_isLane) (o := 11) (ret := (some .boolean)) 0 (by decide) (by decide +kernel) rfl rfl rfl rfl (Nat.le_of_ble_eq_true rfl) (fun G hC hG => ?_)
  simp only [exL, List.cons_append, List.nil_append, rp_0, rp_1, rp_2, rp_3, rp_4, rp_5, rp_6, rp_7, rp_8, rp_9, rp_10, rp_11, List.append_nil]
  refine hG (fun _ => false) 40 _ _ _ _ (Nat.le_of_ble_eq_true rfl) ?_
  simp only [D_X11_isLane, vcS, vcC, vcI, gtF, ptF, inS, inV, fv0, fv1, fv2, fv3, fw0, fw1, lg_0, lg_1, lg_2, lg_3, lg_4, lg_5, lg_6, lg_7, lg_8, lg_9, lg_10, lg_11, lg_12, lg_13, lg_14, lsq_0, lsl_0, lsq_1, lsl_1, lsq_2, lsl_2, lsq_3, lsl_3, lsq_4, lsl_4, lsq_5, lsl_5, lsq_6, lsl_6, lsq_7, lsl_7, lsq_8, lsl_8, lsq_9, lsl_9, lsq_10, lsl_10, lsq_11, lsl_11, lsq_12, lsl_12, lsq_13, lsl_13, lsq_14, lsl_14, tk_0, tk_1, tk_2, tk_3, tk_4, tk_5, tk_6, tk_7, tk_8, cs_n, cs_i, cs_l, cs_r, cs_u, nl, rt_s, rt_n, CST1, Nat.reduceAdd, Nat.reduceLeDiff, va_rf, rtOk, Bool.false_eq_true, Bool.true_eq_false, if_false, if_true, ite_true, ite_false, true_and, and_true, eq_self, ne_eq, not_false_eq_true, not_true_eq_false, false_implies, true_implies, and_self, reduceCtorEq, Nat.reduceBEq, Bool.or_false, Bool.false_or, Bool.or_true, Bool.true_or, if1_0, if1_1, if1_01, one_01, zer_01, lg_cmp_ge, lg_cmp_le, lg_cmp_gt, lg_cmp_lt, lg_cmp_eq, Classical.not_not]
  refine ⟨hd, c_isIn ?_⟩
  simp only [D_X11_isLane, vcS, vcC, vcI, gtF, ptF, inS, inV, fv0, fv1, fv2, fv3, fw0, fw1, lg_0, lg_1, lg_2, lg_3, lg_4, lg_5, lg_6, lg_7, lg_8, lg_9, lg_10, lg_11, lg_12, lg_13, lg_14, lsq_0, lsl_0, lsq_1, lsl_1, lsq_2, lsl_2, lsq_3, lsl_3, lsq_4, lsl_4, lsq_5, lsl_5, lsq_6, lsl_6, lsq_7, lsl_7, lsq_8, lsl_8, lsq_9, lsl_9, lsq_10, lsl_10, lsq_11, lsl_11, lsq_12, lsl_12, lsq_13, lsl_13, lsq_14, lsl_14, tk_0, tk_1, tk_2, tk_3, tk_4, tk_5, tk_6, tk_7, tk_8, cs_n, cs_i, cs_l, cs_r, cs_u, nl, rt_s, rt_n, CST1, Nat.reduceAdd, Nat.reduceLeDiff, va_rf, rtOk, Bool.false_eq_true, Bool.true_eq_false, if_false, if_true, ite_true, ite_false, true_and, and_true, eq_self, ne_eq, not_false_eq_true, not_true_eq_false, false_implies, true_implies, and_self, reduceCtorEq, Nat.reduceBEq, Bool.or_false, Bool.false_or, Bool.or_true, Bool.true_or, if1_0, if1_1, if1_01, one_01, zer_01, lg_cmp_ge, lg_cmp_le, lg_cmp_gt, lg_cmp_lt, lg_cmp_eq, Classical.not_not, LIT1]
  exact hk
set_option maxHeartbeats 4000000 in
set_option maxRecDepth 100000 in
theorem c_isHourSet {v : Int32} (hd : 1 ≤ d) (hk : K (some (.int (if 1 ≤ v.toInt ∧ v.toInt ≤ 16383 then 1 else 0))) sg) : aCall d 86 [.int v] n mu ro sg K := by
  refine aCall_start (mL := 1) (cc := cX11_isHourSet) (o := 11) (ret := (some .boolean)) 0 (by decide) (by decide +kernel) rfl rfl rfl rfl (Nat.le_of_ble_eq_true rfl) (fun G hC hG => ?_)
  simp only [exL, List.cons_append, List.nil_append, rp_0, rp_1, rp_2, rp_3, rp_4, rp_5, rp_6, rp_7, rp_8, rp_9, rp_10, rp_11, List.append_nil]
  refine hG (fun _ => false) 40 _ _ _ _ (Nat.le_of_ble_eq_true rfl) ?_
  simp only [D_X11_isHourSet, vcS, vcC, vcI, gtF, ptF, inS, inV, fv0, fv1, fv2, fv3, fw0, fw1, lg_0, lg_1, lg_2, lg_3, lg_4, lg_5, lg_6, lg_7, lg_8, lg_9, lg_10, lg_11, lg_12, lg_13, lg_14, lsq_0, lsl_0, lsq_1, lsl_1, lsq_2, lsl_2, lsq_3, lsl_3, lsq_4, lsl_4, lsq_5, lsl_5, lsq_6, lsl_6, lsq_7, lsl_7, lsq_8, lsl_8, lsq_9, lsl_9, lsq_10, lsl_10, lsq_11, lsl_11, lsq_12, lsl_12, lsq_13, lsl_13, lsq_14, lsl_14, tk_0, tk_1, tk_2, tk_3, tk_4, tk_5, tk_6, tk_7, tk_8, cs_n, cs_i, cs_l, cs_r, cs_u, nl, rt_s, rt_n, CST1, Nat.reduceAdd, Nat.reduceLeDiff, va_rf, rtOk, Bool.false_eq_true, Bool.true_eq_false, if_false, if_true, ite_true, ite_false, true_and, and_true, eq_self, ne_eq, not_false_eq_true, not_true_eq_false, false_implies, true_implies, and_self, reduceCtorEq, Nat.reduceBEq, Bool.or_false, Bool.false_or, Bool.or_true, Bool.true_or, if1_0, if1_1, if1_01, one_01, zer_01, lg_cmp_ge, lg_cmp_le, lg_cmp_gt, lg_cmp_lt, lg_cmp_eq, Classical.not_not]
  refine ⟨hd, c_isIn ?_⟩
  simp only [D_X11_isHourSet, vcS, vcC, vcI, gtF, ptF, inS, inV, fv0, fv1, fv2, fv3, fw0, fw1, lg_0, lg_1, lg_2, lg_3, lg_4, lg_5, lg_6, lg_7, lg_8, lg_9, lg_10, lg_11, lg_12, lg_13, lg_14, lsq_0, lsl_0, lsq_1, lsl_1, lsq_2, lsl_2, lsq_3, lsl_3, lsq_4, lsl_4, lsq_5, lsl_5, lsq_6, lsl_6, lsq_7, lsl_7, lsq_8, lsl_8, lsq_9, lsl_9, lsq_10, lsl_10, lsq_11, lsl_11, lsq_12, lsl_12, lsq_13, lsl_13, lsq_14, lsl_14, tk_0, tk_1, tk_2, tk_3, tk_4, tk_5, tk_6, tk_7, tk_8, cs_n, cs_i, cs_l, cs_r, cs_u, nl, rt_s, rt_n, CST1, Nat.reduceAdd, Nat.reduceLeDiff, va_rf, rtOk, Bool.false_eq_true, Bool.true_eq_false, if_false, if_true, ite_true, ite_false, true_and, and_true, eq_self, ne_eq, not_false_eq_true, not_true_eq_false, false_implies, true_implies, and_self, reduceCtorEq, Nat.reduceBEq, Bool.or_false, Bool.false_or, Bool.or_true, Bool.true_or, if1_0, if1_1, if1_01, one_01, zer_01, lg_cmp_ge, lg_cmp_le, lg_cmp_gt, lg_cmp_lt, lg_cmp_eq, Classical.not_not, LIT1]
  exact hk
set_option maxHeartbeats 4000000 in
set_option maxRecDepth 100000 in
theorem c_isSign {v : Int32} (hd : 1 ≤ d) (hk : K (some (.int (if 0 ≤ v.toInt ∧ v.toInt ≤ 3 then 1 else 0))) sg) : aCall d 119 [.int v] n mu ro sg K := by
  refine aCall_start (mL := 1) (cc := cX11_isSign) (o := 11) (ret := (some .boolean)) 0 (by decide) (by decide +kernel) rfl rfl rfl rfl (Nat.le_of_ble_eq_true rfl) (fun G hC hG => ?_)
  simp only [exL, List.cons_append, List.nil_append, rp_0, rp_1, rp_2, rp_3, rp_4, rp_5, rp_6, rp_7, rp_8, rp_9, rp_10, rp_11, List.append_nil]
  refine hG (fun _ => false) 40 _ _ _ _ (Nat.le_of_ble_eq_true rfl) ?_
  simp only [D_X11_isSign, vcS, vcC, vcI, gtF, ptF, inS, inV, fv0, fv1, fv2, fv3, fw0, fw1, lg_0, lg_1, lg_2, lg_3, lg_4, lg_5, lg_6, lg_7, lg_8, lg_9, lg_10, lg_11, lg_12, lg_13, lg_14, lsq_0, lsl_0, lsq_1, lsl_1, lsq_2, lsl_2, lsq_3, lsl_3, lsq_4, lsl_4, lsq_5, lsl_5, lsq_6, lsl_6, lsq_7, lsl_7, lsq_8, lsl_8, lsq_9, lsl_9, lsq_10, lsl_10, lsq_11, lsl_11, lsq_12, lsl_12, lsq_13, lsl_13, lsq_14, lsl_14, tk_0, tk_1, tk_2, tk_3, tk_4, tk_5, tk_6, tk_7, tk_8, cs_n, cs_i, cs_l, cs_r, cs_u, nl, rt_s, rt_n, CST1, Nat.reduceAdd, Nat.reduceLeDiff, va_rf, rtOk, Bool.false_eq_true, Bool.true_eq_false, if_false, if_true, ite_true, ite_false, true_and, and_true, eq_self, ne_eq, not_false_eq_true, not_true_eq_false, false_implies, true_implies, and_self, reduceCtorEq, Nat.reduceBEq, Bool.or_false, Bool.false_or, Bool.or_true, Bool.true_or, if1_0, if1_1, if1_01, one_01, zer_01, lg_cmp_ge, lg_cmp_le, lg_cmp_gt, lg_cmp_lt, lg_cmp_eq, Classical.not_not]
  refine ⟨hd, c_isIn ?_⟩
  simp only [D_X11_isSign, vcS, vcC, vcI, gtF, ptF, inS, inV, fv0, fv1, fv2, fv3, fw0, fw1, lg_0, lg_1, lg_2, lg_3, lg_4, lg_5, lg_6, lg_7, lg_8, lg_9, lg_10, lg_11, lg_12, lg_13, lg_14, lsq_0, lsl_0, lsq_1, lsl_1, lsq_2, lsl_2, lsq_3, lsl_3, lsq_4, lsl_4, lsq_5, lsl_5, lsq_6, lsl_6, lsq_7, lsl_7, lsq_8, lsl_8, lsq_9, lsl_9, lsq_10, lsl_10, lsq_11, lsl_11, lsq_12, lsl_12, lsq_13, lsl_13, lsq_14, lsl_14, tk_0, tk_1, tk_2, tk_3, tk_4, tk_5, tk_6, tk_7, tk_8, cs_n, cs_i, cs_l, cs_r, cs_u, nl, rt_s, rt_n, CST1, Nat.reduceAdd, Nat.reduceLeDiff, va_rf, rtOk, Bool.false_eq_true, Bool.true_eq_false, if_false, if_true, ite_true, ite_false, true_and, and_true, eq_self, ne_eq, not_false_eq_true, not_true_eq_false, false_implies, true_implies, and_self, reduceCtorEq, Nat.reduceBEq, Bool.or_false, Bool.false_or, Bool.or_true, Bool.true_or, if1_0, if1_1, if1_01, one_01, zer_01, lg_cmp_ge, lg_cmp_le, lg_cmp_gt, lg_cmp_lt, lg_cmp_eq, Classical.not_not, LIT1]
  exact hk
set_option maxHeartbeats 4000000 in
set_option maxRecDepth 100000 in
theorem c_isThing {v : Int32} (hd : 1 ≤ d) (hk : K (some (.int (if 0 ≤ v.toInt ∧ v.toInt ≤ 9999 then 1 else 0))) sg) : aCall d 51 [.int v] n mu ro sg K := by
  refine aCall_start (mL := 1) (cc := cX7_isThing) (o := 7) (ret := (some .boolean)) 0 (by decide) (by decide +kernel) rfl rfl rfl rfl (Nat.le_of_ble_eq_true rfl) (fun G hC hG => ?_)
  simp only [exL, List.cons_append, List.nil_append, rp_0, rp_1, rp_2, rp_3, rp_4, rp_5, rp_6, rp_7, rp_8, rp_9, rp_10, rp_11, List.append_nil]
  refine hG (fun _ => false) 40 _ _ _ _ (Nat.le_of_ble_eq_true rfl) ?_
  simp only [D_X7_isThing, vcS, vcC, vcI, gtF, ptF, inS, inV, fv0, fv1, fv2, fv3, fw0, fw1, lg_0, lg_1, lg_2, lg_3, lg_4, lg_5, lg_6, lg_7, lg_8, lg_9, lg_10, lg_11, lg_12, lg_13, lg_14, lsq_0, lsl_0, lsq_1, lsl_1, lsq_2, lsl_2, lsq_3, lsl_3, lsq_4, lsl_4, lsq_5, lsl_5, lsq_6, lsl_6, lsq_7, lsl_7, lsq_8, lsl_8, lsq_9, lsl_9, lsq_10, lsl_10, lsq_11, lsl_11, lsq_12, lsl_12, lsq_13, lsl_13, lsq_14, lsl_14, tk_0, tk_1, tk_2, tk_3, tk_4, tk_5, tk_6, tk_7, tk_8, cs_n, cs_i, cs_l, cs_r, cs_u, nl, rt_s, rt_n, CST1, Nat.reduceAdd, Nat.reduceLeDiff, va_rf, rtOk, Bool.false_eq_true, Bool.true_eq_false, if_false, if_true, ite_true, ite_false, true_and, and_true, eq_self, ne_eq, not_false_eq_true, not_true_eq_false, false_implies, true_implies, and_self, reduceCtorEq, Nat.reduceBEq, Bool.or_false, Bool.false_or, Bool.or_true, Bool.true_or, if1_0, if1_1, if1_01, one_01, zer_01, lg_cmp_ge, lg_cmp_le, lg_cmp_gt, lg_cmp_lt, lg_cmp_eq, Classical.not_not]
  refine ⟨hd, c_isIn ?_⟩
  simp only [D_X7_isThing, vcS, vcC, vcI, gtF, ptF, inS, inV, fv0, fv1, fv2, fv3, fw0, fw1, lg_0, lg_1, lg_2, lg_3, lg_4, lg_5, lg_6, lg_7, lg_8, lg_9, lg_10, lg_11, lg_12, lg_13, lg_14, lsq_0, lsl_0, lsq_1, lsl_1, lsq_2, lsl_2, lsq_3, lsl_3, lsq_4, lsl_4, lsq_5, lsl_5, lsq_6, lsl_6, lsq_7, lsl_7, lsq_8, lsl_8, lsq_9, lsl_9, lsq_10, lsl_10, lsq_11, lsl_11, lsq_12, lsl_12, lsq_13, lsl_13, lsq_14, lsl_14, tk_0, tk_1, tk_2, tk_3, tk_4, tk_5, tk_6, tk_7, tk_8, cs_n, cs_i, cs_l, cs_r, cs_u, nl, rt_s, rt_n, CST1, Nat.reduceAdd, Nat.reduceLeDiff, va_rf, rtOk, Bool.false_eq_true, Bool.true_eq_false, if_false, if_true, ite_true, ite_false, true_and, and_true, eq_self, ne_eq, not_false_eq_true, not_true_eq_false, false_implies, true_implies, and_self, reduceCtorEq, Nat.reduceBEq, Bool.or_false, Bool.false_or, Bool.or_true, Bool.true_or, if1_0, if1_1, if1_01, one_01, zer_01, lg_cmp_ge, lg_cmp_le, lg_cmp_gt, lg_cmp_lt, lg_cmp_eq, Classical.not_not, LIT1]
  exact hk
set_option maxHeartbeats 4000000 in
set_option maxRecDepth 100000 in
theorem c_areApart {a b : Int32} (hd : 1 ≤ d) (hk : K (some (.int (if (1 ≤ a.toInt ∧ a.toInt ≤ 1023) ∧ (1 ≤ b.toInt ∧ b.toInt ≤ 1023) ∧ a &&& b = 0 then 1 else 0))) sg) : aCall d 87 [.int a, .int b] n mu ro sg K := by
  refine aCall_start (mL := 2) (cc := cX11_areApart) (o := 11) (ret := (some .boolean)) 0 (by decide) (by decide +kernel) rfl rfl rfl rfl (Nat.le_of_ble_eq_true rfl) (fun G hC hG => ?_)
  simp only [exL, List.cons_append, List.nil_append, rp_0, rp_1, rp_2, rp_3, rp_4, rp_5, rp_6, rp_7, rp_8, rp_9, rp_10, rp_11, List.append_nil]
  refine hG (fun _ => false) 40 _ _ _ _ (Nat.le_of_ble_eq_true rfl) ?_
  simp only [D_X11_areApart, vcS, vcC, vcI, gtF, ptF, inS, inV, fv0, fv1, fv2, fv3, fw0, fw1, lg_0, lg_1, lg_2, lg_3, lg_4, lg_5, lg_6, lg_7, lg_8, lg_9, lg_10, lg_11, lg_12, lg_13, lg_14, lsq_0, lsl_0, lsq_1, lsl_1, lsq_2, lsl_2, lsq_3, lsl_3, lsq_4, lsl_4, lsq_5, lsl_5, lsq_6, lsl_6, lsq_7, lsl_7, lsq_8, lsl_8, lsq_9, lsl_9, lsq_10, lsl_10, lsq_11, lsl_11, lsq_12, lsl_12, lsq_13, lsl_13, lsq_14, lsl_14, tk_0, tk_1, tk_2, tk_3, tk_4, tk_5, tk_6, tk_7, tk_8, cs_n, cs_i, cs_l, cs_r, cs_u, nl, rt_s, rt_n, CST1, Nat.reduceAdd, Nat.reduceLeDiff, va_rf, rtOk, Bool.false_eq_true, Bool.true_eq_false, if_false, if_true, ite_true, ite_false, true_and, and_true, eq_self, ne_eq, not_false_eq_true, not_true_eq_false, false_implies, true_implies, and_self, reduceCtorEq, Nat.reduceBEq, Bool.or_false, Bool.false_or, Bool.or_true, Bool.true_or, if1_0, if1_1, if1_01, one_01, zer_01, lg_cmp_ge, lg_cmp_le, lg_cmp_gt, lg_cmp_lt, lg_cmp_eq, Classical.not_not]
  refine ⟨hd, c_isIn ?_⟩
  simp only [D_X11_areApart, vcS, vcC, vcI, gtF, ptF, inS, inV, fv0, fv1, fv2, fv3, fw0, fw1, lg_0, lg_1, lg_2, lg_3, lg_4, lg_5, lg_6, lg_7, lg_8, lg_9, lg_10, lg_11, lg_12, lg_13, lg_14, lsq_0, lsl_0, lsq_1, lsl_1, lsq_2, lsl_2, lsq_3, lsl_3, lsq_4, lsl_4, lsq_5, lsl_5, lsq_6, lsl_6, lsq_7, lsl_7, lsq_8, lsl_8, lsq_9, lsl_9, lsq_10, lsl_10, lsq_11, lsl_11, lsq_12, lsl_12, lsq_13, lsl_13, lsq_14, lsl_14, tk_0, tk_1, tk_2, tk_3, tk_4, tk_5, tk_6, tk_7, tk_8, cs_n, cs_i, cs_l, cs_r, cs_u, nl, rt_s, rt_n, CST1, Nat.reduceAdd, Nat.reduceLeDiff, va_rf, rtOk, Bool.false_eq_true, Bool.true_eq_false, if_false, if_true, ite_true, ite_false, true_and, and_true, eq_self, ne_eq, not_false_eq_true, not_true_eq_false, false_implies, true_implies, and_self, reduceCtorEq, Nat.reduceBEq, Bool.or_false, Bool.false_or, Bool.or_true, Bool.true_or, if1_0, if1_1, if1_01, one_01, zer_01, lg_cmp_ge, lg_cmp_le, lg_cmp_gt, lg_cmp_lt, lg_cmp_eq, Classical.not_not, LIT1]
  refine ⟨fun h1 => ?_, fun h1 => ⟨hd, c_isIn ?_⟩⟩
  · rw [if_neg (fun q => h1 q.1)] at hk; exact hk
  · simp only [D_X11_areApart, vcS, vcC, vcI, gtF, ptF, inS, inV, fv0, fv1, fv2, fv3, fw0, fw1, lg_0, lg_1, lg_2, lg_3, lg_4, lg_5, lg_6, lg_7, lg_8, lg_9, lg_10, lg_11, lg_12, lg_13, lg_14, lsq_0, lsl_0, lsq_1, lsl_1, lsq_2, lsl_2, lsq_3, lsl_3, lsq_4, lsl_4, lsq_5, lsl_5, lsq_6, lsl_6, lsq_7, lsl_7, lsq_8, lsl_8, lsq_9, lsl_9, lsq_10, lsl_10, lsq_11, lsl_11, lsq_12, lsl_12, lsq_13, lsl_13, lsq_14, lsl_14, tk_0, tk_1, tk_2, tk_3, tk_4, tk_5, tk_6, tk_7, tk_8, cs_n, cs_i, cs_l, cs_r, cs_u, nl, rt_s, rt_n, CST1, Nat.reduceAdd, Nat.reduceLeDiff, va_rf, rtOk, Bool.false_eq_true, Bool.true_eq_false, if_false, if_true, ite_true, ite_false, true_and, and_true, eq_self, ne_eq, not_false_eq_true, not_true_eq_false, false_implies, true_implies, and_self, reduceCtorEq, Nat.reduceBEq, Bool.or_false, Bool.false_or, Bool.or_true, Bool.true_or, if1_0, if1_1, if1_01, one_01, zer_01, lg_cmp_ge, lg_cmp_le, lg_cmp_gt, lg_cmp_lt, lg_cmp_eq, Classical.not_not, LIT1]
    refine ⟨fun h2 => ?_, fun h2 => ⟨fun h3 => ?_, fun h3 => ?_⟩⟩
    · rw [if_neg (fun q => h2 q.2.1)] at hk; exact hk
    · rw [if_neg (fun q => h3 q.2.2)] at hk; exact hk
    · rw [if_pos ⟨h1, h2, h3⟩] at hk; exact hk
-- the reference
set_option maxHeartbeats 4000000 in
set_option maxRecDepth 100000 in
theorem m_in {v lo hi : Int64} (hk : K (some (.int (if lo.toInt ≤ v.toInt ∧ v.toInt ≤ hi.toInt then 1 else 0))) sg) : aCall d 152 [.long v, .long lo, .long hi] n mu ro sg K := by
  refine aCall_start (mL := 6) (cc := cX12_in) (o := 12) (ret := (some .boolean)) 0 (by decide) (by decide +kernel) rfl rfl rfl rfl (Nat.le_of_ble_eq_true rfl) (fun G hC hG => ?_)
  simp only [exL, List.cons_append, List.nil_append, rp_0, rp_1, rp_2, rp_3, rp_4, rp_5, rp_6, rp_7, rp_8, rp_9, rp_10, rp_11, List.append_nil]
  refine hG (fun _ => false) 40 _ _ _ _ (Nat.le_of_ble_eq_true rfl) ?_
  simp only [D_X12_in, vcS, vcC, vcI, gtF, ptF, inS, inV, fv0, fv1, fv2, fv3, fw0, fw1, lg_0, lg_1, lg_2, lg_3, lg_4, lg_5, lg_6, lg_7, lg_8, lg_9, lg_10, lg_11, lg_12, lg_13, lg_14, lsq_0, lsl_0, lsq_1, lsl_1, lsq_2, lsl_2, lsq_3, lsl_3, lsq_4, lsl_4, lsq_5, lsl_5, lsq_6, lsl_6, lsq_7, lsl_7, lsq_8, lsl_8, lsq_9, lsl_9, lsq_10, lsl_10, lsq_11, lsl_11, lsq_12, lsl_12, lsq_13, lsl_13, lsq_14, lsl_14, tk_0, tk_1, tk_2, tk_3, tk_4, tk_5, tk_6, tk_7, tk_8, cs_n, cs_i, cs_l, cs_r, cs_u, nl, rt_s, rt_n, CST1, Nat.reduceAdd, Nat.reduceLeDiff, va_rf, rtOk, Bool.false_eq_true, Bool.true_eq_false, if_false, if_true, ite_true, ite_false, true_and, and_true, eq_self, ne_eq, not_false_eq_true, not_true_eq_false, false_implies, true_implies, and_self, reduceCtorEq, Nat.reduceBEq, Bool.or_false, Bool.false_or, Bool.or_true, Bool.true_or, if1_0, if1_1, if1_01, one_01, zer_01, lg_cmp_ge, lg_cmp_le, lg_cmp_gt, lg_cmp_lt, lg_cmp_eq, Classical.not_not]
  refine ⟨fun h1 => ?_, fun h1 => ⟨fun h2 => ?_, fun h2 => ?_⟩⟩ <;> (first | exact hk | (refine Eq.mp (congrArg (fun z => K (some (.int z)) sg) ?_) hk; split <;> first | rfl | (exfalso; ((try simp only [i_le, i_lt, i_eq, l_le, l_lt, l_eq, i_ne, l_ne, toL, l_add, l_sub1, LIT1, LIT2, Int.reduceNeg, ge_iff_le, gt_iff_lt] at *); omega))))
set_option maxHeartbeats 4000000 in
set_option maxRecDepth 100000 in
theorem m_lost (hk : K (some (.long (-9223372036854775808))) sg) : aCall d 153 [] n mu ro sg K := by
  refine aCall_start (mL := 0) (cc := cX12_lost) (o := 12) (ret := (some .long)) 0 (by decide) (by decide +kernel) rfl rfl rfl rfl (Nat.le_of_ble_eq_true rfl) (fun G hC hG => ?_)
  simp only [exL, List.cons_append, List.nil_append, rp_0, rp_1, rp_2, rp_3, rp_4, rp_5, rp_6, rp_7, rp_8, rp_9, rp_10, rp_11, List.append_nil]
  refine hG (fun _ => false) 40 _ _ _ _ (Nat.le_of_ble_eq_true rfl) ?_
  simp only [D_X12_lost, vcS, vcC, vcI, gtF, ptF, inS, inV, fv0, fv1, fv2, fv3, fw0, fw1, lg_0, lg_1, lg_2, lg_3, lg_4, lg_5, lg_6, lg_7, lg_8, lg_9, lg_10, lg_11, lg_12, lg_13, lg_14, lsq_0, lsl_0, lsq_1, lsl_1, lsq_2, lsl_2, lsq_3, lsl_3, lsq_4, lsl_4, lsq_5, lsl_5, lsq_6, lsl_6, lsq_7, lsl_7, lsq_8, lsl_8, lsq_9, lsl_9, lsq_10, lsl_10, lsq_11, lsl_11, lsq_12, lsl_12, lsq_13, lsl_13, lsq_14, lsl_14, tk_0, tk_1, tk_2, tk_3, tk_4, tk_5, tk_6, tk_7, tk_8, cs_n, cs_i, cs_l, cs_r, cs_u, nl, rt_s, rt_n, CST1, Nat.reduceAdd, Nat.reduceLeDiff, va_rf, rtOk, Bool.false_eq_true, Bool.true_eq_false, if_false, if_true, ite_true, ite_false, true_and, and_true, eq_self, ne_eq, not_false_eq_true, not_true_eq_false, false_implies, true_implies, and_self, reduceCtorEq, Nat.reduceBEq, Bool.or_false, Bool.false_or, Bool.or_true, Bool.true_or, if1_0, if1_1, if1_01, one_01, zer_01, lg_cmp_ge, lg_cmp_le, lg_cmp_gt, lg_cmp_lt, lg_cmp_eq, Classical.not_not]
  exact hk
set_option maxHeartbeats 4000000 in
set_option maxRecDepth 100000 in
theorem m_hasBit {s k : Int32} (hk : K (some (.int (if (s >>> (k &&& 31)) &&& 1 = 1 then 1 else 0))) sg) : aCall d 154 [.int s, .int k] n mu ro sg K := by
  refine aCall_start (mL := 2) (cc := cX12_hasBit) (o := 12) (ret := (some .boolean)) 0 (by decide) (by decide +kernel) rfl rfl rfl rfl (Nat.le_of_ble_eq_true rfl) (fun G hC hG => ?_)
  simp only [exL, List.cons_append, List.nil_append, rp_0, rp_1, rp_2, rp_3, rp_4, rp_5, rp_6, rp_7, rp_8, rp_9, rp_10, rp_11, List.append_nil]
  refine hG (fun _ => false) 40 _ _ _ _ (Nat.le_of_ble_eq_true rfl) ?_
  simp only [D_X12_hasBit, vcS, vcC, vcI, gtF, ptF, inS, inV, fv0, fv1, fv2, fv3, fw0, fw1, lg_0, lg_1, lg_2, lg_3, lg_4, lg_5, lg_6, lg_7, lg_8, lg_9, lg_10, lg_11, lg_12, lg_13, lg_14, lsq_0, lsl_0, lsq_1, lsl_1, lsq_2, lsl_2, lsq_3, lsl_3, lsq_4, lsl_4, lsq_5, lsl_5, lsq_6, lsl_6, lsq_7, lsl_7, lsq_8, lsl_8, lsq_9, lsl_9, lsq_10, lsl_10, lsq_11, lsl_11, lsq_12, lsl_12, lsq_13, lsl_13, lsq_14, lsl_14, tk_0, tk_1, tk_2, tk_3, tk_4, tk_5, tk_6, tk_7, tk_8, cs_n, cs_i, cs_l, cs_r, cs_u, nl, rt_s, rt_n, CST1, Nat.reduceAdd, Nat.reduceLeDiff, va_rf, rtOk, Bool.false_eq_true, Bool.true_eq_false, if_false, if_true, ite_true, ite_false, true_and, and_true, eq_self, ne_eq, not_false_eq_true, not_true_eq_false, false_implies, true_implies, and_self, reduceCtorEq, Nat.reduceBEq, Bool.or_false, Bool.false_or, Bool.or_true, Bool.true_or, if1_0, if1_1, if1_01, one_01, zer_01, lg_cmp_ge, lg_cmp_le, lg_cmp_gt, lg_cmp_lt, lg_cmp_eq, Classical.not_not]
  refine ⟨fun h1 => ?_, fun h1 => ?_⟩
  · rw [if_neg h1] at hk; exact hk
  · rw [if_pos h1] at hk; exact hk
set_option maxHeartbeats 4000000 in
set_option maxRecDepth 100000 in
theorem m_lesser {a b : Int32} (hk : K (some (.int (if a < b then a else b))) sg) : aCall d 156 [.int a, .int b] n mu ro sg K := by
  refine aCall_start (mL := 2) (cc := cX12_lesser) (o := 12) (ret := (some .int)) 0 (by decide) (by decide +kernel) rfl rfl rfl rfl (Nat.le_of_ble_eq_true rfl) (fun G hC hG => ?_)
  simp only [exL, List.cons_append, List.nil_append, rp_0, rp_1, rp_2, rp_3, rp_4, rp_5, rp_6, rp_7, rp_8, rp_9, rp_10, rp_11, List.append_nil]
  refine hG (fun _ => false) 40 _ _ _ _ (Nat.le_of_ble_eq_true rfl) ?_
  simp only [D_X12_lesser, vcS, vcC, vcI, gtF, ptF, inS, inV, fv0, fv1, fv2, fv3, fw0, fw1, lg_0, lg_1, lg_2, lg_3, lg_4, lg_5, lg_6, lg_7, lg_8, lg_9, lg_10, lg_11, lg_12, lg_13, lg_14, lsq_0, lsl_0, lsq_1, lsl_1, lsq_2, lsl_2, lsq_3, lsl_3, lsq_4, lsl_4, lsq_5, lsl_5, lsq_6, lsl_6, lsq_7, lsl_7, lsq_8, lsl_8, lsq_9, lsl_9, lsq_10, lsl_10, lsq_11, lsl_11, lsq_12, lsl_12, lsq_13, lsl_13, lsq_14, lsl_14, tk_0, tk_1, tk_2, tk_3, tk_4, tk_5, tk_6, tk_7, tk_8, cs_n, cs_i, cs_l, cs_r, cs_u, nl, rt_s, rt_n, CST1, Nat.reduceAdd, Nat.reduceLeDiff, va_rf, rtOk, Bool.false_eq_true, Bool.true_eq_false, if_false, if_true, ite_true, ite_false, true_and, and_true, eq_self, ne_eq, not_false_eq_true, not_true_eq_false, false_implies, true_implies, and_self, reduceCtorEq, Nat.reduceBEq, Bool.or_false, Bool.false_or, Bool.or_true, Bool.true_or, if1_0, if1_1, if1_01, one_01, zer_01, lg_cmp_ge, lg_cmp_le, lg_cmp_gt, lg_cmp_lt, lg_cmp_eq, Classical.not_not]
  refine ⟨fun h1 => ?_, fun h1 => ?_⟩
  · rw [if_neg (by rw [i_lt] at *; rw [i_le] at h1; omega)] at hk; exact hk
  · rw [if_pos (by rw [i_lt] at *; rw [i_le] at h1; omega)] at hk; exact hk
set_option maxHeartbeats 4000000 in
set_option maxRecDepth 100000 in
theorem m_isTick {v : Int32} (hd : 1 ≤ d) (hk : K (some (.int (if 0 ≤ v.toInt ∧ v.toInt ≤ 999 then 1 else 0))) sg) : aCall d 159 [.int v] n mu ro sg K := by
  refine aCall_start (mL := 1) (cc := cX12_isTick) (o := 12) (ret := (some .boolean)) 0 (by decide) (by decide +kernel) rfl rfl rfl rfl (Nat.le_of_ble_eq_true rfl) (fun G hC hG => ?_)
  simp only [exL, List.cons_append, List.nil_append, rp_0, rp_1, rp_2, rp_3, rp_4, rp_5, rp_6, rp_7, rp_8, rp_9, rp_10, rp_11, List.append_nil]
  refine hG (fun _ => false) 40 _ _ _ _ (Nat.le_of_ble_eq_true rfl) ?_
  simp only [D_X12_isTick, vcS, vcC, vcI, gtF, ptF, inS, inV, fv0, fv1, fv2, fv3, fw0, fw1, lg_0, lg_1, lg_2, lg_3, lg_4, lg_5, lg_6, lg_7, lg_8, lg_9, lg_10, lg_11, lg_12, lg_13, lg_14, lsq_0, lsl_0, lsq_1, lsl_1, lsq_2, lsl_2, lsq_3, lsl_3, lsq_4, lsl_4, lsq_5, lsl_5, lsq_6, lsl_6, lsq_7, lsl_7, lsq_8, lsl_8, lsq_9, lsl_9, lsq_10, lsl_10, lsq_11, lsl_11, lsq_12, lsl_12, lsq_13, lsl_13, lsq_14, lsl_14, tk_0, tk_1, tk_2, tk_3, tk_4, tk_5, tk_6, tk_7, tk_8, cs_n, cs_i, cs_l, cs_r, cs_u, nl, rt_s, rt_n, CST1, Nat.reduceAdd, Nat.reduceLeDiff, va_rf, rtOk, Bool.false_eq_true, Bool.true_eq_false, if_false, if_true, ite_true, ite_false, true_and, and_true, eq_self, ne_eq, not_false_eq_true, not_true_eq_false, false_implies, true_implies, and_self, reduceCtorEq, Nat.reduceBEq, Bool.or_false, Bool.false_or, Bool.or_true, Bool.true_or, if1_0, if1_1, if1_01, one_01, zer_01, lg_cmp_ge, lg_cmp_le, lg_cmp_gt, lg_cmp_lt, lg_cmp_eq, Classical.not_not]
  refine ⟨hd, m_in ?_⟩
  simp only [D_X12_isTick, vcS, vcC, vcI, gtF, ptF, inS, inV, fv0, fv1, fv2, fv3, fw0, fw1, lg_0, lg_1, lg_2, lg_3, lg_4, lg_5, lg_6, lg_7, lg_8, lg_9, lg_10, lg_11, lg_12, lg_13, lg_14, lsq_0, lsl_0, lsq_1, lsl_1, lsq_2, lsl_2, lsq_3, lsl_3, lsq_4, lsl_4, lsq_5, lsl_5, lsq_6, lsl_6, lsq_7, lsl_7, lsq_8, lsl_8, lsq_9, lsl_9, lsq_10, lsl_10, lsq_11, lsl_11, lsq_12, lsl_12, lsq_13, lsl_13, lsq_14, lsl_14, tk_0, tk_1, tk_2, tk_3, tk_4, tk_5, tk_6, tk_7, tk_8, cs_n, cs_i, cs_l, cs_r, cs_u, nl, rt_s, rt_n, CST1, Nat.reduceAdd, Nat.reduceLeDiff, va_rf, rtOk, Bool.false_eq_true, Bool.true_eq_false, if_false, if_true, ite_true, ite_false, true_and, and_true, eq_self, ne_eq, not_false_eq_true, not_true_eq_false, false_implies, true_implies, and_self, reduceCtorEq, Nat.reduceBEq, Bool.or_false, Bool.false_or, Bool.or_true, Bool.true_or, if1_0, if1_1, if1_01, one_01, zer_01, lg_cmp_ge, lg_cmp_le, lg_cmp_gt, lg_cmp_lt, lg_cmp_eq, Classical.not_not, LIT2, toL]
  exact hk
set_option maxHeartbeats 4000000 in
set_option maxRecDepth 100000 in
theorem m_noMachine {v : Int32} (hd : 1 ≤ d) (hk : K (some (.int (if ¬ (0 ≤ v.toInt ∧ v.toInt ≤ 9) then 1 else 0))) sg) : aCall d 165 [.int v] n mu ro sg K := by
  refine aCall_start (mL := 1) (cc := cX12_noMachine) (o := 12) (ret := (some .boolean)) 0 (by decide) (by decide +kernel) rfl rfl rfl rfl (Nat.le_of_ble_eq_true rfl) (fun G hC hG => ?_)
  simp only [exL, List.cons_append, List.nil_append, rp_0, rp_1, rp_2, rp_3, rp_4, rp_5, rp_6, rp_7, rp_8, rp_9, rp_10, rp_11, List.append_nil]
  refine hG (fun _ => false) 40 _ _ _ _ (Nat.le_of_ble_eq_true rfl) ?_
  simp only [D_X12_noMachine, vcS, vcC, vcI, gtF, ptF, inS, inV, fv0, fv1, fv2, fv3, fw0, fw1, lg_0, lg_1, lg_2, lg_3, lg_4, lg_5, lg_6, lg_7, lg_8, lg_9, lg_10, lg_11, lg_12, lg_13, lg_14, lsq_0, lsl_0, lsq_1, lsl_1, lsq_2, lsl_2, lsq_3, lsl_3, lsq_4, lsl_4, lsq_5, lsl_5, lsq_6, lsl_6, lsq_7, lsl_7, lsq_8, lsl_8, lsq_9, lsl_9, lsq_10, lsl_10, lsq_11, lsl_11, lsq_12, lsl_12, lsq_13, lsl_13, lsq_14, lsl_14, tk_0, tk_1, tk_2, tk_3, tk_4, tk_5, tk_6, tk_7, tk_8, cs_n, cs_i, cs_l, cs_r, cs_u, nl, rt_s, rt_n, CST1, Nat.reduceAdd, Nat.reduceLeDiff, va_rf, rtOk, Bool.false_eq_true, Bool.true_eq_false, if_false, if_true, ite_true, ite_false, true_and, and_true, eq_self, ne_eq, not_false_eq_true, not_true_eq_false, false_implies, true_implies, and_self, reduceCtorEq, Nat.reduceBEq, Bool.or_false, Bool.false_or, Bool.or_true, Bool.true_or, if1_0, if1_1, if1_01, one_01, zer_01, lg_cmp_ge, lg_cmp_le, lg_cmp_gt, lg_cmp_lt, lg_cmp_eq, Classical.not_not]
  refine ⟨hd, m_in ?_⟩
  simp only [D_X12_noMachine, vcS, vcC, vcI, gtF, ptF, inS, inV, fv0, fv1, fv2, fv3, fw0, fw1, lg_0, lg_1, lg_2, lg_3, lg_4, lg_5, lg_6, lg_7, lg_8, lg_9, lg_10, lg_11, lg_12, lg_13, lg_14, lsq_0, lsl_0, lsq_1, lsl_1, lsq_2, lsl_2, lsq_3, lsl_3, lsq_4, lsl_4, lsq_5, lsl_5, lsq_6, lsl_6, lsq_7, lsl_7, lsq_8, lsl_8, lsq_9, lsl_9, lsq_10, lsl_10, lsq_11, lsl_11, lsq_12, lsl_12, lsq_13, lsl_13, lsq_14, lsl_14, tk_0, tk_1, tk_2, tk_3, tk_4, tk_5, tk_6, tk_7, tk_8, cs_n, cs_i, cs_l, cs_r, cs_u, nl, rt_s, rt_n, CST1, Nat.reduceAdd, Nat.reduceLeDiff, va_rf, rtOk, Bool.false_eq_true, Bool.true_eq_false, if_false, if_true, ite_true, ite_false, true_and, and_true, eq_self, ne_eq, not_false_eq_true, not_true_eq_false, false_implies, true_implies, and_self, reduceCtorEq, Nat.reduceBEq, Bool.or_false, Bool.false_or, Bool.or_true, Bool.true_or, if1_0, if1_1, if1_01, one_01, zer_01, lg_cmp_ge, lg_cmp_le, lg_cmp_gt, lg_cmp_lt, lg_cmp_eq, Classical.not_not, LIT2, toL]
  refine ⟨fun h1 => ?_, fun h1 => ?_⟩ <;> (first | exact hk | (refine Eq.mp (congrArg (fun z => K (some (.int z)) sg) ?_) hk; split <;> first | rfl | (exfalso; ((try simp only [i_le, i_lt, i_eq, l_le, l_lt, l_eq, i_ne, l_ne, toL, l_add, l_sub1, LIT1, LIT2, Int.reduceNeg, ge_iff_le, gt_iff_lt] at *); omega))))
set_option maxHeartbeats 4000000 in
set_option maxRecDepth 100000 in
theorem m_noKeeper {v : Int32} (hd : 1 ≤ d) (hk : K (some (.int (if ¬ (0 ≤ v.toInt ∧ v.toInt ≤ 3) then 1 else 0))) sg) : aCall d 232 [.int v] n mu ro sg K := by
  refine aCall_start (mL := 1) (cc := cX12_noKeeper) (o := 12) (ret := (some .boolean)) 0 (by decide) (by decide +kernel) rfl rfl rfl rfl (Nat.le_of_ble_eq_true rfl) (fun G hC hG => ?_)
  simp only [exL, List.cons_append, List.nil_append, rp_0, rp_1, rp_2, rp_3, rp_4, rp_5, rp_6, rp_7, rp_8, rp_9, rp_10, rp_11, List.append_nil]
  refine hG (fun _ => false) 40 _ _ _ _ (Nat.le_of_ble_eq_true rfl) ?_
  simp only [D_X12_noKeeper, vcS, vcC, vcI, gtF, ptF, inS, inV, fv0, fv1, fv2, fv3, fw0, fw1, lg_0, lg_1, lg_2, lg_3, lg_4, lg_5, lg_6, lg_7, lg_8, lg_9, lg_10, lg_11, lg_12, lg_13, lg_14, lsq_0, lsl_0, lsq_1, lsl_1, lsq_2, lsl_2, lsq_3, lsl_3, lsq_4, lsl_4, lsq_5, lsl_5, lsq_6, lsl_6, lsq_7, lsl_7, lsq_8, lsl_8, lsq_9, lsl_9, lsq_10, lsl_10, lsq_11, lsl_11, lsq_12, lsl_12, lsq_13, lsl_13, lsq_14, lsl_14, tk_0, tk_1, tk_2, tk_3, tk_4, tk_5, tk_6, tk_7, tk_8, cs_n, cs_i, cs_l, cs_r, cs_u, nl, rt_s, rt_n, CST1, Nat.reduceAdd, Nat.reduceLeDiff, va_rf, rtOk, Bool.false_eq_true, Bool.true_eq_false, if_false, if_true, ite_true, ite_false, true_and, and_true, eq_self, ne_eq, not_false_eq_true, not_true_eq_false, false_implies, true_implies, and_self, reduceCtorEq, Nat.reduceBEq, Bool.or_false, Bool.false_or, Bool.or_true, Bool.true_or, if1_0, if1_1, if1_01, one_01, zer_01, lg_cmp_ge, lg_cmp_le, lg_cmp_gt, lg_cmp_lt, lg_cmp_eq, Classical.not_not]
  refine ⟨hd, m_in ?_⟩
  simp only [D_X12_noKeeper, vcS, vcC, vcI, gtF, ptF, inS, inV, fv0, fv1, fv2, fv3, fw0, fw1, lg_0, lg_1, lg_2, lg_3, lg_4, lg_5, lg_6, lg_7, lg_8, lg_9, lg_10, lg_11, lg_12, lg_13, lg_14, lsq_0, lsl_0, lsq_1, lsl_1, lsq_2, lsl_2, lsq_3, lsl_3, lsq_4, lsl_4, lsq_5, lsl_5, lsq_6, lsl_6, lsq_7, lsl_7, lsq_8, lsl_8, lsq_9, lsl_9, lsq_10, lsl_10, lsq_11, lsl_11, lsq_12, lsl_12, lsq_13, lsl_13, lsq_14, lsl_14, tk_0, tk_1, tk_2, tk_3, tk_4, tk_5, tk_6, tk_7, tk_8, cs_n, cs_i, cs_l, cs_r, cs_u, nl, rt_s, rt_n, CST1, Nat.reduceAdd, Nat.reduceLeDiff, va_rf, rtOk, Bool.false_eq_true, Bool.true_eq_false, if_false, if_true, ite_true, ite_false, true_and, and_true, eq_self, ne_eq, not_false_eq_true, not_true_eq_false, false_implies, true_implies, and_self, reduceCtorEq, Nat.reduceBEq, Bool.or_false, Bool.false_or, Bool.or_true, Bool.true_or, if1_0, if1_1, if1_01, one_01, zer_01, lg_cmp_ge, lg_cmp_le, lg_cmp_gt, lg_cmp_lt, lg_cmp_eq, Classical.not_not, LIT2, toL]
  refine ⟨fun h1 => ?_, fun h1 => ?_⟩ <;> (first | exact hk | (refine Eq.mp (congrArg (fun z => K (some (.int z)) sg) ?_) hk; split <;> first | rfl | (exfalso; ((try simp only [i_le, i_lt, i_eq, l_le, l_lt, l_eq, i_ne, l_ne, toL, l_add, l_sub1, LIT1, LIT2, Int.reduceNeg, ge_iff_le, gt_iff_lt] at *); omega))))
set_option maxHeartbeats 4000000 in
set_option maxRecDepth 100000 in
theorem m_noSheet {v : Int32} (hd : 1 ≤ d) (hk : K (some (.int (if ¬ (0 ≤ v.toInt ∧ v.toInt ≤ 3) then 1 else 0))) sg) : aCall d 236 [.int v] n mu ro sg K := by
  refine aCall_start (mL := 1) (cc := cX12_noSheet) (o := 12) (ret := (some .boolean)) 0 (by decide) (by decide +kernel) rfl rfl rfl rfl (Nat.le_of_ble_eq_true rfl) (fun G hC hG => ?_)
  simp only [exL, List.cons_append, List.nil_append, rp_0, rp_1, rp_2, rp_3, rp_4, rp_5, rp_6, rp_7, rp_8, rp_9, rp_10, rp_11, List.append_nil]
  refine hG (fun _ => false) 40 _ _ _ _ (Nat.le_of_ble_eq_true rfl) ?_
  simp only [D_X12_noSheet, vcS, vcC, vcI, gtF, ptF, inS, inV, fv0, fv1, fv2, fv3, fw0, fw1, lg_0, lg_1, lg_2, lg_3, lg_4, lg_5, lg_6, lg_7, lg_8, lg_9, lg_10, lg_11, lg_12, lg_13, lg_14, lsq_0, lsl_0, lsq_1, lsl_1, lsq_2, lsl_2, lsq_3, lsl_3, lsq_4, lsl_4, lsq_5, lsl_5, lsq_6, lsl_6, lsq_7, lsl_7, lsq_8, lsl_8, lsq_9, lsl_9, lsq_10, lsl_10, lsq_11, lsl_11, lsq_12, lsl_12, lsq_13, lsl_13, lsq_14, lsl_14, tk_0, tk_1, tk_2, tk_3, tk_4, tk_5, tk_6, tk_7, tk_8, cs_n, cs_i, cs_l, cs_r, cs_u, nl, rt_s, rt_n, CST1, Nat.reduceAdd, Nat.reduceLeDiff, va_rf, rtOk, Bool.false_eq_true, Bool.true_eq_false, if_false, if_true, ite_true, ite_false, true_and, and_true, eq_self, ne_eq, not_false_eq_true, not_true_eq_false, false_implies, true_implies, and_self, reduceCtorEq, Nat.reduceBEq, Bool.or_false, Bool.false_or, Bool.or_true, Bool.true_or, if1_0, if1_1, if1_01, one_01, zer_01, lg_cmp_ge, lg_cmp_le, lg_cmp_gt, lg_cmp_lt, lg_cmp_eq, Classical.not_not]
  refine ⟨hd, m_in ?_⟩
  simp only [D_X12_noSheet, vcS, vcC, vcI, gtF, ptF, inS, inV, fv0, fv1, fv2, fv3, fw0, fw1, lg_0, lg_1, lg_2, lg_3, lg_4, lg_5, lg_6, lg_7, lg_8, lg_9, lg_10, lg_11, lg_12, lg_13, lg_14, lsq_0, lsl_0, lsq_1, lsl_1, lsq_2, lsl_2, lsq_3, lsl_3, lsq_4, lsl_4, lsq_5, lsl_5, lsq_6, lsl_6, lsq_7, lsl_7, lsq_8, lsl_8, lsq_9, lsl_9, lsq_10, lsl_10, lsq_11, lsl_11, lsq_12, lsl_12, lsq_13, lsl_13, lsq_14, lsl_14, tk_0, tk_1, tk_2, tk_3, tk_4, tk_5, tk_6, tk_7, tk_8, cs_n, cs_i, cs_l, cs_r, cs_u, nl, rt_s, rt_n, CST1, Nat.reduceAdd, Nat.reduceLeDiff, va_rf, rtOk, Bool.false_eq_true, Bool.true_eq_false, if_false, if_true, ite_true, ite_false, true_and, and_true, eq_self, ne_eq, not_false_eq_true, not_true_eq_false, false_implies, true_implies, and_self, reduceCtorEq, Nat.reduceBEq, Bool.or_false, Bool.false_or, Bool.or_true, Bool.true_or, if1_0, if1_1, if1_01, one_01, zer_01, lg_cmp_ge, lg_cmp_le, lg_cmp_gt, lg_cmp_lt, lg_cmp_eq, Classical.not_not, LIT2, toL]
  refine ⟨fun h1 => ?_, fun h1 => ?_⟩ <;> (first | exact hk | (refine Eq.mp (congrArg (fun z => K (some (.int z)) sg) ?_) hk; split <;> first | rfl | (exfalso; ((try simp only [i_le, i_lt, i_eq, l_le, l_lt, l_eq, i_ne, l_ne, toL, l_add, l_sub1, LIT1, LIT2, Int.reduceNeg, ge_iff_le, gt_iff_lt] at *); omega))))
set_option maxHeartbeats 4000000 in
set_option maxRecDepth 100000 in
theorem m_areHours {v : Int32} (hd : 1 ≤ d) (hk : K (some (.int (if 1 ≤ v.toInt ∧ v.toInt ≤ 16383 then 1 else 0))) sg) : aCall d 200 [.int v] n mu ro sg K := by
  refine aCall_start (mL := 1) (cc := cX12_areHours) (o := 12) (ret := (some .boolean)) 0 (by decide) (by decide +kernel) rfl rfl rfl rfl (Nat.le_of_ble_eq_true rfl) (fun G hC hG => ?_)
  simp only [exL, List.cons_append, List.nil_append, rp_0, rp_1, rp_2, rp_3, rp_4, rp_5, rp_6, rp_7, rp_8, rp_9, rp_10, rp_11, List.append_nil]
  refine hG (fun _ => false) 40 _ _ _ _ (Nat.le_of_ble_eq_true rfl) ?_
  simp only [D_X12_areHours, vcS, vcC, vcI, gtF, ptF, inS, inV, fv0, fv1, fv2, fv3, fw0, fw1, lg_0, lg_1, lg_2, lg_3, lg_4, lg_5, lg_6, lg_7, lg_8, lg_9, lg_10, lg_11, lg_12, lg_13, lg_14, lsq_0, lsl_0, lsq_1, lsl_1, lsq_2, lsl_2, lsq_3, lsl_3, lsq_4, lsl_4, lsq_5, lsl_5, lsq_6, lsl_6, lsq_7, lsl_7, lsq_8, lsl_8, lsq_9, lsl_9, lsq_10, lsl_10, lsq_11, lsl_11, lsq_12, lsl_12, lsq_13, lsl_13, lsq_14, lsl_14, tk_0, tk_1, tk_2, tk_3, tk_4, tk_5, tk_6, tk_7, tk_8, cs_n, cs_i, cs_l, cs_r, cs_u, nl, rt_s, rt_n, CST1, Nat.reduceAdd, Nat.reduceLeDiff, va_rf, rtOk, Bool.false_eq_true, Bool.true_eq_false, if_false, if_true, ite_true, ite_false, true_and, and_true, eq_self, ne_eq, not_false_eq_true, not_true_eq_false, false_implies, true_implies, and_self, reduceCtorEq, Nat.reduceBEq, Bool.or_false, Bool.false_or, Bool.or_true, Bool.true_or, if1_0, if1_1, if1_01, one_01, zer_01, lg_cmp_ge, lg_cmp_le, lg_cmp_gt, lg_cmp_lt, lg_cmp_eq, Classical.not_not]
  refine ⟨hd, m_in ?_⟩
  simp only [D_X12_areHours, vcS, vcC, vcI, gtF, ptF, inS, inV, fv0, fv1, fv2, fv3, fw0, fw1, lg_0, lg_1, lg_2, lg_3, lg_4, lg_5, lg_6, lg_7, lg_8, lg_9, lg_10, lg_11, lg_12, lg_13, lg_14, lsq_0, lsl_0, lsq_1, lsl_1, lsq_2, lsl_2, lsq_3, lsl_3, lsq_4, lsl_4, lsq_5, lsl_5, lsq_6, lsl_6, lsq_7, lsl_7, lsq_8, lsl_8, lsq_9, lsl_9, lsq_10, lsl_10, lsq_11, lsl_11, lsq_12, lsl_12, lsq_13, lsl_13, lsq_14, lsl_14, tk_0, tk_1, tk_2, tk_3, tk_4, tk_5, tk_6, tk_7, tk_8, cs_n, cs_i, cs_l, cs_r, cs_u, nl, rt_s, rt_n, CST1, Nat.reduceAdd, Nat.reduceLeDiff, va_rf, rtOk, Bool.false_eq_true, Bool.true_eq_false, if_false, if_true, ite_true, ite_false, true_and, and_true, eq_self, ne_eq, not_false_eq_true, not_true_eq_false, false_implies, true_implies, and_self, reduceCtorEq, Nat.reduceBEq, Bool.or_false, Bool.false_or, Bool.or_true, Bool.true_or, if1_0, if1_1, if1_01, one_01, zer_01, lg_cmp_ge, lg_cmp_le, lg_cmp_gt, lg_cmp_lt, lg_cmp_eq, Classical.not_not, LIT2, toL]
  exact hk
set_option maxHeartbeats 4000000 in
set_option maxRecDepth 100000 in
theorem m_isThing {v : Int32} (hd : 1 ≤ d) (hk : K (some (.int (if 0 ≤ v.toInt ∧ v.toInt ≤ 9999 then 1 else 0))) sg) : aCall d 209 [.int v] n mu ro sg K := by
  refine aCall_start (mL := 1) (cc := cX12_isThing) (o := 12) (ret := (some .boolean)) 0 (by decide) (by decide +kernel) rfl rfl rfl rfl (Nat.le_of_ble_eq_true rfl) (fun G hC hG => ?_)
  simp only [exL, List.cons_append, List.nil_append, rp_0, rp_1, rp_2, rp_3, rp_4, rp_5, rp_6, rp_7, rp_8, rp_9, rp_10, rp_11, List.append_nil]
  refine hG (fun _ => false) 40 _ _ _ _ (Nat.le_of_ble_eq_true rfl) ?_
  simp only [D_X12_isThing, vcS, vcC, vcI, gtF, ptF, inS, inV, fv0, fv1, fv2, fv3, fw0, fw1, lg_0, lg_1, lg_2, lg_3, lg_4, lg_5, lg_6, lg_7, lg_8, lg_9, lg_10, lg_11, lg_12, lg_13, lg_14, lsq_0, lsl_0, lsq_1, lsl_1, lsq_2, lsl_2, lsq_3, lsl_3, lsq_4, lsl_4, lsq_5, lsl_5, lsq_6, lsl_6, lsq_7, lsl_7, lsq_8, lsl_8, lsq_9, lsl_9, lsq_10, lsl_10, lsq_11, lsl_11, lsq_12, lsl_12, lsq_13, lsl_13, lsq_14, lsl_14, tk_0, tk_1, tk_2, tk_3, tk_4, tk_5, tk_6, tk_7, tk_8, cs_n, cs_i, cs_l, cs_r, cs_u, nl, rt_s, rt_n, CST1, Nat.reduceAdd, Nat.reduceLeDiff, va_rf, rtOk, Bool.false_eq_true, Bool.true_eq_false, if_false, if_true, ite_true, ite_false, true_and, and_true, eq_self, ne_eq, not_false_eq_true, not_true_eq_false, false_implies, true_implies, and_self, reduceCtorEq, Nat.reduceBEq, Bool.or_false, Bool.false_or, Bool.or_true, Bool.true_or, if1_0, if1_1, if1_01, one_01, zer_01, lg_cmp_ge, lg_cmp_le, lg_cmp_gt, lg_cmp_lt, lg_cmp_eq, Classical.not_not]
  refine ⟨hd, m_in ?_⟩
  simp only [D_X12_isThing, vcS, vcC, vcI, gtF, ptF, inS, inV, fv0, fv1, fv2, fv3, fw0, fw1, lg_0, lg_1, lg_2, lg_3, lg_4, lg_5, lg_6, lg_7, lg_8, lg_9, lg_10, lg_11, lg_12, lg_13, lg_14, lsq_0, lsl_0, lsq_1, lsl_1, lsq_2, lsl_2, lsq_3, lsl_3, lsq_4, lsl_4, lsq_5, lsl_5, lsq_6, lsl_6, lsq_7, lsl_7, lsq_8, lsl_8, lsq_9, lsl_9, lsq_10, lsl_10, lsq_11, lsl_11, lsq_12, lsl_12, lsq_13, lsl_13, lsq_14, lsl_14, tk_0, tk_1, tk_2, tk_3, tk_4, tk_5, tk_6, tk_7, tk_8, cs_n, cs_i, cs_l, cs_r, cs_u, nl, rt_s, rt_n, CST1, Nat.reduceAdd, Nat.reduceLeDiff, va_rf, rtOk, Bool.false_eq_true, Bool.true_eq_false, if_false, if_true, ite_true, ite_false, true_and, and_true, eq_self, ne_eq, not_false_eq_true, not_true_eq_false, false_implies, true_implies, and_self, reduceCtorEq, Nat.reduceBEq, Bool.or_false, Bool.false_or, Bool.or_true, Bool.true_or, if1_0, if1_1, if1_01, one_01, zer_01, lg_cmp_ge, lg_cmp_le, lg_cmp_gt, lg_cmp_lt, lg_cmp_eq, Classical.not_not, LIT2, toL]
  exact hk
set_option maxHeartbeats 4000000 in
set_option maxRecDepth 100000 in
theorem m_isSign {v : Int32} (hd : 1 ≤ d) (hk : K (some (.int (if 0 ≤ v.toInt ∧ v.toInt ≤ 3 then 1 else 0))) sg) : aCall d 213 [.int v] n mu ro sg K := by
  refine aCall_start (mL := 1) (cc := cX12_isSign) (o := 12) (ret := (some .boolean)) 0 (by decide) (by decide +kernel) rfl rfl rfl rfl (Nat.le_of_ble_eq_true rfl) (fun G hC hG => ?_)
  simp only [exL, List.cons_append, List.nil_append, rp_0, rp_1, rp_2, rp_3, rp_4, rp_5, rp_6, rp_7, rp_8, rp_9, rp_10, rp_11, List.append_nil]
  refine hG (fun _ => false) 40 _ _ _ _ (Nat.le_of_ble_eq_true rfl) ?_
  simp only [D_X12_isSign, vcS, vcC, vcI, gtF, ptF, inS, inV, fv0, fv1, fv2, fv3, fw0, fw1, lg_0, lg_1, lg_2, lg_3, lg_4, lg_5, lg_6, lg_7, lg_8, lg_9, lg_10, lg_11, lg_12, lg_13, lg_14, lsq_0, lsl_0, lsq_1, lsl_1, lsq_2, lsl_2, lsq_3, lsl_3, lsq_4, lsl_4, lsq_5, lsl_5, lsq_6, lsl_6, lsq_7, lsl_7, lsq_8, lsl_8, lsq_9, lsl_9, lsq_10, lsl_10, lsq_11, lsl_11, lsq_12, lsl_12, lsq_13, lsl_13, lsq_14, lsl_14, tk_0, tk_1, tk_2, tk_3, tk_4, tk_5, tk_6, tk_7, tk_8, cs_n, cs_i, cs_l, cs_r, cs_u, nl, rt_s, rt_n, CST1, Nat.reduceAdd, Nat.reduceLeDiff, va_rf, rtOk, Bool.false_eq_true, Bool.true_eq_false, if_false, if_true, ite_true, ite_false, true_and, and_true, eq_self, ne_eq, not_false_eq_true, not_true_eq_false, false_implies, true_implies, and_self, reduceCtorEq, Nat.reduceBEq, Bool.or_false, Bool.false_or, Bool.or_true, Bool.true_or, if1_0, if1_1, if1_01, one_01, zer_01, lg_cmp_ge, lg_cmp_le, lg_cmp_gt, lg_cmp_lt, lg_cmp_eq, Classical.not_not]
  refine ⟨hd, m_in ?_⟩
  simp only [D_X12_isSign, vcS, vcC, vcI, gtF, ptF, inS, inV, fv0, fv1, fv2, fv3, fw0, fw1, lg_0, lg_1, lg_2, lg_3, lg_4, lg_5, lg_6, lg_7, lg_8, lg_9, lg_10, lg_11, lg_12, lg_13, lg_14, lsq_0, lsl_0, lsq_1, lsl_1, lsq_2, lsl_2, lsq_3, lsl_3, lsq_4, lsl_4, lsq_5, lsl_5, lsq_6, lsl_6, lsq_7, lsl_7, lsq_8, lsl_8, lsq_9, lsl_9, lsq_10, lsl_10, lsq_11, lsl_11, lsq_12, lsl_12, lsq_13, lsl_13, lsq_14, lsl_14, tk_0, tk_1, tk_2, tk_3, tk_4, tk_5, tk_6, tk_7, tk_8, cs_n, cs_i, cs_l, cs_r, cs_u, nl, rt_s, rt_n, CST1, Nat.reduceAdd, Nat.reduceLeDiff, va_rf, rtOk, Bool.false_eq_true, Bool.true_eq_false, if_false, if_true, ite_true, ite_false, true_and, and_true, eq_self, ne_eq, not_false_eq_true, not_true_eq_false, false_implies, true_implies, and_self, reduceCtorEq, Nat.reduceBEq, Bool.or_false, Bool.false_or, Bool.or_true, Bool.true_or, if1_0, if1_1, if1_01, one_01, zer_01, lg_cmp_ge, lg_cmp_le, lg_cmp_gt, lg_cmp_lt, lg_cmp_eq, Classical.not_not, LIT2, toL]
  exact hk
set_option maxHeartbeats 4000000 in
set_option maxRecDepth 100000 in
theorem m_areApart {a b : Int32} (hd : 1 ≤ d) (hk : K (some (.int (if (1 ≤ a.toInt ∧ a.toInt ≤ 1023) ∧ (1 ≤ b.toInt ∧ b.toInt ≤ 1023) ∧ a &&& b = 0 then 1 else 0))) sg) : aCall d 228 [.int a, .int b] n mu ro sg K := by
  refine aCall_start (mL := 2) (cc := cX12_areApart) (o := 12) (ret := (some .boolean)) 0 (by decide) (by decide +kernel) rfl rfl rfl rfl (Nat.le_of_ble_eq_true rfl) (fun G hC hG => ?_)
  simp only [exL, List.cons_append, List.nil_append, rp_0, rp_1, rp_2, rp_3, rp_4, rp_5, rp_6, rp_7, rp_8, rp_9, rp_10, rp_11, List.append_nil]
  refine hG (fun _ => false) 40 _ _ _ _ (Nat.le_of_ble_eq_true rfl) ?_
  simp only [D_X12_areApart, vcS, vcC, vcI, gtF, ptF, inS, inV, fv0, fv1, fv2, fv3, fw0, fw1, lg_0, lg_1, lg_2, lg_3, lg_4, lg_5, lg_6, lg_7, lg_8, lg_9, lg_10, lg_11, lg_12, lg_13, lg_14, lsq_0, lsl_0, lsq_1, lsl_1, lsq_2, lsl_2, lsq_3, lsl_3, lsq_4, lsl_4, lsq_5, lsl_5, lsq_6, lsl_6, lsq_7, lsl_7, lsq_8, lsl_8, lsq_9, lsl_9, lsq_10, lsl_10, lsq_11, lsl_11, lsq_12, lsl_12, lsq_13, lsl_13, lsq_14, lsl_14, tk_0, tk_1, tk_2, tk_3, tk_4, tk_5, tk_6, tk_7, tk_8, cs_n, cs_i, cs_l, cs_r, cs_u, nl, rt_s, rt_n, CST1, Nat.reduceAdd, Nat.reduceLeDiff, va_rf, rtOk, Bool.false_eq_true, Bool.true_eq_false, if_false, if_true, ite_true, ite_false, true_and, and_true, eq_self, ne_eq, not_false_eq_true, not_true_eq_false, false_implies, true_implies, and_self, reduceCtorEq, Nat.reduceBEq, Bool.or_false, Bool.false_or, Bool.or_true, Bool.true_or, if1_0, if1_1, if1_01, one_01, zer_01, lg_cmp_ge, lg_cmp_le, lg_cmp_gt, lg_cmp_lt, lg_cmp_eq, Classical.not_not]
  refine ⟨hd, m_in ?_⟩
  simp only [D_X12_areApart, vcS, vcC, vcI, gtF, ptF, inS, inV, fv0, fv1, fv2, fv3, fw0, fw1, lg_0, lg_1, lg_2, lg_3, lg_4, lg_5, lg_6, lg_7, lg_8, lg_9, lg_10, lg_11, lg_12, lg_13, lg_14, lsq_0, lsl_0, lsq_1, lsl_1, lsq_2, lsl_2, lsq_3, lsl_3, lsq_4, lsl_4, lsq_5, lsl_5, lsq_6, lsl_6, lsq_7, lsl_7, lsq_8, lsl_8, lsq_9, lsl_9, lsq_10, lsl_10, lsq_11, lsl_11, lsq_12, lsl_12, lsq_13, lsl_13, lsq_14, lsl_14, tk_0, tk_1, tk_2, tk_3, tk_4, tk_5, tk_6, tk_7, tk_8, cs_n, cs_i, cs_l, cs_r, cs_u, nl, rt_s, rt_n, CST1, Nat.reduceAdd, Nat.reduceLeDiff, va_rf, rtOk, Bool.false_eq_true, Bool.true_eq_false, if_false, if_true, ite_true, ite_false, true_and, and_true, eq_self, ne_eq, not_false_eq_true, not_true_eq_false, false_implies, true_implies, and_self, reduceCtorEq, Nat.reduceBEq, Bool.or_false, Bool.false_or, Bool.or_true, Bool.true_or, if1_0, if1_1, if1_01, one_01, zer_01, lg_cmp_ge, lg_cmp_le, lg_cmp_gt, lg_cmp_lt, lg_cmp_eq, Classical.not_not, LIT2, toL]
  refine ⟨fun h1 => ?_, fun h1 => ⟨hd, m_in ?_⟩⟩
  · rw [if_neg (fun q => h1 q.1)] at hk; exact hk
  · simp only [D_X12_areApart, vcS, vcC, vcI, gtF, ptF, inS, inV, fv0, fv1, fv2, fv3, fw0, fw1, lg_0, lg_1, lg_2, lg_3, lg_4, lg_5, lg_6, lg_7, lg_8, lg_9, lg_10, lg_11, lg_12, lg_13, lg_14, lsq_0, lsl_0, lsq_1, lsl_1, lsq_2, lsl_2, lsq_3, lsl_3, lsq_4, lsl_4, lsq_5, lsl_5, lsq_6, lsl_6, lsq_7, lsl_7, lsq_8, lsl_8, lsq_9, lsl_9, lsq_10, lsl_10, lsq_11, lsl_11, lsq_12, lsl_12, lsq_13, lsl_13, lsq_14, lsl_14, tk_0, tk_1, tk_2, tk_3, tk_4, tk_5, tk_6, tk_7, tk_8, cs_n, cs_i, cs_l, cs_r, cs_u, nl, rt_s, rt_n, CST1, Nat.reduceAdd, Nat.reduceLeDiff, va_rf, rtOk, Bool.false_eq_true, Bool.true_eq_false, if_false, if_true, ite_true, ite_false, true_and, and_true, eq_self, ne_eq, not_false_eq_true, not_true_eq_false, false_implies, true_implies, and_self, reduceCtorEq, Nat.reduceBEq, Bool.or_false, Bool.false_or, Bool.or_true, Bool.true_or, if1_0, if1_1, if1_01, one_01, zer_01, lg_cmp_ge, lg_cmp_le, lg_cmp_gt, lg_cmp_lt, lg_cmp_eq, Classical.not_not, LIT2, toL]
    refine ⟨fun h2 => ?_, fun h2 => ⟨fun h3 => ?_, fun h3 => ?_⟩⟩
    · rw [if_neg (fun q => h2 q.2.1)] at hk; exact hk
    · rw [if_neg (fun q => h3 q.2.2)] at hk; exact hk
    · rw [if_pos ⟨h1, h2, h3⟩] at hk; exact hk
set_option maxHeartbeats 4000000 in
set_option maxRecDepth 100000 in
theorem m_isBeyond {i a : Int32} {w : Int64} (hk : K (some (.int (if i.toInt < 0 ∨ w.toInt < 0 ∨ a.toInt < (i.toInt64 + w).toInt then 1 else 0))) sg) : aCall d 242 [.int i, .long w, .int a] n mu ro sg K := by
  refine aCall_start (mL := 4) (cc := cX12_isBeyond) (o := 12) (ret := (some .boolean)) 0 (by decide) (by decide +kernel) rfl rfl rfl rfl (Nat.le_of_ble_eq_true rfl) (fun G hC hG => ?_)
  simp only [exL, List.cons_append, List.nil_append, rp_0, rp_1, rp_2, rp_3, rp_4, rp_5, rp_6, rp_7, rp_8, rp_9, rp_10, rp_11, List.append_nil]
  refine hG (fun _ => false) 40 _ _ _ _ (Nat.le_of_ble_eq_true rfl) ?_
  simp only [D_X12_isBeyond, vcS, vcC, vcI, gtF, ptF, inS, inV, fv0, fv1, fv2, fv3, fw0, fw1, lg_0, lg_1, lg_2, lg_3, lg_4, lg_5, lg_6, lg_7, lg_8, lg_9, lg_10, lg_11, lg_12, lg_13, lg_14, lsq_0, lsl_0, lsq_1, lsl_1, lsq_2, lsl_2, lsq_3, lsl_3, lsq_4, lsl_4, lsq_5, lsl_5, lsq_6, lsl_6, lsq_7, lsl_7, lsq_8, lsl_8, lsq_9, lsl_9, lsq_10, lsl_10, lsq_11, lsl_11, lsq_12, lsl_12, lsq_13, lsl_13, lsq_14, lsl_14, tk_0, tk_1, tk_2, tk_3, tk_4, tk_5, tk_6, tk_7, tk_8, cs_n, cs_i, cs_l, cs_r, cs_u, nl, rt_s, rt_n, CST1, Nat.reduceAdd, Nat.reduceLeDiff, va_rf, rtOk, Bool.false_eq_true, Bool.true_eq_false, if_false, if_true, ite_true, ite_false, true_and, and_true, eq_self, ne_eq, not_false_eq_true, not_true_eq_false, false_implies, true_implies, and_self, reduceCtorEq, Nat.reduceBEq, Bool.or_false, Bool.false_or, Bool.or_true, Bool.true_or, if1_0, if1_1, if1_01, one_01, zer_01, lg_cmp_ge, lg_cmp_le, lg_cmp_gt, lg_cmp_lt, lg_cmp_eq, Classical.not_not]
  refine ⟨fun h1 => ?_, fun h1 => ⟨fun h2 => ?_, fun h2 => ⟨fun h3 => ?_, fun h3 => ?_⟩⟩⟩ <;> (first | exact hk | (refine Eq.mp (congrArg (fun z => K (some (.int z)) sg) ?_) hk; split <;> first | rfl | (exfalso; ((try simp only [i_le, i_lt, i_eq, l_le, l_lt, l_eq, i_ne, l_ne, toL, l_add, l_sub1, LIT1, LIT2, Int.reduceNeg, ge_iff_le, gt_iff_lt] at *); omega))))
def spA (r : Int32) : Int32 := if r = 0 then 31 else if r = 1 then 57 else 83
def spB (r : Int32) : Int32 := if r = 0 then 7 else if r = 1 then 19 else 5
def spF (x r : Int32) : Int32 := r * 16 + ((x * spA r + spB r) / 97 - (x * spA r + spB r) / 97 / 16 * 16)
set_option maxHeartbeats 4000000 in
set_option maxRecDepth 100000 in
theorem m_placeIn {x r : Int32} (hk : K (some (.int (spF x r))) sg) : aCall d 206 [.int x, .int r] n mu ro sg K := by
  refine aCall_start (mL := 4) (cc := cX12_placeIn) (o := 12) (ret := (some .int)) 2 (by decide) (by decide +kernel) rfl rfl rfl rfl (Nat.le_of_ble_eq_true rfl) (fun G hC hG => ?_)
  simp only [exL, List.cons_append, List.nil_append, rp_0, rp_1, rp_2, rp_3, rp_4, rp_5, rp_6, rp_7, rp_8, rp_9, rp_10, rp_11, List.append_nil]
  refine hG (fun _ => false) 60 _ _ _ _ (Nat.le_of_ble_eq_true rfl) ?_
  simp only [D_X12_placeIn, vcS, vcC, vcI, gtF, ptF, inS, inV, fv0, fv1, fv2, fv3, fw0, fw1, lg_0, lg_1, lg_2, lg_3, lg_4, lg_5, lg_6, lg_7, lg_8, lg_9, lg_10, lg_11, lg_12, lg_13, lg_14, lsq_0, lsl_0, lsq_1, lsl_1, lsq_2, lsl_2, lsq_3, lsl_3, lsq_4, lsl_4, lsq_5, lsl_5, lsq_6, lsl_6, lsq_7, lsl_7, lsq_8, lsl_8, lsq_9, lsl_9, lsq_10, lsl_10, lsq_11, lsl_11, lsq_12, lsl_12, lsq_13, lsl_13, lsq_14, lsl_14, tk_0, tk_1, tk_2, tk_3, tk_4, tk_5, tk_6, tk_7, tk_8, cs_n, cs_i, cs_l, cs_r, cs_u, nl, rt_s, rt_n, CST1, Nat.reduceAdd, Nat.reduceLeDiff, va_rf, rtOk, Bool.false_eq_true, Bool.true_eq_false, if_false, if_true, ite_true, ite_false, true_and, and_true, eq_self, ne_eq, not_false_eq_true, not_true_eq_false, false_implies, true_implies, and_self, reduceCtorEq, Nat.reduceBEq, Bool.or_false, Bool.false_or, Bool.or_true, Bool.true_or, if1_0, if1_1, if1_01, one_01, zer_01, lg_cmp_ge, lg_cmp_le, lg_cmp_gt, lg_cmp_lt, lg_cmp_eq, Classical.not_not]
  have e1 : ¬ (97 : Int32) = 0 := by decide
  have e2 : ¬ (16 : Int32) = 0 := by decide
  rw [Int32.mul_comm 16 r]
  by_cases h0 : r = 0
  · simp only [spF, spA, spB, h0, if_true] at hk
    simp [h0]
    simpa using hk
  · by_cases h1 : r = 1
    · simp only [spF, spA, spB, h1] at hk
      simp [h1]
      simpa using hk
    · simp only [spF, spA, spB, if_neg h0, if_neg h1] at hk
      simp [h0, h1]
      exact hk
theorem zA_eq {r : Int32} (h : 0 ≤ r.toInt ∧ r.toInt ≤ 2) : z_A r.toNatClampNeg = spA r ∧ z_B r.toNatClampNeg = spB r ∧ vp_in r 3 := by
  have hr : r = 0 ∨ r = 1 ∨ r = 2 := by simp only [i_eq, LIT1]; omega
  refine ⟨?_, ?_, vp_in_iff.mpr (by omega)⟩ <;> rcases hr with rfl | rfl | rfl <;> decide
theorem gs_A : Cond.fieldLink RX7 25 RX7 "A" "[I" ∈ tgw := tgw_at (i := 771) (by decide +kernel) rfl
theorem gs_B : Cond.fieldLink RX7 28 RX7 "B" "[I" ∈ tgw := tgw_at (i := 773) (by decide +kernel) rfl
theorem gs_S : Cond.fieldLink RX2 24 RX2 "SETS_BY_SIZE" "[I" ∈ tgw := tgw_at (i := 738) (by decide +kernel) rfl
end H10
end
section
/-! part 11: sheets: helpers of the class and of the reference -/
section H11
variable {d n : Nat} {mu : aM} {ro : aR} {sg : aS} {K : Option Value → aS → Prop}
theorem i_nat {k : Int32} {N : Nat} (h0 : 0 ≤ k.toInt) (h1 : k.toInt < N) : ∃ j : Nat, j < N ∧ k.toNatClampNeg = j ∧ k.toInt = j := ⟨k.toInt.toNat, by omega, rfl, by omega⟩
theorem ro39 {k : Nat} (hS : Sh mu ro) (h : k < 4) : ro 39 k = some (40 + 2 * k) := by
  rw [hS.2 39 k (by decide) (by decide) (by decide) (by omega)]
  match k, h with
  | 0, _ => rfl
  | 1, _ => rfl
  | 2, _ => rfl
  | 3, _ => rfl
theorem shm {k : Nat} (hS : Sh mu ro) (h : k < 4) : mu (40 + 2 * k) = (16, 4) ∧ ro (40 + 2 * k) 0 = some (41 + 2 * k) ∧ mu (41 + 2 * k) = (1, 60) := by
  rw [hS.1 _ (by omega), hS.2 _ 0 (by omega) (by omega) (by omega) (by omega), hS.1 (41 + 2 * k) (by omega)]
  match k, h with
  | 0, _ => exact ⟨rfl, rfl, rfl⟩
  | 1, _ => exact ⟨rfl, rfl, rfl⟩
  | 2, _ => exact ⟨rfl, rfl, rfl⟩
  | 3, _ => exact ⟨rfl, rfl, rfl⟩
set_option maxHeartbeats 4000000 in
set_option maxRecDepth 100000 in
theorem c_sheetAt {k : Int32} (hS : Sh mu ro) (hd : 1 ≤ d) (hk : K (some (if 0 ≤ k.toInt ∧ k.toInt ≤ 3 then .ref (40 + 2 * k.toNatClampNeg) else .null)) sg) : aCall d 91 [.ref 0, .int k] n mu ro sg K := by
  refine aCall_start (mL := 2) (cc := cX11_sheetAt) (o := 11) (ret := (some (.object "WireWatch$Sheet"))) 0 (by decide) (by decide +kernel) rfl rfl rfl rfl (Nat.le_of_ble_eq_true rfl) (fun G hC hG => ?_)
  simp only [exL, List.cons_append, List.nil_append, rp_0, rp_1, rp_2, rp_3, rp_4, rp_5, rp_6, rp_7, rp_8, rp_9, rp_10, rp_11, List.append_nil]
  refine hG (fun _ => false) 40 _ _ _ _ (Nat.le_of_ble_eq_true rfl) ?_
  simp only [D_X11_sheetAt, vcS, vcC, vcI, gtF, ptF, inS, inV, fv0, fv1, fv2, fv3, fw0, fw1, lg_0, lg_1, lg_2, lg_3, lg_4, lg_5, lg_6, lg_7, lg_8, lg_9, lg_10, lg_11, lg_12, lg_13, lg_14, lsq_0, lsl_0, lsq_1, lsl_1, lsq_2, lsl_2, lsq_3, lsl_3, lsq_4, lsl_4, lsq_5, lsl_5, lsq_6, lsl_6, lsq_7, lsl_7, lsq_8, lsl_8, lsq_9, lsl_9, lsq_10, lsl_10, lsq_11, lsl_11, lsq_12, lsl_12, lsq_13, lsl_13, lsq_14, lsl_14, tk_0, tk_1, tk_2, tk_3, tk_4, tk_5, tk_6, tk_7, tk_8, cs_n, cs_i, cs_l, cs_r, cs_u, nl, rt_s, rt_n, CST1, Nat.reduceAdd, Nat.reduceLeDiff, va_rf, rtOk, Bool.false_eq_true, Bool.true_eq_false, if_false, if_true, ite_true, ite_false, true_and, and_true, eq_self, ne_eq, not_false_eq_true, not_true_eq_false, false_implies, true_implies, and_self, reduceCtorEq, Nat.reduceBEq, Bool.or_false, Bool.false_or, Bool.or_true, Bool.true_or, if1_0, if1_1, if1_01, one_01, zer_01, lg_cmp_ge, lg_cmp_le, lg_cmp_gt, lg_cmp_lt, lg_cmp_eq, Classical.not_not]
  refine ⟨hd, c_isIn ?_⟩
  simp only [D_X11_sheetAt, vcS, vcC, vcI, gtF, ptF, inS, inV, fv0, fv1, fv2, fv3, fw0, fw1, lg_0, lg_1, lg_2, lg_3, lg_4, lg_5, lg_6, lg_7, lg_8, lg_9, lg_10, lg_11, lg_12, lg_13, lg_14, lsq_0, lsl_0, lsq_1, lsl_1, lsq_2, lsl_2, lsq_3, lsl_3, lsq_4, lsl_4, lsq_5, lsl_5, lsq_6, lsl_6, lsq_7, lsl_7, lsq_8, lsl_8, lsq_9, lsl_9, lsq_10, lsl_10, lsq_11, lsl_11, lsq_12, lsl_12, lsq_13, lsl_13, lsq_14, lsl_14, tk_0, tk_1, tk_2, tk_3, tk_4, tk_5, tk_6, tk_7, tk_8, cs_n, cs_i, cs_l, cs_r, cs_u, nl, rt_s, rt_n, CST1, Nat.reduceAdd, Nat.reduceLeDiff, va_rf, rtOk, Bool.false_eq_true, Bool.true_eq_false, if_false, if_true, ite_true, ite_false, true_and, and_true, eq_self, ne_eq, not_false_eq_true, not_true_eq_false, false_implies, true_implies, and_self, reduceCtorEq, Nat.reduceBEq, Bool.or_false, Bool.false_or, Bool.or_true, Bool.true_or, if1_0, if1_1, if1_01, one_01, zer_01, lg_cmp_ge, lg_cmp_le, lg_cmp_gt, lg_cmp_lt, lg_cmp_eq, Classical.not_not, LIT1, SHm hS, SHr hS]
  refine ⟨fun h => ?_, fun h => ⟨vp_in_iff.mpr (by omega), ?_⟩⟩
  · rw [if_neg h] at hk; exact hk
  · obtain ⟨j, j1, j2, j3⟩ := i_nat (k := k) (N := 4) (by omega) (by omega)
    rw [if_pos (by omega)] at hk
    rw [j2] at hk ⊢
    rw [ro39 hS j1]
    exact hk
set_option maxHeartbeats 4000000 in
set_option maxRecDepth 100000 in
theorem c_faulted {w : Int32} (hS : Sh mu ro) (hk : K (some (.int (-10 - w))) (s2 sg 0 14 w)) : aCall d 133 [.ref 0, .int w] n mu ro sg K := by
  refine aCall_start (mL := 2) (cc := cX11_faulted) (o := 11) (ret := (some .int)) 0 (by decide) (by decide +kernel) rfl rfl rfl rfl (Nat.le_of_ble_eq_true rfl) (fun G hC hG => ?_)
  simp only [exL, List.cons_append, List.nil_append, rp_0, rp_1, rp_2, rp_3, rp_4, rp_5, rp_6, rp_7, rp_8, rp_9, rp_10, rp_11, List.append_nil]
  refine hG (fun _ => false) 40 _ _ _ _ (Nat.le_of_ble_eq_true rfl) ?_
  simp only [D_X11_faulted, vcS, vcC, vcI, gtF, ptF, inS, inV, fv0, fv1, fv2, fv3, fw0, fw1, lg_0, lg_1, lg_2, lg_3, lg_4, lg_5, lg_6, lg_7, lg_8, lg_9, lg_10, lg_11, lg_12, lg_13, lg_14, lsq_0, lsl_0, lsq_1, lsl_1, lsq_2, lsl_2, lsq_3, lsl_3, lsq_4, lsl_4, lsq_5, lsl_5, lsq_6, lsl_6, lsq_7, lsl_7, lsq_8, lsl_8, lsq_9, lsl_9, lsq_10, lsl_10, lsq_11, lsl_11, lsq_12, lsl_12, lsq_13, lsl_13, lsq_14, lsl_14, tk_0, tk_1, tk_2, tk_3, tk_4, tk_5, tk_6, tk_7, tk_8, cs_n, cs_i, cs_l, cs_r, cs_u, nl, rt_s, rt_n, CST1, Nat.reduceAdd, Nat.reduceLeDiff, va_rf, rtOk, Bool.false_eq_true, Bool.true_eq_false, if_false, if_true, ite_true, ite_false, true_and, and_true, eq_self, ne_eq, not_false_eq_true, not_true_eq_false, false_implies, true_implies, and_self, reduceCtorEq, Nat.reduceBEq, Bool.or_false, Bool.false_or, Bool.or_true, Bool.true_or, if1_0, if1_1, if1_01, one_01, zer_01, lg_cmp_ge, lg_cmp_le, lg_cmp_gt, lg_cmp_lt, lg_cmp_eq, Classical.not_not, SHm hS, SHr hS]
  exact hk
set_option maxHeartbeats 4000000 in
set_option maxRecDepth 100000 in
theorem c_lostBy {w : Int32} (hS : Sh mu ro) (hk : K (some (.long (-9223372036854775808))) (s2 sg 0 14 w)) : aCall d 134 [.ref 0, .int w] n mu ro sg K := by
  refine aCall_start (mL := 2) (cc := cX11_lostBy) (o := 11) (ret := (some .long)) 0 (by decide) (by decide +kernel) rfl rfl rfl rfl (Nat.le_of_ble_eq_true rfl) (fun G hC hG => ?_)
  simp only [exL, List.cons_append, List.nil_append, rp_0, rp_1, rp_2, rp_3, rp_4, rp_5, rp_6, rp_7, rp_8, rp_9, rp_10, rp_11, List.append_nil]
  refine hG (fun _ => false) 40 _ _ _ _ (Nat.le_of_ble_eq_true rfl) ?_
  simp only [D_X11_lostBy, vcS, vcC, vcI, gtF, ptF, inS, inV, fv0, fv1, fv2, fv3, fw0, fw1, lg_0, lg_1, lg_2, lg_3, lg_4, lg_5, lg_6, lg_7, lg_8, lg_9, lg_10, lg_11, lg_12, lg_13, lg_14, lsq_0, lsl_0, lsq_1, lsl_1, lsq_2, lsl_2, lsq_3, lsl_3, lsq_4, lsl_4, lsq_5, lsl_5, lsq_6, lsl_6, lsq_7, lsl_7, lsq_8, lsl_8, lsq_9, lsl_9, lsq_10, lsl_10, lsq_11, lsl_11, lsq_12, lsl_12, lsq_13, lsl_13, lsq_14, lsl_14, tk_0, tk_1, tk_2, tk_3, tk_4, tk_5, tk_6, tk_7, tk_8, cs_n, cs_i, cs_l, cs_r, cs_u, nl, rt_s, rt_n, CST1, Nat.reduceAdd, Nat.reduceLeDiff, va_rf, rtOk, Bool.false_eq_true, Bool.true_eq_false, if_false, if_true, ite_true, ite_false, true_and, and_true, eq_self, ne_eq, not_false_eq_true, not_true_eq_false, false_implies, true_implies, and_self, reduceCtorEq, Nat.reduceBEq, Bool.or_false, Bool.false_or, Bool.or_true, Bool.true_or, if1_0, if1_1, if1_01, one_01, zer_01, lg_cmp_ge, lg_cmp_le, lg_cmp_gt, lg_cmp_lt, lg_cmp_eq, Classical.not_not, SHm hS, SHr hS]
  exact hk
set_option maxHeartbeats 4000000 in
set_option maxRecDepth 100000 in
theorem c_isOfOther {a : Nat} {w : Int32} (h1 : mu a = (16, 4)) (hk : K (some (.int (if ¬ sg a 1 = 0 ∧ ¬ sg a 2 = w then 1 else 0))) sg) : aCall d 46 [.ref a, .int w] n mu ro sg K := by
  refine aCall_start (mL := 2) (cc := cX6_isOfOther) (o := 6) (ret := (some .boolean)) 0 (by decide) (by decide +kernel) rfl rfl rfl rfl (Nat.le_of_ble_eq_true rfl) (fun G hC hG => ?_)
  simp only [exL, List.cons_append, List.nil_append, rp_0, rp_1, rp_2, rp_3, rp_4, rp_5, rp_6, rp_7, rp_8, rp_9, rp_10, rp_11, List.append_nil]
  refine hG (fun _ => false) 40 _ _ _ _ (Nat.le_of_ble_eq_true rfl) ?_
  simp only [D_X6_isOfOther, vcS, vcC, vcI, gtF, ptF, inS, inV, fv0, fv1, fv2, fv3, fw0, fw1, lg_0, lg_1, lg_2, lg_3, lg_4, lg_5, lg_6, lg_7, lg_8, lg_9, lg_10, lg_11, lg_12, lg_13, lg_14, lsq_0, lsl_0, lsq_1, lsl_1, lsq_2, lsl_2, lsq_3, lsl_3, lsq_4, lsl_4, lsq_5, lsl_5, lsq_6, lsl_6, lsq_7, lsl_7, lsq_8, lsl_8, lsq_9, lsl_9, lsq_10, lsl_10, lsq_11, lsl_11, lsq_12, lsl_12, lsq_13, lsl_13, lsq_14, lsl_14, tk_0, tk_1, tk_2, tk_3, tk_4, tk_5, tk_6, tk_7, tk_8, cs_n, cs_i, cs_l, cs_r, cs_u, nl, rt_s, rt_n, CST1, Nat.reduceAdd, Nat.reduceLeDiff, va_rf, rtOk, Bool.false_eq_true, Bool.true_eq_false, if_false, if_true, ite_true, ite_false, true_and, and_true, eq_self, ne_eq, not_false_eq_true, not_true_eq_false, false_implies, true_implies, and_self, reduceCtorEq, Nat.reduceBEq, Bool.or_false, Bool.false_or, Bool.or_true, Bool.true_or, if1_0, if1_1, if1_01, one_01, zer_01, lg_cmp_ge, lg_cmp_le, lg_cmp_gt, lg_cmp_lt, lg_cmp_eq, Classical.not_not, h1]
  repeat' (first | (refine And.intro ?_ ?_) | (intro _))
  all_goals (first | exact hk | (refine Eq.mp (congrArg (fun z => K (some (.int z)) sg) ?_) hk; split <;> first | rfl | (exfalso; ((try simp only [i_le, i_lt, i_eq, l_le, l_lt, l_eq, i_ne, l_ne, toL, l_add, l_sub1, LIT1, LIT2, Int.reduceNeg, ge_iff_le, gt_iff_lt] at *); omega))))
set_option maxHeartbeats 4000000 in
set_option maxRecDepth 100000 in
theorem c_spans {a : Nat} {i w : Int32} (h1 : mu a = (16, 4)) (hk : K (some (.int (if 0 ≤ i.toInt ∧ i.toInt ≤ (sg a 3).toInt ∧ 0 ≤ w.toInt ∧ w.toInt ≤ (sg a 3 - i).toInt then 1 else 0))) sg) : aCall d 47 [.ref a, .int i, .int w] n mu ro sg K := by
  refine aCall_start (mL := 3) (cc := cX6_spans) (o := 6) (ret := (some .boolean)) 0 (by decide) (by decide +kernel) rfl rfl rfl rfl (Nat.le_of_ble_eq_true rfl) (fun G hC hG => ?_)
  simp only [exL, List.cons_append, List.nil_append, rp_0, rp_1, rp_2, rp_3, rp_4, rp_5, rp_6, rp_7, rp_8, rp_9, rp_10, rp_11, List.append_nil]
  refine hG (fun _ => false) 40 _ _ _ _ (Nat.le_of_ble_eq_true rfl) ?_
  simp only [D_X6_spans, vcS, vcC, vcI, gtF, ptF, inS, inV, fv0, fv1, fv2, fv3, fw0, fw1, lg_0, lg_1, lg_2, lg_3, lg_4, lg_5, lg_6, lg_7, lg_8, lg_9, lg_10, lg_11, lg_12, lg_13, lg_14, lsq_0, lsl_0, lsq_1, lsl_1, lsq_2, lsl_2, lsq_3, lsl_3, lsq_4, lsl_4, lsq_5, lsl_5, lsq_6, lsl_6, lsq_7, lsl_7, lsq_8, lsl_8, lsq_9, lsl_9, lsq_10, lsl_10, lsq_11, lsl_11, lsq_12, lsl_12, lsq_13, lsl_13, lsq_14, lsl_14, tk_0, tk_1, tk_2, tk_3, tk_4, tk_5, tk_6, tk_7, tk_8, cs_n, cs_i, cs_l, cs_r, cs_u, nl, rt_s, rt_n, CST1, Nat.reduceAdd, Nat.reduceLeDiff, va_rf, rtOk, Bool.false_eq_true, Bool.true_eq_false, if_false, if_true, ite_true, ite_false, true_and, and_true, eq_self, ne_eq, not_false_eq_true, not_true_eq_false, false_implies, true_implies, and_self, reduceCtorEq, Nat.reduceBEq, Bool.or_false, Bool.false_or, Bool.or_true, Bool.true_or, if1_0, if1_1, if1_01, one_01, zer_01, lg_cmp_ge, lg_cmp_le, lg_cmp_gt, lg_cmp_lt, lg_cmp_eq, Classical.not_not, h1]
  repeat' (first | (refine And.intro ?_ ?_) | (intro _))
  all_goals (first | exact hk | (refine Eq.mp (congrArg (fun z => K (some (.int z)) sg) ?_) hk; split <;> first | rfl | (exfalso; ((try simp only [i_le, i_lt, i_eq, l_le, l_lt, l_eq, i_ne, l_ne, toL, l_add, l_sub1, LIT1, LIT2, Int.reduceNeg, ge_iff_le, gt_iff_lt] at *); omega))))
set_option maxHeartbeats 4000000 in
set_option maxRecDepth 100000 in
theorem c_cut {a : Nat} {v : Int32} (h1 : mu a = (16, 4)) (hk : K (some (.int (if sg a 2 = 0 then v.toInt8.toInt32 else if sg a 2 = 1 then v.toInt16.toInt32 else v))) sg) : aCall d 49 [.ref a, .int v] n mu ro sg K := by
  refine aCall_start (mL := 2) (cc := cX6_cut) (o := 6) (ret := (some .int)) 0 (by decide) (by decide +kernel) rfl rfl rfl rfl (Nat.le_of_ble_eq_true rfl) (fun G hC hG => ?_)
  simp only [exL, List.cons_append, List.nil_append, rp_0, rp_1, rp_2, rp_3, rp_4, rp_5, rp_6, rp_7, rp_8, rp_9, rp_10, rp_11, List.append_nil]
  refine hG (fun _ => false) 40 _ _ _ _ (Nat.le_of_ble_eq_true rfl) ?_
  simp only [D_X6_cut, vcS, vcC, vcI, gtF, ptF, inS, inV, fv0, fv1, fv2, fv3, fw0, fw1, lg_0, lg_1, lg_2, lg_3, lg_4, lg_5, lg_6, lg_7, lg_8, lg_9, lg_10, lg_11, lg_12, lg_13, lg_14, lsq_0, lsl_0, lsq_1, lsl_1, lsq_2, lsl_2, lsq_3, lsl_3, lsq_4, lsl_4, lsq_5, lsl_5, lsq_6, lsl_6, lsq_7, lsl_7, lsq_8, lsl_8, lsq_9, lsl_9, lsq_10, lsl_10, lsq_11, lsl_11, lsq_12, lsl_12, lsq_13, lsl_13, lsq_14, lsl_14, tk_0, tk_1, tk_2, tk_3, tk_4, tk_5, tk_6, tk_7, tk_8, cs_n, cs_i, cs_l, cs_r, cs_u, nl, rt_s, rt_n, CST1, Nat.reduceAdd, Nat.reduceLeDiff, va_rf, rtOk, Bool.false_eq_true, Bool.true_eq_false, if_false, if_true, ite_true, ite_false, true_and, and_true, eq_self, ne_eq, not_false_eq_true, not_true_eq_false, false_implies, true_implies, and_self, reduceCtorEq, Nat.reduceBEq, Bool.or_false, Bool.false_or, Bool.or_true, Bool.true_or, if1_0, if1_1, if1_01, one_01, zer_01, lg_cmp_ge, lg_cmp_le, lg_cmp_gt, lg_cmp_lt, lg_cmp_eq, Classical.not_not, h1]
  refine ⟨fun q1 => ⟨fun q2 => ?_, fun q2 => ?_⟩, fun q1 => ?_⟩
  · rw [if_neg q1, if_neg q2] at hk; exact hk
  · rw [if_neg q1, if_pos q2] at hk; exact hk
  · rw [if_pos q1] at hk; exact hk
/-- Arrays.fill -/
def flS (sg : aS) (a i : Nat) (v : Int32) : aS := va_up sg a (fun j => if j < i then v else sg a j)
theorem flS_0 {sg : aS} {a : Nat} {v : Int32} : flS sg a 0 v = sg := by
  funext b j
  by_cases h : b = a <;> simp [flS, va_up, h]
theorem flS_s {sg : aS} {a i : Nat} {v : Int32} : s2 (flS sg a i v) a i v = flS sg a (i + 1) v := by
  funext b j
  by_cases h : b = a
  · subst h
    by_cases hj : j = i
    · subst hj; simp [flS, s2, va_up, upd]
    · have : (j < i + 1) ↔ j < i := by omega
      simp [flS, s2, va_up, upd, hj, this]
  · simp [flS, s2, va_up, h]
set_option maxHeartbeats 4000000 in
set_option maxRecDepth 100000 in
theorem c_fill {a N : Nat} {v : Int32} (h1 : mu a = (1, N)) (hN : N < 2147483648) (hk : K none (flS sg a N v)) : aCall d 254 [.ref a, .int v] n mu ro sg K := by
  refine aCall_start (mL := 4) (cc := cJ7_fill_53178) (o := 15) (ret := none) 2 (by decide) (by decide +kernel) rfl rfl rfl rfl (Nat.le_of_ble_eq_true rfl) (fun G hC hG => ?_)
  simp only [exL, List.cons_append, List.nil_append, rp_0, rp_1, rp_2, rp_3, rp_4, rp_5, rp_6, rp_7, rp_8, rp_9, rp_10, rp_11, List.append_nil]
  have loop : ∀ (m i : Nat), i + m = N → AW G 4 n 0 0 mu ro (flS sg a i v) 5 [.ref a, .int v, .int (nI i), .int (nI N)] [] := by
    intro m
    induction m with
    | zero =>
      intro i hi
      have hi' : i = N := by omega
      subst hi'
      refine hG (fun q => q == 5) 40 _ _ _ _ (Nat.le_of_ble_eq_true rfl) ?_
      simp only [D_J7_fill_53178, vcS, vcC, vcI, gtF, ptF, inS, inV, fv0, fv1, fv2, fv3, fw0, fw1, lg_0, lg_1, lg_2, lg_3, lg_4, lg_5, lg_6, lg_7, lg_8, lg_9, lg_10, lg_11, lg_12, lg_13, lg_14, lsq_0, lsl_0, lsq_1, lsl_1, lsq_2, lsl_2, lsq_3, lsl_3, lsq_4, lsl_4, lsq_5, lsl_5, lsq_6, lsl_6, lsq_7, lsl_7, lsq_8, lsl_8, lsq_9, lsl_9, lsq_10, lsl_10, lsq_11, lsl_11, lsq_12, lsl_12, lsq_13, lsl_13, lsq_14, lsl_14, tk_0, tk_1, tk_2, tk_3, tk_4, tk_5, tk_6, tk_7, tk_8, cs_n, cs_i, cs_l, cs_r, cs_u, nl, rt_s, rt_n, CST1, Nat.reduceAdd, Nat.reduceLeDiff, va_rf, rtOk, Bool.false_eq_true, Bool.true_eq_false, if_false, if_true, ite_true, ite_false, true_and, and_true, eq_self, ne_eq, not_false_eq_true, not_true_eq_false, false_implies, true_implies, and_self, reduceCtorEq, Nat.reduceBEq, Bool.or_false, Bool.false_or, Bool.or_true, Bool.true_or, if1_0, if1_1, if1_01, one_01, zer_01, lg_cmp_ge, lg_cmp_le, lg_cmp_gt, lg_cmp_lt, lg_cmp_eq, Classical.not_not, h1]
      exact ⟨fun _ => hk, fun h => absurd (nI_le (Nat.le_refl i) hN) h⟩
    | succ m ih =>
      intro i hi
      refine hG (fun q => q == 5) 40 _ _ _ _ (Nat.le_of_ble_eq_true rfl) ?_
      simp only [D_J7_fill_53178, vcS, vcC, vcI, gtF, ptF, inS, inV, fv0, fv1, fv2, fv3, fw0, fw1, lg_0, lg_1, lg_2, lg_3, lg_4, lg_5, lg_6, lg_7, lg_8, lg_9, lg_10, lg_11, lg_12, lg_13, lg_14, lsq_0, lsl_0, lsq_1, lsl_1, lsq_2, lsl_2, lsq_3, lsl_3, lsq_4, lsl_4, lsq_5, lsl_5, lsq_6, lsl_6, lsq_7, lsl_7, lsq_8, lsl_8, lsq_9, lsl_9, lsq_10, lsl_10, lsq_11, lsl_11, lsq_12, lsl_12, lsq_13, lsl_13, lsq_14, lsl_14, tk_0, tk_1, tk_2, tk_3, tk_4, tk_5, tk_6, tk_7, tk_8, cs_n, cs_i, cs_l, cs_r, cs_u, nl, rt_s, rt_n, CST1, Nat.reduceAdd, Nat.reduceLeDiff, va_rf, rtOk, Bool.false_eq_true, Bool.true_eq_false, if_false, if_true, ite_true, ite_false, true_and, and_true, eq_self, ne_eq, not_false_eq_true, not_true_eq_false, false_implies, true_implies, and_self, reduceCtorEq, Nat.reduceBEq, Bool.or_false, Bool.false_or, Bool.or_true, Bool.true_or, if1_0, if1_1, if1_01, one_01, zer_01, lg_cmp_ge, lg_cmp_le, lg_cmp_gt, lg_cmp_lt, lg_cmp_eq, Classical.not_not, h1]
      refine ⟨fun h => absurd h (nI_ge (by omega) hN), fun h => ⟨vp_in_nI (by omega) hN, ?_⟩⟩
      rw [nI_clamp (by omega), nI_1, flS_s]
      exact ih (i + 1) (by omega)
  refine hG (fun q => q == 5) 40 _ _ _ _ (Nat.le_of_ble_eq_true rfl) ?_
  simp only [D_J7_fill_53178, vcS, vcC, vcI, gtF, ptF, inS, inV, fv0, fv1, fv2, fv3, fw0, fw1, lg_0, lg_1, lg_2, lg_3, lg_4, lg_5, lg_6, lg_7, lg_8, lg_9, lg_10, lg_11, lg_12, lg_13, lg_14, lsq_0, lsl_0, lsq_1, lsl_1, lsq_2, lsl_2, lsq_3, lsl_3, lsq_4, lsl_4, lsq_5, lsl_5, lsq_6, lsl_6, lsq_7, lsl_7, lsq_8, lsl_8, lsq_9, lsl_9, lsq_10, lsl_10, lsq_11, lsl_11, lsq_12, lsl_12, lsq_13, lsl_13, lsq_14, lsl_14, tk_0, tk_1, tk_2, tk_3, tk_4, tk_5, tk_6, tk_7, tk_8, cs_n, cs_i, cs_l, cs_r, cs_u, nl, rt_s, rt_n, CST1, Nat.reduceAdd, Nat.reduceLeDiff, va_rf, rtOk, Bool.false_eq_true, Bool.true_eq_false, if_false, if_true, ite_true, ite_false, true_and, and_true, eq_self, ne_eq, not_false_eq_true, not_true_eq_false, false_implies, true_implies, and_self, reduceCtorEq, Nat.reduceBEq, Bool.or_false, Bool.false_or, Bool.or_true, Bool.true_or, if1_0, if1_1, if1_01, one_01, zer_01, lg_cmp_ge, lg_cmp_le, lg_cmp_gt, lg_cmp_lt, lg_cmp_eq, Classical.not_not, h1]
  have := loop N 0 (by omega)
  rw [flS_0, nI_0] at this
  exact this
set_option maxHeartbeats 4000000 in
set_option maxRecDepth 100000 in
theorem c_begin {a b : Nat} {l w : Int32} (hd : 1 ≤ d) (h1 : mu a = (16, 4)) (h2 : ro a 0 = some b) (h3 : mu b = (1, 60)) (hk : K none (flS (s2 (s2 (s2 sg a 1 1) a 2 l) a 3 w) b 60 0)) : aCall d 45 [.ref a, .int l, .int w] n mu ro sg K := by
  refine aCall_start (mL := 3) (cc := cX6_begin) (o := 6) (ret := none) 0 (by decide) (by decide +kernel) rfl rfl rfl rfl (Nat.le_of_ble_eq_true rfl) (fun G hC hG => ?_)
  simp only [exL, List.cons_append, List.nil_append, rp_0, rp_1, rp_2, rp_3, rp_4, rp_5, rp_6, rp_7, rp_8, rp_9, rp_10, rp_11, List.append_nil]
  refine hG (fun _ => false) 40 _ _ _ _ (Nat.le_of_ble_eq_true rfl) ?_
  simp only [D_X6_begin, vcS, vcC, vcI, gtF, ptF, inS, inV, fv0, fv1, fv2, fv3, fw0, fw1, lg_0, lg_1, lg_2, lg_3, lg_4, lg_5, lg_6, lg_7, lg_8, lg_9, lg_10, lg_11, lg_12, lg_13, lg_14, lsq_0, lsl_0, lsq_1, lsl_1, lsq_2, lsl_2, lsq_3, lsl_3, lsq_4, lsl_4, lsq_5, lsl_5, lsq_6, lsl_6, lsq_7, lsl_7, lsq_8, lsl_8, lsq_9, lsl_9, lsq_10, lsl_10, lsq_11, lsl_11, lsq_12, lsl_12, lsq_13, lsl_13, lsq_14, lsl_14, tk_0, tk_1, tk_2, tk_3, tk_4, tk_5, tk_6, tk_7, tk_8, cs_n, cs_i, cs_l, cs_r, cs_u, nl, rt_s, rt_n, CST1, Nat.reduceAdd, Nat.reduceLeDiff, va_rf, rtOk, Bool.false_eq_true, Bool.true_eq_false, if_false, if_true, ite_true, ite_false, true_and, and_true, eq_self, ne_eq, not_false_eq_true, not_true_eq_false, false_implies, true_implies, and_self, reduceCtorEq, Nat.reduceBEq, Bool.or_false, Bool.false_or, Bool.or_true, Bool.true_or, if1_0, if1_1, if1_01, one_01, zer_01, lg_cmp_ge, lg_cmp_le, lg_cmp_gt, lg_cmp_lt, lg_cmp_eq, Classical.not_not, h1, h2]
  refine ⟨hd, c_fill h3 (by decide) ?_⟩
  simp only [D_X6_begin, vcS, vcC, vcI, gtF, ptF, inS, inV, fv0, fv1, fv2, fv3, fw0, fw1, lg_0, lg_1, lg_2, lg_3, lg_4, lg_5, lg_6, lg_7, lg_8, lg_9, lg_10, lg_11, lg_12, lg_13, lg_14, lsq_0, lsl_0, lsq_1, lsl_1, lsq_2, lsl_2, lsq_3, lsl_3, lsq_4, lsl_4, lsq_5, lsl_5, lsq_6, lsl_6, lsq_7, lsl_7, lsq_8, lsl_8, lsq_9, lsl_9, lsq_10, lsl_10, lsq_11, lsl_11, lsq_12, lsl_12, lsq_13, lsl_13, lsq_14, lsl_14, tk_0, tk_1, tk_2, tk_3, tk_4, tk_5, tk_6, tk_7, tk_8, cs_n, cs_i, cs_l, cs_r, cs_u, nl, rt_s, rt_n, CST1, Nat.reduceAdd, Nat.reduceLeDiff, va_rf, rtOk, Bool.false_eq_true, Bool.true_eq_false, if_false, if_true, ite_true, ite_false, true_and, and_true, eq_self, ne_eq, not_false_eq_true, not_true_eq_false, false_implies, true_implies, and_self, reduceCtorEq, Nat.reduceBEq, Bool.or_false, Bool.false_or, Bool.or_true, Bool.true_or, if1_0, if1_1, if1_01, one_01, zer_01, lg_cmp_ge, lg_cmp_le, lg_cmp_gt, lg_cmp_lt, lg_cmp_eq, Classical.not_not, h1, h2]
  exact hk
end H11
end
section
/-! part 12: taking cells of a sheet, on both sides -/
section H12
variable {d n : Nat} {mu : aM} {ro : aR} {sg : aS} {K : Option Value → aS → Prop}
/-- which fault stands against taking: 0 none -/
def tkG (has : Prop) [Decidable has] (ln sz l i w : Int32) : Int32 := if has ∧ ¬ ln = l then 2 else if ¬ has then 1 else if w.toInt < 0 then 4 else if 0 ≤ i.toInt ∧ i.toInt + w.toInt ≤ sz.toInt then 0 else 3
set_option maxHeartbeats 4000000 in
set_option maxRecDepth 100000 in
theorem c_against {a : Nat} {l i w : Int32} (hS : Sh mu ro) (hd : 2 ≤ d) (h1 : mu a = (16, 4)) (hsz : ¬ sg a 1 = 0 → 0 ≤ (sg a 3).toInt ∧ (sg a 3).toInt ≤ 60)
    (hk1 : ¬ (0 ≤ l.toInt ∧ l.toInt ≤ 2) → K (some (.int (-2))) sg) (hk2 : 0 ≤ l.toInt ∧ l.toInt ≤ 2 → tkG (¬ sg a 1 = 0) (sg a 2) (sg a 3) l i w = 0 → K (some (.int 0)) sg)
    (hk3 : ∀ f : Int32, 0 ≤ l.toInt ∧ l.toInt ≤ 2 → tkG (¬ sg a 1 = 0) (sg a 2) (sg a 3) l i w = f → 1 ≤ f.toInt → f.toInt ≤ 4 → K (some (.int (-10 - f))) (s2 sg 0 14 f)) : aCall d 135 [.ref 0, .ref a, .int l, .int i, .int w] n mu ro sg K := by
  refine aCall_start (mL := 5) (cc := cX11_againstTaking) (o := 11) (ret := (some .int)) 0 (by decide) (by decide +kernel) rfl rfl rfl rfl (Nat.le_of_ble_eq_true rfl) (fun G hC hG => ?_)
  simp only [exL, List.cons_append, List.nil_append, rp_0, rp_1, rp_2, rp_3, rp_4, rp_5, rp_6, rp_7, rp_8, rp_9, rp_10, rp_11, List.append_nil]
  refine hG (fun _ => false) 60 _ _ _ _ (Nat.le_of_ble_eq_true rfl) ?_
  simp only [D_X11_againstTaking, N_X11_againstTaking, vcS, vcC, vcI, gtF, ptF, inS, inV, fv0, fv1, fv2, fv3, fw0, fw1, lg_0, lg_1, lg_2, lg_3, lg_4, lg_5, lg_6, lg_7, lg_8, lg_9, lg_10, lg_11, lg_12, lg_13, lg_14, lsq_0, lsl_0, lsq_1, lsl_1, lsq_2, lsl_2, lsq_3, lsl_3, lsq_4, lsl_4, lsq_5, lsl_5, lsq_6, lsl_6, lsq_7, lsl_7, lsq_8, lsl_8, lsq_9, lsl_9, lsq_10, lsl_10, lsq_11, lsl_11, lsq_12, lsl_12, lsq_13, lsl_13, lsq_14, lsl_14, tk_0, tk_1, tk_2, tk_3, tk_4, tk_5, tk_6, tk_7, tk_8, cs_n, cs_i, cs_l, cs_r, cs_u, nl, rt_s, rt_n, CST1, Nat.reduceAdd, Nat.reduceLeDiff, va_rf, rtOk, Bool.false_eq_true, Bool.true_eq_false, if_false, if_true, ite_true, ite_false, true_and, and_true, eq_self, ne_eq, not_false_eq_true, not_true_eq_false, false_implies, true_implies, and_self, reduceCtorEq, Nat.reduceBEq, Bool.or_false, Bool.false_or, Bool.or_true, Bool.true_or, if1_0, if1_1, if1_01, one_01, zer_01, lg_cmp_ge, lg_cmp_le, lg_cmp_gt, lg_cmp_lt, lg_cmp_eq, Classical.not_not]
  refine ⟨by omega, c_isLane (by omega) ?_⟩
  simp only [D_X11_againstTaking, N_X11_againstTaking, vcS, vcC, vcI, gtF, ptF, inS, inV, fv0, fv1, fv2, fv3, fw0, fw1, lg_0, lg_1, lg_2, lg_3, lg_4, lg_5, lg_6, lg_7, lg_8, lg_9, lg_10, lg_11, lg_12, lg_13, lg_14, lsq_0, lsl_0, lsq_1, lsl_1, lsq_2, lsl_2, lsq_3, lsl_3, lsq_4, lsl_4, lsq_5, lsl_5, lsq_6, lsl_6, lsq_7, lsl_7, lsq_8, lsl_8, lsq_9, lsl_9, lsq_10, lsl_10, lsq_11, lsl_11, lsq_12, lsl_12, lsq_13, lsl_13, lsq_14, lsl_14, tk_0, tk_1, tk_2, tk_3, tk_4, tk_5, tk_6, tk_7, tk_8, cs_n, cs_i, cs_l, cs_r, cs_u, nl, rt_s, rt_n, CST1, Nat.reduceAdd, Nat.reduceLeDiff, va_rf, rtOk, Bool.false_eq_true, Bool.true_eq_false, if_false, if_true, ite_true, ite_false, true_and, and_true, eq_self, ne_eq, not_false_eq_true, not_true_eq_false, false_implies, true_implies, and_self, reduceCtorEq, Nat.reduceBEq, Bool.or_false, Bool.false_or, Bool.or_true, Bool.true_or, if1_0, if1_1, if1_01, one_01, zer_01, lg_cmp_ge, lg_cmp_le, lg_cmp_gt, lg_cmp_lt, lg_cmp_eq, Classical.not_not, SHm hS, SHr hS, h1]
  refine ⟨fun q1 => ⟨by omega, c_isOfOther h1 ?_⟩, fun q1 => hk1 q1⟩
  simp only [D_X11_againstTaking, N_X11_againstTaking, vcS, vcC, vcI, gtF, ptF, inS, inV, fv0, fv1, fv2, fv3, fw0, fw1, lg_0, lg_1, lg_2, lg_3, lg_4, lg_5, lg_6, lg_7, lg_8, lg_9, lg_10, lg_11, lg_12, lg_13, lg_14, lsq_0, lsl_0, lsq_1, lsl_1, lsq_2, lsl_2, lsq_3, lsl_3, lsq_4, lsl_4, lsq_5, lsl_5, lsq_6, lsl_6, lsq_7, lsl_7, lsq_8, lsl_8, lsq_9, lsl_9, lsq_10, lsl_10, lsq_11, lsl_11, lsq_12, lsl_12, lsq_13, lsl_13, lsq_14, lsl_14, tk_0, tk_1, tk_2, tk_3, tk_4, tk_5, tk_6, tk_7, tk_8, cs_n, cs_i, cs_l, cs_r, cs_u, nl, rt_s, rt_n, CST1, Nat.reduceAdd, Nat.reduceLeDiff, va_rf, rtOk, Bool.false_eq_true, Bool.true_eq_false, if_false, if_true, ite_true, ite_false, true_and, and_true, eq_self, ne_eq, not_false_eq_true, not_true_eq_false, false_implies, true_implies, and_self, reduceCtorEq, Nat.reduceBEq, Bool.or_false, Bool.false_or, Bool.or_true, Bool.true_or, if1_0, if1_1, if1_01, one_01, zer_01, lg_cmp_ge, lg_cmp_le, lg_cmp_gt, lg_cmp_lt, lg_cmp_eq, Classical.not_not, SHm hS, SHr hS, h1]
  refine ⟨fun q2 => ⟨fun q3 => ⟨fun q4 => ⟨by omega, c_spans h1 ?_⟩, fun q4 => ⟨by omega, c_faulted hS ?_⟩⟩, fun q3 => ⟨by omega, c_faulted hS ?_⟩⟩, fun q2 => ⟨by omega, c_faulted hS ?_⟩⟩
  all_goals (try (simp only [D_X11_againstTaking, N_X11_againstTaking, vcS, vcC, vcI, gtF, ptF, inS, inV, fv0, fv1, fv2, fv3, fw0, fw1, lg_0, lg_1, lg_2, lg_3, lg_4, lg_5, lg_6, lg_7, lg_8, lg_9, lg_10, lg_11, lg_12, lg_13, lg_14, lsq_0, lsl_0, lsq_1, lsl_1, lsq_2, lsl_2, lsq_3, lsl_3, lsq_4, lsl_4, lsq_5, lsl_5, lsq_6, lsl_6, lsq_7, lsl_7, lsq_8, lsl_8, lsq_9, lsl_9, lsq_10, lsl_10, lsq_11, lsl_11, lsq_12, lsl_12, lsq_13, lsl_13, lsq_14, lsl_14, tk_0, tk_1, tk_2, tk_3, tk_4, tk_5, tk_6, tk_7, tk_8, cs_n, cs_i, cs_l, cs_r, cs_u, nl, rt_s, rt_n, CST1, Nat.reduceAdd, Nat.reduceLeDiff, va_rf, rtOk, Bool.false_eq_true, Bool.true_eq_false, if_false, if_true, ite_true, ite_false, true_and, and_true, eq_self, ne_eq, not_false_eq_true, not_true_eq_false, false_implies, true_implies, and_self, reduceCtorEq, Nat.reduceBEq, Bool.or_false, Bool.false_or, Bool.or_true, Bool.true_or, if1_0, if1_1, if1_01, one_01, zer_01, lg_cmp_ge, lg_cmp_le, lg_cmp_gt, lg_cmp_lt, lg_cmp_eq, Classical.not_not, SHm hS, SHr hS, h1]))
  · refine ⟨fun q5 => ⟨by omega, c_faulted hS ?_⟩, fun q5 => ?_⟩
    · simp only [D_X11_againstTaking, N_X11_againstTaking, vcS, vcC, vcI, gtF, ptF, inS, inV, fv0, fv1, fv2, fv3, fw0, fw1, lg_0, lg_1, lg_2, lg_3, lg_4, lg_5, lg_6, lg_7, lg_8, lg_9, lg_10, lg_11, lg_12, lg_13, lg_14, lsq_0, lsl_0, lsq_1, lsl_1, lsq_2, lsl_2, lsq_3, lsl_3, lsq_4, lsl_4, lsq_5, lsl_5, lsq_6, lsl_6, lsq_7, lsl_7, lsq_8, lsl_8, lsq_9, lsl_9, lsq_10, lsl_10, lsq_11, lsl_11, lsq_12, lsl_12, lsq_13, lsl_13, lsq_14, lsl_14, tk_0, tk_1, tk_2, tk_3, tk_4, tk_5, tk_6, tk_7, tk_8, cs_n, cs_i, cs_l, cs_r, cs_u, nl, rt_s, rt_n, CST1, Nat.reduceAdd, Nat.reduceLeDiff, va_rf, rtOk, Bool.false_eq_true, Bool.true_eq_false, if_false, if_true, ite_true, ite_false, true_and, and_true, eq_self, ne_eq, not_false_eq_true, not_true_eq_false, false_implies, true_implies, and_self, reduceCtorEq, Nat.reduceBEq, Bool.or_false, Bool.false_or, Bool.or_true, Bool.true_or, if1_0, if1_1, if1_01, one_01, zer_01, lg_cmp_ge, lg_cmp_le, lg_cmp_gt, lg_cmp_lt, lg_cmp_eq, Classical.not_not, SHm hS, SHr hS, h1]
      refine hk3 3 q1 ?_ (by decide) (by decide)
      have hz := hsz q3
      by_cases qi : 0 ≤ i.toInt ∧ i.toInt ≤ (sg a 3).toInt
      · rw [i_sub (by omega) (by omega)] at q5
        unfold tkG
        (repeat' split) <;> first | rfl | (exfalso; ((try simp only [i_le, i_lt, i_eq, l_le, l_lt, l_eq, i_ne, l_ne, toL, l_add, l_sub1, LIT1, LIT2, Int.reduceNeg, ge_iff_le, gt_iff_lt] at *); omega))
      · clear hk1 hk2 hk3
        unfold tkG
        (repeat' split) <;> first | rfl | (exfalso; ((try simp only [i_le, i_lt, i_eq, l_le, l_lt, l_eq, i_ne, l_ne, toL, l_add, l_sub1, LIT1, LIT2, Int.reduceNeg, ge_iff_le, gt_iff_lt] at *); omega))
    · refine hk2 q1 ?_
      have hz := hsz q3
      rw [i_sub (by omega) (by omega)] at q5
      clear hk1 hk2 hk3
      unfold tkG
      (repeat' split) <;> first | rfl | (exfalso; ((try simp only [i_le, i_lt, i_eq, l_le, l_lt, l_eq, i_ne, l_ne, toL, l_add, l_sub1, LIT1, LIT2, Int.reduceNeg, ge_iff_le, gt_iff_lt] at *); omega))
  · refine hk3 4 q1 ?_ (by decide) (by decide)
    clear hk1 hk2 hk3
    unfold tkG
    (repeat' split) <;> first | rfl | (exfalso; ((try simp only [i_le, i_lt, i_eq, l_le, l_lt, l_eq, i_ne, l_ne, toL, l_add, l_sub1, LIT1, LIT2, Int.reduceNeg, ge_iff_le, gt_iff_lt] at *); omega))
  · refine hk3 1 q1 ?_ (by decide) (by decide)
    clear hk1 hk2 hk3
    unfold tkG
    (repeat' split) <;> first | rfl | (exfalso; ((try simp only [i_le, i_lt, i_eq, l_le, l_lt, l_eq, i_ne, l_ne, toL, l_add, l_sub1, LIT1, LIT2, Int.reduceNeg, ge_iff_le, gt_iff_lt] at *); omega))
  · refine hk3 2 q1 ?_ (by decide) (by decide)
    clear hk1 hk2 hk3
    unfold tkG
    (repeat' split) <;> first | rfl | (exfalso; ((try simp only [i_le, i_lt, i_eq, l_le, l_lt, l_eq, i_ne, l_ne, toL, l_add, l_sub1, LIT1, LIT2, Int.reduceNeg, ge_iff_le, gt_iff_lt] at *); omega))
/-- all of some cells lie between -/
def allB (f : Nat → Int32) (lo hi : Int) : Nat → Nat → Bool
  | _, 0 => true
  | i, m + 1 => decide (lo ≤ (f i).toInt ∧ (f i).toInt ≤ hi) && allB f lo hi (i + 1) m
theorem allB_congr {f g : Nat → Int32} {lo hi : Int} : ∀ (m i j : Nat), (∀ t, t < m → f (i + t) = g (j + t)) → allB f lo hi i m = allB g lo hi j m
  | 0, _, _, _ => rfl
  | m + 1, i, j, h => by
    unfold allB
    rw [show f i = g j from h 0 (by omega), allB_congr m (i + 1) (j + 1) (fun t ht => by rw [show i + 1 + t = i + (t + 1) by omega, show j + 1 + t = j + (t + 1) by omega]; exact h (t + 1) (by omega))]
set_option maxHeartbeats 4000000 in
set_option maxRecDepth 100000 in
theorem c_areAllIn {a b i w : Nat} {lo hi : Int32} (hd : 1 ≤ d) (h1 : mu a = (16, 4)) (h2 : ro a 0 = some b) (h3 : mu b = (1, 60)) (hiw : i + w ≤ 60) (hk : K (some (.int (if allB (sg b) lo.toInt hi.toInt i w = true then 1 else 0))) sg) : aCall d 48 [.ref a, .int (nI i), .int (nI w), .int lo, .int hi] n mu ro sg K := by
  refine aCall_start (mL := 6) (cc := cX6_areAllIn) (o := 6) (ret := (some .boolean)) 1 (by decide) (by decide +kernel) rfl rfl rfl rfl (Nat.le_of_ble_eq_true rfl) (fun G hC hG => ?_)
  simp only [exL, List.cons_append, List.nil_append, rp_0, rp_1, rp_2, rp_3, rp_4, rp_5, rp_6, rp_7, rp_8, rp_9, rp_10, rp_11, List.append_nil]
  have loop : ∀ (m j : Nat), j + m = i + w → allB (sg b) lo.toInt hi.toInt i w = allB (sg b) lo.toInt hi.toInt j m → AW G 6 n 0 0 mu ro sg 3 [.ref a, .int (nI i), .int (nI w), .int lo, .int hi, .int (nI j)] [] := by
    intro m
    induction m with
    | zero =>
      intro j hj he
      refine hG (fun q => q == 3) 60 _ _ _ _ (Nat.le_of_ble_eq_true rfl) ?_
      simp only [D_X6_areAllIn, vcS, vcC, vcI, gtF, ptF, inS, inV, fv0, fv1, fv2, fv3, fw0, fw1, lg_0, lg_1, lg_2, lg_3, lg_4, lg_5, lg_6, lg_7, lg_8, lg_9, lg_10, lg_11, lg_12, lg_13, lg_14, lsq_0, lsl_0, lsq_1, lsl_1, lsq_2, lsl_2, lsq_3, lsl_3, lsq_4, lsl_4, lsq_5, lsl_5, lsq_6, lsl_6, lsq_7, lsl_7, lsq_8, lsl_8, lsq_9, lsl_9, lsq_10, lsl_10, lsq_11, lsl_11, lsq_12, lsl_12, lsq_13, lsl_13, lsq_14, lsl_14, tk_0, tk_1, tk_2, tk_3, tk_4, tk_5, tk_6, tk_7, tk_8, cs_n, cs_i, cs_l, cs_r, cs_u, nl, rt_s, rt_n, CST1, Nat.reduceAdd, Nat.reduceLeDiff, va_rf, rtOk, Bool.false_eq_true, Bool.true_eq_false, if_false, if_true, ite_true, ite_false, true_and, and_true, eq_self, ne_eq, not_false_eq_true, not_true_eq_false, false_implies, true_implies, and_self, reduceCtorEq, Nat.reduceBEq, Bool.or_false, Bool.false_or, Bool.or_true, Bool.true_or, if1_0, if1_1, if1_01, one_01, zer_01, lg_cmp_ge, lg_cmp_le, lg_cmp_gt, lg_cmp_lt, lg_cmp_eq, Classical.not_not, h1, h2, h3, nI_add]
      refine ⟨fun _ => ?_, fun h => absurd (nI_le (by omega) (by omega)) h⟩
      rw [he] at hk
      exact hk
    | succ m ih =>
      intro j hj he
      refine hG (fun q => q == 3) 60 _ _ _ _ (Nat.le_of_ble_eq_true rfl) ?_
      simp only [D_X6_areAllIn, vcS, vcC, vcI, gtF, ptF, inS, inV, fv0, fv1, fv2, fv3, fw0, fw1, lg_0, lg_1, lg_2, lg_3, lg_4, lg_5, lg_6, lg_7, lg_8, lg_9, lg_10, lg_11, lg_12, lg_13, lg_14, lsq_0, lsl_0, lsq_1, lsl_1, lsq_2, lsl_2, lsq_3, lsl_3, lsq_4, lsl_4, lsq_5, lsl_5, lsq_6, lsl_6, lsq_7, lsl_7, lsq_8, lsl_8, lsq_9, lsl_9, lsq_10, lsl_10, lsq_11, lsl_11, lsq_12, lsl_12, lsq_13, lsl_13, lsq_14, lsl_14, tk_0, tk_1, tk_2, tk_3, tk_4, tk_5, tk_6, tk_7, tk_8, cs_n, cs_i, cs_l, cs_r, cs_u, nl, rt_s, rt_n, CST1, Nat.reduceAdd, Nat.reduceLeDiff, va_rf, rtOk, Bool.false_eq_true, Bool.true_eq_false, if_false, if_true, ite_true, ite_false, true_and, and_true, eq_self, ne_eq, not_false_eq_true, not_true_eq_false, false_implies, true_implies, and_self, reduceCtorEq, Nat.reduceBEq, Bool.or_false, Bool.false_or, Bool.or_true, Bool.true_or, if1_0, if1_1, if1_01, one_01, zer_01, lg_cmp_ge, lg_cmp_le, lg_cmp_gt, lg_cmp_lt, lg_cmp_eq, Classical.not_not, h1, h2, h3, nI_add]
      refine ⟨fun h => absurd h (nI_ge (by omega) (by omega)), fun _ => ⟨vp_in_nI (by omega) (by omega), hd, c_isIn ?_⟩⟩
      rw [nI_clamp (by omega)]
      simp only [D_X6_areAllIn, vcS, vcC, vcI, gtF, ptF, inS, inV, fv0, fv1, fv2, fv3, fw0, fw1, lg_0, lg_1, lg_2, lg_3, lg_4, lg_5, lg_6, lg_7, lg_8, lg_9, lg_10, lg_11, lg_12, lg_13, lg_14, lsq_0, lsl_0, lsq_1, lsl_1, lsq_2, lsl_2, lsq_3, lsl_3, lsq_4, lsl_4, lsq_5, lsl_5, lsq_6, lsl_6, lsq_7, lsl_7, lsq_8, lsl_8, lsq_9, lsl_9, lsq_10, lsl_10, lsq_11, lsl_11, lsq_12, lsl_12, lsq_13, lsl_13, lsq_14, lsl_14, tk_0, tk_1, tk_2, tk_3, tk_4, tk_5, tk_6, tk_7, tk_8, cs_n, cs_i, cs_l, cs_r, cs_u, nl, rt_s, rt_n, CST1, Nat.reduceAdd, Nat.reduceLeDiff, va_rf, rtOk, Bool.false_eq_true, Bool.true_eq_false, if_false, if_true, ite_true, ite_false, true_and, and_true, eq_self, ne_eq, not_false_eq_true, not_true_eq_false, false_implies, true_implies, and_self, reduceCtorEq, Nat.reduceBEq, Bool.or_false, Bool.false_or, Bool.or_true, Bool.true_or, if1_0, if1_1, if1_01, one_01, zer_01, lg_cmp_ge, lg_cmp_le, lg_cmp_gt, lg_cmp_lt, lg_cmp_eq, Classical.not_not, h1, h2, h3, nI_add, nI_1]
      refine ⟨fun q => ?_, fun q => ?_⟩
      · exact ih (j + 1) (by omega) (by rw [he]; simp [allB, q])
      · rw [he] at hk
        simp [allB, q] at hk
        exact hk
  refine hG (fun q => q == 3) 60 _ _ _ _ (Nat.le_of_ble_eq_true rfl) ?_
  simp only [D_X6_areAllIn, vcS, vcC, vcI, gtF, ptF, inS, inV, fv0, fv1, fv2, fv3, fw0, fw1, lg_0, lg_1, lg_2, lg_3, lg_4, lg_5, lg_6, lg_7, lg_8, lg_9, lg_10, lg_11, lg_12, lg_13, lg_14, lsq_0, lsl_0, lsq_1, lsl_1, lsq_2, lsl_2, lsq_3, lsl_3, lsq_4, lsl_4, lsq_5, lsl_5, lsq_6, lsl_6, lsq_7, lsl_7, lsq_8, lsl_8, lsq_9, lsl_9, lsq_10, lsl_10, lsq_11, lsl_11, lsq_12, lsl_12, lsq_13, lsl_13, lsq_14, lsl_14, tk_0, tk_1, tk_2, tk_3, tk_4, tk_5, tk_6, tk_7, tk_8, cs_n, cs_i, cs_l, cs_r, cs_u, nl, rt_s, rt_n, CST1, Nat.reduceAdd, Nat.reduceLeDiff, va_rf, rtOk, Bool.false_eq_true, Bool.true_eq_false, if_false, if_true, ite_true, ite_false, true_and, and_true, eq_self, ne_eq, not_false_eq_true, not_true_eq_false, false_implies, true_implies, and_self, reduceCtorEq, Nat.reduceBEq, Bool.or_false, Bool.false_or, Bool.or_true, Bool.true_or, if1_0, if1_1, if1_01, one_01, zer_01, lg_cmp_ge, lg_cmp_le, lg_cmp_gt, lg_cmp_lt, lg_cmp_eq, Classical.not_not, h1, h2, h3]
  exact loop w i rfl rfl
-- the reference
set_option maxHeartbeats 4000000 in
set_option maxRecDepth 100000 in
theorem m_refused {w : Int32} (hS : Sh mu ro) (hk : K (some (.int w)) (s2 sg 48 0 0)) : aCall d 160 [.ref 48, .int w] n mu ro sg K := by
  refine aCall_start (mL := 2) (cc := cX12_refused) (o := 12) (ret := (some .int)) 0 (by decide) (by decide +kernel) rfl rfl rfl rfl (Nat.le_of_ble_eq_true rfl) (fun G hC hG => ?_)
  simp only [exL, List.cons_append, List.nil_append, rp_0, rp_1, rp_2, rp_3, rp_4, rp_5, rp_6, rp_7, rp_8, rp_9, rp_10, rp_11, List.append_nil]
  refine hG (fun _ => false) 40 _ _ _ _ (Nat.le_of_ble_eq_true rfl) ?_
  simp only [D_X12_refused, vcS, vcC, vcI, gtF, ptF, inS, inV, fv0, fv1, fv2, fv3, fw0, fw1, lg_0, lg_1, lg_2, lg_3, lg_4, lg_5, lg_6, lg_7, lg_8, lg_9, lg_10, lg_11, lg_12, lg_13, lg_14, lsq_0, lsl_0, lsq_1, lsl_1, lsq_2, lsl_2, lsq_3, lsl_3, lsq_4, lsl_4, lsq_5, lsl_5, lsq_6, lsl_6, lsq_7, lsl_7, lsq_8, lsl_8, lsq_9, lsl_9, lsq_10, lsl_10, lsq_11, lsl_11, lsq_12, lsl_12, lsq_13, lsl_13, lsq_14, lsl_14, tk_0, tk_1, tk_2, tk_3, tk_4, tk_5, tk_6, tk_7, tk_8, cs_n, cs_i, cs_l, cs_r, cs_u, nl, rt_s, rt_n, CST1, Nat.reduceAdd, Nat.reduceLeDiff, va_rf, rtOk, Bool.false_eq_true, Bool.true_eq_false, if_false, if_true, ite_true, ite_false, true_and, and_true, eq_self, ne_eq, not_false_eq_true, not_true_eq_false, false_implies, true_implies, and_self, reduceCtorEq, Nat.reduceBEq, Bool.or_false, Bool.false_or, Bool.or_true, Bool.true_or, if1_0, if1_1, if1_01, one_01, zer_01, lg_cmp_ge, lg_cmp_le, lg_cmp_gt, lg_cmp_lt, lg_cmp_eq, Classical.not_not, SHm hS, SHr hS]
  exact hk
set_option maxHeartbeats 4000000 in
set_option maxRecDepth 100000 in
theorem m_failed {w : Int32} (hS : Sh mu ro) (hk : K (some (.int (-10 - w))) (s2 sg 48 0 w)) : aCall d 161 [.ref 48, .int w] n mu ro sg K := by
  refine aCall_start (mL := 2) (cc := cX12_failed) (o := 12) (ret := (some .int)) 0 (by decide) (by decide +kernel) rfl rfl rfl rfl (Nat.le_of_ble_eq_true rfl) (fun G hC hG => ?_)
  simp only [exL, List.cons_append, List.nil_append, rp_0, rp_1, rp_2, rp_3, rp_4, rp_5, rp_6, rp_7, rp_8, rp_9, rp_10, rp_11, List.append_nil]
  refine hG (fun _ => false) 40 _ _ _ _ (Nat.le_of_ble_eq_true rfl) ?_
  simp only [D_X12_failed, vcS, vcC, vcI, gtF, ptF, inS, inV, fv0, fv1, fv2, fv3, fw0, fw1, lg_0, lg_1, lg_2, lg_3, lg_4, lg_5, lg_6, lg_7, lg_8, lg_9, lg_10, lg_11, lg_12, lg_13, lg_14, lsq_0, lsl_0, lsq_1, lsl_1, lsq_2, lsl_2, lsq_3, lsl_3, lsq_4, lsl_4, lsq_5, lsl_5, lsq_6, lsl_6, lsq_7, lsl_7, lsq_8, lsl_8, lsq_9, lsl_9, lsq_10, lsl_10, lsq_11, lsl_11, lsq_12, lsl_12, lsq_13, lsl_13, lsq_14, lsl_14, tk_0, tk_1, tk_2, tk_3, tk_4, tk_5, tk_6, tk_7, tk_8, cs_n, cs_i, cs_l, cs_r, cs_u, nl, rt_s, rt_n, CST1, Nat.reduceAdd, Nat.reduceLeDiff, va_rf, rtOk, Bool.false_eq_true, Bool.true_eq_false, if_false, if_true, ite_true, ite_false, true_and, and_true, eq_self, ne_eq, not_false_eq_true, not_true_eq_false, false_implies, true_implies, and_self, reduceCtorEq, Nat.reduceBEq, Bool.or_false, Bool.false_or, Bool.or_true, Bool.true_or, if1_0, if1_1, if1_01, one_01, zer_01, lg_cmp_ge, lg_cmp_le, lg_cmp_gt, lg_cmp_lt, lg_cmp_eq, Classical.not_not, SHm hS, SHr hS]
  exact hk
set_option maxHeartbeats 4000000 in
set_option maxRecDepth 100000 in
theorem m_failedLong {w : Int32} (hS : Sh mu ro) (hd : 1 ≤ d) (hk : K (some (.long (-9223372036854775808))) (s2 sg 48 0 w)) : aCall d 162 [.ref 48, .int w] n mu ro sg K := by
  refine aCall_start (mL := 2) (cc := cX12_failedLong) (o := 12) (ret := (some .long)) 0 (by decide) (by decide +kernel) rfl rfl rfl rfl (Nat.le_of_ble_eq_true rfl) (fun G hC hG => ?_)
  simp only [exL, List.cons_append, List.nil_append, rp_0, rp_1, rp_2, rp_3, rp_4, rp_5, rp_6, rp_7, rp_8, rp_9, rp_10, rp_11, List.append_nil]
  refine hG (fun _ => false) 40 _ _ _ _ (Nat.le_of_ble_eq_true rfl) ?_
  simp only [D_X12_failedLong, vcS, vcC, vcI, gtF, ptF, inS, inV, fv0, fv1, fv2, fv3, fw0, fw1, lg_0, lg_1, lg_2, lg_3, lg_4, lg_5, lg_6, lg_7, lg_8, lg_9, lg_10, lg_11, lg_12, lg_13, lg_14, lsq_0, lsl_0, lsq_1, lsl_1, lsq_2, lsl_2, lsq_3, lsl_3, lsq_4, lsl_4, lsq_5, lsl_5, lsq_6, lsl_6, lsq_7, lsl_7, lsq_8, lsl_8, lsq_9, lsl_9, lsq_10, lsl_10, lsq_11, lsl_11, lsq_12, lsl_12, lsq_13, lsl_13, lsq_14, lsl_14, tk_0, tk_1, tk_2, tk_3, tk_4, tk_5, tk_6, tk_7, tk_8, cs_n, cs_i, cs_l, cs_r, cs_u, nl, rt_s, rt_n, CST1, Nat.reduceAdd, Nat.reduceLeDiff, va_rf, rtOk, Bool.false_eq_true, Bool.true_eq_false, if_false, if_true, ite_true, ite_false, true_and, and_true, eq_self, ne_eq, not_false_eq_true, not_true_eq_false, false_implies, true_implies, and_self, reduceCtorEq, Nat.reduceBEq, Bool.or_false, Bool.false_or, Bool.or_true, Bool.true_or, if1_0, if1_1, if1_01, one_01, zer_01, lg_cmp_ge, lg_cmp_le, lg_cmp_gt, lg_cmp_lt, lg_cmp_eq, Classical.not_not, SHm hS, SHr hS]
  refine ⟨hd, m_lost ?_⟩
  simp only [D_X12_failedLong, vcS, vcC, vcI, gtF, ptF, inS, inV, fv0, fv1, fv2, fv3, fw0, fw1, lg_0, lg_1, lg_2, lg_3, lg_4, lg_5, lg_6, lg_7, lg_8, lg_9, lg_10, lg_11, lg_12, lg_13, lg_14, lsq_0, lsl_0, lsq_1, lsl_1, lsq_2, lsl_2, lsq_3, lsl_3, lsq_4, lsl_4, lsq_5, lsl_5, lsq_6, lsl_6, lsq_7, lsl_7, lsq_8, lsl_8, lsq_9, lsl_9, lsq_10, lsl_10, lsq_11, lsl_11, lsq_12, lsl_12, lsq_13, lsl_13, lsq_14, lsl_14, tk_0, tk_1, tk_2, tk_3, tk_4, tk_5, tk_6, tk_7, tk_8, cs_n, cs_i, cs_l, cs_r, cs_u, nl, rt_s, rt_n, CST1, Nat.reduceAdd, Nat.reduceLeDiff, va_rf, rtOk, Bool.false_eq_true, Bool.true_eq_false, if_false, if_true, ite_true, ite_false, true_and, and_true, eq_self, ne_eq, not_false_eq_true, not_true_eq_false, false_implies, true_implies, and_self, reduceCtorEq, Nat.reduceBEq, Bool.or_false, Bool.false_or, Bool.or_true, Bool.true_or, if1_0, if1_1, if1_01, one_01, zer_01, lg_cmp_ge, lg_cmp_le, lg_cmp_gt, lg_cmp_lt, lg_cmp_eq, Classical.not_not, SHm hS, SHr hS]
  exact hk
set_option maxHeartbeats 4000000 in
set_option maxRecDepth 100000 in
theorem m_barred {k : Nat} {l i w : Int32} (hS : Sh mu ro) (hd : 2 ≤ d) (hk4 : k < 4)
    (hk1 : ¬ (0 ≤ l.toInt ∧ l.toInt ≤ 2) → K (some (.int (-2))) (s2 sg 48 0 0)) (hk2 : 0 ≤ l.toInt ∧ l.toInt ≤ 2 → tkG (0 ≤ (sg 85 k).toInt) (sg 86 k) (sg 85 k) l i w = 0 → K (some (.int 0)) sg)
    (hk3 : ∀ f : Int32, 0 ≤ l.toInt ∧ l.toInt ≤ 2 → tkG (0 ≤ (sg 85 k).toInt) (sg 86 k) (sg 85 k) l i w = f → 1 ≤ f.toInt → f.toInt ≤ 4 → K (some (.int (-10 - f))) (s2 sg 48 0 f)) : aCall d 163 [.ref 48, .int (nI k), .int l, .int i, .long w.toInt64] n mu ro sg K := by
  refine aCall_start (mL := 6) (cc := cX12_barred) (o := 12) (ret := (some .int)) 0 (by decide) (by decide +kernel) rfl rfl rfl rfl (Nat.le_of_ble_eq_true rfl) (fun G hC hG => ?_)
  simp only [exL, List.cons_append, List.nil_append, rp_0, rp_1, rp_2, rp_3, rp_4, rp_5, rp_6, rp_7, rp_8, rp_9, rp_10, rp_11, List.append_nil]
  refine hG (fun _ => false) 60 _ _ _ _ (Nat.le_of_ble_eq_true rfl) ?_
  simp only [D_X12_barred, N_X12_barred, vcS, vcC, vcI, gtF, ptF, inS, inV, fv0, fv1, fv2, fv3, fw0, fw1, lg_0, lg_1, lg_2, lg_3, lg_4, lg_5, lg_6, lg_7, lg_8, lg_9, lg_10, lg_11, lg_12, lg_13, lg_14, lsq_0, lsl_0, lsq_1, lsl_1, lsq_2, lsl_2, lsq_3, lsl_3, lsq_4, lsl_4, lsq_5, lsl_5, lsq_6, lsl_6, lsq_7, lsl_7, lsq_8, lsl_8, lsq_9, lsl_9, lsq_10, lsl_10, lsq_11, lsl_11, lsq_12, lsl_12, lsq_13, lsl_13, lsq_14, lsl_14, tk_0, tk_1, tk_2, tk_3, tk_4, tk_5, tk_6, tk_7, tk_8, cs_n, cs_i, cs_l, cs_r, cs_u, nl, rt_s, rt_n, CST1, Nat.reduceAdd, Nat.reduceLeDiff, va_rf, rtOk, Bool.false_eq_true, Bool.true_eq_false, if_false, if_true, ite_true, ite_false, true_and, and_true, eq_self, ne_eq, not_false_eq_true, not_true_eq_false, false_implies, true_implies, and_self, reduceCtorEq, Nat.reduceBEq, Bool.or_false, Bool.false_or, Bool.or_true, Bool.true_or, if1_0, if1_1, if1_01, one_01, zer_01, lg_cmp_ge, lg_cmp_le, lg_cmp_gt, lg_cmp_lt, lg_cmp_eq, Classical.not_not]
  have hin : vp_in (nI k) 4 := vp_in_nI hk4 (by decide)
  have hcl : (nI k).toNatClampNeg = k := nI_clamp (by omega)
  refine ⟨by omega, m_in ?_⟩
  simp only [D_X12_barred, N_X12_barred, vcS, vcC, vcI, gtF, ptF, inS, inV, fv0, fv1, fv2, fv3, fw0, fw1, lg_0, lg_1, lg_2, lg_3, lg_4, lg_5, lg_6, lg_7, lg_8, lg_9, lg_10, lg_11, lg_12, lg_13, lg_14, lsq_0, lsl_0, lsq_1, lsl_1, lsq_2, lsl_2, lsq_3, lsl_3, lsq_4, lsl_4, lsq_5, lsl_5, lsq_6, lsl_6, lsq_7, lsl_7, lsq_8, lsl_8, lsq_9, lsl_9, lsq_10, lsl_10, lsq_11, lsl_11, lsq_12, lsl_12, lsq_13, lsl_13, lsq_14, lsl_14, tk_0, tk_1, tk_2, tk_3, tk_4, tk_5, tk_6, tk_7, tk_8, cs_n, cs_i, cs_l, cs_r, cs_u, nl, rt_s, rt_n, CST1, Nat.reduceAdd, Nat.reduceLeDiff, va_rf, rtOk, Bool.false_eq_true, Bool.true_eq_false, if_false, if_true, ite_true, ite_false, true_and, and_true, eq_self, ne_eq, not_false_eq_true, not_true_eq_false, false_implies, true_implies, and_self, reduceCtorEq, Nat.reduceBEq, Bool.or_false, Bool.false_or, Bool.or_true, Bool.true_or, if1_0, if1_1, if1_01, one_01, zer_01, lg_cmp_ge, lg_cmp_le, lg_cmp_gt, lg_cmp_lt, lg_cmp_eq, Classical.not_not, SHm hS, SHr hS, LIT2, toL, hcl]
  repeat' (first | (with_reducible assumption) | (refine vp_in_iff.mpr ?_; ((try simp only [i_le, i_lt, i_eq, l_le, l_lt, l_eq, i_ne, l_ne, toL, l_add, l_sub1, LIT1, LIT2, Int.reduceNeg, ge_iff_le, gt_iff_lt] at *); omega)) | (refine And.intro ?_ ?_) | (omega) | (refine m_failed hS ?_; simp only [D_X12_barred, N_X12_barred, vcS, vcC, vcI, gtF, ptF, inS, inV, fv0, fv1, fv2, fv3, fw0, fw1, lg_0, lg_1, lg_2, lg_3, lg_4, lg_5, lg_6, lg_7, lg_8, lg_9, lg_10, lg_11, lg_12, lg_13, lg_14, lsq_0, lsl_0, lsq_1, lsl_1, lsq_2, lsl_2, lsq_3, lsl_3, lsq_4, lsl_4, lsq_5, lsl_5, lsq_6, lsl_6, lsq_7, lsl_7, lsq_8, lsl_8, lsq_9, lsl_9, lsq_10, lsl_10, lsq_11, lsl_11, lsq_12, lsl_12, lsq_13, lsl_13, lsq_14, lsl_14, tk_0, tk_1, tk_2, tk_3, tk_4, tk_5, tk_6, tk_7, tk_8, cs_n, cs_i, cs_l, cs_r, cs_u, nl, rt_s, rt_n, CST1, Nat.reduceAdd, Nat.reduceLeDiff, va_rf, rtOk, Bool.false_eq_true, Bool.true_eq_false, if_false, if_true, ite_true, ite_false, true_and, and_true, eq_self, ne_eq, not_false_eq_true, not_true_eq_false, false_implies, true_implies, and_self, reduceCtorEq, Nat.reduceBEq, Bool.or_false, Bool.false_or, Bool.or_true, Bool.true_or, if1_0, if1_1, if1_01, one_01, zer_01, lg_cmp_ge, lg_cmp_le, lg_cmp_gt, lg_cmp_lt, lg_cmp_eq, Classical.not_not, SHm hS, SHr hS, LIT2, toL, hcl]) | (refine m_refused hS ?_; simp only [D_X12_barred, N_X12_barred, vcS, vcC, vcI, gtF, ptF, inS, inV, fv0, fv1, fv2, fv3, fw0, fw1, lg_0, lg_1, lg_2, lg_3, lg_4, lg_5, lg_6, lg_7, lg_8, lg_9, lg_10, lg_11, lg_12, lg_13, lg_14, lsq_0, lsl_0, lsq_1, lsl_1, lsq_2, lsl_2, lsq_3, lsl_3, lsq_4, lsl_4, lsq_5, lsl_5, lsq_6, lsl_6, lsq_7, lsl_7, lsq_8, lsl_8, lsq_9, lsl_9, lsq_10, lsl_10, lsq_11, lsl_11, lsq_12, lsl_12, lsq_13, lsl_13, lsq_14, lsl_14, tk_0, tk_1, tk_2, tk_3, tk_4, tk_5, tk_6, tk_7, tk_8, cs_n, cs_i, cs_l, cs_r, cs_u, nl, rt_s, rt_n, CST1, Nat.reduceAdd, Nat.reduceLeDiff, va_rf, rtOk, Bool.false_eq_true, Bool.true_eq_false, if_false, if_true, ite_true, ite_false, true_and, and_true, eq_self, ne_eq, not_false_eq_true, not_true_eq_false, false_implies, true_implies, and_self, reduceCtorEq, Nat.reduceBEq, Bool.or_false, Bool.false_or, Bool.or_true, Bool.true_or, if1_0, if1_1, if1_01, one_01, zer_01, lg_cmp_ge, lg_cmp_le, lg_cmp_gt, lg_cmp_lt, lg_cmp_eq, Classical.not_not, SHm hS, SHr hS, LIT2, toL, hcl]) | (refine m_isBeyond ?_; simp only [D_X12_barred, N_X12_barred, vcS, vcC, vcI, gtF, ptF, inS, inV, fv0, fv1, fv2, fv3, fw0, fw1, lg_0, lg_1, lg_2, lg_3, lg_4, lg_5, lg_6, lg_7, lg_8, lg_9, lg_10, lg_11, lg_12, lg_13, lg_14, lsq_0, lsl_0, lsq_1, lsl_1, lsq_2, lsl_2, lsq_3, lsl_3, lsq_4, lsl_4, lsq_5, lsl_5, lsq_6, lsl_6, lsq_7, lsl_7, lsq_8, lsl_8, lsq_9, lsl_9, lsq_10, lsl_10, lsq_11, lsl_11, lsq_12, lsl_12, lsq_13, lsl_13, lsq_14, lsl_14, tk_0, tk_1, tk_2, tk_3, tk_4, tk_5, tk_6, tk_7, tk_8, cs_n, cs_i, cs_l, cs_r, cs_u, nl, rt_s, rt_n, CST1, Nat.reduceAdd, Nat.reduceLeDiff, va_rf, rtOk, Bool.false_eq_true, Bool.true_eq_false, if_false, if_true, ite_true, ite_false, true_and, and_true, eq_self, ne_eq, not_false_eq_true, not_true_eq_false, false_implies, true_implies, and_self, reduceCtorEq, Nat.reduceBEq, Bool.or_false, Bool.false_or, Bool.or_true, Bool.true_or, if1_0, if1_1, if1_01, one_01, zer_01, lg_cmp_ge, lg_cmp_le, lg_cmp_gt, lg_cmp_lt, lg_cmp_eq, Classical.not_not, SHm hS, SHr hS, LIT2, toL, hcl]) | (intro _))
  all_goals first | (exfalso; ((try simp only [i_le, i_lt, i_eq, l_le, l_lt, l_eq, i_ne, l_ne, toL, l_add, l_sub1, LIT1, LIT2, Int.reduceNeg, ge_iff_le, gt_iff_lt] at *); omega)) | (exact hk1 (by assumption)) | (refine hk2 (by assumption) ?_; clear hk1 hk2 hk3; unfold tkG; (repeat' split) <;> first | rfl | (exfalso; ((try simp only [i_le, i_lt, i_eq, l_le, l_lt, l_eq, i_ne, l_ne, toL, l_add, l_sub1, LIT1, LIT2, Int.reduceNeg, ge_iff_le, gt_iff_lt] at *); omega))) | (refine hk3 _ (by assumption) ?_ (by decide) (by decide); clear hk1 hk2 hk3; unfold tkG; (repeat' split) <;> first | rfl | (exfalso; ((try simp only [i_le, i_lt, i_eq, l_le, l_lt, l_eq, i_ne, l_ne, toL, l_add, l_sub1, LIT1, LIT2, Int.reduceNeg, ge_iff_le, gt_iff_lt] at *); omega)))
set_option maxHeartbeats 4000000 in
set_option maxRecDepth 100000 in
theorem m_noCell {k : Nat} {i : Int32} (hS : Sh mu ro) (hd : 1 ≤ d) (hk4 : k < 4) (hk : K (some (.int (if (sg 85 k).toInt < 0 then 1 else if 0 ≤ i.toInt ∧ i.toInt < (sg 85 k).toInt then 0 else 3))) sg) : aCall d 239 [.ref 48, .int (nI k), .int i] n mu ro sg K := by
  refine aCall_start (mL := 3) (cc := cX12_noCell) (o := 12) (ret := (some .int)) 0 (by decide) (by decide +kernel) rfl rfl rfl rfl (Nat.le_of_ble_eq_true rfl) (fun G hC hG => ?_)
  simp only [exL, List.cons_append, List.nil_append, rp_0, rp_1, rp_2, rp_3, rp_4, rp_5, rp_6, rp_7, rp_8, rp_9, rp_10, rp_11, List.append_nil]
  refine hG (fun _ => false) 60 _ _ _ _ (Nat.le_of_ble_eq_true rfl) ?_
  have hin : vp_in (nI k) 4 := vp_in_nI hk4 (by decide)
  have hcl : (nI k).toNatClampNeg = k := nI_clamp (by omega)
  simp only [D_X12_noCell, vcS, vcC, vcI, gtF, ptF, inS, inV, fv0, fv1, fv2, fv3, fw0, fw1, lg_0, lg_1, lg_2, lg_3, lg_4, lg_5, lg_6, lg_7, lg_8, lg_9, lg_10, lg_11, lg_12, lg_13, lg_14, lsq_0, lsl_0, lsq_1, lsl_1, lsq_2, lsl_2, lsq_3, lsl_3, lsq_4, lsl_4, lsq_5, lsl_5, lsq_6, lsl_6, lsq_7, lsl_7, lsq_8, lsl_8, lsq_9, lsl_9, lsq_10, lsl_10, lsq_11, lsl_11, lsq_12, lsl_12, lsq_13, lsl_13, lsq_14, lsl_14, tk_0, tk_1, tk_2, tk_3, tk_4, tk_5, tk_6, tk_7, tk_8, cs_n, cs_i, cs_l, cs_r, cs_u, nl, rt_s, rt_n, CST1, Nat.reduceAdd, Nat.reduceLeDiff, va_rf, rtOk, Bool.false_eq_true, Bool.true_eq_false, if_false, if_true, ite_true, ite_false, true_and, and_true, eq_self, ne_eq, not_false_eq_true, not_true_eq_false, false_implies, true_implies, and_self, reduceCtorEq, Nat.reduceBEq, Bool.or_false, Bool.false_or, Bool.or_true, Bool.true_or, if1_0, if1_1, if1_01, one_01, zer_01, lg_cmp_ge, lg_cmp_le, lg_cmp_gt, lg_cmp_lt, lg_cmp_eq, Classical.not_not, SHm hS, SHr hS, LIT2, toL, hcl]
  repeat' (first | (with_reducible assumption) | (refine vp_in_iff.mpr ?_; ((try simp only [i_le, i_lt, i_eq, l_le, l_lt, l_eq, i_ne, l_ne, toL, l_add, l_sub1, LIT1, LIT2, Int.reduceNeg, ge_iff_le, gt_iff_lt] at *); omega)) | (refine And.intro ?_ ?_) | (omega) | (refine m_in ?_; simp only [D_X12_noCell, vcS, vcC, vcI, gtF, ptF, inS, inV, fv0, fv1, fv2, fv3, fw0, fw1, lg_0, lg_1, lg_2, lg_3, lg_4, lg_5, lg_6, lg_7, lg_8, lg_9, lg_10, lg_11, lg_12, lg_13, lg_14, lsq_0, lsl_0, lsq_1, lsl_1, lsq_2, lsl_2, lsq_3, lsl_3, lsq_4, lsl_4, lsq_5, lsl_5, lsq_6, lsl_6, lsq_7, lsl_7, lsq_8, lsl_8, lsq_9, lsl_9, lsq_10, lsl_10, lsq_11, lsl_11, lsq_12, lsl_12, lsq_13, lsl_13, lsq_14, lsl_14, tk_0, tk_1, tk_2, tk_3, tk_4, tk_5, tk_6, tk_7, tk_8, cs_n, cs_i, cs_l, cs_r, cs_u, nl, rt_s, rt_n, CST1, Nat.reduceAdd, Nat.reduceLeDiff, va_rf, rtOk, Bool.false_eq_true, Bool.true_eq_false, if_false, if_true, ite_true, ite_false, true_and, and_true, eq_self, ne_eq, not_false_eq_true, not_true_eq_false, false_implies, true_implies, and_self, reduceCtorEq, Nat.reduceBEq, Bool.or_false, Bool.false_or, Bool.or_true, Bool.true_or, if1_0, if1_1, if1_01, one_01, zer_01, lg_cmp_ge, lg_cmp_le, lg_cmp_gt, lg_cmp_lt, lg_cmp_eq, Classical.not_not, SHm hS, SHr hS, LIT2, toL, hcl, l_sub1]) | (intro _))
  all_goals (refine Eq.mp (congrArg (fun z => K (some (.int z)) sg) ?_) hk; clear hk; (repeat' split) <;> first | rfl | (exfalso; ((try simp only [i_le, i_lt, i_eq, l_le, l_lt, l_eq, i_ne, l_ne, toL, l_add, l_sub1, LIT1, LIT2, Int.reduceNeg, ge_iff_le, gt_iff_lt] at *); omega)))
set_option maxHeartbeats 4000000 in
set_option maxRecDepth 100000 in
theorem m_areCells {i w : Nat} {lo hi : Int32} (hS : Sh mu ro) (hd : 1 ≤ d) (hiw : i + w ≤ 240) (hk : K (some (.int (if allB (sg 87) lo.toInt hi.toInt i w = true then 1 else 0))) sg) : aCall d 164 [.ref 48, .int (nI i), .int (nI w), .int lo, .int hi] n mu ro sg K := by
  refine aCall_start (mL := 7) (cc := cX12_areCells) (o := 12) (ret := (some .boolean)) 2 (by decide) (by decide +kernel) rfl rfl rfl rfl (Nat.le_of_ble_eq_true rfl) (fun G hC hG => ?_)
  simp only [exL, List.cons_append, List.nil_append, rp_0, rp_1, rp_2, rp_3, rp_4, rp_5, rp_6, rp_7, rp_8, rp_9, rp_10, rp_11, List.append_nil]
  have loop : ∀ (m j : Nat) (c : Bool), j + m = w → allB (sg 87) lo.toInt hi.toInt i w = (c && allB (sg 87) lo.toInt hi.toInt (i + j) m) → AW G 7 n 0 0 mu ro sg 6 [.ref 48, .int (nI i), .int (nI w), .int lo, .int hi, .int (if c = true then 1 else 0), .int (nI j)] [] := by
    intro m
    induction m with
    | zero =>
      intro j c hj he
      refine hG (fun q => q == 6) 60 _ _ _ _ (Nat.le_of_ble_eq_true rfl) ?_
      simp only [D_X12_areCells, vcS, vcC, vcI, gtF, ptF, inS, inV, fv0, fv1, fv2, fv3, fw0, fw1, lg_0, lg_1, lg_2, lg_3, lg_4, lg_5, lg_6, lg_7, lg_8, lg_9, lg_10, lg_11, lg_12, lg_13, lg_14, lsq_0, lsl_0, lsq_1, lsl_1, lsq_2, lsl_2, lsq_3, lsl_3, lsq_4, lsl_4, lsq_5, lsl_5, lsq_6, lsl_6, lsq_7, lsl_7, lsq_8, lsl_8, lsq_9, lsl_9, lsq_10, lsl_10, lsq_11, lsl_11, lsq_12, lsl_12, lsq_13, lsl_13, lsq_14, lsl_14, tk_0, tk_1, tk_2, tk_3, tk_4, tk_5, tk_6, tk_7, tk_8, cs_n, cs_i, cs_l, cs_r, cs_u, nl, rt_s, rt_n, CST1, Nat.reduceAdd, Nat.reduceLeDiff, va_rf, rtOk, Bool.false_eq_true, Bool.true_eq_false, if_false, if_true, ite_true, ite_false, true_and, and_true, eq_self, ne_eq, not_false_eq_true, not_true_eq_false, false_implies, true_implies, and_self, reduceCtorEq, Nat.reduceBEq, Bool.or_false, Bool.false_or, Bool.or_true, Bool.true_or, if1_0, if1_1, if1_01, one_01, zer_01, lg_cmp_ge, lg_cmp_le, lg_cmp_gt, lg_cmp_lt, lg_cmp_eq, Classical.not_not, SHm hS, SHr hS]
      refine ⟨fun _ => ?_, fun h => absurd (nI_le (by omega) (by omega)) h⟩
      rw [he] at hk
      simp [allB] at hk
      exact hk
    | succ m ih =>
      intro j c hj he
      refine hG (fun q => q == 6) 60 _ _ _ _ (Nat.le_of_ble_eq_true rfl) ?_
      simp only [D_X12_areCells, vcS, vcC, vcI, gtF, ptF, inS, inV, fv0, fv1, fv2, fv3, fw0, fw1, lg_0, lg_1, lg_2, lg_3, lg_4, lg_5, lg_6, lg_7, lg_8, lg_9, lg_10, lg_11, lg_12, lg_13, lg_14, lsq_0, lsl_0, lsq_1, lsl_1, lsq_2, lsl_2, lsq_3, lsl_3, lsq_4, lsl_4, lsq_5, lsl_5, lsq_6, lsl_6, lsq_7, lsl_7, lsq_8, lsl_8, lsq_9, lsl_9, lsq_10, lsl_10, lsq_11, lsl_11, lsq_12, lsl_12, lsq_13, lsl_13, lsq_14, lsl_14, tk_0, tk_1, tk_2, tk_3, tk_4, tk_5, tk_6, tk_7, tk_8, cs_n, cs_i, cs_l, cs_r, cs_u, nl, rt_s, rt_n, CST1, Nat.reduceAdd, Nat.reduceLeDiff, va_rf, rtOk, Bool.false_eq_true, Bool.true_eq_false, if_false, if_true, ite_true, ite_false, true_and, and_true, eq_self, ne_eq, not_false_eq_true, not_true_eq_false, false_implies, true_implies, and_self, reduceCtorEq, Nat.reduceBEq, Bool.or_false, Bool.false_or, Bool.or_true, Bool.true_or, if1_0, if1_1, if1_01, one_01, zer_01, lg_cmp_ge, lg_cmp_le, lg_cmp_gt, lg_cmp_lt, lg_cmp_eq, Classical.not_not, SHm hS, SHr hS, nI_add]
      refine ⟨fun h => absurd h (nI_ge (by omega) (by omega)), fun _ => ?_⟩
      refine ⟨fun q => ?_, fun q => ⟨vp_in_nI (by omega) (by decide), hd, m_in ?_⟩⟩
      · have hc : c = false := by simpa using q
        subst hc
        rw [nI_1]
        exact ih (j + 1) false (by omega) (by rw [he]; rfl)
      · subst q
        rw [nI_clamp (by omega)]
        simp only [D_X12_areCells, vcS, vcC, vcI, gtF, ptF, inS, inV, fv0, fv1, fv2, fv3, fw0, fw1, lg_0, lg_1, lg_2, lg_3, lg_4, lg_5, lg_6, lg_7, lg_8, lg_9, lg_10, lg_11, lg_12, lg_13, lg_14, lsq_0, lsl_0, lsq_1, lsl_1, lsq_2, lsl_2, lsq_3, lsl_3, lsq_4, lsl_4, lsq_5, lsl_5, lsq_6, lsl_6, lsq_7, lsl_7, lsq_8, lsl_8, lsq_9, lsl_9, lsq_10, lsl_10, lsq_11, lsl_11, lsq_12, lsl_12, lsq_13, lsl_13, lsq_14, lsl_14, tk_0, tk_1, tk_2, tk_3, tk_4, tk_5, tk_6, tk_7, tk_8, cs_n, cs_i, cs_l, cs_r, cs_u, nl, rt_s, rt_n, CST1, Nat.reduceAdd, Nat.reduceLeDiff, va_rf, rtOk, Bool.false_eq_true, Bool.true_eq_false, if_false, if_true, ite_true, ite_false, true_and, and_true, eq_self, ne_eq, not_false_eq_true, not_true_eq_false, false_implies, true_implies, and_self, reduceCtorEq, Nat.reduceBEq, Bool.or_false, Bool.false_or, Bool.or_true, Bool.true_or, if1_0, if1_1, if1_01, one_01, zer_01, lg_cmp_ge, lg_cmp_le, lg_cmp_gt, lg_cmp_lt, lg_cmp_eq, Classical.not_not, SHm hS, SHr hS, toL, nI_1]
        refine ⟨fun q2 => ?_, fun q2 => ?_⟩
        · have := ih (j + 1) false (by omega) (by rw [he]; simp [allB, q2])
          exact this
        · have := ih (j + 1) true (by omega) (by rw [he]; simp [allB, q2]; rw [show i + j + 1 = i + (j + 1) by omega])
          exact this
  refine hG (fun q => q == 6) 60 _ _ _ _ (Nat.le_of_ble_eq_true rfl) ?_
  simp only [D_X12_areCells, vcS, vcC, vcI, gtF, ptF, inS, inV, fv0, fv1, fv2, fv3, fw0, fw1, lg_0, lg_1, lg_2, lg_3, lg_4, lg_5, lg_6, lg_7, lg_8, lg_9, lg_10, lg_11, lg_12, lg_13, lg_14, lsq_0, lsl_0, lsq_1, lsl_1, lsq_2, lsl_2, lsq_3, lsl_3, lsq_4, lsl_4, lsq_5, lsl_5, lsq_6, lsl_6, lsq_7, lsl_7, lsq_8, lsl_8, lsq_9, lsl_9, lsq_10, lsl_10, lsq_11, lsl_11, lsq_12, lsl_12, lsq_13, lsl_13, lsq_14, lsl_14, tk_0, tk_1, tk_2, tk_3, tk_4, tk_5, tk_6, tk_7, tk_8, cs_n, cs_i, cs_l, cs_r, cs_u, nl, rt_s, rt_n, CST1, Nat.reduceAdd, Nat.reduceLeDiff, va_rf, rtOk, Bool.false_eq_true, Bool.true_eq_false, if_false, if_true, ite_true, ite_false, true_and, and_true, eq_self, ne_eq, not_false_eq_true, not_true_eq_false, false_implies, true_implies, and_self, reduceCtorEq, Nat.reduceBEq, Bool.or_false, Bool.false_or, Bool.or_true, Bool.true_or, if1_0, if1_1, if1_01, one_01, zer_01, lg_cmp_ge, lg_cmp_le, lg_cmp_gt, lg_cmp_lt, lg_cmp_eq, Classical.not_not, SHm hS, SHr hS]
  have := loop w 0 true (by omega) (by simp)
  rw [nI_0] at this
  exact this
end H12
end
section
/-! part 13: the invariant between the class's memory and the reference's -/
def i_bw (x : Int32) (lo hi : Int) : Prop := lo ≤ x.toInt ∧ x.toInt ≤ hi
/-- a number that is kept on both sides, as a count -/
def i_nr (x y : Int32) (N : Nat) : Prop := x = nI N ∧ y = nI N
def I_sh1 (s : aS) (a b k : Nat) : Prop := (s a 1 = 0 ∧ s 85 k = -1) ∨ (s a 1 = 1 ∧ s a 3 = s 85 k ∧ i_bw (s 85 k) 0 60 ∧ s a 2 = s 86 k ∧ i_bw (s 86 k) 0 2 ∧ ∀ i : Nat, (i : Int) < (s 85 k).toInt → s b i = s 87 (60 * k + i))
def I_sh (s : aS) : Prop := s 0 14 = s 48 0 ∧ I_sh1 s 40 41 0 ∧ I_sh1 s 42 43 1 ∧ I_sh1 s 44 45 2 ∧ I_sh1 s 46 47 3
def I_tr (s : aS) : Prop := s 0 13 = s 48 54
def cntB (p : Nat → Bool) : Nat → Nat
  | 0 => 0
  | m + 1 => cntB p m + (if p m = true then 1 else 0)
def I_kp (s : aS) (N : Nat) : Prop := (∀ j, j < 40 → s 36 j = s 82 j ∧ i_bw (s 82 j) (-9) 999) ∧ i_nr (s 35 3) (s 48 47) N ∧ N ≤ 60 ∧ ∀ k, k < 4 → s 37 k = nI (cntB (fun j => s 83 j == nI k) N) ∧ s 38 k = nI (cntB (fun j => s 83 j == nI k && s 84 j == 0) N)
def I_hr (s : aS) : Prop := (∀ j, j < 140 → s 24 j = s 70 j ∧ i_bw (s 70 j) 0 999) ∧ ∀ m, m < 10 → s 25 m = s 71 m ∧ i_bw (s 71 m) 0 3
def I_sk (s : aS) (N : Nat) : Prop := (∀ j, j < 48 → s 27 j = s 72 j) ∧ i_nr (s 26 3) (s 48 33) N ∧ N ≤ 200 ∧ (∀ j, j < N → s 28 j = s 73 j ∧ i_bw (s 73 j) 0 9999 ∧ s 29 j = s 74 j) ∧ ∀ j, N ≤ j → j < 200 → s 29 j = 0
def I_wk (s : aS) (N : Nat) : Prop := i_nr (s 9 3) (s 48 42) N ∧ N ≤ 8 ∧ ∀ j, j < N → s 10 j = s 79 j ∧ i_bw (s 79 j) 0 9 ∧ s 11 j = s 80 j ∧ i_bw (s 80 j) 0 9 ∧ s 12 j = s 81 j ∧ i_bw (s 81 j) 1 99
/-- the trap: a tree; state j is come to by one row alone -/
def I_tp (s : aS) (N : Nat) : Prop := i_nr (s 30 4) (s 48 36) N ∧ 1 ≤ N ∧ N ≤ 16 ∧ s 30 5 = s 48 39 ∧ (∀ j, j < 16 → s 33 j = s 76 j ∧ i_bw (s 76 j) 0 99)
  ∧ (∀ x, x < 64 → (s 75 x = -9 ∧ s 31 x = 0) ∨ ∃ j, x / 4 < j ∧ j < N ∧ s 75 x = nI j ∧ s 31 x = nI j ∧ s 32 j = nI (x % 4)) ∧ (∀ x y, x < 64 → y < 64 → s 75 x = s 75 y → 0 ≤ (s 75 x).toInt → x = y)
end
section
/-! part 14: counts and groups -/
def regL : List Nat := [0, 1, 1, 1, 1, 1, 0, 0, 0, 2, 2, 2, 2, 3, 3, 3, 3, 3, 3, 3, 3, 0, 0, 7, 7, 7, 8, 8, 8, 8, 9, 9, 9, 9, 0, 10, 10, 10, 10, 11, 11, 11, 11, 11, 11, 11, 11, 11, 0, 1, 1, 1, 1, 1, 0, 3, 3, 3, 3, 3, 3, 3, 3, 3, 3, 3, 3, 3, 3, 0, 7, 7, 8, 8, 8, 9, 9, 0, 0, 2, 2, 2, 10, 10, 10, 11, 11, 11, 0]
/-- which part of the state a place belongs to; 0: nobody's -/
def reg (a k : Nat) : Nat :=
  if a = 0 then (if k = 11 ∨ k = 12 then 3 else if k = 13 then 12 else if k = 14 then 13 else 0)
  else if a = 1 then (if k = 7 then 0 else 1)
  else if a = 48 then (if k = 0 then 13 else if k = 4 ∨ k = 7 then 1 else if k = 9 ∨ k = 18 ∨ k = 21 then 3 else if k = 33 then 8 else if k = 36 ∨ k = 39 then 9 else if k = 42 then 2 else if k = 47 then 10 else if k = 54 then 12 else 0)
  else regL.getD a 3
/-- nothing of the state but these parts has changed -/
def Fr (ms : List Nat) (s s' : aS) : Prop := ∀ a k, reg a k ∉ ms → reg a k ≠ 0 → s' a k = s a k
theorem Fr.rfl {ms : List Nat} {s : aS} : Fr ms s s := fun _ _ _ _ => Eq.refl _
theorem Fr.tr {ms : List Nat} {s s' s'' : aS} (h : Fr ms s s') (h2 : Fr ms s' s'') : Fr ms s s'' := fun a k q1 q2 => (h2 a k q1 q2).trans (h a k q1 q2)
theorem Fr.put {ms : List Nat} {s s' : aS} {a k : Nat} {x : Int32} (h : Fr ms s s') (hr : reg a k ∈ ms ∨ reg a k = 0) : Fr ms s (s2 s' a k x) := by
  intro b j q1 q2
  by_cases hb : b = a
  · subst hb
    by_cases hj : j = k
    · subst hj
      rcases hr with hr | hr
      · exact absurd hr q1
      · exact absurd hr q2
    · rw [s2_eq]
      simp only [upd, if_neg hj]
      exact h b j q1 q2
  · rw [s2_ne hb]
    exact h b j q1 q2
theorem Fr.putq {ms : List Nat} {s s' : aS} {a k m : Nat} {x : Int32} (h : Fr ms s s') (hr : reg a k = m) (hm : m ∈ ms) : Fr ms s (s2 s' a k x) := h.put (Or.inl (hr ▸ hm))
theorem I_hr.fr {s s' : aS} (h : I_hr s) (hf : ∀ a k, reg a k = 7 → s' a k = s a k) : I_hr s' := by
  have e1 : ∀ j, s' 24 j = s 24 j := fun j => hf 24 j rfl
  have e2 : ∀ j, s' 25 j = s 25 j := fun j => hf 25 j rfl
  have e3 : ∀ j, s' 70 j = s 70 j := fun j => hf 70 j rfl
  have e4 : ∀ j, s' 71 j = s 71 j := fun j => hf 71 j rfl
  unfold I_hr at *
  simp only [e1, e2, e3, e4]
  exact h
section H14
variable {d n : Nat} {mu : aM} {ro : aR} {sg : aS} {K : Option Value → aS → Prop}
/-- an int in a range is a count -/
theorem i_of {x : Int32} {N : Nat} (h0 : 0 ≤ x.toInt) (h1 : x.toInt ≤ N) (hN : N < 2147483648) : ∃ j : Nat, j ≤ N ∧ x = nI j := by
  refine ⟨x.toInt.toNat, by omega, i_eq.mpr ?_⟩
  rw [nI_toInt (by omega)]
  omega
set_option maxHeartbeats 4000000 in
set_option maxRecDepth 100000 in
theorem c_change {m h : Nat} {w : Int32} (hS : Sh mu ro) (hm : m < 10) (hh : h < 14) (hk : K (some (.int (sg 24 (14 * m + h)))) (s2 sg 24 (14 * m + h) w)) : aCall d 11 [.ref 23, .int (nI m), .int (nI h), .int w] n mu ro sg K := by
  refine aCall_start (mL := 5) (cc := cX2_change) (o := 2) (ret := (some .int)) 1 (by decide) (by decide +kernel) rfl rfl rfl rfl (Nat.le_of_ble_eq_true rfl) (fun G hC hG => ?_)
  simp only [exL, List.cons_append, List.nil_append, rp_0, rp_1, rp_2, rp_3, rp_4, rp_5, rp_6, rp_7, rp_8, rp_9, rp_10, rp_11, List.append_nil]
  refine hG (fun _ => false) 60 _ _ _ _ (Nat.le_of_ble_eq_true rfl) ?_
  have e0 : nI m * 14 + nI h = nI (14 * m + h) := by rw [show (14 : Int32) = nI 14 from rfl, pk_mul, nI_add, Nat.mul_comm]
  have e1 : (nI (14 * m + h)).toNatClampNeg = 14 * m + h := nI_clamp (by omega)
  have e2 : vp_in (nI (14 * m + h)) 140 := vp_in_nI (by omega) (by decide)
  simp only [D_X2_change, vcS, vcC, vcI, gtF, ptF, inS, inV, fv0, fv1, fv2, fv3, fw0, fw1, lg_0, lg_1, lg_2, lg_3, lg_4, lg_5, lg_6, lg_7, lg_8, lg_9, lg_10, lg_11, lg_12, lg_13, lg_14, lsq_0, lsl_0, lsq_1, lsl_1, lsq_2, lsl_2, lsq_3, lsl_3, lsq_4, lsl_4, lsq_5, lsl_5, lsq_6, lsl_6, lsq_7, lsl_7, lsq_8, lsl_8, lsq_9, lsl_9, lsq_10, lsl_10, lsq_11, lsl_11, lsq_12, lsl_12, lsq_13, lsl_13, lsq_14, lsl_14, tk_0, tk_1, tk_2, tk_3, tk_4, tk_5, tk_6, tk_7, tk_8, cs_n, cs_i, cs_l, cs_r, cs_u, nl, rt_s, rt_n, CST1, Nat.reduceAdd, Nat.reduceLeDiff, va_rf, rtOk, Bool.false_eq_true, Bool.true_eq_false, if_false, if_true, ite_true, ite_false, true_and, and_true, eq_self, ne_eq, not_false_eq_true, not_true_eq_false, false_implies, true_implies, and_self, reduceCtorEq, Nat.reduceBEq, Bool.or_false, Bool.false_or, Bool.or_true, Bool.true_or, if1_0, if1_1, if1_01, one_01, zer_01, lg_cmp_ge, lg_cmp_le, lg_cmp_gt, lg_cmp_lt, lg_cmp_eq, Classical.not_not, SHm hS, SHr hS, e0, e1]
  exact ⟨e2, e2, hk⟩
def cntR (s : aS) (A : Nat) (m h w : Int32) : Int32 := if ¬ (0 ≤ m.toInt ∧ m.toInt ≤ 9) then -1 else if ¬ ((0 ≤ h.toInt ∧ h.toInt ≤ 13) ∧ 0 ≤ w.toInt ∧ w.toInt ≤ 999) then -2 else s A (14 * m.toNatClampNeg + h.toNatClampNeg)
def cntS (s : aS) (A : Nat) (m h w : Int32) : aS := if (0 ≤ m.toInt ∧ m.toInt ≤ 9) ∧ (0 ≤ h.toInt ∧ h.toInt ≤ 13) ∧ 0 ≤ w.toInt ∧ w.toInt ≤ 999 then s2 s A (14 * m.toNatClampNeg + h.toNatClampNeg) w else s
set_option maxHeartbeats 4000000 in
set_option maxRecDepth 100000 in
theorem c_count {m h w : Int32} (hS : Sh mu ro) (hd : 3 ≤ d) (hk : K (some (.int (cntR sg 24 m h w))) (cntS sg 24 m h w)) : aCall d 112 [.ref 0, .int m, .int h, .int w] n mu ro sg K := by
  refine aCall_start (mL := 4) (cc := cX11_count) (o := 11) (ret := (some .int)) 0 (by decide) (by decide +kernel) rfl rfl rfl rfl (Nat.le_of_ble_eq_true rfl) (fun G hC hG => ?_)
  simp only [exL, List.cons_append, List.nil_append, rp_0, rp_1, rp_2, rp_3, rp_4, rp_5, rp_6, rp_7, rp_8, rp_9, rp_10, rp_11, List.append_nil]
  refine hG (fun _ => false) 60 _ _ _ _ (Nat.le_of_ble_eq_true rfl) ?_
  simp only [D_X11_count, N_X11_count, vcS, vcC, vcI, gtF, ptF, inS, inV, fv0, fv1, fv2, fv3, fw0, fw1, lg_0, lg_1, lg_2, lg_3, lg_4, lg_5, lg_6, lg_7, lg_8, lg_9, lg_10, lg_11, lg_12, lg_13, lg_14, lsq_0, lsl_0, lsq_1, lsl_1, lsq_2, lsl_2, lsq_3, lsl_3, lsq_4, lsl_4, lsq_5, lsl_5, lsq_6, lsl_6, lsq_7, lsl_7, lsq_8, lsl_8, lsq_9, lsl_9, lsq_10, lsl_10, lsq_11, lsl_11, lsq_12, lsl_12, lsq_13, lsl_13, lsq_14, lsl_14, tk_0, tk_1, tk_2, tk_3, tk_4, tk_5, tk_6, tk_7, tk_8, cs_n, cs_i, cs_l, cs_r, cs_u, nl, rt_s, rt_n, CST1, Nat.reduceAdd, Nat.reduceLeDiff, va_rf, rtOk, Bool.false_eq_true, Bool.true_eq_false, if_false, if_true, ite_true, ite_false, true_and, and_true, eq_self, ne_eq, not_false_eq_true, not_true_eq_false, false_implies, true_implies, and_self, reduceCtorEq, Nat.reduceBEq, Bool.or_false, Bool.false_or, Bool.or_true, Bool.true_or, if1_0, if1_1, if1_01, one_01, zer_01, lg_cmp_ge, lg_cmp_le, lg_cmp_gt, lg_cmp_lt, lg_cmp_eq, Classical.not_not, SHm hS, SHr hS]
  by_cases hok : (0 ≤ m.toInt ∧ m.toInt ≤ 9) ∧ (0 ≤ h.toInt ∧ h.toInt ≤ 13)
  · obtain ⟨m', hm', rfl⟩ := i_of (N := 9) hok.1.1 hok.1.2 (by decide)
    obtain ⟨h', hh', rfl⟩ := i_of (N := 13) hok.2.1 hok.2.2 (by decide)
    have e1 : (nI m').toInt = m' := nI_toInt (by omega)
    have e2 : (nI h').toInt = h' := nI_toInt (by omega)
    have e3 : (nI m').toNatClampNeg = m' := nI_clamp (by omega)
    have e4 : (nI h').toNatClampNeg = h' := nI_clamp (by omega)
    rw [cntR, cntS, e3, e4] at hk
    repeat' (first | (with_reducible assumption) | (refine vp_in_iff.mpr ?_; ((try simp only [i_le, i_lt, i_eq, l_le, l_lt, l_eq, i_ne, l_ne, toL, l_add, l_sub1, LIT1, LIT2, Int.reduceNeg, ge_iff_le, gt_iff_lt] at *); omega)) | (refine And.intro ?_ ?_) | (omega) | (refine c_isMachine (by omega) ?_; simp only [D_X11_count, N_X11_count, vcS, vcC, vcI, gtF, ptF, inS, inV, fv0, fv1, fv2, fv3, fw0, fw1, lg_0, lg_1, lg_2, lg_3, lg_4, lg_5, lg_6, lg_7, lg_8, lg_9, lg_10, lg_11, lg_12, lg_13, lg_14, lsq_0, lsl_0, lsq_1, lsl_1, lsq_2, lsl_2, lsq_3, lsl_3, lsq_4, lsl_4, lsq_5, lsl_5, lsq_6, lsl_6, lsq_7, lsl_7, lsq_8, lsl_8, lsq_9, lsl_9, lsq_10, lsl_10, lsq_11, lsl_11, lsq_12, lsl_12, lsq_13, lsl_13, lsq_14, lsl_14, tk_0, tk_1, tk_2, tk_3, tk_4, tk_5, tk_6, tk_7, tk_8, cs_n, cs_i, cs_l, cs_r, cs_u, nl, rt_s, rt_n, CST1, Nat.reduceAdd, Nat.reduceLeDiff, va_rf, rtOk, Bool.false_eq_true, Bool.true_eq_false, if_false, if_true, ite_true, ite_false, true_and, and_true, eq_self, ne_eq, not_false_eq_true, not_true_eq_false, false_implies, true_implies, and_self, reduceCtorEq, Nat.reduceBEq, Bool.or_false, Bool.false_or, Bool.or_true, Bool.true_or, if1_0, if1_1, if1_01, one_01, zer_01, lg_cmp_ge, lg_cmp_le, lg_cmp_gt, lg_cmp_lt, lg_cmp_eq, Classical.not_not, SHm hS, SHr hS, LIT1]) | (refine c_isIn ?_; simp only [D_X11_count, N_X11_count, vcS, vcC, vcI, gtF, ptF, inS, inV, fv0, fv1, fv2, fv3, fw0, fw1, lg_0, lg_1, lg_2, lg_3, lg_4, lg_5, lg_6, lg_7, lg_8, lg_9, lg_10, lg_11, lg_12, lg_13, lg_14, lsq_0, lsl_0, lsq_1, lsl_1, lsq_2, lsl_2, lsq_3, lsl_3, lsq_4, lsl_4, lsq_5, lsl_5, lsq_6, lsl_6, lsq_7, lsl_7, lsq_8, lsl_8, lsq_9, lsl_9, lsq_10, lsl_10, lsq_11, lsl_11, lsq_12, lsl_12, lsq_13, lsl_13, lsq_14, lsl_14, tk_0, tk_1, tk_2, tk_3, tk_4, tk_5, tk_6, tk_7, tk_8, cs_n, cs_i, cs_l, cs_r, cs_u, nl, rt_s, rt_n, CST1, Nat.reduceAdd, Nat.reduceLeDiff, va_rf, rtOk, Bool.false_eq_true, Bool.true_eq_false, if_false, if_true, ite_true, ite_false, true_and, and_true, eq_self, ne_eq, not_false_eq_true, not_true_eq_false, false_implies, true_implies, and_self, reduceCtorEq, Nat.reduceBEq, Bool.or_false, Bool.false_or, Bool.or_true, Bool.true_or, if1_0, if1_1, if1_01, one_01, zer_01, lg_cmp_ge, lg_cmp_le, lg_cmp_gt, lg_cmp_lt, lg_cmp_eq, Classical.not_not, SHm hS, SHr hS, LIT1]) | (refine c_change hS (by omega) (by omega) ?_; simp only [D_X11_count, N_X11_count, vcS, vcC, vcI, gtF, ptF, inS, inV, fv0, fv1, fv2, fv3, fw0, fw1, lg_0, lg_1, lg_2, lg_3, lg_4, lg_5, lg_6, lg_7, lg_8, lg_9, lg_10, lg_11, lg_12, lg_13, lg_14, lsq_0, lsl_0, lsq_1, lsl_1, lsq_2, lsl_2, lsq_3, lsl_3, lsq_4, lsl_4, lsq_5, lsl_5, lsq_6, lsl_6, lsq_7, lsl_7, lsq_8, lsl_8, lsq_9, lsl_9, lsq_10, lsl_10, lsq_11, lsl_11, lsq_12, lsl_12, lsq_13, lsl_13, lsq_14, lsl_14, tk_0, tk_1, tk_2, tk_3, tk_4, tk_5, tk_6, tk_7, tk_8, cs_n, cs_i, cs_l, cs_r, cs_u, nl, rt_s, rt_n, CST1, Nat.reduceAdd, Nat.reduceLeDiff, va_rf, rtOk, Bool.false_eq_true, Bool.true_eq_false, if_false, if_true, ite_true, ite_false, true_and, and_true, eq_self, ne_eq, not_false_eq_true, not_true_eq_false, false_implies, true_implies, and_self, reduceCtorEq, Nat.reduceBEq, Bool.or_false, Bool.false_or, Bool.or_true, Bool.true_or, if1_0, if1_1, if1_01, one_01, zer_01, lg_cmp_ge, lg_cmp_le, lg_cmp_gt, lg_cmp_lt, lg_cmp_eq, Classical.not_not, SHm hS, SHr hS, LIT1]) | (intro _))
    all_goals first | ((refine Eq.mp (congr (congrArg K ?_) ?_) hk) <;> (clear hk; (try unfold cntR); (try unfold cntS); (repeat' split) <;> first | rfl | (exfalso; ((try simp only [i_le, i_lt, i_eq, l_le, l_lt, l_eq, i_ne, l_ne, toL, l_add, l_sub1, LIT1, LIT2, Int.reduceNeg, ge_iff_le, gt_iff_lt] at *); omega))))
  · repeat' (first | (with_reducible assumption) | (refine vp_in_iff.mpr ?_; ((try simp only [i_le, i_lt, i_eq, l_le, l_lt, l_eq, i_ne, l_ne, toL, l_add, l_sub1, LIT1, LIT2, Int.reduceNeg, ge_iff_le, gt_iff_lt] at *); omega)) | (refine And.intro ?_ ?_) | (omega) | (refine c_isMachine (by omega) ?_; simp only [D_X11_count, N_X11_count, vcS, vcC, vcI, gtF, ptF, inS, inV, fv0, fv1, fv2, fv3, fw0, fw1, lg_0, lg_1, lg_2, lg_3, lg_4, lg_5, lg_6, lg_7, lg_8, lg_9, lg_10, lg_11, lg_12, lg_13, lg_14, lsq_0, lsl_0, lsq_1, lsl_1, lsq_2, lsl_2, lsq_3, lsl_3, lsq_4, lsl_4, lsq_5, lsl_5, lsq_6, lsl_6, lsq_7, lsl_7, lsq_8, lsl_8, lsq_9, lsl_9, lsq_10, lsl_10, lsq_11, lsl_11, lsq_12, lsl_12, lsq_13, lsl_13, lsq_14, lsl_14, tk_0, tk_1, tk_2, tk_3, tk_4, tk_5, tk_6, tk_7, tk_8, cs_n, cs_i, cs_l, cs_r, cs_u, nl, rt_s, rt_n, CST1, Nat.reduceAdd, Nat.reduceLeDiff, va_rf, rtOk, Bool.false_eq_true, Bool.true_eq_false, if_false, if_true, ite_true, ite_false, true_and, and_true, eq_self, ne_eq, not_false_eq_true, not_true_eq_false, false_implies, true_implies, and_self, reduceCtorEq, Nat.reduceBEq, Bool.or_false, Bool.false_or, Bool.or_true, Bool.true_or, if1_0, if1_1, if1_01, one_01, zer_01, lg_cmp_ge, lg_cmp_le, lg_cmp_gt, lg_cmp_lt, lg_cmp_eq, Classical.not_not, SHm hS, SHr hS, LIT1]) | (refine c_isIn ?_; simp only [D_X11_count, N_X11_count, vcS, vcC, vcI, gtF, ptF, inS, inV, fv0, fv1, fv2, fv3, fw0, fw1, lg_0, lg_1, lg_2, lg_3, lg_4, lg_5, lg_6, lg_7, lg_8, lg_9, lg_10, lg_11, lg_12, lg_13, lg_14, lsq_0, lsl_0, lsq_1, lsl_1, lsq_2, lsl_2, lsq_3, lsl_3, lsq_4, lsl_4, lsq_5, lsl_5, lsq_6, lsl_6, lsq_7, lsl_7, lsq_8, lsl_8, lsq_9, lsl_9, lsq_10, lsl_10, lsq_11, lsl_11, lsq_12, lsl_12, lsq_13, lsl_13, lsq_14, lsl_14, tk_0, tk_1, tk_2, tk_3, tk_4, tk_5, tk_6, tk_7, tk_8, cs_n, cs_i, cs_l, cs_r, cs_u, nl, rt_s, rt_n, CST1, Nat.reduceAdd, Nat.reduceLeDiff, va_rf, rtOk, Bool.false_eq_true, Bool.true_eq_false, if_false, if_true, ite_true, ite_false, true_and, and_true, eq_self, ne_eq, not_false_eq_true, not_true_eq_false, false_implies, true_implies, and_self, reduceCtorEq, Nat.reduceBEq, Bool.or_false, Bool.false_or, Bool.or_true, Bool.true_or, if1_0, if1_1, if1_01, one_01, zer_01, lg_cmp_ge, lg_cmp_le, lg_cmp_gt, lg_cmp_lt, lg_cmp_eq, Classical.not_not, SHm hS, SHr hS, LIT1]) | (intro _))
    all_goals first | ((refine Eq.mp (congr (congrArg K ?_) ?_) hk) <;> (clear hk; (try unfold cntR); (try unfold cntS); (repeat' split) <;> first | rfl | (exfalso; ((try simp only [i_le, i_lt, i_eq, l_le, l_lt, l_eq, i_ne, l_ne, toL, l_add, l_sub1, LIT1, LIT2, Int.reduceNeg, ge_iff_le, gt_iff_lt] at *); omega)))) | (exfalso; ((try simp only [i_le, i_lt, i_eq, l_le, l_lt, l_eq, i_ne, l_ne, toL, l_add, l_sub1, LIT1, LIT2, Int.reduceNeg, ge_iff_le, gt_iff_lt] at *); omega))
set_option maxHeartbeats 4000000 in
set_option maxRecDepth 100000 in
theorem m_count {m h w : Int32} (hS : Sh mu ro) (hd : 3 ≤ d) (hk : K (some (.int (cntR sg 70 m h w))) (cntS sg 70 m h w)) : aCall d 201 [.ref 48, .int m, .int h, .int w] n mu ro sg K := by
  refine aCall_start (mL := 5) (cc := cX12_count) (o := 12) (ret := (some .int)) 1 (by decide) (by decide +kernel) rfl rfl rfl rfl (Nat.le_of_ble_eq_true rfl) (fun G hC hG => ?_)
  simp only [exL, List.cons_append, List.nil_append, rp_0, rp_1, rp_2, rp_3, rp_4, rp_5, rp_6, rp_7, rp_8, rp_9, rp_10, rp_11, List.append_nil]
  refine hG (fun _ => false) 60 _ _ _ _ (Nat.le_of_ble_eq_true rfl) ?_
  simp only [D_X12_count, vcS, vcC, vcI, gtF, ptF, inS, inV, fv0, fv1, fv2, fv3, fw0, fw1, lg_0, lg_1, lg_2, lg_3, lg_4, lg_5, lg_6, lg_7, lg_8, lg_9, lg_10, lg_11, lg_12, lg_13, lg_14, lsq_0, lsl_0, lsq_1, lsl_1, lsq_2, lsl_2, lsq_3, lsl_3, lsq_4, lsl_4, lsq_5, lsl_5, lsq_6, lsl_6, lsq_7, lsl_7, lsq_8, lsl_8, lsq_9, lsl_9, lsq_10, lsl_10, lsq_11, lsl_11, lsq_12, lsl_12, lsq_13, lsl_13, lsq_14, lsl_14, tk_0, tk_1, tk_2, tk_3, tk_4, tk_5, tk_6, tk_7, tk_8, cs_n, cs_i, cs_l, cs_r, cs_u, nl, rt_s, rt_n, CST1, Nat.reduceAdd, Nat.reduceLeDiff, va_rf, rtOk, Bool.false_eq_true, Bool.true_eq_false, if_false, if_true, ite_true, ite_false, true_and, and_true, eq_self, ne_eq, not_false_eq_true, not_true_eq_false, false_implies, true_implies, and_self, reduceCtorEq, Nat.reduceBEq, Bool.or_false, Bool.false_or, Bool.or_true, Bool.true_or, if1_0, if1_1, if1_01, one_01, zer_01, lg_cmp_ge, lg_cmp_le, lg_cmp_gt, lg_cmp_lt, lg_cmp_eq, Classical.not_not, SHm hS, SHr hS]
  by_cases hok : (0 ≤ m.toInt ∧ m.toInt ≤ 9) ∧ (0 ≤ h.toInt ∧ h.toInt ≤ 13)
  · obtain ⟨m', hm', rfl⟩ := i_of (N := 9) hok.1.1 hok.1.2 (by decide)
    obtain ⟨h', hh', rfl⟩ := i_of (N := 13) hok.2.1 hok.2.2 (by decide)
    have e1 : (nI m').toInt = m' := nI_toInt (by omega)
    have e2 : (nI h').toInt = h' := nI_toInt (by omega)
    have e3 : (nI m').toNatClampNeg = m' := nI_clamp (by omega)
    have e4 : (nI h').toNatClampNeg = h' := nI_clamp (by omega)
    rw [cntR, cntS, e3, e4] at hk
    have e5 : 14 * nI m' + nI h' = nI (14 * m' + h') := by rw [show (14 : Int32) = nI 14 from rfl, pk_mul, nI_add]
    have e6 : (nI (14 * m' + h')).toNatClampNeg = 14 * m' + h' := nI_clamp (by omega)
    have e7 : vp_in (nI (14 * m' + h')) 140 := vp_in_nI (by omega) (by decide)
    repeat' (first | (with_reducible assumption) | (refine vp_in_iff.mpr ?_; ((try simp only [i_le, i_lt, i_eq, l_le, l_lt, l_eq, i_ne, l_ne, toL, l_add, l_sub1, LIT1, LIT2, Int.reduceNeg, ge_iff_le, gt_iff_lt] at *); omega)) | (refine And.intro ?_ ?_) | (omega) | (refine m_noMachine (by omega) ?_; simp only [D_X12_count, vcS, vcC, vcI, gtF, ptF, inS, inV, fv0, fv1, fv2, fv3, fw0, fw1, lg_0, lg_1, lg_2, lg_3, lg_4, lg_5, lg_6, lg_7, lg_8, lg_9, lg_10, lg_11, lg_12, lg_13, lg_14, lsq_0, lsl_0, lsq_1, lsl_1, lsq_2, lsl_2, lsq_3, lsl_3, lsq_4, lsl_4, lsq_5, lsl_5, lsq_6, lsl_6, lsq_7, lsl_7, lsq_8, lsl_8, lsq_9, lsl_9, lsq_10, lsl_10, lsq_11, lsl_11, lsq_12, lsl_12, lsq_13, lsl_13, lsq_14, lsl_14, tk_0, tk_1, tk_2, tk_3, tk_4, tk_5, tk_6, tk_7, tk_8, cs_n, cs_i, cs_l, cs_r, cs_u, nl, rt_s, rt_n, CST1, Nat.reduceAdd, Nat.reduceLeDiff, va_rf, rtOk, Bool.false_eq_true, Bool.true_eq_false, if_false, if_true, ite_true, ite_false, true_and, and_true, eq_self, ne_eq, not_false_eq_true, not_true_eq_false, false_implies, true_implies, and_self, reduceCtorEq, Nat.reduceBEq, Bool.or_false, Bool.false_or, Bool.or_true, Bool.true_or, if1_0, if1_1, if1_01, one_01, zer_01, lg_cmp_ge, lg_cmp_le, lg_cmp_gt, lg_cmp_lt, lg_cmp_eq, Classical.not_not, SHm hS, SHr hS, LIT2, toL, e5, e6]) | (refine m_in ?_; simp only [D_X12_count, vcS, vcC, vcI, gtF, ptF, inS, inV, fv0, fv1, fv2, fv3, fw0, fw1, lg_0, lg_1, lg_2, lg_3, lg_4, lg_5, lg_6, lg_7, lg_8, lg_9, lg_10, lg_11, lg_12, lg_13, lg_14, lsq_0, lsl_0, lsq_1, lsl_1, lsq_2, lsl_2, lsq_3, lsl_3, lsq_4, lsl_4, lsq_5, lsl_5, lsq_6, lsl_6, lsq_7, lsl_7, lsq_8, lsl_8, lsq_9, lsl_9, lsq_10, lsl_10, lsq_11, lsl_11, lsq_12, lsl_12, lsq_13, lsl_13, lsq_14, lsl_14, tk_0, tk_1, tk_2, tk_3, tk_4, tk_5, tk_6, tk_7, tk_8, cs_n, cs_i, cs_l, cs_r, cs_u, nl, rt_s, rt_n, CST1, Nat.reduceAdd, Nat.reduceLeDiff, va_rf, rtOk, Bool.false_eq_true, Bool.true_eq_false, if_false, if_true, ite_true, ite_false, true_and, and_true, eq_self, ne_eq, not_false_eq_true, not_true_eq_false, false_implies, true_implies, and_self, reduceCtorEq, Nat.reduceBEq, Bool.or_false, Bool.false_or, Bool.or_true, Bool.true_or, if1_0, if1_1, if1_01, one_01, zer_01, lg_cmp_ge, lg_cmp_le, lg_cmp_gt, lg_cmp_lt, lg_cmp_eq, Classical.not_not, SHm hS, SHr hS, LIT2, toL, e5, e6]) | (intro _))
    all_goals first | ((refine Eq.mp (congr (congrArg K ?_) ?_) hk) <;> (clear hk; (try unfold cntR); (try unfold cntS); (repeat' split) <;> first | rfl | (exfalso; ((try simp only [i_le, i_lt, i_eq, l_le, l_lt, l_eq, i_ne, l_ne, toL, l_add, l_sub1, LIT1, LIT2, Int.reduceNeg, ge_iff_le, gt_iff_lt] at *); omega))))
  · repeat' (first | (with_reducible assumption) | (refine vp_in_iff.mpr ?_; ((try simp only [i_le, i_lt, i_eq, l_le, l_lt, l_eq, i_ne, l_ne, toL, l_add, l_sub1, LIT1, LIT2, Int.reduceNeg, ge_iff_le, gt_iff_lt] at *); omega)) | (refine And.intro ?_ ?_) | (omega) | (refine m_noMachine (by omega) ?_; simp only [D_X12_count, vcS, vcC, vcI, gtF, ptF, inS, inV, fv0, fv1, fv2, fv3, fw0, fw1, lg_0, lg_1, lg_2, lg_3, lg_4, lg_5, lg_6, lg_7, lg_8, lg_9, lg_10, lg_11, lg_12, lg_13, lg_14, lsq_0, lsl_0, lsq_1, lsl_1, lsq_2, lsl_2, lsq_3, lsl_3, lsq_4, lsl_4, lsq_5, lsl_5, lsq_6, lsl_6, lsq_7, lsl_7, lsq_8, lsl_8, lsq_9, lsl_9, lsq_10, lsl_10, lsq_11, lsl_11, lsq_12, lsl_12, lsq_13, lsl_13, lsq_14, lsl_14, tk_0, tk_1, tk_2, tk_3, tk_4, tk_5, tk_6, tk_7, tk_8, cs_n, cs_i, cs_l, cs_r, cs_u, nl, rt_s, rt_n, CST1, Nat.reduceAdd, Nat.reduceLeDiff, va_rf, rtOk, Bool.false_eq_true, Bool.true_eq_false, if_false, if_true, ite_true, ite_false, true_and, and_true, eq_self, ne_eq, not_false_eq_true, not_true_eq_false, false_implies, true_implies, and_self, reduceCtorEq, Nat.reduceBEq, Bool.or_false, Bool.false_or, Bool.or_true, Bool.true_or, if1_0, if1_1, if1_01, one_01, zer_01, lg_cmp_ge, lg_cmp_le, lg_cmp_gt, lg_cmp_lt, lg_cmp_eq, Classical.not_not, SHm hS, SHr hS, LIT2, toL]) | (refine m_in ?_; simp only [D_X12_count, vcS, vcC, vcI, gtF, ptF, inS, inV, fv0, fv1, fv2, fv3, fw0, fw1, lg_0, lg_1, lg_2, lg_3, lg_4, lg_5, lg_6, lg_7, lg_8, lg_9, lg_10, lg_11, lg_12, lg_13, lg_14, lsq_0, lsl_0, lsq_1, lsl_1, lsq_2, lsl_2, lsq_3, lsl_3, lsq_4, lsl_4, lsq_5, lsl_5, lsq_6, lsl_6, lsq_7, lsl_7, lsq_8, lsl_8, lsq_9, lsl_9, lsq_10, lsl_10, lsq_11, lsl_11, lsq_12, lsl_12, lsq_13, lsl_13, lsq_14, lsl_14, tk_0, tk_1, tk_2, tk_3, tk_4, tk_5, tk_6, tk_7, tk_8, cs_n, cs_i, cs_l, cs_r, cs_u, nl, rt_s, rt_n, CST1, Nat.reduceAdd, Nat.reduceLeDiff, va_rf, rtOk, Bool.false_eq_true, Bool.true_eq_false, if_false, if_true, ite_true, ite_false, true_and, and_true, eq_self, ne_eq, not_false_eq_true, not_true_eq_false, false_implies, true_implies, and_self, reduceCtorEq, Nat.reduceBEq, Bool.or_false, Bool.false_or, Bool.or_true, Bool.true_or, if1_0, if1_1, if1_01, one_01, zer_01, lg_cmp_ge, lg_cmp_le, lg_cmp_gt, lg_cmp_lt, lg_cmp_eq, Classical.not_not, SHm hS, SHr hS, LIT2, toL]) | (intro _))
    all_goals first | ((refine Eq.mp (congr (congrArg K ?_) ?_) hk) <;> (clear hk; (try unfold cntR); (try unfold cntS); (repeat' split) <;> first | rfl | (exfalso; ((try simp only [i_le, i_lt, i_eq, l_le, l_lt, l_eq, i_ne, l_ne, toL, l_add, l_sub1, LIT1, LIT2, Int.reduceNeg, ge_iff_le, gt_iff_lt] at *); omega)))) | (exfalso; ((try simp only [i_le, i_lt, i_eq, l_le, l_lt, l_eq, i_ne, l_ne, toL, l_add, l_sub1, LIT1, LIT2, Int.reduceNeg, ge_iff_le, gt_iff_lt] at *); omega))
set_option maxHeartbeats 4000000 in
set_option maxRecDepth 100000 in
theorem b_count {m h w : Int32} (hS : Sh mu ro) (hd : 3 ≤ d) (hI : I_hr sg) (hk : ∀ r sg2, I_hr sg2 → Fr [7] sg sg2 → K r sg2) : aCall d 112 [.ref 0, .int m, .int h, .int w] n mu ro sg (fun r1 sg1 => aCall d 201 [.ref 48, .int m, .int h, .int w] n mu ro sg1 (fun r2 sg2 => r1 = r2 ∧ K r1 sg2)) := by
  refine c_count hS hd (m_count hS hd ?_)
  by_cases hok : (0 ≤ m.toInt ∧ m.toInt ≤ 9) ∧ (0 ≤ h.toInt ∧ h.toInt ≤ 13) ∧ 0 ≤ w.toInt ∧ w.toInt ≤ 999
  · have hj : 14 * m.toNatClampNeg + h.toNatClampNeg < 140 := by
      obtain ⟨m', q1, q2, q3⟩ := i_nat (k := m) (N := 10) (by omega) (by omega)
      obtain ⟨h', q4, q5, q6⟩ := i_nat (k := h) (N := 14) (by omega) (by omega)
      omega
    rw [cntS, if_pos hok, cntS, if_pos hok, cntR, cntR, if_neg (not_not_intro hok.1), if_neg (not_not_intro hok.1), if_neg (not_not_intro hok.2), if_neg (not_not_intro hok.2)]
    generalize 14 * m.toNatClampNeg + h.toNatClampNeg = j at hj ⊢
    refine ⟨?_, hk _ _ ⟨fun i hi => ?_, fun i hi => ?_⟩ ?_⟩
    · rw [s2_ne (by decide), (hI.1 j hj).1]
    · rw [s2_ne (by decide), s2_eq, s2_eq, s2_ne (by decide)]
      by_cases hij : i = j
      · subst hij
        simp only [upd, if_true]
        exact ⟨trivial, hok.2.2⟩
      · simp only [upd, if_neg hij]
        exact hI.1 i hi
    · rw [s2_ne (by decide), s2_ne (by decide), s2_ne (by decide), s2_ne (by decide)]
      exact hI.2 i hi
    · ((repeat (refine Fr.putq (m := 7) ?_ rfl (by decide))); exact Fr.rfl)
  · rw [cntS, if_neg hok, cntS, if_neg hok]
    refine ⟨?_, hk _ _ hI Fr.rfl⟩
    unfold cntR
    (repeat' split) <;> first | rfl | (exfalso; ((try simp only [i_le, i_lt, i_eq, l_le, l_lt, l_eq, i_ne, l_ne, toL, l_add, l_sub1, LIT1, LIT2, Int.reduceNeg, ge_iff_le, gt_iff_lt] at *); omega))
end H14
end
section
/-! part 15: small methods on both sides: group, may, answer, trace, fault, bar, work -/
theorem I_kp.fr {s s' : aS} {N : Nat} (h : I_kp s N) (hf : ∀ a k, reg a k = 10 → s' a k = s a k) : I_kp s' N := by
  have e1 : ∀ j, s' 36 j = s 36 j := fun j => hf 36 j rfl
  have e2 : ∀ j, s' 37 j = s 37 j := fun j => hf 37 j rfl
  have e3 : ∀ j, s' 38 j = s 38 j := fun j => hf 38 j rfl
  have e4 : ∀ j, s' 82 j = s 82 j := fun j => hf 82 j rfl
  have e5 : ∀ j, s' 83 j = s 83 j := fun j => hf 83 j rfl
  have e6 : ∀ j, s' 84 j = s 84 j := fun j => hf 84 j rfl
  have e7 : s' 35 3 = s 35 3 := hf 35 3 rfl
  have e8 : s' 48 47 = s 48 47 := hf 48 47 rfl
  unfold I_kp at *
  simp only [e1, e2, e3, e4, e5, e6, e7, e8]
  exact h
theorem I_tr.fr {s s' : aS} (h : I_tr s) (hf : ∀ a k, reg a k = 12 → s' a k = s a k) : I_tr s' := by
  unfold I_tr at *
  rw [hf 0 13 rfl, hf 48 54 rfl]
  exact h
theorem I_wk.fr {s s' : aS} {N : Nat} (h : I_wk s N) (hf : ∀ a k, reg a k = 2 → s' a k = s a k) : I_wk s' N := by
  have e1 : ∀ j, s' 10 j = s 10 j := fun j => hf 10 j rfl
  have e2 : ∀ j, s' 11 j = s 11 j := fun j => hf 11 j rfl
  have e3 : ∀ j, s' 12 j = s 12 j := fun j => hf 12 j rfl
  have e4 : ∀ j, s' 79 j = s 79 j := fun j => hf 79 j rfl
  have e5 : ∀ j, s' 80 j = s 80 j := fun j => hf 80 j rfl
  have e6 : ∀ j, s' 81 j = s 81 j := fun j => hf 81 j rfl
  have e7 : s' 9 3 = s 9 3 := hf 9 3 rfl
  have e8 : s' 48 42 = s 48 42 := hf 48 42 rfl
  unfold I_wk at *
  simp only [e1, e2, e3, e4, e5, e6, e7, e8]
  exact h
theorem I_tp.fr {s s' : aS} {N : Nat} (h : I_tp s N) (hf : ∀ a k, reg a k = 9 → s' a k = s a k) : I_tp s' N := by
  have e1 : ∀ j, s' 31 j = s 31 j := fun j => hf 31 j rfl
  have e2 : ∀ j, s' 32 j = s 32 j := fun j => hf 32 j rfl
  have e3 : ∀ j, s' 33 j = s 33 j := fun j => hf 33 j rfl
  have e4 : ∀ j, s' 75 j = s 75 j := fun j => hf 75 j rfl
  have e5 : ∀ j, s' 76 j = s 76 j := fun j => hf 76 j rfl
  have e6 : s' 30 4 = s 30 4 := hf 30 4 rfl
  have e7 : s' 30 5 = s 30 5 := hf 30 5 rfl
  have e8 : s' 48 36 = s 48 36 := hf 48 36 rfl
  have e9 : s' 48 39 = s 48 39 := hf 48 39 rfl
  unfold I_tp at *
  simp only [e1, e2, e3, e4, e5, e6, e7, e8, e9]
  exact h
section H15
variable {d n : Nat} {mu : aM} {ro : aR} {sg : aS} {K : Option Value → aS → Prop}
def grpR (s : aS) (A : Nat) (m g : Int32) : Int32 := if ¬ (0 ≤ m.toInt ∧ m.toInt ≤ 9) then -1 else if ¬ (0 ≤ g.toInt ∧ g.toInt ≤ 3) then -2 else s A m.toNatClampNeg
def grpS (s : aS) (A : Nat) (m g : Int32) : aS := if (0 ≤ m.toInt ∧ m.toInt ≤ 9) ∧ 0 ≤ g.toInt ∧ g.toInt ≤ 3 then s2 s A m.toNatClampNeg g else s
set_option maxHeartbeats 4000000 in
set_option maxRecDepth 100000 in
theorem c_group {m g : Int32} (hS : Sh mu ro) (hd : 3 ≤ d) (hk : K (some (.int (grpR sg 25 m g))) (grpS sg 25 m g)) : aCall d 114 [.ref 0, .int m, .int g] n mu ro sg K := by
  refine aCall_start (mL := 4) (cc := cX11_group) (o := 11) (ret := (some .int)) 1 (by decide) (by decide +kernel) rfl rfl rfl rfl (Nat.le_of_ble_eq_true rfl) (fun G hC hG => ?_)
  simp only [exL, List.cons_append, List.nil_append, rp_0, rp_1, rp_2, rp_3, rp_4, rp_5, rp_6, rp_7, rp_8, rp_9, rp_10, rp_11, List.append_nil]
  refine hG (fun _ => false) 60 _ _ _ _ (Nat.le_of_ble_eq_true rfl) ?_
  simp only [D_X11_group, vcS, vcC, vcI, gtF, ptF, inS, inV, fv0, fv1, fv2, fv3, fw0, fw1, lg_0, lg_1, lg_2, lg_3, lg_4, lg_5, lg_6, lg_7, lg_8, lg_9, lg_10, lg_11, lg_12, lg_13, lg_14, lsq_0, lsl_0, lsq_1, lsl_1, lsq_2, lsl_2, lsq_3, lsl_3, lsq_4, lsl_4, lsq_5, lsl_5, lsq_6, lsl_6, lsq_7, lsl_7, lsq_8, lsl_8, lsq_9, lsl_9, lsq_10, lsl_10, lsq_11, lsl_11, lsq_12, lsl_12, lsq_13, lsl_13, lsq_14, lsl_14, tk_0, tk_1, tk_2, tk_3, tk_4, tk_5, tk_6, tk_7, tk_8, cs_n, cs_i, cs_l, cs_r, cs_u, nl, rt_s, rt_n, CST1, Nat.reduceAdd, Nat.reduceLeDiff, va_rf, rtOk, Bool.false_eq_true, Bool.true_eq_false, if_false, if_true, ite_true, ite_false, true_and, and_true, eq_self, ne_eq, not_false_eq_true, not_true_eq_false, false_implies, true_implies, and_self, reduceCtorEq, Nat.reduceBEq, Bool.or_false, Bool.false_or, Bool.or_true, Bool.true_or, if1_0, if1_1, if1_01, one_01, zer_01, lg_cmp_ge, lg_cmp_le, lg_cmp_gt, lg_cmp_lt, lg_cmp_eq, Classical.not_not, SHm hS, SHr hS]
  repeat' (first | (with_reducible assumption) | (refine vp_in_iff.mpr ?_; ((try simp only [i_le, i_lt, i_eq, l_le, l_lt, l_eq, i_ne, l_ne, toL, l_add, l_sub1, LIT1, LIT2, Int.reduceNeg, ge_iff_le, gt_iff_lt] at *); omega)) | (refine And.intro ?_ ?_) | (omega) | (refine c_isMachine (by omega) ?_; simp only [D_X11_group, vcS, vcC, vcI, gtF, ptF, inS, inV, fv0, fv1, fv2, fv3, fw0, fw1, lg_0, lg_1, lg_2, lg_3, lg_4, lg_5, lg_6, lg_7, lg_8, lg_9, lg_10, lg_11, lg_12, lg_13, lg_14, lsq_0, lsl_0, lsq_1, lsl_1, lsq_2, lsl_2, lsq_3, lsl_3, lsq_4, lsl_4, lsq_5, lsl_5, lsq_6, lsl_6, lsq_7, lsl_7, lsq_8, lsl_8, lsq_9, lsl_9, lsq_10, lsl_10, lsq_11, lsl_11, lsq_12, lsl_12, lsq_13, lsl_13, lsq_14, lsl_14, tk_0, tk_1, tk_2, tk_3, tk_4, tk_5, tk_6, tk_7, tk_8, cs_n, cs_i, cs_l, cs_r, cs_u, nl, rt_s, rt_n, CST1, Nat.reduceAdd, Nat.reduceLeDiff, va_rf, rtOk, Bool.false_eq_true, Bool.true_eq_false, if_false, if_true, ite_true, ite_false, true_and, and_true, eq_self, ne_eq, not_false_eq_true, not_true_eq_false, false_implies, true_implies, and_self, reduceCtorEq, Nat.reduceBEq, Bool.or_false, Bool.false_or, Bool.or_true, Bool.true_or, if1_0, if1_1, if1_01, one_01, zer_01, lg_cmp_ge, lg_cmp_le, lg_cmp_gt, lg_cmp_lt, lg_cmp_eq, Classical.not_not, SHm hS, SHr hS, LIT1]) | (refine c_isIn ?_; simp only [D_X11_group, vcS, vcC, vcI, gtF, ptF, inS, inV, fv0, fv1, fv2, fv3, fw0, fw1, lg_0, lg_1, lg_2, lg_3, lg_4, lg_5, lg_6, lg_7, lg_8, lg_9, lg_10, lg_11, lg_12, lg_13, lg_14, lsq_0, lsl_0, lsq_1, lsl_1, lsq_2, lsl_2, lsq_3, lsl_3, lsq_4, lsl_4, lsq_5, lsl_5, lsq_6, lsl_6, lsq_7, lsl_7, lsq_8, lsl_8, lsq_9, lsl_9, lsq_10, lsl_10, lsq_11, lsl_11, lsq_12, lsl_12, lsq_13, lsl_13, lsq_14, lsl_14, tk_0, tk_1, tk_2, tk_3, tk_4, tk_5, tk_6, tk_7, tk_8, cs_n, cs_i, cs_l, cs_r, cs_u, nl, rt_s, rt_n, CST1, Nat.reduceAdd, Nat.reduceLeDiff, va_rf, rtOk, Bool.false_eq_true, Bool.true_eq_false, if_false, if_true, ite_true, ite_false, true_and, and_true, eq_self, ne_eq, not_false_eq_true, not_true_eq_false, false_implies, true_implies, and_self, reduceCtorEq, Nat.reduceBEq, Bool.or_false, Bool.false_or, Bool.or_true, Bool.true_or, if1_0, if1_1, if1_01, one_01, zer_01, lg_cmp_ge, lg_cmp_le, lg_cmp_gt, lg_cmp_lt, lg_cmp_eq, Classical.not_not, SHm hS, SHr hS, LIT1]) | (intro _))
  all_goals first | ((refine Eq.mp (congr (congrArg K ?_) ?_) hk) <;> (clear hk; (try unfold grpR); (try unfold grpS); (repeat' split) <;> first | rfl | (exfalso; ((try simp only [i_le, i_lt, i_eq, l_le, l_lt, l_eq, i_ne, l_ne, toL, l_add, l_sub1, LIT1, LIT2, Int.reduceNeg, ge_iff_le, gt_iff_lt] at *); omega))))
set_option maxHeartbeats 4000000 in
set_option maxRecDepth 100000 in
theorem m_group {m g : Int32} (hS : Sh mu ro) (hd : 3 ≤ d) (hk : K (some (.int (grpR sg 71 m g))) (grpS sg 71 m g)) : aCall d 204 [.ref 48, .int m, .int g] n mu ro sg K := by
  refine aCall_start (mL := 4) (cc := cX12_group) (o := 12) (ret := (some .int)) 1 (by decide) (by decide +kernel) rfl rfl rfl rfl (Nat.le_of_ble_eq_true rfl) (fun G hC hG => ?_)
  simp only [exL, List.cons_append, List.nil_append, rp_0, rp_1, rp_2, rp_3, rp_4, rp_5, rp_6, rp_7, rp_8, rp_9, rp_10, rp_11, List.append_nil]
  refine hG (fun _ => false) 60 _ _ _ _ (Nat.le_of_ble_eq_true rfl) ?_
  simp only [D_X12_group, vcS, vcC, vcI, gtF, ptF, inS, inV, fv0, fv1, fv2, fv3, fw0, fw1, lg_0, lg_1, lg_2, lg_3, lg_4, lg_5, lg_6, lg_7, lg_8, lg_9, lg_10, lg_11, lg_12, lg_13, lg_14, lsq_0, lsl_0, lsq_1, lsl_1, lsq_2, lsl_2, lsq_3, lsl_3, lsq_4, lsl_4, lsq_5, lsl_5, lsq_6, lsl_6, lsq_7, lsl_7, lsq_8, lsl_8, lsq_9, lsl_9, lsq_10, lsl_10, lsq_11, lsl_11, lsq_12, lsl_12, lsq_13, lsl_13, lsq_14, lsl_14, tk_0, tk_1, tk_2, tk_3, tk_4, tk_5, tk_6, tk_7, tk_8, cs_n, cs_i, cs_l, cs_r, cs_u, nl, rt_s, rt_n, CST1, Nat.reduceAdd, Nat.reduceLeDiff, va_rf, rtOk, Bool.false_eq_true, Bool.true_eq_false, if_false, if_true, ite_true, ite_false, true_and, and_true, eq_self, ne_eq, not_false_eq_true, not_true_eq_false, false_implies, true_implies, and_self, reduceCtorEq, Nat.reduceBEq, Bool.or_false, Bool.false_or, Bool.or_true, Bool.true_or, if1_0, if1_1, if1_01, one_01, zer_01, lg_cmp_ge, lg_cmp_le, lg_cmp_gt, lg_cmp_lt, lg_cmp_eq, Classical.not_not, SHm hS, SHr hS]
  repeat' (first | (with_reducible assumption) | (refine vp_in_iff.mpr ?_; ((try simp only [i_le, i_lt, i_eq, l_le, l_lt, l_eq, i_ne, l_ne, toL, l_add, l_sub1, LIT1, LIT2, Int.reduceNeg, ge_iff_le, gt_iff_lt] at *); omega)) | (refine And.intro ?_ ?_) | (omega) | (refine m_noMachine (by omega) ?_; simp only [D_X12_group, vcS, vcC, vcI, gtF, ptF, inS, inV, fv0, fv1, fv2, fv3, fw0, fw1, lg_0, lg_1, lg_2, lg_3, lg_4, lg_5, lg_6, lg_7, lg_8, lg_9, lg_10, lg_11, lg_12, lg_13, lg_14, lsq_0, lsl_0, lsq_1, lsl_1, lsq_2, lsl_2, lsq_3, lsl_3, lsq_4, lsl_4, lsq_5, lsl_5, lsq_6, lsl_6, lsq_7, lsl_7, lsq_8, lsl_8, lsq_9, lsl_9, lsq_10, lsl_10, lsq_11, lsl_11, lsq_12, lsl_12, lsq_13, lsl_13, lsq_14, lsl_14, tk_0, tk_1, tk_2, tk_3, tk_4, tk_5, tk_6, tk_7, tk_8, cs_n, cs_i, cs_l, cs_r, cs_u, nl, rt_s, rt_n, CST1, Nat.reduceAdd, Nat.reduceLeDiff, va_rf, rtOk, Bool.false_eq_true, Bool.true_eq_false, if_false, if_true, ite_true, ite_false, true_and, and_true, eq_self, ne_eq, not_false_eq_true, not_true_eq_false, false_implies, true_implies, and_self, reduceCtorEq, Nat.reduceBEq, Bool.or_false, Bool.false_or, Bool.or_true, Bool.true_or, if1_0, if1_1, if1_01, one_01, zer_01, lg_cmp_ge, lg_cmp_le, lg_cmp_gt, lg_cmp_lt, lg_cmp_eq, Classical.not_not, SHm hS, SHr hS, LIT2, toL]) | (refine m_in ?_; simp only [D_X12_group, vcS, vcC, vcI, gtF, ptF, inS, inV, fv0, fv1, fv2, fv3, fw0, fw1, lg_0, lg_1, lg_2, lg_3, lg_4, lg_5, lg_6, lg_7, lg_8, lg_9, lg_10, lg_11, lg_12, lg_13, lg_14, lsq_0, lsl_0, lsq_1, lsl_1, lsq_2, lsl_2, lsq_3, lsl_3, lsq_4, lsl_4, lsq_5, lsl_5, lsq_6, lsl_6, lsq_7, lsl_7, lsq_8, lsl_8, lsq_9, lsl_9, lsq_10, lsl_10, lsq_11, lsl_11, lsq_12, lsl_12, lsq_13, lsl_13, lsq_14, lsl_14, tk_0, tk_1, tk_2, tk_3, tk_4, tk_5, tk_6, tk_7, tk_8, cs_n, cs_i, cs_l, cs_r, cs_u, nl, rt_s, rt_n, CST1, Nat.reduceAdd, Nat.reduceLeDiff, va_rf, rtOk, Bool.false_eq_true, Bool.true_eq_false, if_false, if_true, ite_true, ite_false, true_and, and_true, eq_self, ne_eq, not_false_eq_true, not_true_eq_false, false_implies, true_implies, and_self, reduceCtorEq, Nat.reduceBEq, Bool.or_false, Bool.false_or, Bool.or_true, Bool.true_or, if1_0, if1_1, if1_01, one_01, zer_01, lg_cmp_ge, lg_cmp_le, lg_cmp_gt, lg_cmp_lt, lg_cmp_eq, Classical.not_not, SHm hS, SHr hS, LIT2, toL]) | (intro _))
  all_goals first | ((refine Eq.mp (congr (congrArg K ?_) ?_) hk) <;> (clear hk; (try unfold grpR); (try unfold grpS); (repeat' split) <;> first | rfl | (exfalso; ((try simp only [i_le, i_lt, i_eq, l_le, l_lt, l_eq, i_ne, l_ne, toL, l_add, l_sub1, LIT1, LIT2, Int.reduceNeg, ge_iff_le, gt_iff_lt] at *); omega))))
set_option maxHeartbeats 4000000 in
set_option maxRecDepth 100000 in
theorem b_group {m g : Int32} (hS : Sh mu ro) (hd : 3 ≤ d) (hI : I_hr sg) (hk : ∀ r sg2, I_hr sg2 → Fr [7] sg sg2 → K r sg2) : aCall d 114 [.ref 0, .int m, .int g] n mu ro sg (fun r1 sg1 => aCall d 204 [.ref 48, .int m, .int g] n mu ro sg1 (fun r2 sg2 => r1 = r2 ∧ K r1 sg2)) := by
  refine c_group hS hd (m_group hS hd ?_)
  by_cases hok : (0 ≤ m.toInt ∧ m.toInt ≤ 9) ∧ 0 ≤ g.toInt ∧ g.toInt ≤ 3
  · have hj : m.toNatClampNeg < 10 := by have := i_cl hok.1.1; omega
    rw [grpS, if_pos hok, grpS, if_pos hok, grpR, grpR, if_neg (not_not_intro hok.1), if_neg (not_not_intro hok.1), if_neg (not_not_intro hok.2), if_neg (not_not_intro hok.2)]
    generalize m.toNatClampNeg = j at hj ⊢
    refine ⟨by rw [s2_ne (by decide), (hI.2 j hj).1], hk _ _ ⟨fun i hi => ?_, fun i hi => ?_⟩ ?_⟩
    · rw [s2_ne (by decide), s2_ne (by decide), s2_ne (by decide), s2_ne (by decide)]
      exact hI.1 i hi
    · rw [s2_ne (by decide), s2_eq, s2_eq, s2_ne (by decide)]
      by_cases hij : i = j
      · subst hij
        simp only [upd, if_true]
        exact ⟨trivial, hok.2⟩
      · simp only [upd, if_neg hij]
        exact hI.2 i hi
    · ((repeat (refine Fr.putq (m := 7) ?_ rfl (by decide))); exact Fr.rfl)
  · rw [grpS, if_neg hok, grpS, if_neg hok]
    refine ⟨?_, hk _ _ hI Fr.rfl⟩
    unfold grpR
    (repeat' split) <;> first | rfl | (exfalso; ((try simp only [i_le, i_lt, i_eq, l_le, l_lt, l_eq, i_ne, l_ne, toL, l_add, l_sub1, LIT1, LIT2, Int.reduceNeg, ge_iff_le, gt_iff_lt] at *); omega))
def mayR (s : aS) (A : Nat) (k m t : Int32) : Int32 := if ¬ ((0 ≤ k.toInt ∧ k.toInt ≤ 3) ∧ 0 ≤ m.toInt ∧ m.toInt ≤ 9) then -1 else if ¬ (-1 ≤ t.toInt ∧ t.toInt ≤ 999) then -2 else s A (10 * k.toNatClampNeg + m.toNatClampNeg)
def mayS (s : aS) (A : Nat) (k m t : Int32) : aS := if ((0 ≤ k.toInt ∧ k.toInt ≤ 3) ∧ 0 ≤ m.toInt ∧ m.toInt ≤ 9) ∧ -1 ≤ t.toInt ∧ t.toInt ≤ 999 then s2 s A (10 * k.toNatClampNeg + m.toNatClampNeg) (if t.toInt < 0 then -9 else t) else s
set_option maxHeartbeats 4000000 in
set_option maxRecDepth 100000 in
theorem c_allow {k m t : Int32} (hS : Sh mu ro) (h1 : 0 ≤ k.toInt ∧ k.toInt ≤ 3) (h2 : 0 ≤ m.toInt ∧ m.toInt ≤ 9) (hk : K (some (.int (sg 36 (10 * k.toNatClampNeg + m.toNatClampNeg)))) (s2 sg 36 (10 * k.toNatClampNeg + m.toNatClampNeg) t)) : aCall d 18 [.ref 35, .int k, .int m, .int t] n mu ro sg K := by
  refine aCall_start (mL := 5) (cc := cX3_allow) (o := 3) (ret := (some .int)) 1 (by decide) (by decide +kernel) rfl rfl rfl rfl (Nat.le_of_ble_eq_true rfl) (fun G hC hG => ?_)
  simp only [exL, List.cons_append, List.nil_append, rp_0, rp_1, rp_2, rp_3, rp_4, rp_5, rp_6, rp_7, rp_8, rp_9, rp_10, rp_11, List.append_nil]
  refine hG (fun _ => false) 60 _ _ _ _ (Nat.le_of_ble_eq_true rfl) ?_
  obtain ⟨e1, e2, e3⟩ := ix_10 (k := k) (m := m) (by omega) (by omega)
  simp only [D_X3_allow, vcS, vcC, vcI, gtF, ptF, inS, inV, fv0, fv1, fv2, fv3, fw0, fw1, lg_0, lg_1, lg_2, lg_3, lg_4, lg_5, lg_6, lg_7, lg_8, lg_9, lg_10, lg_11, lg_12, lg_13, lg_14, lsq_0, lsl_0, lsq_1, lsl_1, lsq_2, lsl_2, lsq_3, lsl_3, lsq_4, lsl_4, lsq_5, lsl_5, lsq_6, lsl_6, lsq_7, lsl_7, lsq_8, lsl_8, lsq_9, lsl_9, lsq_10, lsl_10, lsq_11, lsl_11, lsq_12, lsl_12, lsq_13, lsl_13, lsq_14, lsl_14, tk_0, tk_1, tk_2, tk_3, tk_4, tk_5, tk_6, tk_7, tk_8, cs_n, cs_i, cs_l, cs_r, cs_u, nl, rt_s, rt_n, CST1, Nat.reduceAdd, Nat.reduceLeDiff, va_rf, rtOk, Bool.false_eq_true, Bool.true_eq_false, if_false, if_true, ite_true, ite_false, true_and, and_true, eq_self, ne_eq, not_false_eq_true, not_true_eq_false, false_implies, true_implies, and_self, reduceCtorEq, Nat.reduceBEq, Bool.or_false, Bool.false_or, Bool.or_true, Bool.true_or, if1_0, if1_1, if1_01, one_01, zer_01, lg_cmp_ge, lg_cmp_le, lg_cmp_gt, lg_cmp_lt, lg_cmp_eq, Classical.not_not, SHm hS, SHr hS, e3, e2]
  have e4 : vp_in (10 * k + m) 40 := vp_in_iff.mpr (by omega)
  exact ⟨e4, e4, hk⟩
set_option maxHeartbeats 4000000 in
set_option maxRecDepth 100000 in
theorem c_may {k m t : Int32} (hS : Sh mu ro) (hd : 3 ≤ d) (hk : K (some (.int (mayR sg 36 k m t))) (mayS sg 36 k m t)) : aCall d 130 [.ref 0, .int k, .int m, .int t] n mu ro sg K := by
  refine aCall_start (mL := 4) (cc := cX11_may) (o := 11) (ret := (some .int)) 0 (by decide) (by decide +kernel) rfl rfl rfl rfl (Nat.le_of_ble_eq_true rfl) (fun G hC hG => ?_)
  simp only [exL, List.cons_append, List.nil_append, rp_0, rp_1, rp_2, rp_3, rp_4, rp_5, rp_6, rp_7, rp_8, rp_9, rp_10, rp_11, List.append_nil]
  refine hG (fun _ => false) 60 _ _ _ _ (Nat.le_of_ble_eq_true rfl) ?_
  simp only [D_X11_may, N_X11_may, vcS, vcC, vcI, gtF, ptF, inS, inV, fv0, fv1, fv2, fv3, fw0, fw1, lg_0, lg_1, lg_2, lg_3, lg_4, lg_5, lg_6, lg_7, lg_8, lg_9, lg_10, lg_11, lg_12, lg_13, lg_14, lsq_0, lsl_0, lsq_1, lsl_1, lsq_2, lsl_2, lsq_3, lsl_3, lsq_4, lsl_4, lsq_5, lsl_5, lsq_6, lsl_6, lsq_7, lsl_7, lsq_8, lsl_8, lsq_9, lsl_9, lsq_10, lsl_10, lsq_11, lsl_11, lsq_12, lsl_12, lsq_13, lsl_13, lsq_14, lsl_14, tk_0, tk_1, tk_2, tk_3, tk_4, tk_5, tk_6, tk_7, tk_8, cs_n, cs_i, cs_l, cs_r, cs_u, nl, rt_s, rt_n, CST1, Nat.reduceAdd, Nat.reduceLeDiff, va_rf, rtOk, Bool.false_eq_true, Bool.true_eq_false, if_false, if_true, ite_true, ite_false, true_and, and_true, eq_self, ne_eq, not_false_eq_true, not_true_eq_false, false_implies, true_implies, and_self, reduceCtorEq, Nat.reduceBEq, Bool.or_false, Bool.false_or, Bool.or_true, Bool.true_or, if1_0, if1_1, if1_01, one_01, zer_01, lg_cmp_ge, lg_cmp_le, lg_cmp_gt, lg_cmp_lt, lg_cmp_eq, Classical.not_not, SHm hS, SHr hS]
  by_cases hok : (0 ≤ k.toInt ∧ k.toInt ≤ 3) ∧ 0 ≤ m.toInt ∧ m.toInt ≤ 9
  · repeat' (first | (with_reducible assumption) | (refine vp_in_iff.mpr ?_; ((try simp only [i_le, i_lt, i_eq, l_le, l_lt, l_eq, i_ne, l_ne, toL, l_add, l_sub1, LIT1, LIT2, Int.reduceNeg, ge_iff_le, gt_iff_lt] at *); omega)) | (refine And.intro ?_ ?_) | (omega) | (refine c_isMachine (by omega) ?_; simp only [D_X11_may, N_X11_may, vcS, vcC, vcI, gtF, ptF, inS, inV, fv0, fv1, fv2, fv3, fw0, fw1, lg_0, lg_1, lg_2, lg_3, lg_4, lg_5, lg_6, lg_7, lg_8, lg_9, lg_10, lg_11, lg_12, lg_13, lg_14, lsq_0, lsl_0, lsq_1, lsl_1, lsq_2, lsl_2, lsq_3, lsl_3, lsq_4, lsl_4, lsq_5, lsl_5, lsq_6, lsl_6, lsq_7, lsl_7, lsq_8, lsl_8, lsq_9, lsl_9, lsq_10, lsl_10, lsq_11, lsl_11, lsq_12, lsl_12, lsq_13, lsl_13, lsq_14, lsl_14, tk_0, tk_1, tk_2, tk_3, tk_4, tk_5, tk_6, tk_7, tk_8, cs_n, cs_i, cs_l, cs_r, cs_u, nl, rt_s, rt_n, CST1, Nat.reduceAdd, Nat.reduceLeDiff, va_rf, rtOk, Bool.false_eq_true, Bool.true_eq_false, if_false, if_true, ite_true, ite_false, true_and, and_true, eq_self, ne_eq, not_false_eq_true, not_true_eq_false, false_implies, true_implies, and_self, reduceCtorEq, Nat.reduceBEq, Bool.or_false, Bool.false_or, Bool.or_true, Bool.true_or, if1_0, if1_1, if1_01, one_01, zer_01, lg_cmp_ge, lg_cmp_le, lg_cmp_gt, lg_cmp_lt, lg_cmp_eq, Classical.not_not, SHm hS, SHr hS, LIT1]) | (refine c_isIn ?_; simp only [D_X11_may, N_X11_may, vcS, vcC, vcI, gtF, ptF, inS, inV, fv0, fv1, fv2, fv3, fw0, fw1, lg_0, lg_1, lg_2, lg_3, lg_4, lg_5, lg_6, lg_7, lg_8, lg_9, lg_10, lg_11, lg_12, lg_13, lg_14, lsq_0, lsl_0, lsq_1, lsl_1, lsq_2, lsl_2, lsq_3, lsl_3, lsq_4, lsl_4, lsq_5, lsl_5, lsq_6, lsl_6, lsq_7, lsl_7, lsq_8, lsl_8, lsq_9, lsl_9, lsq_10, lsl_10, lsq_11, lsl_11, lsq_12, lsl_12, lsq_13, lsl_13, lsq_14, lsl_14, tk_0, tk_1, tk_2, tk_3, tk_4, tk_5, tk_6, tk_7, tk_8, cs_n, cs_i, cs_l, cs_r, cs_u, nl, rt_s, rt_n, CST1, Nat.reduceAdd, Nat.reduceLeDiff, va_rf, rtOk, Bool.false_eq_true, Bool.true_eq_false, if_false, if_true, ite_true, ite_false, true_and, and_true, eq_self, ne_eq, not_false_eq_true, not_true_eq_false, false_implies, true_implies, and_self, reduceCtorEq, Nat.reduceBEq, Bool.or_false, Bool.false_or, Bool.or_true, Bool.true_or, if1_0, if1_1, if1_01, one_01, zer_01, lg_cmp_ge, lg_cmp_le, lg_cmp_gt, lg_cmp_lt, lg_cmp_eq, Classical.not_not, SHm hS, SHr hS, LIT1]) | (refine c_isTick (by omega) ?_; simp only [D_X11_may, N_X11_may, vcS, vcC, vcI, gtF, ptF, inS, inV, fv0, fv1, fv2, fv3, fw0, fw1, lg_0, lg_1, lg_2, lg_3, lg_4, lg_5, lg_6, lg_7, lg_8, lg_9, lg_10, lg_11, lg_12, lg_13, lg_14, lsq_0, lsl_0, lsq_1, lsl_1, lsq_2, lsl_2, lsq_3, lsl_3, lsq_4, lsl_4, lsq_5, lsl_5, lsq_6, lsl_6, lsq_7, lsl_7, lsq_8, lsl_8, lsq_9, lsl_9, lsq_10, lsl_10, lsq_11, lsl_11, lsq_12, lsl_12, lsq_13, lsl_13, lsq_14, lsl_14, tk_0, tk_1, tk_2, tk_3, tk_4, tk_5, tk_6, tk_7, tk_8, cs_n, cs_i, cs_l, cs_r, cs_u, nl, rt_s, rt_n, CST1, Nat.reduceAdd, Nat.reduceLeDiff, va_rf, rtOk, Bool.false_eq_true, Bool.true_eq_false, if_false, if_true, ite_true, ite_false, true_and, and_true, eq_self, ne_eq, not_false_eq_true, not_true_eq_false, false_implies, true_implies, and_self, reduceCtorEq, Nat.reduceBEq, Bool.or_false, Bool.false_or, Bool.or_true, Bool.true_or, if1_0, if1_1, if1_01, one_01, zer_01, lg_cmp_ge, lg_cmp_le, lg_cmp_gt, lg_cmp_lt, lg_cmp_eq, Classical.not_not, SHm hS, SHr hS, LIT1]) | (refine c_allow hS hok.1 hok.2 ?_; simp only [D_X11_may, N_X11_may, vcS, vcC, vcI, gtF, ptF, inS, inV, fv0, fv1, fv2, fv3, fw0, fw1, lg_0, lg_1, lg_2, lg_3, lg_4, lg_5, lg_6, lg_7, lg_8, lg_9, lg_10, lg_11, lg_12, lg_13, lg_14, lsq_0, lsl_0, lsq_1, lsl_1, lsq_2, lsl_2, lsq_3, lsl_3, lsq_4, lsl_4, lsq_5, lsl_5, lsq_6, lsl_6, lsq_7, lsl_7, lsq_8, lsl_8, lsq_9, lsl_9, lsq_10, lsl_10, lsq_11, lsl_11, lsq_12, lsl_12, lsq_13, lsl_13, lsq_14, lsl_14, tk_0, tk_1, tk_2, tk_3, tk_4, tk_5, tk_6, tk_7, tk_8, cs_n, cs_i, cs_l, cs_r, cs_u, nl, rt_s, rt_n, CST1, Nat.reduceAdd, Nat.reduceLeDiff, va_rf, rtOk, Bool.false_eq_true, Bool.true_eq_false, if_false, if_true, ite_true, ite_false, true_and, and_true, eq_self, ne_eq, not_false_eq_true, not_true_eq_false, false_implies, true_implies, and_self, reduceCtorEq, Nat.reduceBEq, Bool.or_false, Bool.false_or, Bool.or_true, Bool.true_or, if1_0, if1_1, if1_01, one_01, zer_01, lg_cmp_ge, lg_cmp_le, lg_cmp_gt, lg_cmp_lt, lg_cmp_eq, Classical.not_not, SHm hS, SHr hS, LIT1]) | (intro _))
    all_goals first | ((refine Eq.mp (congr (congrArg K ?_) ?_) hk) <;> (clear hk; (try unfold mayR); (try unfold mayS); (repeat' split) <;> first | rfl | (exfalso; ((try simp only [i_le, i_lt, i_eq, l_le, l_lt, l_eq, i_ne, l_ne, toL, l_add, l_sub1, LIT1, LIT2, Int.reduceNeg, ge_iff_le, gt_iff_lt] at *); omega)))) | (exfalso; ((try simp only [i_le, i_lt, i_eq, l_le, l_lt, l_eq, i_ne, l_ne, toL, l_add, l_sub1, LIT1, LIT2, Int.reduceNeg, ge_iff_le, gt_iff_lt] at *); omega))
  · repeat' (first | (with_reducible assumption) | (refine vp_in_iff.mpr ?_; ((try simp only [i_le, i_lt, i_eq, l_le, l_lt, l_eq, i_ne, l_ne, toL, l_add, l_sub1, LIT1, LIT2, Int.reduceNeg, ge_iff_le, gt_iff_lt] at *); omega)) | (refine And.intro ?_ ?_) | (omega) | (refine c_isMachine (by omega) ?_; simp only [D_X11_may, N_X11_may, vcS, vcC, vcI, gtF, ptF, inS, inV, fv0, fv1, fv2, fv3, fw0, fw1, lg_0, lg_1, lg_2, lg_3, lg_4, lg_5, lg_6, lg_7, lg_8, lg_9, lg_10, lg_11, lg_12, lg_13, lg_14, lsq_0, lsl_0, lsq_1, lsl_1, lsq_2, lsl_2, lsq_3, lsl_3, lsq_4, lsl_4, lsq_5, lsl_5, lsq_6, lsl_6, lsq_7, lsl_7, lsq_8, lsl_8, lsq_9, lsl_9, lsq_10, lsl_10, lsq_11, lsl_11, lsq_12, lsl_12, lsq_13, lsl_13, lsq_14, lsl_14, tk_0, tk_1, tk_2, tk_3, tk_4, tk_5, tk_6, tk_7, tk_8, cs_n, cs_i, cs_l, cs_r, cs_u, nl, rt_s, rt_n, CST1, Nat.reduceAdd, Nat.reduceLeDiff, va_rf, rtOk, Bool.false_eq_true, Bool.true_eq_false, if_false, if_true, ite_true, ite_false, true_and, and_true, eq_self, ne_eq, not_false_eq_true, not_true_eq_false, false_implies, true_implies, and_self, reduceCtorEq, Nat.reduceBEq, Bool.or_false, Bool.false_or, Bool.or_true, Bool.true_or, if1_0, if1_1, if1_01, one_01, zer_01, lg_cmp_ge, lg_cmp_le, lg_cmp_gt, lg_cmp_lt, lg_cmp_eq, Classical.not_not, SHm hS, SHr hS, LIT1]) | (refine c_isIn ?_; simp only [D_X11_may, N_X11_may, vcS, vcC, vcI, gtF, ptF, inS, inV, fv0, fv1, fv2, fv3, fw0, fw1, lg_0, lg_1, lg_2, lg_3, lg_4, lg_5, lg_6, lg_7, lg_8, lg_9, lg_10, lg_11, lg_12, lg_13, lg_14, lsq_0, lsl_0, lsq_1, lsl_1, lsq_2, lsl_2, lsq_3, lsl_3, lsq_4, lsl_4, lsq_5, lsl_5, lsq_6, lsl_6, lsq_7, lsl_7, lsq_8, lsl_8, lsq_9, lsl_9, lsq_10, lsl_10, lsq_11, lsl_11, lsq_12, lsl_12, lsq_13, lsl_13, lsq_14, lsl_14, tk_0, tk_1, tk_2, tk_3, tk_4, tk_5, tk_6, tk_7, tk_8, cs_n, cs_i, cs_l, cs_r, cs_u, nl, rt_s, rt_n, CST1, Nat.reduceAdd, Nat.reduceLeDiff, va_rf, rtOk, Bool.false_eq_true, Bool.true_eq_false, if_false, if_true, ite_true, ite_false, true_and, and_true, eq_self, ne_eq, not_false_eq_true, not_true_eq_false, false_implies, true_implies, and_self, reduceCtorEq, Nat.reduceBEq, Bool.or_false, Bool.false_or, Bool.or_true, Bool.true_or, if1_0, if1_1, if1_01, one_01, zer_01, lg_cmp_ge, lg_cmp_le, lg_cmp_gt, lg_cmp_lt, lg_cmp_eq, Classical.not_not, SHm hS, SHr hS, LIT1]) | (refine c_isTick (by omega) ?_; simp only [D_X11_may, N_X11_may, vcS, vcC, vcI, gtF, ptF, inS, inV, fv0, fv1, fv2, fv3, fw0, fw1, lg_0, lg_1, lg_2, lg_3, lg_4, lg_5, lg_6, lg_7, lg_8, lg_9, lg_10, lg_11, lg_12, lg_13, lg_14, lsq_0, lsl_0, lsq_1, lsl_1, lsq_2, lsl_2, lsq_3, lsl_3, lsq_4, lsl_4, lsq_5, lsl_5, lsq_6, lsl_6, lsq_7, lsl_7, lsq_8, lsl_8, lsq_9, lsl_9, lsq_10, lsl_10, lsq_11, lsl_11, lsq_12, lsl_12, lsq_13, lsl_13, lsq_14, lsl_14, tk_0, tk_1, tk_2, tk_3, tk_4, tk_5, tk_6, tk_7, tk_8, cs_n, cs_i, cs_l, cs_r, cs_u, nl, rt_s, rt_n, CST1, Nat.reduceAdd, Nat.reduceLeDiff, va_rf, rtOk, Bool.false_eq_true, Bool.true_eq_false, if_false, if_true, ite_true, ite_false, true_and, and_true, eq_self, ne_eq, not_false_eq_true, not_true_eq_false, false_implies, true_implies, and_self, reduceCtorEq, Nat.reduceBEq, Bool.or_false, Bool.false_or, Bool.or_true, Bool.true_or, if1_0, if1_1, if1_01, one_01, zer_01, lg_cmp_ge, lg_cmp_le, lg_cmp_gt, lg_cmp_lt, lg_cmp_eq, Classical.not_not, SHm hS, SHr hS, LIT1]) | (intro _))
    all_goals first | ((refine Eq.mp (congr (congrArg K ?_) ?_) hk) <;> (clear hk; (try unfold mayR); (try unfold mayS); (repeat' split) <;> first | rfl | (exfalso; ((try simp only [i_le, i_lt, i_eq, l_le, l_lt, l_eq, i_ne, l_ne, toL, l_add, l_sub1, LIT1, LIT2, Int.reduceNeg, ge_iff_le, gt_iff_lt] at *); omega)))) | (exfalso; ((try simp only [i_le, i_lt, i_eq, l_le, l_lt, l_eq, i_ne, l_ne, toL, l_add, l_sub1, LIT1, LIT2, Int.reduceNeg, ge_iff_le, gt_iff_lt] at *); omega))
set_option maxHeartbeats 4000000 in
set_option maxRecDepth 100000 in
theorem m_may {k m t : Int32} (hS : Sh mu ro) (hd : 3 ≤ d) (hk : K (some (.int (mayR sg 82 k m t))) (mayS sg 82 k m t)) : aCall d 233 [.ref 48, .int k, .int m, .int t] n mu ro sg K := by
  refine aCall_start (mL := 5) (cc := cX12_may) (o := 12) (ret := (some .int)) 1 (by decide) (by decide +kernel) rfl rfl rfl rfl (Nat.le_of_ble_eq_true rfl) (fun G hC hG => ?_)
  simp only [exL, List.cons_append, List.nil_append, rp_0, rp_1, rp_2, rp_3, rp_4, rp_5, rp_6, rp_7, rp_8, rp_9, rp_10, rp_11, List.append_nil]
  refine hG (fun _ => false) 60 _ _ _ _ (Nat.le_of_ble_eq_true rfl) ?_
  simp only [D_X12_may, vcS, vcC, vcI, gtF, ptF, inS, inV, fv0, fv1, fv2, fv3, fw0, fw1, lg_0, lg_1, lg_2, lg_3, lg_4, lg_5, lg_6, lg_7, lg_8, lg_9, lg_10, lg_11, lg_12, lg_13, lg_14, lsq_0, lsl_0, lsq_1, lsl_1, lsq_2, lsl_2, lsq_3, lsl_3, lsq_4, lsl_4, lsq_5, lsl_5, lsq_6, lsl_6, lsq_7, lsl_7, lsq_8, lsl_8, lsq_9, lsl_9, lsq_10, lsl_10, lsq_11, lsl_11, lsq_12, lsl_12, lsq_13, lsl_13, lsq_14, lsl_14, tk_0, tk_1, tk_2, tk_3, tk_4, tk_5, tk_6, tk_7, tk_8, cs_n, cs_i, cs_l, cs_r, cs_u, nl, rt_s, rt_n, CST1, Nat.reduceAdd, Nat.reduceLeDiff, va_rf, rtOk, Bool.false_eq_true, Bool.true_eq_false, if_false, if_true, ite_true, ite_false, true_and, and_true, eq_self, ne_eq, not_false_eq_true, not_true_eq_false, false_implies, true_implies, and_self, reduceCtorEq, Nat.reduceBEq, Bool.or_false, Bool.false_or, Bool.or_true, Bool.true_or, if1_0, if1_1, if1_01, one_01, zer_01, lg_cmp_ge, lg_cmp_le, lg_cmp_gt, lg_cmp_lt, lg_cmp_eq, Classical.not_not, SHm hS, SHr hS]
  by_cases hok : (0 ≤ k.toInt ∧ k.toInt ≤ 3) ∧ 0 ≤ m.toInt ∧ m.toInt ≤ 9
  · obtain ⟨e1, e2, e3⟩ := ix_10 (k := k) (m := m) (by omega) (by omega)
    repeat' (first | (with_reducible assumption) | (refine vp_in_iff.mpr ?_; ((try simp only [i_le, i_lt, i_eq, l_le, l_lt, l_eq, i_ne, l_ne, toL, l_add, l_sub1, LIT1, LIT2, Int.reduceNeg, ge_iff_le, gt_iff_lt] at *); omega)) | (refine And.intro ?_ ?_) | (omega) | (refine m_noMachine (by omega) ?_; simp only [D_X12_may, vcS, vcC, vcI, gtF, ptF, inS, inV, fv0, fv1, fv2, fv3, fw0, fw1, lg_0, lg_1, lg_2, lg_3, lg_4, lg_5, lg_6, lg_7, lg_8, lg_9, lg_10, lg_11, lg_12, lg_13, lg_14, lsq_0, lsl_0, lsq_1, lsl_1, lsq_2, lsl_2, lsq_3, lsl_3, lsq_4, lsl_4, lsq_5, lsl_5, lsq_6, lsl_6, lsq_7, lsl_7, lsq_8, lsl_8, lsq_9, lsl_9, lsq_10, lsl_10, lsq_11, lsl_11, lsq_12, lsl_12, lsq_13, lsl_13, lsq_14, lsl_14, tk_0, tk_1, tk_2, tk_3, tk_4, tk_5, tk_6, tk_7, tk_8, cs_n, cs_i, cs_l, cs_r, cs_u, nl, rt_s, rt_n, CST1, Nat.reduceAdd, Nat.reduceLeDiff, va_rf, rtOk, Bool.false_eq_true, Bool.true_eq_false, if_false, if_true, ite_true, ite_false, true_and, and_true, eq_self, ne_eq, not_false_eq_true, not_true_eq_false, false_implies, true_implies, and_self, reduceCtorEq, Nat.reduceBEq, Bool.or_false, Bool.false_or, Bool.or_true, Bool.true_or, if1_0, if1_1, if1_01, one_01, zer_01, lg_cmp_ge, lg_cmp_le, lg_cmp_gt, lg_cmp_lt, lg_cmp_eq, Classical.not_not, SHm hS, SHr hS, LIT2, toL, e2]) | (refine m_noKeeper (by omega) ?_; simp only [D_X12_may, vcS, vcC, vcI, gtF, ptF, inS, inV, fv0, fv1, fv2, fv3, fw0, fw1, lg_0, lg_1, lg_2, lg_3, lg_4, lg_5, lg_6, lg_7, lg_8, lg_9, lg_10, lg_11, lg_12, lg_13, lg_14, lsq_0, lsl_0, lsq_1, lsl_1, lsq_2, lsl_2, lsq_3, lsl_3, lsq_4, lsl_4, lsq_5, lsl_5, lsq_6, lsl_6, lsq_7, lsl_7, lsq_8, lsl_8, lsq_9, lsl_9, lsq_10, lsl_10, lsq_11, lsl_11, lsq_12, lsl_12, lsq_13, lsl_13, lsq_14, lsl_14, tk_0, tk_1, tk_2, tk_3, tk_4, tk_5, tk_6, tk_7, tk_8, cs_n, cs_i, cs_l, cs_r, cs_u, nl, rt_s, rt_n, CST1, Nat.reduceAdd, Nat.reduceLeDiff, va_rf, rtOk, Bool.false_eq_true, Bool.true_eq_false, if_false, if_true, ite_true, ite_false, true_and, and_true, eq_self, ne_eq, not_false_eq_true, not_true_eq_false, false_implies, true_implies, and_self, reduceCtorEq, Nat.reduceBEq, Bool.or_false, Bool.false_or, Bool.or_true, Bool.true_or, if1_0, if1_1, if1_01, one_01, zer_01, lg_cmp_ge, lg_cmp_le, lg_cmp_gt, lg_cmp_lt, lg_cmp_eq, Classical.not_not, SHm hS, SHr hS, LIT2, toL, e2]) | (refine m_in ?_; simp only [D_X12_may, vcS, vcC, vcI, gtF, ptF, inS, inV, fv0, fv1, fv2, fv3, fw0, fw1, lg_0, lg_1, lg_2, lg_3, lg_4, lg_5, lg_6, lg_7, lg_8, lg_9, lg_10, lg_11, lg_12, lg_13, lg_14, lsq_0, lsl_0, lsq_1, lsl_1, lsq_2, lsl_2, lsq_3, lsl_3, lsq_4, lsl_4, lsq_5, lsl_5, lsq_6, lsl_6, lsq_7, lsl_7, lsq_8, lsl_8, lsq_9, lsl_9, lsq_10, lsl_10, lsq_11, lsl_11, lsq_12, lsl_12, lsq_13, lsl_13, lsq_14, lsl_14, tk_0, tk_1, tk_2, tk_3, tk_4, tk_5, tk_6, tk_7, tk_8, cs_n, cs_i, cs_l, cs_r, cs_u, nl, rt_s, rt_n, CST1, Nat.reduceAdd, Nat.reduceLeDiff, va_rf, rtOk, Bool.false_eq_true, Bool.true_eq_false, if_false, if_true, ite_true, ite_false, true_and, and_true, eq_self, ne_eq, not_false_eq_true, not_true_eq_false, false_implies, true_implies, and_self, reduceCtorEq, Nat.reduceBEq, Bool.or_false, Bool.false_or, Bool.or_true, Bool.true_or, if1_0, if1_1, if1_01, one_01, zer_01, lg_cmp_ge, lg_cmp_le, lg_cmp_gt, lg_cmp_lt, lg_cmp_eq, Classical.not_not, SHm hS, SHr hS, LIT2, toL, e2]) | (intro _))
    all_goals first | ((refine Eq.mp (congr (congrArg K ?_) ?_) hk) <;> (clear hk; (try unfold mayR); (try unfold mayS); (repeat' split) <;> first | rfl | (exfalso; ((try simp only [i_le, i_lt, i_eq, l_le, l_lt, l_eq, i_ne, l_ne, toL, l_add, l_sub1, LIT1, LIT2, Int.reduceNeg, ge_iff_le, gt_iff_lt] at *); omega)))) | (exfalso; ((try simp only [i_le, i_lt, i_eq, l_le, l_lt, l_eq, i_ne, l_ne, toL, l_add, l_sub1, LIT1, LIT2, Int.reduceNeg, ge_iff_le, gt_iff_lt] at *); omega))
  · repeat' (first | (with_reducible assumption) | (refine vp_in_iff.mpr ?_; ((try simp only [i_le, i_lt, i_eq, l_le, l_lt, l_eq, i_ne, l_ne, toL, l_add, l_sub1, LIT1, LIT2, Int.reduceNeg, ge_iff_le, gt_iff_lt] at *); omega)) | (refine And.intro ?_ ?_) | (omega) | (refine m_noMachine (by omega) ?_; simp only [D_X12_may, vcS, vcC, vcI, gtF, ptF, inS, inV, fv0, fv1, fv2, fv3, fw0, fw1, lg_0, lg_1, lg_2, lg_3, lg_4, lg_5, lg_6, lg_7, lg_8, lg_9, lg_10, lg_11, lg_12, lg_13, lg_14, lsq_0, lsl_0, lsq_1, lsl_1, lsq_2, lsl_2, lsq_3, lsl_3, lsq_4, lsl_4, lsq_5, lsl_5, lsq_6, lsl_6, lsq_7, lsl_7, lsq_8, lsl_8, lsq_9, lsl_9, lsq_10, lsl_10, lsq_11, lsl_11, lsq_12, lsl_12, lsq_13, lsl_13, lsq_14, lsl_14, tk_0, tk_1, tk_2, tk_3, tk_4, tk_5, tk_6, tk_7, tk_8, cs_n, cs_i, cs_l, cs_r, cs_u, nl, rt_s, rt_n, CST1, Nat.reduceAdd, Nat.reduceLeDiff, va_rf, rtOk, Bool.false_eq_true, Bool.true_eq_false, if_false, if_true, ite_true, ite_false, true_and, and_true, eq_self, ne_eq, not_false_eq_true, not_true_eq_false, false_implies, true_implies, and_self, reduceCtorEq, Nat.reduceBEq, Bool.or_false, Bool.false_or, Bool.or_true, Bool.true_or, if1_0, if1_1, if1_01, one_01, zer_01, lg_cmp_ge, lg_cmp_le, lg_cmp_gt, lg_cmp_lt, lg_cmp_eq, Classical.not_not, SHm hS, SHr hS, LIT2, toL]) | (refine m_noKeeper (by omega) ?_; simp only [D_X12_may, vcS, vcC, vcI, gtF, ptF, inS, inV, fv0, fv1, fv2, fv3, fw0, fw1, lg_0, lg_1, lg_2, lg_3, lg_4, lg_5, lg_6, lg_7, lg_8, lg_9, lg_10, lg_11, lg_12, lg_13, lg_14, lsq_0, lsl_0, lsq_1, lsl_1, lsq_2, lsl_2, lsq_3, lsl_3, lsq_4, lsl_4, lsq_5, lsl_5, lsq_6, lsl_6, lsq_7, lsl_7, lsq_8, lsl_8, lsq_9, lsl_9, lsq_10, lsl_10, lsq_11, lsl_11, lsq_12, lsl_12, lsq_13, lsl_13, lsq_14, lsl_14, tk_0, tk_1, tk_2, tk_3, tk_4, tk_5, tk_6, tk_7, tk_8, cs_n, cs_i, cs_l, cs_r, cs_u, nl, rt_s, rt_n, CST1, Nat.reduceAdd, Nat.reduceLeDiff, va_rf, rtOk, Bool.false_eq_true, Bool.true_eq_false, if_false, if_true, ite_true, ite_false, true_and, and_true, eq_self, ne_eq, not_false_eq_true, not_true_eq_false, false_implies, true_implies, and_self, reduceCtorEq, Nat.reduceBEq, Bool.or_false, Bool.false_or, Bool.or_true, Bool.true_or, if1_0, if1_1, if1_01, one_01, zer_01, lg_cmp_ge, lg_cmp_le, lg_cmp_gt, lg_cmp_lt, lg_cmp_eq, Classical.not_not, SHm hS, SHr hS, LIT2, toL]) | (refine m_in ?_; simp only [D_X12_may, vcS, vcC, vcI, gtF, ptF, inS, inV, fv0, fv1, fv2, fv3, fw0, fw1, lg_0, lg_1, lg_2, lg_3, lg_4, lg_5, lg_6, lg_7, lg_8, lg_9, lg_10, lg_11, lg_12, lg_13, lg_14, lsq_0, lsl_0, lsq_1, lsl_1, lsq_2, lsl_2, lsq_3, lsl_3, lsq_4, lsl_4, lsq_5, lsl_5, lsq_6, lsl_6, lsq_7, lsl_7, lsq_8, lsl_8, lsq_9, lsl_9, lsq_10, lsl_10, lsq_11, lsl_11, lsq_12, lsl_12, lsq_13, lsl_13, lsq_14, lsl_14, tk_0, tk_1, tk_2, tk_3, tk_4, tk_5, tk_6, tk_7, tk_8, cs_n, cs_i, cs_l, cs_r, cs_u, nl, rt_s, rt_n, CST1, Nat.reduceAdd, Nat.reduceLeDiff, va_rf, rtOk, Bool.false_eq_true, Bool.true_eq_false, if_false, if_true, ite_true, ite_false, true_and, and_true, eq_self, ne_eq, not_false_eq_true, not_true_eq_false, false_implies, true_implies, and_self, reduceCtorEq, Nat.reduceBEq, Bool.or_false, Bool.false_or, Bool.or_true, Bool.true_or, if1_0, if1_1, if1_01, one_01, zer_01, lg_cmp_ge, lg_cmp_le, lg_cmp_gt, lg_cmp_lt, lg_cmp_eq, Classical.not_not, SHm hS, SHr hS, LIT2, toL]) | (intro _))
    all_goals first | ((refine Eq.mp (congr (congrArg K ?_) ?_) hk) <;> (clear hk; (try unfold mayR); (try unfold mayS); (repeat' split) <;> first | rfl | (exfalso; ((try simp only [i_le, i_lt, i_eq, l_le, l_lt, l_eq, i_ne, l_ne, toL, l_add, l_sub1, LIT1, LIT2, Int.reduceNeg, ge_iff_le, gt_iff_lt] at *); omega)))) | (exfalso; ((try simp only [i_le, i_lt, i_eq, l_le, l_lt, l_eq, i_ne, l_ne, toL, l_add, l_sub1, LIT1, LIT2, Int.reduceNeg, ge_iff_le, gt_iff_lt] at *); omega))
end H15
end
