section
-- ===== PART A: goes FIRST, ahead of the names: the tables' words, and 'selects' of the private methods out of them =====
/-- a private method of a class that the tables say can be made, by its rows of tables_1 -/
def lw_okq (q : MethodName × Nat) : Prop := (q.1.cls ≠ "java/lang/invoke/MethodHandle" ∧ q.1.cls ≠ "java/lang/invoke/VarHandle") ∧ Cond.instantiable q.1.cls q.2 ∈ tables_1 ∧ Cond.privateMethod q.1 ∈ tables_1 ∧ Cond.instanceMethod q.1 ∈ tables_1
theorem lw_p0 : lw_okq (⟨"PortRooms", "finding", "(I)I"⟩, 14) := ⟨⟨by decide +kernel, by decide +kernel⟩, List.mem_of_getElem? (i := 22) (by decide +kernel), List.mem_of_getElem? (i := 372) (by decide +kernel), List.mem_of_getElem? (i := 373) (by decide +kernel)⟩
theorem lw_p1 : lw_okq (⟨"PortRooms", "passed", "(I)I"⟩, 14) := ⟨⟨by decide +kernel, by decide +kernel⟩, List.mem_of_getElem? (i := 22) (by decide +kernel), List.mem_of_getElem? (i := 381) (by decide +kernel), List.mem_of_getElem? (i := 382) (by decide +kernel)⟩
theorem lw_p2 : lw_okq (⟨"PortRooms$Holdings", "gatherWhoHas", "()V"⟩, 9) := ⟨⟨by decide +kernel, by decide +kernel⟩, List.mem_of_getElem? (i := 55) (by decide +kernel), List.mem_of_getElem? (i := 457) (by decide +kernel), List.mem_of_getElem? (i := 458) (by decide +kernel)⟩
theorem lw_p3 : lw_okq (⟨"PortRooms$Holdings", "closeReach", "()V"⟩, 9) := ⟨⟨by decide +kernel, by decide +kernel⟩, List.mem_of_getElem? (i := 55) (by decide +kernel), List.mem_of_getElem? (i := 461) (by decide +kernel), List.mem_of_getElem? (i := 462) (by decide +kernel)⟩
theorem lw_p4 : lw_okq (⟨"PortRooms$Holdings", "leadingTo", "(I)I"⟩, 9) := ⟨⟨by decide +kernel, by decide +kernel⟩, List.mem_of_getElem? (i := 55) (by decide +kernel), List.mem_of_getElem? (i := 482) (by decide +kernel), List.mem_of_getElem? (i := 483) (by decide +kernel)⟩
theorem lw_p5 : lw_okq (⟨"PortRooms", "isCrate", "(I)Z"⟩, 14) := ⟨⟨by decide +kernel, by decide +kernel⟩, List.mem_of_getElem? (i := 22) (by decide +kernel), List.mem_of_getElem? (i := 517) (by decide +kernel), List.mem_of_getElem? (i := 518) (by decide +kernel)⟩
theorem lw_p6 : lw_okq (⟨"PortRooms$Papers", "isAhead", "(II)Z"⟩, 7) := ⟨⟨by decide +kernel, by decide +kernel⟩, List.mem_of_getElem? (i := 125) (by decide +kernel), List.mem_of_getElem? (i := 528) (by decide +kernel), List.mem_of_getElem? (i := 529) (by decide +kernel)⟩
theorem lw_p7 : lw_okq (⟨"PortRooms$Papers", "isKnown", "(III)Z"⟩, 7) := ⟨⟨by decide +kernel, by decide +kernel⟩, List.mem_of_getElem? (i := 125) (by decide +kernel), List.mem_of_getElem? (i := 540) (by decide +kernel), List.mem_of_getElem? (i := 541) (by decide +kernel)⟩
theorem lw_p8 : lw_okq (⟨"PortRooms$Pledges", "isKnown", "(III)Z"⟩, 6) := ⟨⟨by decide +kernel, by decide +kernel⟩, List.mem_of_getElem? (i := 154) (by decide +kernel), List.mem_of_getElem? (i := 568) (by decide +kernel), List.mem_of_getElem? (i := 569) (by decide +kernel)⟩
theorem lw_p9 : lw_okq (⟨"PortRooms$Pledges", "putBehind", "(III)V"⟩, 6) := ⟨⟨by decide +kernel, by decide +kernel⟩, List.mem_of_getElem? (i := 154) (by decide +kernel), List.mem_of_getElem? (i := 572) (by decide +kernel), List.mem_of_getElem? (i := 573) (by decide +kernel)⟩
theorem lw_p10 : lw_okq (⟨"PortRooms$Pledges", "isAhead", "(III)Z"⟩, 6) := ⟨⟨by decide +kernel, by decide +kernel⟩, List.mem_of_getElem? (i := 154) (by decide +kernel), List.mem_of_getElem? (i := 576) (by decide +kernel), List.mem_of_getElem? (i := 577) (by decide +kernel)⟩
theorem lw_p11 : lw_okq (⟨"PortRooms$Duties", "next", "()V"⟩, 15) := ⟨⟨by decide +kernel, by decide +kernel⟩, List.mem_of_getElem? (i := 181) (by decide +kernel), List.mem_of_getElem? (i := 603) (by decide +kernel), List.mem_of_getElem? (i := 604) (by decide +kernel)⟩
theorem lw_p12 : lw_okq (⟨"PortRooms$Duties", "readName", "()V"⟩, 15) := ⟨⟨by decide +kernel, by decide +kernel⟩, List.mem_of_getElem? (i := 181) (by decide +kernel), List.mem_of_getElem? (i := 610) (by decide +kernel), List.mem_of_getElem? (i := 611) (by decide +kernel)⟩
theorem lw_p13 : lw_okq (⟨"PortRooms$Duties", "isWord", "(I)Z"⟩, 15) := ⟨⟨by decide +kernel, by decide +kernel⟩, List.mem_of_getElem? (i := 181) (by decide +kernel), List.mem_of_getElem? (i := 614) (by decide +kernel), List.mem_of_getElem? (i := 615) (by decide +kernel)⟩
theorem lw_p14 : lw_okq (⟨"PortRooms$Duties", "readNumber", "()V"⟩, 15) := ⟨⟨by decide +kernel, by decide +kernel⟩, List.mem_of_getElem? (i := 181) (by decide +kernel), List.mem_of_getElem? (i := 662) (by decide +kernel), List.mem_of_getElem? (i := 663) (by decide +kernel)⟩
theorem lw_p15 : lw_okq (⟨"PortRooms$Duties", "readAct", "()I"⟩, 15) := ⟨⟨by decide +kernel, by decide +kernel⟩, List.mem_of_getElem? (i := 181) (by decide +kernel), List.mem_of_getElem? (i := 666) (by decide +kernel), List.mem_of_getElem? (i := 667) (by decide +kernel)⟩
def lw_privs_1 : List (MethodName × Nat) := [(⟨"PortRooms", "finding", "(I)I"⟩, 14), (⟨"PortRooms", "passed", "(I)I"⟩, 14), (⟨"PortRooms$Holdings", "gatherWhoHas", "()V"⟩, 9), (⟨"PortRooms$Holdings", "closeReach", "()V"⟩, 9), (⟨"PortRooms$Holdings", "leadingTo", "(I)I"⟩, 9), (⟨"PortRooms", "isCrate", "(I)Z"⟩, 14), (⟨"PortRooms$Papers", "isAhead", "(II)Z"⟩, 7), (⟨"PortRooms$Papers", "isKnown", "(III)Z"⟩, 7), (⟨"PortRooms$Pledges", "isKnown", "(III)Z"⟩, 6), (⟨"PortRooms$Pledges", "putBehind", "(III)V"⟩, 6), (⟨"PortRooms$Pledges", "isAhead", "(III)Z"⟩, 6), (⟨"PortRooms$Duties", "next", "()V"⟩, 15), (⟨"PortRooms$Duties", "readName", "()V"⟩, 15), (⟨"PortRooms$Duties", "isWord", "(I)Z"⟩, 15), (⟨"PortRooms$Duties", "readNumber", "()V"⟩, 15), (⟨"PortRooms$Duties", "readAct", "()I"⟩, 15)]
theorem lw_r1 : ∀ q ∈ lw_privs_1, lw_okq q := List.forall_mem_cons.mpr ⟨lw_p0, List.forall_mem_cons.mpr ⟨lw_p1, List.forall_mem_cons.mpr ⟨lw_p2, List.forall_mem_cons.mpr ⟨lw_p3, List.forall_mem_cons.mpr ⟨lw_p4, List.forall_mem_cons.mpr ⟨lw_p5, List.forall_mem_cons.mpr ⟨lw_p6, List.forall_mem_cons.mpr ⟨lw_p7, List.forall_mem_cons.mpr ⟨lw_p8, List.forall_mem_cons.mpr ⟨lw_p9, List.forall_mem_cons.mpr ⟨lw_p10, List.forall_mem_cons.mpr ⟨lw_p11, List.forall_mem_cons.mpr ⟨lw_p12, List.forall_mem_cons.mpr ⟨lw_p13, List.forall_mem_cons.mpr ⟨lw_p14, List.forall_mem_cons.mpr ⟨lw_p15, fun _ h => absurd h List.not_mem_nil⟩⟩⟩⟩⟩⟩⟩⟩⟩⟩⟩⟩⟩⟩⟩⟩
theorem lw_p16 : lw_okq (⟨"PortRooms$Duties", "readPart", "()I"⟩, 15) := ⟨⟨by decide +kernel, by decide +kernel⟩, List.mem_of_getElem? (i := 181) (by decide +kernel), List.mem_of_getElem? (i := 670) (by decide +kernel), List.mem_of_getElem? (i := 671) (by decide +kernel)⟩
theorem lw_p17 : lw_okq (⟨"PortRooms$Duties", "keepDraft", "()V"⟩, 15) := ⟨⟨by decide +kernel, by decide +kernel⟩, List.mem_of_getElem? (i := 181) (by decide +kernel), List.mem_of_getElem? (i := 675) (by decide +kernel), List.mem_of_getElem? (i := 676) (by decide +kernel)⟩
theorem lw_p18 : lw_okq (⟨"PortRooms$Openings", "firstOf", "(I)I"⟩, 5) := ⟨⟨by decide +kernel, by decide +kernel⟩, List.mem_of_getElem? (i := 264) (by decide +kernel), List.mem_of_getElem? (i := 792) (by decide +kernel), List.mem_of_getElem? (i := 793) (by decide +kernel)⟩
theorem lw_p19 : lw_okq (⟨"PortRooms$Openings", "compared", "(II)I"⟩, 5) := ⟨⟨by decide +kernel, by decide +kernel⟩, List.mem_of_getElem? (i := 264) (by decide +kernel), List.mem_of_getElem? (i := 796) (by decide +kernel), List.mem_of_getElem? (i := 797) (by decide +kernel)⟩
theorem lw_p20 : lw_okq (⟨"PortRooms", "isBarred", "(II)Z"⟩, 14) := ⟨⟨by decide +kernel, by decide +kernel⟩, List.mem_of_getElem? (i := 22) (by decide +kernel), List.mem_of_getElem? (i := 819) (by decide +kernel), List.mem_of_getElem? (i := 820) (by decide +kernel)⟩
theorem lw_p21 : lw_okq (⟨"PortRooms", "kindToday", "(I)I"⟩, 14) := ⟨⟨by decide +kernel, by decide +kernel⟩, List.mem_of_getElem? (i := 22) (by decide +kernel), List.mem_of_getElem? (i := 836) (by decide +kernel), List.mem_of_getElem? (i := 837) (by decide +kernel)⟩
theorem lw_p22 : lw_okq (⟨"PortRooms", "askSize", "(II)I"⟩, 14) := ⟨⟨by decide +kernel, by decide +kernel⟩, List.mem_of_getElem? (i := 22) (by decide +kernel), List.mem_of_getElem? (i := 855) (by decide +kernel), List.mem_of_getElem? (i := 856) (by decide +kernel)⟩
theorem lw_p23 : lw_okq (⟨"PortRooms", "sizeOfOwed", "(I)I"⟩, 14) := ⟨⟨by decide +kernel, by decide +kernel⟩, List.mem_of_getElem? (i := 22) (by decide +kernel), List.mem_of_getElem? (i := 859) (by decide +kernel), List.mem_of_getElem? (i := 860) (by decide +kernel)⟩
theorem lw_p24 : lw_okq (⟨"PortRooms", "leave", "(I)V"⟩, 14) := ⟨⟨by decide +kernel, by decide +kernel⟩, List.mem_of_getElem? (i := 22) (by decide +kernel), List.mem_of_getElem? (i := 863) (by decide +kernel), List.mem_of_getElem? (i := 864) (by decide +kernel)⟩
theorem lw_p25 : lw_okq (⟨"PortRooms", "sizeLent", "(I)I"⟩, 14) := ⟨⟨by decide +kernel, by decide +kernel⟩, List.mem_of_getElem? (i := 22) (by decide +kernel), List.mem_of_getElem? (i := 867) (by decide +kernel), List.mem_of_getElem? (i := 868) (by decide +kernel)⟩
theorem lw_p26 : lw_okq (⟨"PortRooms", "sizeOfDeep", "(I)I"⟩, 14) := ⟨⟨by decide +kernel, by decide +kernel⟩, List.mem_of_getElem? (i := 22) (by decide +kernel), List.mem_of_getElem? (i := 871) (by decide +kernel), List.mem_of_getElem? (i := 872) (by decide +kernel)⟩
theorem lw_p27 : lw_okq (⟨"PortRooms", "sizeOfStopped", "(I)I"⟩, 14) := ⟨⟨by decide +kernel, by decide +kernel⟩, List.mem_of_getElem? (i := 22) (by decide +kernel), List.mem_of_getElem? (i := 875) (by decide +kernel), List.mem_of_getElem? (i := 876) (by decide +kernel)⟩
theorem lw_p28 : lw_okq (⟨"PortRooms", "markOfStopped", "(I)I"⟩, 14) := ⟨⟨by decide +kernel, by decide +kernel⟩, List.mem_of_getElem? (i := 22) (by decide +kernel), List.mem_of_getElem? (i := 879) (by decide +kernel), List.mem_of_getElem? (i := 880) (by decide +kernel)⟩
theorem lw_p29 : lw_okq (⟨"PortRooms", "markLent", "(I)I"⟩, 14) := ⟨⟨by decide +kernel, by decide +kernel⟩, List.mem_of_getElem? (i := 22) (by decide +kernel), List.mem_of_getElem? (i := 883) (by decide +kernel), List.mem_of_getElem? (i := 884) (by decide +kernel)⟩
theorem lw_p30 : lw_okq (⟨"PortRooms", "askMark", "(II)I"⟩, 14) := ⟨⟨by decide +kernel, by decide +kernel⟩, List.mem_of_getElem? (i := 22) (by decide +kernel), List.mem_of_getElem? (i := 887) (by decide +kernel), List.mem_of_getElem? (i := 888) (by decide +kernel)⟩
theorem lw_p31 : lw_okq (⟨"PortRooms", "markOfOwed", "(I)I"⟩, 14) := ⟨⟨by decide +kernel, by decide +kernel⟩, List.mem_of_getElem? (i := 22) (by decide +kernel), List.mem_of_getElem? (i := 891) (by decide +kernel), List.mem_of_getElem? (i := 892) (by decide +kernel)⟩
def lw_privs_2 : List (MethodName × Nat) := [(⟨"PortRooms$Duties", "readPart", "()I"⟩, 15), (⟨"PortRooms$Duties", "keepDraft", "()V"⟩, 15), (⟨"PortRooms$Openings", "firstOf", "(I)I"⟩, 5), (⟨"PortRooms$Openings", "compared", "(II)I"⟩, 5), (⟨"PortRooms", "isBarred", "(II)Z"⟩, 14), (⟨"PortRooms", "kindToday", "(I)I"⟩, 14), (⟨"PortRooms", "askSize", "(II)I"⟩, 14), (⟨"PortRooms", "sizeOfOwed", "(I)I"⟩, 14), (⟨"PortRooms", "leave", "(I)V"⟩, 14), (⟨"PortRooms", "sizeLent", "(I)I"⟩, 14), (⟨"PortRooms", "sizeOfDeep", "(I)I"⟩, 14), (⟨"PortRooms", "sizeOfStopped", "(I)I"⟩, 14), (⟨"PortRooms", "markOfStopped", "(I)I"⟩, 14), (⟨"PortRooms", "markLent", "(I)I"⟩, 14), (⟨"PortRooms", "askMark", "(II)I"⟩, 14), (⟨"PortRooms", "markOfOwed", "(I)I"⟩, 14)]
theorem lw_r2 : ∀ q ∈ lw_privs_2, lw_okq q := List.forall_mem_cons.mpr ⟨lw_p16, List.forall_mem_cons.mpr ⟨lw_p17, List.forall_mem_cons.mpr ⟨lw_p18, List.forall_mem_cons.mpr ⟨lw_p19, List.forall_mem_cons.mpr ⟨lw_p20, List.forall_mem_cons.mpr ⟨lw_p21, List.forall_mem_cons.mpr ⟨lw_p22, List.forall_mem_cons.mpr ⟨lw_p23, List.forall_mem_cons.mpr ⟨lw_p24, List.forall_mem_cons.mpr ⟨lw_p25, List.forall_mem_cons.mpr ⟨lw_p26, List.forall_mem_cons.mpr ⟨lw_p27, List.forall_mem_cons.mpr ⟨lw_p28, List.forall_mem_cons.mpr ⟨lw_p29, List.forall_mem_cons.mpr ⟨lw_p30, List.forall_mem_cons.mpr ⟨lw_p31, fun _ h => absurd h List.not_mem_nil⟩⟩⟩⟩⟩⟩⟩⟩⟩⟩⟩⟩⟩⟩⟩⟩
theorem lw_p32 : lw_okq (⟨"PortRooms", "markOfClean", "(I)I"⟩, 14) := ⟨⟨by decide +kernel, by decide +kernel⟩, List.mem_of_getElem? (i := 22) (by decide +kernel), List.mem_of_getElem? (i := 895) (by decide +kernel), List.mem_of_getElem? (i := 896) (by decide +kernel)⟩
theorem lw_p33 : lw_okq (⟨"PortRoomsModel", "found", "(I)I"⟩, 64) := ⟨⟨by decide +kernel, by decide +kernel⟩, List.mem_of_getElem? (i := 919) (by decide +kernel), List.mem_of_getElem? (i := 1133) (by decide +kernel), List.mem_of_getElem? (i := 1134) (by decide +kernel)⟩
theorem lw_p34 : lw_okq (⟨"PortRoomsModel", "holding", "(IIII)I"⟩, 64) := ⟨⟨by decide +kernel, by decide +kernel⟩, List.mem_of_getElem? (i := 919) (by decide +kernel), List.mem_of_getElem? (i := 1154) (by decide +kernel), List.mem_of_getElem? (i := 1155) (by decide +kernel)⟩
theorem lw_p35 : lw_okq (⟨"PortRoomsModel", "percentOf", "(III)I"⟩, 64) := ⟨⟨by decide +kernel, by decide +kernel⟩, List.mem_of_getElem? (i := 919) (by decide +kernel), List.mem_of_getElem? (i := 1181) (by decide +kernel), List.mem_of_getElem? (i := 1182) (by decide +kernel)⟩
theorem lw_p36 : lw_okq (⟨"PortRoomsModel", "shareOf", "(III)I"⟩, 64) := ⟨⟨by decide +kernel, by decide +kernel⟩, List.mem_of_getElem? (i := 919) (by decide +kernel), List.mem_of_getElem? (i := 1193) (by decide +kernel), List.mem_of_getElem? (i := 1194) (by decide +kernel)⟩
theorem lw_p37 : lw_okq (⟨"PortRoomsModel", "findHas", "(I)V"⟩, 64) := ⟨⟨by decide +kernel, by decide +kernel⟩, List.mem_of_getElem? (i := 919) (by decide +kernel), List.mem_of_getElem? (i := 1198) (by decide +kernel), List.mem_of_getElem? (i := 1199) (by decide +kernel)⟩
theorem lw_p38 : lw_okq (⟨"PortRoomsModel", "rowsTo", "(II)J"⟩, 64) := ⟨⟨by decide +kernel, by decide +kernel⟩, List.mem_of_getElem? (i := 919) (by decide +kernel), List.mem_of_getElem? (i := 1202) (by decide +kernel), List.mem_of_getElem? (i := 1203) (by decide +kernel)⟩
theorem lw_p39 : lw_okq (⟨"PortRoomsModel", "isCrate", "(I)Z"⟩, 64) := ⟨⟨by decide +kernel, by decide +kernel⟩, List.mem_of_getElem? (i := 919) (by decide +kernel), List.mem_of_getElem? (i := 1225) (by decide +kernel), List.mem_of_getElem? (i := 1226) (by decide +kernel)⟩
theorem lw_p40 : lw_okq (⟨"PortRoomsModel", "ownerOf", "(III)I"⟩, 64) := ⟨⟨by decide +kernel, by decide +kernel⟩, List.mem_of_getElem? (i := 919) (by decide +kernel), List.mem_of_getElem? (i := 1233) (by decide +kernel), List.mem_of_getElem? (i := 1234) (by decide +kernel)⟩
theorem lw_p41 : lw_okq (⟨"PortRoomsModel", "keyOf", "(II)I"⟩, 64) := ⟨⟨by decide +kernel, by decide +kernel⟩, List.mem_of_getElem? (i := 919) (by decide +kernel), List.mem_of_getElem? (i := 1250) (by decide +kernel), List.mem_of_getElem? (i := 1251) (by decide +kernel)⟩
theorem lw_p42 : lw_okq (⟨"PortRoomsModel", "step", "()V"⟩, 64) := ⟨⟨by decide +kernel, by decide +kernel⟩, List.mem_of_getElem? (i := 919) (by decide +kernel), List.mem_of_getElem? (i := 1264) (by decide +kernel), List.mem_of_getElem? (i := 1265) (by decide +kernel)⟩
theorem lw_p43 : lw_okq (⟨"PortRoomsModel", "byteAt", "(I)I"⟩, 64) := ⟨⟨by decide +kernel, by decide +kernel⟩, List.mem_of_getElem? (i := 919) (by decide +kernel), List.mem_of_getElem? (i := 1268) (by decide +kernel), List.mem_of_getElem? (i := 1269) (by decide +kernel)⟩
theorem lw_p44 : lw_okq (⟨"PortRoomsModel", "word", "()J"⟩, 64) := ⟨⟨by decide +kernel, by decide +kernel⟩, List.mem_of_getElem? (i := 919) (by decide +kernel), List.mem_of_getElem? (i := 1278) (by decide +kernel), List.mem_of_getElem? (i := 1279) (by decide +kernel)⟩
theorem lw_p45 : lw_okq (⟨"PortRoomsModel", "bad", "(I)V"⟩, 64) := ⟨⟨by decide +kernel, by decide +kernel⟩, List.mem_of_getElem? (i := 919) (by decide +kernel), List.mem_of_getElem? (i := 1286) (by decide +kernel), List.mem_of_getElem? (i := 1287) (by decide +kernel)⟩
theorem lw_p46 : lw_okq (⟨"PortRoomsModel", "need", "(Z)V"⟩, 64) := ⟨⟨by decide +kernel, by decide +kernel⟩, List.mem_of_getElem? (i := 919) (by decide +kernel), List.mem_of_getElem? (i := 1290) (by decide +kernel), List.mem_of_getElem? (i := 1291) (by decide +kernel)⟩
theorem lw_p47 : lw_okq (⟨"PortRoomsModel", "is", "(I)Z"⟩, 64) := ⟨⟨by decide +kernel, by decide +kernel⟩, List.mem_of_getElem? (i := 919) (by decide +kernel), List.mem_of_getElem? (i := 1294) (by decide +kernel), List.mem_of_getElem? (i := 1295) (by decide +kernel)⟩
def lw_privs_3 : List (MethodName × Nat) := [(⟨"PortRooms", "markOfClean", "(I)I"⟩, 14), (⟨"PortRoomsModel", "found", "(I)I"⟩, 64), (⟨"PortRoomsModel", "holding", "(IIII)I"⟩, 64), (⟨"PortRoomsModel", "percentOf", "(III)I"⟩, 64), (⟨"PortRoomsModel", "shareOf", "(III)I"⟩, 64), (⟨"PortRoomsModel", "findHas", "(I)V"⟩, 64), (⟨"PortRoomsModel", "rowsTo", "(II)J"⟩, 64), (⟨"PortRoomsModel", "isCrate", "(I)Z"⟩, 64), (⟨"PortRoomsModel", "ownerOf", "(III)I"⟩, 64), (⟨"PortRoomsModel", "keyOf", "(II)I"⟩, 64), (⟨"PortRoomsModel", "step", "()V"⟩, 64), (⟨"PortRoomsModel", "byteAt", "(I)I"⟩, 64), (⟨"PortRoomsModel", "word", "()J"⟩, 64), (⟨"PortRoomsModel", "bad", "(I)V"⟩, 64), (⟨"PortRoomsModel", "need", "(Z)V"⟩, 64), (⟨"PortRoomsModel", "is", "(I)Z"⟩, 64)]
theorem lw_r3 : ∀ q ∈ lw_privs_3, lw_okq q := List.forall_mem_cons.mpr ⟨lw_p32, List.forall_mem_cons.mpr ⟨lw_p33, List.forall_mem_cons.mpr ⟨lw_p34, List.forall_mem_cons.mpr ⟨lw_p35, List.forall_mem_cons.mpr ⟨lw_p36, List.forall_mem_cons.mpr ⟨lw_p37, List.forall_mem_cons.mpr ⟨lw_p38, List.forall_mem_cons.mpr ⟨lw_p39, List.forall_mem_cons.mpr ⟨lw_p40, List.forall_mem_cons.mpr ⟨lw_p41, List.forall_mem_cons.mpr ⟨lw_p42, List.forall_mem_cons.mpr ⟨lw_p43, List.forall_mem_cons.mpr ⟨lw_p44, List.forall_mem_cons.mpr ⟨lw_p45, List.forall_mem_cons.mpr ⟨lw_p46, List.forall_mem_cons.mpr ⟨lw_p47, fun _ h => absurd h List.not_mem_nil⟩⟩⟩⟩⟩⟩⟩⟩⟩⟩⟩⟩⟩⟩⟩⟩
theorem lw_p48 : lw_okq (⟨"PortRoomsModel", "numberUpTo", "(I)I"⟩, 64) := ⟨⟨by decide +kernel, by decide +kernel⟩, List.mem_of_getElem? (i := 919) (by decide +kernel), List.mem_of_getElem? (i := 1298) (by decide +kernel), List.mem_of_getElem? (i := 1299) (by decide +kernel)⟩
theorem lw_p49 : lw_okq (⟨"PortRoomsModel", "wakes", "(I)I"⟩, 64) := ⟨⟨by decide +kernel, by decide +kernel⟩, List.mem_of_getElem? (i := 919) (by decide +kernel), List.mem_of_getElem? (i := 1317) (by decide +kernel), List.mem_of_getElem? (i := 1318) (by decide +kernel)⟩
theorem lw_p50 : lw_okq (⟨"PortRoomsModel", "insideOf", "(II)I"⟩, 64) := ⟨⟨by decide +kernel, by decide +kernel⟩, List.mem_of_getElem? (i := 919) (by decide +kernel), List.mem_of_getElem? (i := 1335) (by decide +kernel), List.mem_of_getElem? (i := 1336) (by decide +kernel)⟩
theorem lw_p51 : lw_okq (⟨"PortRoomsModel", "lotOf", "(II)J"⟩, 64) := ⟨⟨by decide +kernel, by decide +kernel⟩, List.mem_of_getElem? (i := 919) (by decide +kernel), List.mem_of_getElem? (i := 1348) (by decide +kernel), List.mem_of_getElem? (i := 1349) (by decide +kernel)⟩
theorem lw_p52 : lw_okq (⟨"PortRoomsModel", "drawnOn", "(II)I"⟩, 64) := ⟨⟨by decide +kernel, by decide +kernel⟩, List.mem_of_getElem? (i := 919) (by decide +kernel), List.mem_of_getElem? (i := 1361) (by decide +kernel), List.mem_of_getElem? (i := 1362) (by decide +kernel)⟩
theorem lw_p53 : lw_okq (⟨"PortRoomsModel", "isBarred", "(II)Z"⟩, 64) := ⟨⟨by decide +kernel, by decide +kernel⟩, List.mem_of_getElem? (i := 919) (by decide +kernel), List.mem_of_getElem? (i := 1388) (by decide +kernel), List.mem_of_getElem? (i := 1389) (by decide +kernel)⟩
theorem lw_p54 : lw_okq (⟨"PortRoomsModel", "kindOf", "(I)I"⟩, 64) := ⟨⟨by decide +kernel, by decide +kernel⟩, List.mem_of_getElem? (i := 919) (by decide +kernel), List.mem_of_getElem? (i := 1401) (by decide +kernel), List.mem_of_getElem? (i := 1402) (by decide +kernel)⟩
theorem lw_p55 : lw_okq (⟨"PortRoomsModel", "owes", "(I)I"⟩, 64) := ⟨⟨by decide +kernel, by decide +kernel⟩, List.mem_of_getElem? (i := 919) (by decide +kernel), List.mem_of_getElem? (i := 1405) (by decide +kernel), List.mem_of_getElem? (i := 1406) (by decide +kernel)⟩
theorem lw_p56 : lw_okq (⟨"PortRoomsModel", "sizeOf", "(II)I"⟩, 64) := ⟨⟨by decide +kernel, by decide +kernel⟩, List.mem_of_getElem? (i := 919) (by decide +kernel), List.mem_of_getElem? (i := 1421) (by decide +kernel), List.mem_of_getElem? (i := 1422) (by decide +kernel)⟩
theorem lw_p57 : lw_okq (⟨"PortRoomsModel", "began", "(I)V"⟩, 64) := ⟨⟨by decide +kernel, by decide +kernel⟩, List.mem_of_getElem? (i := 919) (by decide +kernel), List.mem_of_getElem? (i := 1425) (by decide +kernel), List.mem_of_getElem? (i := 1426) (by decide +kernel)⟩
theorem lw_p58 : lw_okq (⟨"PortRoomsModel", "markOf", "(II)I"⟩, 64) := ⟨⟨by decide +kernel, by decide +kernel⟩, List.mem_of_getElem? (i := 919) (by decide +kernel), List.mem_of_getElem? (i := 1429) (by decide +kernel), List.mem_of_getElem? (i := 1430) (by decide +kernel)⟩
theorem lw_p59 : lw_okq (⟨"PortRoomsModel", "plainSize", "(I)I"⟩, 64) := ⟨⟨by decide +kernel, by decide +kernel⟩, List.mem_of_getElem? (i := 919) (by decide +kernel), List.mem_of_getElem? (i := 1433) (by decide +kernel), List.mem_of_getElem? (i := 1434) (by decide +kernel)⟩
def lw_privs_4 : List (MethodName × Nat) := [(⟨"PortRoomsModel", "numberUpTo", "(I)I"⟩, 64), (⟨"PortRoomsModel", "wakes", "(I)I"⟩, 64), (⟨"PortRoomsModel", "insideOf", "(II)I"⟩, 64), (⟨"PortRoomsModel", "lotOf", "(II)J"⟩, 64), (⟨"PortRoomsModel", "drawnOn", "(II)I"⟩, 64), (⟨"PortRoomsModel", "isBarred", "(II)Z"⟩, 64), (⟨"PortRoomsModel", "kindOf", "(I)I"⟩, 64), (⟨"PortRoomsModel", "owes", "(I)I"⟩, 64), (⟨"PortRoomsModel", "sizeOf", "(II)I"⟩, 64), (⟨"PortRoomsModel", "began", "(I)V"⟩, 64), (⟨"PortRoomsModel", "markOf", "(II)I"⟩, 64), (⟨"PortRoomsModel", "plainSize", "(I)I"⟩, 64)]
theorem lw_r4 : ∀ q ∈ lw_privs_4, lw_okq q := List.forall_mem_cons.mpr ⟨lw_p48, List.forall_mem_cons.mpr ⟨lw_p49, List.forall_mem_cons.mpr ⟨lw_p50, List.forall_mem_cons.mpr ⟨lw_p51, List.forall_mem_cons.mpr ⟨lw_p52, List.forall_mem_cons.mpr ⟨lw_p53, List.forall_mem_cons.mpr ⟨lw_p54, List.forall_mem_cons.mpr ⟨lw_p55, List.forall_mem_cons.mpr ⟨lw_p56, List.forall_mem_cons.mpr ⟨lw_p57, List.forall_mem_cons.mpr ⟨lw_p58, List.forall_mem_cons.mpr ⟨lw_p59, fun _ h => absurd h List.not_mem_nil⟩⟩⟩⟩⟩⟩⟩⟩⟩⟩⟩⟩
def lw_privs : List (MethodName × Nat) := lw_privs_1 ++ (lw_privs_2 ++ (lw_privs_3 ++ (lw_privs_4)))
def lw_tbl : List Cond := k2_sels lw_privs ++ tables_1
theorem lw_privs_ok : ∀ q ∈ lw_privs, lw_okq q := by
  show ∀ q ∈ lw_privs_1 ++ (lw_privs_2 ++ (lw_privs_3 ++ (lw_privs_4))), lw_okq q
  exact List.forall_mem_append.mpr ⟨lw_r1, List.forall_mem_append.mpr ⟨lw_r2, List.forall_mem_append.mpr ⟨lw_r3, lw_r4⟩⟩⟩
end
section
/-! ===== BEGIN words of one list among another's, by their places ===== -/
theorem goodIn_r {big : List Cond} (ws : List Cond) (ps : List Nat) (hp : ws = ps.filterMap (fun i => big[i]?)) (h : ws.all goodWord = true) : GoodIn big ws := by
  intro w hw
  have h1 := List.all_eq_true.mp h w hw
  rw [hp] at hw
  obtain ⟨i, -, hi⟩ := List.mem_filterMap.mp hw
  have hm : w ∈ big := by first | exact List.mem_of_getElem? hi | exact List.getElem?_mem hi
  exact ⟨hm, good_of_word h1⟩
theorem goodIn_app {big a b : List Cond} (ha : GoodIn big a) (hb : GoodIn big b) : GoodIn big (a ++ b) := fun w h => (List.mem_append.mp h).elim (ha w) (hb w)
theorem goodIn_ca {big a b : List Cond} {c : Cond} (ha : GoodIn big (c :: a)) (hb : GoodIn big b) : GoodIn big (c :: (a ++ b)) := fun w h => (List.mem_cons.mp h).elim (fun e => ha w (List.mem_cons.mpr (Or.inl e))) (fun h => (List.mem_append.mp h).elim (fun h => ha w (List.mem_cons.mpr (Or.inr h))) (hb w))
theorem goodIn_sub {big ws : List Cond} (hm : ∀ w ∈ ws, w ∈ big) (h : ws.all goodWord = true) : GoodIn big ws := fun w hw => ⟨hm w hw, good_of_word (List.all_eq_true.mp h w hw)⟩
/-! ===== END ===== -/
def RX0 : String := "PortRooms$Acts"
def TX0 : u_T := fun k => match k with
  | 0 => ("PortRooms$Acts", "crate", "[I", true)
  | 1 => ("PortRooms$Acts", "what", "[I", true)
  | 2 => ("PortRooms$Acts", "day", "[I", true)
  | 3 => ("PortRooms$Acts", "days", "[I", true)
  | _ => ("PortRooms$Acts", "count", "I", false)
def tyX0 : Nat → FieldType := fun k => match k with
  | 0 => .array .int
  | 1 => .array .int
  | 2 => .array .int
  | 3 => .array .int
  | _ => .int
abbrev wsX00 : List Cond := u_ws RX0 TX0 5
theorem nmX0 : ∀ a, a < 5 → ∀ b, b < 5 → a ≠ b → (TX0 a).2.1 ≠ (TX0 b).2.1 := by decide +kernel
theorem tyX0_ok : ∀ k, k < 5 → parseFieldDescriptor (TX0 k).2.2.1 = some (tyX0 k) := by decide +kernel
abbrev cX0_init : ByteArray := prog_2_method_1_code
def yX0_init : MethodName := ⟨RX0, "<init>", "()V"⟩
abbrev cX0_tell : ByteArray := prog_2_method_2_code
def yX0_tell : MethodName := ⟨RX0, "tell", "(IIII)I"⟩
abbrev cX0_firstWaking : ByteArray := prog_2_method_3_code
def yX0_firstWaking : MethodName := ⟨RX0, "firstWaking", "(ILPortRooms$Duties;)I"⟩
def RX1 : String := "PortRooms$Crates"
def TX1 : u_T := fun k => match k with
  | 0 => ("PortRooms$Crates", "firstOwner", "[I", true)
  | 1 => ("PortRooms$Crates", "worth", "[I", true)
  | 2 => ("PortRooms$Crates", "room", "[I", true)
  | 3 => ("PortRooms$Crates", "count", "I", false)
  | 4 => ("PortRooms$Crates", "air", "[I", true)
  | _ => ("PortRooms$Crates", "insured", "[I", true)
def tyX1 : Nat → FieldType := fun k => match k with
  | 0 => .array .int
  | 1 => .array .int
  | 2 => .array .int
  | 3 => .int
  | 4 => .array .int
  | _ => .array .int
abbrev wsX10 : List Cond := u_ws RX1 TX1 6
theorem nmX1 : ∀ a, a < 6 → ∀ b, b < 6 → a ≠ b → (TX1 a).2.1 ≠ (TX1 b).2.1 := by decide +kernel
theorem tyX1_ok : ∀ k, k < 6 → parseFieldDescriptor (TX1 k).2.2.1 = some (tyX1 k) := by decide +kernel
abbrev cX1_init : ByteArray := prog_3_method_1_code
def yX1_init : MethodName := ⟨RX1, "<init>", "()V"⟩
abbrev cX1_tell : ByteArray := prog_3_method_2_code
def yX1_tell : MethodName := ⟨RX1, "tell", "(II)I"⟩
abbrev cX1_setIn : ByteArray := prog_3_method_3_code
def yX1_setIn : MethodName := ⟨RX1, "setIn", "(I)I"⟩
abbrev cX1_setInRooms : ByteArray := prog_3_method_4_code
def yX1_setInRooms : MethodName := ⟨RX1, "setInRooms", "()I"⟩
abbrev cX1_worthsOf : ByteArray := prog_3_method_5_code
def yX1_worthsOf : MethodName := ⟨RX1, "worthsOf", "(I)I"⟩
abbrev cX1_fits : ByteArray := prog_3_method_6_code
def yX1_fits : MethodName := ⟨RX1, "fits", "(II)Z"⟩
def RX2 : String := "PortRooms$Duties"
def TX2 : u_T := fun k => match k with
  | 0 => ("PortRooms$Duties", "tape", "[B", true)
  | 1 => ("PortRooms$Duties", "length", "I", false)
  | 2 => ("PortRooms$Duties", "latestFault", "I", false)
  | 3 => ("PortRooms$Duties", "what", "[I", true)
  | 4 => ("PortRooms$Duties", "days", "[I", true)
  | 5 => ("PortRooms$Duties", "part", "[I", true)
  | 6 => ("PortRooms$Duties", "lines", "I", false)
  | 7 => ("PortRooms$Duties", "draftWhat", "[I", true)
  | 8 => ("PortRooms$Duties", "draftDays", "[I", true)
  | 9 => ("PortRooms$Duties", "draftPart", "[I", true)
  | 10 => ("PortRooms$Duties", "drafted", "I", false)
  | 11 => ("PortRooms$Duties", "start", "I", false)
  | 12 => ("PortRooms$Duties", "end", "I", false)
  | 13 => ("PortRooms$Duties", "token", "I", false)
  | _ => ("PortRooms$Duties", "number", "I", false)
def tyX2 : Nat → FieldType := fun k => match k with
  | 0 => .array .byte
  | 1 => .int
  | 2 => .int
  | 3 => .array .int
  | 4 => .array .int
  | 5 => .array .int
  | 6 => .int
  | 7 => .array .int
  | 8 => .array .int
  | 9 => .array .int
  | 10 => .int
  | 11 => .int
  | 12 => .int
  | 13 => .int
  | _ => .int
abbrev wsX20 : List Cond := u_ws RX2 TX2 15
theorem nmX2 : ∀ a, a < 15 → ∀ b, b < 15 → a ≠ b → (TX2 a).2.1 ≠ (TX2 b).2.1 := by decide +kernel
theorem tyX2_ok : ∀ k, k < 15 → parseFieldDescriptor (TX2 k).2.2.1 = some (tyX2 k) := by decide +kernel
abbrev cX2_init : ByteArray := prog_4_method_1_code
def yX2_init : MethodName := ⟨RX2, "<init>", "()V"⟩
abbrev cX2_take : ByteArray := prog_4_method_2_code
def yX2_take : MethodName := ⟨RX2, "take", "(B)V"⟩
abbrev cX2_read : ByteArray := prog_4_method_3_code
def yX2_read : MethodName := ⟨RX2, "read", "()I"⟩
abbrev cX2_keepDraft : ByteArray := prog_4_method_4_code
def yX2_keepDraft : MethodName := ⟨RX2, "keepDraft", "()V"⟩
abbrev cX2_readAct : ByteArray := prog_4_method_5_code
def yX2_readAct : MethodName := ⟨RX2, "readAct", "()I"⟩
abbrev cX2_readPart : ByteArray := prog_4_method_6_code
def yX2_readPart : MethodName := ⟨RX2, "readPart", "()I"⟩
abbrev cX2_next : ByteArray := prog_4_method_7_code
def yX2_next : MethodName := ⟨RX2, "next", "()V"⟩
abbrev cX2_isLetter : ByteArray := prog_4_method_8_code
def yX2_isLetter : MethodName := ⟨RX2, "isLetter", "(I)Z"⟩
abbrev cX2_isFigure : ByteArray := prog_4_method_9_code
def yX2_isFigure : MethodName := ⟨RX2, "isFigure", "(I)Z"⟩
abbrev cX2_readName : ByteArray := prog_4_method_10_code
def yX2_readName : MethodName := ⟨RX2, "readName", "()V"⟩
abbrev cX2_isWord : ByteArray := prog_4_method_11_code
def yX2_isWord : MethodName := ⟨RX2, "isWord", "(I)Z"⟩
abbrev cX2_readNumber : ByteArray := prog_4_method_12_code
def yX2_readNumber : MethodName := ⟨RX2, "readNumber", "()V"⟩
abbrev cX2_lineFor : ByteArray := prog_4_method_13_code
def yX2_lineFor : MethodName := ⟨RX2, "lineFor", "(II)I"⟩
def RX3 : String := "PortRooms$Holdings"
def TX3 : u_T := fun k => match k with
  | 0 => ("PortRooms$Holdings", "owner", "[I", true)
  | 1 => ("PortRooms$Holdings", "company", "[I", true)
  | 2 => ("PortRooms$Holdings", "percentage", "[I", true)
  | 3 => ("PortRooms$Holdings", "since", "[I", true)
  | 4 => ("PortRooms$Holdings", "count", "I", false)
  | 5 => ("PortRooms$Holdings", "part", "[I", true)
  | 6 => ("PortRooms$Holdings", "partSince", "[I", true)
  | 7 => ("PortRooms$Holdings", "has", "[I", true)
  | _ => ("PortRooms$Holdings", "reach", "[I", true)
def tyX3 : Nat → FieldType := fun k => match k with
  | 0 => .array .int
  | 1 => .array .int
  | 2 => .array .int
  | 3 => .array .int
  | 4 => .int
  | 5 => .array .int
  | 6 => .array .int
  | 7 => .array .int
  | _ => .array .int
abbrev wsX30 : List Cond := u_ws RX3 TX3 9
theorem nmX3 : ∀ a, a < 9 → ∀ b, b < 9 → a ≠ b → (TX3 a).2.1 ≠ (TX3 b).2.1 := by decide +kernel
theorem tyX3_ok : ∀ k, k < 9 → parseFieldDescriptor (TX3 k).2.2.1 = some (tyX3 k) := by decide +kernel
abbrev cX3_init : ByteArray := prog_5_method_1_code
def yX3_init : MethodName := ⟨RX3, "<init>", "()V"⟩
abbrev cX3_tell : ByteArray := prog_5_method_2_code
def yX3_tell : MethodName := ⟨RX3, "tell", "(IIII)I"⟩
abbrev cX3_place : ByteArray := prog_5_method_3_code
def yX3_place : MethodName := ⟨RX3, "place", "(II)I"⟩
abbrev cX3_lookAt : ByteArray := prog_5_method_4_code
def yX3_lookAt : MethodName := ⟨RX3, "lookAt", "(I)V"⟩
abbrev cX3_gatherWhoHas : ByteArray := prog_5_method_5_code
def yX3_gatherWhoHas : MethodName := ⟨RX3, "gatherWhoHas", "()V"⟩
abbrev cX3_closeReach : ByteArray := prog_5_method_6_code
def yX3_closeReach : MethodName := ⟨RX3, "closeReach", "()V"⟩
abbrev cX3_partOf : ByteArray := prog_5_method_7_code
def yX3_partOf : MethodName := ⟨RX3, "partOf", "(II)I"⟩
abbrev cX3_shareOf : ByteArray := prog_5_method_8_code
def yX3_shareOf : MethodName := ⟨RX3, "shareOf", "(II)I"⟩
abbrev cX3_leadingTo : ByteArray := prog_5_method_9_code
def yX3_leadingTo : MethodName := ⟨RX3, "leadingTo", "(I)I"⟩
abbrev cX3_along : ByteArray := prog_5_method_10_code
def yX3_along : MethodName := ⟨RX3, "along", "(LPortRooms$Holdings;IIIII)J"⟩
def RX4 : String := "PortRooms$Lists"
def TX4 : u_T := fun k => match k with
  | 0 => ("PortRooms$Lists", "person", "[I", true)
  | 1 => ("PortRooms$Lists", "from", "[I", true)
  | 2 => ("PortRooms$Lists", "to", "[I", true)
  | _ => ("PortRooms$Lists", "count", "I", false)
def tyX4 : Nat → FieldType := fun k => match k with
  | 0 => .array .int
  | 1 => .array .int
  | 2 => .array .int
  | _ => .int
abbrev wsX40 : List Cond := u_ws RX4 TX4 4
theorem nmX4 : ∀ a, a < 4 → ∀ b, b < 4 → a ≠ b → (TX4 a).2.1 ≠ (TX4 b).2.1 := by decide +kernel
theorem tyX4_ok : ∀ k, k < 4 → parseFieldDescriptor (TX4 k).2.2.1 = some (tyX4 k) := by decide +kernel
abbrev cX4_init : ByteArray := prog_6_method_1_code
def yX4_init : MethodName := ⟨RX4, "<init>", "()V"⟩
abbrev cX4_tell : ByteArray := prog_6_method_2_code
def yX4_tell : MethodName := ⟨RX4, "tell", "(III)I"⟩
abbrev cX4_peopleOn : ByteArray := prog_6_method_3_code
def yX4_peopleOn : MethodName := ⟨RX4, "peopleOn", "(I)I"⟩
def RX5 : String := "PortRooms$Looks"
def TX5 : u_T := fun k => match k with
  | 0 => ("PortRooms$Looks", "seed", "I", true)
  | _ => ("PortRooms$Looks", "lots", "[J", true)
def tyX5 : Nat → FieldType := fun k => match k with
  | 0 => .int
  | _ => .array .long
abbrev wsX50 : List Cond := u_ws RX5 TX5 2
theorem nmX5 : ∀ a, a < 2 → ∀ b, b < 2 → a ≠ b → (TX5 a).2.1 ≠ (TX5 b).2.1 := by decide +kernel
theorem tyX5_ok : ∀ k, k < 2 → parseFieldDescriptor (TX5 k).2.2.1 = some (tyX5 k) := by decide +kernel
abbrev cX5_init : ByteArray := prog_7_method_1_code
def yX5_init : MethodName := ⟨RX5, "<init>", "(I)V"⟩
abbrev cX5_lotOf : ByteArray := prog_7_method_2_code
def yX5_lotOf : MethodName := ⟨RX5, "lotOf", "(II)J"⟩
abbrev cX5_drawLots : ByteArray := prog_7_method_3_code
def yX5_drawLots : MethodName := ⟨RX5, "drawLots", "(II)V"⟩
abbrev cX5_howManyAhead : ByteArray := prog_7_method_4_code
def yX5_howManyAhead : MethodName := ⟨RX5, "howManyAhead", "(II)I"⟩
def RX6 : String := "PortRooms$Openings"
def TX6 : u_T := fun k => match k with
  | 0 => ("PortRooms$Openings", "crate", "[I", true)
  | 1 => ("PortRooms$Openings", "day", "[I", true)
  | 2 => ("PortRooms$Openings", "weight", "[I", true)
  | 3 => ("PortRooms$Openings", "marks", "[I", true)
  | _ => ("PortRooms$Openings", "count", "I", false)
def tyX6 : Nat → FieldType := fun k => match k with
  | 0 => .array .int
  | 1 => .array .int
  | 2 => .array .int
  | 3 => .array .int
  | _ => .int
abbrev wsX60 : List Cond := u_ws RX6 TX6 5
theorem nmX6 : ∀ a, a < 5 → ∀ b, b < 5 → a ≠ b → (TX6 a).2.1 ≠ (TX6 b).2.1 := by decide +kernel
theorem tyX6_ok : ∀ k, k < 5 → parseFieldDescriptor (TX6 k).2.2.1 = some (tyX6 k) := by decide +kernel
abbrev cX6_init : ByteArray := prog_8_method_1_code
def yX6_init : MethodName := ⟨RX6, "<init>", "()V"⟩
abbrev cX6_tell : ByteArray := prog_8_method_2_code
def yX6_tell : MethodName := ⟨RX6, "tell", "(IIII)I"⟩
abbrev cX6_worstOf : ByteArray := prog_8_method_3_code
def yX6_worstOf : MethodName := ⟨RX6, "worstOf", "(I)I"⟩
abbrev cX6_firstOf : ByteArray := prog_8_method_4_code
def yX6_firstOf : MethodName := ⟨RX6, "firstOf", "(I)I"⟩
abbrev cX6_compared : ByteArray := prog_8_method_5_code
def yX6_compared : MethodName := ⟨RX6, "compared", "(II)I"⟩
def RX7 : String := "PortRooms$Papers"
def TX7 : u_T := fun k => match k with
  | 0 => ("PortRooms$Papers", "crate", "[I", true)
  | 1 => ("PortRooms$Papers", "from", "[I", true)
  | 2 => ("PortRooms$Papers", "to", "[I", true)
  | 3 => ("PortRooms$Papers", "said", "[I", true)
  | 4 => ("PortRooms$Papers", "filed", "[I", true)
  | 5 => ("PortRooms$Papers", "order", "[I", true)
  | _ => ("PortRooms$Papers", "count", "I", false)
def tyX7 : Nat → FieldType := fun k => match k with
  | 0 => .array .int
  | 1 => .array .int
  | 2 => .array .int
  | 3 => .array .int
  | 4 => .array .int
  | 5 => .array .int
  | _ => .int
abbrev wsX70 : List Cond := u_ws RX7 TX7 7
theorem nmX7 : ∀ a, a < 7 → ∀ b, b < 7 → a ≠ b → (TX7 a).2.1 ≠ (TX7 b).2.1 := by decide +kernel
theorem tyX7_ok : ∀ k, k < 7 → parseFieldDescriptor (TX7 k).2.2.1 = some (tyX7 k) := by decide +kernel
abbrev cX7_init : ByteArray := prog_9_method_1_code
def yX7_init : MethodName := ⟨RX7, "<init>", "()V"⟩
abbrev cX7_tell : ByteArray := prog_9_method_2_code
def yX7_tell : MethodName := ⟨RX7, "tell", "(IIIII)I"⟩
abbrev cX7_isAhead : ByteArray := prog_9_method_3_code
def yX7_isAhead : MethodName := ⟨RX7, "isAhead", "(II)Z"⟩
abbrev cX7_isKnown : ByteArray := prog_9_method_4_code
def yX7_isKnown : MethodName := ⟨RX7, "isKnown", "(III)Z"⟩
abbrev cX7_ownerOf : ByteArray := prog_9_method_5_code
def yX7_ownerOf : MethodName := ⟨RX7, "ownerOf", "(IIII)I"⟩
abbrev cX7_notGood : ByteArray := prog_9_method_6_code
def yX7_notGood : MethodName := ⟨RX7, "notGood", "(III)I"⟩
def RX8 : String := "PortRooms$Pledges"
def TX8 : u_T := fun k => match k with
  | 0 => ("PortRooms$Pledges", "crate", "[I", true)
  | 1 => ("PortRooms$Pledges", "sum", "[I", true)
  | 2 => ("PortRooms$Pledges", "said", "[I", true)
  | 3 => ("PortRooms$Pledges", "filed", "[I", true)
  | 4 => ("PortRooms$Pledges", "count", "I", false)
  | _ => ("PortRooms$Pledges", "order", "[I", true)
def tyX8 : Nat → FieldType := fun k => match k with
  | 0 => .array .int
  | 1 => .array .int
  | 2 => .array .int
  | 3 => .array .int
  | 4 => .int
  | _ => .array .int
abbrev wsX80 : List Cond := u_ws RX8 TX8 6
theorem nmX8 : ∀ a, a < 6 → ∀ b, b < 6 → a ≠ b → (TX8 a).2.1 ≠ (TX8 b).2.1 := by decide +kernel
theorem tyX8_ok : ∀ k, k < 6 → parseFieldDescriptor (TX8 k).2.2.1 = some (tyX8 k) := by decide +kernel
abbrev cX8_init : ByteArray := prog_10_method_1_code
def yX8_init : MethodName := ⟨RX8, "<init>", "()V"⟩
abbrev cX8_tell : ByteArray := prog_10_method_2_code
def yX8_tell : MethodName := ⟨RX8, "tell", "(IIII)I"⟩
abbrev cX8_isKnown : ByteArray := prog_10_method_3_code
def yX8_isKnown : MethodName := ⟨RX8, "isKnown", "(III)Z"⟩
abbrev cX8_sumsOn : ByteArray := prog_10_method_4_code
def yX8_sumsOn : MethodName := ⟨RX8, "sumsOn", "(II)I"⟩
abbrev cX8_putInOrder : ByteArray := prog_10_method_5_code
def yX8_putInOrder : MethodName := ⟨RX8, "putInOrder", "(III)I"⟩
abbrev cX8_putBehind : ByteArray := prog_10_method_6_code
def yX8_putBehind : MethodName := ⟨RX8, "putBehind", "(III)V"⟩
abbrev cX8_isAhead : ByteArray := prog_10_method_7_code
def yX8_isAhead : MethodName := ⟨RX8, "isAhead", "(III)Z"⟩
abbrev cX8_paidTo : ByteArray := prog_10_method_8_code
def yX8_paidTo : MethodName := ⟨RX8, "paidTo", "(II)I"⟩
def RX9 : String := "PortRooms$Sheets"
def TX9 : u_T := fun k => match k with
  | 0 => ("PortRooms$Sheets", "items", "[[I", true)
  | 1 => ("PortRooms$Sheets", "lane", "[I", true)
  | _ => ("PortRooms$Sheets", "size", "[I", true)
def tyX9 : Nat → FieldType := fun k => match k with
  | 0 => .array (.array .int)
  | 1 => .array .int
  | _ => .array .int
abbrev wsX90 : List Cond := u_ws RX9 TX9 3
theorem nmX9 : ∀ a, a < 3 → ∀ b, b < 3 → a ≠ b → (TX9 a).2.1 ≠ (TX9 b).2.1 := by decide +kernel
theorem tyX9_ok : ∀ k, k < 3 → parseFieldDescriptor (TX9 k).2.2.1 = some (tyX9 k) := by decide +kernel
abbrev cX9_init : ByteArray := prog_11_method_1_code
def yX9_init : MethodName := ⟨RX9, "<init>", "()V"⟩
abbrev cX9_isMissing : ByteArray := prog_11_method_2_code
def yX9_isMissing : MethodName := ⟨RX9, "isMissing", "(I)Z"⟩
abbrev cX9_hasPlaces : ByteArray := prog_11_method_3_code
def yX9_hasPlaces : MethodName := ⟨RX9, "hasPlaces", "(III)Z"⟩
abbrev cX9_lay : ByteArray := prog_11_method_4_code
def yX9_lay : MethodName := ⟨RX9, "lay", "(III)V"⟩
abbrev cX9_put : ByteArray := prog_11_method_5_code
def yX9_put : MethodName := ⟨RX9, "put", "(III)I"⟩
abbrev cX9_takeAway : ByteArray := prog_11_method_6_code
def yX9_takeAway : MethodName := ⟨RX9, "takeAway", "(I)V"⟩
abbrev cX9_howMany : ByteArray := prog_11_method_7_code
def yX9_howMany : MethodName := ⟨RX9, "howMany", "()I"⟩
def RX10 : String := "PortRooms"
def TX10 : u_T := fun k => match k with
  | 0 => ("PortRooms", "sheets", "LPortRooms$Sheets;", true)
  | 1 => ("PortRooms", "holdings", "LPortRooms$Holdings;", true)
  | 2 => ("PortRooms", "crates", "LPortRooms$Crates;", true)
  | 3 => ("PortRooms", "papers", "LPortRooms$Papers;", true)
  | 4 => ("PortRooms", "pledges", "LPortRooms$Pledges;", true)
  | 5 => ("PortRooms", "duties", "LPortRooms$Duties;", true)
  | 6 => ("PortRooms", "acts", "LPortRooms$Acts;", true)
  | 7 => ("PortRooms", "looks", "LPortRooms$Looks;", true)
  | 8 => ("PortRooms", "openings", "LPortRooms$Openings;", true)
  | 9 => ("PortRooms", "lists", "LPortRooms$Lists;", true)
  | 10 => ("PortRooms", "trace", "[I", true)
  | 11 => ("PortRooms", "traced", "I", false)
  | 12 => ("PortRooms", "today", "I", false)
  | _ => ("PortRooms", "latestFinding", "I", false)
def tyX10 : Nat → FieldType := fun k => match k with
  | 0 => .object "PortRooms$Sheets"
  | 1 => .object "PortRooms$Holdings"
  | 2 => .object "PortRooms$Crates"
  | 3 => .object "PortRooms$Papers"
  | 4 => .object "PortRooms$Pledges"
  | 5 => .object "PortRooms$Duties"
  | 6 => .object "PortRooms$Acts"
  | 7 => .object "PortRooms$Looks"
  | 8 => .object "PortRooms$Openings"
  | 9 => .object "PortRooms$Lists"
  | 10 => .array .int
  | 11 => .int
  | 12 => .int
  | _ => .int
abbrev wsX100 : List Cond := u_ws RX10 TX10 14
theorem nmX10 : ∀ a, a < 14 → ∀ b, b < 14 → a ≠ b → (TX10 a).2.1 ≠ (TX10 b).2.1 := by decide +kernel
theorem tyX10_ok : ∀ k, k < 14 → parseFieldDescriptor (TX10 k).2.2.1 = some (tyX10 k) := by decide +kernel
abbrev cX10_init : ByteArray := prog_1_method_1_code
def yX10_init : MethodName := ⟨RX10, "<init>", "(I)V"⟩
abbrev cX10_sheet : ByteArray := prog_1_method_2_code
def yX10_sheet : MethodName := ⟨RX10, "sheet", "(III)I"⟩
abbrev cX10_set : ByteArray := prog_1_method_3_code
def yX10_set : MethodName := ⟨RX10, "set", "(III)I"⟩
abbrev cX10_copy : ByteArray := prog_1_method_4_code
def yX10_copy : MethodName := ⟨RX10, "copy", "(IIIII)I"⟩
abbrev cX10_drop : ByteArray := prog_1_method_5_code
def yX10_drop : MethodName := ⟨RX10, "drop", "(I)I"⟩
abbrev cX10_hold : ByteArray := prog_1_method_6_code
def yX10_hold : MethodName := ⟨RX10, "hold", "(IIII)I"⟩
abbrev cX10_holds : ByteArray := prog_1_method_7_code
def yX10_holds : MethodName := ⟨RX10, "holds", "(III)I"⟩
abbrev cX10_percent : ByteArray := prog_1_method_8_code
def yX10_percent : MethodName := ⟨RX10, "percent", "(III)I"⟩
abbrev cX10_share : ByteArray := prog_1_method_9_code
def yX10_share : MethodName := ⟨RX10, "share", "(III)I"⟩
abbrev cX10_truly : ByteArray := prog_1_method_10_code
def yX10_truly : MethodName := ⟨RX10, "truly", "(II)I"⟩
abbrev cX10_rings : ByteArray := prog_1_method_11_code
def yX10_rings : MethodName := ⟨RX10, "rings", "(I)I"⟩
abbrev cX10_crate : ByteArray := prog_1_method_12_code
def yX10_crate : MethodName := ⟨RX10, "crate", "(II)I"⟩
abbrev cX10_paper : ByteArray := prog_1_method_13_code
def yX10_paper : MethodName := ⟨RX10, "paper", "(IIIII)I"⟩
abbrev cX10_owner : ByteArray := prog_1_method_14_code
def yX10_owner : MethodName := ⟨RX10, "owner", "(III)I"⟩
abbrev cX10_quarrels : ByteArray := prog_1_method_15_code
def yX10_quarrels : MethodName := ⟨RX10, "quarrels", "(II)I"⟩
abbrev cX10_pledge : ByteArray := prog_1_method_16_code
def yX10_pledge : MethodName := ⟨RX10, "pledge", "(IIIII)I"⟩
abbrev cX10_rank : ByteArray := prog_1_method_17_code
def yX10_rank : MethodName := ⟨RX10, "rank", "(IIIII)I"⟩
abbrev cX10_feed : ByteArray := prog_1_method_18_code
def yX10_feed : MethodName := ⟨RX10, "feed", "(JI)I"⟩
abbrev cX10_duties : ByteArray := prog_1_method_19_code
def yX10_duties : MethodName := ⟨RX10, "duties", "()I"⟩
abbrev cX10_fault : ByteArray := prog_1_method_20_code
def yX10_fault : MethodName := ⟨RX10, "fault", "()I"⟩
abbrev cX10_act : ByteArray := prog_1_method_21_code
def yX10_act : MethodName := ⟨RX10, "act", "(IIII)I"⟩
abbrev cX10_duty : ByteArray := prog_1_method_22_code
def yX10_duty : MethodName := ⟨RX10, "duty", "(II)I"⟩
abbrev cX10_room : ByteArray := prog_1_method_23_code
def yX10_room : MethodName := ⟨RX10, "room", "(III)I"⟩
abbrev cX10_move : ByteArray := prog_1_method_24_code
def yX10_move : MethodName := ⟨RX10, "move", "(II)I"⟩
abbrev cX10_inside : ByteArray := prog_1_method_25_code
def yX10_inside : MethodName := ⟨RX10, "inside", "(II)I"⟩
abbrev cX10_lot : ByteArray := prog_1_method_26_code
def yX10_lot : MethodName := ⟨RX10, "lot", "(III)I"⟩
abbrev cX10_drawn : ByteArray := prog_1_method_27_code
def yX10_drawn : MethodName := ⟨RX10, "drawn", "(II)I"⟩
abbrev cX10_often : ByteArray := prog_1_method_28_code
def yX10_often : MethodName := ⟨RX10, "often", "(IIII)I"⟩
abbrev cX10_opened : ByteArray := prog_1_method_29_code
def yX10_opened : MethodName := ⟨RX10, "opened", "(IIII)I"⟩
abbrev cX10_verdict : ByteArray := prog_1_method_30_code
def yX10_verdict : MethodName := ⟨RX10, "verdict", "(I)I"⟩
abbrev cX10_list : ByteArray := prog_1_method_31_code
def yX10_list : MethodName := ⟨RX10, "list", "(III)I"⟩
abbrev cX10_barred : ByteArray := prog_1_method_32_code
def yX10_barred : MethodName := ⟨RX10, "barred", "(II)I"⟩
abbrev cX10_day : ByteArray := prog_1_method_33_code
def yX10_day : MethodName := ⟨RX10, "day", "(I)I"⟩
abbrev cX10_kind : ByteArray := prog_1_method_34_code
def yX10_kind : MethodName := ⟨RX10, "kind", "(I)I"⟩
abbrev cX10_as : ByteArray := prog_1_method_35_code
def yX10_as : MethodName := ⟨RX10, "as", "(II)I"⟩
abbrev cX10_ask : ByteArray := prog_1_method_36_code
def yX10_ask : MethodName := ⟨RX10, "ask", "(II)I"⟩
abbrev cX10_trace : ByteArray := prog_1_method_37_code
def yX10_trace : MethodName := ⟨RX10, "trace", "(I)I"⟩
abbrev cX10_count : ByteArray := prog_1_method_38_code
def yX10_count : MethodName := ⟨RX10, "count", "(I)I"⟩
abbrev cX10_status : ByteArray := prog_1_method_39_code
def yX10_status : MethodName := ⟨RX10, "status", "()I"⟩
abbrev cX10_isBelow : ByteArray := prog_1_method_40_code
def yX10_isBelow : MethodName := ⟨RX10, "isBelow", "(II)Z"⟩
abbrev cX10_isFrom : ByteArray := prog_1_method_41_code
def yX10_isFrom : MethodName := ⟨RX10, "isFrom", "(III)Z"⟩
abbrev cX10_isDay : ByteArray := prog_1_method_42_code
def yX10_isDay : MethodName := ⟨RX10, "isDay", "(I)Z"⟩
abbrev cX10_areDays : ByteArray := prog_1_method_43_code
def yX10_areDays : MethodName := ⟨RX10, "areDays", "(II)Z"⟩
abbrev cX10_isPerson : ByteArray := prog_1_method_44_code
def yX10_isPerson : MethodName := ⟨RX10, "isPerson", "(I)Z"⟩
abbrev cX10_isOwner : ByteArray := prog_1_method_45_code
def yX10_isOwner : MethodName := ⟨RX10, "isOwner", "(I)Z"⟩
abbrev cX10_isPair : ByteArray := prog_1_method_46_code
def yX10_isPair : MethodName := ⟨RX10, "isPair", "(II)Z"⟩
abbrev cX10_isCrate : ByteArray := prog_1_method_47_code
def yX10_isCrate : MethodName := ⟨RX10, "isCrate", "(I)Z"⟩
abbrev cX10_hasBit : ByteArray := prog_1_method_48_code
def yX10_hasBit : MethodName := ⟨RX10, "hasBit", "(II)Z"⟩
abbrev cX10_finding : ByteArray := prog_1_method_49_code
def yX10_finding : MethodName := ⟨RX10, "finding", "(I)I"⟩
abbrev cX10_passed : ByteArray := prog_1_method_50_code
def yX10_passed : MethodName := ⟨RX10, "passed", "(I)I"⟩
abbrev cX10_isBarred : ByteArray := prog_1_method_51_code
def yX10_isBarred : MethodName := ⟨RX10, "isBarred", "(II)Z"⟩
abbrev cX10_kindToday : ByteArray := prog_1_method_52_code
def yX10_kindToday : MethodName := ⟨RX10, "kindToday", "(I)I"⟩
abbrev cX10_isOfKind : ByteArray := prog_1_method_53_code
def yX10_isOfKind : MethodName := ⟨RX10, "isOfKind", "(II)Z"⟩
abbrev cX10_askSize : ByteArray := prog_1_method_54_code
def yX10_askSize : MethodName := ⟨RX10, "askSize", "(II)I"⟩
abbrev cX10_askMark : ByteArray := prog_1_method_55_code
def yX10_askMark : MethodName := ⟨RX10, "askMark", "(II)I"⟩
abbrev cX10_leave : ByteArray := prog_1_method_56_code
def yX10_leave : MethodName := ⟨RX10, "leave", "(I)V"⟩
abbrev cX10_sizeLent : ByteArray := prog_1_method_57_code
def yX10_sizeLent : MethodName := ⟨RX10, "sizeLent", "(I)I"⟩
abbrev cX10_sizeOfOwed : ByteArray := prog_1_method_58_code
def yX10_sizeOfOwed : MethodName := ⟨RX10, "sizeOfOwed", "(I)I"⟩
abbrev cX10_sizeOfDeep : ByteArray := prog_1_method_59_code
def yX10_sizeOfDeep : MethodName := ⟨RX10, "sizeOfDeep", "(I)I"⟩
abbrev cX10_sizeOfStopped : ByteArray := prog_1_method_60_code
def yX10_sizeOfStopped : MethodName := ⟨RX10, "sizeOfStopped", "(I)I"⟩
abbrev cX10_markLent : ByteArray := prog_1_method_61_code
def yX10_markLent : MethodName := ⟨RX10, "markLent", "(I)I"⟩
abbrev cX10_markOfOwed : ByteArray := prog_1_method_62_code
def yX10_markOfOwed : MethodName := ⟨RX10, "markOfOwed", "(I)I"⟩
abbrev cX10_markOfStopped : ByteArray := prog_1_method_63_code
def yX10_markOfStopped : MethodName := ⟨RX10, "markOfStopped", "(I)I"⟩
abbrev cX10_markOfClean : ByteArray := prog_1_method_64_code
def yX10_markOfClean : MethodName := ⟨RX10, "markOfClean", "(I)I"⟩
def RX11 : String := "PortRoomsModel"
def TX11 : u_T := fun k => match k with
  | 0 => ("PortRoomsModel", "thrown", "I", false)
  | 1 => ("PortRoomsModel", "seed", "J", true)
  | 2 => ("PortRoomsModel", "status", "I", false)
  | 3 => ("PortRoomsModel", "lane", "[I", true)
  | 4 => ("PortRoomsModel", "many", "[I", true)
  | 5 => ("PortRoomsModel", "item", "[I", true)
  | 6 => ("PortRoomsModel", "holdings", "I", false)
  | 7 => ("PortRoomsModel", "holder", "[I", true)
  | 8 => ("PortRoomsModel", "held", "[I", true)
  | 9 => ("PortRoomsModel", "part", "[I", true)
  | 10 => ("PortRoomsModel", "since", "[I", true)
  | 11 => ("PortRoomsModel", "has", "[I", true)
  | 12 => ("PortRoomsModel", "path", "[I", true)
  | 13 => ("PortRoomsModel", "tried", "[I", true)
  | 14 => ("PortRoomsModel", "flow", "[J", true)
  | 15 => ("PortRoomsModel", "crates", "I", false)
  | 16 => ("PortRoomsModel", "first", "[I", true)
  | 17 => ("PortRoomsModel", "worth", "[I", true)
  | 18 => ("PortRoomsModel", "papers", "I", false)
  | 19 => ("PortRoomsModel", "paperCrate", "[I", true)
  | 20 => ("PortRoomsModel", "paperFrom", "[I", true)
  | 21 => ("PortRoomsModel", "paperTo", "[I", true)
  | 22 => ("PortRoomsModel", "paperSaid", "[I", true)
  | 23 => ("PortRoomsModel", "paperFiled", "[I", true)
  | 24 => ("PortRoomsModel", "quarrelling", "I", false)
  | 25 => ("PortRoomsModel", "pledges", "I", false)
  | 26 => ("PortRoomsModel", "pledgeCrate", "[I", true)
  | 27 => ("PortRoomsModel", "pledgeSum", "[I", true)
  | 28 => ("PortRoomsModel", "pledgeSaid", "[I", true)
  | 29 => ("PortRoomsModel", "pledgeFiled", "[I", true)
  | 30 => ("PortRoomsModel", "lines", "I", false)
  | 31 => ("PortRoomsModel", "line", "[I", true)
  | 32 => ("PortRoomsModel", "newLines", "I", false)
  | 33 => ("PortRoomsModel", "newLine", "[I", true)
  | 34 => ("PortRoomsModel", "tape", "[I", true)
  | 35 => ("PortRoomsModel", "taped", "I", false)
  | 36 => ("PortRoomsModel", "latest", "I", false)
  | 37 => ("PortRoomsModel", "size", "I", false)
  | 38 => ("PortRoomsModel", "cursor", "I", false)
  | 39 => ("PortRoomsModel", "token", "I", false)
  | 40 => ("PortRoomsModel", "from", "I", false)
  | 41 => ("PortRoomsModel", "till", "I", false)
  | 42 => ("PortRoomsModel", "fault", "I", false)
  | 43 => ("PortRoomsModel", "faultAt", "I", false)
  | 44 => ("PortRoomsModel", "acts", "I", false)
  | 45 => ("PortRoomsModel", "actCrate", "[I", true)
  | 46 => ("PortRoomsModel", "actWhat", "[I", true)
  | 47 => ("PortRoomsModel", "actDay", "[I", true)
  | 48 => ("PortRoomsModel", "actDays", "[I", true)
  | 49 => ("PortRoomsModel", "air", "[I", true)
  | 50 => ("PortRoomsModel", "insured", "[I", true)
  | 51 => ("PortRoomsModel", "where", "[I", true)
  | 52 => ("PortRoomsModel", "opens", "I", false)
  | 53 => ("PortRoomsModel", "openCrate", "[I", true)
  | 54 => ("PortRoomsModel", "openDay", "[I", true)
  | 55 => ("PortRoomsModel", "openWeight", "[I", true)
  | 56 => ("PortRoomsModel", "openMarks", "[I", true)
  | 57 => ("PortRoomsModel", "lists", "I", false)
  | 58 => ("PortRoomsModel", "listed", "[I", true)
  | 59 => ("PortRoomsModel", "listFrom", "[I", true)
  | 60 => ("PortRoomsModel", "listTo", "[I", true)
  | 61 => ("PortRoomsModel", "theDay", "I", false)
  | 62 => ("PortRoomsModel", "trace", "[I", true)
  | _ => ("PortRoomsModel", "traced", "I", false)
def tyX11 : Nat → FieldType := fun k => match k with
  | 0 => .int
  | 1 => .long
  | 2 => .int
  | 3 => .array .int
  | 4 => .array .int
  | 5 => .array .int
  | 6 => .int
  | 7 => .array .int
  | 8 => .array .int
  | 9 => .array .int
  | 10 => .array .int
  | 11 => .array .int
  | 12 => .array .int
  | 13 => .array .int
  | 14 => .array .long
  | 15 => .int
  | 16 => .array .int
  | 17 => .array .int
  | 18 => .int
  | 19 => .array .int
  | 20 => .array .int
  | 21 => .array .int
  | 22 => .array .int
  | 23 => .array .int
  | 24 => .int
  | 25 => .int
  | 26 => .array .int
  | 27 => .array .int
  | 28 => .array .int
  | 29 => .array .int
  | 30 => .int
  | 31 => .array .int
  | 32 => .int
  | 33 => .array .int
  | 34 => .array .int
  | 35 => .int
  | 36 => .int
  | 37 => .int
  | 38 => .int
  | 39 => .int
  | 40 => .int
  | 41 => .int
  | 42 => .int
  | 43 => .int
  | 44 => .int
  | 45 => .array .int
  | 46 => .array .int
  | 47 => .array .int
  | 48 => .array .int
  | 49 => .array .int
  | 50 => .array .int
  | 51 => .array .int
  | 52 => .int
  | 53 => .array .int
  | 54 => .array .int
  | 55 => .array .int
  | 56 => .array .int
  | 57 => .int
  | 58 => .array .int
  | 59 => .array .int
  | 60 => .array .int
  | 61 => .int
  | 62 => .array .int
  | _ => .int
abbrev wsX110 : List Cond := u_ws RX11 TX11 64
theorem nmX11 : ∀ a, a < 64 → ∀ b, b < 64 → a ≠ b → (TX11 a).2.1 ≠ (TX11 b).2.1 := by decide +kernel
theorem tyX11_ok : ∀ k, k < 64 → parseFieldDescriptor (TX11 k).2.2.1 = some (tyX11 k) := by decide +kernel
abbrev cX11_in : ByteArray := prog_13_method_2_code
def yX11_in : MethodName := ⟨RX11, "in", "(JJJ)Z"⟩
abbrev cX11_init : ByteArray := prog_13_method_3_code
def yX11_init : MethodName := ⟨RX11, "<init>", "(I)V"⟩
abbrev cX11_found : ByteArray := prog_13_method_4_code
def yX11_found : MethodName := ⟨RX11, "found", "(I)I"⟩
abbrev cX11_isSheet : ByteArray := prog_13_method_5_code
def yX11_isSheet : MethodName := ⟨RX11, "isSheet", "(I)Z"⟩
abbrev cX11_sheet : ByteArray := prog_13_method_6_code
def yX11_sheet : MethodName := ⟨RX11, "sheet", "(III)I"⟩
abbrev cX11_set : ByteArray := prog_13_method_7_code
def yX11_set : MethodName := ⟨RX11, "set", "(III)I"⟩
abbrev cX11_copy : ByteArray := prog_13_method_8_code
def yX11_copy : MethodName := ⟨RX11, "copy", "(IIIII)I"⟩
abbrev cX11_drop : ByteArray := prog_13_method_9_code
def yX11_drop : MethodName := ⟨RX11, "drop", "(I)I"⟩
abbrev cX11_isOwner : ByteArray := prog_13_method_10_code
def yX11_isOwner : MethodName := ⟨RX11, "isOwner", "(I)Z"⟩
abbrev cX11_isPerson : ByteArray := prog_13_method_11_code
def yX11_isPerson : MethodName := ⟨RX11, "isPerson", "(I)Z"⟩
abbrev cX11_isCompany : ByteArray := prog_13_method_12_code
def yX11_isCompany : MethodName := ⟨RX11, "isCompany", "(I)Z"⟩
abbrev cX11_isDay : ByteArray := prog_13_method_13_code
def yX11_isDay : MethodName := ⟨RX11, "isDay", "(I)Z"⟩
abbrev cX11_holding : ByteArray := prog_13_method_14_code
def yX11_holding : MethodName := ⟨RX11, "holding", "(IIII)I"⟩
abbrev cX11_hold : ByteArray := prog_13_method_15_code
def yX11_hold : MethodName := ⟨RX11, "hold", "(IIII)I"⟩
abbrev cX11_holds : ByteArray := prog_13_method_16_code
def yX11_holds : MethodName := ⟨RX11, "holds", "(III)I"⟩
abbrev cX11_percentOf : ByteArray := prog_13_method_17_code
def yX11_percentOf : MethodName := ⟨RX11, "percentOf", "(III)I"⟩
abbrev cX11_percent : ByteArray := prog_13_method_18_code
def yX11_percent : MethodName := ⟨RX11, "percent", "(III)I"⟩
abbrev cX11_findHas : ByteArray := prog_13_method_19_code
def yX11_findHas : MethodName := ⟨RX11, "findHas", "(I)V"⟩
abbrev cX11_rowsTo : ByteArray := prog_13_method_20_code
def yX11_rowsTo : MethodName := ⟨RX11, "rowsTo", "(II)J"⟩
abbrev cX11_shareOf : ByteArray := prog_13_method_21_code
def yX11_shareOf : MethodName := ⟨RX11, "shareOf", "(III)I"⟩
abbrev cX11_share : ByteArray := prog_13_method_22_code
def yX11_share : MethodName := ⟨RX11, "share", "(III)I"⟩
abbrev cX11_truly : ByteArray := prog_13_method_23_code
def yX11_truly : MethodName := ⟨RX11, "truly", "(II)I"⟩
abbrev cX11_rings : ByteArray := prog_13_method_24_code
def yX11_rings : MethodName := ⟨RX11, "rings", "(I)I"⟩
abbrev cX11_isCrate : ByteArray := prog_13_method_25_code
def yX11_isCrate : MethodName := ⟨RX11, "isCrate", "(I)Z"⟩
abbrev cX11_crate : ByteArray := prog_13_method_26_code
def yX11_crate : MethodName := ⟨RX11, "crate", "(II)I"⟩
abbrev cX11_paper : ByteArray := prog_13_method_27_code
def yX11_paper : MethodName := ⟨RX11, "paper", "(IIIII)I"⟩
abbrev cX11_ownerOf : ByteArray := prog_13_method_28_code
def yX11_ownerOf : MethodName := ⟨RX11, "ownerOf", "(III)I"⟩
abbrev cX11_owner : ByteArray := prog_13_method_29_code
def yX11_owner : MethodName := ⟨RX11, "owner", "(III)I"⟩
abbrev cX11_quarrels : ByteArray := prog_13_method_30_code
def yX11_quarrels : MethodName := ⟨RX11, "quarrels", "(II)I"⟩
abbrev cX11_pledge : ByteArray := prog_13_method_31_code
def yX11_pledge : MethodName := ⟨RX11, "pledge", "(IIIII)I"⟩
abbrev cX11_keyOf : ByteArray := prog_13_method_32_code
def yX11_keyOf : MethodName := ⟨RX11, "keyOf", "(II)I"⟩
abbrev cX11_rank : ByteArray := prog_13_method_33_code
def yX11_rank : MethodName := ⟨RX11, "rank", "(IIIII)I"⟩
abbrev cX11_feed : ByteArray := prog_13_method_34_code
def yX11_feed : MethodName := ⟨RX11, "feed", "(JI)I"⟩
abbrev cX11_byteAt : ByteArray := prog_13_method_35_code
def yX11_byteAt : MethodName := ⟨RX11, "byteAt", "(I)I"⟩
abbrev cX11_isLetter : ByteArray := prog_13_method_36_code
def yX11_isLetter : MethodName := ⟨RX11, "isLetter", "(I)Z"⟩
abbrev cX11_isFigure : ByteArray := prog_13_method_37_code
def yX11_isFigure : MethodName := ⟨RX11, "isFigure", "(I)Z"⟩
abbrev cX11_step : ByteArray := prog_13_method_38_code
def yX11_step : MethodName := ⟨RX11, "step", "()V"⟩
abbrev cX11_bad : ByteArray := prog_13_method_39_code
def yX11_bad : MethodName := ⟨RX11, "bad", "(I)V"⟩
abbrev cX11_need : ByteArray := prog_13_method_40_code
def yX11_need : MethodName := ⟨RX11, "need", "(Z)V"⟩
abbrev cX11_is : ByteArray := prog_13_method_41_code
def yX11_is : MethodName := ⟨RX11, "is", "(I)Z"⟩
abbrev cX11_word : ByteArray := prog_13_method_42_code
def yX11_word : MethodName := ⟨RX11, "word", "()J"⟩
abbrev cX11_numberUpTo : ByteArray := prog_13_method_43_code
def yX11_numberUpTo : MethodName := ⟨RX11, "numberUpTo", "(I)I"⟩
abbrev cX11_duties : ByteArray := prog_13_method_44_code
def yX11_duties : MethodName := ⟨RX11, "duties", "()I"⟩
abbrev cX11_fault : ByteArray := prog_13_method_45_code
def yX11_fault : MethodName := ⟨RX11, "fault", "()I"⟩
abbrev cX11_act : ByteArray := prog_13_method_46_code
def yX11_act : MethodName := ⟨RX11, "act", "(IIII)I"⟩
abbrev cX11_wakes : ByteArray := prog_13_method_47_code
def yX11_wakes : MethodName := ⟨RX11, "wakes", "(I)I"⟩
abbrev cX11_duty : ByteArray := prog_13_method_48_code
def yX11_duty : MethodName := ⟨RX11, "duty", "(II)I"⟩
abbrev cX11_isRoom : ByteArray := prog_13_method_49_code
def yX11_isRoom : MethodName := ⟨RX11, "isRoom", "(I)Z"⟩
abbrev cX11_room : ByteArray := prog_13_method_50_code
def yX11_room : MethodName := ⟨RX11, "room", "(III)I"⟩
abbrev cX11_insideOf : ByteArray := prog_13_method_51_code
def yX11_insideOf : MethodName := ⟨RX11, "insideOf", "(II)I"⟩
abbrev cX11_move : ByteArray := prog_13_method_52_code
def yX11_move : MethodName := ⟨RX11, "move", "(II)I"⟩
abbrev cX11_inside : ByteArray := prog_13_method_53_code
def yX11_inside : MethodName := ⟨RX11, "inside", "(II)I"⟩
abbrev cX11_lotOf : ByteArray := prog_13_method_54_code
def yX11_lotOf : MethodName := ⟨RX11, "lotOf", "(II)J"⟩
abbrev cX11_lot : ByteArray := prog_13_method_55_code
def yX11_lot : MethodName := ⟨RX11, "lot", "(III)I"⟩
abbrev cX11_drawnOn : ByteArray := prog_13_method_56_code
def yX11_drawnOn : MethodName := ⟨RX11, "drawnOn", "(II)I"⟩
abbrev cX11_drawn : ByteArray := prog_13_method_57_code
def yX11_drawn : MethodName := ⟨RX11, "drawn", "(II)I"⟩
abbrev cX11_often : ByteArray := prog_13_method_58_code
def yX11_often : MethodName := ⟨RX11, "often", "(IIII)I"⟩
abbrev cX11_opened : ByteArray := prog_13_method_59_code
def yX11_opened : MethodName := ⟨RX11, "opened", "(IIII)I"⟩
abbrev cX11_bits : ByteArray := prog_13_method_60_code
def yX11_bits : MethodName := ⟨RX11, "bits", "(I)I"⟩
abbrev cX11_verdict : ByteArray := prog_13_method_61_code
def yX11_verdict : MethodName := ⟨RX11, "verdict", "(I)I"⟩
abbrev cX11_list : ByteArray := prog_13_method_62_code
def yX11_list : MethodName := ⟨RX11, "list", "(III)I"⟩
abbrev cX11_isBarred : ByteArray := prog_13_method_63_code
def yX11_isBarred : MethodName := ⟨RX11, "isBarred", "(II)Z"⟩
abbrev cX11_barred : ByteArray := prog_13_method_64_code
def yX11_barred : MethodName := ⟨RX11, "barred", "(II)I"⟩
abbrev cX11_day : ByteArray := prog_13_method_65_code
def yX11_day : MethodName := ⟨RX11, "day", "(I)I"⟩
abbrev cX11_owes : ByteArray := prog_13_method_66_code
def yX11_owes : MethodName := ⟨RX11, "owes", "(I)I"⟩
abbrev cX11_kindOf : ByteArray := prog_13_method_67_code
def yX11_kindOf : MethodName := ⟨RX11, "kindOf", "(I)I"⟩
abbrev cX11_isOf : ByteArray := prog_13_method_68_code
def yX11_isOf : MethodName := ⟨RX11, "isOf", "(II)Z"⟩
abbrev cX11_kind : ByteArray := prog_13_method_69_code
def yX11_kind : MethodName := ⟨RX11, "kind", "(I)I"⟩
abbrev cX11_as : ByteArray := prog_13_method_70_code
def yX11_as : MethodName := ⟨RX11, "as", "(II)I"⟩
abbrev cX11_began : ByteArray := prog_13_method_71_code
def yX11_began : MethodName := ⟨RX11, "began", "(I)V"⟩
abbrev cX11_plainSize : ByteArray := prog_13_method_72_code
def yX11_plainSize : MethodName := ⟨RX11, "plainSize", "(I)I"⟩
abbrev cX11_markOf : ByteArray := prog_13_method_73_code
def yX11_markOf : MethodName := ⟨RX11, "markOf", "(II)I"⟩
abbrev cX11_sizeOf : ByteArray := prog_13_method_74_code
def yX11_sizeOf : MethodName := ⟨RX11, "sizeOf", "(II)I"⟩
abbrev cX11_ask : ByteArray := prog_13_method_75_code
def yX11_ask : MethodName := ⟨RX11, "ask", "(II)I"⟩
abbrev cX11_trace : ByteArray := prog_13_method_76_code
def yX11_trace : MethodName := ⟨RX11, "trace", "(I)I"⟩
abbrev cX11_count : ByteArray := prog_13_method_77_code
def yX11_count : MethodName := ⟨RX11, "count", "(I)I"⟩
abbrev cX11_status : ByteArray := prog_13_method_78_code
def yX11_status : MethodName := ⟨RX11, "status", "()I"⟩
def RJ6 : String := "java/lang/Integer"
def TJ6 : u_T := fun k => match k with
  | _ => ("", "", "", false)
def tyJ6 : Nat → FieldType := fun k => match k with
  | _ => .int
abbrev wsJ60 : List Cond := u_ws RJ6 TJ6 0
theorem nmJ6 : ∀ a, a < 0 → ∀ b, b < 0 → a ≠ b → (TJ6 a).2.1 ≠ (TJ6 b).2.1 := by decide +kernel
theorem tyJ6_ok : ∀ k, k < 0 → parseFieldDescriptor (TJ6 k).2.2.1 = some (tyJ6 k) := by decide +kernel
abbrev cJ6_bitCount_0f7a4 : ByteArray := prog_14_method_49_code
def yJ6_bitCount_0f7a4 : MethodName := ⟨RJ6, "bitCount", "(I)I"⟩
def RJ9 : String := "java/lang/Math"
def TJ9 : u_T := fun k => match k with
  | _ => ("", "", "", false)
def tyJ9 : Nat → FieldType := fun k => match k with
  | _ => .int
abbrev wsJ90 : List Cond := u_ws RJ9 TJ9 0
theorem nmJ9 : ∀ a, a < 0 → ∀ b, b < 0 → a ≠ b → (TJ9 a).2.1 ≠ (TJ9 b).2.1 := by decide +kernel
theorem tyJ9_ok : ∀ k, k < 0 → parseFieldDescriptor (TJ9 k).2.2.1 = some (tyJ9 k) := by decide +kernel
abbrev cJ9_abs_0f7a4 : ByteArray := prog_15_method_59_code
def yJ9_abs_0f7a4 : MethodName := ⟨RJ9, "abs", "(I)I"⟩
abbrev cJ9_max_7cf53 : ByteArray := prog_15_method_65_code
def yJ9_max_7cf53 : MethodName := ⟨RJ9, "max", "(II)I"⟩
abbrev cJ9_min_7cf53 : ByteArray := prog_15_method_69_code
def yJ9_min_7cf53 : MethodName := ⟨RJ9, "min", "(II)I"⟩
abbrev cJ9_min_f86c9 : ByteArray := prog_15_method_70_code
def yJ9_min_f86c9 : MethodName := ⟨RJ9, "min", "(JJ)J"⟩
def RJ0 : String := "java/lang/String"
def TJ0 : u_T := fun k => match k with
  | _ => ("", "", "", false)
def tyJ0 : Nat → FieldType := fun k => match k with
  | _ => .int
abbrev wsJ00 : List Cond := u_ws RJ0 TJ0 0
theorem nmJ0 : ∀ a, a < 0 → ∀ b, b < 0 → a ≠ b → (TJ0 a).2.1 ≠ (TJ0 b).2.1 := by decide +kernel
theorem tyJ0_ok : ∀ k, k < 0 → parseFieldDescriptor (TJ0 k).2.2.1 = some (tyJ0 k) := by decide +kernel
abbrev cJ0_charAt_5068e : ByteArray := prog_16_method_56_code
def yJ0_charAt_5068e : MethodName := ⟨RJ0, "charAt", "(I)C"⟩
abbrev cJ0_isLatin1_aae02 : ByteArray := prog_16_method_154_code
def yJ0_isLatin1_aae02 : MethodName := ⟨RJ0, "isLatin1", "()Z"⟩
abbrev cJ0_checkIndex_df160 : ByteArray := prog_16_method_155_code
def yJ0_checkIndex_df160 : MethodName := ⟨RJ0, "checkIndex", "(II)V"⟩
def RJ1 : String := "java/lang/StringLatin1"
def TJ1 : u_T := fun k => match k with
  | _ => ("", "", "", false)
def tyJ1 : Nat → FieldType := fun k => match k with
  | _ => .int
abbrev wsJ10 : List Cond := u_ws RJ1 TJ1 0
theorem nmJ1 : ∀ a, a < 0 → ∀ b, b < 0 → a ≠ b → (TJ1 a).2.1 ≠ (TJ1 b).2.1 := by decide +kernel
theorem tyJ1_ok : ∀ k, k < 0 → parseFieldDescriptor (TJ1 k).2.2.1 = some (tyJ1 k) := by decide +kernel
abbrev cJ1_charAt_3b067 : ByteArray := prog_17_method_2_code
def yJ1_charAt_3b067 : MethodName := ⟨RJ1, "charAt", "([BI)C"⟩
def RJ2 : String := "java/lang/StringUTF16"
def TJ2 : u_T := fun k => match k with
  | _ => ("", "", "", false)
def tyJ2 : Nat → FieldType := fun k => match k with
  | _ => .int
abbrev wsJ20 : List Cond := u_ws RJ2 TJ2 0
theorem nmJ2 : ∀ a, a < 0 → ∀ b, b < 0 → a ≠ b → (TJ2 a).2.1 ≠ (TJ2 b).2.1 := by decide +kernel
theorem tyJ2_ok : ∀ k, k < 0 → parseFieldDescriptor (TJ2 k).2.2.1 = some (tyJ2 k) := by decide +kernel
abbrev cJ2_getChar_3b067 : ByteArray := prog_18_method_5_code
def yJ2_getChar_3b067 : MethodName := ⟨RJ2, "getChar", "([BI)C"⟩
abbrev cJ2_length_9d52b : ByteArray := prog_18_method_6_code
def yJ2_length_9d52b : MethodName := ⟨RJ2, "length", "([B)I"⟩
abbrev cJ2_charAt_3b067 : ByteArray := prog_18_method_83_code
def yJ2_charAt_3b067 : MethodName := ⟨RJ2, "charAt", "([BI)C"⟩
abbrev cJ2_checkIndex_2214a : ByteArray := prog_18_method_91_code
def yJ2_checkIndex_2214a : MethodName := ⟨RJ2, "checkIndex", "(I[B)V"⟩
def RJ10 : String := "java/lang/System"
def TJ10 : u_T := fun k => match k with
  | _ => ("", "", "", false)
def tyJ10 : Nat → FieldType := fun k => match k with
  | _ => .int
abbrev wsJ100 : List Cond := u_ws RJ10 TJ10 0
theorem nmJ10 : ∀ a, a < 0 → ∀ b, b < 0 → a ≠ b → (TJ10 a).2.1 ≠ (TJ10 b).2.1 := by decide +kernel
theorem tyJ10_ok : ∀ k, k < 0 → parseFieldDescriptor (TJ10 k).2.2.1 = some (tyJ10 k) := by decide +kernel
def RJ7 : String := "java/util/Arrays"
def TJ7 : u_T := fun k => match k with
  | _ => ("", "", "", false)
def tyJ7 : Nat → FieldType := fun k => match k with
  | _ => .int
abbrev wsJ70 : List Cond := u_ws RJ7 TJ7 0
theorem nmJ7 : ∀ a, a < 0 → ∀ b, b < 0 → a ≠ b → (TJ7 a).2.1 ≠ (TJ7 b).2.1 := by decide +kernel
theorem tyJ7_ok : ∀ k, k < 0 → parseFieldDescriptor (TJ7 k).2.2.1 = some (tyJ7 k) := by decide +kernel
abbrev cJ7_fill_53178 : ByteArray := prog_20_method_103_code
def yJ7_fill_53178 : MethodName := ⟨RJ7, "fill", "([II)V"⟩
def RJ3 : String := "jdk/internal/util/Preconditions"
def TJ3 : u_T := fun k => match k with
  | _ => ("", "", "", false)
def tyJ3 : Nat → FieldType := fun k => match k with
  | _ => .int
abbrev wsJ30 : List Cond := u_ws RJ3 TJ3 0
theorem nmJ3 : ∀ a, a < 0 → ∀ b, b < 0 → a ≠ b → (TJ3 a).2.1 ≠ (TJ3 b).2.1 := by decide +kernel
theorem tyJ3_ok : ∀ k, k < 0 → parseFieldDescriptor (TJ3 k).2.2.1 = some (tyJ3 k) := by decide +kernel
abbrev cJ3_checkIndex_8e157 : ByteArray := prog_21_method_11_code
def yJ3_checkIndex_8e157 : MethodName := ⟨RJ3, "checkIndex", "(IILjava/util/function/BiFunction;)I"⟩
def RL : String := "PortRoomsLaw"
abbrev cL_cell : ByteArray := method_2_code
def yL_cell : MethodName := ⟨RL, "cell", "([II)I"⟩
abbrev cL_law : ByteArray := code
def yL_law : MethodName := ⟨RL, "law", "([I)Z"⟩
def wsX0_init : List Cond := .code yX0_init cX0_init 1 none :: ([.methodLink RX0 3 objectInit, .instanceMethod objectInit, .code objectInit ⟨#[0xb1]⟩ 1 none, .arrayClass .int, .fieldLink RX0 9 "PortRooms$Acts" "crate" "[I", .fieldLink RX0 15 "PortRooms$Acts" "what" "[I", .fieldLink RX0 18 "PortRooms$Acts" "day" "[I", .fieldLink RX0 21 "PortRooms$Acts" "days" "[I"] ++ wsX00)
def wsX0_tell : List Cond := .code yX0_tell cX0_tell 5 (some .int) :: ([.fieldLink RX0 9 "PortRooms$Acts" "crate" "[I", .fieldLink RX0 24 "PortRooms$Acts" "count" "I", .fieldLink RX0 15 "PortRooms$Acts" "what" "[I", .fieldLink RX0 18 "PortRooms$Acts" "day" "[I", .fieldLink RX0 21 "PortRooms$Acts" "days" "[I"] ++ wsX00)
def wsX2_lineFor : List Cond := .code yX2_lineFor cX2_lineFor 4 (some .int) :: ([.fieldLink RX2 67 "PortRooms$Duties" "lines" "I", .fieldLink RX2 15 "PortRooms$Duties" "what" "[I", .fieldLink RX2 19 "PortRooms$Duties" "days" "[I"] ++ wsX20)
def wsX0_firstWaking : List Cond := .code yX0_firstWaking cX0_firstWaking 6 (some .int) :: ([.fieldLink RX0 24 "PortRooms$Acts" "count" "I", .fieldLink RX0 18 "PortRooms$Acts" "day" "[I", .fieldLink RX0 9 "PortRooms$Acts" "crate" "[I", .fieldLink RX0 15 "PortRooms$Acts" "what" "[I", .fieldLink RX0 21 "PortRooms$Acts" "days" "[I", .methodLink RX0 28 yX2_lineFor, .instanceMethod yX2_lineFor, .selects RX2 yX2_lineFor yX2_lineFor, .initialized RX2, .code yX2_lineFor cX2_lineFor 4 (some .int), .fieldLink RX2 67 "PortRooms$Duties" "lines" "I", .fieldLink RX2 15 "PortRooms$Duties" "what" "[I", .fieldLink RX2 19 "PortRooms$Duties" "days" "[I"] ++ wsX00 ++ wsX20)
def wsJ7_fill_53178 : List Cond := .code yJ7_fill_53178 cJ7_fill_53178 4 none :: ([])
def wsX1_init : List Cond := .code yX1_init cX1_init 1 none :: ([.methodLink RX1 3 objectInit, .instanceMethod objectInit, .code objectInit ⟨#[0xb1]⟩ 1 none, .arrayClass .int, .fieldLink RX1 9 "PortRooms$Crates" "firstOwner" "[I", .fieldLink RX1 15 "PortRooms$Crates" "worth" "[I", .fieldLink RX1 18 "PortRooms$Crates" "room" "[I", .fieldLink RX1 21 "PortRooms$Crates" "air" "[I", .fieldLink RX1 24 "PortRooms$Crates" "insured" "[I", .constant RX1 27 (-1000000), .constant RX1 34 (100000), .methodLink RX1 28 yJ7_fill_53178, .static yJ7_fill_53178, .initialized RJ7, .code yJ7_fill_53178 cJ7_fill_53178 4 none] ++ wsX10)
def wsX1_tell : List Cond := .code yX1_tell cX1_tell 3 (some .int) :: ([.fieldLink RX1 9 "PortRooms$Crates" "firstOwner" "[I", .fieldLink RX1 35 "PortRooms$Crates" "count" "I", .fieldLink RX1 15 "PortRooms$Crates" "worth" "[I"] ++ wsX10)
def wsX1_setIn : List Cond := .code yX1_setIn cX1_setIn 4 (some .int) :: ([.fieldLink RX1 35 "PortRooms$Crates" "count" "I", .fieldLink RX1 18 "PortRooms$Crates" "room" "[I"] ++ wsX10)
def wsX1_setInRooms : List Cond := .code yX1_setInRooms cX1_setInRooms 2 (some .int) :: ([.fieldLink RX1 35 "PortRooms$Crates" "count" "I", .constant RX1 27 (-1000000), .methodLink RX1 39 yX1_setIn, .instanceMethod yX1_setIn, .selects RX1 yX1_setIn yX1_setIn, .initialized RX1, .code yX1_setIn cX1_setIn 4 (some .int), .fieldLink RX1 18 "PortRooms$Crates" "room" "[I"] ++ wsX10)
def wsX10_hasBit : List Cond := .code yX10_hasBit cX10_hasBit 2 (some .boolean) :: ([])
def wsX1_worthsOf : List Cond := .code yX1_worthsOf cX1_worthsOf 4 (some .int) :: ([.fieldLink RX1 35 "PortRooms$Crates" "count" "I", .fieldLink RX1 15 "PortRooms$Crates" "worth" "[I", .static yX10_hasBit, .initialized RX10, .code yX10_hasBit cX10_hasBit 2 (some .boolean)] ++ wsX10)
def wsJ6_bitCount_0f7a4 : List Cond := .code yJ6_bitCount_0f7a4 cJ6_bitCount_0f7a4 1 (some .int) :: ([.constant RJ6 265 (1431655765), .constant RJ6 266 (858993459), .constant RJ6 267 (252645135)])
def wsX1_fits : List Cond := .code yX1_fits cX1_fits 4 (some .boolean) :: ([.fieldLink RX1 21 "PortRooms$Crates" "air" "[I", .fieldLink RX1 15 "PortRooms$Crates" "worth" "[I", .fieldLink RX1 24 "PortRooms$Crates" "insured" "[I", .methodLink RX1 39 yX1_setIn, .instanceMethod yX1_setIn, .selects RX1 yX1_setIn yX1_setIn, .initialized RX1, .code yX1_setIn cX1_setIn 4 (some .int), .fieldLink RX1 35 "PortRooms$Crates" "count" "I", .fieldLink RX1 18 "PortRooms$Crates" "room" "[I", .methodLink RX1 47 yJ6_bitCount_0f7a4, .static yJ6_bitCount_0f7a4, .initialized RJ6, .code yJ6_bitCount_0f7a4 cJ6_bitCount_0f7a4 1 (some .int), .constant RJ6 265 (1431655765), .constant RJ6 266 (858993459), .constant RJ6 267 (252645135), .methodLink RX1 52 yX1_worthsOf, .instanceMethod yX1_worthsOf, .selects RX1 yX1_worthsOf yX1_worthsOf, .code yX1_worthsOf cX1_worthsOf 4 (some .int), .static yX10_hasBit, .initialized RX10, .code yX10_hasBit cX10_hasBit 2 (some .boolean)] ++ wsX10)
def wsX2_init : List Cond := .code yX2_init cX2_init 1 none :: ([.methodLink RX2 3 objectInit, .instanceMethod objectInit, .code objectInit ⟨#[0xb1]⟩ 1 none, .arrayClass .byte, .fieldLink RX2 11 "PortRooms$Duties" "tape" "[B", .arrayClass .int, .fieldLink RX2 15 "PortRooms$Duties" "what" "[I", .fieldLink RX2 19 "PortRooms$Duties" "days" "[I", .fieldLink RX2 22 "PortRooms$Duties" "part" "[I", .fieldLink RX2 25 "PortRooms$Duties" "draftWhat" "[I", .fieldLink RX2 28 "PortRooms$Duties" "draftDays" "[I", .fieldLink RX2 31 "PortRooms$Duties" "draftPart" "[I"] ++ wsX20)
def wsX2_take : List Cond := .code yX2_take cX2_take 2 none :: ([.fieldLink RX2 34 "PortRooms$Duties" "length" "I", .fieldLink RX2 11 "PortRooms$Duties" "tape" "[B"] ++ wsX20)
def wsX2_isLetter : List Cond := .code yX2_isLetter cX2_isLetter 1 (some .boolean) :: ([])
def wsJ0_isLatin1_aae02 : List Cond := .code yJ0_isLatin1_aae02 cJ0_isLatin1_aae02 1 (some .boolean) :: ([.fieldLink RJ0 38 "java/lang/String" "COMPACT_STRINGS" "Z", .fieldLink RJ0 15 "java/lang/String" "coder" "B"])
def wsJ3_checkIndex_8e157 : List Cond := .code yJ3_checkIndex_8e157 cJ3_checkIndex_8e157 3 (some .int) :: ([])
def wsJ0_checkIndex_df160 : List Cond := .code yJ0_checkIndex_df160 cJ0_checkIndex_df160 2 none :: ([.fieldLink RJ0 1053 "jdk/internal/util/Preconditions" "SIOOBE_FORMATTER" "Ljava/util/function/BiFunction;", .methodLink RJ0 1059 yJ3_checkIndex_8e157, .static yJ3_checkIndex_8e157, .initialized RJ3, .code yJ3_checkIndex_8e157 cJ3_checkIndex_8e157 3 (some .int)])
def wsJ1_charAt_3b067 : List Cond := .code yJ1_charAt_3b067 cJ1_charAt_3b067 2 (some .char) :: ([.methodLink RJ1 9 yJ0_checkIndex_df160, .static yJ0_checkIndex_df160, .initialized RJ0, .code yJ0_checkIndex_df160 cJ0_checkIndex_df160 2 none, .fieldLink RJ0 1053 "jdk/internal/util/Preconditions" "SIOOBE_FORMATTER" "Ljava/util/function/BiFunction;", .methodLink RJ0 1059 yJ3_checkIndex_8e157, .static yJ3_checkIndex_8e157, .initialized RJ3, .code yJ3_checkIndex_8e157 cJ3_checkIndex_8e157 3 (some .int)])
def wsJ2_length_9d52b : List Cond := .code yJ2_length_9d52b cJ2_length_9d52b 1 (some .int) :: ([])
def wsJ2_checkIndex_2214a : List Cond := .code yJ2_checkIndex_2214a cJ2_checkIndex_2214a 2 none :: ([.methodLink RJ2 48 yJ2_length_9d52b, .static yJ2_length_9d52b, .initialized RJ2, .code yJ2_length_9d52b cJ2_length_9d52b 1 (some .int), .methodLink RJ2 414 yJ0_checkIndex_df160, .static yJ0_checkIndex_df160, .initialized RJ0, .code yJ0_checkIndex_df160 cJ0_checkIndex_df160 2 none, .fieldLink RJ0 1053 "jdk/internal/util/Preconditions" "SIOOBE_FORMATTER" "Ljava/util/function/BiFunction;", .methodLink RJ0 1059 yJ3_checkIndex_8e157, .static yJ3_checkIndex_8e157, .initialized RJ3, .code yJ3_checkIndex_8e157 cJ3_checkIndex_8e157 3 (some .int)])
def wsJ2_getChar_3b067 : List Cond := .code yJ2_getChar_3b067 cJ2_getChar_3b067 2 (some .char) :: ([.fieldLink RJ2 44 "java/lang/StringUTF16" "$assertionsDisabled" "Z", .fieldLink RJ2 59 "java/lang/StringUTF16" "HI_BYTE_SHIFT" "I", .fieldLink RJ2 63 "java/lang/StringUTF16" "LO_BYTE_SHIFT" "I", .methodLink RJ2 48 yJ2_length_9d52b, .static yJ2_length_9d52b, .initialized RJ2, .code yJ2_length_9d52b cJ2_length_9d52b 1 (some .int)])
def wsJ2_charAt_3b067 : List Cond := .code yJ2_charAt_3b067 cJ2_charAt_3b067 2 (some .char) :: ([.methodLink RJ2 67 yJ2_checkIndex_2214a, .static yJ2_checkIndex_2214a, .initialized RJ2, .code yJ2_checkIndex_2214a cJ2_checkIndex_2214a 2 none, .methodLink RJ2 48 yJ2_length_9d52b, .static yJ2_length_9d52b, .code yJ2_length_9d52b cJ2_length_9d52b 1 (some .int), .methodLink RJ2 414 yJ0_checkIndex_df160, .static yJ0_checkIndex_df160, .initialized RJ0, .code yJ0_checkIndex_df160 cJ0_checkIndex_df160 2 none, .fieldLink RJ0 1053 "jdk/internal/util/Preconditions" "SIOOBE_FORMATTER" "Ljava/util/function/BiFunction;", .methodLink RJ0 1059 yJ3_checkIndex_8e157, .static yJ3_checkIndex_8e157, .initialized RJ3, .code yJ3_checkIndex_8e157 cJ3_checkIndex_8e157 3 (some .int), .methodLink RJ2 71 yJ2_getChar_3b067, .static yJ2_getChar_3b067, .code yJ2_getChar_3b067 cJ2_getChar_3b067 2 (some .char), .fieldLink RJ2 44 "java/lang/StringUTF16" "$assertionsDisabled" "Z", .fieldLink RJ2 59 "java/lang/StringUTF16" "HI_BYTE_SHIFT" "I", .fieldLink RJ2 63 "java/lang/StringUTF16" "LO_BYTE_SHIFT" "I"])
def wsJ0_charAt_5068e_r1 : List Cond := [Cond.fieldLink RJ0 9 "java/lang/String" "value" "[B", Cond.methodLink RJ0 492 yJ0_isLatin1_aae02, Cond.instanceMethod yJ0_isLatin1_aae02, Cond.selects RJ0 yJ0_isLatin1_aae02 yJ0_isLatin1_aae02, Cond.initialized RJ0, Cond.code yJ0_isLatin1_aae02 cJ0_isLatin1_aae02 1 (some .boolean), Cond.fieldLink RJ0 38 "java/lang/String" "COMPACT_STRINGS" "Z", Cond.fieldLink RJ0 15 "java/lang/String" "coder" "B", Cond.methodLink RJ0 495 yJ1_charAt_3b067, Cond.static yJ1_charAt_3b067, Cond.initialized RJ1, Cond.code yJ1_charAt_3b067 cJ1_charAt_3b067 2 (some .char), Cond.methodLink RJ1 9 yJ0_checkIndex_df160, Cond.static yJ0_checkIndex_df160, Cond.code yJ0_checkIndex_df160 cJ0_checkIndex_df160 2 none, Cond.fieldLink RJ0 1053 "jdk/internal/util/Preconditions" "SIOOBE_FORMATTER" "Ljava/util/function/BiFunction;", Cond.methodLink RJ0 1059 yJ3_checkIndex_8e157, Cond.static yJ3_checkIndex_8e157, Cond.initialized RJ3, Cond.code yJ3_checkIndex_8e157 cJ3_checkIndex_8e157 3 (some .int), Cond.methodLink RJ0 498 yJ2_charAt_3b067, Cond.static yJ2_charAt_3b067, Cond.initialized RJ2, Cond.code yJ2_charAt_3b067 cJ2_charAt_3b067 2 (some .char)]
def wsJ0_charAt_5068e_r2 : List Cond := [Cond.methodLink RJ2 67 yJ2_checkIndex_2214a, Cond.static yJ2_checkIndex_2214a, Cond.code yJ2_checkIndex_2214a cJ2_checkIndex_2214a 2 none, Cond.methodLink RJ2 48 yJ2_length_9d52b, Cond.static yJ2_length_9d52b, Cond.code yJ2_length_9d52b cJ2_length_9d52b 1 (some .int), Cond.methodLink RJ2 414 yJ0_checkIndex_df160, Cond.methodLink RJ2 71 yJ2_getChar_3b067, Cond.static yJ2_getChar_3b067, Cond.code yJ2_getChar_3b067 cJ2_getChar_3b067 2 (some .char), Cond.fieldLink RJ2 44 "java/lang/StringUTF16" "$assertionsDisabled" "Z", Cond.fieldLink RJ2 59 "java/lang/StringUTF16" "HI_BYTE_SHIFT" "I", Cond.fieldLink RJ2 63 "java/lang/StringUTF16" "LO_BYTE_SHIFT" "I"]
def wsJ0_charAt_5068e : List Cond := .code yJ0_charAt_5068e cJ0_charAt_5068e 2 (some .char) :: ((wsJ0_charAt_5068e_r1 ++ wsJ0_charAt_5068e_r2))
def wsX2_isWord_r1 : List Cond := [Cond.fieldLink RX2 61 "PortRooms$Duties" "start" "I", Cond.fieldLink RX2 38 "PortRooms$Duties" "end" "I", Cond.fieldLink RX2 11 "PortRooms$Duties" "tape" "[B", Cond.methodLink RX2 97 yJ0_charAt_5068e, Cond.instanceMethod yJ0_charAt_5068e, Cond.selects RJ0 yJ0_charAt_5068e yJ0_charAt_5068e, Cond.initialized RJ0, Cond.code yJ0_charAt_5068e cJ0_charAt_5068e 2 (some .char), Cond.fieldLink RJ0 9 "java/lang/String" "value" "[B", Cond.methodLink RJ0 492 yJ0_isLatin1_aae02, Cond.instanceMethod yJ0_isLatin1_aae02, Cond.selects RJ0 yJ0_isLatin1_aae02 yJ0_isLatin1_aae02, Cond.code yJ0_isLatin1_aae02 cJ0_isLatin1_aae02 1 (some .boolean), Cond.fieldLink RJ0 38 "java/lang/String" "COMPACT_STRINGS" "Z", Cond.fieldLink RJ0 15 "java/lang/String" "coder" "B", Cond.methodLink RJ0 495 yJ1_charAt_3b067, Cond.static yJ1_charAt_3b067, Cond.initialized RJ1, Cond.code yJ1_charAt_3b067 cJ1_charAt_3b067 2 (some .char), Cond.methodLink RJ1 9 yJ0_checkIndex_df160, Cond.static yJ0_checkIndex_df160, Cond.code yJ0_checkIndex_df160 cJ0_checkIndex_df160 2 none, Cond.fieldLink RJ0 1053 "jdk/internal/util/Preconditions" "SIOOBE_FORMATTER" "Ljava/util/function/BiFunction;", Cond.methodLink RJ0 1059 yJ3_checkIndex_8e157]
def wsX2_isWord_r2 : List Cond := [Cond.static yJ3_checkIndex_8e157, Cond.initialized RJ3, Cond.code yJ3_checkIndex_8e157 cJ3_checkIndex_8e157 3 (some .int), Cond.methodLink RJ0 498 yJ2_charAt_3b067, Cond.static yJ2_charAt_3b067, Cond.initialized RJ2, Cond.code yJ2_charAt_3b067 cJ2_charAt_3b067 2 (some .char), Cond.methodLink RJ2 67 yJ2_checkIndex_2214a, Cond.static yJ2_checkIndex_2214a, Cond.code yJ2_checkIndex_2214a cJ2_checkIndex_2214a 2 none, Cond.methodLink RJ2 48 yJ2_length_9d52b, Cond.static yJ2_length_9d52b, Cond.code yJ2_length_9d52b cJ2_length_9d52b 1 (some .int), Cond.methodLink RJ2 414 yJ0_checkIndex_df160, Cond.methodLink RJ2 71 yJ2_getChar_3b067, Cond.static yJ2_getChar_3b067, Cond.code yJ2_getChar_3b067 cJ2_getChar_3b067 2 (some .char), Cond.fieldLink RJ2 44 "java/lang/StringUTF16" "$assertionsDisabled" "Z", Cond.fieldLink RJ2 59 "java/lang/StringUTF16" "HI_BYTE_SHIFT" "I", Cond.fieldLink RJ2 63 "java/lang/StringUTF16" "LO_BYTE_SHIFT" "I"]
def wsX2_isWord : List Cond := .code yX2_isWord cX2_isWord 4 (some .boolean) :: ((wsX2_isWord_r1 ++ wsX2_isWord_r2) ++ wsX20)
def wsX2_readName_r1 : List Cond := [Cond.fieldLink RX2 38 "PortRooms$Duties" "end" "I", Cond.fieldLink RX2 34 "PortRooms$Duties" "length" "I", Cond.fieldLink RX2 11 "PortRooms$Duties" "tape" "[B", Cond.fieldLink RX2 47 "PortRooms$Duties" "token" "I", Cond.fieldLink RX2 61 "PortRooms$Duties" "start" "I", Cond.methodLink RX2 79 yX2_isLetter, Cond.static yX2_isLetter, Cond.initialized RX2, Cond.code yX2_isLetter cX2_isLetter 1 (some .boolean), Cond.methodLink RX2 92 yX2_isWord, Cond.instanceMethod yX2_isWord, Cond.selects RX2 yX2_isWord yX2_isWord, Cond.code yX2_isWord cX2_isWord 4 (some .boolean), Cond.methodLink RX2 97 yJ0_charAt_5068e, Cond.instanceMethod yJ0_charAt_5068e, Cond.selects RJ0 yJ0_charAt_5068e yJ0_charAt_5068e, Cond.initialized RJ0, Cond.code yJ0_charAt_5068e cJ0_charAt_5068e 2 (some .char), Cond.fieldLink RJ0 9 "java/lang/String" "value" "[B", Cond.methodLink RJ0 492 yJ0_isLatin1_aae02, Cond.instanceMethod yJ0_isLatin1_aae02, Cond.selects RJ0 yJ0_isLatin1_aae02 yJ0_isLatin1_aae02, Cond.code yJ0_isLatin1_aae02 cJ0_isLatin1_aae02 1 (some .boolean), Cond.fieldLink RJ0 38 "java/lang/String" "COMPACT_STRINGS" "Z"]
def wsX2_readName_r2 : List Cond := [Cond.fieldLink RJ0 15 "java/lang/String" "coder" "B", Cond.methodLink RJ0 495 yJ1_charAt_3b067, Cond.static yJ1_charAt_3b067, Cond.initialized RJ1, Cond.code yJ1_charAt_3b067 cJ1_charAt_3b067 2 (some .char), Cond.methodLink RJ1 9 yJ0_checkIndex_df160, Cond.static yJ0_checkIndex_df160, Cond.code yJ0_checkIndex_df160 cJ0_checkIndex_df160 2 none, Cond.fieldLink RJ0 1053 "jdk/internal/util/Preconditions" "SIOOBE_FORMATTER" "Ljava/util/function/BiFunction;", Cond.methodLink RJ0 1059 yJ3_checkIndex_8e157, Cond.static yJ3_checkIndex_8e157, Cond.initialized RJ3, Cond.code yJ3_checkIndex_8e157 cJ3_checkIndex_8e157 3 (some .int), Cond.methodLink RJ0 498 yJ2_charAt_3b067, Cond.static yJ2_charAt_3b067, Cond.initialized RJ2, Cond.code yJ2_charAt_3b067 cJ2_charAt_3b067 2 (some .char), Cond.methodLink RJ2 67 yJ2_checkIndex_2214a, Cond.static yJ2_checkIndex_2214a, Cond.code yJ2_checkIndex_2214a cJ2_checkIndex_2214a 2 none, Cond.methodLink RJ2 48 yJ2_length_9d52b, Cond.static yJ2_length_9d52b, Cond.code yJ2_length_9d52b cJ2_length_9d52b 1 (some .int), Cond.methodLink RJ2 414 yJ0_checkIndex_df160]
def wsX2_readName_r3 : List Cond := [Cond.methodLink RJ2 71 yJ2_getChar_3b067, Cond.static yJ2_getChar_3b067, Cond.code yJ2_getChar_3b067 cJ2_getChar_3b067 2 (some .char), Cond.fieldLink RJ2 44 "java/lang/StringUTF16" "$assertionsDisabled" "Z", Cond.fieldLink RJ2 59 "java/lang/StringUTF16" "HI_BYTE_SHIFT" "I", Cond.fieldLink RJ2 63 "java/lang/StringUTF16" "LO_BYTE_SHIFT" "I"]
def wsX2_readName : List Cond := .code yX2_readName cX2_readName 2 none :: ((wsX2_readName_r1 ++ (wsX2_readName_r2 ++ wsX2_readName_r3)) ++ wsX20)
def wsX2_isFigure : List Cond := .code yX2_isFigure cX2_isFigure 1 (some .boolean) :: ([])
def wsX2_readNumber : List Cond := .code yX2_readNumber cX2_readNumber 1 none :: ([.fieldLink RX2 76 "PortRooms$Duties" "number" "I", .fieldLink RX2 38 "PortRooms$Duties" "end" "I", .fieldLink RX2 34 "PortRooms$Duties" "length" "I", .fieldLink RX2 11 "PortRooms$Duties" "tape" "[B", .fieldLink RX2 61 "PortRooms$Duties" "start" "I", .fieldLink RX2 47 "PortRooms$Duties" "token" "I", .methodLink RX2 86 yX2_isFigure, .static yX2_isFigure, .initialized RX2, .code yX2_isFigure cX2_isFigure 1 (some .boolean)] ++ wsX20)
def wsX2_next_r1 : List Cond := [Cond.fieldLink RX2 38 "PortRooms$Duties" "end" "I", Cond.fieldLink RX2 61 "PortRooms$Duties" "start" "I", Cond.fieldLink RX2 34 "PortRooms$Duties" "length" "I", Cond.fieldLink RX2 11 "PortRooms$Duties" "tape" "[B", Cond.fieldLink RX2 47 "PortRooms$Duties" "token" "I", Cond.methodLink RX2 79 yX2_isLetter, Cond.static yX2_isLetter, Cond.initialized RX2, Cond.code yX2_isLetter cX2_isLetter 1 (some .boolean), Cond.methodLink RX2 83 yX2_readName, Cond.instanceMethod yX2_readName, Cond.selects RX2 yX2_readName yX2_readName, Cond.code yX2_readName cX2_readName 2 none, Cond.methodLink RX2 92 yX2_isWord, Cond.instanceMethod yX2_isWord, Cond.selects RX2 yX2_isWord yX2_isWord, Cond.code yX2_isWord cX2_isWord 4 (some .boolean), Cond.methodLink RX2 97 yJ0_charAt_5068e, Cond.instanceMethod yJ0_charAt_5068e, Cond.selects RJ0 yJ0_charAt_5068e yJ0_charAt_5068e, Cond.initialized RJ0, Cond.code yJ0_charAt_5068e cJ0_charAt_5068e 2 (some .char), Cond.fieldLink RJ0 9 "java/lang/String" "value" "[B", Cond.methodLink RJ0 492 yJ0_isLatin1_aae02]
def wsX2_next_r2 : List Cond := [Cond.instanceMethod yJ0_isLatin1_aae02, Cond.selects RJ0 yJ0_isLatin1_aae02 yJ0_isLatin1_aae02, Cond.code yJ0_isLatin1_aae02 cJ0_isLatin1_aae02 1 (some .boolean), Cond.fieldLink RJ0 38 "java/lang/String" "COMPACT_STRINGS" "Z", Cond.fieldLink RJ0 15 "java/lang/String" "coder" "B", Cond.methodLink RJ0 495 yJ1_charAt_3b067, Cond.static yJ1_charAt_3b067, Cond.initialized RJ1, Cond.code yJ1_charAt_3b067 cJ1_charAt_3b067 2 (some .char), Cond.methodLink RJ1 9 yJ0_checkIndex_df160, Cond.static yJ0_checkIndex_df160, Cond.code yJ0_checkIndex_df160 cJ0_checkIndex_df160 2 none, Cond.fieldLink RJ0 1053 "jdk/internal/util/Preconditions" "SIOOBE_FORMATTER" "Ljava/util/function/BiFunction;", Cond.methodLink RJ0 1059 yJ3_checkIndex_8e157, Cond.static yJ3_checkIndex_8e157, Cond.initialized RJ3, Cond.code yJ3_checkIndex_8e157 cJ3_checkIndex_8e157 3 (some .int), Cond.methodLink RJ0 498 yJ2_charAt_3b067, Cond.static yJ2_charAt_3b067, Cond.initialized RJ2, Cond.code yJ2_charAt_3b067 cJ2_charAt_3b067 2 (some .char), Cond.methodLink RJ2 67 yJ2_checkIndex_2214a, Cond.static yJ2_checkIndex_2214a, Cond.code yJ2_checkIndex_2214a cJ2_checkIndex_2214a 2 none]
def wsX2_next_r3 : List Cond := [Cond.methodLink RJ2 48 yJ2_length_9d52b, Cond.static yJ2_length_9d52b, Cond.code yJ2_length_9d52b cJ2_length_9d52b 1 (some .int), Cond.methodLink RJ2 414 yJ0_checkIndex_df160, Cond.methodLink RJ2 71 yJ2_getChar_3b067, Cond.static yJ2_getChar_3b067, Cond.code yJ2_getChar_3b067 cJ2_getChar_3b067 2 (some .char), Cond.fieldLink RJ2 44 "java/lang/StringUTF16" "$assertionsDisabled" "Z", Cond.fieldLink RJ2 59 "java/lang/StringUTF16" "HI_BYTE_SHIFT" "I", Cond.fieldLink RJ2 63 "java/lang/StringUTF16" "LO_BYTE_SHIFT" "I", Cond.methodLink RX2 86 yX2_isFigure, Cond.static yX2_isFigure, Cond.code yX2_isFigure cX2_isFigure 1 (some .boolean), Cond.methodLink RX2 89 yX2_readNumber, Cond.instanceMethod yX2_readNumber, Cond.selects RX2 yX2_readNumber yX2_readNumber, Cond.code yX2_readNumber cX2_readNumber 1 none, Cond.fieldLink RX2 76 "PortRooms$Duties" "number" "I"]
def wsX2_next : List Cond := .code yX2_next cX2_next 1 none :: ((wsX2_next_r1 ++ (wsX2_next_r2 ++ wsX2_next_r3)) ++ wsX20)
def wsX2_readAct_r1 : List Cond := [Cond.fieldLink RX2 47 "PortRooms$Duties" "token" "I", Cond.fieldLink RX2 41 "PortRooms$Duties" "drafted" "I", Cond.fieldLink RX2 25 "PortRooms$Duties" "draftWhat" "[I", Cond.fieldLink RX2 28 "PortRooms$Duties" "draftDays" "[I", Cond.fieldLink RX2 76 "PortRooms$Duties" "number" "I", Cond.methodLink RX2 44 yX2_next, Cond.instanceMethod yX2_next, Cond.selects RX2 yX2_next yX2_next, Cond.initialized RX2, Cond.code yX2_next cX2_next 1 none, Cond.fieldLink RX2 38 "PortRooms$Duties" "end" "I", Cond.fieldLink RX2 61 "PortRooms$Duties" "start" "I", Cond.fieldLink RX2 34 "PortRooms$Duties" "length" "I", Cond.fieldLink RX2 11 "PortRooms$Duties" "tape" "[B", Cond.methodLink RX2 79 yX2_isLetter, Cond.static yX2_isLetter, Cond.code yX2_isLetter cX2_isLetter 1 (some .boolean), Cond.methodLink RX2 83 yX2_readName, Cond.instanceMethod yX2_readName, Cond.selects RX2 yX2_readName yX2_readName, Cond.code yX2_readName cX2_readName 2 none, Cond.methodLink RX2 92 yX2_isWord, Cond.instanceMethod yX2_isWord, Cond.selects RX2 yX2_isWord yX2_isWord]
def wsX2_readAct_r2 : List Cond := [Cond.code yX2_isWord cX2_isWord 4 (some .boolean), Cond.methodLink RX2 97 yJ0_charAt_5068e, Cond.instanceMethod yJ0_charAt_5068e, Cond.selects RJ0 yJ0_charAt_5068e yJ0_charAt_5068e, Cond.initialized RJ0, Cond.code yJ0_charAt_5068e cJ0_charAt_5068e 2 (some .char), Cond.fieldLink RJ0 9 "java/lang/String" "value" "[B", Cond.methodLink RJ0 492 yJ0_isLatin1_aae02, Cond.instanceMethod yJ0_isLatin1_aae02, Cond.selects RJ0 yJ0_isLatin1_aae02 yJ0_isLatin1_aae02, Cond.code yJ0_isLatin1_aae02 cJ0_isLatin1_aae02 1 (some .boolean), Cond.fieldLink RJ0 38 "java/lang/String" "COMPACT_STRINGS" "Z", Cond.fieldLink RJ0 15 "java/lang/String" "coder" "B", Cond.methodLink RJ0 495 yJ1_charAt_3b067, Cond.static yJ1_charAt_3b067, Cond.initialized RJ1, Cond.code yJ1_charAt_3b067 cJ1_charAt_3b067 2 (some .char), Cond.methodLink RJ1 9 yJ0_checkIndex_df160, Cond.static yJ0_checkIndex_df160, Cond.code yJ0_checkIndex_df160 cJ0_checkIndex_df160 2 none, Cond.fieldLink RJ0 1053 "jdk/internal/util/Preconditions" "SIOOBE_FORMATTER" "Ljava/util/function/BiFunction;", Cond.methodLink RJ0 1059 yJ3_checkIndex_8e157, Cond.static yJ3_checkIndex_8e157, Cond.initialized RJ3]
def wsX2_readAct_r3 : List Cond := [Cond.code yJ3_checkIndex_8e157 cJ3_checkIndex_8e157 3 (some .int), Cond.methodLink RJ0 498 yJ2_charAt_3b067, Cond.static yJ2_charAt_3b067, Cond.initialized RJ2, Cond.code yJ2_charAt_3b067 cJ2_charAt_3b067 2 (some .char), Cond.methodLink RJ2 67 yJ2_checkIndex_2214a, Cond.static yJ2_checkIndex_2214a, Cond.code yJ2_checkIndex_2214a cJ2_checkIndex_2214a 2 none, Cond.methodLink RJ2 48 yJ2_length_9d52b, Cond.static yJ2_length_9d52b, Cond.code yJ2_length_9d52b cJ2_length_9d52b 1 (some .int), Cond.methodLink RJ2 414 yJ0_checkIndex_df160, Cond.methodLink RJ2 71 yJ2_getChar_3b067, Cond.static yJ2_getChar_3b067, Cond.code yJ2_getChar_3b067 cJ2_getChar_3b067 2 (some .char), Cond.fieldLink RJ2 44 "java/lang/StringUTF16" "$assertionsDisabled" "Z", Cond.fieldLink RJ2 59 "java/lang/StringUTF16" "HI_BYTE_SHIFT" "I", Cond.fieldLink RJ2 63 "java/lang/StringUTF16" "LO_BYTE_SHIFT" "I", Cond.methodLink RX2 86 yX2_isFigure, Cond.static yX2_isFigure, Cond.code yX2_isFigure cX2_isFigure 1 (some .boolean), Cond.methodLink RX2 89 yX2_readNumber, Cond.instanceMethod yX2_readNumber, Cond.selects RX2 yX2_readNumber yX2_readNumber]
def wsX2_readAct_r4 : List Cond := [Cond.code yX2_readNumber cX2_readNumber 1 none]
def wsX2_readAct : List Cond := .code yX2_readAct cX2_readAct 1 (some .int) :: ((wsX2_readAct_r1 ++ (wsX2_readAct_r2 ++ (wsX2_readAct_r3 ++ wsX2_readAct_r4))) ++ wsX20)
def wsX2_readPart_r1 : List Cond := [Cond.fieldLink RX2 47 "PortRooms$Duties" "token" "I", Cond.fieldLink RX2 76 "PortRooms$Duties" "number" "I", Cond.fieldLink RX2 31 "PortRooms$Duties" "draftPart" "[I", Cond.fieldLink RX2 41 "PortRooms$Duties" "drafted" "I", Cond.methodLink RX2 44 yX2_next, Cond.instanceMethod yX2_next, Cond.selects RX2 yX2_next yX2_next, Cond.initialized RX2, Cond.code yX2_next cX2_next 1 none, Cond.fieldLink RX2 38 "PortRooms$Duties" "end" "I", Cond.fieldLink RX2 61 "PortRooms$Duties" "start" "I", Cond.fieldLink RX2 34 "PortRooms$Duties" "length" "I", Cond.fieldLink RX2 11 "PortRooms$Duties" "tape" "[B", Cond.methodLink RX2 79 yX2_isLetter, Cond.static yX2_isLetter, Cond.code yX2_isLetter cX2_isLetter 1 (some .boolean), Cond.methodLink RX2 83 yX2_readName, Cond.instanceMethod yX2_readName, Cond.selects RX2 yX2_readName yX2_readName, Cond.code yX2_readName cX2_readName 2 none, Cond.methodLink RX2 92 yX2_isWord, Cond.instanceMethod yX2_isWord, Cond.selects RX2 yX2_isWord yX2_isWord, Cond.code yX2_isWord cX2_isWord 4 (some .boolean)]
def wsX2_readPart_r2 : List Cond := [Cond.methodLink RX2 97 yJ0_charAt_5068e, Cond.instanceMethod yJ0_charAt_5068e, Cond.selects RJ0 yJ0_charAt_5068e yJ0_charAt_5068e, Cond.initialized RJ0, Cond.code yJ0_charAt_5068e cJ0_charAt_5068e 2 (some .char), Cond.fieldLink RJ0 9 "java/lang/String" "value" "[B", Cond.methodLink RJ0 492 yJ0_isLatin1_aae02, Cond.instanceMethod yJ0_isLatin1_aae02, Cond.selects RJ0 yJ0_isLatin1_aae02 yJ0_isLatin1_aae02, Cond.code yJ0_isLatin1_aae02 cJ0_isLatin1_aae02 1 (some .boolean), Cond.fieldLink RJ0 38 "java/lang/String" "COMPACT_STRINGS" "Z", Cond.fieldLink RJ0 15 "java/lang/String" "coder" "B", Cond.methodLink RJ0 495 yJ1_charAt_3b067, Cond.static yJ1_charAt_3b067, Cond.initialized RJ1, Cond.code yJ1_charAt_3b067 cJ1_charAt_3b067 2 (some .char), Cond.methodLink RJ1 9 yJ0_checkIndex_df160, Cond.static yJ0_checkIndex_df160, Cond.code yJ0_checkIndex_df160 cJ0_checkIndex_df160 2 none, Cond.fieldLink RJ0 1053 "jdk/internal/util/Preconditions" "SIOOBE_FORMATTER" "Ljava/util/function/BiFunction;", Cond.methodLink RJ0 1059 yJ3_checkIndex_8e157, Cond.static yJ3_checkIndex_8e157, Cond.initialized RJ3, Cond.code yJ3_checkIndex_8e157 cJ3_checkIndex_8e157 3 (some .int)]
def wsX2_readPart_r3 : List Cond := [Cond.methodLink RJ0 498 yJ2_charAt_3b067, Cond.static yJ2_charAt_3b067, Cond.initialized RJ2, Cond.code yJ2_charAt_3b067 cJ2_charAt_3b067 2 (some .char), Cond.methodLink RJ2 67 yJ2_checkIndex_2214a, Cond.static yJ2_checkIndex_2214a, Cond.code yJ2_checkIndex_2214a cJ2_checkIndex_2214a 2 none, Cond.methodLink RJ2 48 yJ2_length_9d52b, Cond.static yJ2_length_9d52b, Cond.code yJ2_length_9d52b cJ2_length_9d52b 1 (some .int), Cond.methodLink RJ2 414 yJ0_checkIndex_df160, Cond.methodLink RJ2 71 yJ2_getChar_3b067, Cond.static yJ2_getChar_3b067, Cond.code yJ2_getChar_3b067 cJ2_getChar_3b067 2 (some .char), Cond.fieldLink RJ2 44 "java/lang/StringUTF16" "$assertionsDisabled" "Z", Cond.fieldLink RJ2 59 "java/lang/StringUTF16" "HI_BYTE_SHIFT" "I", Cond.fieldLink RJ2 63 "java/lang/StringUTF16" "LO_BYTE_SHIFT" "I", Cond.methodLink RX2 86 yX2_isFigure, Cond.static yX2_isFigure, Cond.code yX2_isFigure cX2_isFigure 1 (some .boolean), Cond.methodLink RX2 89 yX2_readNumber, Cond.instanceMethod yX2_readNumber, Cond.selects RX2 yX2_readNumber yX2_readNumber, Cond.code yX2_readNumber cX2_readNumber 1 none]
def wsX2_readPart : List Cond := .code yX2_readPart cX2_readPart 1 (some .int) :: ((wsX2_readPart_r1 ++ (wsX2_readPart_r2 ++ wsX2_readPart_r3)) ++ wsX20)
def wsX2_keepDraft : List Cond := .code yX2_keepDraft cX2_keepDraft 1 none :: ([.fieldLink RX2 25 "PortRooms$Duties" "draftWhat" "[I", .fieldLink RX2 15 "PortRooms$Duties" "what" "[I", .fieldLink RX2 41 "PortRooms$Duties" "drafted" "I", .methodLink RX2 70 arraycopyName, .native arraycopyName, .static arraycopyName, .initialized "java/lang/System", .fieldLink RX2 28 "PortRooms$Duties" "draftDays" "[I", .fieldLink RX2 19 "PortRooms$Duties" "days" "[I", .fieldLink RX2 31 "PortRooms$Duties" "draftPart" "[I", .fieldLink RX2 22 "PortRooms$Duties" "part" "[I", .fieldLink RX2 67 "PortRooms$Duties" "lines" "I"] ++ wsX20)
def wsX2_read_r1 : List Cond := [Cond.fieldLink RX2 38 "PortRooms$Duties" "end" "I", Cond.fieldLink RX2 41 "PortRooms$Duties" "drafted" "I", Cond.fieldLink RX2 47 "PortRooms$Duties" "token" "I", Cond.fieldLink RX2 34 "PortRooms$Duties" "length" "I", Cond.fieldLink RX2 57 "PortRooms$Duties" "latestFault" "I", Cond.constant RX2 60 (-1000100), Cond.fieldLink RX2 61 "PortRooms$Duties" "start" "I", Cond.fieldLink RX2 67 "PortRooms$Duties" "lines" "I", Cond.methodLink RX2 44 yX2_next, Cond.instanceMethod yX2_next, Cond.selects RX2 yX2_next yX2_next, Cond.initialized RX2, Cond.code yX2_next cX2_next 1 none, Cond.fieldLink RX2 11 "PortRooms$Duties" "tape" "[B", Cond.methodLink RX2 79 yX2_isLetter, Cond.static yX2_isLetter, Cond.code yX2_isLetter cX2_isLetter 1 (some .boolean), Cond.methodLink RX2 83 yX2_readName, Cond.instanceMethod yX2_readName, Cond.selects RX2 yX2_readName yX2_readName, Cond.code yX2_readName cX2_readName 2 none, Cond.methodLink RX2 92 yX2_isWord, Cond.instanceMethod yX2_isWord, Cond.selects RX2 yX2_isWord yX2_isWord]
def wsX2_read_r2 : List Cond := [Cond.code yX2_isWord cX2_isWord 4 (some .boolean), Cond.methodLink RX2 97 yJ0_charAt_5068e, Cond.instanceMethod yJ0_charAt_5068e, Cond.selects RJ0 yJ0_charAt_5068e yJ0_charAt_5068e, Cond.initialized RJ0, Cond.code yJ0_charAt_5068e cJ0_charAt_5068e 2 (some .char), Cond.fieldLink RJ0 9 "java/lang/String" "value" "[B", Cond.methodLink RJ0 492 yJ0_isLatin1_aae02, Cond.instanceMethod yJ0_isLatin1_aae02, Cond.selects RJ0 yJ0_isLatin1_aae02 yJ0_isLatin1_aae02, Cond.code yJ0_isLatin1_aae02 cJ0_isLatin1_aae02 1 (some .boolean), Cond.fieldLink RJ0 38 "java/lang/String" "COMPACT_STRINGS" "Z", Cond.fieldLink RJ0 15 "java/lang/String" "coder" "B", Cond.methodLink RJ0 495 yJ1_charAt_3b067, Cond.static yJ1_charAt_3b067, Cond.initialized RJ1, Cond.code yJ1_charAt_3b067 cJ1_charAt_3b067 2 (some .char), Cond.methodLink RJ1 9 yJ0_checkIndex_df160, Cond.static yJ0_checkIndex_df160, Cond.code yJ0_checkIndex_df160 cJ0_checkIndex_df160 2 none, Cond.fieldLink RJ0 1053 "jdk/internal/util/Preconditions" "SIOOBE_FORMATTER" "Ljava/util/function/BiFunction;", Cond.methodLink RJ0 1059 yJ3_checkIndex_8e157, Cond.static yJ3_checkIndex_8e157, Cond.initialized RJ3]
def wsX2_read_r3 : List Cond := [Cond.code yJ3_checkIndex_8e157 cJ3_checkIndex_8e157 3 (some .int), Cond.methodLink RJ0 498 yJ2_charAt_3b067, Cond.static yJ2_charAt_3b067, Cond.initialized RJ2, Cond.code yJ2_charAt_3b067 cJ2_charAt_3b067 2 (some .char), Cond.methodLink RJ2 67 yJ2_checkIndex_2214a, Cond.static yJ2_checkIndex_2214a, Cond.code yJ2_checkIndex_2214a cJ2_checkIndex_2214a 2 none, Cond.methodLink RJ2 48 yJ2_length_9d52b, Cond.static yJ2_length_9d52b, Cond.code yJ2_length_9d52b cJ2_length_9d52b 1 (some .int), Cond.methodLink RJ2 414 yJ0_checkIndex_df160, Cond.methodLink RJ2 71 yJ2_getChar_3b067, Cond.static yJ2_getChar_3b067, Cond.code yJ2_getChar_3b067 cJ2_getChar_3b067 2 (some .char), Cond.fieldLink RJ2 44 "java/lang/StringUTF16" "$assertionsDisabled" "Z", Cond.fieldLink RJ2 59 "java/lang/StringUTF16" "HI_BYTE_SHIFT" "I", Cond.fieldLink RJ2 63 "java/lang/StringUTF16" "LO_BYTE_SHIFT" "I", Cond.methodLink RX2 86 yX2_isFigure, Cond.static yX2_isFigure, Cond.code yX2_isFigure cX2_isFigure 1 (some .boolean), Cond.methodLink RX2 89 yX2_readNumber, Cond.instanceMethod yX2_readNumber, Cond.selects RX2 yX2_readNumber yX2_readNumber]
def wsX2_read_r4 : List Cond := [Cond.code yX2_readNumber cX2_readNumber 1 none, Cond.fieldLink RX2 76 "PortRooms$Duties" "number" "I", Cond.methodLink RX2 50 yX2_readAct, Cond.instanceMethod yX2_readAct, Cond.selects RX2 yX2_readAct yX2_readAct, Cond.code yX2_readAct cX2_readAct 1 (some .int), Cond.fieldLink RX2 25 "PortRooms$Duties" "draftWhat" "[I", Cond.fieldLink RX2 28 "PortRooms$Duties" "draftDays" "[I", Cond.methodLink RX2 54 yX2_readPart, Cond.instanceMethod yX2_readPart, Cond.selects RX2 yX2_readPart yX2_readPart, Cond.code yX2_readPart cX2_readPart 1 (some .int), Cond.fieldLink RX2 31 "PortRooms$Duties" "draftPart" "[I", Cond.methodLink RX2 64 yX2_keepDraft, Cond.instanceMethod yX2_keepDraft, Cond.selects RX2 yX2_keepDraft yX2_keepDraft, Cond.code yX2_keepDraft cX2_keepDraft 1 none, Cond.fieldLink RX2 15 "PortRooms$Duties" "what" "[I", Cond.methodLink RX2 70 arraycopyName, Cond.native arraycopyName, Cond.static arraycopyName, Cond.initialized "java/lang/System", Cond.fieldLink RX2 19 "PortRooms$Duties" "days" "[I", Cond.fieldLink RX2 22 "PortRooms$Duties" "part" "[I"]
def wsX2_read : List Cond := .code yX2_read cX2_read 3 (some .int) :: ((wsX2_read_r1 ++ (wsX2_read_r2 ++ (wsX2_read_r3 ++ wsX2_read_r4))) ++ wsX20)
def wsX3_init : List Cond := .code yX3_init cX3_init 1 none :: ([.methodLink RX3 3 objectInit, .instanceMethod objectInit, .code objectInit ⟨#[0xb1]⟩ 1 none, .arrayClass .int, .fieldLink RX3 9 "PortRooms$Holdings" "owner" "[I", .fieldLink RX3 15 "PortRooms$Holdings" "company" "[I", .fieldLink RX3 18 "PortRooms$Holdings" "percentage" "[I", .fieldLink RX3 21 "PortRooms$Holdings" "since" "[I", .fieldLink RX3 24 "PortRooms$Holdings" "part" "[I", .fieldLink RX3 27 "PortRooms$Holdings" "partSince" "[I", .fieldLink RX3 30 "PortRooms$Holdings" "has" "[I", .fieldLink RX3 33 "PortRooms$Holdings" "reach" "[I"] ++ wsX30)
def wsX3_tell : List Cond := .code yX3_tell cX3_tell 5 (some .int) :: ([.fieldLink RX3 9 "PortRooms$Holdings" "owner" "[I", .fieldLink RX3 36 "PortRooms$Holdings" "count" "I", .fieldLink RX3 15 "PortRooms$Holdings" "company" "[I", .fieldLink RX3 18 "PortRooms$Holdings" "percentage" "[I", .fieldLink RX3 21 "PortRooms$Holdings" "since" "[I"] ++ wsX30)
def wsX3_place : List Cond := .code yX3_place cX3_place 2 (some .int) :: ([])
def wsX3_gatherWhoHas : List Cond := .code yX3_gatherWhoHas cX3_gatherWhoHas 2 none :: ([.fieldLink RX3 30 "PortRooms$Holdings" "has" "[I", .fieldLink RX3 36 "PortRooms$Holdings" "count" "I", .fieldLink RX3 24 "PortRooms$Holdings" "part" "[I", .fieldLink RX3 9 "PortRooms$Holdings" "owner" "[I", .fieldLink RX3 15 "PortRooms$Holdings" "company" "[I", .methodLink RX3 40 yJ7_fill_53178, .static yJ7_fill_53178, .initialized RJ7, .code yJ7_fill_53178 cJ7_fill_53178 4 none, .methodLink RX3 46 yX3_place, .static yX3_place, .initialized RX3, .code yX3_place cX3_place 2 (some .int)] ++ wsX30)
def wsX3_closeReach : List Cond := .code yX3_closeReach cX3_closeReach 3 none :: ([.fieldLink RX3 30 "PortRooms$Holdings" "has" "[I", .fieldLink RX3 33 "PortRooms$Holdings" "reach" "[I", .methodLink RX3 56 arraycopyName, .native arraycopyName, .static arraycopyName, .initialized "java/lang/System", .static yX10_hasBit, .initialized RX10, .code yX10_hasBit cX10_hasBit 2 (some .boolean)] ++ wsX30)
def wsX3_lookAt_r1 : List Cond := [Cond.fieldLink RX3 24 "PortRooms$Holdings" "part" "[I", Cond.fieldLink RX3 27 "PortRooms$Holdings" "partSince" "[I", Cond.fieldLink RX3 36 "PortRooms$Holdings" "count" "I", Cond.fieldLink RX3 9 "PortRooms$Holdings" "owner" "[I", Cond.fieldLink RX3 15 "PortRooms$Holdings" "company" "[I", Cond.fieldLink RX3 21 "PortRooms$Holdings" "since" "[I", Cond.fieldLink RX3 18 "PortRooms$Holdings" "percentage" "[I", Cond.methodLink RX3 40 yJ7_fill_53178, Cond.static yJ7_fill_53178, Cond.initialized RJ7, Cond.code yJ7_fill_53178 cJ7_fill_53178 4 none, Cond.methodLink RX3 46 yX3_place, Cond.static yX3_place, Cond.initialized RX3, Cond.code yX3_place cX3_place 2 (some .int), Cond.methodLink RX3 50 yX3_gatherWhoHas, Cond.instanceMethod yX3_gatherWhoHas, Cond.selects RX3 yX3_gatherWhoHas yX3_gatherWhoHas, Cond.code yX3_gatherWhoHas cX3_gatherWhoHas 2 none, Cond.fieldLink RX3 30 "PortRooms$Holdings" "has" "[I", Cond.methodLink RX3 53 yX3_closeReach, Cond.instanceMethod yX3_closeReach, Cond.selects RX3 yX3_closeReach yX3_closeReach, Cond.code yX3_closeReach cX3_closeReach 3 none]
def wsX3_lookAt_r2 : List Cond := [Cond.fieldLink RX3 33 "PortRooms$Holdings" "reach" "[I", Cond.methodLink RX3 56 arraycopyName, Cond.native arraycopyName, Cond.static arraycopyName, Cond.initialized "java/lang/System", Cond.static yX10_hasBit, Cond.initialized RX10, Cond.code yX10_hasBit cX10_hasBit 2 (some .boolean)]
def wsX3_lookAt : List Cond := .code yX3_lookAt cX3_lookAt 4 none :: ((wsX3_lookAt_r1 ++ wsX3_lookAt_r2) ++ wsX30)
def wsX3_partOf : List Cond := .code yX3_partOf cX3_partOf 3 (some .int) :: ([.fieldLink RX3 24 "PortRooms$Holdings" "part" "[I", .methodLink RX3 46 yX3_place, .static yX3_place, .initialized RX3, .code yX3_place cX3_place 2 (some .int)] ++ wsX30)
def wsX3_leadingTo : List Cond := .code yX3_leadingTo cX3_leadingTo 4 (some .int) :: ([.fieldLink RX3 33 "PortRooms$Holdings" "reach" "[I", .static yX10_hasBit, .initialized RX10, .code yX10_hasBit cX10_hasBit 2 (some .boolean)] ++ wsX30)
def wsX3_along : List Cond := .code yX3_along cX3_along 11 (some .long) :: ([.fieldLink RX3 30 "PortRooms$Holdings" "has" "[I", .static yX10_hasBit, .initialized RX10, .code yX10_hasBit cX10_hasBit 2 (some .boolean), .methodLink RX3 83 yX3_partOf, .instanceMethod yX3_partOf, .selects RX3 yX3_partOf yX3_partOf, .initialized RX3, .code yX3_partOf cX3_partOf 3 (some .int), .fieldLink RX3 24 "PortRooms$Holdings" "part" "[I", .methodLink RX3 46 yX3_place, .static yX3_place, .code yX3_place cX3_place 2 (some .int), .methodLink RX3 71 yX3_along, .static yX3_along] ++ wsX30)
def wsX3_shareOf_r1 : List Cond := [Cond.constant RX3 66 (1000000), Cond.constantLong RX3 75 (2000000000), Cond.methodLink RX3 77 Lib.MathLoose.min_long.x, Cond.static Lib.MathLoose.min_long.x, Cond.initialized "java/lang/Math", Cond.code Lib.MathLoose.min_long.x Lib.MathLoose.min_long.code 4 (some .long), Cond.methodLink RX3 67 yX3_leadingTo, Cond.instanceMethod yX3_leadingTo, Cond.selects RX3 yX3_leadingTo yX3_leadingTo, Cond.initialized RX3, Cond.code yX3_leadingTo cX3_leadingTo 4 (some .int), Cond.fieldLink RX3 33 "PortRooms$Holdings" "reach" "[I", Cond.static yX10_hasBit, Cond.initialized RX10, Cond.code yX10_hasBit cX10_hasBit 2 (some .boolean), Cond.methodLink RX3 71 yX3_along, Cond.static yX3_along, Cond.code yX3_along cX3_along 11 (some .long), Cond.fieldLink RX3 30 "PortRooms$Holdings" "has" "[I", Cond.methodLink RX3 83 yX3_partOf, Cond.instanceMethod yX3_partOf, Cond.selects RX3 yX3_partOf yX3_partOf, Cond.code yX3_partOf cX3_partOf 3 (some .int), Cond.fieldLink RX3 24 "PortRooms$Holdings" "part" "[I"]
def wsX3_shareOf_r2 : List Cond := [Cond.methodLink RX3 46 yX3_place, Cond.static yX3_place, Cond.code yX3_place cX3_place 2 (some .int)]
def wsX3_shareOf : List Cond := .code yX3_shareOf cX3_shareOf 6 (some .int) :: ((wsX3_shareOf_r1 ++ wsX3_shareOf_r2) ++ wsX30)
def wsX4_init : List Cond := .code yX4_init cX4_init 1 none :: ([.methodLink RX4 3 objectInit, .instanceMethod objectInit, .code objectInit ⟨#[0xb1]⟩ 1 none, .arrayClass .int, .fieldLink RX4 9 "PortRooms$Lists" "person" "[I", .fieldLink RX4 15 "PortRooms$Lists" "from" "[I", .fieldLink RX4 18 "PortRooms$Lists" "to" "[I"] ++ wsX40)
def wsX4_tell : List Cond := .code yX4_tell cX4_tell 4 (some .int) :: ([.fieldLink RX4 9 "PortRooms$Lists" "person" "[I", .fieldLink RX4 21 "PortRooms$Lists" "count" "I", .fieldLink RX4 15 "PortRooms$Lists" "from" "[I", .fieldLink RX4 18 "PortRooms$Lists" "to" "[I"] ++ wsX40)
def wsX4_peopleOn : List Cond := .code yX4_peopleOn cX4_peopleOn 4 (some .int) :: ([.fieldLink RX4 21 "PortRooms$Lists" "count" "I", .fieldLink RX4 15 "PortRooms$Lists" "from" "[I", .fieldLink RX4 18 "PortRooms$Lists" "to" "[I", .fieldLink RX4 9 "PortRooms$Lists" "person" "[I"] ++ wsX40)
def wsX5_init : List Cond := .code yX5_init cX5_init 2 none :: ([.methodLink RX5 3 objectInit, .instanceMethod objectInit, .code objectInit ⟨#[0xb1]⟩ 1 none, .arrayClass .long, .fieldLink RX5 9 "PortRooms$Looks" "lots" "[J", .fieldLink RX5 15 "PortRooms$Looks" "seed" "I"] ++ wsX50)
def wsX5_lotOf : List Cond := .code yX5_lotOf cX5_lotOf 5 (some .long) :: ([.fieldLink RX5 15 "PortRooms$Looks" "seed" "I", .constantLong RX5 19 (1000003), .constantLong RX5 21 (8191), .constantLong RX5 23 (-7046029254386353131), .constantLong RX5 25 (-4658895280553007687), .constantLong RX5 27 (9223372036854775807)] ++ wsX50)
def wsX5_drawLots : List Cond := .code yX5_drawLots cX5_drawLots 4 none :: ([.fieldLink RX5 9 "PortRooms$Looks" "lots" "[J", .static yX10_hasBit, .initialized RX10, .code yX10_hasBit cX10_hasBit 2 (some .boolean), .methodLink RX5 33 yX5_lotOf, .instanceMethod yX5_lotOf, .selects RX5 yX5_lotOf yX5_lotOf, .initialized RX5, .code yX5_lotOf cX5_lotOf 5 (some .long), .fieldLink RX5 15 "PortRooms$Looks" "seed" "I", .constantLong RX5 19 (1000003), .constantLong RX5 21 (8191), .constantLong RX5 23 (-7046029254386353131), .constantLong RX5 25 (-4658895280553007687), .constantLong RX5 27 (9223372036854775807)] ++ wsX50)
def wsX5_howManyAhead : List Cond := .code yX5_howManyAhead cX5_howManyAhead 5 (some .int) :: ([.fieldLink RX5 9 "PortRooms$Looks" "lots" "[J", .static yX10_hasBit, .initialized RX10, .code yX10_hasBit cX10_hasBit 2 (some .boolean)] ++ wsX50)
def wsX6_init : List Cond := .code yX6_init cX6_init 1 none :: ([.methodLink RX6 3 objectInit, .instanceMethod objectInit, .code objectInit ⟨#[0xb1]⟩ 1 none, .arrayClass .int, .fieldLink RX6 9 "PortRooms$Openings" "crate" "[I", .fieldLink RX6 15 "PortRooms$Openings" "day" "[I", .fieldLink RX6 18 "PortRooms$Openings" "weight" "[I", .fieldLink RX6 21 "PortRooms$Openings" "marks" "[I"] ++ wsX60)
def wsX6_tell : List Cond := .code yX6_tell cX6_tell 5 (some .int) :: ([.fieldLink RX6 9 "PortRooms$Openings" "crate" "[I", .fieldLink RX6 24 "PortRooms$Openings" "count" "I", .fieldLink RX6 15 "PortRooms$Openings" "day" "[I", .fieldLink RX6 18 "PortRooms$Openings" "weight" "[I", .fieldLink RX6 21 "PortRooms$Openings" "marks" "[I"] ++ wsX60)
def wsX6_firstOf : List Cond := .code yX6_firstOf cX6_firstOf 4 (some .int) :: ([.fieldLink RX6 24 "PortRooms$Openings" "count" "I", .fieldLink RX6 9 "PortRooms$Openings" "crate" "[I", .fieldLink RX6 15 "PortRooms$Openings" "day" "[I"] ++ wsX60)
def wsX6_compared : List Cond := .code yX6_compared cX6_compared 5 (some .int) :: ([.fieldLink RX6 18 "PortRooms$Openings" "weight" "[I", .methodLink RX6 41 Lib.Math.abs.name, .static Lib.Math.abs.name, .initialized "java/lang/Math", .code Lib.Math.abs.name Lib.Math.abs.code 1 (some .int), .fieldLink RX6 21 "PortRooms$Openings" "marks" "[I", .methodLink RX6 44 yJ6_bitCount_0f7a4, .static yJ6_bitCount_0f7a4, .initialized RJ6, .code yJ6_bitCount_0f7a4 cJ6_bitCount_0f7a4 1 (some .int), .constant RJ6 265 (1431655765), .constant RJ6 266 (858993459), .constant RJ6 267 (252645135)] ++ wsX60)
def wsX6_worstOf_r1 : List Cond := [Cond.fieldLink RX6 24 "PortRooms$Openings" "count" "I", Cond.fieldLink RX6 9 "PortRooms$Openings" "crate" "[I", Cond.methodLink RX6 36 Lib.Math.max.name, Cond.static Lib.Math.max.name, Cond.initialized "java/lang/Math", Cond.code Lib.Math.max.name Lib.Math.max.code 2 (some .int), Cond.methodLink RX6 28 yX6_firstOf, Cond.instanceMethod yX6_firstOf, Cond.selects RX6 yX6_firstOf yX6_firstOf, Cond.initialized RX6, Cond.code yX6_firstOf cX6_firstOf 4 (some .int), Cond.fieldLink RX6 15 "PortRooms$Openings" "day" "[I", Cond.methodLink RX6 32 yX6_compared, Cond.instanceMethod yX6_compared, Cond.selects RX6 yX6_compared yX6_compared, Cond.code yX6_compared cX6_compared 5 (some .int), Cond.fieldLink RX6 18 "PortRooms$Openings" "weight" "[I", Cond.methodLink RX6 41 Lib.Math.abs.name, Cond.static Lib.Math.abs.name, Cond.code Lib.Math.abs.name Lib.Math.abs.code 1 (some .int), Cond.fieldLink RX6 21 "PortRooms$Openings" "marks" "[I", Cond.methodLink RX6 44 yJ6_bitCount_0f7a4, Cond.static yJ6_bitCount_0f7a4, Cond.initialized RJ6]
def wsX6_worstOf_r2 : List Cond := [Cond.code yJ6_bitCount_0f7a4 cJ6_bitCount_0f7a4 1 (some .int), Cond.constant RJ6 265 (1431655765), Cond.constant RJ6 266 (858993459), Cond.constant RJ6 267 (252645135)]
def wsX6_worstOf : List Cond := .code yX6_worstOf cX6_worstOf 5 (some .int) :: ((wsX6_worstOf_r1 ++ wsX6_worstOf_r2) ++ wsX60)
def wsX7_init : List Cond := .code yX7_init cX7_init 1 none :: ([.methodLink RX7 3 objectInit, .instanceMethod objectInit, .code objectInit ⟨#[0xb1]⟩ 1 none, .arrayClass .int, .fieldLink RX7 9 "PortRooms$Papers" "crate" "[I", .fieldLink RX7 15 "PortRooms$Papers" "from" "[I", .fieldLink RX7 18 "PortRooms$Papers" "to" "[I", .fieldLink RX7 21 "PortRooms$Papers" "said" "[I", .fieldLink RX7 24 "PortRooms$Papers" "filed" "[I", .fieldLink RX7 27 "PortRooms$Papers" "order" "[I"] ++ wsX70)
def wsX7_isAhead : List Cond := .code yX7_isAhead cX7_isAhead 3 (some .boolean) :: ([.fieldLink RX7 21 "PortRooms$Papers" "said" "[I", .fieldLink RX7 24 "PortRooms$Papers" "filed" "[I"] ++ wsX70)
def wsX7_tell : List Cond := .code yX7_tell cX7_tell 7 (some .int) :: ([.fieldLink RX7 9 "PortRooms$Papers" "crate" "[I", .fieldLink RX7 30 "PortRooms$Papers" "count" "I", .fieldLink RX7 15 "PortRooms$Papers" "from" "[I", .fieldLink RX7 18 "PortRooms$Papers" "to" "[I", .fieldLink RX7 21 "PortRooms$Papers" "said" "[I", .fieldLink RX7 24 "PortRooms$Papers" "filed" "[I", .fieldLink RX7 27 "PortRooms$Papers" "order" "[I", .methodLink RX7 34 yX7_isAhead, .instanceMethod yX7_isAhead, .selects RX7 yX7_isAhead yX7_isAhead, .initialized RX7, .code yX7_isAhead cX7_isAhead 3 (some .boolean)] ++ wsX70)
def wsX7_isKnown : List Cond := .code yX7_isKnown cX7_isKnown 4 (some .boolean) :: ([.fieldLink RX7 9 "PortRooms$Papers" "crate" "[I", .fieldLink RX7 24 "PortRooms$Papers" "filed" "[I"] ++ wsX70)
def wsX7_ownerOf : List Cond := .code yX7_ownerOf cX7_ownerOf 8 (some .int) :: ([.fieldLink RX7 30 "PortRooms$Papers" "count" "I", .fieldLink RX7 27 "PortRooms$Papers" "order" "[I", .fieldLink RX7 21 "PortRooms$Papers" "said" "[I", .fieldLink RX7 15 "PortRooms$Papers" "from" "[I", .fieldLink RX7 18 "PortRooms$Papers" "to" "[I", .methodLink RX7 38 yX7_isKnown, .instanceMethod yX7_isKnown, .selects RX7 yX7_isKnown yX7_isKnown, .initialized RX7, .code yX7_isKnown cX7_isKnown 4 (some .boolean), .fieldLink RX7 9 "PortRooms$Papers" "crate" "[I", .fieldLink RX7 24 "PortRooms$Papers" "filed" "[I"] ++ wsX70)
def wsX7_notGood : List Cond := .code yX7_notGood cX7_notGood 8 (some .int) :: ([.fieldLink RX7 30 "PortRooms$Papers" "count" "I", .fieldLink RX7 27 "PortRooms$Papers" "order" "[I", .fieldLink RX7 15 "PortRooms$Papers" "from" "[I", .fieldLink RX7 18 "PortRooms$Papers" "to" "[I", .methodLink RX7 38 yX7_isKnown, .instanceMethod yX7_isKnown, .selects RX7 yX7_isKnown yX7_isKnown, .initialized RX7, .code yX7_isKnown cX7_isKnown 4 (some .boolean), .fieldLink RX7 9 "PortRooms$Papers" "crate" "[I", .fieldLink RX7 24 "PortRooms$Papers" "filed" "[I"] ++ wsX70)
def wsX8_init : List Cond := .code yX8_init cX8_init 1 none :: ([.methodLink RX8 3 objectInit, .instanceMethod objectInit, .code objectInit ⟨#[0xb1]⟩ 1 none, .arrayClass .int, .fieldLink RX8 9 "PortRooms$Pledges" "crate" "[I", .fieldLink RX8 15 "PortRooms$Pledges" "sum" "[I", .fieldLink RX8 18 "PortRooms$Pledges" "said" "[I", .fieldLink RX8 21 "PortRooms$Pledges" "filed" "[I", .fieldLink RX8 24 "PortRooms$Pledges" "order" "[I"] ++ wsX80)
def wsX8_tell : List Cond := .code yX8_tell cX8_tell 5 (some .int) :: ([.fieldLink RX8 9 "PortRooms$Pledges" "crate" "[I", .fieldLink RX8 27 "PortRooms$Pledges" "count" "I", .fieldLink RX8 15 "PortRooms$Pledges" "sum" "[I", .fieldLink RX8 18 "PortRooms$Pledges" "said" "[I", .fieldLink RX8 21 "PortRooms$Pledges" "filed" "[I"] ++ wsX80)
def wsX8_isKnown : List Cond := .code yX8_isKnown cX8_isKnown 4 (some .boolean) :: ([.fieldLink RX8 9 "PortRooms$Pledges" "crate" "[I", .fieldLink RX8 21 "PortRooms$Pledges" "filed" "[I"] ++ wsX80)
def wsX8_sumsOn : List Cond := .code yX8_sumsOn cX8_sumsOn 5 (some .int) :: ([.fieldLink RX8 27 "PortRooms$Pledges" "count" "I", .fieldLink RX8 15 "PortRooms$Pledges" "sum" "[I", .methodLink RX8 31 yX8_isKnown, .instanceMethod yX8_isKnown, .selects RX8 yX8_isKnown yX8_isKnown, .initialized RX8, .code yX8_isKnown cX8_isKnown 4 (some .boolean), .fieldLink RX8 9 "PortRooms$Pledges" "crate" "[I", .fieldLink RX8 21 "PortRooms$Pledges" "filed" "[I"] ++ wsX80)
def wsX8_isAhead : List Cond := .code yX8_isAhead cX8_isAhead 4 (some .boolean) :: ([.fieldLink RX8 21 "PortRooms$Pledges" "filed" "[I", .fieldLink RX8 18 "PortRooms$Pledges" "said" "[I", .fieldLink RX8 15 "PortRooms$Pledges" "sum" "[I"] ++ wsX80)
def wsX8_putBehind : List Cond := .code yX8_putBehind cX8_putBehind 5 none :: ([.fieldLink RX8 24 "PortRooms$Pledges" "order" "[I", .methodLink RX8 39 yX8_isAhead, .instanceMethod yX8_isAhead, .selects RX8 yX8_isAhead yX8_isAhead, .initialized RX8, .code yX8_isAhead cX8_isAhead 4 (some .boolean), .fieldLink RX8 21 "PortRooms$Pledges" "filed" "[I", .fieldLink RX8 18 "PortRooms$Pledges" "said" "[I", .fieldLink RX8 15 "PortRooms$Pledges" "sum" "[I"] ++ wsX80)
def wsX8_putInOrder : List Cond := .code yX8_putInOrder cX8_putInOrder 6 (some .int) :: ([.fieldLink RX8 27 "PortRooms$Pledges" "count" "I", .methodLink RX8 31 yX8_isKnown, .instanceMethod yX8_isKnown, .selects RX8 yX8_isKnown yX8_isKnown, .initialized RX8, .code yX8_isKnown cX8_isKnown 4 (some .boolean), .fieldLink RX8 9 "PortRooms$Pledges" "crate" "[I", .fieldLink RX8 21 "PortRooms$Pledges" "filed" "[I", .methodLink RX8 35 yX8_putBehind, .instanceMethod yX8_putBehind, .selects RX8 yX8_putBehind yX8_putBehind, .code yX8_putBehind cX8_putBehind 5 none, .fieldLink RX8 24 "PortRooms$Pledges" "order" "[I", .methodLink RX8 39 yX8_isAhead, .instanceMethod yX8_isAhead, .selects RX8 yX8_isAhead yX8_isAhead, .code yX8_isAhead cX8_isAhead 4 (some .boolean), .fieldLink RX8 18 "PortRooms$Pledges" "said" "[I", .fieldLink RX8 15 "PortRooms$Pledges" "sum" "[I"] ++ wsX80)
def wsX8_paidTo : List Cond := .code yX8_paidTo cX8_paidTo 5 (some .int) :: ([.fieldLink RX8 15 "PortRooms$Pledges" "sum" "[I", .fieldLink RX8 24 "PortRooms$Pledges" "order" "[I", .methodLink RX8 42 Lib.Math.min.name, .static Lib.Math.min.name, .initialized "java/lang/Math", .code Lib.Math.min.name Lib.Math.min.code 2 (some .int)] ++ wsX80)
def wsX9_init : List Cond := .code yX9_init cX9_init 1 none :: ([.methodLink RX9 3 objectInit, .instanceMethod objectInit, .code objectInit ⟨#[0xb1]⟩ 1 none, .classLink RX9 9 "[[I", .arrayClass .int, .fieldLink RX9 11 "PortRooms$Sheets" "items" "[[I", .fieldLink RX9 16 "PortRooms$Sheets" "lane" "[I", .fieldLink RX9 20 "PortRooms$Sheets" "size" "[I", .methodLink RX9 23 yJ7_fill_53178, .static yJ7_fill_53178, .initialized RJ7, .code yJ7_fill_53178 cJ7_fill_53178 4 none] ++ wsX90)
def wsX9_isMissing : List Cond := .code yX9_isMissing cX9_isMissing 2 (some .boolean) :: ([.fieldLink RX9 20 "PortRooms$Sheets" "size" "[I"] ++ wsX90)
def wsX9_hasPlaces : List Cond := .code yX9_hasPlaces cX9_hasPlaces 4 (some .boolean) :: ([.fieldLink RX9 20 "PortRooms$Sheets" "size" "[I"] ++ wsX90)
def wsX9_lay : List Cond := .code yX9_lay cX9_lay 4 none :: ([.fieldLink RX9 11 "PortRooms$Sheets" "items" "[[I", .fieldLink RX9 16 "PortRooms$Sheets" "lane" "[I", .fieldLink RX9 20 "PortRooms$Sheets" "size" "[I", .methodLink RX9 23 yJ7_fill_53178, .static yJ7_fill_53178, .initialized RJ7, .code yJ7_fill_53178 cJ7_fill_53178 4 none] ++ wsX90)
def wsX9_put : List Cond := .code yX9_put cX9_put 5 (some .int) :: ([.fieldLink RX9 16 "PortRooms$Sheets" "lane" "[I", .fieldLink RX9 11 "PortRooms$Sheets" "items" "[[I"] ++ wsX90)
def wsX9_takeAway : List Cond := .code yX9_takeAway cX9_takeAway 2 none :: ([.fieldLink RX9 20 "PortRooms$Sheets" "size" "[I"] ++ wsX90)
def wsX9_howMany : List Cond := .code yX9_howMany cX9_howMany 3 (some .int) :: ([.methodLink RX9 29 yX9_isMissing, .instanceMethod yX9_isMissing, .selects RX9 yX9_isMissing yX9_isMissing, .initialized RX9, .code yX9_isMissing cX9_isMissing 2 (some .boolean), .fieldLink RX9 20 "PortRooms$Sheets" "size" "[I"] ++ wsX90)
def wsX10_init_r1 : List Cond := [Cond.methodLink RX10 1 objectInit, Cond.instanceMethod objectInit, Cond.code objectInit ⟨#[0xb1]⟩ 1 none, Cond.classLink RX10 7 RX9, Cond.instantiable RX9 3, Cond.initialized RX9, Cond.fieldLink RX10 10 "PortRooms" "sheets" "LPortRooms$Sheets;", Cond.classLink RX10 16 RX3, Cond.instantiable RX3 9, Cond.initialized RX3, Cond.fieldLink RX10 19 "PortRooms" "holdings" "LPortRooms$Holdings;", Cond.classLink RX10 23 RX1, Cond.instantiable RX1 6, Cond.initialized RX1, Cond.fieldLink RX10 26 "PortRooms" "crates" "LPortRooms$Crates;", Cond.classLink RX10 30 RX7, Cond.instantiable RX7 7, Cond.initialized RX7, Cond.fieldLink RX10 33 "PortRooms" "papers" "LPortRooms$Papers;", Cond.classLink RX10 37 RX8, Cond.instantiable RX8 6, Cond.initialized RX8, Cond.fieldLink RX10 40 "PortRooms" "pledges" "LPortRooms$Pledges;", Cond.classLink RX10 44 RX2]
def wsX10_init_r2 : List Cond := [Cond.instantiable RX2 15, Cond.initialized RX2, Cond.fieldLink RX10 47 "PortRooms" "duties" "LPortRooms$Duties;", Cond.classLink RX10 51 RX0, Cond.instantiable RX0 5, Cond.initialized RX0, Cond.fieldLink RX10 54 "PortRooms" "acts" "LPortRooms$Acts;", Cond.classLink RX10 58 RX6, Cond.instantiable RX6 5, Cond.initialized RX6, Cond.fieldLink RX10 61 "PortRooms" "openings" "LPortRooms$Openings;", Cond.classLink RX10 65 RX4, Cond.instantiable RX4 4, Cond.initialized RX4, Cond.fieldLink RX10 68 "PortRooms" "lists" "LPortRooms$Lists;", Cond.arrayClass .int, Cond.fieldLink RX10 72 "PortRooms" "trace" "[I", Cond.classLink RX10 76 RX5, Cond.instantiable RX5 2, Cond.initialized RX5, Cond.fieldLink RX10 81 "PortRooms" "looks" "LPortRooms$Looks;", Cond.methodLink RX10 9 yX9_init, Cond.instanceMethod yX9_init, Cond.code yX9_init cX9_init 1 none]
def wsX10_init_r3 : List Cond := [Cond.methodLink RX9 3 objectInit, Cond.classLink RX9 9 "[[I", Cond.fieldLink RX9 11 "PortRooms$Sheets" "items" "[[I", Cond.fieldLink RX9 16 "PortRooms$Sheets" "lane" "[I", Cond.fieldLink RX9 20 "PortRooms$Sheets" "size" "[I", Cond.methodLink RX9 23 yJ7_fill_53178, Cond.static yJ7_fill_53178, Cond.initialized RJ7, Cond.code yJ7_fill_53178 cJ7_fill_53178 4 none, Cond.instanceMethod yX3_init, Cond.code yX3_init cX3_init 1 none, Cond.methodLink RX3 3 objectInit, Cond.fieldLink RX3 9 "PortRooms$Holdings" "owner" "[I", Cond.fieldLink RX3 15 "PortRooms$Holdings" "company" "[I", Cond.fieldLink RX3 18 "PortRooms$Holdings" "percentage" "[I", Cond.fieldLink RX3 21 "PortRooms$Holdings" "since" "[I", Cond.fieldLink RX3 24 "PortRooms$Holdings" "part" "[I", Cond.fieldLink RX3 27 "PortRooms$Holdings" "partSince" "[I", Cond.fieldLink RX3 30 "PortRooms$Holdings" "has" "[I", Cond.fieldLink RX3 33 "PortRooms$Holdings" "reach" "[I", Cond.methodLink RX10 25 yX1_init, Cond.instanceMethod yX1_init, Cond.code yX1_init cX1_init 1 none, Cond.methodLink RX1 3 objectInit]
def wsX10_init_r4 : List Cond := [Cond.fieldLink RX1 9 "PortRooms$Crates" "firstOwner" "[I", Cond.fieldLink RX1 15 "PortRooms$Crates" "worth" "[I", Cond.fieldLink RX1 18 "PortRooms$Crates" "room" "[I", Cond.fieldLink RX1 21 "PortRooms$Crates" "air" "[I", Cond.fieldLink RX1 24 "PortRooms$Crates" "insured" "[I", Cond.constant RX1 27 (-1000000), Cond.constant RX1 34 (100000), Cond.methodLink RX1 28 yJ7_fill_53178, Cond.instanceMethod yX7_init, Cond.code yX7_init cX7_init 1 none, Cond.methodLink RX7 3 objectInit, Cond.fieldLink RX7 9 "PortRooms$Papers" "crate" "[I", Cond.fieldLink RX7 15 "PortRooms$Papers" "from" "[I", Cond.fieldLink RX7 18 "PortRooms$Papers" "to" "[I", Cond.fieldLink RX7 21 "PortRooms$Papers" "said" "[I", Cond.fieldLink RX7 24 "PortRooms$Papers" "filed" "[I", Cond.fieldLink RX7 27 "PortRooms$Papers" "order" "[I", Cond.instanceMethod yX8_init, Cond.code yX8_init cX8_init 1 none, Cond.methodLink RX8 3 objectInit, Cond.fieldLink RX8 9 "PortRooms$Pledges" "crate" "[I", Cond.fieldLink RX8 15 "PortRooms$Pledges" "sum" "[I", Cond.fieldLink RX8 18 "PortRooms$Pledges" "said" "[I", Cond.fieldLink RX8 21 "PortRooms$Pledges" "filed" "[I"]
def wsX10_init_r5 : List Cond := [Cond.fieldLink RX8 24 "PortRooms$Pledges" "order" "[I", Cond.instanceMethod yX2_init, Cond.code yX2_init cX2_init 1 none, Cond.methodLink RX2 3 objectInit, Cond.arrayClass .byte, Cond.fieldLink RX2 11 "PortRooms$Duties" "tape" "[B", Cond.fieldLink RX2 15 "PortRooms$Duties" "what" "[I", Cond.fieldLink RX2 19 "PortRooms$Duties" "days" "[I", Cond.fieldLink RX2 22 "PortRooms$Duties" "part" "[I", Cond.fieldLink RX2 25 "PortRooms$Duties" "draftWhat" "[I", Cond.fieldLink RX2 28 "PortRooms$Duties" "draftDays" "[I", Cond.fieldLink RX2 31 "PortRooms$Duties" "draftPart" "[I", Cond.instanceMethod yX0_init, Cond.code yX0_init cX0_init 1 none, Cond.methodLink RX0 3 objectInit, Cond.fieldLink RX0 9 "PortRooms$Acts" "crate" "[I", Cond.fieldLink RX0 15 "PortRooms$Acts" "what" "[I", Cond.fieldLink RX0 18 "PortRooms$Acts" "day" "[I", Cond.fieldLink RX0 21 "PortRooms$Acts" "days" "[I", Cond.instanceMethod yX6_init, Cond.code yX6_init cX6_init 1 none, Cond.methodLink RX6 3 objectInit, Cond.fieldLink RX6 9 "PortRooms$Openings" "crate" "[I", Cond.fieldLink RX6 15 "PortRooms$Openings" "day" "[I"]
def wsX10_init_r6 : List Cond := [Cond.fieldLink RX6 18 "PortRooms$Openings" "weight" "[I", Cond.fieldLink RX6 21 "PortRooms$Openings" "marks" "[I", Cond.instanceMethod yX4_init, Cond.code yX4_init cX4_init 1 none, Cond.methodLink RX4 3 objectInit, Cond.fieldLink RX4 9 "PortRooms$Lists" "person" "[I", Cond.fieldLink RX4 15 "PortRooms$Lists" "from" "[I", Cond.fieldLink RX4 18 "PortRooms$Lists" "to" "[I", Cond.methodLink RX10 78 yX5_init, Cond.instanceMethod yX5_init, Cond.code yX5_init cX5_init 2 none, Cond.methodLink RX5 3 objectInit, Cond.arrayClass .long, Cond.fieldLink RX5 9 "PortRooms$Looks" "lots" "[J", Cond.fieldLink RX5 15 "PortRooms$Looks" "seed" "I"]
def wsX10_init : List Cond := .code yX10_init cX10_init 2 none :: ((wsX10_init_r1 ++ (wsX10_init_r2 ++ (wsX10_init_r3 ++ (wsX10_init_r4 ++ (wsX10_init_r5 ++ wsX10_init_r6))))) ++ wsX90 ++ wsX100 ++ wsX30 ++ wsX10 ++ wsX70 ++ wsX80 ++ wsX20 ++ wsX00 ++ wsX60 ++ wsX40 ++ wsX50)
def wsX10_isBelow : List Cond := .code yX10_isBelow cX10_isBelow 2 (some .boolean) :: ([])
def wsX10_finding : List Cond := .code yX10_finding cX10_finding 2 (some .int) :: ([.fieldLink RX10 322 "PortRooms" "latestFinding" "I", .constant RX10 325 (-1000010)] ++ wsX100)
def wsX10_passed : List Cond := .code yX10_passed cX10_passed 2 (some .int) :: ([.fieldLink RX10 322 "PortRooms" "latestFinding" "I"] ++ wsX100)
def wsX10_sheet_r1 : List Cond := [Cond.constant RX10 89 (-1000001), Cond.fieldLink RX10 10 "PortRooms" "sheets" "LPortRooms$Sheets;", Cond.methodLink RX10 85 yX10_isBelow, Cond.static yX10_isBelow, Cond.initialized RX10, Cond.code yX10_isBelow cX10_isBelow 2 (some .boolean), Cond.methodLink RX10 90 yX10_finding, Cond.instanceMethod yX10_finding, Cond.selects RX10 yX10_finding yX10_finding, Cond.code yX10_finding cX10_finding 2 (some .int), Cond.fieldLink RX10 322 "PortRooms" "latestFinding" "I", Cond.constant RX10 325 (-1000010), Cond.methodLink RX10 94 yX9_lay, Cond.instanceMethod yX9_lay, Cond.selects RX9 yX9_lay yX9_lay, Cond.initialized RX9, Cond.code yX9_lay cX9_lay 4 none, Cond.fieldLink RX9 11 "PortRooms$Sheets" "items" "[[I", Cond.fieldLink RX9 16 "PortRooms$Sheets" "lane" "[I", Cond.fieldLink RX9 20 "PortRooms$Sheets" "size" "[I", Cond.methodLink RX9 23 yJ7_fill_53178, Cond.static yJ7_fill_53178, Cond.initialized RJ7, Cond.code yJ7_fill_53178 cJ7_fill_53178 4 none]
def wsX10_sheet_r2 : List Cond := [Cond.methodLink RX10 98 yX10_passed, Cond.instanceMethod yX10_passed, Cond.selects RX10 yX10_passed yX10_passed, Cond.code yX10_passed cX10_passed 2 (some .int)]
def wsX10_sheet : List Cond := .code yX10_sheet cX10_sheet 4 (some .int) :: ((wsX10_sheet_r1 ++ wsX10_sheet_r2) ++ wsX100 ++ wsX90)
def wsX10_set_r1 : List Cond := [Cond.constant RX10 89 (-1000001), Cond.fieldLink RX10 10 "PortRooms" "sheets" "LPortRooms$Sheets;", Cond.methodLink RX10 85 yX10_isBelow, Cond.static yX10_isBelow, Cond.initialized RX10, Cond.code yX10_isBelow cX10_isBelow 2 (some .boolean), Cond.methodLink RX10 101 yX9_isMissing, Cond.instanceMethod yX9_isMissing, Cond.selects RX9 yX9_isMissing yX9_isMissing, Cond.initialized RX9, Cond.code yX9_isMissing cX9_isMissing 2 (some .boolean), Cond.fieldLink RX9 20 "PortRooms$Sheets" "size" "[I", Cond.methodLink RX10 90 yX10_finding, Cond.instanceMethod yX10_finding, Cond.selects RX10 yX10_finding yX10_finding, Cond.code yX10_finding cX10_finding 2 (some .int), Cond.fieldLink RX10 322 "PortRooms" "latestFinding" "I", Cond.constant RX10 325 (-1000010), Cond.methodLink RX10 105 yX9_hasPlaces, Cond.instanceMethod yX9_hasPlaces, Cond.selects RX9 yX9_hasPlaces yX9_hasPlaces, Cond.code yX9_hasPlaces cX9_hasPlaces 4 (some .boolean), Cond.methodLink RX10 109 yX9_put, Cond.instanceMethod yX9_put]
def wsX10_set_r2 : List Cond := [Cond.selects RX9 yX9_put yX9_put, Cond.code yX9_put cX9_put 5 (some .int), Cond.fieldLink RX9 16 "PortRooms$Sheets" "lane" "[I", Cond.fieldLink RX9 11 "PortRooms$Sheets" "items" "[[I", Cond.methodLink RX10 98 yX10_passed, Cond.instanceMethod yX10_passed, Cond.selects RX10 yX10_passed yX10_passed, Cond.code yX10_passed cX10_passed 2 (some .int)]
def wsX10_set : List Cond := .code yX10_set cX10_set 4 (some .int) :: ((wsX10_set_r1 ++ wsX10_set_r2) ++ wsX100 ++ wsX90)
def wsX10_copy_r1 : List Cond := [Cond.constant RX10 89 (-1000001), Cond.fieldLink RX10 10 "PortRooms" "sheets" "LPortRooms$Sheets;", Cond.fieldLink RX10 113 "PortRooms$Sheets" "lane" "[I", Cond.fieldLink RX10 116 "PortRooms$Sheets" "items" "[[I", Cond.methodLink RX10 120 arraycopyName, Cond.native arraycopyName, Cond.static arraycopyName, Cond.initialized "java/lang/System", Cond.methodLink RX10 85 yX10_isBelow, Cond.static yX10_isBelow, Cond.initialized RX10, Cond.code yX10_isBelow cX10_isBelow 2 (some .boolean), Cond.methodLink RX10 101 yX9_isMissing, Cond.instanceMethod yX9_isMissing, Cond.selects RX9 yX9_isMissing yX9_isMissing, Cond.initialized RX9, Cond.code yX9_isMissing cX9_isMissing 2 (some .boolean), Cond.fieldLink RX9 20 "PortRooms$Sheets" "size" "[I", Cond.methodLink RX10 90 yX10_finding, Cond.instanceMethod yX10_finding, Cond.selects RX10 yX10_finding yX10_finding, Cond.code yX10_finding cX10_finding 2 (some .int), Cond.fieldLink RX10 322 "PortRooms" "latestFinding" "I", Cond.constant RX10 325 (-1000010)]
def wsX10_copy_r2 : List Cond := [Cond.methodLink RX10 105 yX9_hasPlaces, Cond.instanceMethod yX9_hasPlaces, Cond.selects RX9 yX9_hasPlaces yX9_hasPlaces, Cond.code yX9_hasPlaces cX9_hasPlaces 4 (some .boolean), Cond.methodLink RX10 98 yX10_passed, Cond.instanceMethod yX10_passed, Cond.selects RX10 yX10_passed yX10_passed, Cond.code yX10_passed cX10_passed 2 (some .int)]
def wsX10_copy : List Cond := .code yX10_copy cX10_copy 6 (some .int) :: ((wsX10_copy_r1 ++ wsX10_copy_r2) ++ wsX100 ++ wsX90)
def wsX10_drop_r1 : List Cond := [Cond.constant RX10 89 (-1000001), Cond.fieldLink RX10 10 "PortRooms" "sheets" "LPortRooms$Sheets;", Cond.fieldLink RX10 126 "PortRooms$Sheets" "size" "[I", Cond.methodLink RX10 85 yX10_isBelow, Cond.static yX10_isBelow, Cond.initialized RX10, Cond.code yX10_isBelow cX10_isBelow 2 (some .boolean), Cond.methodLink RX10 101 yX9_isMissing, Cond.instanceMethod yX9_isMissing, Cond.selects RX9 yX9_isMissing yX9_isMissing, Cond.initialized RX9, Cond.code yX9_isMissing cX9_isMissing 2 (some .boolean), Cond.fieldLink RX9 20 "PortRooms$Sheets" "size" "[I", Cond.methodLink RX10 90 yX10_finding, Cond.instanceMethod yX10_finding, Cond.selects RX10 yX10_finding yX10_finding, Cond.code yX10_finding cX10_finding 2 (some .int), Cond.fieldLink RX10 322 "PortRooms" "latestFinding" "I", Cond.constant RX10 325 (-1000010), Cond.methodLink RX10 129 yX9_takeAway, Cond.instanceMethod yX9_takeAway, Cond.selects RX9 yX9_takeAway yX9_takeAway, Cond.code yX9_takeAway cX9_takeAway 2 none, Cond.methodLink RX10 98 yX10_passed]
def wsX10_drop_r2 : List Cond := [Cond.instanceMethod yX10_passed, Cond.selects RX10 yX10_passed yX10_passed, Cond.code yX10_passed cX10_passed 2 (some .int)]
def wsX10_drop : List Cond := .code yX10_drop cX10_drop 3 (some .int) :: ((wsX10_drop_r1 ++ wsX10_drop_r2) ++ wsX100 ++ wsX90)
def wsX10_isOwner : List Cond := .code yX10_isOwner cX10_isOwner 1 (some .boolean) :: ([.methodLink RX10 85 yX10_isBelow, .static yX10_isBelow, .initialized RX10, .code yX10_isBelow cX10_isBelow 2 (some .boolean)])
def wsX10_isPerson : List Cond := .code yX10_isPerson cX10_isPerson 1 (some .boolean) :: ([.methodLink RX10 85 yX10_isBelow, .static yX10_isBelow, .initialized RX10, .code yX10_isBelow cX10_isBelow 2 (some .boolean)])
def wsX10_isPair : List Cond := .code yX10_isPair cX10_isPair 2 (some .boolean) :: ([.methodLink RX10 163 yX10_isOwner, .static yX10_isOwner, .initialized RX10, .code yX10_isOwner cX10_isOwner 1 (some .boolean), .methodLink RX10 85 yX10_isBelow, .static yX10_isBelow, .code yX10_isBelow cX10_isBelow 2 (some .boolean), .methodLink RX10 160 yX10_isPerson, .static yX10_isPerson, .code yX10_isPerson cX10_isPerson 1 (some .boolean)])
def wsX10_isFrom : List Cond := .code yX10_isFrom cX10_isFrom 3 (some .boolean) :: ([])
def wsX10_isDay : List Cond := .code yX10_isDay cX10_isDay 1 (some .boolean) :: ([.methodLink RX10 85 yX10_isBelow, .static yX10_isBelow, .initialized RX10, .code yX10_isBelow cX10_isBelow 2 (some .boolean)])
def wsX10_hold_r1 : List Cond := [Cond.constant RX10 89 (-1000001), Cond.fieldLink RX10 19 "PortRooms" "holdings" "LPortRooms$Holdings;", Cond.fieldLink RX10 141 "PortRooms$Holdings" "count" "I", Cond.constant RX10 145 (-1000003), Cond.methodLink RX10 132 yX10_isPair, Cond.static yX10_isPair, Cond.initialized RX10, Cond.code yX10_isPair cX10_isPair 2 (some .boolean), Cond.methodLink RX10 163 yX10_isOwner, Cond.static yX10_isOwner, Cond.code yX10_isOwner cX10_isOwner 1 (some .boolean), Cond.methodLink RX10 85 yX10_isBelow, Cond.static yX10_isBelow, Cond.code yX10_isBelow cX10_isBelow 2 (some .boolean), Cond.methodLink RX10 160 yX10_isPerson, Cond.static yX10_isPerson, Cond.code yX10_isPerson cX10_isPerson 1 (some .boolean), Cond.methodLink RX10 135 yX10_isFrom, Cond.static yX10_isFrom, Cond.code yX10_isFrom cX10_isFrom 3 (some .boolean), Cond.methodLink RX10 138 yX10_isDay, Cond.static yX10_isDay, Cond.code yX10_isDay cX10_isDay 1 (some .boolean), Cond.methodLink RX10 146 yX3_tell]
def wsX10_hold_r2 : List Cond := [Cond.instanceMethod yX3_tell, Cond.selects RX3 yX3_tell yX3_tell, Cond.initialized RX3, Cond.code yX3_tell cX3_tell 5 (some .int), Cond.fieldLink RX3 9 "PortRooms$Holdings" "owner" "[I", Cond.fieldLink RX3 36 "PortRooms$Holdings" "count" "I", Cond.fieldLink RX3 15 "PortRooms$Holdings" "company" "[I", Cond.fieldLink RX3 18 "PortRooms$Holdings" "percentage" "[I", Cond.fieldLink RX3 21 "PortRooms$Holdings" "since" "[I"]
def wsX10_hold : List Cond := .code yX10_hold cX10_hold 5 (some .int) :: ((wsX10_hold_r1 ++ wsX10_hold_r2) ++ wsX100 ++ wsX30)
def wsX10_holds_r1 : List Cond := [Cond.constant RX10 89 (-1000001), Cond.fieldLink RX10 10 "PortRooms" "sheets" "LPortRooms$Sheets;", Cond.fieldLink RX10 116 "PortRooms$Sheets" "items" "[[I", Cond.methodLink RX10 85 yX10_isBelow, Cond.static yX10_isBelow, Cond.initialized RX10, Cond.code yX10_isBelow cX10_isBelow 2 (some .boolean), Cond.methodLink RX10 135 yX10_isFrom, Cond.static yX10_isFrom, Cond.code yX10_isFrom cX10_isFrom 3 (some .boolean), Cond.methodLink RX10 101 yX9_isMissing, Cond.instanceMethod yX9_isMissing, Cond.selects RX9 yX9_isMissing yX9_isMissing, Cond.initialized RX9, Cond.code yX9_isMissing cX9_isMissing 2 (some .boolean), Cond.fieldLink RX9 20 "PortRooms$Sheets" "size" "[I", Cond.methodLink RX10 90 yX10_finding, Cond.instanceMethod yX10_finding, Cond.selects RX10 yX10_finding yX10_finding, Cond.code yX10_finding cX10_finding 2 (some .int), Cond.fieldLink RX10 322 "PortRooms" "latestFinding" "I", Cond.constant RX10 325 (-1000010), Cond.methodLink RX10 105 yX9_hasPlaces, Cond.instanceMethod yX9_hasPlaces]
def wsX10_holds_r2 : List Cond := [Cond.selects RX9 yX9_hasPlaces yX9_hasPlaces, Cond.code yX9_hasPlaces cX9_hasPlaces 4 (some .boolean), Cond.methodLink RX10 150 yX10_hold, Cond.instanceMethod yX10_hold, Cond.selects RX10 yX10_hold yX10_hold, Cond.code yX10_hold cX10_hold 5 (some .int), Cond.fieldLink RX10 19 "PortRooms" "holdings" "LPortRooms$Holdings;", Cond.fieldLink RX10 141 "PortRooms$Holdings" "count" "I", Cond.constant RX10 145 (-1000003), Cond.methodLink RX10 132 yX10_isPair, Cond.static yX10_isPair, Cond.code yX10_isPair cX10_isPair 2 (some .boolean), Cond.methodLink RX10 163 yX10_isOwner, Cond.static yX10_isOwner, Cond.code yX10_isOwner cX10_isOwner 1 (some .boolean), Cond.methodLink RX10 160 yX10_isPerson, Cond.static yX10_isPerson, Cond.code yX10_isPerson cX10_isPerson 1 (some .boolean), Cond.methodLink RX10 138 yX10_isDay, Cond.static yX10_isDay, Cond.code yX10_isDay cX10_isDay 1 (some .boolean), Cond.methodLink RX10 146 yX3_tell, Cond.instanceMethod yX3_tell, Cond.selects RX3 yX3_tell yX3_tell]
def wsX10_holds_r3 : List Cond := [Cond.initialized RX3, Cond.code yX3_tell cX3_tell 5 (some .int), Cond.fieldLink RX3 9 "PortRooms$Holdings" "owner" "[I", Cond.fieldLink RX3 36 "PortRooms$Holdings" "count" "I", Cond.fieldLink RX3 15 "PortRooms$Holdings" "company" "[I", Cond.fieldLink RX3 18 "PortRooms$Holdings" "percentage" "[I", Cond.fieldLink RX3 21 "PortRooms$Holdings" "since" "[I", Cond.methodLink RX10 98 yX10_passed, Cond.instanceMethod yX10_passed, Cond.selects RX10 yX10_passed yX10_passed, Cond.code yX10_passed cX10_passed 2 (some .int)]
def wsX10_holds : List Cond := .code yX10_holds cX10_holds 8 (some .int) :: ((wsX10_holds_r1 ++ (wsX10_holds_r2 ++ wsX10_holds_r3)) ++ wsX100 ++ wsX90 ++ wsX30)
def wsX10_percent_r1 : List Cond := [Cond.constant RX10 89 (-1000001), Cond.fieldLink RX10 19 "PortRooms" "holdings" "LPortRooms$Holdings;", Cond.methodLink RX10 132 yX10_isPair, Cond.static yX10_isPair, Cond.initialized RX10, Cond.code yX10_isPair cX10_isPair 2 (some .boolean), Cond.methodLink RX10 163 yX10_isOwner, Cond.static yX10_isOwner, Cond.code yX10_isOwner cX10_isOwner 1 (some .boolean), Cond.methodLink RX10 85 yX10_isBelow, Cond.static yX10_isBelow, Cond.code yX10_isBelow cX10_isBelow 2 (some .boolean), Cond.methodLink RX10 160 yX10_isPerson, Cond.static yX10_isPerson, Cond.code yX10_isPerson cX10_isPerson 1 (some .boolean), Cond.methodLink RX10 138 yX10_isDay, Cond.static yX10_isDay, Cond.code yX10_isDay cX10_isDay 1 (some .boolean), Cond.methodLink RX10 153 yX3_lookAt, Cond.instanceMethod yX3_lookAt, Cond.selects RX3 yX3_lookAt yX3_lookAt, Cond.initialized RX3, Cond.code yX3_lookAt cX3_lookAt 4 none, Cond.fieldLink RX3 24 "PortRooms$Holdings" "part" "[I"]
def wsX10_percent_r2 : List Cond := [Cond.fieldLink RX3 27 "PortRooms$Holdings" "partSince" "[I", Cond.fieldLink RX3 36 "PortRooms$Holdings" "count" "I", Cond.fieldLink RX3 9 "PortRooms$Holdings" "owner" "[I", Cond.fieldLink RX3 15 "PortRooms$Holdings" "company" "[I", Cond.fieldLink RX3 21 "PortRooms$Holdings" "since" "[I", Cond.fieldLink RX3 18 "PortRooms$Holdings" "percentage" "[I", Cond.methodLink RX3 40 yJ7_fill_53178, Cond.static yJ7_fill_53178, Cond.initialized RJ7, Cond.code yJ7_fill_53178 cJ7_fill_53178 4 none, Cond.methodLink RX3 46 yX3_place, Cond.static yX3_place, Cond.code yX3_place cX3_place 2 (some .int), Cond.methodLink RX3 50 yX3_gatherWhoHas, Cond.instanceMethod yX3_gatherWhoHas, Cond.selects RX3 yX3_gatherWhoHas yX3_gatherWhoHas, Cond.code yX3_gatherWhoHas cX3_gatherWhoHas 2 none, Cond.fieldLink RX3 30 "PortRooms$Holdings" "has" "[I", Cond.methodLink RX3 53 yX3_closeReach, Cond.instanceMethod yX3_closeReach, Cond.selects RX3 yX3_closeReach yX3_closeReach, Cond.code yX3_closeReach cX3_closeReach 3 none, Cond.fieldLink RX3 33 "PortRooms$Holdings" "reach" "[I", Cond.methodLink RX3 56 arraycopyName]
def wsX10_percent_r3 : List Cond := [Cond.native arraycopyName, Cond.static arraycopyName, Cond.initialized "java/lang/System", Cond.static yX10_hasBit, Cond.code yX10_hasBit cX10_hasBit 2 (some .boolean), Cond.methodLink RX10 156 yX3_partOf, Cond.instanceMethod yX3_partOf, Cond.selects RX3 yX3_partOf yX3_partOf, Cond.code yX3_partOf cX3_partOf 3 (some .int)]
def wsX10_percent : List Cond := .code yX10_percent cX10_percent 4 (some .int) :: ((wsX10_percent_r1 ++ (wsX10_percent_r2 ++ wsX10_percent_r3)) ++ wsX100 ++ wsX30)
def wsX10_share_r1 : List Cond := [Cond.constant RX10 89 (-1000001), Cond.fieldLink RX10 19 "PortRooms" "holdings" "LPortRooms$Holdings;", Cond.methodLink RX10 160 yX10_isPerson, Cond.static yX10_isPerson, Cond.initialized RX10, Cond.code yX10_isPerson cX10_isPerson 1 (some .boolean), Cond.methodLink RX10 85 yX10_isBelow, Cond.static yX10_isBelow, Cond.code yX10_isBelow cX10_isBelow 2 (some .boolean), Cond.methodLink RX10 163 yX10_isOwner, Cond.static yX10_isOwner, Cond.code yX10_isOwner cX10_isOwner 1 (some .boolean), Cond.methodLink RX10 138 yX10_isDay, Cond.static yX10_isDay, Cond.code yX10_isDay cX10_isDay 1 (some .boolean), Cond.methodLink RX10 153 yX3_lookAt, Cond.instanceMethod yX3_lookAt, Cond.selects RX3 yX3_lookAt yX3_lookAt, Cond.initialized RX3, Cond.code yX3_lookAt cX3_lookAt 4 none, Cond.fieldLink RX3 24 "PortRooms$Holdings" "part" "[I", Cond.fieldLink RX3 27 "PortRooms$Holdings" "partSince" "[I", Cond.fieldLink RX3 36 "PortRooms$Holdings" "count" "I", Cond.fieldLink RX3 9 "PortRooms$Holdings" "owner" "[I"]
def wsX10_share_r2 : List Cond := [Cond.fieldLink RX3 15 "PortRooms$Holdings" "company" "[I", Cond.fieldLink RX3 21 "PortRooms$Holdings" "since" "[I", Cond.fieldLink RX3 18 "PortRooms$Holdings" "percentage" "[I", Cond.methodLink RX3 40 yJ7_fill_53178, Cond.static yJ7_fill_53178, Cond.initialized RJ7, Cond.code yJ7_fill_53178 cJ7_fill_53178 4 none, Cond.methodLink RX3 46 yX3_place, Cond.static yX3_place, Cond.code yX3_place cX3_place 2 (some .int), Cond.methodLink RX3 50 yX3_gatherWhoHas, Cond.instanceMethod yX3_gatherWhoHas, Cond.selects RX3 yX3_gatherWhoHas yX3_gatherWhoHas, Cond.code yX3_gatherWhoHas cX3_gatherWhoHas 2 none, Cond.fieldLink RX3 30 "PortRooms$Holdings" "has" "[I", Cond.methodLink RX3 53 yX3_closeReach, Cond.instanceMethod yX3_closeReach, Cond.selects RX3 yX3_closeReach yX3_closeReach, Cond.code yX3_closeReach cX3_closeReach 3 none, Cond.fieldLink RX3 33 "PortRooms$Holdings" "reach" "[I", Cond.methodLink RX3 56 arraycopyName, Cond.native arraycopyName, Cond.static arraycopyName, Cond.initialized "java/lang/System"]
def wsX10_share_r3 : List Cond := [Cond.static yX10_hasBit, Cond.code yX10_hasBit cX10_hasBit 2 (some .boolean), Cond.methodLink RX10 166 yX3_shareOf, Cond.instanceMethod yX3_shareOf, Cond.selects RX3 yX3_shareOf yX3_shareOf, Cond.code yX3_shareOf cX3_shareOf 6 (some .int), Cond.constant RX3 66 (1000000), Cond.constantLong RX3 75 (2000000000), Cond.methodLink RX3 77 Lib.MathLoose.min_long.x, Cond.static Lib.MathLoose.min_long.x, Cond.initialized "java/lang/Math", Cond.code Lib.MathLoose.min_long.x Lib.MathLoose.min_long.code 4 (some .long), Cond.methodLink RX3 67 yX3_leadingTo, Cond.instanceMethod yX3_leadingTo, Cond.selects RX3 yX3_leadingTo yX3_leadingTo, Cond.code yX3_leadingTo cX3_leadingTo 4 (some .int), Cond.methodLink RX3 71 yX3_along, Cond.static yX3_along, Cond.code yX3_along cX3_along 11 (some .long), Cond.methodLink RX3 83 yX3_partOf, Cond.instanceMethod yX3_partOf, Cond.selects RX3 yX3_partOf yX3_partOf, Cond.code yX3_partOf cX3_partOf 3 (some .int)]
def wsX10_share : List Cond := .code yX10_share cX10_share 4 (some .int) :: ((wsX10_share_r1 ++ (wsX10_share_r2 ++ wsX10_share_r3)) ++ wsX100 ++ wsX30)
def wsX10_truly_r1 : List Cond := [Cond.constant RX10 89 (-1000001), Cond.fieldLink RX10 19 "PortRooms" "holdings" "LPortRooms$Holdings;", Cond.constant RX10 169 (-1000000), Cond.methodLink RX10 163 yX10_isOwner, Cond.static yX10_isOwner, Cond.initialized RX10, Cond.code yX10_isOwner cX10_isOwner 1 (some .boolean), Cond.methodLink RX10 85 yX10_isBelow, Cond.static yX10_isBelow, Cond.code yX10_isBelow cX10_isBelow 2 (some .boolean), Cond.methodLink RX10 138 yX10_isDay, Cond.static yX10_isDay, Cond.code yX10_isDay cX10_isDay 1 (some .boolean), Cond.methodLink RX10 153 yX3_lookAt, Cond.instanceMethod yX3_lookAt, Cond.selects RX3 yX3_lookAt yX3_lookAt, Cond.initialized RX3, Cond.code yX3_lookAt cX3_lookAt 4 none, Cond.fieldLink RX3 24 "PortRooms$Holdings" "part" "[I", Cond.fieldLink RX3 27 "PortRooms$Holdings" "partSince" "[I", Cond.fieldLink RX3 36 "PortRooms$Holdings" "count" "I", Cond.fieldLink RX3 9 "PortRooms$Holdings" "owner" "[I", Cond.fieldLink RX3 15 "PortRooms$Holdings" "company" "[I", Cond.fieldLink RX3 21 "PortRooms$Holdings" "since" "[I"]
def wsX10_truly_r2 : List Cond := [Cond.fieldLink RX3 18 "PortRooms$Holdings" "percentage" "[I", Cond.methodLink RX3 40 yJ7_fill_53178, Cond.static yJ7_fill_53178, Cond.initialized RJ7, Cond.code yJ7_fill_53178 cJ7_fill_53178 4 none, Cond.methodLink RX3 46 yX3_place, Cond.static yX3_place, Cond.code yX3_place cX3_place 2 (some .int), Cond.methodLink RX3 50 yX3_gatherWhoHas, Cond.instanceMethod yX3_gatherWhoHas, Cond.selects RX3 yX3_gatherWhoHas yX3_gatherWhoHas, Cond.code yX3_gatherWhoHas cX3_gatherWhoHas 2 none, Cond.fieldLink RX3 30 "PortRooms$Holdings" "has" "[I", Cond.methodLink RX3 53 yX3_closeReach, Cond.instanceMethod yX3_closeReach, Cond.selects RX3 yX3_closeReach yX3_closeReach, Cond.code yX3_closeReach cX3_closeReach 3 none, Cond.fieldLink RX3 33 "PortRooms$Holdings" "reach" "[I", Cond.methodLink RX3 56 arraycopyName, Cond.native arraycopyName, Cond.static arraycopyName, Cond.initialized "java/lang/System", Cond.static yX10_hasBit, Cond.code yX10_hasBit cX10_hasBit 2 (some .boolean)]
def wsX10_truly_r3 : List Cond := [Cond.methodLink RX10 166 yX3_shareOf, Cond.instanceMethod yX3_shareOf, Cond.selects RX3 yX3_shareOf yX3_shareOf, Cond.code yX3_shareOf cX3_shareOf 6 (some .int), Cond.constant RX3 66 (1000000), Cond.constantLong RX3 75 (2000000000), Cond.methodLink RX3 77 Lib.MathLoose.min_long.x, Cond.static Lib.MathLoose.min_long.x, Cond.initialized "java/lang/Math", Cond.code Lib.MathLoose.min_long.x Lib.MathLoose.min_long.code 4 (some .long), Cond.methodLink RX3 67 yX3_leadingTo, Cond.instanceMethod yX3_leadingTo, Cond.selects RX3 yX3_leadingTo yX3_leadingTo, Cond.code yX3_leadingTo cX3_leadingTo 4 (some .int), Cond.methodLink RX3 71 yX3_along, Cond.static yX3_along, Cond.code yX3_along cX3_along 11 (some .long), Cond.methodLink RX3 83 yX3_partOf, Cond.instanceMethod yX3_partOf, Cond.selects RX3 yX3_partOf yX3_partOf, Cond.code yX3_partOf cX3_partOf 3 (some .int)]
def wsX10_truly : List Cond := .code yX10_truly cX10_truly 7 (some .int) :: ((wsX10_truly_r1 ++ (wsX10_truly_r2 ++ wsX10_truly_r3)) ++ wsX100 ++ wsX30)
def wsX10_rings_r1 : List Cond := [Cond.constant RX10 89 (-1000001), Cond.fieldLink RX10 19 "PortRooms" "holdings" "LPortRooms$Holdings;", Cond.fieldLink RX10 170 "PortRooms$Holdings" "reach" "[I", Cond.methodLink RX10 138 yX10_isDay, Cond.static yX10_isDay, Cond.initialized RX10, Cond.code yX10_isDay cX10_isDay 1 (some .boolean), Cond.methodLink RX10 85 yX10_isBelow, Cond.static yX10_isBelow, Cond.code yX10_isBelow cX10_isBelow 2 (some .boolean), Cond.methodLink RX10 153 yX3_lookAt, Cond.instanceMethod yX3_lookAt, Cond.selects RX3 yX3_lookAt yX3_lookAt, Cond.initialized RX3, Cond.code yX3_lookAt cX3_lookAt 4 none, Cond.fieldLink RX3 24 "PortRooms$Holdings" "part" "[I", Cond.fieldLink RX3 27 "PortRooms$Holdings" "partSince" "[I", Cond.fieldLink RX3 36 "PortRooms$Holdings" "count" "I", Cond.fieldLink RX3 9 "PortRooms$Holdings" "owner" "[I", Cond.fieldLink RX3 15 "PortRooms$Holdings" "company" "[I", Cond.fieldLink RX3 21 "PortRooms$Holdings" "since" "[I", Cond.fieldLink RX3 18 "PortRooms$Holdings" "percentage" "[I", Cond.methodLink RX3 40 yJ7_fill_53178, Cond.static yJ7_fill_53178]
def wsX10_rings_r2 : List Cond := [Cond.initialized RJ7, Cond.code yJ7_fill_53178 cJ7_fill_53178 4 none, Cond.methodLink RX3 46 yX3_place, Cond.static yX3_place, Cond.code yX3_place cX3_place 2 (some .int), Cond.methodLink RX3 50 yX3_gatherWhoHas, Cond.instanceMethod yX3_gatherWhoHas, Cond.selects RX3 yX3_gatherWhoHas yX3_gatherWhoHas, Cond.code yX3_gatherWhoHas cX3_gatherWhoHas 2 none, Cond.fieldLink RX3 30 "PortRooms$Holdings" "has" "[I", Cond.methodLink RX3 53 yX3_closeReach, Cond.instanceMethod yX3_closeReach, Cond.selects RX3 yX3_closeReach yX3_closeReach, Cond.code yX3_closeReach cX3_closeReach 3 none, Cond.fieldLink RX3 33 "PortRooms$Holdings" "reach" "[I", Cond.methodLink RX3 56 arraycopyName, Cond.native arraycopyName, Cond.static arraycopyName, Cond.initialized "java/lang/System", Cond.static yX10_hasBit, Cond.code yX10_hasBit cX10_hasBit 2 (some .boolean), Cond.methodLink RX10 173 yX10_hasBit]
def wsX10_rings : List Cond := .code yX10_rings cX10_rings 4 (some .int) :: ((wsX10_rings_r1 ++ wsX10_rings_r2) ++ wsX100 ++ wsX30)
def wsX10_crate : List Cond := .code yX10_crate cX10_crate 3 (some .int) :: ([.constant RX10 176 (100000), .constant RX10 89 (-1000001), .fieldLink RX10 26 "PortRooms" "crates" "LPortRooms$Crates;", .fieldLink RX10 177 "PortRooms$Crates" "count" "I", .constant RX10 145 (-1000003), .methodLink RX10 163 yX10_isOwner, .static yX10_isOwner, .initialized RX10, .code yX10_isOwner cX10_isOwner 1 (some .boolean), .methodLink RX10 85 yX10_isBelow, .static yX10_isBelow, .code yX10_isBelow cX10_isBelow 2 (some .boolean), .methodLink RX10 135 yX10_isFrom, .static yX10_isFrom, .code yX10_isFrom cX10_isFrom 3 (some .boolean), .methodLink RX10 178 yX1_tell, .instanceMethod yX1_tell, .selects RX1 yX1_tell yX1_tell, .initialized RX1, .code yX1_tell cX1_tell 3 (some .int), .fieldLink RX1 9 "PortRooms$Crates" "firstOwner" "[I", .fieldLink RX1 35 "PortRooms$Crates" "count" "I", .fieldLink RX1 15 "PortRooms$Crates" "worth" "[I"] ++ wsX100 ++ wsX10)
def wsX10_isCrate : List Cond := .code yX10_isCrate cX10_isCrate 2 (some .boolean) :: ([.fieldLink RX10 26 "PortRooms" "crates" "LPortRooms$Crates;", .fieldLink RX10 177 "PortRooms$Crates" "count" "I", .methodLink RX10 85 yX10_isBelow, .static yX10_isBelow, .initialized RX10, .code yX10_isBelow cX10_isBelow 2 (some .boolean)] ++ wsX100 ++ wsX10)
def wsX10_areDays : List Cond := .code yX10_areDays cX10_areDays 2 (some .boolean) :: ([.methodLink RX10 138 yX10_isDay, .static yX10_isDay, .initialized RX10, .code yX10_isDay cX10_isDay 1 (some .boolean), .methodLink RX10 85 yX10_isBelow, .static yX10_isBelow, .code yX10_isBelow cX10_isBelow 2 (some .boolean)])
def wsX10_paper_r1 : List Cond := [Cond.constant RX10 89 (-1000001), Cond.fieldLink RX10 33 "PortRooms" "papers" "LPortRooms$Papers;", Cond.fieldLink RX10 186 "PortRooms$Papers" "count" "I", Cond.constant RX10 145 (-1000003), Cond.methodLink RX10 180 yX10_isCrate, Cond.instanceMethod yX10_isCrate, Cond.selects RX10 yX10_isCrate yX10_isCrate, Cond.initialized RX10, Cond.code yX10_isCrate cX10_isCrate 2 (some .boolean), Cond.fieldLink RX10 26 "PortRooms" "crates" "LPortRooms$Crates;", Cond.fieldLink RX10 177 "PortRooms$Crates" "count" "I", Cond.methodLink RX10 85 yX10_isBelow, Cond.static yX10_isBelow, Cond.code yX10_isBelow cX10_isBelow 2 (some .boolean), Cond.methodLink RX10 163 yX10_isOwner, Cond.static yX10_isOwner, Cond.code yX10_isOwner cX10_isOwner 1 (some .boolean), Cond.methodLink RX10 183 yX10_areDays, Cond.static yX10_areDays, Cond.code yX10_areDays cX10_areDays 2 (some .boolean), Cond.methodLink RX10 138 yX10_isDay, Cond.static yX10_isDay, Cond.code yX10_isDay cX10_isDay 1 (some .boolean), Cond.methodLink RX10 187 yX7_tell]
def wsX10_paper_r2 : List Cond := [Cond.instanceMethod yX7_tell, Cond.selects RX7 yX7_tell yX7_tell, Cond.initialized RX7, Cond.code yX7_tell cX7_tell 7 (some .int), Cond.fieldLink RX7 9 "PortRooms$Papers" "crate" "[I", Cond.fieldLink RX7 30 "PortRooms$Papers" "count" "I", Cond.fieldLink RX7 15 "PortRooms$Papers" "from" "[I", Cond.fieldLink RX7 18 "PortRooms$Papers" "to" "[I", Cond.fieldLink RX7 21 "PortRooms$Papers" "said" "[I", Cond.fieldLink RX7 24 "PortRooms$Papers" "filed" "[I", Cond.fieldLink RX7 27 "PortRooms$Papers" "order" "[I", Cond.methodLink RX7 34 yX7_isAhead, Cond.instanceMethod yX7_isAhead, Cond.selects RX7 yX7_isAhead yX7_isAhead, Cond.code yX7_isAhead cX7_isAhead 3 (some .boolean)]
def wsX10_paper : List Cond := .code yX10_paper cX10_paper 6 (some .int) :: ((wsX10_paper_r1 ++ wsX10_paper_r2) ++ wsX100 ++ wsX70 ++ wsX10)
def wsX10_owner_r1 : List Cond := [Cond.constant RX10 89 (-1000001), Cond.fieldLink RX10 33 "PortRooms" "papers" "LPortRooms$Papers;", Cond.fieldLink RX10 26 "PortRooms" "crates" "LPortRooms$Crates;", Cond.fieldLink RX10 190 "PortRooms$Crates" "firstOwner" "[I", Cond.methodLink RX10 180 yX10_isCrate, Cond.instanceMethod yX10_isCrate, Cond.selects RX10 yX10_isCrate yX10_isCrate, Cond.initialized RX10, Cond.code yX10_isCrate cX10_isCrate 2 (some .boolean), Cond.fieldLink RX10 177 "PortRooms$Crates" "count" "I", Cond.methodLink RX10 85 yX10_isBelow, Cond.static yX10_isBelow, Cond.code yX10_isBelow cX10_isBelow 2 (some .boolean), Cond.methodLink RX10 138 yX10_isDay, Cond.static yX10_isDay, Cond.code yX10_isDay cX10_isDay 1 (some .boolean), Cond.methodLink RX10 193 yX7_ownerOf, Cond.instanceMethod yX7_ownerOf, Cond.selects RX7 yX7_ownerOf yX7_ownerOf, Cond.initialized RX7, Cond.code yX7_ownerOf cX7_ownerOf 8 (some .int), Cond.fieldLink RX7 30 "PortRooms$Papers" "count" "I", Cond.fieldLink RX7 27 "PortRooms$Papers" "order" "[I", Cond.fieldLink RX7 21 "PortRooms$Papers" "said" "[I"]
def wsX10_owner_r2 : List Cond := [Cond.fieldLink RX7 15 "PortRooms$Papers" "from" "[I", Cond.fieldLink RX7 18 "PortRooms$Papers" "to" "[I", Cond.methodLink RX7 38 yX7_isKnown, Cond.instanceMethod yX7_isKnown, Cond.selects RX7 yX7_isKnown yX7_isKnown, Cond.code yX7_isKnown cX7_isKnown 4 (some .boolean), Cond.fieldLink RX7 9 "PortRooms$Papers" "crate" "[I", Cond.fieldLink RX7 24 "PortRooms$Papers" "filed" "[I"]
def wsX10_owner : List Cond := .code yX10_owner cX10_owner 4 (some .int) :: ((wsX10_owner_r1 ++ wsX10_owner_r2) ++ wsX100 ++ wsX10 ++ wsX70)
def wsX10_quarrels_r1 : List Cond := [Cond.constant RX10 89 (-1000001), Cond.fieldLink RX10 33 "PortRooms" "papers" "LPortRooms$Papers;", Cond.fieldLink RX10 26 "PortRooms" "crates" "LPortRooms$Crates;", Cond.fieldLink RX10 190 "PortRooms$Crates" "firstOwner" "[I", Cond.methodLink RX10 180 yX10_isCrate, Cond.instanceMethod yX10_isCrate, Cond.selects RX10 yX10_isCrate yX10_isCrate, Cond.initialized RX10, Cond.code yX10_isCrate cX10_isCrate 2 (some .boolean), Cond.fieldLink RX10 177 "PortRooms$Crates" "count" "I", Cond.methodLink RX10 85 yX10_isBelow, Cond.static yX10_isBelow, Cond.code yX10_isBelow cX10_isBelow 2 (some .boolean), Cond.methodLink RX10 138 yX10_isDay, Cond.static yX10_isDay, Cond.code yX10_isDay cX10_isDay 1 (some .boolean), Cond.methodLink RX10 196 yX7_notGood, Cond.instanceMethod yX7_notGood, Cond.selects RX7 yX7_notGood yX7_notGood, Cond.initialized RX7, Cond.code yX7_notGood cX7_notGood 8 (some .int), Cond.fieldLink RX7 30 "PortRooms$Papers" "count" "I", Cond.fieldLink RX7 27 "PortRooms$Papers" "order" "[I", Cond.fieldLink RX7 15 "PortRooms$Papers" "from" "[I"]
def wsX10_quarrels_r2 : List Cond := [Cond.fieldLink RX7 18 "PortRooms$Papers" "to" "[I", Cond.methodLink RX7 38 yX7_isKnown, Cond.instanceMethod yX7_isKnown, Cond.selects RX7 yX7_isKnown yX7_isKnown, Cond.code yX7_isKnown cX7_isKnown 4 (some .boolean), Cond.fieldLink RX7 9 "PortRooms$Papers" "crate" "[I", Cond.fieldLink RX7 24 "PortRooms$Papers" "filed" "[I"]
def wsX10_quarrels : List Cond := .code yX10_quarrels cX10_quarrels 3 (some .int) :: ((wsX10_quarrels_r1 ++ wsX10_quarrels_r2) ++ wsX100 ++ wsX10 ++ wsX70)
def wsX10_pledge_r1 : List Cond := [Cond.constant RX10 176 (100000), Cond.constant RX10 89 (-1000001), Cond.fieldLink RX10 40 "PortRooms" "pledges" "LPortRooms$Pledges;", Cond.fieldLink RX10 199 "PortRooms$Pledges" "count" "I", Cond.constant RX10 145 (-1000003), Cond.methodLink RX10 180 yX10_isCrate, Cond.instanceMethod yX10_isCrate, Cond.selects RX10 yX10_isCrate yX10_isCrate, Cond.initialized RX10, Cond.code yX10_isCrate cX10_isCrate 2 (some .boolean), Cond.fieldLink RX10 26 "PortRooms" "crates" "LPortRooms$Crates;", Cond.fieldLink RX10 177 "PortRooms$Crates" "count" "I", Cond.methodLink RX10 85 yX10_isBelow, Cond.static yX10_isBelow, Cond.code yX10_isBelow cX10_isBelow 2 (some .boolean), Cond.methodLink RX10 160 yX10_isPerson, Cond.static yX10_isPerson, Cond.code yX10_isPerson cX10_isPerson 1 (some .boolean), Cond.methodLink RX10 135 yX10_isFrom, Cond.static yX10_isFrom, Cond.code yX10_isFrom cX10_isFrom 3 (some .boolean), Cond.methodLink RX10 183 yX10_areDays, Cond.static yX10_areDays, Cond.code yX10_areDays cX10_areDays 2 (some .boolean)]
def wsX10_pledge_r2 : List Cond := [Cond.methodLink RX10 138 yX10_isDay, Cond.static yX10_isDay, Cond.code yX10_isDay cX10_isDay 1 (some .boolean), Cond.methodLink RX10 200 yX8_tell, Cond.instanceMethod yX8_tell, Cond.selects RX8 yX8_tell yX8_tell, Cond.initialized RX8, Cond.code yX8_tell cX8_tell 5 (some .int), Cond.fieldLink RX8 9 "PortRooms$Pledges" "crate" "[I", Cond.fieldLink RX8 27 "PortRooms$Pledges" "count" "I", Cond.fieldLink RX8 15 "PortRooms$Pledges" "sum" "[I", Cond.fieldLink RX8 18 "PortRooms$Pledges" "said" "[I", Cond.fieldLink RX8 21 "PortRooms$Pledges" "filed" "[I"]
def wsX10_pledge : List Cond := .code yX10_pledge cX10_pledge 6 (some .int) :: ((wsX10_pledge_r1 ++ wsX10_pledge_r2) ++ wsX100 ++ wsX80 ++ wsX10)
def wsX10_rank_r1 : List Cond := [Cond.constant RX10 89 (-1000001), Cond.fieldLink RX10 40 "PortRooms" "pledges" "LPortRooms$Pledges;", Cond.constant RX10 169 (-1000000), Cond.fieldLink RX10 204 "PortRooms$Pledges" "order" "[I", Cond.fieldLink RX10 26 "PortRooms" "crates" "LPortRooms$Crates;", Cond.fieldLink RX10 207 "PortRooms$Crates" "worth" "[I", Cond.methodLink RX10 180 yX10_isCrate, Cond.instanceMethod yX10_isCrate, Cond.selects RX10 yX10_isCrate yX10_isCrate, Cond.initialized RX10, Cond.code yX10_isCrate cX10_isCrate 2 (some .boolean), Cond.fieldLink RX10 177 "PortRooms$Crates" "count" "I", Cond.methodLink RX10 85 yX10_isBelow, Cond.static yX10_isBelow, Cond.code yX10_isBelow cX10_isBelow 2 (some .boolean), Cond.methodLink RX10 138 yX10_isDay, Cond.static yX10_isDay, Cond.code yX10_isDay cX10_isDay 1 (some .boolean), Cond.methodLink RX10 201 yX8_putInOrder, Cond.instanceMethod yX8_putInOrder, Cond.selects RX8 yX8_putInOrder yX8_putInOrder, Cond.initialized RX8, Cond.code yX8_putInOrder cX8_putInOrder 6 (some .int), Cond.fieldLink RX8 27 "PortRooms$Pledges" "count" "I"]
def wsX10_rank_r2 : List Cond := [Cond.methodLink RX8 31 yX8_isKnown, Cond.instanceMethod yX8_isKnown, Cond.selects RX8 yX8_isKnown yX8_isKnown, Cond.code yX8_isKnown cX8_isKnown 4 (some .boolean), Cond.fieldLink RX8 9 "PortRooms$Pledges" "crate" "[I", Cond.fieldLink RX8 21 "PortRooms$Pledges" "filed" "[I", Cond.methodLink RX8 35 yX8_putBehind, Cond.instanceMethod yX8_putBehind, Cond.selects RX8 yX8_putBehind yX8_putBehind, Cond.code yX8_putBehind cX8_putBehind 5 none, Cond.fieldLink RX8 24 "PortRooms$Pledges" "order" "[I", Cond.methodLink RX8 39 yX8_isAhead, Cond.instanceMethod yX8_isAhead, Cond.selects RX8 yX8_isAhead yX8_isAhead, Cond.code yX8_isAhead cX8_isAhead 4 (some .boolean), Cond.fieldLink RX8 18 "PortRooms$Pledges" "said" "[I", Cond.fieldLink RX8 15 "PortRooms$Pledges" "sum" "[I", Cond.methodLink RX10 210 yX8_paidTo, Cond.instanceMethod yX8_paidTo, Cond.selects RX8 yX8_paidTo yX8_paidTo, Cond.code yX8_paidTo cX8_paidTo 5 (some .int), Cond.methodLink RX8 42 Lib.Math.min.name, Cond.static Lib.Math.min.name, Cond.initialized "java/lang/Math"]
def wsX10_rank_r3 : List Cond := [Cond.code Lib.Math.min.name Lib.Math.min.code 2 (some .int)]
def wsX10_rank : List Cond := .code yX10_rank cX10_rank 7 (some .int) :: ((wsX10_rank_r1 ++ (wsX10_rank_r2 ++ wsX10_rank_r3)) ++ wsX100 ++ wsX80 ++ wsX10)
def wsX10_feed : List Cond := .code yX10_feed cX10_feed 5 (some .int) :: ([.constant RX10 89 (-1000001), .fieldLink RX10 47 "PortRooms" "duties" "LPortRooms$Duties;", .fieldLink RX10 213 "PortRooms$Duties" "length" "I", .constant RX10 145 (-1000003), .methodLink RX10 135 yX10_isFrom, .static yX10_isFrom, .initialized RX10, .code yX10_isFrom cX10_isFrom 3 (some .boolean), .methodLink RX10 216 yX2_take, .instanceMethod yX2_take, .selects RX2 yX2_take yX2_take, .initialized RX2, .code yX2_take cX2_take 2 none, .fieldLink RX2 34 "PortRooms$Duties" "length" "I", .fieldLink RX2 11 "PortRooms$Duties" "tape" "[B"] ++ wsX100 ++ wsX20)
def wsX10_duties_r1 : List Cond := [Cond.fieldLink RX10 47 "PortRooms" "duties" "LPortRooms$Duties;", Cond.methodLink RX10 220 yX2_read, Cond.instanceMethod yX2_read, Cond.selects RX2 yX2_read yX2_read, Cond.initialized RX2, Cond.code yX2_read cX2_read 3 (some .int), Cond.fieldLink RX2 38 "PortRooms$Duties" "end" "I", Cond.fieldLink RX2 41 "PortRooms$Duties" "drafted" "I", Cond.fieldLink RX2 47 "PortRooms$Duties" "token" "I", Cond.fieldLink RX2 34 "PortRooms$Duties" "length" "I", Cond.fieldLink RX2 57 "PortRooms$Duties" "latestFault" "I", Cond.constant RX2 60 (-1000100), Cond.fieldLink RX2 61 "PortRooms$Duties" "start" "I", Cond.fieldLink RX2 67 "PortRooms$Duties" "lines" "I", Cond.methodLink RX2 44 yX2_next, Cond.instanceMethod yX2_next, Cond.selects RX2 yX2_next yX2_next, Cond.code yX2_next cX2_next 1 none, Cond.fieldLink RX2 11 "PortRooms$Duties" "tape" "[B", Cond.methodLink RX2 79 yX2_isLetter, Cond.static yX2_isLetter, Cond.code yX2_isLetter cX2_isLetter 1 (some .boolean), Cond.methodLink RX2 83 yX2_readName, Cond.instanceMethod yX2_readName]
def wsX10_duties_r2 : List Cond := [Cond.selects RX2 yX2_readName yX2_readName, Cond.code yX2_readName cX2_readName 2 none, Cond.methodLink RX2 92 yX2_isWord, Cond.instanceMethod yX2_isWord, Cond.selects RX2 yX2_isWord yX2_isWord, Cond.code yX2_isWord cX2_isWord 4 (some .boolean), Cond.methodLink RX2 97 yJ0_charAt_5068e, Cond.instanceMethod yJ0_charAt_5068e, Cond.selects RJ0 yJ0_charAt_5068e yJ0_charAt_5068e, Cond.initialized RJ0, Cond.code yJ0_charAt_5068e cJ0_charAt_5068e 2 (some .char), Cond.fieldLink RJ0 9 "java/lang/String" "value" "[B", Cond.methodLink RJ0 492 yJ0_isLatin1_aae02, Cond.instanceMethod yJ0_isLatin1_aae02, Cond.selects RJ0 yJ0_isLatin1_aae02 yJ0_isLatin1_aae02, Cond.code yJ0_isLatin1_aae02 cJ0_isLatin1_aae02 1 (some .boolean), Cond.fieldLink RJ0 38 "java/lang/String" "COMPACT_STRINGS" "Z", Cond.fieldLink RJ0 15 "java/lang/String" "coder" "B", Cond.methodLink RJ0 495 yJ1_charAt_3b067, Cond.static yJ1_charAt_3b067, Cond.initialized RJ1, Cond.code yJ1_charAt_3b067 cJ1_charAt_3b067 2 (some .char), Cond.methodLink RJ1 9 yJ0_checkIndex_df160, Cond.static yJ0_checkIndex_df160]
def wsX10_duties_r3 : List Cond := [Cond.code yJ0_checkIndex_df160 cJ0_checkIndex_df160 2 none, Cond.fieldLink RJ0 1053 "jdk/internal/util/Preconditions" "SIOOBE_FORMATTER" "Ljava/util/function/BiFunction;", Cond.methodLink RJ0 1059 yJ3_checkIndex_8e157, Cond.static yJ3_checkIndex_8e157, Cond.initialized RJ3, Cond.code yJ3_checkIndex_8e157 cJ3_checkIndex_8e157 3 (some .int), Cond.methodLink RJ0 498 yJ2_charAt_3b067, Cond.static yJ2_charAt_3b067, Cond.initialized RJ2, Cond.code yJ2_charAt_3b067 cJ2_charAt_3b067 2 (some .char), Cond.methodLink RJ2 67 yJ2_checkIndex_2214a, Cond.static yJ2_checkIndex_2214a, Cond.code yJ2_checkIndex_2214a cJ2_checkIndex_2214a 2 none, Cond.methodLink RJ2 48 yJ2_length_9d52b, Cond.static yJ2_length_9d52b, Cond.code yJ2_length_9d52b cJ2_length_9d52b 1 (some .int), Cond.methodLink RJ2 414 yJ0_checkIndex_df160, Cond.methodLink RJ2 71 yJ2_getChar_3b067, Cond.static yJ2_getChar_3b067, Cond.code yJ2_getChar_3b067 cJ2_getChar_3b067 2 (some .char), Cond.fieldLink RJ2 44 "java/lang/StringUTF16" "$assertionsDisabled" "Z", Cond.fieldLink RJ2 59 "java/lang/StringUTF16" "HI_BYTE_SHIFT" "I", Cond.fieldLink RJ2 63 "java/lang/StringUTF16" "LO_BYTE_SHIFT" "I", Cond.methodLink RX2 86 yX2_isFigure]
def wsX10_duties_r4 : List Cond := [Cond.static yX2_isFigure, Cond.code yX2_isFigure cX2_isFigure 1 (some .boolean), Cond.methodLink RX2 89 yX2_readNumber, Cond.instanceMethod yX2_readNumber, Cond.selects RX2 yX2_readNumber yX2_readNumber, Cond.code yX2_readNumber cX2_readNumber 1 none, Cond.fieldLink RX2 76 "PortRooms$Duties" "number" "I", Cond.methodLink RX2 50 yX2_readAct, Cond.instanceMethod yX2_readAct, Cond.selects RX2 yX2_readAct yX2_readAct, Cond.code yX2_readAct cX2_readAct 1 (some .int), Cond.fieldLink RX2 25 "PortRooms$Duties" "draftWhat" "[I", Cond.fieldLink RX2 28 "PortRooms$Duties" "draftDays" "[I", Cond.methodLink RX2 54 yX2_readPart, Cond.instanceMethod yX2_readPart, Cond.selects RX2 yX2_readPart yX2_readPart, Cond.code yX2_readPart cX2_readPart 1 (some .int), Cond.fieldLink RX2 31 "PortRooms$Duties" "draftPart" "[I", Cond.methodLink RX2 64 yX2_keepDraft, Cond.instanceMethod yX2_keepDraft, Cond.selects RX2 yX2_keepDraft yX2_keepDraft, Cond.code yX2_keepDraft cX2_keepDraft 1 none, Cond.fieldLink RX2 15 "PortRooms$Duties" "what" "[I", Cond.methodLink RX2 70 arraycopyName]
def wsX10_duties_r5 : List Cond := [Cond.native arraycopyName, Cond.static arraycopyName, Cond.initialized "java/lang/System", Cond.fieldLink RX2 19 "PortRooms$Duties" "days" "[I", Cond.fieldLink RX2 22 "PortRooms$Duties" "part" "[I"]
def wsX10_duties : List Cond := .code yX10_duties cX10_duties 1 (some .int) :: ((wsX10_duties_r1 ++ (wsX10_duties_r2 ++ (wsX10_duties_r3 ++ (wsX10_duties_r4 ++ wsX10_duties_r5)))) ++ wsX100 ++ wsX20)
def wsX10_fault : List Cond := .code yX10_fault cX10_fault 1 (some .int) :: ([.fieldLink RX10 47 "PortRooms" "duties" "LPortRooms$Duties;", .fieldLink RX10 224 "PortRooms$Duties" "latestFault" "I"] ++ wsX100 ++ wsX20)
def wsX10_act_r1 : List Cond := [Cond.constant RX10 89 (-1000001), Cond.fieldLink RX10 54 "PortRooms" "acts" "LPortRooms$Acts;", Cond.fieldLink RX10 227 "PortRooms$Acts" "count" "I", Cond.constant RX10 145 (-1000003), Cond.methodLink RX10 180 yX10_isCrate, Cond.instanceMethod yX10_isCrate, Cond.selects RX10 yX10_isCrate yX10_isCrate, Cond.initialized RX10, Cond.code yX10_isCrate cX10_isCrate 2 (some .boolean), Cond.fieldLink RX10 26 "PortRooms" "crates" "LPortRooms$Crates;", Cond.fieldLink RX10 177 "PortRooms$Crates" "count" "I", Cond.methodLink RX10 85 yX10_isBelow, Cond.static yX10_isBelow, Cond.code yX10_isBelow cX10_isBelow 2 (some .boolean), Cond.methodLink RX10 138 yX10_isDay, Cond.static yX10_isDay, Cond.code yX10_isDay cX10_isDay 1 (some .boolean), Cond.methodLink RX10 135 yX10_isFrom, Cond.static yX10_isFrom, Cond.code yX10_isFrom cX10_isFrom 3 (some .boolean), Cond.methodLink RX10 228 yX0_tell, Cond.instanceMethod yX0_tell, Cond.selects RX0 yX0_tell yX0_tell, Cond.initialized RX0]
def wsX10_act_r2 : List Cond := [Cond.code yX0_tell cX0_tell 5 (some .int), Cond.fieldLink RX0 9 "PortRooms$Acts" "crate" "[I", Cond.fieldLink RX0 24 "PortRooms$Acts" "count" "I", Cond.fieldLink RX0 15 "PortRooms$Acts" "what" "[I", Cond.fieldLink RX0 18 "PortRooms$Acts" "day" "[I", Cond.fieldLink RX0 21 "PortRooms$Acts" "days" "[I"]
def wsX10_act : List Cond := .code yX10_act cX10_act 5 (some .int) :: ((wsX10_act_r1 ++ wsX10_act_r2) ++ wsX100 ++ wsX00 ++ wsX10)
def wsX10_duty_r1 : List Cond := [Cond.constant RX10 89 (-1000001), Cond.fieldLink RX10 54 "PortRooms" "acts" "LPortRooms$Acts;", Cond.fieldLink RX10 47 "PortRooms" "duties" "LPortRooms$Duties;", Cond.fieldLink RX10 233 "PortRooms$Acts" "what" "[I", Cond.fieldLink RX10 236 "PortRooms$Acts" "days" "[I", Cond.constant RX10 169 (-1000000), Cond.fieldLink RX10 26 "PortRooms" "crates" "LPortRooms$Crates;", Cond.fieldLink RX10 207 "PortRooms$Crates" "worth" "[I", Cond.fieldLink RX10 242 "PortRooms$Duties" "part" "[I", Cond.fieldLink RX10 245 "PortRooms$Acts" "day" "[I", Cond.methodLink RX10 180 yX10_isCrate, Cond.instanceMethod yX10_isCrate, Cond.selects RX10 yX10_isCrate yX10_isCrate, Cond.initialized RX10, Cond.code yX10_isCrate cX10_isCrate 2 (some .boolean), Cond.fieldLink RX10 177 "PortRooms$Crates" "count" "I", Cond.methodLink RX10 85 yX10_isBelow, Cond.static yX10_isBelow, Cond.code yX10_isBelow cX10_isBelow 2 (some .boolean), Cond.methodLink RX10 229 yX0_firstWaking, Cond.instanceMethod yX0_firstWaking, Cond.selects RX0 yX0_firstWaking yX0_firstWaking, Cond.initialized RX0, Cond.code yX0_firstWaking cX0_firstWaking 6 (some .int)]
def wsX10_duty_r2 : List Cond := [Cond.fieldLink RX0 24 "PortRooms$Acts" "count" "I", Cond.fieldLink RX0 18 "PortRooms$Acts" "day" "[I", Cond.fieldLink RX0 9 "PortRooms$Acts" "crate" "[I", Cond.fieldLink RX0 15 "PortRooms$Acts" "what" "[I", Cond.fieldLink RX0 21 "PortRooms$Acts" "days" "[I", Cond.methodLink RX0 28 yX2_lineFor, Cond.instanceMethod yX2_lineFor, Cond.selects RX2 yX2_lineFor yX2_lineFor, Cond.initialized RX2, Cond.code yX2_lineFor cX2_lineFor 4 (some .int), Cond.fieldLink RX2 67 "PortRooms$Duties" "lines" "I", Cond.fieldLink RX2 15 "PortRooms$Duties" "what" "[I", Cond.fieldLink RX2 19 "PortRooms$Duties" "days" "[I", Cond.methodLink RX10 239 yX2_lineFor]
def wsX10_duty : List Cond := .code yX10_duty cX10_duty 5 (some .int) :: ((wsX10_duty_r1 ++ wsX10_duty_r2) ++ wsX100 ++ wsX00 ++ wsX10 ++ wsX20)
def wsX10_room : List Cond := .code yX10_room cX10_room 6 (some .int) :: ([.constant RX10 248 (1000000), .constant RX10 89 (-1000001), .fieldLink RX10 26 "PortRooms" "crates" "LPortRooms$Crates;", .fieldLink RX10 249 "PortRooms$Crates" "air" "[I", .fieldLink RX10 252 "PortRooms$Crates" "insured" "[I", .methodLink RX10 85 yX10_isBelow, .static yX10_isBelow, .initialized RX10, .code yX10_isBelow cX10_isBelow 2 (some .boolean), .methodLink RX10 135 yX10_isFrom, .static yX10_isFrom, .code yX10_isFrom cX10_isFrom 3 (some .boolean)] ++ wsX100 ++ wsX10)
def wsX10_move_r1 : List Cond := [Cond.constant RX10 169 (-1000000), Cond.constant RX10 89 (-1000001), Cond.fieldLink RX10 26 "PortRooms" "crates" "LPortRooms$Crates;", Cond.fieldLink RX10 255 "PortRooms$Crates" "room" "[I", Cond.constant RX10 258 (-1000002), Cond.constant RX10 145 (-1000003), Cond.methodLink RX10 180 yX10_isCrate, Cond.instanceMethod yX10_isCrate, Cond.selects RX10 yX10_isCrate yX10_isCrate, Cond.initialized RX10, Cond.code yX10_isCrate cX10_isCrate 2 (some .boolean), Cond.fieldLink RX10 177 "PortRooms$Crates" "count" "I", Cond.methodLink RX10 85 yX10_isBelow, Cond.static yX10_isBelow, Cond.code yX10_isBelow cX10_isBelow 2 (some .boolean), Cond.methodLink RX10 259 yX1_fits, Cond.instanceMethod yX1_fits, Cond.selects RX1 yX1_fits yX1_fits, Cond.initialized RX1, Cond.code yX1_fits cX1_fits 4 (some .boolean), Cond.fieldLink RX1 21 "PortRooms$Crates" "air" "[I", Cond.fieldLink RX1 15 "PortRooms$Crates" "worth" "[I", Cond.fieldLink RX1 24 "PortRooms$Crates" "insured" "[I", Cond.methodLink RX1 39 yX1_setIn]
def wsX10_move_r2 : List Cond := [Cond.instanceMethod yX1_setIn, Cond.selects RX1 yX1_setIn yX1_setIn, Cond.code yX1_setIn cX1_setIn 4 (some .int), Cond.fieldLink RX1 35 "PortRooms$Crates" "count" "I", Cond.fieldLink RX1 18 "PortRooms$Crates" "room" "[I", Cond.methodLink RX1 47 yJ6_bitCount_0f7a4, Cond.static yJ6_bitCount_0f7a4, Cond.initialized RJ6, Cond.code yJ6_bitCount_0f7a4 cJ6_bitCount_0f7a4 1 (some .int), Cond.constant RJ6 265 (1431655765), Cond.constant RJ6 266 (858993459), Cond.constant RJ6 267 (252645135), Cond.methodLink RX1 52 yX1_worthsOf, Cond.instanceMethod yX1_worthsOf, Cond.selects RX1 yX1_worthsOf yX1_worthsOf, Cond.code yX1_worthsOf cX1_worthsOf 4 (some .int), Cond.static yX10_hasBit, Cond.code yX10_hasBit cX10_hasBit 2 (some .boolean)]
def wsX10_move : List Cond := .code yX10_move cX10_move 4 (some .int) :: ((wsX10_move_r1 ++ wsX10_move_r2) ++ wsX100 ++ wsX10)
def wsX10_inside_r1 : List Cond := [Cond.constant RX10 89 (-1000001), Cond.fieldLink RX10 26 "PortRooms" "crates" "LPortRooms$Crates;", Cond.methodLink RX10 85 yX10_isBelow, Cond.static yX10_isBelow, Cond.initialized RX10, Cond.code yX10_isBelow cX10_isBelow 2 (some .boolean), Cond.methodLink RX10 262 yX1_setIn, Cond.instanceMethod yX1_setIn, Cond.selects RX1 yX1_setIn yX1_setIn, Cond.initialized RX1, Cond.code yX1_setIn cX1_setIn 4 (some .int), Cond.fieldLink RX1 35 "PortRooms$Crates" "count" "I", Cond.fieldLink RX1 18 "PortRooms$Crates" "room" "[I", Cond.methodLink RX10 265 yJ6_bitCount_0f7a4, Cond.static yJ6_bitCount_0f7a4, Cond.initialized RJ6, Cond.code yJ6_bitCount_0f7a4 cJ6_bitCount_0f7a4 1 (some .int), Cond.constant RJ6 265 (1431655765), Cond.constant RJ6 266 (858993459), Cond.constant RJ6 267 (252645135), Cond.methodLink RX10 270 yX1_worthsOf, Cond.instanceMethod yX1_worthsOf, Cond.selects RX1 yX1_worthsOf yX1_worthsOf, Cond.code yX1_worthsOf cX1_worthsOf 4 (some .int)]
def wsX10_inside_r2 : List Cond := [Cond.fieldLink RX1 15 "PortRooms$Crates" "worth" "[I", Cond.static yX10_hasBit, Cond.code yX10_hasBit cX10_hasBit 2 (some .boolean)]
def wsX10_inside : List Cond := .code yX10_inside cX10_inside 4 (some .int) :: ((wsX10_inside_r1 ++ wsX10_inside_r2) ++ wsX100 ++ wsX10)
def wsX10_lot : List Cond := .code yX10_lot cX10_lot 4 (some .int) :: ([.constant RX10 248 (1000000), .constant RX10 89 (-1000001), .fieldLink RX10 81 "PortRooms" "looks" "LPortRooms$Looks;", .methodLink RX10 85 yX10_isBelow, .static yX10_isBelow, .initialized RX10, .code yX10_isBelow cX10_isBelow 2 (some .boolean), .methodLink RX10 138 yX10_isDay, .static yX10_isDay, .code yX10_isDay cX10_isDay 1 (some .boolean), .methodLink RX10 135 yX10_isFrom, .static yX10_isFrom, .code yX10_isFrom cX10_isFrom 3 (some .boolean), .methodLink RX10 273 yX5_lotOf, .instanceMethod yX5_lotOf, .selects RX5 yX5_lotOf yX5_lotOf, .initialized RX5, .code yX5_lotOf cX5_lotOf 5 (some .long), .fieldLink RX5 15 "PortRooms$Looks" "seed" "I", .constantLong RX5 19 (1000003), .constantLong RX5 21 (8191), .constantLong RX5 23 (-7046029254386353131), .constantLong RX5 25 (-4658895280553007687), .constantLong RX5 27 (9223372036854775807)] ++ wsX100 ++ wsX50)
def wsX10_drawn_r1 : List Cond := [Cond.constant RX10 89 (-1000001), Cond.fieldLink RX10 26 "PortRooms" "crates" "LPortRooms$Crates;", Cond.fieldLink RX10 81 "PortRooms" "looks" "LPortRooms$Looks;", Cond.methodLink RX10 138 yX10_isDay, Cond.static yX10_isDay, Cond.initialized RX10, Cond.code yX10_isDay cX10_isDay 1 (some .boolean), Cond.methodLink RX10 85 yX10_isBelow, Cond.static yX10_isBelow, Cond.code yX10_isBelow cX10_isBelow 2 (some .boolean), Cond.methodLink RX10 135 yX10_isFrom, Cond.static yX10_isFrom, Cond.code yX10_isFrom cX10_isFrom 3 (some .boolean), Cond.methodLink RX10 277 yX1_setInRooms, Cond.instanceMethod yX1_setInRooms, Cond.selects RX1 yX1_setInRooms yX1_setInRooms, Cond.initialized RX1, Cond.code yX1_setInRooms cX1_setInRooms 2 (some .int), Cond.fieldLink RX1 35 "PortRooms$Crates" "count" "I", Cond.constant RX1 27 (-1000000), Cond.methodLink RX1 39 yX1_setIn, Cond.instanceMethod yX1_setIn, Cond.selects RX1 yX1_setIn yX1_setIn, Cond.code yX1_setIn cX1_setIn 4 (some .int)]
def wsX10_drawn_r2 : List Cond := [Cond.fieldLink RX1 18 "PortRooms$Crates" "room" "[I", Cond.methodLink RX10 280 yX5_drawLots, Cond.instanceMethod yX5_drawLots, Cond.selects RX5 yX5_drawLots yX5_drawLots, Cond.initialized RX5, Cond.code yX5_drawLots cX5_drawLots 4 none, Cond.fieldLink RX5 9 "PortRooms$Looks" "lots" "[J", Cond.static yX10_hasBit, Cond.code yX10_hasBit cX10_hasBit 2 (some .boolean), Cond.methodLink RX5 33 yX5_lotOf, Cond.instanceMethod yX5_lotOf, Cond.selects RX5 yX5_lotOf yX5_lotOf, Cond.code yX5_lotOf cX5_lotOf 5 (some .long), Cond.fieldLink RX5 15 "PortRooms$Looks" "seed" "I", Cond.constantLong RX5 19 (1000003), Cond.constantLong RX5 21 (8191), Cond.constantLong RX5 23 (-7046029254386353131), Cond.constantLong RX5 25 (-4658895280553007687), Cond.constantLong RX5 27 (9223372036854775807), Cond.methodLink RX10 173 yX10_hasBit, Cond.methodLink RX10 284 yX5_howManyAhead, Cond.instanceMethod yX5_howManyAhead, Cond.selects RX5 yX5_howManyAhead yX5_howManyAhead, Cond.code yX5_howManyAhead cX5_howManyAhead 5 (some .int)]
def wsX10_drawn : List Cond := .code yX10_drawn cX10_drawn 6 (some .int) :: ((wsX10_drawn_r1 ++ wsX10_drawn_r2) ++ wsX100 ++ wsX10 ++ wsX50)
def wsX10_often_r1 : List Cond := [Cond.constant RX10 89 (-1000001), Cond.fieldLink RX10 26 "PortRooms" "crates" "LPortRooms$Crates;", Cond.fieldLink RX10 81 "PortRooms" "looks" "LPortRooms$Looks;", Cond.methodLink RX10 180 yX10_isCrate, Cond.instanceMethod yX10_isCrate, Cond.selects RX10 yX10_isCrate yX10_isCrate, Cond.initialized RX10, Cond.code yX10_isCrate cX10_isCrate 2 (some .boolean), Cond.fieldLink RX10 177 "PortRooms$Crates" "count" "I", Cond.methodLink RX10 85 yX10_isBelow, Cond.static yX10_isBelow, Cond.code yX10_isBelow cX10_isBelow 2 (some .boolean), Cond.methodLink RX10 183 yX10_areDays, Cond.static yX10_areDays, Cond.code yX10_areDays cX10_areDays 2 (some .boolean), Cond.methodLink RX10 138 yX10_isDay, Cond.static yX10_isDay, Cond.code yX10_isDay cX10_isDay 1 (some .boolean), Cond.methodLink RX10 135 yX10_isFrom, Cond.static yX10_isFrom, Cond.code yX10_isFrom cX10_isFrom 3 (some .boolean), Cond.methodLink RX10 277 yX1_setInRooms, Cond.instanceMethod yX1_setInRooms, Cond.selects RX1 yX1_setInRooms yX1_setInRooms]
def wsX10_often_r2 : List Cond := [Cond.initialized RX1, Cond.code yX1_setInRooms cX1_setInRooms 2 (some .int), Cond.fieldLink RX1 35 "PortRooms$Crates" "count" "I", Cond.constant RX1 27 (-1000000), Cond.methodLink RX1 39 yX1_setIn, Cond.instanceMethod yX1_setIn, Cond.selects RX1 yX1_setIn yX1_setIn, Cond.code yX1_setIn cX1_setIn 4 (some .int), Cond.fieldLink RX1 18 "PortRooms$Crates" "room" "[I", Cond.methodLink RX10 173 yX10_hasBit, Cond.static yX10_hasBit, Cond.code yX10_hasBit cX10_hasBit 2 (some .boolean), Cond.methodLink RX10 280 yX5_drawLots, Cond.instanceMethod yX5_drawLots, Cond.selects RX5 yX5_drawLots yX5_drawLots, Cond.initialized RX5, Cond.code yX5_drawLots cX5_drawLots 4 none, Cond.fieldLink RX5 9 "PortRooms$Looks" "lots" "[J", Cond.methodLink RX5 33 yX5_lotOf, Cond.instanceMethod yX5_lotOf, Cond.selects RX5 yX5_lotOf yX5_lotOf, Cond.code yX5_lotOf cX5_lotOf 5 (some .long), Cond.fieldLink RX5 15 "PortRooms$Looks" "seed" "I", Cond.constantLong RX5 19 (1000003)]
def wsX10_often_r3 : List Cond := [Cond.constantLong RX5 21 (8191), Cond.constantLong RX5 23 (-7046029254386353131), Cond.constantLong RX5 25 (-4658895280553007687), Cond.constantLong RX5 27 (9223372036854775807), Cond.methodLink RX10 284 yX5_howManyAhead, Cond.instanceMethod yX5_howManyAhead, Cond.selects RX5 yX5_howManyAhead yX5_howManyAhead, Cond.code yX5_howManyAhead cX5_howManyAhead 5 (some .int)]
def wsX10_often : List Cond := .code yX10_often cX10_often 8 (some .int) :: ((wsX10_often_r1 ++ (wsX10_often_r2 ++ wsX10_often_r3)) ++ wsX100 ++ wsX10 ++ wsX50)
def wsX10_opened_r1 : List Cond := [Cond.constant RX10 176 (100000), Cond.constant RX10 89 (-1000001), Cond.fieldLink RX10 61 "PortRooms" "openings" "LPortRooms$Openings;", Cond.fieldLink RX10 287 "PortRooms$Openings" "count" "I", Cond.constant RX10 145 (-1000003), Cond.methodLink RX10 180 yX10_isCrate, Cond.instanceMethod yX10_isCrate, Cond.selects RX10 yX10_isCrate yX10_isCrate, Cond.initialized RX10, Cond.code yX10_isCrate cX10_isCrate 2 (some .boolean), Cond.fieldLink RX10 26 "PortRooms" "crates" "LPortRooms$Crates;", Cond.fieldLink RX10 177 "PortRooms$Crates" "count" "I", Cond.methodLink RX10 85 yX10_isBelow, Cond.static yX10_isBelow, Cond.code yX10_isBelow cX10_isBelow 2 (some .boolean), Cond.methodLink RX10 138 yX10_isDay, Cond.static yX10_isDay, Cond.code yX10_isDay cX10_isDay 1 (some .boolean), Cond.methodLink RX10 135 yX10_isFrom, Cond.static yX10_isFrom, Cond.code yX10_isFrom cX10_isFrom 3 (some .boolean), Cond.methodLink RX10 288 yX6_tell, Cond.instanceMethod yX6_tell, Cond.selects RX6 yX6_tell yX6_tell]
def wsX10_opened_r2 : List Cond := [Cond.initialized RX6, Cond.code yX6_tell cX6_tell 5 (some .int), Cond.fieldLink RX6 9 "PortRooms$Openings" "crate" "[I", Cond.fieldLink RX6 24 "PortRooms$Openings" "count" "I", Cond.fieldLink RX6 15 "PortRooms$Openings" "day" "[I", Cond.fieldLink RX6 18 "PortRooms$Openings" "weight" "[I", Cond.fieldLink RX6 21 "PortRooms$Openings" "marks" "[I"]
def wsX10_opened : List Cond := .code yX10_opened cX10_opened 5 (some .int) :: ((wsX10_opened_r1 ++ wsX10_opened_r2) ++ wsX100 ++ wsX60 ++ wsX10)
def wsX10_verdict_r1 : List Cond := [Cond.constant RX10 89 (-1000001), Cond.fieldLink RX10 61 "PortRooms" "openings" "LPortRooms$Openings;", Cond.methodLink RX10 180 yX10_isCrate, Cond.instanceMethod yX10_isCrate, Cond.selects RX10 yX10_isCrate yX10_isCrate, Cond.initialized RX10, Cond.code yX10_isCrate cX10_isCrate 2 (some .boolean), Cond.fieldLink RX10 26 "PortRooms" "crates" "LPortRooms$Crates;", Cond.fieldLink RX10 177 "PortRooms$Crates" "count" "I", Cond.methodLink RX10 85 yX10_isBelow, Cond.static yX10_isBelow, Cond.code yX10_isBelow cX10_isBelow 2 (some .boolean), Cond.methodLink RX10 289 yX6_worstOf, Cond.instanceMethod yX6_worstOf, Cond.selects RX6 yX6_worstOf yX6_worstOf, Cond.initialized RX6, Cond.code yX6_worstOf cX6_worstOf 5 (some .int), Cond.fieldLink RX6 24 "PortRooms$Openings" "count" "I", Cond.fieldLink RX6 9 "PortRooms$Openings" "crate" "[I", Cond.methodLink RX6 36 Lib.Math.max.name, Cond.static Lib.Math.max.name, Cond.initialized "java/lang/Math", Cond.code Lib.Math.max.name Lib.Math.max.code 2 (some .int), Cond.methodLink RX6 28 yX6_firstOf]
def wsX10_verdict_r2 : List Cond := [Cond.instanceMethod yX6_firstOf, Cond.selects RX6 yX6_firstOf yX6_firstOf, Cond.code yX6_firstOf cX6_firstOf 4 (some .int), Cond.fieldLink RX6 15 "PortRooms$Openings" "day" "[I", Cond.methodLink RX6 32 yX6_compared, Cond.instanceMethod yX6_compared, Cond.selects RX6 yX6_compared yX6_compared, Cond.code yX6_compared cX6_compared 5 (some .int), Cond.fieldLink RX6 18 "PortRooms$Openings" "weight" "[I", Cond.methodLink RX6 41 Lib.Math.abs.name, Cond.static Lib.Math.abs.name, Cond.code Lib.Math.abs.name Lib.Math.abs.code 1 (some .int), Cond.fieldLink RX6 21 "PortRooms$Openings" "marks" "[I", Cond.methodLink RX6 44 yJ6_bitCount_0f7a4, Cond.static yJ6_bitCount_0f7a4, Cond.initialized RJ6, Cond.code yJ6_bitCount_0f7a4 cJ6_bitCount_0f7a4 1 (some .int), Cond.constant RJ6 265 (1431655765), Cond.constant RJ6 266 (858993459), Cond.constant RJ6 267 (252645135)]
def wsX10_verdict : List Cond := .code yX10_verdict cX10_verdict 2 (some .int) :: ((wsX10_verdict_r1 ++ wsX10_verdict_r2) ++ wsX100 ++ wsX10 ++ wsX60)
def wsX10_list_r1 : List Cond := [Cond.constant RX10 89 (-1000001), Cond.fieldLink RX10 68 "PortRooms" "lists" "LPortRooms$Lists;", Cond.fieldLink RX10 292 "PortRooms$Lists" "count" "I", Cond.constant RX10 145 (-1000003), Cond.methodLink RX10 160 yX10_isPerson, Cond.static yX10_isPerson, Cond.initialized RX10, Cond.code yX10_isPerson cX10_isPerson 1 (some .boolean), Cond.methodLink RX10 85 yX10_isBelow, Cond.static yX10_isBelow, Cond.code yX10_isBelow cX10_isBelow 2 (some .boolean), Cond.methodLink RX10 183 yX10_areDays, Cond.static yX10_areDays, Cond.code yX10_areDays cX10_areDays 2 (some .boolean), Cond.methodLink RX10 138 yX10_isDay, Cond.static yX10_isDay, Cond.code yX10_isDay cX10_isDay 1 (some .boolean), Cond.methodLink RX10 293 yX4_tell, Cond.instanceMethod yX4_tell, Cond.selects RX4 yX4_tell yX4_tell, Cond.initialized RX4, Cond.code yX4_tell cX4_tell 4 (some .int), Cond.fieldLink RX4 9 "PortRooms$Lists" "person" "[I", Cond.fieldLink RX4 21 "PortRooms$Lists" "count" "I"]
def wsX10_list_r2 : List Cond := [Cond.fieldLink RX4 15 "PortRooms$Lists" "from" "[I", Cond.fieldLink RX4 18 "PortRooms$Lists" "to" "[I"]
def wsX10_list : List Cond := .code yX10_list cX10_list 4 (some .int) :: ((wsX10_list_r1 ++ wsX10_list_r2) ++ wsX100 ++ wsX40)
def wsX10_isBarred_r1 : List Cond := [Cond.fieldLink RX10 68 "PortRooms" "lists" "LPortRooms$Lists;", Cond.fieldLink RX10 33 "PortRooms" "papers" "LPortRooms$Papers;", Cond.fieldLink RX10 26 "PortRooms" "crates" "LPortRooms$Crates;", Cond.fieldLink RX10 190 "PortRooms$Crates" "firstOwner" "[I", Cond.fieldLink RX10 19 "PortRooms" "holdings" "LPortRooms$Holdings;", Cond.constantLong RX10 329 (500000), Cond.methodLink RX10 326 yX4_peopleOn, Cond.instanceMethod yX4_peopleOn, Cond.selects RX4 yX4_peopleOn yX4_peopleOn, Cond.initialized RX4, Cond.code yX4_peopleOn cX4_peopleOn 4 (some .int), Cond.fieldLink RX4 21 "PortRooms$Lists" "count" "I", Cond.fieldLink RX4 15 "PortRooms$Lists" "from" "[I", Cond.fieldLink RX4 18 "PortRooms$Lists" "to" "[I", Cond.fieldLink RX4 9 "PortRooms$Lists" "person" "[I", Cond.methodLink RX10 193 yX7_ownerOf, Cond.instanceMethod yX7_ownerOf, Cond.selects RX7 yX7_ownerOf yX7_ownerOf, Cond.initialized RX7, Cond.code yX7_ownerOf cX7_ownerOf 8 (some .int), Cond.fieldLink RX7 30 "PortRooms$Papers" "count" "I", Cond.fieldLink RX7 27 "PortRooms$Papers" "order" "[I", Cond.fieldLink RX7 21 "PortRooms$Papers" "said" "[I", Cond.fieldLink RX7 15 "PortRooms$Papers" "from" "[I"]
def wsX10_isBarred_r2 : List Cond := [Cond.fieldLink RX7 18 "PortRooms$Papers" "to" "[I", Cond.methodLink RX7 38 yX7_isKnown, Cond.instanceMethod yX7_isKnown, Cond.selects RX7 yX7_isKnown yX7_isKnown, Cond.code yX7_isKnown cX7_isKnown 4 (some .boolean), Cond.fieldLink RX7 9 "PortRooms$Papers" "crate" "[I", Cond.fieldLink RX7 24 "PortRooms$Papers" "filed" "[I", Cond.methodLink RX10 153 yX3_lookAt, Cond.instanceMethod yX3_lookAt, Cond.selects RX3 yX3_lookAt yX3_lookAt, Cond.initialized RX3, Cond.code yX3_lookAt cX3_lookAt 4 none, Cond.fieldLink RX3 24 "PortRooms$Holdings" "part" "[I", Cond.fieldLink RX3 27 "PortRooms$Holdings" "partSince" "[I", Cond.fieldLink RX3 36 "PortRooms$Holdings" "count" "I", Cond.fieldLink RX3 9 "PortRooms$Holdings" "owner" "[I", Cond.fieldLink RX3 15 "PortRooms$Holdings" "company" "[I", Cond.fieldLink RX3 21 "PortRooms$Holdings" "since" "[I", Cond.fieldLink RX3 18 "PortRooms$Holdings" "percentage" "[I", Cond.methodLink RX3 40 yJ7_fill_53178, Cond.static yJ7_fill_53178, Cond.initialized RJ7, Cond.code yJ7_fill_53178 cJ7_fill_53178 4 none, Cond.methodLink RX3 46 yX3_place]
def wsX10_isBarred_r3 : List Cond := [Cond.static yX3_place, Cond.code yX3_place cX3_place 2 (some .int), Cond.methodLink RX3 50 yX3_gatherWhoHas, Cond.instanceMethod yX3_gatherWhoHas, Cond.selects RX3 yX3_gatherWhoHas yX3_gatherWhoHas, Cond.code yX3_gatherWhoHas cX3_gatherWhoHas 2 none, Cond.fieldLink RX3 30 "PortRooms$Holdings" "has" "[I", Cond.methodLink RX3 53 yX3_closeReach, Cond.instanceMethod yX3_closeReach, Cond.selects RX3 yX3_closeReach yX3_closeReach, Cond.code yX3_closeReach cX3_closeReach 3 none, Cond.fieldLink RX3 33 "PortRooms$Holdings" "reach" "[I", Cond.methodLink RX3 56 arraycopyName, Cond.native arraycopyName, Cond.static arraycopyName, Cond.initialized "java/lang/System", Cond.static yX10_hasBit, Cond.initialized RX10, Cond.code yX10_hasBit cX10_hasBit 2 (some .boolean), Cond.methodLink RX10 173 yX10_hasBit, Cond.methodLink RX10 166 yX3_shareOf, Cond.instanceMethod yX3_shareOf, Cond.selects RX3 yX3_shareOf yX3_shareOf, Cond.code yX3_shareOf cX3_shareOf 6 (some .int)]
def wsX10_isBarred_r4 : List Cond := [Cond.constant RX3 66 (1000000), Cond.constantLong RX3 75 (2000000000), Cond.methodLink RX3 77 Lib.MathLoose.min_long.x, Cond.static Lib.MathLoose.min_long.x, Cond.initialized "java/lang/Math", Cond.code Lib.MathLoose.min_long.x Lib.MathLoose.min_long.code 4 (some .long), Cond.methodLink RX3 67 yX3_leadingTo, Cond.instanceMethod yX3_leadingTo, Cond.selects RX3 yX3_leadingTo yX3_leadingTo, Cond.code yX3_leadingTo cX3_leadingTo 4 (some .int), Cond.methodLink RX3 71 yX3_along, Cond.static yX3_along, Cond.code yX3_along cX3_along 11 (some .long), Cond.methodLink RX3 83 yX3_partOf, Cond.instanceMethod yX3_partOf, Cond.selects RX3 yX3_partOf yX3_partOf, Cond.code yX3_partOf cX3_partOf 3 (some .int)]
def wsX10_isBarred : List Cond := .code yX10_isBarred cX10_isBarred 8 (some .boolean) :: ((wsX10_isBarred_r1 ++ (wsX10_isBarred_r2 ++ (wsX10_isBarred_r3 ++ wsX10_isBarred_r4))) ++ wsX100 ++ wsX10 ++ wsX40 ++ wsX70 ++ wsX30)
def wsX10_barred_r1 : List Cond := [Cond.constant RX10 89 (-1000001), Cond.methodLink RX10 180 yX10_isCrate, Cond.instanceMethod yX10_isCrate, Cond.selects RX10 yX10_isCrate yX10_isCrate, Cond.initialized RX10, Cond.code yX10_isCrate cX10_isCrate 2 (some .boolean), Cond.fieldLink RX10 26 "PortRooms" "crates" "LPortRooms$Crates;", Cond.fieldLink RX10 177 "PortRooms$Crates" "count" "I", Cond.methodLink RX10 85 yX10_isBelow, Cond.static yX10_isBelow, Cond.code yX10_isBelow cX10_isBelow 2 (some .boolean), Cond.methodLink RX10 138 yX10_isDay, Cond.static yX10_isDay, Cond.code yX10_isDay cX10_isDay 1 (some .boolean), Cond.methodLink RX10 295 yX10_isBarred, Cond.instanceMethod yX10_isBarred, Cond.selects RX10 yX10_isBarred yX10_isBarred, Cond.code yX10_isBarred cX10_isBarred 8 (some .boolean), Cond.fieldLink RX10 68 "PortRooms" "lists" "LPortRooms$Lists;", Cond.fieldLink RX10 33 "PortRooms" "papers" "LPortRooms$Papers;", Cond.fieldLink RX10 190 "PortRooms$Crates" "firstOwner" "[I", Cond.fieldLink RX10 19 "PortRooms" "holdings" "LPortRooms$Holdings;", Cond.constantLong RX10 329 (500000), Cond.methodLink RX10 326 yX4_peopleOn]
def wsX10_barred_r2 : List Cond := [Cond.instanceMethod yX4_peopleOn, Cond.selects RX4 yX4_peopleOn yX4_peopleOn, Cond.initialized RX4, Cond.code yX4_peopleOn cX4_peopleOn 4 (some .int), Cond.fieldLink RX4 21 "PortRooms$Lists" "count" "I", Cond.fieldLink RX4 15 "PortRooms$Lists" "from" "[I", Cond.fieldLink RX4 18 "PortRooms$Lists" "to" "[I", Cond.fieldLink RX4 9 "PortRooms$Lists" "person" "[I", Cond.methodLink RX10 193 yX7_ownerOf, Cond.instanceMethod yX7_ownerOf, Cond.selects RX7 yX7_ownerOf yX7_ownerOf, Cond.initialized RX7, Cond.code yX7_ownerOf cX7_ownerOf 8 (some .int), Cond.fieldLink RX7 30 "PortRooms$Papers" "count" "I", Cond.fieldLink RX7 27 "PortRooms$Papers" "order" "[I", Cond.fieldLink RX7 21 "PortRooms$Papers" "said" "[I", Cond.fieldLink RX7 15 "PortRooms$Papers" "from" "[I", Cond.fieldLink RX7 18 "PortRooms$Papers" "to" "[I", Cond.methodLink RX7 38 yX7_isKnown, Cond.instanceMethod yX7_isKnown, Cond.selects RX7 yX7_isKnown yX7_isKnown, Cond.code yX7_isKnown cX7_isKnown 4 (some .boolean), Cond.fieldLink RX7 9 "PortRooms$Papers" "crate" "[I", Cond.fieldLink RX7 24 "PortRooms$Papers" "filed" "[I"]
def wsX10_barred_r3 : List Cond := [Cond.methodLink RX10 153 yX3_lookAt, Cond.instanceMethod yX3_lookAt, Cond.selects RX3 yX3_lookAt yX3_lookAt, Cond.initialized RX3, Cond.code yX3_lookAt cX3_lookAt 4 none, Cond.fieldLink RX3 24 "PortRooms$Holdings" "part" "[I", Cond.fieldLink RX3 27 "PortRooms$Holdings" "partSince" "[I", Cond.fieldLink RX3 36 "PortRooms$Holdings" "count" "I", Cond.fieldLink RX3 9 "PortRooms$Holdings" "owner" "[I", Cond.fieldLink RX3 15 "PortRooms$Holdings" "company" "[I", Cond.fieldLink RX3 21 "PortRooms$Holdings" "since" "[I", Cond.fieldLink RX3 18 "PortRooms$Holdings" "percentage" "[I", Cond.methodLink RX3 40 yJ7_fill_53178, Cond.static yJ7_fill_53178, Cond.initialized RJ7, Cond.code yJ7_fill_53178 cJ7_fill_53178 4 none, Cond.methodLink RX3 46 yX3_place, Cond.static yX3_place, Cond.code yX3_place cX3_place 2 (some .int), Cond.methodLink RX3 50 yX3_gatherWhoHas, Cond.instanceMethod yX3_gatherWhoHas, Cond.selects RX3 yX3_gatherWhoHas yX3_gatherWhoHas, Cond.code yX3_gatherWhoHas cX3_gatherWhoHas 2 none, Cond.fieldLink RX3 30 "PortRooms$Holdings" "has" "[I"]
def wsX10_barred_r4 : List Cond := [Cond.methodLink RX3 53 yX3_closeReach, Cond.instanceMethod yX3_closeReach, Cond.selects RX3 yX3_closeReach yX3_closeReach, Cond.code yX3_closeReach cX3_closeReach 3 none, Cond.fieldLink RX3 33 "PortRooms$Holdings" "reach" "[I", Cond.methodLink RX3 56 arraycopyName, Cond.native arraycopyName, Cond.static arraycopyName, Cond.initialized "java/lang/System", Cond.static yX10_hasBit, Cond.code yX10_hasBit cX10_hasBit 2 (some .boolean), Cond.methodLink RX10 173 yX10_hasBit, Cond.methodLink RX10 166 yX3_shareOf, Cond.instanceMethod yX3_shareOf, Cond.selects RX3 yX3_shareOf yX3_shareOf, Cond.code yX3_shareOf cX3_shareOf 6 (some .int), Cond.constant RX3 66 (1000000), Cond.constantLong RX3 75 (2000000000), Cond.methodLink RX3 77 Lib.MathLoose.min_long.x, Cond.static Lib.MathLoose.min_long.x, Cond.initialized "java/lang/Math", Cond.code Lib.MathLoose.min_long.x Lib.MathLoose.min_long.code 4 (some .long), Cond.methodLink RX3 67 yX3_leadingTo, Cond.instanceMethod yX3_leadingTo]
def wsX10_barred_r5 : List Cond := [Cond.selects RX3 yX3_leadingTo yX3_leadingTo, Cond.code yX3_leadingTo cX3_leadingTo 4 (some .int), Cond.methodLink RX3 71 yX3_along, Cond.static yX3_along, Cond.code yX3_along cX3_along 11 (some .long), Cond.methodLink RX3 83 yX3_partOf, Cond.instanceMethod yX3_partOf, Cond.selects RX3 yX3_partOf yX3_partOf, Cond.code yX3_partOf cX3_partOf 3 (some .int)]
def wsX10_barred : List Cond := .code yX10_barred cX10_barred 3 (some .int) :: ((wsX10_barred_r1 ++ (wsX10_barred_r2 ++ (wsX10_barred_r3 ++ (wsX10_barred_r4 ++ wsX10_barred_r5)))) ++ wsX100 ++ wsX10 ++ wsX40 ++ wsX70 ++ wsX30)
def wsX10_day : List Cond := .code yX10_day cX10_day 3 (some .int) :: ([.constant RX10 89 (-1000001), .fieldLink RX10 298 "PortRooms" "today" "I", .methodLink RX10 138 yX10_isDay, .static yX10_isDay, .initialized RX10, .code yX10_isDay cX10_isDay 1 (some .boolean), .methodLink RX10 85 yX10_isBelow, .static yX10_isBelow, .code yX10_isBelow cX10_isBelow 2 (some .boolean)] ++ wsX100)
def wsX10_kindToday_r1 : List Cond := [Cond.fieldLink RX10 298 "PortRooms" "today" "I", Cond.fieldLink RX10 40 "PortRooms" "pledges" "LPortRooms$Pledges;", Cond.fieldLink RX10 26 "PortRooms" "crates" "LPortRooms$Crates;", Cond.fieldLink RX10 207 "PortRooms$Crates" "worth" "[I", Cond.methodLink RX10 295 yX10_isBarred, Cond.instanceMethod yX10_isBarred, Cond.selects RX10 yX10_isBarred yX10_isBarred, Cond.initialized RX10, Cond.code yX10_isBarred cX10_isBarred 8 (some .boolean), Cond.fieldLink RX10 68 "PortRooms" "lists" "LPortRooms$Lists;", Cond.fieldLink RX10 33 "PortRooms" "papers" "LPortRooms$Papers;", Cond.fieldLink RX10 190 "PortRooms$Crates" "firstOwner" "[I", Cond.fieldLink RX10 19 "PortRooms" "holdings" "LPortRooms$Holdings;", Cond.constantLong RX10 329 (500000), Cond.methodLink RX10 326 yX4_peopleOn, Cond.instanceMethod yX4_peopleOn, Cond.selects RX4 yX4_peopleOn yX4_peopleOn, Cond.initialized RX4, Cond.code yX4_peopleOn cX4_peopleOn 4 (some .int), Cond.fieldLink RX4 21 "PortRooms$Lists" "count" "I", Cond.fieldLink RX4 15 "PortRooms$Lists" "from" "[I", Cond.fieldLink RX4 18 "PortRooms$Lists" "to" "[I", Cond.fieldLink RX4 9 "PortRooms$Lists" "person" "[I", Cond.methodLink RX10 193 yX7_ownerOf]
def wsX10_kindToday_r2 : List Cond := [Cond.instanceMethod yX7_ownerOf, Cond.selects RX7 yX7_ownerOf yX7_ownerOf, Cond.initialized RX7, Cond.code yX7_ownerOf cX7_ownerOf 8 (some .int), Cond.fieldLink RX7 30 "PortRooms$Papers" "count" "I", Cond.fieldLink RX7 27 "PortRooms$Papers" "order" "[I", Cond.fieldLink RX7 21 "PortRooms$Papers" "said" "[I", Cond.fieldLink RX7 15 "PortRooms$Papers" "from" "[I", Cond.fieldLink RX7 18 "PortRooms$Papers" "to" "[I", Cond.methodLink RX7 38 yX7_isKnown, Cond.instanceMethod yX7_isKnown, Cond.selects RX7 yX7_isKnown yX7_isKnown, Cond.code yX7_isKnown cX7_isKnown 4 (some .boolean), Cond.fieldLink RX7 9 "PortRooms$Papers" "crate" "[I", Cond.fieldLink RX7 24 "PortRooms$Papers" "filed" "[I", Cond.methodLink RX10 153 yX3_lookAt, Cond.instanceMethod yX3_lookAt, Cond.selects RX3 yX3_lookAt yX3_lookAt, Cond.initialized RX3, Cond.code yX3_lookAt cX3_lookAt 4 none, Cond.fieldLink RX3 24 "PortRooms$Holdings" "part" "[I", Cond.fieldLink RX3 27 "PortRooms$Holdings" "partSince" "[I", Cond.fieldLink RX3 36 "PortRooms$Holdings" "count" "I", Cond.fieldLink RX3 9 "PortRooms$Holdings" "owner" "[I"]
def wsX10_kindToday_r3 : List Cond := [Cond.fieldLink RX3 15 "PortRooms$Holdings" "company" "[I", Cond.fieldLink RX3 21 "PortRooms$Holdings" "since" "[I", Cond.fieldLink RX3 18 "PortRooms$Holdings" "percentage" "[I", Cond.methodLink RX3 40 yJ7_fill_53178, Cond.static yJ7_fill_53178, Cond.initialized RJ7, Cond.code yJ7_fill_53178 cJ7_fill_53178 4 none, Cond.methodLink RX3 46 yX3_place, Cond.static yX3_place, Cond.code yX3_place cX3_place 2 (some .int), Cond.methodLink RX3 50 yX3_gatherWhoHas, Cond.instanceMethod yX3_gatherWhoHas, Cond.selects RX3 yX3_gatherWhoHas yX3_gatherWhoHas, Cond.code yX3_gatherWhoHas cX3_gatherWhoHas 2 none, Cond.fieldLink RX3 30 "PortRooms$Holdings" "has" "[I", Cond.methodLink RX3 53 yX3_closeReach, Cond.instanceMethod yX3_closeReach, Cond.selects RX3 yX3_closeReach yX3_closeReach, Cond.code yX3_closeReach cX3_closeReach 3 none, Cond.fieldLink RX3 33 "PortRooms$Holdings" "reach" "[I", Cond.methodLink RX3 56 arraycopyName, Cond.native arraycopyName, Cond.static arraycopyName, Cond.initialized "java/lang/System"]
def wsX10_kindToday_r4 : List Cond := [Cond.static yX10_hasBit, Cond.code yX10_hasBit cX10_hasBit 2 (some .boolean), Cond.methodLink RX10 173 yX10_hasBit, Cond.methodLink RX10 166 yX3_shareOf, Cond.instanceMethod yX3_shareOf, Cond.selects RX3 yX3_shareOf yX3_shareOf, Cond.code yX3_shareOf cX3_shareOf 6 (some .int), Cond.constant RX3 66 (1000000), Cond.constantLong RX3 75 (2000000000), Cond.methodLink RX3 77 Lib.MathLoose.min_long.x, Cond.static Lib.MathLoose.min_long.x, Cond.initialized "java/lang/Math", Cond.code Lib.MathLoose.min_long.x Lib.MathLoose.min_long.code 4 (some .long), Cond.methodLink RX3 67 yX3_leadingTo, Cond.instanceMethod yX3_leadingTo, Cond.selects RX3 yX3_leadingTo yX3_leadingTo, Cond.code yX3_leadingTo cX3_leadingTo 4 (some .int), Cond.methodLink RX3 71 yX3_along, Cond.static yX3_along, Cond.code yX3_along cX3_along 11 (some .long), Cond.methodLink RX3 83 yX3_partOf, Cond.instanceMethod yX3_partOf, Cond.selects RX3 yX3_partOf yX3_partOf, Cond.code yX3_partOf cX3_partOf 3 (some .int)]
def wsX10_kindToday_r5 : List Cond := [Cond.methodLink RX10 331 yX8_sumsOn, Cond.instanceMethod yX8_sumsOn, Cond.selects RX8 yX8_sumsOn yX8_sumsOn, Cond.initialized RX8, Cond.code yX8_sumsOn cX8_sumsOn 5 (some .int), Cond.fieldLink RX8 27 "PortRooms$Pledges" "count" "I", Cond.fieldLink RX8 15 "PortRooms$Pledges" "sum" "[I", Cond.methodLink RX8 31 yX8_isKnown, Cond.instanceMethod yX8_isKnown, Cond.selects RX8 yX8_isKnown yX8_isKnown, Cond.code yX8_isKnown cX8_isKnown 4 (some .boolean), Cond.fieldLink RX8 9 "PortRooms$Pledges" "crate" "[I", Cond.fieldLink RX8 21 "PortRooms$Pledges" "filed" "[I"]
def wsX10_kindToday : List Cond := .code yX10_kindToday cX10_kindToday 3 (some .int) :: ((wsX10_kindToday_r1 ++ (wsX10_kindToday_r2 ++ (wsX10_kindToday_r3 ++ (wsX10_kindToday_r4 ++ wsX10_kindToday_r5)))) ++ wsX100 ++ wsX10 ++ wsX40 ++ wsX70 ++ wsX30 ++ wsX80)
def wsX10_kind_r1 : List Cond := [Cond.constant RX10 89 (-1000001), Cond.methodLink RX10 180 yX10_isCrate, Cond.instanceMethod yX10_isCrate, Cond.selects RX10 yX10_isCrate yX10_isCrate, Cond.initialized RX10, Cond.code yX10_isCrate cX10_isCrate 2 (some .boolean), Cond.fieldLink RX10 26 "PortRooms" "crates" "LPortRooms$Crates;", Cond.fieldLink RX10 177 "PortRooms$Crates" "count" "I", Cond.methodLink RX10 85 yX10_isBelow, Cond.static yX10_isBelow, Cond.code yX10_isBelow cX10_isBelow 2 (some .boolean), Cond.methodLink RX10 301 yX10_kindToday, Cond.instanceMethod yX10_kindToday, Cond.selects RX10 yX10_kindToday yX10_kindToday, Cond.code yX10_kindToday cX10_kindToday 3 (some .int), Cond.fieldLink RX10 298 "PortRooms" "today" "I", Cond.fieldLink RX10 40 "PortRooms" "pledges" "LPortRooms$Pledges;", Cond.fieldLink RX10 207 "PortRooms$Crates" "worth" "[I", Cond.methodLink RX10 295 yX10_isBarred, Cond.instanceMethod yX10_isBarred, Cond.selects RX10 yX10_isBarred yX10_isBarred, Cond.code yX10_isBarred cX10_isBarred 8 (some .boolean), Cond.fieldLink RX10 68 "PortRooms" "lists" "LPortRooms$Lists;", Cond.fieldLink RX10 33 "PortRooms" "papers" "LPortRooms$Papers;"]
def wsX10_kind_r2 : List Cond := [Cond.fieldLink RX10 190 "PortRooms$Crates" "firstOwner" "[I", Cond.fieldLink RX10 19 "PortRooms" "holdings" "LPortRooms$Holdings;", Cond.constantLong RX10 329 (500000), Cond.methodLink RX10 326 yX4_peopleOn, Cond.instanceMethod yX4_peopleOn, Cond.selects RX4 yX4_peopleOn yX4_peopleOn, Cond.initialized RX4, Cond.code yX4_peopleOn cX4_peopleOn 4 (some .int), Cond.fieldLink RX4 21 "PortRooms$Lists" "count" "I", Cond.fieldLink RX4 15 "PortRooms$Lists" "from" "[I", Cond.fieldLink RX4 18 "PortRooms$Lists" "to" "[I", Cond.fieldLink RX4 9 "PortRooms$Lists" "person" "[I", Cond.methodLink RX10 193 yX7_ownerOf, Cond.instanceMethod yX7_ownerOf, Cond.selects RX7 yX7_ownerOf yX7_ownerOf, Cond.initialized RX7, Cond.code yX7_ownerOf cX7_ownerOf 8 (some .int), Cond.fieldLink RX7 30 "PortRooms$Papers" "count" "I", Cond.fieldLink RX7 27 "PortRooms$Papers" "order" "[I", Cond.fieldLink RX7 21 "PortRooms$Papers" "said" "[I", Cond.fieldLink RX7 15 "PortRooms$Papers" "from" "[I", Cond.fieldLink RX7 18 "PortRooms$Papers" "to" "[I", Cond.methodLink RX7 38 yX7_isKnown, Cond.instanceMethod yX7_isKnown]
def wsX10_kind_r3 : List Cond := [Cond.selects RX7 yX7_isKnown yX7_isKnown, Cond.code yX7_isKnown cX7_isKnown 4 (some .boolean), Cond.fieldLink RX7 9 "PortRooms$Papers" "crate" "[I", Cond.fieldLink RX7 24 "PortRooms$Papers" "filed" "[I", Cond.methodLink RX10 153 yX3_lookAt, Cond.instanceMethod yX3_lookAt, Cond.selects RX3 yX3_lookAt yX3_lookAt, Cond.initialized RX3, Cond.code yX3_lookAt cX3_lookAt 4 none, Cond.fieldLink RX3 24 "PortRooms$Holdings" "part" "[I", Cond.fieldLink RX3 27 "PortRooms$Holdings" "partSince" "[I", Cond.fieldLink RX3 36 "PortRooms$Holdings" "count" "I", Cond.fieldLink RX3 9 "PortRooms$Holdings" "owner" "[I", Cond.fieldLink RX3 15 "PortRooms$Holdings" "company" "[I", Cond.fieldLink RX3 21 "PortRooms$Holdings" "since" "[I", Cond.fieldLink RX3 18 "PortRooms$Holdings" "percentage" "[I", Cond.methodLink RX3 40 yJ7_fill_53178, Cond.static yJ7_fill_53178, Cond.initialized RJ7, Cond.code yJ7_fill_53178 cJ7_fill_53178 4 none, Cond.methodLink RX3 46 yX3_place, Cond.static yX3_place, Cond.code yX3_place cX3_place 2 (some .int), Cond.methodLink RX3 50 yX3_gatherWhoHas]
def wsX10_kind_r4 : List Cond := [Cond.instanceMethod yX3_gatherWhoHas, Cond.selects RX3 yX3_gatherWhoHas yX3_gatherWhoHas, Cond.code yX3_gatherWhoHas cX3_gatherWhoHas 2 none, Cond.fieldLink RX3 30 "PortRooms$Holdings" "has" "[I", Cond.methodLink RX3 53 yX3_closeReach, Cond.instanceMethod yX3_closeReach, Cond.selects RX3 yX3_closeReach yX3_closeReach, Cond.code yX3_closeReach cX3_closeReach 3 none, Cond.fieldLink RX3 33 "PortRooms$Holdings" "reach" "[I", Cond.methodLink RX3 56 arraycopyName, Cond.native arraycopyName, Cond.static arraycopyName, Cond.initialized "java/lang/System", Cond.static yX10_hasBit, Cond.code yX10_hasBit cX10_hasBit 2 (some .boolean), Cond.methodLink RX10 173 yX10_hasBit, Cond.methodLink RX10 166 yX3_shareOf, Cond.instanceMethod yX3_shareOf, Cond.selects RX3 yX3_shareOf yX3_shareOf, Cond.code yX3_shareOf cX3_shareOf 6 (some .int), Cond.constant RX3 66 (1000000), Cond.constantLong RX3 75 (2000000000), Cond.methodLink RX3 77 Lib.MathLoose.min_long.x, Cond.static Lib.MathLoose.min_long.x]
def wsX10_kind_r5 : List Cond := [Cond.initialized "java/lang/Math", Cond.code Lib.MathLoose.min_long.x Lib.MathLoose.min_long.code 4 (some .long), Cond.methodLink RX3 67 yX3_leadingTo, Cond.instanceMethod yX3_leadingTo, Cond.selects RX3 yX3_leadingTo yX3_leadingTo, Cond.code yX3_leadingTo cX3_leadingTo 4 (some .int), Cond.methodLink RX3 71 yX3_along, Cond.static yX3_along, Cond.code yX3_along cX3_along 11 (some .long), Cond.methodLink RX3 83 yX3_partOf, Cond.instanceMethod yX3_partOf, Cond.selects RX3 yX3_partOf yX3_partOf, Cond.code yX3_partOf cX3_partOf 3 (some .int), Cond.methodLink RX10 331 yX8_sumsOn, Cond.instanceMethod yX8_sumsOn, Cond.selects RX8 yX8_sumsOn yX8_sumsOn, Cond.initialized RX8, Cond.code yX8_sumsOn cX8_sumsOn 5 (some .int), Cond.fieldLink RX8 27 "PortRooms$Pledges" "count" "I", Cond.fieldLink RX8 15 "PortRooms$Pledges" "sum" "[I", Cond.methodLink RX8 31 yX8_isKnown, Cond.instanceMethod yX8_isKnown, Cond.selects RX8 yX8_isKnown yX8_isKnown, Cond.code yX8_isKnown cX8_isKnown 4 (some .boolean)]
def wsX10_kind_r6 : List Cond := [Cond.fieldLink RX8 9 "PortRooms$Pledges" "crate" "[I", Cond.fieldLink RX8 21 "PortRooms$Pledges" "filed" "[I"]
def wsX10_kind : List Cond := .code yX10_kind cX10_kind 2 (some .int) :: ((wsX10_kind_r1 ++ (wsX10_kind_r2 ++ (wsX10_kind_r3 ++ (wsX10_kind_r4 ++ (wsX10_kind_r5 ++ wsX10_kind_r6))))) ++ wsX100 ++ wsX10 ++ wsX40 ++ wsX70 ++ wsX30 ++ wsX80)
def wsX10_isOfKind : List Cond := .code yX10_isOfKind cX10_isOfKind 2 (some .boolean) :: ([])
def wsX10_as_r1 : List Cond := [Cond.constant RX10 89 (-1000001), Cond.fieldLink RX10 26 "PortRooms" "crates" "LPortRooms$Crates;", Cond.fieldLink RX10 207 "PortRooms$Crates" "worth" "[I", Cond.methodLink RX10 180 yX10_isCrate, Cond.instanceMethod yX10_isCrate, Cond.selects RX10 yX10_isCrate yX10_isCrate, Cond.initialized RX10, Cond.code yX10_isCrate cX10_isCrate 2 (some .boolean), Cond.fieldLink RX10 177 "PortRooms$Crates" "count" "I", Cond.methodLink RX10 85 yX10_isBelow, Cond.static yX10_isBelow, Cond.code yX10_isBelow cX10_isBelow 2 (some .boolean), Cond.methodLink RX10 301 yX10_kindToday, Cond.instanceMethod yX10_kindToday, Cond.selects RX10 yX10_kindToday yX10_kindToday, Cond.code yX10_kindToday cX10_kindToday 3 (some .int), Cond.fieldLink RX10 298 "PortRooms" "today" "I", Cond.fieldLink RX10 40 "PortRooms" "pledges" "LPortRooms$Pledges;", Cond.methodLink RX10 295 yX10_isBarred, Cond.instanceMethod yX10_isBarred, Cond.selects RX10 yX10_isBarred yX10_isBarred, Cond.code yX10_isBarred cX10_isBarred 8 (some .boolean), Cond.fieldLink RX10 68 "PortRooms" "lists" "LPortRooms$Lists;", Cond.fieldLink RX10 33 "PortRooms" "papers" "LPortRooms$Papers;"]
def wsX10_as_r2 : List Cond := [Cond.fieldLink RX10 190 "PortRooms$Crates" "firstOwner" "[I", Cond.fieldLink RX10 19 "PortRooms" "holdings" "LPortRooms$Holdings;", Cond.constantLong RX10 329 (500000), Cond.methodLink RX10 326 yX4_peopleOn, Cond.instanceMethod yX4_peopleOn, Cond.selects RX4 yX4_peopleOn yX4_peopleOn, Cond.initialized RX4, Cond.code yX4_peopleOn cX4_peopleOn 4 (some .int), Cond.fieldLink RX4 21 "PortRooms$Lists" "count" "I", Cond.fieldLink RX4 15 "PortRooms$Lists" "from" "[I", Cond.fieldLink RX4 18 "PortRooms$Lists" "to" "[I", Cond.fieldLink RX4 9 "PortRooms$Lists" "person" "[I", Cond.methodLink RX10 193 yX7_ownerOf, Cond.instanceMethod yX7_ownerOf, Cond.selects RX7 yX7_ownerOf yX7_ownerOf, Cond.initialized RX7, Cond.code yX7_ownerOf cX7_ownerOf 8 (some .int), Cond.fieldLink RX7 30 "PortRooms$Papers" "count" "I", Cond.fieldLink RX7 27 "PortRooms$Papers" "order" "[I", Cond.fieldLink RX7 21 "PortRooms$Papers" "said" "[I", Cond.fieldLink RX7 15 "PortRooms$Papers" "from" "[I", Cond.fieldLink RX7 18 "PortRooms$Papers" "to" "[I", Cond.methodLink RX7 38 yX7_isKnown, Cond.instanceMethod yX7_isKnown]
def wsX10_as_r3 : List Cond := [Cond.selects RX7 yX7_isKnown yX7_isKnown, Cond.code yX7_isKnown cX7_isKnown 4 (some .boolean), Cond.fieldLink RX7 9 "PortRooms$Papers" "crate" "[I", Cond.fieldLink RX7 24 "PortRooms$Papers" "filed" "[I", Cond.methodLink RX10 153 yX3_lookAt, Cond.instanceMethod yX3_lookAt, Cond.selects RX3 yX3_lookAt yX3_lookAt, Cond.initialized RX3, Cond.code yX3_lookAt cX3_lookAt 4 none, Cond.fieldLink RX3 24 "PortRooms$Holdings" "part" "[I", Cond.fieldLink RX3 27 "PortRooms$Holdings" "partSince" "[I", Cond.fieldLink RX3 36 "PortRooms$Holdings" "count" "I", Cond.fieldLink RX3 9 "PortRooms$Holdings" "owner" "[I", Cond.fieldLink RX3 15 "PortRooms$Holdings" "company" "[I", Cond.fieldLink RX3 21 "PortRooms$Holdings" "since" "[I", Cond.fieldLink RX3 18 "PortRooms$Holdings" "percentage" "[I", Cond.methodLink RX3 40 yJ7_fill_53178, Cond.static yJ7_fill_53178, Cond.initialized RJ7, Cond.code yJ7_fill_53178 cJ7_fill_53178 4 none, Cond.methodLink RX3 46 yX3_place, Cond.static yX3_place, Cond.code yX3_place cX3_place 2 (some .int), Cond.methodLink RX3 50 yX3_gatherWhoHas]
def wsX10_as_r4 : List Cond := [Cond.instanceMethod yX3_gatherWhoHas, Cond.selects RX3 yX3_gatherWhoHas yX3_gatherWhoHas, Cond.code yX3_gatherWhoHas cX3_gatherWhoHas 2 none, Cond.fieldLink RX3 30 "PortRooms$Holdings" "has" "[I", Cond.methodLink RX3 53 yX3_closeReach, Cond.instanceMethod yX3_closeReach, Cond.selects RX3 yX3_closeReach yX3_closeReach, Cond.code yX3_closeReach cX3_closeReach 3 none, Cond.fieldLink RX3 33 "PortRooms$Holdings" "reach" "[I", Cond.methodLink RX3 56 arraycopyName, Cond.native arraycopyName, Cond.static arraycopyName, Cond.initialized "java/lang/System", Cond.static yX10_hasBit, Cond.code yX10_hasBit cX10_hasBit 2 (some .boolean), Cond.methodLink RX10 173 yX10_hasBit, Cond.methodLink RX10 166 yX3_shareOf, Cond.instanceMethod yX3_shareOf, Cond.selects RX3 yX3_shareOf yX3_shareOf, Cond.code yX3_shareOf cX3_shareOf 6 (some .int), Cond.constant RX3 66 (1000000), Cond.constantLong RX3 75 (2000000000), Cond.methodLink RX3 77 Lib.MathLoose.min_long.x, Cond.static Lib.MathLoose.min_long.x]
def wsX10_as_r5 : List Cond := [Cond.initialized "java/lang/Math", Cond.code Lib.MathLoose.min_long.x Lib.MathLoose.min_long.code 4 (some .long), Cond.methodLink RX3 67 yX3_leadingTo, Cond.instanceMethod yX3_leadingTo, Cond.selects RX3 yX3_leadingTo yX3_leadingTo, Cond.code yX3_leadingTo cX3_leadingTo 4 (some .int), Cond.methodLink RX3 71 yX3_along, Cond.static yX3_along, Cond.code yX3_along cX3_along 11 (some .long), Cond.methodLink RX3 83 yX3_partOf, Cond.instanceMethod yX3_partOf, Cond.selects RX3 yX3_partOf yX3_partOf, Cond.code yX3_partOf cX3_partOf 3 (some .int), Cond.methodLink RX10 331 yX8_sumsOn, Cond.instanceMethod yX8_sumsOn, Cond.selects RX8 yX8_sumsOn yX8_sumsOn, Cond.initialized RX8, Cond.code yX8_sumsOn cX8_sumsOn 5 (some .int), Cond.fieldLink RX8 27 "PortRooms$Pledges" "count" "I", Cond.fieldLink RX8 15 "PortRooms$Pledges" "sum" "[I", Cond.methodLink RX8 31 yX8_isKnown, Cond.instanceMethod yX8_isKnown, Cond.selects RX8 yX8_isKnown yX8_isKnown, Cond.code yX8_isKnown cX8_isKnown 4 (some .boolean)]
def wsX10_as_r6 : List Cond := [Cond.fieldLink RX8 9 "PortRooms$Pledges" "crate" "[I", Cond.fieldLink RX8 21 "PortRooms$Pledges" "filed" "[I", Cond.methodLink RX10 304 yX10_isOfKind, Cond.static yX10_isOfKind, Cond.code yX10_isOfKind cX10_isOfKind 2 (some .boolean), Cond.methodLink RX10 90 yX10_finding, Cond.instanceMethod yX10_finding, Cond.selects RX10 yX10_finding yX10_finding, Cond.code yX10_finding cX10_finding 2 (some .int), Cond.fieldLink RX10 322 "PortRooms" "latestFinding" "I", Cond.constant RX10 325 (-1000010), Cond.methodLink RX10 98 yX10_passed, Cond.instanceMethod yX10_passed, Cond.selects RX10 yX10_passed yX10_passed, Cond.code yX10_passed cX10_passed 2 (some .int)]
def wsX10_as : List Cond := .code yX10_as cX10_as 3 (some .int) :: ((wsX10_as_r1 ++ (wsX10_as_r2 ++ (wsX10_as_r3 ++ (wsX10_as_r4 ++ (wsX10_as_r5 ++ wsX10_as_r6))))) ++ wsX100 ++ wsX10 ++ wsX40 ++ wsX70 ++ wsX30 ++ wsX80)
def wsX10_leave : List Cond := .code yX10_leave cX10_leave 2 none :: ([.fieldLink RX10 307 "PortRooms" "traced" "I", .fieldLink RX10 72 "PortRooms" "trace" "[I"] ++ wsX100)
def wsX10_sizeLent : List Cond := .code yX10_sizeLent cX10_sizeLent 2 (some .int) :: ([.fieldLink RX10 26 "PortRooms" "crates" "LPortRooms$Crates;", .fieldLink RX10 207 "PortRooms$Crates" "worth" "[I", .methodLink RX10 358 yX10_leave, .instanceMethod yX10_leave, .selects RX10 yX10_leave yX10_leave, .initialized RX10, .code yX10_leave cX10_leave 2 none, .fieldLink RX10 307 "PortRooms" "traced" "I", .fieldLink RX10 72 "PortRooms" "trace" "[I"] ++ wsX100 ++ wsX10)
def wsX10_sizeOfOwed_r1 : List Cond := [Cond.fieldLink RX10 40 "PortRooms" "pledges" "LPortRooms$Pledges;", Cond.fieldLink RX10 298 "PortRooms" "today" "I", Cond.methodLink RX10 358 yX10_leave, Cond.instanceMethod yX10_leave, Cond.selects RX10 yX10_leave yX10_leave, Cond.initialized RX10, Cond.code yX10_leave cX10_leave 2 none, Cond.fieldLink RX10 307 "PortRooms" "traced" "I", Cond.fieldLink RX10 72 "PortRooms" "trace" "[I", Cond.methodLink RX10 343 yX10_sizeLent, Cond.instanceMethod yX10_sizeLent, Cond.selects RX10 yX10_sizeLent yX10_sizeLent, Cond.code yX10_sizeLent cX10_sizeLent 2 (some .int), Cond.fieldLink RX10 26 "PortRooms" "crates" "LPortRooms$Crates;", Cond.fieldLink RX10 207 "PortRooms$Crates" "worth" "[I", Cond.methodLink RX10 331 yX8_sumsOn, Cond.instanceMethod yX8_sumsOn, Cond.selects RX8 yX8_sumsOn yX8_sumsOn, Cond.initialized RX8, Cond.code yX8_sumsOn cX8_sumsOn 5 (some .int), Cond.fieldLink RX8 27 "PortRooms$Pledges" "count" "I", Cond.fieldLink RX8 15 "PortRooms$Pledges" "sum" "[I", Cond.methodLink RX8 31 yX8_isKnown, Cond.instanceMethod yX8_isKnown]
def wsX10_sizeOfOwed_r2 : List Cond := [Cond.selects RX8 yX8_isKnown yX8_isKnown, Cond.code yX8_isKnown cX8_isKnown 4 (some .boolean), Cond.fieldLink RX8 9 "PortRooms$Pledges" "crate" "[I", Cond.fieldLink RX8 21 "PortRooms$Pledges" "filed" "[I"]
def wsX10_sizeOfOwed : List Cond := .code yX10_sizeOfOwed cX10_sizeOfOwed 2 (some .int) :: ((wsX10_sizeOfOwed_r1 ++ wsX10_sizeOfOwed_r2) ++ wsX100 ++ wsX10 ++ wsX80)
def wsX10_sizeOfDeep_r1 : List Cond := [Cond.methodLink RX10 358 yX10_leave, Cond.instanceMethod yX10_leave, Cond.selects RX10 yX10_leave yX10_leave, Cond.initialized RX10, Cond.code yX10_leave cX10_leave 2 none, Cond.fieldLink RX10 307 "PortRooms" "traced" "I", Cond.fieldLink RX10 72 "PortRooms" "trace" "[I", Cond.methodLink RX10 334 yX10_sizeOfOwed, Cond.instanceMethod yX10_sizeOfOwed, Cond.selects RX10 yX10_sizeOfOwed yX10_sizeOfOwed, Cond.code yX10_sizeOfOwed cX10_sizeOfOwed 2 (some .int), Cond.fieldLink RX10 40 "PortRooms" "pledges" "LPortRooms$Pledges;", Cond.fieldLink RX10 298 "PortRooms" "today" "I", Cond.methodLink RX10 343 yX10_sizeLent, Cond.instanceMethod yX10_sizeLent, Cond.selects RX10 yX10_sizeLent yX10_sizeLent, Cond.code yX10_sizeLent cX10_sizeLent 2 (some .int), Cond.fieldLink RX10 26 "PortRooms" "crates" "LPortRooms$Crates;", Cond.fieldLink RX10 207 "PortRooms$Crates" "worth" "[I", Cond.methodLink RX10 331 yX8_sumsOn, Cond.instanceMethod yX8_sumsOn, Cond.selects RX8 yX8_sumsOn yX8_sumsOn, Cond.initialized RX8, Cond.code yX8_sumsOn cX8_sumsOn 5 (some .int)]
def wsX10_sizeOfDeep_r2 : List Cond := [Cond.fieldLink RX8 27 "PortRooms$Pledges" "count" "I", Cond.fieldLink RX8 15 "PortRooms$Pledges" "sum" "[I", Cond.methodLink RX8 31 yX8_isKnown, Cond.instanceMethod yX8_isKnown, Cond.selects RX8 yX8_isKnown yX8_isKnown, Cond.code yX8_isKnown cX8_isKnown 4 (some .boolean), Cond.fieldLink RX8 9 "PortRooms$Pledges" "crate" "[I", Cond.fieldLink RX8 21 "PortRooms$Pledges" "filed" "[I"]
def wsX10_sizeOfDeep : List Cond := .code yX10_sizeOfDeep cX10_sizeOfDeep 2 (some .int) :: ((wsX10_sizeOfDeep_r1 ++ wsX10_sizeOfDeep_r2) ++ wsX100 ++ wsX10 ++ wsX80)
def wsX10_markLent_r1 : List Cond := [Cond.fieldLink RX10 33 "PortRooms" "papers" "LPortRooms$Papers;", Cond.fieldLink RX10 26 "PortRooms" "crates" "LPortRooms$Crates;", Cond.fieldLink RX10 190 "PortRooms$Crates" "firstOwner" "[I", Cond.fieldLink RX10 298 "PortRooms" "today" "I", Cond.methodLink RX10 358 yX10_leave, Cond.instanceMethod yX10_leave, Cond.selects RX10 yX10_leave yX10_leave, Cond.initialized RX10, Cond.code yX10_leave cX10_leave 2 none, Cond.fieldLink RX10 307 "PortRooms" "traced" "I", Cond.fieldLink RX10 72 "PortRooms" "trace" "[I", Cond.methodLink RX10 193 yX7_ownerOf, Cond.instanceMethod yX7_ownerOf, Cond.selects RX7 yX7_ownerOf yX7_ownerOf, Cond.initialized RX7, Cond.code yX7_ownerOf cX7_ownerOf 8 (some .int), Cond.fieldLink RX7 30 "PortRooms$Papers" "count" "I", Cond.fieldLink RX7 27 "PortRooms$Papers" "order" "[I", Cond.fieldLink RX7 21 "PortRooms$Papers" "said" "[I", Cond.fieldLink RX7 15 "PortRooms$Papers" "from" "[I", Cond.fieldLink RX7 18 "PortRooms$Papers" "to" "[I", Cond.methodLink RX7 38 yX7_isKnown, Cond.instanceMethod yX7_isKnown, Cond.selects RX7 yX7_isKnown yX7_isKnown]
def wsX10_markLent_r2 : List Cond := [Cond.code yX7_isKnown cX7_isKnown 4 (some .boolean), Cond.fieldLink RX7 9 "PortRooms$Papers" "crate" "[I", Cond.fieldLink RX7 24 "PortRooms$Papers" "filed" "[I"]
def wsX10_markLent : List Cond := .code yX10_markLent cX10_markLent 2 (some .int) :: ((wsX10_markLent_r1 ++ wsX10_markLent_r2) ++ wsX100 ++ wsX10 ++ wsX70)
def wsX10_markOfStopped_r1 : List Cond := [Cond.methodLink RX10 358 yX10_leave, Cond.instanceMethod yX10_leave, Cond.selects RX10 yX10_leave yX10_leave, Cond.initialized RX10, Cond.code yX10_leave cX10_leave 2 none, Cond.fieldLink RX10 307 "PortRooms" "traced" "I", Cond.fieldLink RX10 72 "PortRooms" "trace" "[I", Cond.methodLink RX10 355 yX10_markLent, Cond.instanceMethod yX10_markLent, Cond.selects RX10 yX10_markLent yX10_markLent, Cond.code yX10_markLent cX10_markLent 2 (some .int), Cond.fieldLink RX10 33 "PortRooms" "papers" "LPortRooms$Papers;", Cond.fieldLink RX10 26 "PortRooms" "crates" "LPortRooms$Crates;", Cond.fieldLink RX10 190 "PortRooms$Crates" "firstOwner" "[I", Cond.fieldLink RX10 298 "PortRooms" "today" "I", Cond.methodLink RX10 193 yX7_ownerOf, Cond.instanceMethod yX7_ownerOf, Cond.selects RX7 yX7_ownerOf yX7_ownerOf, Cond.initialized RX7, Cond.code yX7_ownerOf cX7_ownerOf 8 (some .int), Cond.fieldLink RX7 30 "PortRooms$Papers" "count" "I", Cond.fieldLink RX7 27 "PortRooms$Papers" "order" "[I", Cond.fieldLink RX7 21 "PortRooms$Papers" "said" "[I", Cond.fieldLink RX7 15 "PortRooms$Papers" "from" "[I"]
def wsX10_markOfStopped_r2 : List Cond := [Cond.fieldLink RX7 18 "PortRooms$Papers" "to" "[I", Cond.methodLink RX7 38 yX7_isKnown, Cond.instanceMethod yX7_isKnown, Cond.selects RX7 yX7_isKnown yX7_isKnown, Cond.code yX7_isKnown cX7_isKnown 4 (some .boolean), Cond.fieldLink RX7 9 "PortRooms$Papers" "crate" "[I", Cond.fieldLink RX7 24 "PortRooms$Papers" "filed" "[I"]
def wsX10_markOfStopped : List Cond := .code yX10_markOfStopped cX10_markOfStopped 2 (some .int) :: ((wsX10_markOfStopped_r1 ++ wsX10_markOfStopped_r2) ++ wsX100 ++ wsX10 ++ wsX70)
def wsX10_sizeOfStopped_r1 : List Cond := [Cond.methodLink RX10 358 yX10_leave, Cond.instanceMethod yX10_leave, Cond.selects RX10 yX10_leave yX10_leave, Cond.initialized RX10, Cond.code yX10_leave cX10_leave 2 none, Cond.fieldLink RX10 307 "PortRooms" "traced" "I", Cond.fieldLink RX10 72 "PortRooms" "trace" "[I", Cond.methodLink RX10 349 yX10_markOfStopped, Cond.instanceMethod yX10_markOfStopped, Cond.selects RX10 yX10_markOfStopped yX10_markOfStopped, Cond.code yX10_markOfStopped cX10_markOfStopped 2 (some .int), Cond.methodLink RX10 355 yX10_markLent, Cond.instanceMethod yX10_markLent, Cond.selects RX10 yX10_markLent yX10_markLent, Cond.code yX10_markLent cX10_markLent 2 (some .int), Cond.fieldLink RX10 33 "PortRooms" "papers" "LPortRooms$Papers;", Cond.fieldLink RX10 26 "PortRooms" "crates" "LPortRooms$Crates;", Cond.fieldLink RX10 190 "PortRooms$Crates" "firstOwner" "[I", Cond.fieldLink RX10 298 "PortRooms" "today" "I", Cond.methodLink RX10 193 yX7_ownerOf, Cond.instanceMethod yX7_ownerOf, Cond.selects RX7 yX7_ownerOf yX7_ownerOf, Cond.initialized RX7, Cond.code yX7_ownerOf cX7_ownerOf 8 (some .int)]
def wsX10_sizeOfStopped_r2 : List Cond := [Cond.fieldLink RX7 30 "PortRooms$Papers" "count" "I", Cond.fieldLink RX7 27 "PortRooms$Papers" "order" "[I", Cond.fieldLink RX7 21 "PortRooms$Papers" "said" "[I", Cond.fieldLink RX7 15 "PortRooms$Papers" "from" "[I", Cond.fieldLink RX7 18 "PortRooms$Papers" "to" "[I", Cond.methodLink RX7 38 yX7_isKnown, Cond.instanceMethod yX7_isKnown, Cond.selects RX7 yX7_isKnown yX7_isKnown, Cond.code yX7_isKnown cX7_isKnown 4 (some .boolean), Cond.fieldLink RX7 9 "PortRooms$Papers" "crate" "[I", Cond.fieldLink RX7 24 "PortRooms$Papers" "filed" "[I"]
def wsX10_sizeOfStopped : List Cond := .code yX10_sizeOfStopped cX10_sizeOfStopped 2 (some .int) :: ((wsX10_sizeOfStopped_r1 ++ wsX10_sizeOfStopped_r2) ++ wsX100 ++ wsX10 ++ wsX70)
def wsX10_askSize_r1 : List Cond := [Cond.methodLink RX10 334 yX10_sizeOfOwed, Cond.instanceMethod yX10_sizeOfOwed, Cond.selects RX10 yX10_sizeOfOwed yX10_sizeOfOwed, Cond.initialized RX10, Cond.code yX10_sizeOfOwed cX10_sizeOfOwed 2 (some .int), Cond.fieldLink RX10 40 "PortRooms" "pledges" "LPortRooms$Pledges;", Cond.fieldLink RX10 298 "PortRooms" "today" "I", Cond.methodLink RX10 358 yX10_leave, Cond.instanceMethod yX10_leave, Cond.selects RX10 yX10_leave yX10_leave, Cond.code yX10_leave cX10_leave 2 none, Cond.fieldLink RX10 307 "PortRooms" "traced" "I", Cond.fieldLink RX10 72 "PortRooms" "trace" "[I", Cond.methodLink RX10 343 yX10_sizeLent, Cond.instanceMethod yX10_sizeLent, Cond.selects RX10 yX10_sizeLent yX10_sizeLent, Cond.code yX10_sizeLent cX10_sizeLent 2 (some .int), Cond.fieldLink RX10 26 "PortRooms" "crates" "LPortRooms$Crates;", Cond.fieldLink RX10 207 "PortRooms$Crates" "worth" "[I", Cond.methodLink RX10 331 yX8_sumsOn, Cond.instanceMethod yX8_sumsOn, Cond.selects RX8 yX8_sumsOn yX8_sumsOn, Cond.initialized RX8, Cond.code yX8_sumsOn cX8_sumsOn 5 (some .int)]
def wsX10_askSize_r2 : List Cond := [Cond.fieldLink RX8 27 "PortRooms$Pledges" "count" "I", Cond.fieldLink RX8 15 "PortRooms$Pledges" "sum" "[I", Cond.methodLink RX8 31 yX8_isKnown, Cond.instanceMethod yX8_isKnown, Cond.selects RX8 yX8_isKnown yX8_isKnown, Cond.code yX8_isKnown cX8_isKnown 4 (some .boolean), Cond.fieldLink RX8 9 "PortRooms$Pledges" "crate" "[I", Cond.fieldLink RX8 21 "PortRooms$Pledges" "filed" "[I", Cond.methodLink RX10 337 yX10_sizeOfDeep, Cond.instanceMethod yX10_sizeOfDeep, Cond.selects RX10 yX10_sizeOfDeep yX10_sizeOfDeep, Cond.code yX10_sizeOfDeep cX10_sizeOfDeep 2 (some .int), Cond.methodLink RX10 340 yX10_sizeOfStopped, Cond.instanceMethod yX10_sizeOfStopped, Cond.selects RX10 yX10_sizeOfStopped yX10_sizeOfStopped, Cond.code yX10_sizeOfStopped cX10_sizeOfStopped 2 (some .int), Cond.methodLink RX10 349 yX10_markOfStopped, Cond.instanceMethod yX10_markOfStopped, Cond.selects RX10 yX10_markOfStopped yX10_markOfStopped, Cond.code yX10_markOfStopped cX10_markOfStopped 2 (some .int), Cond.methodLink RX10 355 yX10_markLent, Cond.instanceMethod yX10_markLent, Cond.selects RX10 yX10_markLent yX10_markLent, Cond.code yX10_markLent cX10_markLent 2 (some .int)]
def wsX10_askSize_r3 : List Cond := [Cond.fieldLink RX10 33 "PortRooms" "papers" "LPortRooms$Papers;", Cond.fieldLink RX10 190 "PortRooms$Crates" "firstOwner" "[I", Cond.methodLink RX10 193 yX7_ownerOf, Cond.instanceMethod yX7_ownerOf, Cond.selects RX7 yX7_ownerOf yX7_ownerOf, Cond.initialized RX7, Cond.code yX7_ownerOf cX7_ownerOf 8 (some .int), Cond.fieldLink RX7 30 "PortRooms$Papers" "count" "I", Cond.fieldLink RX7 27 "PortRooms$Papers" "order" "[I", Cond.fieldLink RX7 21 "PortRooms$Papers" "said" "[I", Cond.fieldLink RX7 15 "PortRooms$Papers" "from" "[I", Cond.fieldLink RX7 18 "PortRooms$Papers" "to" "[I", Cond.methodLink RX7 38 yX7_isKnown, Cond.instanceMethod yX7_isKnown, Cond.selects RX7 yX7_isKnown yX7_isKnown, Cond.code yX7_isKnown cX7_isKnown 4 (some .boolean), Cond.fieldLink RX7 9 "PortRooms$Papers" "crate" "[I", Cond.fieldLink RX7 24 "PortRooms$Papers" "filed" "[I"]
def wsX10_askSize : List Cond := .code yX10_askSize cX10_askSize 3 (some .int) :: ((wsX10_askSize_r1 ++ (wsX10_askSize_r2 ++ wsX10_askSize_r3)) ++ wsX100 ++ wsX10 ++ wsX80 ++ wsX70)
def wsX10_markOfOwed_r1 : List Cond := [Cond.methodLink RX10 358 yX10_leave, Cond.instanceMethod yX10_leave, Cond.selects RX10 yX10_leave yX10_leave, Cond.initialized RX10, Cond.code yX10_leave cX10_leave 2 none, Cond.fieldLink RX10 307 "PortRooms" "traced" "I", Cond.fieldLink RX10 72 "PortRooms" "trace" "[I", Cond.methodLink RX10 355 yX10_markLent, Cond.instanceMethod yX10_markLent, Cond.selects RX10 yX10_markLent yX10_markLent, Cond.code yX10_markLent cX10_markLent 2 (some .int), Cond.fieldLink RX10 33 "PortRooms" "papers" "LPortRooms$Papers;", Cond.fieldLink RX10 26 "PortRooms" "crates" "LPortRooms$Crates;", Cond.fieldLink RX10 190 "PortRooms$Crates" "firstOwner" "[I", Cond.fieldLink RX10 298 "PortRooms" "today" "I", Cond.methodLink RX10 193 yX7_ownerOf, Cond.instanceMethod yX7_ownerOf, Cond.selects RX7 yX7_ownerOf yX7_ownerOf, Cond.initialized RX7, Cond.code yX7_ownerOf cX7_ownerOf 8 (some .int), Cond.fieldLink RX7 30 "PortRooms$Papers" "count" "I", Cond.fieldLink RX7 27 "PortRooms$Papers" "order" "[I", Cond.fieldLink RX7 21 "PortRooms$Papers" "said" "[I", Cond.fieldLink RX7 15 "PortRooms$Papers" "from" "[I"]
def wsX10_markOfOwed_r2 : List Cond := [Cond.fieldLink RX7 18 "PortRooms$Papers" "to" "[I", Cond.methodLink RX7 38 yX7_isKnown, Cond.instanceMethod yX7_isKnown, Cond.selects RX7 yX7_isKnown yX7_isKnown, Cond.code yX7_isKnown cX7_isKnown 4 (some .boolean), Cond.fieldLink RX7 9 "PortRooms$Papers" "crate" "[I", Cond.fieldLink RX7 24 "PortRooms$Papers" "filed" "[I"]
def wsX10_markOfOwed : List Cond := .code yX10_markOfOwed cX10_markOfOwed 2 (some .int) :: ((wsX10_markOfOwed_r1 ++ wsX10_markOfOwed_r2) ++ wsX100 ++ wsX10 ++ wsX70)
def wsX10_markOfClean_r1 : List Cond := [Cond.methodLink RX10 358 yX10_leave, Cond.instanceMethod yX10_leave, Cond.selects RX10 yX10_leave yX10_leave, Cond.initialized RX10, Cond.code yX10_leave cX10_leave 2 none, Cond.fieldLink RX10 307 "PortRooms" "traced" "I", Cond.fieldLink RX10 72 "PortRooms" "trace" "[I", Cond.methodLink RX10 355 yX10_markLent, Cond.instanceMethod yX10_markLent, Cond.selects RX10 yX10_markLent yX10_markLent, Cond.code yX10_markLent cX10_markLent 2 (some .int), Cond.fieldLink RX10 33 "PortRooms" "papers" "LPortRooms$Papers;", Cond.fieldLink RX10 26 "PortRooms" "crates" "LPortRooms$Crates;", Cond.fieldLink RX10 190 "PortRooms$Crates" "firstOwner" "[I", Cond.fieldLink RX10 298 "PortRooms" "today" "I", Cond.methodLink RX10 193 yX7_ownerOf, Cond.instanceMethod yX7_ownerOf, Cond.selects RX7 yX7_ownerOf yX7_ownerOf, Cond.initialized RX7, Cond.code yX7_ownerOf cX7_ownerOf 8 (some .int), Cond.fieldLink RX7 30 "PortRooms$Papers" "count" "I", Cond.fieldLink RX7 27 "PortRooms$Papers" "order" "[I", Cond.fieldLink RX7 21 "PortRooms$Papers" "said" "[I", Cond.fieldLink RX7 15 "PortRooms$Papers" "from" "[I"]
def wsX10_markOfClean_r2 : List Cond := [Cond.fieldLink RX7 18 "PortRooms$Papers" "to" "[I", Cond.methodLink RX7 38 yX7_isKnown, Cond.instanceMethod yX7_isKnown, Cond.selects RX7 yX7_isKnown yX7_isKnown, Cond.code yX7_isKnown cX7_isKnown 4 (some .boolean), Cond.fieldLink RX7 9 "PortRooms$Papers" "crate" "[I", Cond.fieldLink RX7 24 "PortRooms$Papers" "filed" "[I", Cond.methodLink RX10 343 yX10_sizeLent, Cond.instanceMethod yX10_sizeLent, Cond.selects RX10 yX10_sizeLent yX10_sizeLent, Cond.code yX10_sizeLent cX10_sizeLent 2 (some .int), Cond.fieldLink RX10 207 "PortRooms$Crates" "worth" "[I"]
def wsX10_markOfClean : List Cond := .code yX10_markOfClean cX10_markOfClean 2 (some .int) :: ((wsX10_markOfClean_r1 ++ wsX10_markOfClean_r2) ++ wsX100 ++ wsX10 ++ wsX70)
def wsX10_askMark_r1 : List Cond := [Cond.methodLink RX10 346 yX10_markOfOwed, Cond.instanceMethod yX10_markOfOwed, Cond.selects RX10 yX10_markOfOwed yX10_markOfOwed, Cond.initialized RX10, Cond.code yX10_markOfOwed cX10_markOfOwed 2 (some .int), Cond.methodLink RX10 358 yX10_leave, Cond.instanceMethod yX10_leave, Cond.selects RX10 yX10_leave yX10_leave, Cond.code yX10_leave cX10_leave 2 none, Cond.fieldLink RX10 307 "PortRooms" "traced" "I", Cond.fieldLink RX10 72 "PortRooms" "trace" "[I", Cond.methodLink RX10 355 yX10_markLent, Cond.instanceMethod yX10_markLent, Cond.selects RX10 yX10_markLent yX10_markLent, Cond.code yX10_markLent cX10_markLent 2 (some .int), Cond.fieldLink RX10 33 "PortRooms" "papers" "LPortRooms$Papers;", Cond.fieldLink RX10 26 "PortRooms" "crates" "LPortRooms$Crates;", Cond.fieldLink RX10 190 "PortRooms$Crates" "firstOwner" "[I", Cond.fieldLink RX10 298 "PortRooms" "today" "I", Cond.methodLink RX10 193 yX7_ownerOf, Cond.instanceMethod yX7_ownerOf, Cond.selects RX7 yX7_ownerOf yX7_ownerOf, Cond.initialized RX7, Cond.code yX7_ownerOf cX7_ownerOf 8 (some .int)]
def wsX10_askMark_r2 : List Cond := [Cond.fieldLink RX7 30 "PortRooms$Papers" "count" "I", Cond.fieldLink RX7 27 "PortRooms$Papers" "order" "[I", Cond.fieldLink RX7 21 "PortRooms$Papers" "said" "[I", Cond.fieldLink RX7 15 "PortRooms$Papers" "from" "[I", Cond.fieldLink RX7 18 "PortRooms$Papers" "to" "[I", Cond.methodLink RX7 38 yX7_isKnown, Cond.instanceMethod yX7_isKnown, Cond.selects RX7 yX7_isKnown yX7_isKnown, Cond.code yX7_isKnown cX7_isKnown 4 (some .boolean), Cond.fieldLink RX7 9 "PortRooms$Papers" "crate" "[I", Cond.fieldLink RX7 24 "PortRooms$Papers" "filed" "[I", Cond.methodLink RX10 349 yX10_markOfStopped, Cond.instanceMethod yX10_markOfStopped, Cond.selects RX10 yX10_markOfStopped yX10_markOfStopped, Cond.code yX10_markOfStopped cX10_markOfStopped 2 (some .int), Cond.methodLink RX10 352 yX10_markOfClean, Cond.instanceMethod yX10_markOfClean, Cond.selects RX10 yX10_markOfClean yX10_markOfClean, Cond.code yX10_markOfClean cX10_markOfClean 2 (some .int), Cond.methodLink RX10 343 yX10_sizeLent, Cond.instanceMethod yX10_sizeLent, Cond.selects RX10 yX10_sizeLent yX10_sizeLent, Cond.code yX10_sizeLent cX10_sizeLent 2 (some .int), Cond.fieldLink RX10 207 "PortRooms$Crates" "worth" "[I"]
def wsX10_askMark : List Cond := .code yX10_askMark cX10_askMark 3 (some .int) :: ((wsX10_askMark_r1 ++ wsX10_askMark_r2) ++ wsX100 ++ wsX10 ++ wsX70)
def wsX10_ask_r1 : List Cond := [Cond.constant RX10 89 (-1000001), Cond.fieldLink RX10 307 "PortRooms" "traced" "I", Cond.methodLink RX10 180 yX10_isCrate, Cond.instanceMethod yX10_isCrate, Cond.selects RX10 yX10_isCrate yX10_isCrate, Cond.initialized RX10, Cond.code yX10_isCrate cX10_isCrate 2 (some .boolean), Cond.fieldLink RX10 26 "PortRooms" "crates" "LPortRooms$Crates;", Cond.fieldLink RX10 177 "PortRooms$Crates" "count" "I", Cond.methodLink RX10 85 yX10_isBelow, Cond.static yX10_isBelow, Cond.code yX10_isBelow cX10_isBelow 2 (some .boolean), Cond.methodLink RX10 301 yX10_kindToday, Cond.instanceMethod yX10_kindToday, Cond.selects RX10 yX10_kindToday yX10_kindToday, Cond.code yX10_kindToday cX10_kindToday 3 (some .int), Cond.fieldLink RX10 298 "PortRooms" "today" "I", Cond.fieldLink RX10 40 "PortRooms" "pledges" "LPortRooms$Pledges;", Cond.fieldLink RX10 207 "PortRooms$Crates" "worth" "[I", Cond.methodLink RX10 295 yX10_isBarred, Cond.instanceMethod yX10_isBarred, Cond.selects RX10 yX10_isBarred yX10_isBarred, Cond.code yX10_isBarred cX10_isBarred 8 (some .boolean), Cond.fieldLink RX10 68 "PortRooms" "lists" "LPortRooms$Lists;"]
def wsX10_ask_r2 : List Cond := [Cond.fieldLink RX10 33 "PortRooms" "papers" "LPortRooms$Papers;", Cond.fieldLink RX10 190 "PortRooms$Crates" "firstOwner" "[I", Cond.fieldLink RX10 19 "PortRooms" "holdings" "LPortRooms$Holdings;", Cond.constantLong RX10 329 (500000), Cond.methodLink RX10 326 yX4_peopleOn, Cond.instanceMethod yX4_peopleOn, Cond.selects RX4 yX4_peopleOn yX4_peopleOn, Cond.initialized RX4, Cond.code yX4_peopleOn cX4_peopleOn 4 (some .int), Cond.fieldLink RX4 21 "PortRooms$Lists" "count" "I", Cond.fieldLink RX4 15 "PortRooms$Lists" "from" "[I", Cond.fieldLink RX4 18 "PortRooms$Lists" "to" "[I", Cond.fieldLink RX4 9 "PortRooms$Lists" "person" "[I", Cond.methodLink RX10 193 yX7_ownerOf, Cond.instanceMethod yX7_ownerOf, Cond.selects RX7 yX7_ownerOf yX7_ownerOf, Cond.initialized RX7, Cond.code yX7_ownerOf cX7_ownerOf 8 (some .int), Cond.fieldLink RX7 30 "PortRooms$Papers" "count" "I", Cond.fieldLink RX7 27 "PortRooms$Papers" "order" "[I", Cond.fieldLink RX7 21 "PortRooms$Papers" "said" "[I", Cond.fieldLink RX7 15 "PortRooms$Papers" "from" "[I", Cond.fieldLink RX7 18 "PortRooms$Papers" "to" "[I", Cond.methodLink RX7 38 yX7_isKnown]
def wsX10_ask_r3 : List Cond := [Cond.instanceMethod yX7_isKnown, Cond.selects RX7 yX7_isKnown yX7_isKnown, Cond.code yX7_isKnown cX7_isKnown 4 (some .boolean), Cond.fieldLink RX7 9 "PortRooms$Papers" "crate" "[I", Cond.fieldLink RX7 24 "PortRooms$Papers" "filed" "[I", Cond.methodLink RX10 153 yX3_lookAt, Cond.instanceMethod yX3_lookAt, Cond.selects RX3 yX3_lookAt yX3_lookAt, Cond.initialized RX3, Cond.code yX3_lookAt cX3_lookAt 4 none, Cond.fieldLink RX3 24 "PortRooms$Holdings" "part" "[I", Cond.fieldLink RX3 27 "PortRooms$Holdings" "partSince" "[I", Cond.fieldLink RX3 36 "PortRooms$Holdings" "count" "I", Cond.fieldLink RX3 9 "PortRooms$Holdings" "owner" "[I", Cond.fieldLink RX3 15 "PortRooms$Holdings" "company" "[I", Cond.fieldLink RX3 21 "PortRooms$Holdings" "since" "[I", Cond.fieldLink RX3 18 "PortRooms$Holdings" "percentage" "[I", Cond.methodLink RX3 40 yJ7_fill_53178, Cond.static yJ7_fill_53178, Cond.initialized RJ7, Cond.code yJ7_fill_53178 cJ7_fill_53178 4 none, Cond.methodLink RX3 46 yX3_place, Cond.static yX3_place, Cond.code yX3_place cX3_place 2 (some .int)]
def wsX10_ask_r4 : List Cond := [Cond.methodLink RX3 50 yX3_gatherWhoHas, Cond.instanceMethod yX3_gatherWhoHas, Cond.selects RX3 yX3_gatherWhoHas yX3_gatherWhoHas, Cond.code yX3_gatherWhoHas cX3_gatherWhoHas 2 none, Cond.fieldLink RX3 30 "PortRooms$Holdings" "has" "[I", Cond.methodLink RX3 53 yX3_closeReach, Cond.instanceMethod yX3_closeReach, Cond.selects RX3 yX3_closeReach yX3_closeReach, Cond.code yX3_closeReach cX3_closeReach 3 none, Cond.fieldLink RX3 33 "PortRooms$Holdings" "reach" "[I", Cond.methodLink RX3 56 arraycopyName, Cond.native arraycopyName, Cond.static arraycopyName, Cond.initialized "java/lang/System", Cond.static yX10_hasBit, Cond.code yX10_hasBit cX10_hasBit 2 (some .boolean), Cond.methodLink RX10 173 yX10_hasBit, Cond.methodLink RX10 166 yX3_shareOf, Cond.instanceMethod yX3_shareOf, Cond.selects RX3 yX3_shareOf yX3_shareOf, Cond.code yX3_shareOf cX3_shareOf 6 (some .int), Cond.constant RX3 66 (1000000), Cond.constantLong RX3 75 (2000000000), Cond.methodLink RX3 77 Lib.MathLoose.min_long.x]
def wsX10_ask_r5 : List Cond := [Cond.static Lib.MathLoose.min_long.x, Cond.initialized "java/lang/Math", Cond.code Lib.MathLoose.min_long.x Lib.MathLoose.min_long.code 4 (some .long), Cond.methodLink RX3 67 yX3_leadingTo, Cond.instanceMethod yX3_leadingTo, Cond.selects RX3 yX3_leadingTo yX3_leadingTo, Cond.code yX3_leadingTo cX3_leadingTo 4 (some .int), Cond.methodLink RX3 71 yX3_along, Cond.static yX3_along, Cond.code yX3_along cX3_along 11 (some .long), Cond.methodLink RX3 83 yX3_partOf, Cond.instanceMethod yX3_partOf, Cond.selects RX3 yX3_partOf yX3_partOf, Cond.code yX3_partOf cX3_partOf 3 (some .int), Cond.methodLink RX10 331 yX8_sumsOn, Cond.instanceMethod yX8_sumsOn, Cond.selects RX8 yX8_sumsOn yX8_sumsOn, Cond.initialized RX8, Cond.code yX8_sumsOn cX8_sumsOn 5 (some .int), Cond.fieldLink RX8 27 "PortRooms$Pledges" "count" "I", Cond.fieldLink RX8 15 "PortRooms$Pledges" "sum" "[I", Cond.methodLink RX8 31 yX8_isKnown, Cond.instanceMethod yX8_isKnown, Cond.selects RX8 yX8_isKnown yX8_isKnown]
def wsX10_ask_r6 : List Cond := [Cond.code yX8_isKnown cX8_isKnown 4 (some .boolean), Cond.fieldLink RX8 9 "PortRooms$Pledges" "crate" "[I", Cond.fieldLink RX8 21 "PortRooms$Pledges" "filed" "[I", Cond.methodLink RX10 310 yX10_askSize, Cond.instanceMethod yX10_askSize, Cond.selects RX10 yX10_askSize yX10_askSize, Cond.code yX10_askSize cX10_askSize 3 (some .int), Cond.methodLink RX10 334 yX10_sizeOfOwed, Cond.instanceMethod yX10_sizeOfOwed, Cond.selects RX10 yX10_sizeOfOwed yX10_sizeOfOwed, Cond.code yX10_sizeOfOwed cX10_sizeOfOwed 2 (some .int), Cond.methodLink RX10 358 yX10_leave, Cond.instanceMethod yX10_leave, Cond.selects RX10 yX10_leave yX10_leave, Cond.code yX10_leave cX10_leave 2 none, Cond.fieldLink RX10 72 "PortRooms" "trace" "[I", Cond.methodLink RX10 343 yX10_sizeLent, Cond.instanceMethod yX10_sizeLent, Cond.selects RX10 yX10_sizeLent yX10_sizeLent, Cond.code yX10_sizeLent cX10_sizeLent 2 (some .int), Cond.methodLink RX10 337 yX10_sizeOfDeep, Cond.instanceMethod yX10_sizeOfDeep, Cond.selects RX10 yX10_sizeOfDeep yX10_sizeOfDeep, Cond.code yX10_sizeOfDeep cX10_sizeOfDeep 2 (some .int)]
def wsX10_ask_r7 : List Cond := [Cond.methodLink RX10 340 yX10_sizeOfStopped, Cond.instanceMethod yX10_sizeOfStopped, Cond.selects RX10 yX10_sizeOfStopped yX10_sizeOfStopped, Cond.code yX10_sizeOfStopped cX10_sizeOfStopped 2 (some .int), Cond.methodLink RX10 349 yX10_markOfStopped, Cond.instanceMethod yX10_markOfStopped, Cond.selects RX10 yX10_markOfStopped yX10_markOfStopped, Cond.code yX10_markOfStopped cX10_markOfStopped 2 (some .int), Cond.methodLink RX10 355 yX10_markLent, Cond.instanceMethod yX10_markLent, Cond.selects RX10 yX10_markLent yX10_markLent, Cond.code yX10_markLent cX10_markLent 2 (some .int), Cond.methodLink RX10 313 yX10_askMark, Cond.instanceMethod yX10_askMark, Cond.selects RX10 yX10_askMark yX10_askMark, Cond.code yX10_askMark cX10_askMark 3 (some .int), Cond.methodLink RX10 346 yX10_markOfOwed, Cond.instanceMethod yX10_markOfOwed, Cond.selects RX10 yX10_markOfOwed yX10_markOfOwed, Cond.code yX10_markOfOwed cX10_markOfOwed 2 (some .int), Cond.methodLink RX10 352 yX10_markOfClean, Cond.instanceMethod yX10_markOfClean, Cond.selects RX10 yX10_markOfClean yX10_markOfClean, Cond.code yX10_markOfClean cX10_markOfClean 2 (some .int)]
def wsX10_ask : List Cond := .code yX10_ask cX10_ask 4 (some .int) :: ((wsX10_ask_r1 ++ (wsX10_ask_r2 ++ (wsX10_ask_r3 ++ (wsX10_ask_r4 ++ (wsX10_ask_r5 ++ (wsX10_ask_r6 ++ wsX10_ask_r7)))))) ++ wsX100 ++ wsX10 ++ wsX40 ++ wsX70 ++ wsX30 ++ wsX80)
def wsX10_trace : List Cond := .code yX10_trace cX10_trace 2 (some .int) :: ([.fieldLink RX10 307 "PortRooms" "traced" "I", .fieldLink RX10 72 "PortRooms" "trace" "[I", .constant RX10 169 (-1000000), .methodLink RX10 85 yX10_isBelow, .static yX10_isBelow, .initialized RX10, .code yX10_isBelow cX10_isBelow 2 (some .boolean)] ++ wsX100)
def wsX10_count_r1 : List Cond := [Cond.fieldLink RX10 10 "PortRooms" "sheets" "LPortRooms$Sheets;", Cond.fieldLink RX10 19 "PortRooms" "holdings" "LPortRooms$Holdings;", Cond.fieldLink RX10 141 "PortRooms$Holdings" "count" "I", Cond.fieldLink RX10 26 "PortRooms" "crates" "LPortRooms$Crates;", Cond.fieldLink RX10 177 "PortRooms$Crates" "count" "I", Cond.fieldLink RX10 33 "PortRooms" "papers" "LPortRooms$Papers;", Cond.fieldLink RX10 186 "PortRooms$Papers" "count" "I", Cond.fieldLink RX10 40 "PortRooms" "pledges" "LPortRooms$Pledges;", Cond.fieldLink RX10 199 "PortRooms$Pledges" "count" "I", Cond.fieldLink RX10 47 "PortRooms" "duties" "LPortRooms$Duties;", Cond.fieldLink RX10 319 "PortRooms$Duties" "lines" "I", Cond.fieldLink RX10 54 "PortRooms" "acts" "LPortRooms$Acts;", Cond.fieldLink RX10 227 "PortRooms$Acts" "count" "I", Cond.fieldLink RX10 61 "PortRooms" "openings" "LPortRooms$Openings;", Cond.fieldLink RX10 287 "PortRooms$Openings" "count" "I", Cond.fieldLink RX10 68 "PortRooms" "lists" "LPortRooms$Lists;", Cond.fieldLink RX10 292 "PortRooms$Lists" "count" "I", Cond.fieldLink RX10 213 "PortRooms$Duties" "length" "I", Cond.constant RX10 89 (-1000001), Cond.methodLink RX10 316 yX9_howMany, Cond.instanceMethod yX9_howMany, Cond.selects RX9 yX9_howMany yX9_howMany, Cond.initialized RX9, Cond.code yX9_howMany cX9_howMany 3 (some .int)]
def wsX10_count_r2 : List Cond := [Cond.methodLink RX9 29 yX9_isMissing, Cond.instanceMethod yX9_isMissing, Cond.selects RX9 yX9_isMissing yX9_isMissing, Cond.code yX9_isMissing cX9_isMissing 2 (some .boolean), Cond.fieldLink RX9 20 "PortRooms$Sheets" "size" "[I"]
def wsX10_count : List Cond := .code yX10_count cX10_count 2 (some .int) :: ((wsX10_count_r1 ++ wsX10_count_r2) ++ wsX100 ++ wsX30 ++ wsX10 ++ wsX70 ++ wsX80 ++ wsX20 ++ wsX00 ++ wsX60 ++ wsX40 ++ wsX90)
def wsX10_status : List Cond := .code yX10_status cX10_status 1 (some .int) :: ([.fieldLink RX10 322 "PortRooms" "latestFinding" "I"] ++ wsX100)
def wsX11_in : List Cond := .code yX11_in cX11_in 6 (some .boolean) :: ([])
def wsX11_init_r1 : List Cond := [Cond.methodLink RX11 7 objectInit, Cond.instanceMethod objectInit, Cond.code objectInit ⟨#[0xb1]⟩ 1 none, Cond.arrayClass .int, Cond.fieldLink RX11 13 "PortRoomsModel" "lane" "[I", Cond.fieldLink RX11 17 "PortRoomsModel" "many" "[I", Cond.fieldLink RX11 20 "PortRoomsModel" "item" "[I", Cond.fieldLink RX11 23 "PortRoomsModel" "holder" "[I", Cond.fieldLink RX11 26 "PortRoomsModel" "held" "[I", Cond.fieldLink RX11 29 "PortRoomsModel" "part" "[I", Cond.fieldLink RX11 32 "PortRoomsModel" "since" "[I", Cond.fieldLink RX11 35 "PortRoomsModel" "has" "[I", Cond.fieldLink RX11 38 "PortRoomsModel" "path" "[I", Cond.fieldLink RX11 41 "PortRoomsModel" "tried" "[I", Cond.arrayClass .long, Cond.fieldLink RX11 44 "PortRoomsModel" "flow" "[J", Cond.fieldLink RX11 48 "PortRoomsModel" "first" "[I", Cond.fieldLink RX11 51 "PortRoomsModel" "worth" "[I", Cond.fieldLink RX11 54 "PortRoomsModel" "paperCrate" "[I", Cond.fieldLink RX11 57 "PortRoomsModel" "paperFrom" "[I", Cond.fieldLink RX11 60 "PortRoomsModel" "paperTo" "[I", Cond.fieldLink RX11 63 "PortRoomsModel" "paperSaid" "[I", Cond.fieldLink RX11 66 "PortRoomsModel" "paperFiled" "[I", Cond.fieldLink RX11 69 "PortRoomsModel" "pledgeCrate" "[I"]
def wsX11_init_r2 : List Cond := [Cond.fieldLink RX11 72 "PortRoomsModel" "pledgeSum" "[I", Cond.fieldLink RX11 75 "PortRoomsModel" "pledgeSaid" "[I", Cond.fieldLink RX11 78 "PortRoomsModel" "pledgeFiled" "[I", Cond.fieldLink RX11 81 "PortRoomsModel" "line" "[I", Cond.fieldLink RX11 84 "PortRoomsModel" "newLine" "[I", Cond.fieldLink RX11 87 "PortRoomsModel" "tape" "[I", Cond.fieldLink RX11 90 "PortRoomsModel" "actCrate" "[I", Cond.fieldLink RX11 93 "PortRoomsModel" "actWhat" "[I", Cond.fieldLink RX11 96 "PortRoomsModel" "actDay" "[I", Cond.fieldLink RX11 99 "PortRoomsModel" "actDays" "[I", Cond.fieldLink RX11 102 "PortRoomsModel" "air" "[I", Cond.fieldLink RX11 105 "PortRoomsModel" "insured" "[I", Cond.fieldLink RX11 108 "PortRoomsModel" "where" "[I", Cond.fieldLink RX11 111 "PortRoomsModel" "openCrate" "[I", Cond.fieldLink RX11 114 "PortRoomsModel" "openDay" "[I", Cond.fieldLink RX11 117 "PortRoomsModel" "openWeight" "[I", Cond.fieldLink RX11 120 "PortRoomsModel" "openMarks" "[I", Cond.fieldLink RX11 123 "PortRoomsModel" "listed" "[I", Cond.fieldLink RX11 126 "PortRoomsModel" "listFrom" "[I", Cond.fieldLink RX11 129 "PortRoomsModel" "listTo" "[I", Cond.fieldLink RX11 132 "PortRoomsModel" "trace" "[I", Cond.fieldLink RX11 135 "PortRoomsModel" "seed" "J", Cond.constant RX11 139 (-1000000), Cond.constant RX11 140 (100000)]
def wsX11_init : List Cond := .code yX11_init cX11_init 3 none :: ((wsX11_init_r1 ++ wsX11_init_r2) ++ wsX110)
def wsX11_found : List Cond := .code yX11_found cX11_found 2 (some .int) :: ([.fieldLink RX11 141 "PortRoomsModel" "status" "I", .constant RX11 144 (-1000010)] ++ wsX110)
def wsX11_isSheet : List Cond := .code yX11_isSheet cX11_isSheet 1 (some .boolean) :: ([.constantLong RX11 145 (7), .methodLink RX11 147 yX11_in, .static yX11_in, .initialized RX11, .code yX11_in cX11_in 6 (some .boolean)])
def wsX11_sheet : List Cond := .code yX11_sheet cX11_sheet 5 (some .int) :: ([.fieldLink RX11 1 "PortRoomsModel" "thrown" "I", .constantLong RX11 155 (2), .constant RX11 157 (-1000001), .fieldLink RX11 141 "PortRoomsModel" "status" "I", .fieldLink RX11 13 "PortRoomsModel" "lane" "[I", .fieldLink RX11 17 "PortRoomsModel" "many" "[I", .fieldLink RX11 20 "PortRoomsModel" "item" "[I", .methodLink RX11 151 yX11_isSheet, .static yX11_isSheet, .initialized RX11, .code yX11_isSheet cX11_isSheet 1 (some .boolean), .constantLong RX11 145 (7), .methodLink RX11 147 yX11_in, .static yX11_in, .code yX11_in cX11_in 6 (some .boolean), .methodLink RX11 158 yX11_found, .instanceMethod yX11_found, .selects RX11 yX11_found yX11_found, .code yX11_found cX11_found 2 (some .int), .constant RX11 144 (-1000010)] ++ wsX110)
def wsX11_set : List Cond := .code yX11_set cX11_set 4 (some .int) :: ([.fieldLink RX11 1 "PortRoomsModel" "thrown" "I", .constant RX11 157 (-1000001), .fieldLink RX11 141 "PortRoomsModel" "status" "I", .fieldLink RX11 13 "PortRoomsModel" "lane" "[I", .fieldLink RX11 17 "PortRoomsModel" "many" "[I", .fieldLink RX11 20 "PortRoomsModel" "item" "[I", .methodLink RX11 151 yX11_isSheet, .static yX11_isSheet, .initialized RX11, .code yX11_isSheet cX11_isSheet 1 (some .boolean), .constantLong RX11 145 (7), .methodLink RX11 147 yX11_in, .static yX11_in, .code yX11_in cX11_in 6 (some .boolean), .methodLink RX11 158 yX11_found, .instanceMethod yX11_found, .selects RX11 yX11_found yX11_found, .code yX11_found cX11_found 2 (some .int), .constant RX11 144 (-1000010)] ++ wsX110)
def wsX11_copy : List Cond := .code yX11_copy cX11_copy 9 (some .int) :: ([.fieldLink RX11 1 "PortRoomsModel" "thrown" "I", .constant RX11 157 (-1000001), .fieldLink RX11 141 "PortRoomsModel" "status" "I", .fieldLink RX11 13 "PortRoomsModel" "lane" "[I", .fieldLink RX11 17 "PortRoomsModel" "many" "[I", .fieldLink RX11 20 "PortRoomsModel" "item" "[I", .methodLink RX11 151 yX11_isSheet, .static yX11_isSheet, .initialized RX11, .code yX11_isSheet cX11_isSheet 1 (some .boolean), .constantLong RX11 145 (7), .methodLink RX11 147 yX11_in, .static yX11_in, .code yX11_in cX11_in 6 (some .boolean), .methodLink RX11 158 yX11_found, .instanceMethod yX11_found, .selects RX11 yX11_found yX11_found, .code yX11_found cX11_found 2 (some .int), .constant RX11 144 (-1000010)] ++ wsX110)
def wsX11_drop : List Cond := .code yX11_drop cX11_drop 2 (some .int) :: ([.fieldLink RX11 1 "PortRoomsModel" "thrown" "I", .constant RX11 157 (-1000001), .fieldLink RX11 141 "PortRoomsModel" "status" "I", .fieldLink RX11 13 "PortRoomsModel" "lane" "[I", .fieldLink RX11 17 "PortRoomsModel" "many" "[I", .methodLink RX11 151 yX11_isSheet, .static yX11_isSheet, .initialized RX11, .code yX11_isSheet cX11_isSheet 1 (some .boolean), .constantLong RX11 145 (7), .methodLink RX11 147 yX11_in, .static yX11_in, .code yX11_in cX11_in 6 (some .boolean), .methodLink RX11 158 yX11_found, .instanceMethod yX11_found, .selects RX11 yX11_found yX11_found, .code yX11_found cX11_found 2 (some .int), .constant RX11 144 (-1000010)] ++ wsX110)
def wsX11_isOwner : List Cond := .code yX11_isOwner cX11_isOwner 1 (some .boolean) :: ([.constantLong RX11 162 (19), .methodLink RX11 147 yX11_in, .static yX11_in, .initialized RX11, .code yX11_in cX11_in 6 (some .boolean)])
def wsX11_isPerson : List Cond := .code yX11_isPerson cX11_isPerson 1 (some .boolean) :: ([.constantLong RX11 164 (9), .methodLink RX11 147 yX11_in, .static yX11_in, .initialized RX11, .code yX11_in cX11_in 6 (some .boolean)])
def wsX11_isCompany : List Cond := .code yX11_isCompany cX11_isCompany 1 (some .boolean) :: ([.constantLong RX11 166 (10), .constantLong RX11 162 (19), .methodLink RX11 147 yX11_in, .static yX11_in, .initialized RX11, .code yX11_in cX11_in 6 (some .boolean)])
def wsX11_isDay : List Cond := .code yX11_isDay cX11_isDay 1 (some .boolean) :: ([.constantLong RX11 168 (9999), .methodLink RX11 147 yX11_in, .static yX11_in, .initialized RX11, .code yX11_in cX11_in 6 (some .boolean)])
def wsX11_holding : List Cond := .code yX11_holding cX11_holding 5 (some .int) :: ([.constantLong RX11 176 (100), .constant RX11 157 (-1000001), .fieldLink RX11 181 "PortRoomsModel" "holdings" "I", .constant RX11 184 (-1000003), .fieldLink RX11 23 "PortRoomsModel" "holder" "[I", .fieldLink RX11 26 "PortRoomsModel" "held" "[I", .fieldLink RX11 29 "PortRoomsModel" "part" "[I", .fieldLink RX11 32 "PortRoomsModel" "since" "[I", .methodLink RX11 170 yX11_isOwner, .static yX11_isOwner, .initialized RX11, .code yX11_isOwner cX11_isOwner 1 (some .boolean), .constantLong RX11 162 (19), .methodLink RX11 147 yX11_in, .static yX11_in, .code yX11_in cX11_in 6 (some .boolean), .methodLink RX11 173 yX11_isCompany, .static yX11_isCompany, .code yX11_isCompany cX11_isCompany 1 (some .boolean), .constantLong RX11 166 (10), .methodLink RX11 178 yX11_isDay, .static yX11_isDay, .code yX11_isDay cX11_isDay 1 (some .boolean), .constantLong RX11 168 (9999)] ++ wsX110)
def wsX11_hold_r1 : List Cond := [Cond.fieldLink RX11 1 "PortRoomsModel" "thrown" "I", Cond.methodLink RX11 185 yX11_holding, Cond.instanceMethod yX11_holding, Cond.selects RX11 yX11_holding yX11_holding, Cond.initialized RX11, Cond.code yX11_holding cX11_holding 5 (some .int), Cond.constantLong RX11 176 (100), Cond.constant RX11 157 (-1000001), Cond.fieldLink RX11 181 "PortRoomsModel" "holdings" "I", Cond.constant RX11 184 (-1000003), Cond.fieldLink RX11 23 "PortRoomsModel" "holder" "[I", Cond.fieldLink RX11 26 "PortRoomsModel" "held" "[I", Cond.fieldLink RX11 29 "PortRoomsModel" "part" "[I", Cond.fieldLink RX11 32 "PortRoomsModel" "since" "[I", Cond.methodLink RX11 170 yX11_isOwner, Cond.static yX11_isOwner, Cond.code yX11_isOwner cX11_isOwner 1 (some .boolean), Cond.constantLong RX11 162 (19), Cond.methodLink RX11 147 yX11_in, Cond.static yX11_in, Cond.code yX11_in cX11_in 6 (some .boolean), Cond.methodLink RX11 173 yX11_isCompany, Cond.static yX11_isCompany, Cond.code yX11_isCompany cX11_isCompany 1 (some .boolean)]
def wsX11_hold_r2 : List Cond := [Cond.constantLong RX11 166 (10), Cond.methodLink RX11 178 yX11_isDay, Cond.static yX11_isDay, Cond.code yX11_isDay cX11_isDay 1 (some .boolean), Cond.constantLong RX11 168 (9999)]
def wsX11_hold : List Cond := .code yX11_hold cX11_hold 5 (some .int) :: ((wsX11_hold_r1 ++ wsX11_hold_r2) ++ wsX110)
def wsX11_holds_r1 : List Cond := [Cond.fieldLink RX11 1 "PortRoomsModel" "thrown" "I", Cond.constantLong RX11 189 (15), Cond.constant RX11 157 (-1000001), Cond.fieldLink RX11 141 "PortRoomsModel" "status" "I", Cond.fieldLink RX11 13 "PortRoomsModel" "lane" "[I", Cond.fieldLink RX11 17 "PortRoomsModel" "many" "[I", Cond.fieldLink RX11 20 "PortRoomsModel" "item" "[I", Cond.methodLink RX11 151 yX11_isSheet, Cond.static yX11_isSheet, Cond.initialized RX11, Cond.code yX11_isSheet cX11_isSheet 1 (some .boolean), Cond.constantLong RX11 145 (7), Cond.methodLink RX11 147 yX11_in, Cond.static yX11_in, Cond.code yX11_in cX11_in 6 (some .boolean), Cond.methodLink RX11 158 yX11_found, Cond.instanceMethod yX11_found, Cond.selects RX11 yX11_found yX11_found, Cond.code yX11_found cX11_found 2 (some .int), Cond.constant RX11 144 (-1000010), Cond.methodLink RX11 185 yX11_holding, Cond.instanceMethod yX11_holding, Cond.selects RX11 yX11_holding yX11_holding, Cond.code yX11_holding cX11_holding 5 (some .int)]
def wsX11_holds_r2 : List Cond := [Cond.constantLong RX11 176 (100), Cond.fieldLink RX11 181 "PortRoomsModel" "holdings" "I", Cond.constant RX11 184 (-1000003), Cond.fieldLink RX11 23 "PortRoomsModel" "holder" "[I", Cond.fieldLink RX11 26 "PortRoomsModel" "held" "[I", Cond.fieldLink RX11 29 "PortRoomsModel" "part" "[I", Cond.fieldLink RX11 32 "PortRoomsModel" "since" "[I", Cond.methodLink RX11 170 yX11_isOwner, Cond.static yX11_isOwner, Cond.code yX11_isOwner cX11_isOwner 1 (some .boolean), Cond.constantLong RX11 162 (19), Cond.methodLink RX11 173 yX11_isCompany, Cond.static yX11_isCompany, Cond.code yX11_isCompany cX11_isCompany 1 (some .boolean), Cond.constantLong RX11 166 (10), Cond.methodLink RX11 178 yX11_isDay, Cond.static yX11_isDay, Cond.code yX11_isDay cX11_isDay 1 (some .boolean), Cond.constantLong RX11 168 (9999)]
def wsX11_holds : List Cond := .code yX11_holds cX11_holds 7 (some .int) :: ((wsX11_holds_r1 ++ wsX11_holds_r2) ++ wsX110)
def wsX11_percentOf : List Cond := .code yX11_percentOf cX11_percentOf 6 (some .int) :: ([.constant RX11 139 (-1000000), .fieldLink RX11 181 "PortRoomsModel" "holdings" "I", .fieldLink RX11 23 "PortRoomsModel" "holder" "[I", .fieldLink RX11 26 "PortRoomsModel" "held" "[I", .fieldLink RX11 32 "PortRoomsModel" "since" "[I", .fieldLink RX11 29 "PortRoomsModel" "part" "[I"] ++ wsX110)
def wsX11_percent_r1 : List Cond := [Cond.fieldLink RX11 1 "PortRoomsModel" "thrown" "I", Cond.constant RX11 157 (-1000001), Cond.methodLink RX11 170 yX11_isOwner, Cond.static yX11_isOwner, Cond.initialized RX11, Cond.code yX11_isOwner cX11_isOwner 1 (some .boolean), Cond.constantLong RX11 162 (19), Cond.methodLink RX11 147 yX11_in, Cond.static yX11_in, Cond.code yX11_in cX11_in 6 (some .boolean), Cond.methodLink RX11 173 yX11_isCompany, Cond.static yX11_isCompany, Cond.code yX11_isCompany cX11_isCompany 1 (some .boolean), Cond.constantLong RX11 166 (10), Cond.methodLink RX11 178 yX11_isDay, Cond.static yX11_isDay, Cond.code yX11_isDay cX11_isDay 1 (some .boolean), Cond.constantLong RX11 168 (9999), Cond.methodLink RX11 191 yX11_percentOf, Cond.instanceMethod yX11_percentOf, Cond.selects RX11 yX11_percentOf yX11_percentOf, Cond.code yX11_percentOf cX11_percentOf 6 (some .int), Cond.constant RX11 139 (-1000000), Cond.fieldLink RX11 181 "PortRoomsModel" "holdings" "I"]
def wsX11_percent_r2 : List Cond := [Cond.fieldLink RX11 23 "PortRoomsModel" "holder" "[I", Cond.fieldLink RX11 26 "PortRoomsModel" "held" "[I", Cond.fieldLink RX11 32 "PortRoomsModel" "since" "[I", Cond.fieldLink RX11 29 "PortRoomsModel" "part" "[I"]
def wsX11_percent : List Cond := .code yX11_percent cX11_percent 4 (some .int) :: ((wsX11_percent_r1 ++ wsX11_percent_r2) ++ wsX110)
def wsX11_findHas : List Cond := .code yX11_findHas cX11_findHas 4 none :: ([.fieldLink RX11 35 "PortRoomsModel" "has" "[I", .methodLink RX11 191 yX11_percentOf, .instanceMethod yX11_percentOf, .selects RX11 yX11_percentOf yX11_percentOf, .initialized RX11, .code yX11_percentOf cX11_percentOf 6 (some .int), .constant RX11 139 (-1000000), .fieldLink RX11 181 "PortRoomsModel" "holdings" "I", .fieldLink RX11 23 "PortRoomsModel" "holder" "[I", .fieldLink RX11 26 "PortRoomsModel" "held" "[I", .fieldLink RX11 32 "PortRoomsModel" "since" "[I", .fieldLink RX11 29 "PortRoomsModel" "part" "[I"] ++ wsX110)
def wsX11_rowsTo : List Cond := .code yX11_rowsTo cX11_rowsTo 11 (some .long) :: ([.fieldLink RX11 38 "PortRoomsModel" "path" "[I", .fieldLink RX11 44 "PortRoomsModel" "flow" "[J", .constantLong RX11 195 (1000000), .fieldLink RX11 41 "PortRoomsModel" "tried" "[I", .fieldLink RX11 35 "PortRoomsModel" "has" "[I", .constantLong RX11 176 (100), .constantLong RX11 197 (2000000000)] ++ wsX110)
def wsX11_shareOf_r1 : List Cond := [Cond.constant RX11 199 (1000000), Cond.methodLink RX11 200 yX11_findHas, Cond.instanceMethod yX11_findHas, Cond.selects RX11 yX11_findHas yX11_findHas, Cond.initialized RX11, Cond.code yX11_findHas cX11_findHas 4 none, Cond.fieldLink RX11 35 "PortRoomsModel" "has" "[I", Cond.methodLink RX11 191 yX11_percentOf, Cond.instanceMethod yX11_percentOf, Cond.selects RX11 yX11_percentOf yX11_percentOf, Cond.code yX11_percentOf cX11_percentOf 6 (some .int), Cond.constant RX11 139 (-1000000), Cond.fieldLink RX11 181 "PortRoomsModel" "holdings" "I", Cond.fieldLink RX11 23 "PortRoomsModel" "holder" "[I", Cond.fieldLink RX11 26 "PortRoomsModel" "held" "[I", Cond.fieldLink RX11 32 "PortRoomsModel" "since" "[I", Cond.fieldLink RX11 29 "PortRoomsModel" "part" "[I", Cond.methodLink RX11 204 yX11_rowsTo, Cond.instanceMethod yX11_rowsTo, Cond.selects RX11 yX11_rowsTo yX11_rowsTo, Cond.code yX11_rowsTo cX11_rowsTo 11 (some .long), Cond.fieldLink RX11 38 "PortRoomsModel" "path" "[I", Cond.fieldLink RX11 44 "PortRoomsModel" "flow" "[J", Cond.constantLong RX11 195 (1000000)]
def wsX11_shareOf_r2 : List Cond := [Cond.fieldLink RX11 41 "PortRoomsModel" "tried" "[I", Cond.constantLong RX11 176 (100), Cond.constantLong RX11 197 (2000000000)]
def wsX11_shareOf : List Cond := .code yX11_shareOf cX11_shareOf 4 (some .int) :: ((wsX11_shareOf_r1 ++ wsX11_shareOf_r2) ++ wsX110)
def wsX11_share_r1 : List Cond := [Cond.fieldLink RX11 1 "PortRoomsModel" "thrown" "I", Cond.constant RX11 157 (-1000001), Cond.methodLink RX11 208 yX11_isPerson, Cond.static yX11_isPerson, Cond.initialized RX11, Cond.code yX11_isPerson cX11_isPerson 1 (some .boolean), Cond.constantLong RX11 164 (9), Cond.methodLink RX11 147 yX11_in, Cond.static yX11_in, Cond.code yX11_in cX11_in 6 (some .boolean), Cond.methodLink RX11 170 yX11_isOwner, Cond.static yX11_isOwner, Cond.code yX11_isOwner cX11_isOwner 1 (some .boolean), Cond.constantLong RX11 162 (19), Cond.methodLink RX11 178 yX11_isDay, Cond.static yX11_isDay, Cond.code yX11_isDay cX11_isDay 1 (some .boolean), Cond.constantLong RX11 168 (9999), Cond.methodLink RX11 211 yX11_shareOf, Cond.instanceMethod yX11_shareOf, Cond.selects RX11 yX11_shareOf yX11_shareOf, Cond.code yX11_shareOf cX11_shareOf 4 (some .int), Cond.constant RX11 199 (1000000), Cond.methodLink RX11 200 yX11_findHas]
def wsX11_share_r2 : List Cond := [Cond.instanceMethod yX11_findHas, Cond.selects RX11 yX11_findHas yX11_findHas, Cond.code yX11_findHas cX11_findHas 4 none, Cond.fieldLink RX11 35 "PortRoomsModel" "has" "[I", Cond.methodLink RX11 191 yX11_percentOf, Cond.instanceMethod yX11_percentOf, Cond.selects RX11 yX11_percentOf yX11_percentOf, Cond.code yX11_percentOf cX11_percentOf 6 (some .int), Cond.constant RX11 139 (-1000000), Cond.fieldLink RX11 181 "PortRoomsModel" "holdings" "I", Cond.fieldLink RX11 23 "PortRoomsModel" "holder" "[I", Cond.fieldLink RX11 26 "PortRoomsModel" "held" "[I", Cond.fieldLink RX11 32 "PortRoomsModel" "since" "[I", Cond.fieldLink RX11 29 "PortRoomsModel" "part" "[I", Cond.methodLink RX11 204 yX11_rowsTo, Cond.instanceMethod yX11_rowsTo, Cond.selects RX11 yX11_rowsTo yX11_rowsTo, Cond.code yX11_rowsTo cX11_rowsTo 11 (some .long), Cond.fieldLink RX11 38 "PortRoomsModel" "path" "[I", Cond.fieldLink RX11 44 "PortRoomsModel" "flow" "[J", Cond.constantLong RX11 195 (1000000), Cond.fieldLink RX11 41 "PortRoomsModel" "tried" "[I", Cond.constantLong RX11 176 (100), Cond.constantLong RX11 197 (2000000000)]
def wsX11_share : List Cond := .code yX11_share cX11_share 4 (some .int) :: ((wsX11_share_r1 ++ wsX11_share_r2) ++ wsX110)
def wsX11_truly_r1 : List Cond := [Cond.fieldLink RX11 1 "PortRoomsModel" "thrown" "I", Cond.constant RX11 157 (-1000001), Cond.constant RX11 139 (-1000000), Cond.methodLink RX11 170 yX11_isOwner, Cond.static yX11_isOwner, Cond.initialized RX11, Cond.code yX11_isOwner cX11_isOwner 1 (some .boolean), Cond.constantLong RX11 162 (19), Cond.methodLink RX11 147 yX11_in, Cond.static yX11_in, Cond.code yX11_in cX11_in 6 (some .boolean), Cond.methodLink RX11 178 yX11_isDay, Cond.static yX11_isDay, Cond.code yX11_isDay cX11_isDay 1 (some .boolean), Cond.constantLong RX11 168 (9999), Cond.methodLink RX11 211 yX11_shareOf, Cond.instanceMethod yX11_shareOf, Cond.selects RX11 yX11_shareOf yX11_shareOf, Cond.code yX11_shareOf cX11_shareOf 4 (some .int), Cond.constant RX11 199 (1000000), Cond.methodLink RX11 200 yX11_findHas, Cond.instanceMethod yX11_findHas, Cond.selects RX11 yX11_findHas yX11_findHas, Cond.code yX11_findHas cX11_findHas 4 none]
def wsX11_truly_r2 : List Cond := [Cond.fieldLink RX11 35 "PortRoomsModel" "has" "[I", Cond.methodLink RX11 191 yX11_percentOf, Cond.instanceMethod yX11_percentOf, Cond.selects RX11 yX11_percentOf yX11_percentOf, Cond.code yX11_percentOf cX11_percentOf 6 (some .int), Cond.fieldLink RX11 181 "PortRoomsModel" "holdings" "I", Cond.fieldLink RX11 23 "PortRoomsModel" "holder" "[I", Cond.fieldLink RX11 26 "PortRoomsModel" "held" "[I", Cond.fieldLink RX11 32 "PortRoomsModel" "since" "[I", Cond.fieldLink RX11 29 "PortRoomsModel" "part" "[I", Cond.methodLink RX11 204 yX11_rowsTo, Cond.instanceMethod yX11_rowsTo, Cond.selects RX11 yX11_rowsTo yX11_rowsTo, Cond.code yX11_rowsTo cX11_rowsTo 11 (some .long), Cond.fieldLink RX11 38 "PortRoomsModel" "path" "[I", Cond.fieldLink RX11 44 "PortRoomsModel" "flow" "[J", Cond.constantLong RX11 195 (1000000), Cond.fieldLink RX11 41 "PortRoomsModel" "tried" "[I", Cond.constantLong RX11 176 (100), Cond.constantLong RX11 197 (2000000000)]
def wsX11_truly : List Cond := .code yX11_truly cX11_truly 7 (some .int) :: ((wsX11_truly_r1 ++ wsX11_truly_r2) ++ wsX110)
def wsX11_rings_r1 : List Cond := [Cond.fieldLink RX11 1 "PortRoomsModel" "thrown" "I", Cond.constant RX11 157 (-1000001), Cond.fieldLink RX11 35 "PortRoomsModel" "has" "[I", Cond.methodLink RX11 178 yX11_isDay, Cond.static yX11_isDay, Cond.initialized RX11, Cond.code yX11_isDay cX11_isDay 1 (some .boolean), Cond.constantLong RX11 168 (9999), Cond.methodLink RX11 147 yX11_in, Cond.static yX11_in, Cond.code yX11_in cX11_in 6 (some .boolean), Cond.methodLink RX11 200 yX11_findHas, Cond.instanceMethod yX11_findHas, Cond.selects RX11 yX11_findHas yX11_findHas, Cond.code yX11_findHas cX11_findHas 4 none, Cond.methodLink RX11 191 yX11_percentOf, Cond.instanceMethod yX11_percentOf, Cond.selects RX11 yX11_percentOf yX11_percentOf, Cond.code yX11_percentOf cX11_percentOf 6 (some .int), Cond.constant RX11 139 (-1000000), Cond.fieldLink RX11 181 "PortRoomsModel" "holdings" "I", Cond.fieldLink RX11 23 "PortRoomsModel" "holder" "[I", Cond.fieldLink RX11 26 "PortRoomsModel" "held" "[I", Cond.fieldLink RX11 32 "PortRoomsModel" "since" "[I"]
def wsX11_rings_r2 : List Cond := [Cond.fieldLink RX11 29 "PortRoomsModel" "part" "[I"]
def wsX11_rings : List Cond := .code yX11_rings cX11_rings 10 (some .int) :: ((wsX11_rings_r1 ++ wsX11_rings_r2) ++ wsX110)
def wsX11_isCrate : List Cond := .code yX11_isCrate cX11_isCrate 2 (some .boolean) :: ([.fieldLink RX11 214 "PortRoomsModel" "crates" "I", .methodLink RX11 147 yX11_in, .static yX11_in, .initialized RX11, .code yX11_in cX11_in 6 (some .boolean)] ++ wsX110)
def wsX11_crate : List Cond := .code yX11_crate cX11_crate 3 (some .int) :: ([.fieldLink RX11 1 "PortRoomsModel" "thrown" "I", .constantLong RX11 217 (100000), .constant RX11 157 (-1000001), .fieldLink RX11 214 "PortRoomsModel" "crates" "I", .constant RX11 184 (-1000003), .fieldLink RX11 48 "PortRoomsModel" "first" "[I", .fieldLink RX11 51 "PortRoomsModel" "worth" "[I", .methodLink RX11 170 yX11_isOwner, .static yX11_isOwner, .initialized RX11, .code yX11_isOwner cX11_isOwner 1 (some .boolean), .constantLong RX11 162 (19), .methodLink RX11 147 yX11_in, .static yX11_in, .code yX11_in cX11_in 6 (some .boolean)] ++ wsX110)
def wsX11_paper_r1 : List Cond := [Cond.fieldLink RX11 1 "PortRoomsModel" "thrown" "I", Cond.constantLong RX11 168 (9999), Cond.constant RX11 157 (-1000001), Cond.fieldLink RX11 222 "PortRoomsModel" "papers" "I", Cond.constant RX11 184 (-1000003), Cond.fieldLink RX11 54 "PortRoomsModel" "paperCrate" "[I", Cond.fieldLink RX11 57 "PortRoomsModel" "paperFrom" "[I", Cond.fieldLink RX11 60 "PortRoomsModel" "paperTo" "[I", Cond.fieldLink RX11 63 "PortRoomsModel" "paperSaid" "[I", Cond.fieldLink RX11 66 "PortRoomsModel" "paperFiled" "[I", Cond.methodLink RX11 219 yX11_isCrate, Cond.instanceMethod yX11_isCrate, Cond.selects RX11 yX11_isCrate yX11_isCrate, Cond.initialized RX11, Cond.code yX11_isCrate cX11_isCrate 2 (some .boolean), Cond.fieldLink RX11 214 "PortRoomsModel" "crates" "I", Cond.methodLink RX11 147 yX11_in, Cond.static yX11_in, Cond.code yX11_in cX11_in 6 (some .boolean), Cond.methodLink RX11 170 yX11_isOwner, Cond.static yX11_isOwner, Cond.code yX11_isOwner cX11_isOwner 1 (some .boolean), Cond.constantLong RX11 162 (19), Cond.methodLink RX11 178 yX11_isDay]
def wsX11_paper_r2 : List Cond := [Cond.static yX11_isDay, Cond.code yX11_isDay cX11_isDay 1 (some .boolean)]
def wsX11_paper : List Cond := .code yX11_paper cX11_paper 6 (some .int) :: ((wsX11_paper_r1 ++ wsX11_paper_r2) ++ wsX110)
def wsX11_ownerOf : List Cond := .code yX11_ownerOf cX11_ownerOf 12 (some .int) :: ([.fieldLink RX11 48 "PortRoomsModel" "first" "[I", .fieldLink RX11 225 "PortRoomsModel" "quarrelling" "I", .constant RX11 139 (-1000000), .fieldLink RX11 222 "PortRoomsModel" "papers" "I", .fieldLink RX11 54 "PortRoomsModel" "paperCrate" "[I", .fieldLink RX11 66 "PortRoomsModel" "paperFiled" "[I", .fieldLink RX11 63 "PortRoomsModel" "paperSaid" "[I", .fieldLink RX11 57 "PortRoomsModel" "paperFrom" "[I", .fieldLink RX11 60 "PortRoomsModel" "paperTo" "[I"] ++ wsX110)
def wsX11_owner_r1 : List Cond := [Cond.fieldLink RX11 1 "PortRoomsModel" "thrown" "I", Cond.constant RX11 157 (-1000001), Cond.methodLink RX11 219 yX11_isCrate, Cond.instanceMethod yX11_isCrate, Cond.selects RX11 yX11_isCrate yX11_isCrate, Cond.initialized RX11, Cond.code yX11_isCrate cX11_isCrate 2 (some .boolean), Cond.fieldLink RX11 214 "PortRoomsModel" "crates" "I", Cond.methodLink RX11 147 yX11_in, Cond.static yX11_in, Cond.code yX11_in cX11_in 6 (some .boolean), Cond.methodLink RX11 178 yX11_isDay, Cond.static yX11_isDay, Cond.code yX11_isDay cX11_isDay 1 (some .boolean), Cond.constantLong RX11 168 (9999), Cond.methodLink RX11 228 yX11_ownerOf, Cond.instanceMethod yX11_ownerOf, Cond.selects RX11 yX11_ownerOf yX11_ownerOf, Cond.code yX11_ownerOf cX11_ownerOf 12 (some .int), Cond.fieldLink RX11 48 "PortRoomsModel" "first" "[I", Cond.fieldLink RX11 225 "PortRoomsModel" "quarrelling" "I", Cond.constant RX11 139 (-1000000), Cond.fieldLink RX11 222 "PortRoomsModel" "papers" "I", Cond.fieldLink RX11 54 "PortRoomsModel" "paperCrate" "[I"]
def wsX11_owner_r2 : List Cond := [Cond.fieldLink RX11 66 "PortRoomsModel" "paperFiled" "[I", Cond.fieldLink RX11 63 "PortRoomsModel" "paperSaid" "[I", Cond.fieldLink RX11 57 "PortRoomsModel" "paperFrom" "[I", Cond.fieldLink RX11 60 "PortRoomsModel" "paperTo" "[I"]
def wsX11_owner : List Cond := .code yX11_owner cX11_owner 4 (some .int) :: ((wsX11_owner_r1 ++ wsX11_owner_r2) ++ wsX110)
def wsX11_quarrels_r1 : List Cond := [Cond.fieldLink RX11 1 "PortRoomsModel" "thrown" "I", Cond.constant RX11 157 (-1000001), Cond.fieldLink RX11 225 "PortRoomsModel" "quarrelling" "I", Cond.methodLink RX11 219 yX11_isCrate, Cond.instanceMethod yX11_isCrate, Cond.selects RX11 yX11_isCrate yX11_isCrate, Cond.initialized RX11, Cond.code yX11_isCrate cX11_isCrate 2 (some .boolean), Cond.fieldLink RX11 214 "PortRoomsModel" "crates" "I", Cond.methodLink RX11 147 yX11_in, Cond.static yX11_in, Cond.code yX11_in cX11_in 6 (some .boolean), Cond.methodLink RX11 178 yX11_isDay, Cond.static yX11_isDay, Cond.code yX11_isDay cX11_isDay 1 (some .boolean), Cond.constantLong RX11 168 (9999), Cond.methodLink RX11 228 yX11_ownerOf, Cond.instanceMethod yX11_ownerOf, Cond.selects RX11 yX11_ownerOf yX11_ownerOf, Cond.code yX11_ownerOf cX11_ownerOf 12 (some .int), Cond.fieldLink RX11 48 "PortRoomsModel" "first" "[I", Cond.constant RX11 139 (-1000000), Cond.fieldLink RX11 222 "PortRoomsModel" "papers" "I", Cond.fieldLink RX11 54 "PortRoomsModel" "paperCrate" "[I"]
def wsX11_quarrels_r2 : List Cond := [Cond.fieldLink RX11 66 "PortRoomsModel" "paperFiled" "[I", Cond.fieldLink RX11 63 "PortRoomsModel" "paperSaid" "[I", Cond.fieldLink RX11 57 "PortRoomsModel" "paperFrom" "[I", Cond.fieldLink RX11 60 "PortRoomsModel" "paperTo" "[I"]
def wsX11_quarrels : List Cond := .code yX11_quarrels cX11_quarrels 4 (some .int) :: ((wsX11_quarrels_r1 ++ wsX11_quarrels_r2) ++ wsX110)
def wsX11_pledge_r1 : List Cond := [Cond.fieldLink RX11 1 "PortRoomsModel" "thrown" "I", Cond.constantLong RX11 217 (100000), Cond.constantLong RX11 168 (9999), Cond.constant RX11 157 (-1000001), Cond.fieldLink RX11 231 "PortRoomsModel" "pledges" "I", Cond.constant RX11 184 (-1000003), Cond.fieldLink RX11 69 "PortRoomsModel" "pledgeCrate" "[I", Cond.fieldLink RX11 72 "PortRoomsModel" "pledgeSum" "[I", Cond.fieldLink RX11 75 "PortRoomsModel" "pledgeSaid" "[I", Cond.fieldLink RX11 78 "PortRoomsModel" "pledgeFiled" "[I", Cond.methodLink RX11 219 yX11_isCrate, Cond.instanceMethod yX11_isCrate, Cond.selects RX11 yX11_isCrate yX11_isCrate, Cond.initialized RX11, Cond.code yX11_isCrate cX11_isCrate 2 (some .boolean), Cond.fieldLink RX11 214 "PortRoomsModel" "crates" "I", Cond.methodLink RX11 147 yX11_in, Cond.static yX11_in, Cond.code yX11_in cX11_in 6 (some .boolean), Cond.methodLink RX11 208 yX11_isPerson, Cond.static yX11_isPerson, Cond.code yX11_isPerson cX11_isPerson 1 (some .boolean), Cond.constantLong RX11 164 (9), Cond.methodLink RX11 178 yX11_isDay]
def wsX11_pledge_r2 : List Cond := [Cond.static yX11_isDay, Cond.code yX11_isDay cX11_isDay 1 (some .boolean)]
def wsX11_pledge : List Cond := .code yX11_pledge cX11_pledge 6 (some .int) :: ((wsX11_pledge_r1 ++ wsX11_pledge_r2) ++ wsX110)
def wsX11_keyOf : List Cond := .code yX11_keyOf cX11_keyOf 3 (some .int) :: ([.fieldLink RX11 78 "PortRoomsModel" "pledgeFiled" "[I", .fieldLink RX11 75 "PortRoomsModel" "pledgeSaid" "[I", .fieldLink RX11 72 "PortRoomsModel" "pledgeSum" "[I"] ++ wsX110)
def wsX11_rank_r1 : List Cond := [Cond.fieldLink RX11 1 "PortRoomsModel" "thrown" "I", Cond.constantLong RX11 234 (3), Cond.constant RX11 157 (-1000001), Cond.fieldLink RX11 51 "PortRoomsModel" "worth" "[I", Cond.constant RX11 139 (-1000000), Cond.fieldLink RX11 231 "PortRoomsModel" "pledges" "I", Cond.fieldLink RX11 69 "PortRoomsModel" "pledgeCrate" "[I", Cond.fieldLink RX11 78 "PortRoomsModel" "pledgeFiled" "[I", Cond.fieldLink RX11 72 "PortRoomsModel" "pledgeSum" "[I", Cond.methodLink RX11 219 yX11_isCrate, Cond.instanceMethod yX11_isCrate, Cond.selects RX11 yX11_isCrate yX11_isCrate, Cond.initialized RX11, Cond.code yX11_isCrate cX11_isCrate 2 (some .boolean), Cond.fieldLink RX11 214 "PortRoomsModel" "crates" "I", Cond.methodLink RX11 147 yX11_in, Cond.static yX11_in, Cond.code yX11_in cX11_in 6 (some .boolean), Cond.methodLink RX11 178 yX11_isDay, Cond.static yX11_isDay, Cond.code yX11_isDay cX11_isDay 1 (some .boolean), Cond.constantLong RX11 168 (9999), Cond.methodLink RX11 236 yX11_keyOf, Cond.instanceMethod yX11_keyOf]
def wsX11_rank_r2 : List Cond := [Cond.selects RX11 yX11_keyOf yX11_keyOf, Cond.code yX11_keyOf cX11_keyOf 3 (some .int), Cond.fieldLink RX11 75 "PortRoomsModel" "pledgeSaid" "[I"]
def wsX11_rank : List Cond := .code yX11_rank cX11_rank 13 (some .int) :: ((wsX11_rank_r1 ++ wsX11_rank_r2) ++ wsX110)
def wsX11_feed : List Cond := .code yX11_feed cX11_feed 5 (some .int) :: ([.fieldLink RX11 1 "PortRoomsModel" "thrown" "I", .constantLong RX11 240 (8), .constant RX11 157 (-1000001), .fieldLink RX11 242 "PortRoomsModel" "taped" "I", .constant RX11 184 (-1000003), .fieldLink RX11 87 "PortRoomsModel" "tape" "[I", .constantLong RX11 245 (255), .methodLink RX11 147 yX11_in, .static yX11_in, .initialized RX11, .code yX11_in cX11_in 6 (some .boolean)] ++ wsX110)
def wsX11_byteAt : List Cond := .code yX11_byteAt cX11_byteAt 2 (some .int) :: ([.fieldLink RX11 247 "PortRoomsModel" "size" "I", .fieldLink RX11 87 "PortRoomsModel" "tape" "[I", .constant RX11 139 (-1000000)] ++ wsX110)
def wsX11_isLetter : List Cond := .code yX11_isLetter cX11_isLetter 1 (some .boolean) :: ([])
def wsX11_isFigure : List Cond := .code yX11_isFigure cX11_isFigure 1 (some .boolean) :: ([])
def wsX11_step : List Cond := .code yX11_step cX11_step 2 none :: ([.fieldLink RX11 250 "PortRoomsModel" "cursor" "I", .fieldLink RX11 256 "PortRoomsModel" "from" "I", .constant RX11 139 (-1000000), .fieldLink RX11 259 "PortRoomsModel" "token" "I", .fieldLink RX11 268 "PortRoomsModel" "till" "I", .methodLink RX11 253 yX11_byteAt, .instanceMethod yX11_byteAt, .selects RX11 yX11_byteAt yX11_byteAt, .initialized RX11, .code yX11_byteAt cX11_byteAt 2 (some .int), .fieldLink RX11 247 "PortRoomsModel" "size" "I", .fieldLink RX11 87 "PortRoomsModel" "tape" "[I", .methodLink RX11 262 yX11_isLetter, .static yX11_isLetter, .code yX11_isLetter cX11_isLetter 1 (some .boolean), .methodLink RX11 265 yX11_isFigure, .static yX11_isFigure, .code yX11_isFigure cX11_isFigure 1 (some .boolean)] ++ wsX110)
def wsX11_bad : List Cond := .code yX11_bad cX11_bad 2 none :: ([.fieldLink RX11 271 "PortRoomsModel" "fault" "I", .fieldLink RX11 256 "PortRoomsModel" "from" "I", .fieldLink RX11 274 "PortRoomsModel" "faultAt" "I"] ++ wsX110)
def wsX11_need_r1 : List Cond := [Cond.fieldLink RX11 271 "PortRoomsModel" "fault" "I", Cond.methodLink RX11 277 yX11_bad, Cond.instanceMethod yX11_bad, Cond.selects RX11 yX11_bad yX11_bad, Cond.initialized RX11, Cond.code yX11_bad cX11_bad 2 none, Cond.fieldLink RX11 256 "PortRoomsModel" "from" "I", Cond.fieldLink RX11 274 "PortRoomsModel" "faultAt" "I", Cond.methodLink RX11 280 yX11_step, Cond.instanceMethod yX11_step, Cond.selects RX11 yX11_step yX11_step, Cond.code yX11_step cX11_step 2 none, Cond.fieldLink RX11 250 "PortRoomsModel" "cursor" "I", Cond.constant RX11 139 (-1000000), Cond.fieldLink RX11 259 "PortRoomsModel" "token" "I", Cond.fieldLink RX11 268 "PortRoomsModel" "till" "I", Cond.methodLink RX11 253 yX11_byteAt, Cond.instanceMethod yX11_byteAt, Cond.selects RX11 yX11_byteAt yX11_byteAt, Cond.code yX11_byteAt cX11_byteAt 2 (some .int), Cond.fieldLink RX11 247 "PortRoomsModel" "size" "I", Cond.fieldLink RX11 87 "PortRoomsModel" "tape" "[I", Cond.methodLink RX11 262 yX11_isLetter, Cond.static yX11_isLetter]
def wsX11_need_r2 : List Cond := [Cond.code yX11_isLetter cX11_isLetter 1 (some .boolean), Cond.methodLink RX11 265 yX11_isFigure, Cond.static yX11_isFigure, Cond.code yX11_isFigure cX11_isFigure 1 (some .boolean)]
def wsX11_need : List Cond := .code yX11_need cX11_need 2 none :: ((wsX11_need_r1 ++ wsX11_need_r2) ++ wsX110)
def wsX11_is : List Cond := .code yX11_is cX11_is 2 (some .boolean) :: ([.fieldLink RX11 259 "PortRoomsModel" "token" "I", .fieldLink RX11 87 "PortRoomsModel" "tape" "[I", .fieldLink RX11 256 "PortRoomsModel" "from" "I"] ++ wsX110)
def wsX11_word : List Cond := .code yX11_word cX11_word 4 (some .long) :: ([.fieldLink RX11 256 "PortRoomsModel" "from" "I", .fieldLink RX11 268 "PortRoomsModel" "till" "I", .fieldLink RX11 259 "PortRoomsModel" "token" "I", .fieldLink RX11 87 "PortRoomsModel" "tape" "[I"] ++ wsX110)
def wsX11_numberUpTo_r1 : List Cond := [Cond.fieldLink RX11 256 "PortRoomsModel" "from" "I", Cond.fieldLink RX11 268 "PortRoomsModel" "till" "I", Cond.fieldLink RX11 259 "PortRoomsModel" "token" "I", Cond.fieldLink RX11 87 "PortRoomsModel" "tape" "[I", Cond.methodLink RX11 277 yX11_bad, Cond.instanceMethod yX11_bad, Cond.selects RX11 yX11_bad yX11_bad, Cond.initialized RX11, Cond.code yX11_bad cX11_bad 2 none, Cond.fieldLink RX11 271 "PortRoomsModel" "fault" "I", Cond.fieldLink RX11 274 "PortRoomsModel" "faultAt" "I", Cond.methodLink RX11 283 yX11_need, Cond.instanceMethod yX11_need, Cond.selects RX11 yX11_need yX11_need, Cond.code yX11_need cX11_need 2 none, Cond.methodLink RX11 280 yX11_step, Cond.instanceMethod yX11_step, Cond.selects RX11 yX11_step yX11_step, Cond.code yX11_step cX11_step 2 none, Cond.fieldLink RX11 250 "PortRoomsModel" "cursor" "I", Cond.constant RX11 139 (-1000000), Cond.methodLink RX11 253 yX11_byteAt, Cond.instanceMethod yX11_byteAt, Cond.selects RX11 yX11_byteAt yX11_byteAt]
def wsX11_numberUpTo_r2 : List Cond := [Cond.code yX11_byteAt cX11_byteAt 2 (some .int), Cond.fieldLink RX11 247 "PortRoomsModel" "size" "I", Cond.methodLink RX11 262 yX11_isLetter, Cond.static yX11_isLetter, Cond.code yX11_isLetter cX11_isLetter 1 (some .boolean), Cond.methodLink RX11 265 yX11_isFigure, Cond.static yX11_isFigure, Cond.code yX11_isFigure cX11_isFigure 1 (some .boolean)]
def wsX11_numberUpTo : List Cond := .code yX11_numberUpTo cX11_numberUpTo 4 (some .int) :: ((wsX11_numberUpTo_r1 ++ wsX11_numberUpTo_r2) ++ wsX110)
def wsX11_duties_r1 : List Cond := [Cond.fieldLink RX11 1 "PortRoomsModel" "thrown" "I", Cond.fieldLink RX11 242 "PortRoomsModel" "taped" "I", Cond.fieldLink RX11 247 "PortRoomsModel" "size" "I", Cond.fieldLink RX11 250 "PortRoomsModel" "cursor" "I", Cond.fieldLink RX11 271 "PortRoomsModel" "fault" "I", Cond.fieldLink RX11 287 "PortRoomsModel" "newLines" "I", Cond.fieldLink RX11 259 "PortRoomsModel" "token" "I", Cond.constantLong RX11 294 (1936682084), Cond.constantLong RX11 296 (495673374574), Cond.constantLong RX11 298 (7304564), Cond.constantLong RX11 300 (120282411197796), Cond.constant RX11 139 (-1000000), Cond.constantLong RX11 308 (1885434484), Cond.fieldLink RX11 84 "PortRoomsModel" "newLine" "[I", Cond.fieldLink RX11 310 "PortRoomsModel" "latest" "I", Cond.constant RX11 313 (-1000100), Cond.fieldLink RX11 274 "PortRoomsModel" "faultAt" "I", Cond.fieldLink RX11 314 "PortRoomsModel" "lines" "I", Cond.fieldLink RX11 81 "PortRoomsModel" "line" "[I", Cond.methodLink RX11 280 yX11_step, Cond.instanceMethod yX11_step, Cond.selects RX11 yX11_step yX11_step, Cond.initialized RX11, Cond.code yX11_step cX11_step 2 none]
def wsX11_duties_r2 : List Cond := [Cond.fieldLink RX11 256 "PortRoomsModel" "from" "I", Cond.fieldLink RX11 268 "PortRoomsModel" "till" "I", Cond.methodLink RX11 253 yX11_byteAt, Cond.instanceMethod yX11_byteAt, Cond.selects RX11 yX11_byteAt yX11_byteAt, Cond.code yX11_byteAt cX11_byteAt 2 (some .int), Cond.fieldLink RX11 87 "PortRoomsModel" "tape" "[I", Cond.methodLink RX11 262 yX11_isLetter, Cond.static yX11_isLetter, Cond.code yX11_isLetter cX11_isLetter 1 (some .boolean), Cond.methodLink RX11 265 yX11_isFigure, Cond.static yX11_isFigure, Cond.code yX11_isFigure cX11_isFigure 1 (some .boolean), Cond.methodLink RX11 290 yX11_word, Cond.instanceMethod yX11_word, Cond.selects RX11 yX11_word yX11_word, Cond.code yX11_word cX11_word 4 (some .long), Cond.methodLink RX11 277 yX11_bad, Cond.instanceMethod yX11_bad, Cond.selects RX11 yX11_bad yX11_bad, Cond.code yX11_bad cX11_bad 2 none, Cond.methodLink RX11 283 yX11_need, Cond.instanceMethod yX11_need, Cond.selects RX11 yX11_need yX11_need]
def wsX11_duties_r3 : List Cond := [Cond.code yX11_need cX11_need 2 none, Cond.methodLink RX11 302 yX11_is, Cond.instanceMethod yX11_is, Cond.selects RX11 yX11_is yX11_is, Cond.code yX11_is cX11_is 2 (some .boolean), Cond.methodLink RX11 305 yX11_numberUpTo, Cond.instanceMethod yX11_numberUpTo, Cond.selects RX11 yX11_numberUpTo yX11_numberUpTo, Cond.code yX11_numberUpTo cX11_numberUpTo 4 (some .int)]
def wsX11_duties : List Cond := .code yX11_duties cX11_duties 6 (some .int) :: ((wsX11_duties_r1 ++ (wsX11_duties_r2 ++ wsX11_duties_r3)) ++ wsX110)
def wsX11_fault : List Cond := .code yX11_fault cX11_fault 1 (some .int) :: ([.fieldLink RX11 1 "PortRoomsModel" "thrown" "I", .fieldLink RX11 310 "PortRoomsModel" "latest" "I"] ++ wsX110)
def wsX11_act : List Cond := .code yX11_act cX11_act 5 (some .int) :: ([.fieldLink RX11 1 "PortRoomsModel" "thrown" "I", .constantLong RX11 234 (3), .constantLong RX11 317 (999), .constant RX11 157 (-1000001), .fieldLink RX11 319 "PortRoomsModel" "acts" "I", .constant RX11 184 (-1000003), .fieldLink RX11 90 "PortRoomsModel" "actCrate" "[I", .fieldLink RX11 93 "PortRoomsModel" "actWhat" "[I", .fieldLink RX11 96 "PortRoomsModel" "actDay" "[I", .fieldLink RX11 99 "PortRoomsModel" "actDays" "[I", .methodLink RX11 219 yX11_isCrate, .instanceMethod yX11_isCrate, .selects RX11 yX11_isCrate yX11_isCrate, .initialized RX11, .code yX11_isCrate cX11_isCrate 2 (some .boolean), .fieldLink RX11 214 "PortRoomsModel" "crates" "I", .methodLink RX11 147 yX11_in, .static yX11_in, .code yX11_in cX11_in 6 (some .boolean), .methodLink RX11 178 yX11_isDay, .static yX11_isDay, .code yX11_isDay cX11_isDay 1 (some .boolean), .constantLong RX11 168 (9999)] ++ wsX110)
def wsX11_wakes : List Cond := .code yX11_wakes cX11_wakes 3 (some .int) :: ([.fieldLink RX11 314 "PortRoomsModel" "lines" "I", .fieldLink RX11 81 "PortRoomsModel" "line" "[I", .fieldLink RX11 93 "PortRoomsModel" "actWhat" "[I", .fieldLink RX11 99 "PortRoomsModel" "actDays" "[I", .constant RX11 139 (-1000000)] ++ wsX110)
def wsX11_duty_r1 : List Cond := [Cond.fieldLink RX11 1 "PortRoomsModel" "thrown" "I", Cond.constantLong RX11 155 (2), Cond.constant RX11 157 (-1000001), Cond.constant RX11 139 (-1000000), Cond.fieldLink RX11 319 "PortRoomsModel" "acts" "I", Cond.fieldLink RX11 90 "PortRoomsModel" "actCrate" "[I", Cond.fieldLink RX11 96 "PortRoomsModel" "actDay" "[I", Cond.fieldLink RX11 51 "PortRoomsModel" "worth" "[I", Cond.fieldLink RX11 81 "PortRoomsModel" "line" "[I", Cond.methodLink RX11 219 yX11_isCrate, Cond.instanceMethod yX11_isCrate, Cond.selects RX11 yX11_isCrate yX11_isCrate, Cond.initialized RX11, Cond.code yX11_isCrate cX11_isCrate 2 (some .boolean), Cond.fieldLink RX11 214 "PortRoomsModel" "crates" "I", Cond.methodLink RX11 147 yX11_in, Cond.static yX11_in, Cond.code yX11_in cX11_in 6 (some .boolean), Cond.methodLink RX11 322 yX11_wakes, Cond.instanceMethod yX11_wakes, Cond.selects RX11 yX11_wakes yX11_wakes, Cond.code yX11_wakes cX11_wakes 3 (some .int), Cond.fieldLink RX11 314 "PortRoomsModel" "lines" "I", Cond.fieldLink RX11 93 "PortRoomsModel" "actWhat" "[I"]
def wsX11_duty_r2 : List Cond := [Cond.fieldLink RX11 99 "PortRoomsModel" "actDays" "[I"]
def wsX11_duty : List Cond := .code yX11_duty cX11_duty 6 (some .int) :: ((wsX11_duty_r1 ++ wsX11_duty_r2) ++ wsX110)
def wsX11_isRoom : List Cond := .code yX11_isRoom cX11_isRoom 1 (some .boolean) :: ([.constantLong RX11 325 (5), .methodLink RX11 147 yX11_in, .static yX11_in, .initialized RX11, .code yX11_in cX11_in 6 (some .boolean)])
def wsX11_room : List Cond := .code yX11_room cX11_room 5 (some .int) :: ([.fieldLink RX11 1 "PortRoomsModel" "thrown" "I", .constantLong RX11 330 (12), .constantLong RX11 195 (1000000), .constant RX11 157 (-1000001), .fieldLink RX11 102 "PortRoomsModel" "air" "[I", .fieldLink RX11 105 "PortRoomsModel" "insured" "[I", .methodLink RX11 327 yX11_isRoom, .static yX11_isRoom, .initialized RX11, .code yX11_isRoom cX11_isRoom 1 (some .boolean), .constantLong RX11 325 (5), .methodLink RX11 147 yX11_in, .static yX11_in, .code yX11_in cX11_in 6 (some .boolean)] ++ wsX110)
def wsX11_insideOf : List Cond := .code yX11_insideOf cX11_insideOf 5 (some .int) :: ([.fieldLink RX11 214 "PortRoomsModel" "crates" "I", .fieldLink RX11 108 "PortRoomsModel" "where" "[I", .fieldLink RX11 51 "PortRoomsModel" "worth" "[I"] ++ wsX110)
def wsX11_move_r1 : List Cond := [Cond.fieldLink RX11 1 "PortRoomsModel" "thrown" "I", Cond.constant RX11 139 (-1000000), Cond.constant RX11 157 (-1000001), Cond.fieldLink RX11 108 "PortRoomsModel" "where" "[I", Cond.constant RX11 332 (-1000002), Cond.fieldLink RX11 102 "PortRoomsModel" "air" "[I", Cond.fieldLink RX11 51 "PortRoomsModel" "worth" "[I", Cond.fieldLink RX11 105 "PortRoomsModel" "insured" "[I", Cond.constant RX11 184 (-1000003), Cond.methodLink RX11 219 yX11_isCrate, Cond.instanceMethod yX11_isCrate, Cond.selects RX11 yX11_isCrate yX11_isCrate, Cond.initialized RX11, Cond.code yX11_isCrate cX11_isCrate 2 (some .boolean), Cond.fieldLink RX11 214 "PortRoomsModel" "crates" "I", Cond.methodLink RX11 147 yX11_in, Cond.static yX11_in, Cond.code yX11_in cX11_in 6 (some .boolean), Cond.methodLink RX11 327 yX11_isRoom, Cond.static yX11_isRoom, Cond.code yX11_isRoom cX11_isRoom 1 (some .boolean), Cond.constantLong RX11 325 (5), Cond.methodLink RX11 333 yX11_insideOf, Cond.instanceMethod yX11_insideOf]
def wsX11_move_r2 : List Cond := [Cond.selects RX11 yX11_insideOf yX11_insideOf, Cond.code yX11_insideOf cX11_insideOf 5 (some .int)]
def wsX11_move : List Cond := .code yX11_move cX11_move 4 (some .int) :: ((wsX11_move_r1 ++ wsX11_move_r2) ++ wsX110)
def wsX11_inside : List Cond := .code yX11_inside cX11_inside 3 (some .int) :: ([.fieldLink RX11 1 "PortRoomsModel" "thrown" "I", .constantLong RX11 155 (2), .constant RX11 157 (-1000001), .methodLink RX11 327 yX11_isRoom, .static yX11_isRoom, .initialized RX11, .code yX11_isRoom cX11_isRoom 1 (some .boolean), .constantLong RX11 325 (5), .methodLink RX11 147 yX11_in, .static yX11_in, .code yX11_in cX11_in 6 (some .boolean), .methodLink RX11 333 yX11_insideOf, .instanceMethod yX11_insideOf, .selects RX11 yX11_insideOf yX11_insideOf, .code yX11_insideOf cX11_insideOf 5 (some .int), .fieldLink RX11 214 "PortRoomsModel" "crates" "I", .fieldLink RX11 108 "PortRoomsModel" "where" "[I", .fieldLink RX11 51 "PortRoomsModel" "worth" "[I"] ++ wsX110)
def wsX11_lotOf : List Cond := .code yX11_lotOf cX11_lotOf 5 (some .long) :: ([.fieldLink RX11 135 "PortRoomsModel" "seed" "J", .constantLong RX11 336 (1000003), .constantLong RX11 338 (8191), .constantLong RX11 340 (-7046029254386353131), .constantLong RX11 342 (-4658895280553007687), .constantLong RX11 344 (9223372036854775807)] ++ wsX110)
def wsX11_lot : List Cond := .code yX11_lot cX11_lot 4 (some .int) :: ([.fieldLink RX11 1 "PortRoomsModel" "thrown" "I", .constantLong RX11 346 (11), .constantLong RX11 195 (1000000), .constant RX11 157 (-1000001), .methodLink RX11 147 yX11_in, .static yX11_in, .initialized RX11, .code yX11_in cX11_in 6 (some .boolean), .methodLink RX11 178 yX11_isDay, .static yX11_isDay, .code yX11_isDay cX11_isDay 1 (some .boolean), .constantLong RX11 168 (9999), .methodLink RX11 348 yX11_lotOf, .instanceMethod yX11_lotOf, .selects RX11 yX11_lotOf yX11_lotOf, .code yX11_lotOf cX11_lotOf 5 (some .long), .fieldLink RX11 135 "PortRoomsModel" "seed" "J", .constantLong RX11 336 (1000003), .constantLong RX11 338 (8191), .constantLong RX11 340 (-7046029254386353131), .constantLong RX11 342 (-4658895280553007687), .constantLong RX11 344 (9223372036854775807)] ++ wsX110)
def wsX11_drawnOn : List Cond := .code yX11_drawnOn cX11_drawnOn 8 (some .int) :: ([.constant RX11 139 (-1000000), .fieldLink RX11 214 "PortRoomsModel" "crates" "I", .fieldLink RX11 108 "PortRoomsModel" "where" "[I", .methodLink RX11 348 yX11_lotOf, .instanceMethod yX11_lotOf, .selects RX11 yX11_lotOf yX11_lotOf, .initialized RX11, .code yX11_lotOf cX11_lotOf 5 (some .long), .fieldLink RX11 135 "PortRoomsModel" "seed" "J", .constantLong RX11 336 (1000003), .constantLong RX11 338 (8191), .constantLong RX11 340 (-7046029254386353131), .constantLong RX11 342 (-4658895280553007687), .constantLong RX11 344 (9223372036854775807)] ++ wsX110)
def wsX11_drawn_r1 : List Cond := [Cond.fieldLink RX11 1 "PortRoomsModel" "thrown" "I", Cond.constantLong RX11 330 (12), Cond.constant RX11 157 (-1000001), Cond.methodLink RX11 178 yX11_isDay, Cond.static yX11_isDay, Cond.initialized RX11, Cond.code yX11_isDay cX11_isDay 1 (some .boolean), Cond.constantLong RX11 168 (9999), Cond.methodLink RX11 147 yX11_in, Cond.static yX11_in, Cond.code yX11_in cX11_in 6 (some .boolean), Cond.methodLink RX11 351 yX11_drawnOn, Cond.instanceMethod yX11_drawnOn, Cond.selects RX11 yX11_drawnOn yX11_drawnOn, Cond.code yX11_drawnOn cX11_drawnOn 8 (some .int), Cond.constant RX11 139 (-1000000), Cond.fieldLink RX11 214 "PortRoomsModel" "crates" "I", Cond.fieldLink RX11 108 "PortRoomsModel" "where" "[I", Cond.methodLink RX11 348 yX11_lotOf, Cond.instanceMethod yX11_lotOf, Cond.selects RX11 yX11_lotOf yX11_lotOf, Cond.code yX11_lotOf cX11_lotOf 5 (some .long), Cond.fieldLink RX11 135 "PortRoomsModel" "seed" "J", Cond.constantLong RX11 336 (1000003)]
def wsX11_drawn_r2 : List Cond := [Cond.constantLong RX11 338 (8191), Cond.constantLong RX11 340 (-7046029254386353131), Cond.constantLong RX11 342 (-4658895280553007687), Cond.constantLong RX11 344 (9223372036854775807)]
def wsX11_drawn : List Cond := .code yX11_drawn cX11_drawn 3 (some .int) :: ((wsX11_drawn_r1 ++ wsX11_drawn_r2) ++ wsX110)
def wsX11_often_r1 : List Cond := [Cond.fieldLink RX11 1 "PortRoomsModel" "thrown" "I", Cond.constantLong RX11 330 (12), Cond.constant RX11 157 (-1000001), Cond.methodLink RX11 219 yX11_isCrate, Cond.instanceMethod yX11_isCrate, Cond.selects RX11 yX11_isCrate yX11_isCrate, Cond.initialized RX11, Cond.code yX11_isCrate cX11_isCrate 2 (some .boolean), Cond.fieldLink RX11 214 "PortRoomsModel" "crates" "I", Cond.methodLink RX11 147 yX11_in, Cond.static yX11_in, Cond.code yX11_in cX11_in 6 (some .boolean), Cond.methodLink RX11 178 yX11_isDay, Cond.static yX11_isDay, Cond.code yX11_isDay cX11_isDay 1 (some .boolean), Cond.constantLong RX11 168 (9999), Cond.methodLink RX11 351 yX11_drawnOn, Cond.instanceMethod yX11_drawnOn, Cond.selects RX11 yX11_drawnOn yX11_drawnOn, Cond.code yX11_drawnOn cX11_drawnOn 8 (some .int), Cond.constant RX11 139 (-1000000), Cond.fieldLink RX11 108 "PortRoomsModel" "where" "[I", Cond.methodLink RX11 348 yX11_lotOf, Cond.instanceMethod yX11_lotOf]
def wsX11_often_r2 : List Cond := [Cond.selects RX11 yX11_lotOf yX11_lotOf, Cond.code yX11_lotOf cX11_lotOf 5 (some .long), Cond.fieldLink RX11 135 "PortRoomsModel" "seed" "J", Cond.constantLong RX11 336 (1000003), Cond.constantLong RX11 338 (8191), Cond.constantLong RX11 340 (-7046029254386353131), Cond.constantLong RX11 342 (-4658895280553007687), Cond.constantLong RX11 344 (9223372036854775807)]
def wsX11_often : List Cond := .code yX11_often cX11_often 7 (some .int) :: ((wsX11_often_r1 ++ wsX11_often_r2) ++ wsX110)
def wsX11_opened : List Cond := .code yX11_opened cX11_opened 5 (some .int) :: ([.fieldLink RX11 1 "PortRoomsModel" "thrown" "I", .constantLong RX11 217 (100000), .constantLong RX11 245 (255), .constant RX11 157 (-1000001), .fieldLink RX11 354 "PortRoomsModel" "opens" "I", .constant RX11 184 (-1000003), .fieldLink RX11 111 "PortRoomsModel" "openCrate" "[I", .fieldLink RX11 114 "PortRoomsModel" "openDay" "[I", .fieldLink RX11 117 "PortRoomsModel" "openWeight" "[I", .fieldLink RX11 120 "PortRoomsModel" "openMarks" "[I", .methodLink RX11 219 yX11_isCrate, .instanceMethod yX11_isCrate, .selects RX11 yX11_isCrate yX11_isCrate, .initialized RX11, .code yX11_isCrate cX11_isCrate 2 (some .boolean), .fieldLink RX11 214 "PortRoomsModel" "crates" "I", .methodLink RX11 147 yX11_in, .static yX11_in, .code yX11_in cX11_in 6 (some .boolean), .methodLink RX11 178 yX11_isDay, .static yX11_isDay, .code yX11_isDay cX11_isDay 1 (some .boolean), .constantLong RX11 168 (9999)] ++ wsX110)
def wsX11_bits : List Cond := .code yX11_bits cX11_bits 3 (some .int) :: ([])
def wsX11_verdict : List Cond := .code yX11_verdict cX11_verdict 8 (some .int) :: ([.fieldLink RX11 1 "PortRoomsModel" "thrown" "I", .constant RX11 157 (-1000001), .constant RX11 139 (-1000000), .fieldLink RX11 354 "PortRoomsModel" "opens" "I", .fieldLink RX11 111 "PortRoomsModel" "openCrate" "[I", .fieldLink RX11 114 "PortRoomsModel" "openDay" "[I", .fieldLink RX11 117 "PortRoomsModel" "openWeight" "[I", .fieldLink RX11 120 "PortRoomsModel" "openMarks" "[I", .methodLink RX11 219 yX11_isCrate, .instanceMethod yX11_isCrate, .selects RX11 yX11_isCrate yX11_isCrate, .initialized RX11, .code yX11_isCrate cX11_isCrate 2 (some .boolean), .fieldLink RX11 214 "PortRoomsModel" "crates" "I", .methodLink RX11 147 yX11_in, .static yX11_in, .code yX11_in cX11_in 6 (some .boolean), .methodLink RX11 357 yX11_bits, .static yX11_bits, .code yX11_bits cX11_bits 3 (some .int)] ++ wsX110)
def wsX11_list : List Cond := .code yX11_list cX11_list 4 (some .int) :: ([.fieldLink RX11 1 "PortRoomsModel" "thrown" "I", .constantLong RX11 168 (9999), .constant RX11 157 (-1000001), .fieldLink RX11 360 "PortRoomsModel" "lists" "I", .constant RX11 184 (-1000003), .fieldLink RX11 123 "PortRoomsModel" "listed" "[I", .fieldLink RX11 126 "PortRoomsModel" "listFrom" "[I", .fieldLink RX11 129 "PortRoomsModel" "listTo" "[I", .methodLink RX11 208 yX11_isPerson, .static yX11_isPerson, .initialized RX11, .code yX11_isPerson cX11_isPerson 1 (some .boolean), .constantLong RX11 164 (9), .methodLink RX11 147 yX11_in, .static yX11_in, .code yX11_in cX11_in 6 (some .boolean), .methodLink RX11 178 yX11_isDay, .static yX11_isDay, .code yX11_isDay cX11_isDay 1 (some .boolean)] ++ wsX110)
def wsX11_isBarred_r1 : List Cond := [Cond.fieldLink RX11 360 "PortRoomsModel" "lists" "I", Cond.fieldLink RX11 126 "PortRoomsModel" "listFrom" "[I", Cond.fieldLink RX11 129 "PortRoomsModel" "listTo" "[I", Cond.fieldLink RX11 123 "PortRoomsModel" "listed" "[I", Cond.constantLong RX11 363 (500000), Cond.methodLink RX11 228 yX11_ownerOf, Cond.instanceMethod yX11_ownerOf, Cond.selects RX11 yX11_ownerOf yX11_ownerOf, Cond.initialized RX11, Cond.code yX11_ownerOf cX11_ownerOf 12 (some .int), Cond.fieldLink RX11 48 "PortRoomsModel" "first" "[I", Cond.fieldLink RX11 225 "PortRoomsModel" "quarrelling" "I", Cond.constant RX11 139 (-1000000), Cond.fieldLink RX11 222 "PortRoomsModel" "papers" "I", Cond.fieldLink RX11 54 "PortRoomsModel" "paperCrate" "[I", Cond.fieldLink RX11 66 "PortRoomsModel" "paperFiled" "[I", Cond.fieldLink RX11 63 "PortRoomsModel" "paperSaid" "[I", Cond.fieldLink RX11 57 "PortRoomsModel" "paperFrom" "[I", Cond.fieldLink RX11 60 "PortRoomsModel" "paperTo" "[I", Cond.methodLink RX11 211 yX11_shareOf, Cond.instanceMethod yX11_shareOf, Cond.selects RX11 yX11_shareOf yX11_shareOf, Cond.code yX11_shareOf cX11_shareOf 4 (some .int), Cond.constant RX11 199 (1000000)]
def wsX11_isBarred_r2 : List Cond := [Cond.methodLink RX11 200 yX11_findHas, Cond.instanceMethod yX11_findHas, Cond.selects RX11 yX11_findHas yX11_findHas, Cond.code yX11_findHas cX11_findHas 4 none, Cond.fieldLink RX11 35 "PortRoomsModel" "has" "[I", Cond.methodLink RX11 191 yX11_percentOf, Cond.instanceMethod yX11_percentOf, Cond.selects RX11 yX11_percentOf yX11_percentOf, Cond.code yX11_percentOf cX11_percentOf 6 (some .int), Cond.fieldLink RX11 181 "PortRoomsModel" "holdings" "I", Cond.fieldLink RX11 23 "PortRoomsModel" "holder" "[I", Cond.fieldLink RX11 26 "PortRoomsModel" "held" "[I", Cond.fieldLink RX11 32 "PortRoomsModel" "since" "[I", Cond.fieldLink RX11 29 "PortRoomsModel" "part" "[I", Cond.methodLink RX11 204 yX11_rowsTo, Cond.instanceMethod yX11_rowsTo, Cond.selects RX11 yX11_rowsTo yX11_rowsTo, Cond.code yX11_rowsTo cX11_rowsTo 11 (some .long), Cond.fieldLink RX11 38 "PortRoomsModel" "path" "[I", Cond.fieldLink RX11 44 "PortRoomsModel" "flow" "[J", Cond.constantLong RX11 195 (1000000), Cond.fieldLink RX11 41 "PortRoomsModel" "tried" "[I", Cond.constantLong RX11 176 (100), Cond.constantLong RX11 197 (2000000000)]
def wsX11_isBarred : List Cond := .code yX11_isBarred cX11_isBarred 8 (some .boolean) :: ((wsX11_isBarred_r1 ++ wsX11_isBarred_r2) ++ wsX110)
def wsX11_barred_r1 : List Cond := [Cond.fieldLink RX11 1 "PortRoomsModel" "thrown" "I", Cond.constant RX11 157 (-1000001), Cond.methodLink RX11 219 yX11_isCrate, Cond.instanceMethod yX11_isCrate, Cond.selects RX11 yX11_isCrate yX11_isCrate, Cond.initialized RX11, Cond.code yX11_isCrate cX11_isCrate 2 (some .boolean), Cond.fieldLink RX11 214 "PortRoomsModel" "crates" "I", Cond.methodLink RX11 147 yX11_in, Cond.static yX11_in, Cond.code yX11_in cX11_in 6 (some .boolean), Cond.methodLink RX11 178 yX11_isDay, Cond.static yX11_isDay, Cond.code yX11_isDay cX11_isDay 1 (some .boolean), Cond.constantLong RX11 168 (9999), Cond.methodLink RX11 365 yX11_isBarred, Cond.instanceMethod yX11_isBarred, Cond.selects RX11 yX11_isBarred yX11_isBarred, Cond.code yX11_isBarred cX11_isBarred 8 (some .boolean), Cond.fieldLink RX11 360 "PortRoomsModel" "lists" "I", Cond.fieldLink RX11 126 "PortRoomsModel" "listFrom" "[I", Cond.fieldLink RX11 129 "PortRoomsModel" "listTo" "[I", Cond.fieldLink RX11 123 "PortRoomsModel" "listed" "[I", Cond.constantLong RX11 363 (500000)]
def wsX11_barred_r2 : List Cond := [Cond.methodLink RX11 228 yX11_ownerOf, Cond.instanceMethod yX11_ownerOf, Cond.selects RX11 yX11_ownerOf yX11_ownerOf, Cond.code yX11_ownerOf cX11_ownerOf 12 (some .int), Cond.fieldLink RX11 48 "PortRoomsModel" "first" "[I", Cond.fieldLink RX11 225 "PortRoomsModel" "quarrelling" "I", Cond.constant RX11 139 (-1000000), Cond.fieldLink RX11 222 "PortRoomsModel" "papers" "I", Cond.fieldLink RX11 54 "PortRoomsModel" "paperCrate" "[I", Cond.fieldLink RX11 66 "PortRoomsModel" "paperFiled" "[I", Cond.fieldLink RX11 63 "PortRoomsModel" "paperSaid" "[I", Cond.fieldLink RX11 57 "PortRoomsModel" "paperFrom" "[I", Cond.fieldLink RX11 60 "PortRoomsModel" "paperTo" "[I", Cond.methodLink RX11 211 yX11_shareOf, Cond.instanceMethod yX11_shareOf, Cond.selects RX11 yX11_shareOf yX11_shareOf, Cond.code yX11_shareOf cX11_shareOf 4 (some .int), Cond.constant RX11 199 (1000000), Cond.methodLink RX11 200 yX11_findHas, Cond.instanceMethod yX11_findHas, Cond.selects RX11 yX11_findHas yX11_findHas, Cond.code yX11_findHas cX11_findHas 4 none, Cond.fieldLink RX11 35 "PortRoomsModel" "has" "[I", Cond.methodLink RX11 191 yX11_percentOf]
def wsX11_barred_r3 : List Cond := [Cond.instanceMethod yX11_percentOf, Cond.selects RX11 yX11_percentOf yX11_percentOf, Cond.code yX11_percentOf cX11_percentOf 6 (some .int), Cond.fieldLink RX11 181 "PortRoomsModel" "holdings" "I", Cond.fieldLink RX11 23 "PortRoomsModel" "holder" "[I", Cond.fieldLink RX11 26 "PortRoomsModel" "held" "[I", Cond.fieldLink RX11 32 "PortRoomsModel" "since" "[I", Cond.fieldLink RX11 29 "PortRoomsModel" "part" "[I", Cond.methodLink RX11 204 yX11_rowsTo, Cond.instanceMethod yX11_rowsTo, Cond.selects RX11 yX11_rowsTo yX11_rowsTo, Cond.code yX11_rowsTo cX11_rowsTo 11 (some .long), Cond.fieldLink RX11 38 "PortRoomsModel" "path" "[I", Cond.fieldLink RX11 44 "PortRoomsModel" "flow" "[J", Cond.constantLong RX11 195 (1000000), Cond.fieldLink RX11 41 "PortRoomsModel" "tried" "[I", Cond.constantLong RX11 176 (100), Cond.constantLong RX11 197 (2000000000)]
def wsX11_barred : List Cond := .code yX11_barred cX11_barred 3 (some .int) :: ((wsX11_barred_r1 ++ (wsX11_barred_r2 ++ wsX11_barred_r3)) ++ wsX110)
def wsX11_day : List Cond := .code yX11_day cX11_day 3 (some .int) :: ([.fieldLink RX11 1 "PortRoomsModel" "thrown" "I", .constant RX11 157 (-1000001), .fieldLink RX11 369 "PortRoomsModel" "theDay" "I", .methodLink RX11 178 yX11_isDay, .static yX11_isDay, .initialized RX11, .code yX11_isDay cX11_isDay 1 (some .boolean), .constantLong RX11 168 (9999), .methodLink RX11 147 yX11_in, .static yX11_in, .code yX11_in cX11_in 6 (some .boolean)] ++ wsX110)
def wsX11_owes : List Cond := .code yX11_owes cX11_owes 4 (some .int) :: ([.fieldLink RX11 231 "PortRoomsModel" "pledges" "I", .fieldLink RX11 69 "PortRoomsModel" "pledgeCrate" "[I", .fieldLink RX11 78 "PortRoomsModel" "pledgeFiled" "[I", .fieldLink RX11 369 "PortRoomsModel" "theDay" "I", .fieldLink RX11 72 "PortRoomsModel" "pledgeSum" "[I"] ++ wsX110)
def wsX11_kindOf_r1 : List Cond := [Cond.fieldLink RX11 369 "PortRoomsModel" "theDay" "I", Cond.fieldLink RX11 51 "PortRoomsModel" "worth" "[I", Cond.methodLink RX11 372 yX11_owes, Cond.instanceMethod yX11_owes, Cond.selects RX11 yX11_owes yX11_owes, Cond.initialized RX11, Cond.code yX11_owes cX11_owes 4 (some .int), Cond.fieldLink RX11 231 "PortRoomsModel" "pledges" "I", Cond.fieldLink RX11 69 "PortRoomsModel" "pledgeCrate" "[I", Cond.fieldLink RX11 78 "PortRoomsModel" "pledgeFiled" "[I", Cond.fieldLink RX11 72 "PortRoomsModel" "pledgeSum" "[I", Cond.methodLink RX11 365 yX11_isBarred, Cond.instanceMethod yX11_isBarred, Cond.selects RX11 yX11_isBarred yX11_isBarred, Cond.code yX11_isBarred cX11_isBarred 8 (some .boolean), Cond.fieldLink RX11 360 "PortRoomsModel" "lists" "I", Cond.fieldLink RX11 126 "PortRoomsModel" "listFrom" "[I", Cond.fieldLink RX11 129 "PortRoomsModel" "listTo" "[I", Cond.fieldLink RX11 123 "PortRoomsModel" "listed" "[I", Cond.constantLong RX11 363 (500000), Cond.methodLink RX11 228 yX11_ownerOf, Cond.instanceMethod yX11_ownerOf, Cond.selects RX11 yX11_ownerOf yX11_ownerOf, Cond.code yX11_ownerOf cX11_ownerOf 12 (some .int)]
def wsX11_kindOf_r2 : List Cond := [Cond.fieldLink RX11 48 "PortRoomsModel" "first" "[I", Cond.fieldLink RX11 225 "PortRoomsModel" "quarrelling" "I", Cond.constant RX11 139 (-1000000), Cond.fieldLink RX11 222 "PortRoomsModel" "papers" "I", Cond.fieldLink RX11 54 "PortRoomsModel" "paperCrate" "[I", Cond.fieldLink RX11 66 "PortRoomsModel" "paperFiled" "[I", Cond.fieldLink RX11 63 "PortRoomsModel" "paperSaid" "[I", Cond.fieldLink RX11 57 "PortRoomsModel" "paperFrom" "[I", Cond.fieldLink RX11 60 "PortRoomsModel" "paperTo" "[I", Cond.methodLink RX11 211 yX11_shareOf, Cond.instanceMethod yX11_shareOf, Cond.selects RX11 yX11_shareOf yX11_shareOf, Cond.code yX11_shareOf cX11_shareOf 4 (some .int), Cond.constant RX11 199 (1000000), Cond.methodLink RX11 200 yX11_findHas, Cond.instanceMethod yX11_findHas, Cond.selects RX11 yX11_findHas yX11_findHas, Cond.code yX11_findHas cX11_findHas 4 none, Cond.fieldLink RX11 35 "PortRoomsModel" "has" "[I", Cond.methodLink RX11 191 yX11_percentOf, Cond.instanceMethod yX11_percentOf, Cond.selects RX11 yX11_percentOf yX11_percentOf, Cond.code yX11_percentOf cX11_percentOf 6 (some .int), Cond.fieldLink RX11 181 "PortRoomsModel" "holdings" "I"]
def wsX11_kindOf_r3 : List Cond := [Cond.fieldLink RX11 23 "PortRoomsModel" "holder" "[I", Cond.fieldLink RX11 26 "PortRoomsModel" "held" "[I", Cond.fieldLink RX11 32 "PortRoomsModel" "since" "[I", Cond.fieldLink RX11 29 "PortRoomsModel" "part" "[I", Cond.methodLink RX11 204 yX11_rowsTo, Cond.instanceMethod yX11_rowsTo, Cond.selects RX11 yX11_rowsTo yX11_rowsTo, Cond.code yX11_rowsTo cX11_rowsTo 11 (some .long), Cond.fieldLink RX11 38 "PortRoomsModel" "path" "[I", Cond.fieldLink RX11 44 "PortRoomsModel" "flow" "[J", Cond.constantLong RX11 195 (1000000), Cond.fieldLink RX11 41 "PortRoomsModel" "tried" "[I", Cond.constantLong RX11 176 (100), Cond.constantLong RX11 197 (2000000000)]
def wsX11_kindOf : List Cond := .code yX11_kindOf cX11_kindOf 3 (some .int) :: ((wsX11_kindOf_r1 ++ (wsX11_kindOf_r2 ++ wsX11_kindOf_r3)) ++ wsX110)
def wsX11_isOf : List Cond := .code yX11_isOf cX11_isOf 2 (some .boolean) :: ([])
def wsX11_kind_r1 : List Cond := [Cond.fieldLink RX11 1 "PortRoomsModel" "thrown" "I", Cond.constant RX11 157 (-1000001), Cond.methodLink RX11 219 yX11_isCrate, Cond.instanceMethod yX11_isCrate, Cond.selects RX11 yX11_isCrate yX11_isCrate, Cond.initialized RX11, Cond.code yX11_isCrate cX11_isCrate 2 (some .boolean), Cond.fieldLink RX11 214 "PortRoomsModel" "crates" "I", Cond.methodLink RX11 147 yX11_in, Cond.static yX11_in, Cond.code yX11_in cX11_in 6 (some .boolean), Cond.methodLink RX11 375 yX11_kindOf, Cond.instanceMethod yX11_kindOf, Cond.selects RX11 yX11_kindOf yX11_kindOf, Cond.code yX11_kindOf cX11_kindOf 3 (some .int), Cond.fieldLink RX11 369 "PortRoomsModel" "theDay" "I", Cond.fieldLink RX11 51 "PortRoomsModel" "worth" "[I", Cond.methodLink RX11 372 yX11_owes, Cond.instanceMethod yX11_owes, Cond.selects RX11 yX11_owes yX11_owes, Cond.code yX11_owes cX11_owes 4 (some .int), Cond.fieldLink RX11 231 "PortRoomsModel" "pledges" "I", Cond.fieldLink RX11 69 "PortRoomsModel" "pledgeCrate" "[I", Cond.fieldLink RX11 78 "PortRoomsModel" "pledgeFiled" "[I"]
def wsX11_kind_r2 : List Cond := [Cond.fieldLink RX11 72 "PortRoomsModel" "pledgeSum" "[I", Cond.methodLink RX11 365 yX11_isBarred, Cond.instanceMethod yX11_isBarred, Cond.selects RX11 yX11_isBarred yX11_isBarred, Cond.code yX11_isBarred cX11_isBarred 8 (some .boolean), Cond.fieldLink RX11 360 "PortRoomsModel" "lists" "I", Cond.fieldLink RX11 126 "PortRoomsModel" "listFrom" "[I", Cond.fieldLink RX11 129 "PortRoomsModel" "listTo" "[I", Cond.fieldLink RX11 123 "PortRoomsModel" "listed" "[I", Cond.constantLong RX11 363 (500000), Cond.methodLink RX11 228 yX11_ownerOf, Cond.instanceMethod yX11_ownerOf, Cond.selects RX11 yX11_ownerOf yX11_ownerOf, Cond.code yX11_ownerOf cX11_ownerOf 12 (some .int), Cond.fieldLink RX11 48 "PortRoomsModel" "first" "[I", Cond.fieldLink RX11 225 "PortRoomsModel" "quarrelling" "I", Cond.constant RX11 139 (-1000000), Cond.fieldLink RX11 222 "PortRoomsModel" "papers" "I", Cond.fieldLink RX11 54 "PortRoomsModel" "paperCrate" "[I", Cond.fieldLink RX11 66 "PortRoomsModel" "paperFiled" "[I", Cond.fieldLink RX11 63 "PortRoomsModel" "paperSaid" "[I", Cond.fieldLink RX11 57 "PortRoomsModel" "paperFrom" "[I", Cond.fieldLink RX11 60 "PortRoomsModel" "paperTo" "[I", Cond.methodLink RX11 211 yX11_shareOf]
def wsX11_kind_r3 : List Cond := [Cond.instanceMethod yX11_shareOf, Cond.selects RX11 yX11_shareOf yX11_shareOf, Cond.code yX11_shareOf cX11_shareOf 4 (some .int), Cond.constant RX11 199 (1000000), Cond.methodLink RX11 200 yX11_findHas, Cond.instanceMethod yX11_findHas, Cond.selects RX11 yX11_findHas yX11_findHas, Cond.code yX11_findHas cX11_findHas 4 none, Cond.fieldLink RX11 35 "PortRoomsModel" "has" "[I", Cond.methodLink RX11 191 yX11_percentOf, Cond.instanceMethod yX11_percentOf, Cond.selects RX11 yX11_percentOf yX11_percentOf, Cond.code yX11_percentOf cX11_percentOf 6 (some .int), Cond.fieldLink RX11 181 "PortRoomsModel" "holdings" "I", Cond.fieldLink RX11 23 "PortRoomsModel" "holder" "[I", Cond.fieldLink RX11 26 "PortRoomsModel" "held" "[I", Cond.fieldLink RX11 32 "PortRoomsModel" "since" "[I", Cond.fieldLink RX11 29 "PortRoomsModel" "part" "[I", Cond.methodLink RX11 204 yX11_rowsTo, Cond.instanceMethod yX11_rowsTo, Cond.selects RX11 yX11_rowsTo yX11_rowsTo, Cond.code yX11_rowsTo cX11_rowsTo 11 (some .long), Cond.fieldLink RX11 38 "PortRoomsModel" "path" "[I", Cond.fieldLink RX11 44 "PortRoomsModel" "flow" "[J"]
def wsX11_kind_r4 : List Cond := [Cond.constantLong RX11 195 (1000000), Cond.fieldLink RX11 41 "PortRoomsModel" "tried" "[I", Cond.constantLong RX11 176 (100), Cond.constantLong RX11 197 (2000000000)]
def wsX11_kind : List Cond := .code yX11_kind cX11_kind 2 (some .int) :: ((wsX11_kind_r1 ++ (wsX11_kind_r2 ++ (wsX11_kind_r3 ++ wsX11_kind_r4))) ++ wsX110)
def wsX11_as_r1 : List Cond := [Cond.fieldLink RX11 1 "PortRoomsModel" "thrown" "I", Cond.constantLong RX11 378 (4), Cond.constant RX11 157 (-1000001), Cond.fieldLink RX11 141 "PortRoomsModel" "status" "I", Cond.fieldLink RX11 51 "PortRoomsModel" "worth" "[I", Cond.methodLink RX11 219 yX11_isCrate, Cond.instanceMethod yX11_isCrate, Cond.selects RX11 yX11_isCrate yX11_isCrate, Cond.initialized RX11, Cond.code yX11_isCrate cX11_isCrate 2 (some .boolean), Cond.fieldLink RX11 214 "PortRoomsModel" "crates" "I", Cond.methodLink RX11 147 yX11_in, Cond.static yX11_in, Cond.code yX11_in cX11_in 6 (some .boolean), Cond.methodLink RX11 375 yX11_kindOf, Cond.instanceMethod yX11_kindOf, Cond.selects RX11 yX11_kindOf yX11_kindOf, Cond.code yX11_kindOf cX11_kindOf 3 (some .int), Cond.fieldLink RX11 369 "PortRoomsModel" "theDay" "I", Cond.methodLink RX11 372 yX11_owes, Cond.instanceMethod yX11_owes, Cond.selects RX11 yX11_owes yX11_owes, Cond.code yX11_owes cX11_owes 4 (some .int), Cond.fieldLink RX11 231 "PortRoomsModel" "pledges" "I"]
def wsX11_as_r2 : List Cond := [Cond.fieldLink RX11 69 "PortRoomsModel" "pledgeCrate" "[I", Cond.fieldLink RX11 78 "PortRoomsModel" "pledgeFiled" "[I", Cond.fieldLink RX11 72 "PortRoomsModel" "pledgeSum" "[I", Cond.methodLink RX11 365 yX11_isBarred, Cond.instanceMethod yX11_isBarred, Cond.selects RX11 yX11_isBarred yX11_isBarred, Cond.code yX11_isBarred cX11_isBarred 8 (some .boolean), Cond.fieldLink RX11 360 "PortRoomsModel" "lists" "I", Cond.fieldLink RX11 126 "PortRoomsModel" "listFrom" "[I", Cond.fieldLink RX11 129 "PortRoomsModel" "listTo" "[I", Cond.fieldLink RX11 123 "PortRoomsModel" "listed" "[I", Cond.constantLong RX11 363 (500000), Cond.methodLink RX11 228 yX11_ownerOf, Cond.instanceMethod yX11_ownerOf, Cond.selects RX11 yX11_ownerOf yX11_ownerOf, Cond.code yX11_ownerOf cX11_ownerOf 12 (some .int), Cond.fieldLink RX11 48 "PortRoomsModel" "first" "[I", Cond.fieldLink RX11 225 "PortRoomsModel" "quarrelling" "I", Cond.constant RX11 139 (-1000000), Cond.fieldLink RX11 222 "PortRoomsModel" "papers" "I", Cond.fieldLink RX11 54 "PortRoomsModel" "paperCrate" "[I", Cond.fieldLink RX11 66 "PortRoomsModel" "paperFiled" "[I", Cond.fieldLink RX11 63 "PortRoomsModel" "paperSaid" "[I", Cond.fieldLink RX11 57 "PortRoomsModel" "paperFrom" "[I"]
def wsX11_as_r3 : List Cond := [Cond.fieldLink RX11 60 "PortRoomsModel" "paperTo" "[I", Cond.methodLink RX11 211 yX11_shareOf, Cond.instanceMethod yX11_shareOf, Cond.selects RX11 yX11_shareOf yX11_shareOf, Cond.code yX11_shareOf cX11_shareOf 4 (some .int), Cond.constant RX11 199 (1000000), Cond.methodLink RX11 200 yX11_findHas, Cond.instanceMethod yX11_findHas, Cond.selects RX11 yX11_findHas yX11_findHas, Cond.code yX11_findHas cX11_findHas 4 none, Cond.fieldLink RX11 35 "PortRoomsModel" "has" "[I", Cond.methodLink RX11 191 yX11_percentOf, Cond.instanceMethod yX11_percentOf, Cond.selects RX11 yX11_percentOf yX11_percentOf, Cond.code yX11_percentOf cX11_percentOf 6 (some .int), Cond.fieldLink RX11 181 "PortRoomsModel" "holdings" "I", Cond.fieldLink RX11 23 "PortRoomsModel" "holder" "[I", Cond.fieldLink RX11 26 "PortRoomsModel" "held" "[I", Cond.fieldLink RX11 32 "PortRoomsModel" "since" "[I", Cond.fieldLink RX11 29 "PortRoomsModel" "part" "[I", Cond.methodLink RX11 204 yX11_rowsTo, Cond.instanceMethod yX11_rowsTo, Cond.selects RX11 yX11_rowsTo yX11_rowsTo, Cond.code yX11_rowsTo cX11_rowsTo 11 (some .long)]
def wsX11_as_r4 : List Cond := [Cond.fieldLink RX11 38 "PortRoomsModel" "path" "[I", Cond.fieldLink RX11 44 "PortRoomsModel" "flow" "[J", Cond.constantLong RX11 195 (1000000), Cond.fieldLink RX11 41 "PortRoomsModel" "tried" "[I", Cond.constantLong RX11 176 (100), Cond.constantLong RX11 197 (2000000000), Cond.methodLink RX11 380 yX11_isOf, Cond.static yX11_isOf, Cond.code yX11_isOf cX11_isOf 2 (some .boolean), Cond.methodLink RX11 158 yX11_found, Cond.instanceMethod yX11_found, Cond.selects RX11 yX11_found yX11_found, Cond.code yX11_found cX11_found 2 (some .int), Cond.constant RX11 144 (-1000010)]
def wsX11_as : List Cond := .code yX11_as cX11_as 3 (some .int) :: ((wsX11_as_r1 ++ (wsX11_as_r2 ++ (wsX11_as_r3 ++ wsX11_as_r4))) ++ wsX110)
def wsX11_began : List Cond := .code yX11_began cX11_began 2 none :: ([.fieldLink RX11 383 "PortRoomsModel" "traced" "I", .fieldLink RX11 132 "PortRoomsModel" "trace" "[I"] ++ wsX110)
def wsX11_plainSize : List Cond := .code yX11_plainSize cX11_plainSize 2 (some .int) :: ([.fieldLink RX11 51 "PortRoomsModel" "worth" "[I", .methodLink RX11 386 yX11_began, .instanceMethod yX11_began, .selects RX11 yX11_began yX11_began, .initialized RX11, .code yX11_began cX11_began 2 none, .fieldLink RX11 383 "PortRoomsModel" "traced" "I", .fieldLink RX11 132 "PortRoomsModel" "trace" "[I"] ++ wsX110)
def wsX11_markOf_r1 : List Cond := [Cond.fieldLink RX11 369 "PortRoomsModel" "theDay" "I", Cond.methodLink RX11 380 yX11_isOf, Cond.static yX11_isOf, Cond.initialized RX11, Cond.code yX11_isOf cX11_isOf 2 (some .boolean), Cond.methodLink RX11 386 yX11_began, Cond.instanceMethod yX11_began, Cond.selects RX11 yX11_began yX11_began, Cond.code yX11_began cX11_began 2 none, Cond.fieldLink RX11 383 "PortRoomsModel" "traced" "I", Cond.fieldLink RX11 132 "PortRoomsModel" "trace" "[I", Cond.methodLink RX11 228 yX11_ownerOf, Cond.instanceMethod yX11_ownerOf, Cond.selects RX11 yX11_ownerOf yX11_ownerOf, Cond.code yX11_ownerOf cX11_ownerOf 12 (some .int), Cond.fieldLink RX11 48 "PortRoomsModel" "first" "[I", Cond.fieldLink RX11 225 "PortRoomsModel" "quarrelling" "I", Cond.constant RX11 139 (-1000000), Cond.fieldLink RX11 222 "PortRoomsModel" "papers" "I", Cond.fieldLink RX11 54 "PortRoomsModel" "paperCrate" "[I", Cond.fieldLink RX11 66 "PortRoomsModel" "paperFiled" "[I", Cond.fieldLink RX11 63 "PortRoomsModel" "paperSaid" "[I", Cond.fieldLink RX11 57 "PortRoomsModel" "paperFrom" "[I", Cond.fieldLink RX11 60 "PortRoomsModel" "paperTo" "[I"]
def wsX11_markOf_r2 : List Cond := [Cond.methodLink RX11 389 yX11_plainSize, Cond.instanceMethod yX11_plainSize, Cond.selects RX11 yX11_plainSize yX11_plainSize, Cond.code yX11_plainSize cX11_plainSize 2 (some .int), Cond.fieldLink RX11 51 "PortRoomsModel" "worth" "[I"]
def wsX11_markOf : List Cond := .code yX11_markOf cX11_markOf 3 (some .int) :: ((wsX11_markOf_r1 ++ wsX11_markOf_r2) ++ wsX110)
def wsX11_sizeOf_r1 : List Cond := [Cond.methodLink RX11 386 yX11_began, Cond.instanceMethod yX11_began, Cond.selects RX11 yX11_began yX11_began, Cond.initialized RX11, Cond.code yX11_began cX11_began 2 none, Cond.fieldLink RX11 383 "PortRoomsModel" "traced" "I", Cond.fieldLink RX11 132 "PortRoomsModel" "trace" "[I", Cond.methodLink RX11 392 yX11_markOf, Cond.instanceMethod yX11_markOf, Cond.selects RX11 yX11_markOf yX11_markOf, Cond.code yX11_markOf cX11_markOf 3 (some .int), Cond.fieldLink RX11 369 "PortRoomsModel" "theDay" "I", Cond.methodLink RX11 380 yX11_isOf, Cond.static yX11_isOf, Cond.code yX11_isOf cX11_isOf 2 (some .boolean), Cond.methodLink RX11 228 yX11_ownerOf, Cond.instanceMethod yX11_ownerOf, Cond.selects RX11 yX11_ownerOf yX11_ownerOf, Cond.code yX11_ownerOf cX11_ownerOf 12 (some .int), Cond.fieldLink RX11 48 "PortRoomsModel" "first" "[I", Cond.fieldLink RX11 225 "PortRoomsModel" "quarrelling" "I", Cond.constant RX11 139 (-1000000), Cond.fieldLink RX11 222 "PortRoomsModel" "papers" "I", Cond.fieldLink RX11 54 "PortRoomsModel" "paperCrate" "[I"]
def wsX11_sizeOf_r2 : List Cond := [Cond.fieldLink RX11 66 "PortRoomsModel" "paperFiled" "[I", Cond.fieldLink RX11 63 "PortRoomsModel" "paperSaid" "[I", Cond.fieldLink RX11 57 "PortRoomsModel" "paperFrom" "[I", Cond.fieldLink RX11 60 "PortRoomsModel" "paperTo" "[I", Cond.methodLink RX11 389 yX11_plainSize, Cond.instanceMethod yX11_plainSize, Cond.selects RX11 yX11_plainSize yX11_plainSize, Cond.code yX11_plainSize cX11_plainSize 2 (some .int), Cond.fieldLink RX11 51 "PortRoomsModel" "worth" "[I", Cond.methodLink RX11 372 yX11_owes, Cond.instanceMethod yX11_owes, Cond.selects RX11 yX11_owes yX11_owes, Cond.code yX11_owes cX11_owes 4 (some .int), Cond.fieldLink RX11 231 "PortRoomsModel" "pledges" "I", Cond.fieldLink RX11 69 "PortRoomsModel" "pledgeCrate" "[I", Cond.fieldLink RX11 78 "PortRoomsModel" "pledgeFiled" "[I", Cond.fieldLink RX11 72 "PortRoomsModel" "pledgeSum" "[I"]
def wsX11_sizeOf : List Cond := .code yX11_sizeOf cX11_sizeOf 4 (some .int) :: ((wsX11_sizeOf_r1 ++ wsX11_sizeOf_r2) ++ wsX110)
def wsX11_ask_r1 : List Cond := [Cond.fieldLink RX11 1 "PortRoomsModel" "thrown" "I", Cond.constant RX11 157 (-1000001), Cond.fieldLink RX11 383 "PortRoomsModel" "traced" "I", Cond.methodLink RX11 219 yX11_isCrate, Cond.instanceMethod yX11_isCrate, Cond.selects RX11 yX11_isCrate yX11_isCrate, Cond.initialized RX11, Cond.code yX11_isCrate cX11_isCrate 2 (some .boolean), Cond.fieldLink RX11 214 "PortRoomsModel" "crates" "I", Cond.methodLink RX11 147 yX11_in, Cond.static yX11_in, Cond.code yX11_in cX11_in 6 (some .boolean), Cond.methodLink RX11 375 yX11_kindOf, Cond.instanceMethod yX11_kindOf, Cond.selects RX11 yX11_kindOf yX11_kindOf, Cond.code yX11_kindOf cX11_kindOf 3 (some .int), Cond.fieldLink RX11 369 "PortRoomsModel" "theDay" "I", Cond.fieldLink RX11 51 "PortRoomsModel" "worth" "[I", Cond.methodLink RX11 372 yX11_owes, Cond.instanceMethod yX11_owes, Cond.selects RX11 yX11_owes yX11_owes, Cond.code yX11_owes cX11_owes 4 (some .int), Cond.fieldLink RX11 231 "PortRoomsModel" "pledges" "I", Cond.fieldLink RX11 69 "PortRoomsModel" "pledgeCrate" "[I"]
def wsX11_ask_r2 : List Cond := [Cond.fieldLink RX11 78 "PortRoomsModel" "pledgeFiled" "[I", Cond.fieldLink RX11 72 "PortRoomsModel" "pledgeSum" "[I", Cond.methodLink RX11 365 yX11_isBarred, Cond.instanceMethod yX11_isBarred, Cond.selects RX11 yX11_isBarred yX11_isBarred, Cond.code yX11_isBarred cX11_isBarred 8 (some .boolean), Cond.fieldLink RX11 360 "PortRoomsModel" "lists" "I", Cond.fieldLink RX11 126 "PortRoomsModel" "listFrom" "[I", Cond.fieldLink RX11 129 "PortRoomsModel" "listTo" "[I", Cond.fieldLink RX11 123 "PortRoomsModel" "listed" "[I", Cond.constantLong RX11 363 (500000), Cond.methodLink RX11 228 yX11_ownerOf, Cond.instanceMethod yX11_ownerOf, Cond.selects RX11 yX11_ownerOf yX11_ownerOf, Cond.code yX11_ownerOf cX11_ownerOf 12 (some .int), Cond.fieldLink RX11 48 "PortRoomsModel" "first" "[I", Cond.fieldLink RX11 225 "PortRoomsModel" "quarrelling" "I", Cond.constant RX11 139 (-1000000), Cond.fieldLink RX11 222 "PortRoomsModel" "papers" "I", Cond.fieldLink RX11 54 "PortRoomsModel" "paperCrate" "[I", Cond.fieldLink RX11 66 "PortRoomsModel" "paperFiled" "[I", Cond.fieldLink RX11 63 "PortRoomsModel" "paperSaid" "[I", Cond.fieldLink RX11 57 "PortRoomsModel" "paperFrom" "[I", Cond.fieldLink RX11 60 "PortRoomsModel" "paperTo" "[I"]
def wsX11_ask_r3 : List Cond := [Cond.methodLink RX11 211 yX11_shareOf, Cond.instanceMethod yX11_shareOf, Cond.selects RX11 yX11_shareOf yX11_shareOf, Cond.code yX11_shareOf cX11_shareOf 4 (some .int), Cond.constant RX11 199 (1000000), Cond.methodLink RX11 200 yX11_findHas, Cond.instanceMethod yX11_findHas, Cond.selects RX11 yX11_findHas yX11_findHas, Cond.code yX11_findHas cX11_findHas 4 none, Cond.fieldLink RX11 35 "PortRoomsModel" "has" "[I", Cond.methodLink RX11 191 yX11_percentOf, Cond.instanceMethod yX11_percentOf, Cond.selects RX11 yX11_percentOf yX11_percentOf, Cond.code yX11_percentOf cX11_percentOf 6 (some .int), Cond.fieldLink RX11 181 "PortRoomsModel" "holdings" "I", Cond.fieldLink RX11 23 "PortRoomsModel" "holder" "[I", Cond.fieldLink RX11 26 "PortRoomsModel" "held" "[I", Cond.fieldLink RX11 32 "PortRoomsModel" "since" "[I", Cond.fieldLink RX11 29 "PortRoomsModel" "part" "[I", Cond.methodLink RX11 204 yX11_rowsTo, Cond.instanceMethod yX11_rowsTo, Cond.selects RX11 yX11_rowsTo yX11_rowsTo, Cond.code yX11_rowsTo cX11_rowsTo 11 (some .long), Cond.fieldLink RX11 38 "PortRoomsModel" "path" "[I"]
def wsX11_ask_r4 : List Cond := [Cond.fieldLink RX11 44 "PortRoomsModel" "flow" "[J", Cond.constantLong RX11 195 (1000000), Cond.fieldLink RX11 41 "PortRoomsModel" "tried" "[I", Cond.constantLong RX11 176 (100), Cond.constantLong RX11 197 (2000000000), Cond.methodLink RX11 395 yX11_sizeOf, Cond.instanceMethod yX11_sizeOf, Cond.selects RX11 yX11_sizeOf yX11_sizeOf, Cond.code yX11_sizeOf cX11_sizeOf 4 (some .int), Cond.methodLink RX11 386 yX11_began, Cond.instanceMethod yX11_began, Cond.selects RX11 yX11_began yX11_began, Cond.code yX11_began cX11_began 2 none, Cond.fieldLink RX11 132 "PortRoomsModel" "trace" "[I", Cond.methodLink RX11 392 yX11_markOf, Cond.instanceMethod yX11_markOf, Cond.selects RX11 yX11_markOf yX11_markOf, Cond.code yX11_markOf cX11_markOf 3 (some .int), Cond.methodLink RX11 380 yX11_isOf, Cond.static yX11_isOf, Cond.code yX11_isOf cX11_isOf 2 (some .boolean), Cond.methodLink RX11 389 yX11_plainSize, Cond.instanceMethod yX11_plainSize, Cond.selects RX11 yX11_plainSize yX11_plainSize]
def wsX11_ask_r5 : List Cond := [Cond.code yX11_plainSize cX11_plainSize 2 (some .int)]
def wsX11_ask : List Cond := .code yX11_ask cX11_ask 3 (some .int) :: ((wsX11_ask_r1 ++ (wsX11_ask_r2 ++ (wsX11_ask_r3 ++ (wsX11_ask_r4 ++ wsX11_ask_r5)))) ++ wsX110)
def wsX11_trace : List Cond := .code yX11_trace cX11_trace 2 (some .int) :: ([.fieldLink RX11 1 "PortRoomsModel" "thrown" "I", .fieldLink RX11 383 "PortRoomsModel" "traced" "I", .fieldLink RX11 132 "PortRoomsModel" "trace" "[I", .constant RX11 139 (-1000000), .methodLink RX11 147 yX11_in, .static yX11_in, .initialized RX11, .code yX11_in cX11_in 6 (some .boolean)] ++ wsX110)
def wsX11_count : List Cond := .code yX11_count cX11_count 4 (some .int) :: ([.fieldLink RX11 1 "PortRoomsModel" "thrown" "I", .fieldLink RX11 13 "PortRoomsModel" "lane" "[I", .fieldLink RX11 181 "PortRoomsModel" "holdings" "I", .fieldLink RX11 214 "PortRoomsModel" "crates" "I", .fieldLink RX11 222 "PortRoomsModel" "papers" "I", .fieldLink RX11 231 "PortRoomsModel" "pledges" "I", .fieldLink RX11 314 "PortRoomsModel" "lines" "I", .fieldLink RX11 319 "PortRoomsModel" "acts" "I", .fieldLink RX11 354 "PortRoomsModel" "opens" "I", .fieldLink RX11 360 "PortRoomsModel" "lists" "I", .fieldLink RX11 242 "PortRoomsModel" "taped" "I", .constant RX11 157 (-1000001)] ++ wsX110)
def wsX11_status : List Cond := .code yX11_status cX11_status 1 (some .int) :: ([.fieldLink RX11 1 "PortRoomsModel" "thrown" "I", .fieldLink RX11 141 "PortRoomsModel" "status" "I"] ++ wsX110)
def wsJ9_abs_0f7a4 : List Cond := .code yJ9_abs_0f7a4 cJ9_abs_0f7a4 1 (some .int) :: ([])
def wsJ9_max_7cf53 : List Cond := .code yJ9_max_7cf53 cJ9_max_7cf53 2 (some .int) :: ([])
def wsJ9_min_7cf53 : List Cond := .code yJ9_min_7cf53 cJ9_min_7cf53 2 (some .int) :: ([])
def wsJ9_min_f86c9 : List Cond := .code yJ9_min_f86c9 cJ9_min_f86c9 4 (some .long) :: ([])
abbrev vwCl : List vw_C := [(RX0, TX0, 5), (RX1, TX1, 6), (RX2, TX2, 15), (RX3, TX3, 9), (RX4, TX4, 4), (RX5, TX5, 2), (RX6, TX6, 5), (RX7, TX7, 7), (RX8, TX8, 6), (RX9, TX9, 3), (RX10, TX10, 14), (RX11, TX11, 64)]
end
section
/-- a truth given as 0 or 1 -/
theorem bo_f {P : Prop} [Decidable P] {r : Int32} (h : r = if P then 1 else 0) (c : r = 0) : ¬ P := by
  intro hp
  rw [if_pos hp] at h
  rw [h] at c
  exact absurd c (by decide)
theorem bo_t {P : Prop} [Decidable P] {r : Int32} (h : r = if P then 1 else 0) (c : ¬ r = 0) : P := by
  by_cases hp : P
  · exact hp
  · rw [if_neg hp] at h
    exact absurd h c
theorem bo_yes {P : Prop} [Decidable P] (h : P) : (1 : Int32) = if P then 1 else 0 := by rw [if_pos h]
theorem bo_no {P : Prop} [Decidable P] (h : ¬ P) : (0 : Int32) = if P then 1 else 0 := by rw [if_neg h]
theorem i_eq {a b : Int32} (h : a = b) : a.toInt = b.toInt := by rw [h]
theorem i_ne {a b : Int32} (h : ¬ a = b) : ¬ a.toInt = b.toInt := fun e => h (Int32.toInt_inj.mp e)
theorem i_lt {a b : Int32} (h : a < b) : a.toInt < b.toInt := Int32.lt_iff_toInt_lt.mp h
theorem i_nlt {a b : Int32} (h : ¬ a < b) : b.toInt ≤ a.toInt := Int.not_lt.mp (fun e => h (Int32.lt_iff_toInt_lt.mpr e))
theorem i_le {a b : Int32} (h : a ≤ b) : a.toInt ≤ b.toInt := Int32.le_iff_toInt_le.mp h
theorem i_nle {a b : Int32} (h : ¬ a ≤ b) : b.toInt < a.toInt := Int.not_le.mp (fun e => h (Int32.le_iff_toInt_le.mpr e))
theorem i_of {a b : Int32} (h : a.toInt = b.toInt) : a = b := Int32.toInt_inj.mp h
theorem i_rng (x : Int32) : -2147483648 ≤ x.toInt ∧ x.toInt < 2147483648 := ⟨Int32.le_toInt x, Int32.toInt_lt x⟩
theorem i_bmod {z : Int} (h1 : -2147483648 ≤ z) (h2 : z < 2147483648) : z.bmod (2 ^ 32) = z := by
  rw [Int.bmod_def]; omega
theorem i_add {x y : Int32} (h1 : -2147483648 ≤ x.toInt + y.toInt) (h2 : x.toInt + y.toInt < 2147483648) : (x + y).toInt = x.toInt + y.toInt := by
  rw [Int32.toInt_add]; exact i_bmod h1 h2
theorem i_sub {x y : Int32} (h1 : -2147483648 ≤ x.toInt - y.toInt) (h2 : x.toInt - y.toInt < 2147483648) : (x - y).toInt = x.toInt - y.toInt := by
  rw [Int32.toInt_sub]; exact i_bmod h1 h2
theorem i_mul {x y : Int32} (h1 : -2147483648 ≤ x.toInt * y.toInt) (h2 : x.toInt * y.toInt < 2147483648) : (x * y).toInt = x.toInt * y.toInt := by
  rw [Int32.toInt_mul]; exact i_bmod h1 h2
theorem i_in {x : Int32} {n : Nat} (h1 : 0 ≤ x.toInt) (h2 : x.toInt < n) : vp_in x n := vp_in_iff.mpr ⟨h1, h2⟩
theorem i_cl {x : Int32} (h : 0 ≤ x.toInt) : (x.toNatClampNeg : Int) = x.toInt := by
  rw [Int32.toNatClampNeg]; omega
theorem i_w (x : Int32) : x.toInt64.toInt = x.toInt := Int32.toInt_toInt64 x
theorem l_lt {a b : Int64} (h : a < b) : a.toInt < b.toInt := Int64.lt_iff_toInt_lt.mp h
theorem l_nlt {a b : Int64} (h : ¬ a < b) : b.toInt ≤ a.toInt := Int.not_lt.mp (fun e => h (Int64.lt_iff_toInt_lt.mpr e))
/-! the nest mates' links: what holds of the tables, carried in every contract -/
def nwL : List (String × Nat × MethodName × String) := [(RX10, 18, yX3_init, "PortRooms"), (RX10, 32, yX7_init, "PortRooms"), (RX10, 39, yX8_init, "PortRooms"), (RX10, 46, yX2_init, "PortRooms"), (RX10, 53, yX0_init, "PortRooms"), (RX10, 60, yX6_init, "PortRooms"), (RX10, 67, yX4_init, "PortRooms"), (RX1, 43, yX10_hasBit, "PortRooms"), (RX3, 62, yX10_hasBit, "PortRooms"), (RX5, 29, yX10_hasBit, "PortRooms")]
def nw (U : State) : Prop := ∀ q ∈ nwL, va_Nw (.methodLinkNest q.1 q.2.1 q.2.2.1 q.2.2.2) U
theorem nw.warm {s U : State} (hW : s.WarmedH U.vm) (h : nw s) : nw U := fun q hq => va_Nw.warmM hW (h q hq)
theorem nw.same {u U : State} (hv : u.vm = U.vm) (h : nw u) : nw U := fun q hq => va_Nw.same rfl hv (h q hq)
theorem va_P.nil {D : va_G} {cl : List vw_C} {H : Heap} : va_P D cl [] H := fun k q h => by simp at h
theorem va_D.nil {A : Nat → Prop} : va_D A [] := ⟨fun i j p q h => by simp at h, fun k q h => by simp at h⟩
/-- a contract's start: the cells wc, the array classes tys, the nest's links -/
abbrev cPre (D : va_G) (tys : List (ClassId × FieldType)) (wc : va_W) (sz : Nat) (av : List Value) : Array Value → State → Prop := va_Pc av (fun U => U.heap.size = sz ∧ va_P D vwCl wc U.heap ∧ va_K D vwCl tys U ∧ va_D (fun _ => True) wc ∧ nw U)
/-- a contract's end: the cells w u -/
abbrev cB {S : Type} (D : va_G) (tys : List (ClassId × FieldType)) (w : S → va_W) (A : Nat → Prop) : S → State → Prop := fun u t => va_P D vwCl (w u) t.heap ∧ va_K D vwCl tys t ∧ va_D A (w u)
theorem cPre_blind {D : va_G} {tys : List (ClassId × FieldType)} {wc : va_W} {sz : Nat} {av : List Value} : FrameBlind (cPre D tys wc sz av) := fun a U g mk q => by
  obtain ⟨q0, q1, qP, qK, qD, qN⟩ := q
  exact ⟨q0, q1, qP, va_K.moved (u := U) (U := U.calling g mk a) (Vm.Alike.refl U.vm) qK, qD, nw.same (u := U) (U := U.calling g mk a) rfl qN⟩
theorem cPreS {D : va_G} {tys : List (ClassId × FieldType)} {wc : va_W} {s : State} {H : Heap} {A : Nat → Prop} {av : List Value} (hP : va_P D vwCl wc H) (hK : va_K D vwCl tys s) (hD : va_D A wc) (hN : nw s) : PreS s H (cPre D tys wc H.size av) av :=
  ⟨cPre_blind, fun U hU hW => ⟨rfl, by rw [hU], by rw [hU]; exact hP, va_K.moved hW.alike hK, hD.weaken (fun _ _ _ _ => trivial), hN.warm hW⟩⟩
theorem cPreV {D : va_G} {tys : List (ClassId × FieldType)} {wc : va_W} {s : State} {H : Heap} {A : Nat → Prop} {b : Nat} {As : List Value} (hP : va_P D vwCl wc H) (hK : va_K D vwCl tys s) (hD : va_D A wc) (hN : nw s) {ci q0 : Nat} {fs : List Value} {q : vw_C} (hc : vwCl[ci]? = some q) (he : wc[q0]? = some (b, .inr (ci, fs))) : PreV s H q.1 b (cPre D tys wc H.size (.ref b :: As)) As :=
  ⟨cPre_blind, va_recv hK hP hc he, fun U hU hW => ⟨rfl, by rw [hU], by rw [hU]; exact hP, va_K.moved hW.alike hK, hD.weaken (fun _ _ _ _ => trivial), hN.warm hW⟩⟩
section STEP
variable {p : Program} {l : Launch} {e : Env} {R : Room} {s : State} {m : MethodId} {args : Array Value} {below : List Frame} {meth : Method} {c : Code} {H H0 : Heap} {locs : List Loc} {cells slots mc ms : Nat} {Q : State → Prop}
variable {pc : Nat} {ls : Array Slot} {rest st0 : List Value} {D : va_G} {A0 : Nat → Prop} {tys : List (ClassId × FieldType)} {wc wr ws : va_W} {a : Array Value} {S : Type} {w : S → va_W}
/-- a call that answers an int: the callee's cells at the places isC, the rest at isR -/
theorem st_i {post : Int32 → S → Prop} (hr : va_Run p l e R s m args below meth c H locs cells slots mc ms (F0 m pc ls st0) rest (va_Qi post (cB D tys w (va_A wc H.size)) (va_A wc H.size) a) (va_A wc H.size)) (hP : va_P D vwCl ws H) (hD : va_D A0 ws) (hS : va_S A0 H0 H locs) (hA : ∀ q, H0.size ≤ q → A0 q)
    (isC isR : List Nat) (hC : isC.map (fun i => ws[i]?) = wc.map some) (hR : isR.map (fun i => ws[i]?) = wr.map some) (hn : va_nd isR = true) (hdis : ∀ i ∈ isR, i ∉ isC)
    (kk : ∀ (r : Int32) (u : S) (H1 : Heap) (locs1 : List Loc), post r u → va_P D vwCl (wr ++ w u) H1 → va_D A0 (wr ++ w u) → va_S A0 H0 H1 locs1 → W p l e R s m args below meth c H1 locs1 (cells + mc) (slots + ms) Q (F0 m (pc + 3) ls (.int r :: rest))) : W p l e R s m args below meth c H locs cells slots Q (F0 m pc ls st0) := by
  have hF := va_free (wc := wc) hD hS hA isC hC
  refine va_calli hr hS (fun q _ h => hF q h) hF (fun r u t H1 locs1 ht hvm hw hB hz1 hk1 hS1 => ?_)
  obtain ⟨hP1, hK1, hD1⟩ := hB
  rw [ht] at hP1
  obtain ⟨hP2, hD2⟩ := va_join (wr := wr) (w1 := w u) hP hD isC isR hC hR hn hdis hk1 hF hP1 hD1
  exact kk r u H1 locs1 hw hP2 hD2 hS1
theorem st_l {post : Int64 → S → Prop} (hr : va_Run p l e R s m args below meth c H locs cells slots mc ms (F0 m pc ls st0) rest (va_Ql post (cB D tys w (va_A wc H.size)) (va_A wc H.size) a) (va_A wc H.size)) (hP : va_P D vwCl ws H) (hD : va_D A0 ws) (hS : va_S A0 H0 H locs) (hA : ∀ q, H0.size ≤ q → A0 q)
    (isC isR : List Nat) (hC : isC.map (fun i => ws[i]?) = wc.map some) (hR : isR.map (fun i => ws[i]?) = wr.map some) (hn : va_nd isR = true) (hdis : ∀ i ∈ isR, i ∉ isC)
    (kk : ∀ (r : Int64) (u : S) (H1 : Heap) (locs1 : List Loc), post r u → va_P D vwCl (wr ++ w u) H1 → va_D A0 (wr ++ w u) → va_S A0 H0 H1 locs1 → W p l e R s m args below meth c H1 locs1 (cells + mc) (slots + ms) Q (F0 m (pc + 3) ls (.long r :: rest))) : W p l e R s m args below meth c H locs cells slots Q (F0 m pc ls st0) := by
  have hF := va_free (wc := wc) hD hS hA isC hC
  refine va_calll hr hS (fun q _ h => hF q h) hF (fun r u t H1 locs1 ht hvm hw hB hz1 hk1 hS1 => ?_)
  obtain ⟨hP1, hK1, hD1⟩ := hB
  rw [ht] at hP1
  obtain ⟨hP2, hD2⟩ := va_join (wr := wr) (w1 := w u) hP hD isC isR hC hR hn hdis hk1 hF hP1 hD1
  exact kk r u H1 locs1 hw hP2 hD2 hS1
theorem st_v {post : S → Prop} (hr : va_Run p l e R s m args below meth c H locs cells slots mc ms (F0 m pc ls st0) rest (va_Qv post (cB D tys w (va_A wc H.size)) (va_A wc H.size) a) (va_A wc H.size)) (hP : va_P D vwCl ws H) (hD : va_D A0 ws) (hS : va_S A0 H0 H locs) (hA : ∀ q, H0.size ≤ q → A0 q)
    (isC isR : List Nat) (hC : isC.map (fun i => ws[i]?) = wc.map some) (hR : isR.map (fun i => ws[i]?) = wr.map some) (hn : va_nd isR = true) (hdis : ∀ i ∈ isR, i ∉ isC)
    (kk : ∀ (u : S) (H1 : Heap) (locs1 : List Loc), post u → va_P D vwCl (wr ++ w u) H1 → va_D A0 (wr ++ w u) → va_S A0 H0 H1 locs1 → W p l e R s m args below meth c H1 locs1 (cells + mc) (slots + ms) Q (F0 m (pc + 3) ls rest)) : W p l e R s m args below meth c H locs cells slots Q (F0 m pc ls st0) := by
  have hF := va_free (wc := wc) hD hS hA isC hC
  refine va_callv hr hS (fun q _ h => hF q h) hF (fun u t H1 locs1 ht hvm hw hB hz1 hk1 hS1 => ?_)
  obtain ⟨hP1, hK1, hD1⟩ := hB
  rw [ht] at hP1
  obtain ⟨hP2, hD2⟩ := va_join (wr := wr) (w1 := w u) hP hD isC isR hC hR hn hdis hk1 hF hP1 hD1
  exact kk u H1 locs1 hw hP2 hD2 hS1
/-- arrays of int rows: an element read -/
theorem st_aald {cc : ByteArray} {q1 : Nat} (hexec : p.tables.exec = Jvm.exec) (hb : c.code = cc) {cl : List vw_C} (hK : va_K D cl tys s) (hP : va_P D cl ws H) (q0 t0 : Nat) {cA : ClassId} {ty : FieldType} {n : Nat} {f : Nat → Option Nat} (ha : ws[q0]? = some (q1, .inl (cA, n, .inr (.inr (.inr (.inr f)))))) (ht : tys[t0]? = some (cA, .array ty)) {i : Int32} (hin : vp_in i n) (hdg : decode cc pc = .ok (.aaload, 1))
    (kk : W p l e R s m args below meth c H locs cells slots Q (F0 m (pc + 1) ls (va_rf (f i.toNatClampNeg) :: rest))) : W p l e R s m args below meth c H locs cells slots Q (F0 m pc ls (.int i :: .ref q1 :: rest)) := by
  have hlt : i.toNatClampNeg < n := Nat.not_le.mp fun q => hin (Or.inr q)
  exact W.aald (v := va_rf (f i.toNatClampNeg)) (ty := .array ty) hexec hb (hP q0 _ ha) ((hK.2 t0 _ ht).1 n (fun j => va_rf (f j))) rfl (fun q => by cases q) (by show ¬ (i < 0 ∨ (arrV _ _ _).slots.size ≤ _); rw [arrV_size]; exact hin) (by show (arrV _ _ _).slots[_]? = _; rw [arrV_read _ _ hlt]) rfl rfl hdg kk
end STEP
theorem bo_iff {P P' : Prop} [Decidable P] [Decidable P'] {r : Int32} (h : r = if P then 1 else 0) (e : P ↔ P') : r = if P' then 1 else 0 := by
  rw [h]
  by_cases hp : P
  · rw [if_pos hp, if_pos (e.mp hp)]
  · rw [if_neg hp, if_neg (fun q => hp (e.mpr q))]
theorem zn_b {P : Prop} [Decidable P] {r : Int32} (h : r = if P then 1 else 0) : narrow .boolean (.int r) = .int r := by
  rw [h]
  split <;> rfl
/-- the array classes that a world holds: int, byte, long, rows of int -/
abbrev ty4 (cI cY cJ cQ : ClassId) : List (ClassId × FieldType) := [(cI, .int), (cY, .byte), (cJ, .long), (cQ, .array .int)]
theorem cls_eq {D : va_G} {cl : List vw_C} {tys : List (ClassId × FieldType)} {U : State} {a b : ClassId} {ty : FieldType} (hK : va_K D cl tys U) (i j : Nat) (hi : tys[i]? = some (a, ty)) (hj : tys[j]? = some (b, ty)) : a = b := by
  have h1 := (hK.2 i _ hi).2
  have h2 := (hK.2 j _ hj).2
  unfold va_RA at h1 h2
  cases ty <;> simp only at h1 h2 <;> first | exact Option.some.inj (h1.symm.trans h2) | (obtain ⟨_, _, _, _, _, h1⟩ := h1; obtain ⟨_, _, _, _, _, h2⟩ := h2; exact Option.some.inj (h1.symm.trans h2))
theorem lc_lt {x y : Int64} {v : Int32} (e : v = lg_cmp x y) (h : v < 0) : x.toInt < y.toInt := Int64.lt_iff_toInt_lt.mp ((lg_cmp_lt x y).mp (by rw [← e]; exact h))
theorem lc_ltN {x y : Int64} {v : Int32} (e : v = lg_cmp x y) (h : ¬ v < 0) : y.toInt ≤ x.toInt := Int.not_lt.mp (fun q => h (by rw [e]; exact (lg_cmp_lt x y).mpr (Int64.lt_iff_toInt_lt.mpr q)))
theorem lc_ge {x y : Int64} {v : Int32} (e : v = lg_cmp x y) (h : 0 ≤ v) : y.toInt ≤ x.toInt := Int64.le_iff_toInt_le.mp ((lg_cmp_ge x y).mp (by rw [← e]; exact h))
theorem lc_geN {x y : Int64} {v : Int32} (e : v = lg_cmp x y) (h : ¬ 0 ≤ v) : x.toInt < y.toInt := Int.not_le.mp (fun q => h (by rw [e]; exact (lg_cmp_ge x y).mpr (Int64.le_iff_toInt_le.mpr q)))
theorem lc_gt {x y : Int64} {v : Int32} (e : v = lg_cmp x y) (h : 0 < v) : y.toInt < x.toInt := Int64.lt_iff_toInt_lt.mp ((lg_cmp_gt x y).mp (by rw [← e]; exact h))
theorem lc_gtN {x y : Int64} {v : Int32} (e : v = lg_cmp x y) (h : ¬ 0 < v) : x.toInt ≤ y.toInt := Int.not_lt.mp (fun q => h (by rw [e]; exact (lg_cmp_gt x y).mpr (Int64.lt_iff_toInt_lt.mpr q)))
theorem lc_le {x y : Int64} {v : Int32} (e : v = lg_cmp x y) (h : v ≤ 0) : x.toInt ≤ y.toInt := Int64.le_iff_toInt_le.mp ((lg_cmp_le x y).mp (by rw [← e]; exact h))
theorem lc_leN {x y : Int64} {v : Int32} (e : v = lg_cmp x y) (h : ¬ v ≤ 0) : y.toInt < x.toInt := Int.not_le.mp (fun q => h (by rw [e]; exact (lg_cmp_le x y).mpr (Int64.le_iff_toInt_le.mpr q)))
theorem lc_eq {x y : Int64} {v : Int32} (e : v = lg_cmp x y) (h : v = 0) : x.toInt = y.toInt := by rw [(lg_cmp_eq x y).mp (by rw [← e]; exact h)]
theorem lc_eqN {x y : Int64} {v : Int32} (e : v = lg_cmp x y) (h : ¬ v = 0) : ¬ x.toInt = y.toInt := fun q => h (by rw [e]; exact (lg_cmp_eq x y).mpr (Int64.toInt_inj.mp q))
theorem lc_ne {x y : Int64} {v : Int32} (e : v = lg_cmp x y) (h : ¬ v = 0) : ¬ x.toInt = y.toInt := lc_eqN e h
theorem lc_neN {x y : Int64} {v : Int32} (e : v = lg_cmp x y) (h : ¬ ¬ v = 0) : x.toInt = y.toInt := lc_eq e (Decidable.not_not.mp h)
end
section
section LOOPS
variable {p : Program} {l : Launch} {e : Env} {R : Room} {s : State} {m : MethodId} {args : Array Value} {below : List Frame} {meth : Method} {c : Code} {cells slots : Nat} {Q : State → Prop}
/-- a loop: at its head an invariant, and a measure that falls -/
theorem st_loop {σ : Type} (pc : Nat) (stk : σ → List Value) (Inv : σ → Array Slot → Heap → List Loc → Prop) (μ : σ → Int)
    (hμ : ∀ x ls H locs, Inv x ls H locs → 0 ≤ μ x)
    (step : ∀ n : Nat, (∀ x ls H locs, Inv x ls H locs → μ x < (n : Int) → W p l e R s m args below meth c H locs cells slots Q (F0 m pc ls (stk x))) → ∀ x ls H locs, Inv x ls H locs → μ x < (n : Int) + 1 → W p l e R s m args below meth c H locs cells slots Q (F0 m pc ls (stk x)))
    {ls : Array Slot} {H : Heap} {locs : List Loc} (x : σ) (h : Inv x ls H locs) : W p l e R s m args below meth c H locs cells slots Q (F0 m pc ls (stk x)) := by
  have K : ∀ n : Nat, ∀ x ls H locs, Inv x ls H locs → μ x < (n : Int) → W p l e R s m args below meth c H locs cells slots Q (F0 m pc ls (stk x)) := by
    intro n
    induction n with
    | zero =>
      intro x ls H locs h1 h2
      have := hμ x ls H locs h1
      exfalso
      omega
    | succ n ih =>
      intro x ls H locs h1 h2
      exact step n ih x ls H locs h1 (by omega)
  have h0 := hμ x ls H locs h
  exact K (μ x + 1).toNat x ls H locs h (by omega)
/-- a place where roads meet -/
theorem st_join {σ : Type} (pc : Nat) (stk : σ → List Value) (Inv : σ → Array Slot → Heap → List Loc → Prop) {g : JFrame} {H : Heap} {locs : List Loc}
    (J : ∀ x ls H locs, Inv x ls H locs → W p l e R s m args below meth c H locs cells slots Q (F0 m pc ls (stk x)))
    (k : (∀ x ls H locs, Inv x ls H locs → W p l e R s m args below meth c H locs cells slots Q (F0 m pc ls (stk x))) → W p l e R s m args below meth c H locs cells slots Q g) : W p l e R s m args below meth c H locs cells slots Q g := k J
end LOOPS
theorem arrV_cong {cI : ClassId} {N : Nat} {f g : Nat → Value} (h : ∀ j, j < N → f j = g j) : arrV cI N f = arrV cI N g := by
  unfold arrV
  congr 2
  funext j
  exact h j.val j.isLt
/-- a row of ints is what its places below its length hold -/
theorem cell_cong {cI : ClassId} {N : Nat} {f g : Nat → Int32} (h : ∀ j, j < N → f j = g j) : vp_cell cI (N, .inl f) = vp_cell cI (N, .inl g) := by
  rw [vp_cell_i, vp_cell_i]
  exact arrV_cong (fun j hj => by rw [h j hj])
theorem va_P.cong1 {D : va_G} {cl : List vw_C} {a : Nat} {cI : ClassId} {N : Nat} {f g : Nat → Int32} {H : Heap} (hP : va_P D cl [(a, .inl (cI, N, .inl f))] H) (h : ∀ j, j < N → f j = g j) : va_P D cl [(a, .inl (cI, N, .inl g))] H := by
  intro k q hq
  have h0 : k < 1 := (List.getElem?_eq_some_iff.mp hq).1
  have hk : k = 0 := by omega
  subst hk
  cases hq
  have h1 := hP 0 _ rfl
  show H[a]? = some (vp_cell cI (N, .inl g))
  rw [← cell_cong h]
  exact h1
theorem va_D.adr {A : Nat → Prop} {ws ws' : va_W} (hD : va_D A ws) (h : ws.map (fun q => q.1) = ws'.map (fun q => q.1)) : va_D A ws' := by
  have key : ∀ (k : Nat) (q : Nat × va_E), ws'[k]? = some q → ∃ q', ws[k]? = some q' ∧ q'.1 = q.1 := by
    intro k q hq
    have h1 : (ws'.map (fun q => q.1))[k]? = some q.1 := by rw [List.getElem?_map, hq]; rfl
    rw [← h, List.getElem?_map] at h1
    cases hw : ws[k]? with
    | none => rw [hw] at h1; cases h1
    | some q' => rw [hw] at h1; exact ⟨q', rfl, Option.some.inj h1⟩
  refine ⟨fun i j x y hi hj hxy => ?_, fun k q hq => ?_⟩
  · obtain ⟨x', hx, ex⟩ := key i x hi
    obtain ⟨y', hy, ey⟩ := key j y hj
    exact hD.1 i j x' y' hx hy (by rw [ex, ey, hxy])
  · obtain ⟨q', hq', e⟩ := key k q hq
    rw [← e]
    exact hD.2 k q' hq'
theorem upd_s (f : Nat → Int32) (k : Nat) (x : Int32) : upd f k x k = x := by simp [upd]
theorem upd_n (f : Nat → Int32) {k j : Nat} (x : Int32) (h : j ≠ k) : upd f k x j = f j := by simp [upd, h]
end
section
theorem ush0 (y : UInt32) : ((0 : Int32).toUInt32 >>> y).toInt32 = 0 := by
  have h : (0 : Int32).toUInt32 = 0 := rfl
  rw [h, UInt32.zero_shiftRight]
  rfl
theorem cpy0 (a b n : Nat) : (va_cpy (fun _ => (0 : Int32)) (fun _ => (0 : Int32)) a b n) = (fun (_ : Nat) => (0 : Int32)) := by
  funext j
  unfold va_cpy
  split <;> rfl
end
section
/-- sheet on a new object -/
def an_sheet (a b n : Int32) : Int32 := if 0 ≤ a.toInt ∧ a.toInt < 8 ∧ 0 ≤ b.toInt ∧ b.toInt < 3 ∧ n.toInt ≤ 60 then (if n.toInt < 0 then -1000014 else n) else -1000001

/-- set on a new object -/
def an_set (a i v : Int32) : Int32 := if 0 ≤ a.toInt ∧ a.toInt < 8 then -1000011 else -1000001

/-- copy on a new object -/
def an_copy (a i b j n : Int32) : Int32 := if 0 ≤ a.toInt ∧ a.toInt < 8 ∧ 0 ≤ b.toInt ∧ b.toInt < 8 then -1000011 else -1000001

/-- drop on a new object -/
def an_drop (a : Int32) : Int32 := if 0 ≤ a.toInt ∧ a.toInt < 8 then -1000011 else -1000001

/-- hold on a new object -/
def an_hold (o k q d : Int32) : Int32 := if 0 ≤ o.toInt ∧ o.toInt < 20 ∧ 10 ≤ k.toInt ∧ k.toInt < 20 ∧ ¬ o.toInt = k.toInt ∧ 0 ≤ q.toInt ∧ q.toInt ≤ 100 ∧ 0 ≤ d.toInt ∧ d.toInt < 10000 then 1 else -1000001

/-- holds on a new object -/
def an_holds (a i n : Int32) : Int32 := if 0 ≤ a.toInt ∧ a.toInt < 8 ∧ 1 ≤ n.toInt ∧ n.toInt ≤ 15 then -1000011 else -1000001

/-- percent on a new object -/
def an_percent (o k d : Int32) : Int32 := if 0 ≤ o.toInt ∧ o.toInt < 20 ∧ 10 ≤ k.toInt ∧ k.toInt < 20 ∧ ¬ o.toInt = k.toInt ∧ 0 ≤ d.toInt ∧ d.toInt < 10000 then 0 else -1000001

/-- share on a new object -/
def an_share (q o d : Int32) : Int32 := if 0 ≤ q.toInt ∧ q.toInt < 10 ∧ 0 ≤ o.toInt ∧ o.toInt < 20 ∧ 0 ≤ d.toInt ∧ d.toInt < 10000 then (if o.toInt < 10 then (if o.toInt = q.toInt then 1000000 else 0) else 0) else -1000001

/-- truly on a new object -/
def an_truly (o d : Int32) : Int32 := if 0 ≤ o.toInt ∧ o.toInt < 20 ∧ 0 ≤ d.toInt ∧ d.toInt < 10000 then (if o.toInt < 10 then o else -1000000) else -1000001

/-- rings on a new object -/
def an_rings (d : Int32) : Int32 := if 0 ≤ d.toInt ∧ d.toInt < 10000 then 0 else -1000001

/-- crate on a new object -/
def an_crate (o w : Int32) : Int32 := if 0 ≤ o.toInt ∧ o.toInt < 20 ∧ 1 ≤ w.toInt ∧ w.toInt ≤ 100000 then 0 else -1000001

/-- room on a new object -/
def an_room (q w v : Int32) : Int32 := if 0 ≤ q.toInt ∧ q.toInt < 6 ∧ 0 ≤ w.toInt ∧ w.toInt < 2 ∧ 0 ≤ v.toInt ∧ ((w.toInt = 0 ∧ v.toInt ≤ 12) ∨ (w.toInt = 1 ∧ v.toInt ≤ 1000000)) then (if w.toInt = 0 then 4 else 100000) else -1000001

/-- inside on a new object -/
def an_inside (q w : Int32) : Int32 := if 0 ≤ q.toInt ∧ q.toInt < 6 ∧ 0 ≤ w.toInt ∧ w.toInt < 3 then 0 else -1000001

/-- drawn on a new object -/
def an_drawn (d n : Int32) : Int32 := if 0 ≤ d.toInt ∧ d.toInt < 10000 ∧ 0 ≤ n.toInt ∧ n.toInt ≤ 12 then 0 else -1000001

/-- list on a new object -/
def an_list (q a b : Int32) : Int32 := if 0 ≤ q.toInt ∧ q.toInt < 10 ∧ 0 ≤ a.toInt ∧ b.toInt < 10000 ∧ a.toInt ≤ b.toInt then 1 else -1000001

/-- day on a new object -/
def an_day (d : Int32) : Int32 := if 0 ≤ d.toInt ∧ d.toInt < 10000 then 0 else -1000001

/-- feed on a new object -/
def an_feed (n : Int32) : Int32 := if 1 ≤ n.toInt ∧ n.toInt ≤ 8 then n else -1000001

/-- count on a new object -/
def an_count (w : Int32) : Int32 := if 0 ≤ w.toInt ∧ w.toInt < 10 then 0 else -1000001
end
section
theorem dX10_isBelow_0 : decode cX10_isBelow 0 = .ok (.iload_n 0, 1) := by decide +kernel
theorem dX10_isBelow_1 : decode cX10_isBelow 1 = .ok (.ifCond .lt 12, 3) := by decide +kernel
theorem dX10_isBelow_4 : decode cX10_isBelow 4 = .ok (.iload_n 0, 1) := by decide +kernel
theorem dX10_isBelow_5 : decode cX10_isBelow 5 = .ok (.iload_n 1, 1) := by decide +kernel
theorem dX10_isBelow_6 : decode cX10_isBelow 6 = .ok (.if_icmp .ge 7, 3) := by decide +kernel
theorem dX10_isBelow_9 : decode cX10_isBelow 9 = .ok (.iconst 1, 1) := by decide +kernel
theorem dX10_isBelow_10 : decode cX10_isBelow 10 = .ok (.goto 4, 3) := by decide +kernel
theorem dX10_isBelow_13 : decode cX10_isBelow 13 = .ok (.iconst 0, 1) := by decide +kernel
theorem dX10_isBelow_14 : decode cX10_isBelow 14 = .ok (.ireturn, 1) := by decide +kernel
theorem dX10_isFrom_0 : decode cX10_isFrom 0 = .ok (.iload_n 0, 1) := by decide +kernel
theorem dX10_isFrom_1 : decode cX10_isFrom 1 = .ok (.iload_n 1, 1) := by decide +kernel
theorem dX10_isFrom_2 : decode cX10_isFrom 2 = .ok (.if_icmp .lt 12, 3) := by decide +kernel
theorem dX10_isFrom_5 : decode cX10_isFrom 5 = .ok (.iload_n 0, 1) := by decide +kernel
theorem dX10_isFrom_6 : decode cX10_isFrom 6 = .ok (.iload_n 2, 1) := by decide +kernel
theorem dX10_isFrom_7 : decode cX10_isFrom 7 = .ok (.if_icmp .gt 7, 3) := by decide +kernel
theorem dX10_isFrom_10 : decode cX10_isFrom 10 = .ok (.iconst 1, 1) := by decide +kernel
theorem dX10_isFrom_11 : decode cX10_isFrom 11 = .ok (.goto 4, 3) := by decide +kernel
theorem dX10_isFrom_14 : decode cX10_isFrom 14 = .ok (.iconst 0, 1) := by decide +kernel
theorem dX10_isFrom_15 : decode cX10_isFrom 15 = .ok (.ireturn, 1) := by decide +kernel
set_option maxRecDepth 20000 in
theorem ggX10_isDay_X10_isBelow : GoodIn wsX10_isDay wsX10_isBelow := goodIn_r _ [4] (by decide +kernel) (by decide +kernel)
set_option maxRecDepth 20000 in
theorem gX10_isDay_X10_isBelow : GoodIn wsX10_isDay (va_wsS RX10 85 yX10_isBelow wsX10_isBelow) := goodIn_app (goodIn_of _ (by decide +kernel)) ggX10_isDay_X10_isBelow
theorem dX10_isDay_0 : decode cX10_isDay 0 = .ok (.iload_n 0, 1) := by decide +kernel
theorem dX10_isDay_1 : decode cX10_isDay 1 = .ok (.sipush 10000, 3) := by decide +kernel
theorem dX10_isDay_4 : decode cX10_isDay 4 = .ok (.invokestatic 85, 3) := by decide +kernel
theorem dX10_isDay_7 : decode cX10_isDay 7 = .ok (.ireturn, 1) := by decide +kernel
set_option maxRecDepth 20000 in
theorem ggX10_areDays_X10_isDay : GoodIn wsX10_areDays wsX10_isDay := goodIn_r _ [4, 5, 6, 3, 7] (by decide +kernel) (by decide +kernel)
set_option maxRecDepth 20000 in
theorem gX10_areDays_X10_isDay : GoodIn wsX10_areDays (va_wsS RX10 138 yX10_isDay wsX10_isDay) := goodIn_app (goodIn_of _ (by decide +kernel)) ggX10_areDays_X10_isDay
theorem dX10_areDays_0 : decode cX10_areDays 0 = .ok (.iload_n 0, 1) := by decide +kernel
theorem dX10_areDays_1 : decode cX10_areDays 1 = .ok (.invokestatic 138, 3) := by decide +kernel
theorem dX10_areDays_4 : decode cX10_areDays 4 = .ok (.ifCond .eq 19, 3) := by decide +kernel
theorem dX10_areDays_7 : decode cX10_areDays 7 = .ok (.iload_n 1, 1) := by decide +kernel
theorem dX10_areDays_8 : decode cX10_areDays 8 = .ok (.invokestatic 138, 3) := by decide +kernel
theorem dX10_areDays_11 : decode cX10_areDays 11 = .ok (.ifCond .eq 12, 3) := by decide +kernel
theorem dX10_areDays_14 : decode cX10_areDays 14 = .ok (.iload_n 0, 1) := by decide +kernel
theorem dX10_areDays_15 : decode cX10_areDays 15 = .ok (.iload_n 1, 1) := by decide +kernel
theorem dX10_areDays_16 : decode cX10_areDays 16 = .ok (.if_icmp .gt 7, 3) := by decide +kernel
theorem dX10_areDays_19 : decode cX10_areDays 19 = .ok (.iconst 1, 1) := by decide +kernel
theorem dX10_areDays_20 : decode cX10_areDays 20 = .ok (.goto 4, 3) := by decide +kernel
theorem dX10_areDays_23 : decode cX10_areDays 23 = .ok (.iconst 0, 1) := by decide +kernel
theorem dX10_areDays_24 : decode cX10_areDays 24 = .ok (.ireturn, 1) := by decide +kernel
set_option maxRecDepth 20000 in
theorem ggX10_isPerson_X10_isBelow : GoodIn wsX10_isPerson wsX10_isBelow := goodIn_r _ [4] (by decide +kernel) (by decide +kernel)
set_option maxRecDepth 20000 in
theorem gX10_isPerson_X10_isBelow : GoodIn wsX10_isPerson (va_wsS RX10 85 yX10_isBelow wsX10_isBelow) := goodIn_app (goodIn_of _ (by decide +kernel)) ggX10_isPerson_X10_isBelow
theorem dX10_isPerson_0 : decode cX10_isPerson 0 = .ok (.iload_n 0, 1) := by decide +kernel
theorem dX10_isPerson_1 : decode cX10_isPerson 1 = .ok (.bipush 10, 2) := by decide +kernel
theorem dX10_isPerson_3 : decode cX10_isPerson 3 = .ok (.invokestatic 85, 3) := by decide +kernel
theorem dX10_isPerson_6 : decode cX10_isPerson 6 = .ok (.ireturn, 1) := by decide +kernel
set_option maxRecDepth 20000 in
theorem ggX10_isOwner_X10_isBelow : GoodIn wsX10_isOwner wsX10_isBelow := goodIn_r _ [4] (by decide +kernel) (by decide +kernel)
set_option maxRecDepth 20000 in
theorem gX10_isOwner_X10_isBelow : GoodIn wsX10_isOwner (va_wsS RX10 85 yX10_isBelow wsX10_isBelow) := goodIn_app (goodIn_of _ (by decide +kernel)) ggX10_isOwner_X10_isBelow
theorem dX10_isOwner_0 : decode cX10_isOwner 0 = .ok (.iload_n 0, 1) := by decide +kernel
theorem dX10_isOwner_1 : decode cX10_isOwner 1 = .ok (.bipush 20, 2) := by decide +kernel
theorem dX10_isOwner_3 : decode cX10_isOwner 3 = .ok (.invokestatic 85, 3) := by decide +kernel
theorem dX10_isOwner_6 : decode cX10_isOwner 6 = .ok (.ireturn, 1) := by decide +kernel
set_option maxRecDepth 20000 in
theorem ggX10_isPair_X10_isOwner : GoodIn wsX10_isPair wsX10_isOwner := goodIn_r _ [4, 5, 6, 3, 7] (by decide +kernel) (by decide +kernel)
set_option maxRecDepth 20000 in
theorem gX10_isPair_X10_isOwner : GoodIn wsX10_isPair (va_wsS RX10 163 yX10_isOwner wsX10_isOwner) := goodIn_app (goodIn_of _ (by decide +kernel)) ggX10_isPair_X10_isOwner
set_option maxRecDepth 20000 in
theorem ggX10_isPair_X10_isPerson : GoodIn wsX10_isPair wsX10_isPerson := goodIn_r _ [10, 5, 6, 3, 7] (by decide +kernel) (by decide +kernel)
set_option maxRecDepth 20000 in
theorem gX10_isPair_X10_isPerson : GoodIn wsX10_isPair (va_wsS RX10 160 yX10_isPerson wsX10_isPerson) := goodIn_app (goodIn_of _ (by decide +kernel)) ggX10_isPair_X10_isPerson
theorem dX10_isPair_0 : decode cX10_isPair 0 = .ok (.iload_n 0, 1) := by decide +kernel
theorem dX10_isPair_1 : decode cX10_isPair 1 = .ok (.invokestatic 163, 3) := by decide +kernel
theorem dX10_isPair_4 : decode cX10_isPair 4 = .ok (.ifCond .eq 26, 3) := by decide +kernel
theorem dX10_isPair_7 : decode cX10_isPair 7 = .ok (.iload_n 1, 1) := by decide +kernel
theorem dX10_isPair_8 : decode cX10_isPair 8 = .ok (.invokestatic 163, 3) := by decide +kernel
theorem dX10_isPair_11 : decode cX10_isPair 11 = .ok (.ifCond .eq 19, 3) := by decide +kernel
theorem dX10_isPair_14 : decode cX10_isPair 14 = .ok (.iload_n 1, 1) := by decide +kernel
theorem dX10_isPair_15 : decode cX10_isPair 15 = .ok (.invokestatic 160, 3) := by decide +kernel
theorem dX10_isPair_18 : decode cX10_isPair 18 = .ok (.ifCond .ne 12, 3) := by decide +kernel
theorem dX10_isPair_21 : decode cX10_isPair 21 = .ok (.iload_n 0, 1) := by decide +kernel
theorem dX10_isPair_22 : decode cX10_isPair 22 = .ok (.iload_n 1, 1) := by decide +kernel
theorem dX10_isPair_23 : decode cX10_isPair 23 = .ok (.if_icmp .eq 7, 3) := by decide +kernel
theorem dX10_isPair_26 : decode cX10_isPair 26 = .ok (.iconst 1, 1) := by decide +kernel
theorem dX10_isPair_27 : decode cX10_isPair 27 = .ok (.goto 4, 3) := by decide +kernel
theorem dX10_isPair_30 : decode cX10_isPair 30 = .ok (.iconst 0, 1) := by decide +kernel
theorem dX10_isPair_31 : decode cX10_isPair 31 = .ok (.ireturn, 1) := by decide +kernel
set_option maxHeartbeats 4000000 in
set_option maxRecDepth 100000 in
theorem ct_X10_isBelow (l : Launch) (D : va_G) (cI cY cJ cQ : ClassId) (sz : Nat) (a b : Int32)  : Met l yX10_isBelow wsX10_isBelow ({ frames := 0, cells := 0, slots := 0, locals := 0 }) (cPre D (ty4 cI cY cJ cQ) [] sz [.int a, .int b]) (va_Qi (fun (r : Int32) (u : Unit) => r = if 0 ≤ a.toInt ∧ a.toInt < b.toInt then 1 else 0) (cB D (ty4 cI cY cJ cQ) (fun (u : Unit) => []) (va_A [] sz)) (va_A [] sz)) 0 0 (va_A [] sz) := by
  refine Met.ofW (cc := cX10_isBelow) (maxL := 2) (ret := (some .boolean)) (by decide) rfl ?_
  intro p e s m args below meth c s₁ B hml hv
  obtain ⟨rfl, hsz, hP, hK, hD0, hN⟩ := hv
  have hx := B.exec
  have hb := B.bytes
  have hr := B.returns
  have hts := atoms_spec (ws := wsX10_isBelow) B.pre
  have hown : s.vm.findClass RX10 = some m.cls := findClass_of_methodNamed B.named
  have hlocks := B.notSynchronized
  subst hsz
  have hD := hD0.self (sz := s.heap.size)
  generalize hAe : va_A [] s.heap.size = A at hD ⊢
  have hA : ∀ q : Nat, s.heap.size ≤ q → A q := fun q h => by rw [← hAe]; exact Or.inr h
  have hS : va_S A s.heap s.heap [] := va_S.rf
  have hP : va_P D vwCl [] s.heap := hP
  have hl := lv_entry ([.int a, .int b]) (n := 2) (Nat.le_of_ble_eq_true rfl)
  rw [lg_entry_eq]
  generalize (lg_sl ([.int a, .int b]) ++ List.replicate (2 - (lg_sl ([.int a, .int b])).length) Slot.unset).toArray = ls at hl ⊢
  have hl : lv_has ls 2 [(0, .int a), (1, .int b)] := hl
  have k0 : (0 : Int32).toInt = 0 := by decide
  refine lv_iload_n hx hb dX10_isBelow_0 rfl (lv_at hl 0 rfl) ?_
  refine lv_if_lt (tgt := 13) hx hb dX10_isBelow_1 (by decide) (fun c1 => ?_) (fun c1 => ?_)
  · skip
    have f2 := i_lt c1
    refine lv_iconst (v := 0) hx hb dX10_isBelow_13 (by decide) ?_
    have hP9 := hP.sub (ws' := []) [] rfl
    have hD9 := hD.sub (ws' := []) [] (by decide) rfl
    exact W.zret (v := 0) hx hb hr rfl (fun t ht hW => ⟨⟨0, (), rfl, bo_no (by omega), by rw [ht]; exact hP9, va_K.moved hW.alike hK, hD9⟩, hS.F ht⟩) hS.2.2 dX10_isBelow_14
  · skip
    have f3 := i_nlt c1
    refine lv_iload_n hx hb dX10_isBelow_4 rfl (lv_at hl 0 rfl) ?_
    refine lv_iload_n hx hb dX10_isBelow_5 rfl (lv_at hl 1 rfl) ?_
    refine lv_icmp_ge (tgt := 13) hx hb dX10_isBelow_6 (by decide) (fun c4 => ?_) (fun c4 => ?_)
    · skip
      have f5 := i_le c4
      refine lv_iconst (v := 0) hx hb dX10_isBelow_13 (by decide) ?_
      have hP9 := hP.sub (ws' := []) [] rfl
      have hD9 := hD.sub (ws' := []) [] (by decide) rfl
      exact W.zret (v := 0) hx hb hr rfl (fun t ht hW => ⟨⟨0, (), rfl, bo_no (by omega), by rw [ht]; exact hP9, va_K.moved hW.alike hK, hD9⟩, hS.F ht⟩) hS.2.2 dX10_isBelow_14
    · skip
      have f6 := i_nle c4
      refine lv_iconst (v := 1) hx hb dX10_isBelow_9 (by decide) ?_
      refine lv_goto (tgt := 14) hx hb dX10_isBelow_10 (by decide) ?_
      have hP9 := hP.sub (ws' := []) [] rfl
      have hD9 := hD.sub (ws' := []) [] (by decide) rfl
      exact W.zret (v := 1) hx hb hr rfl (fun t ht hW => ⟨⟨1, (), rfl, bo_yes (by omega), by rw [ht]; exact hP9, va_K.moved hW.alike hK, hD9⟩, hS.F ht⟩) hS.2.2 dX10_isBelow_14

set_option maxHeartbeats 4000000 in
set_option maxRecDepth 100000 in
theorem ct_X10_isFrom (l : Launch) (D : va_G) (cI cY cJ cQ : ClassId) (sz : Nat) (a b d : Int32)  : Met l yX10_isFrom wsX10_isFrom ({ frames := 0, cells := 0, slots := 0, locals := 0 }) (cPre D (ty4 cI cY cJ cQ) [] sz [.int a, .int b, .int d]) (va_Qi (fun (r : Int32) (u : Unit) => r = if b.toInt ≤ a.toInt ∧ a.toInt ≤ d.toInt then 1 else 0) (cB D (ty4 cI cY cJ cQ) (fun (u : Unit) => []) (va_A [] sz)) (va_A [] sz)) 0 0 (va_A [] sz) := by
  refine Met.ofW (cc := cX10_isFrom) (maxL := 3) (ret := (some .boolean)) (by decide) rfl ?_
  intro p e s m args below meth c s₁ B hml hv
  obtain ⟨rfl, hsz, hP, hK, hD0, hN⟩ := hv
  have hx := B.exec
  have hb := B.bytes
  have hr := B.returns
  have hts := atoms_spec (ws := wsX10_isFrom) B.pre
  have hown : s.vm.findClass RX10 = some m.cls := findClass_of_methodNamed B.named
  have hlocks := B.notSynchronized
  subst hsz
  have hD := hD0.self (sz := s.heap.size)
  generalize hAe : va_A [] s.heap.size = A at hD ⊢
  have hA : ∀ q : Nat, s.heap.size ≤ q → A q := fun q h => by rw [← hAe]; exact Or.inr h
  have hS : va_S A s.heap s.heap [] := va_S.rf
  have hP : va_P D vwCl [] s.heap := hP
  have hl := lv_entry ([.int a, .int b, .int d]) (n := 3) (Nat.le_of_ble_eq_true rfl)
  rw [lg_entry_eq]
  generalize (lg_sl ([.int a, .int b, .int d]) ++ List.replicate (3 - (lg_sl ([.int a, .int b, .int d])).length) Slot.unset).toArray = ls at hl ⊢
  have hl : lv_has ls 3 [(0, .int a), (1, .int b), (2, .int d)] := hl
  refine lv_iload_n hx hb dX10_isFrom_0 rfl (lv_at hl 0 rfl) ?_
  refine lv_iload_n hx hb dX10_isFrom_1 rfl (lv_at hl 1 rfl) ?_
  refine lv_icmp_lt (tgt := 14) hx hb dX10_isFrom_2 (by decide) (fun c1 => ?_) (fun c1 => ?_)
  · skip
    have f2 := i_lt c1
    refine lv_iconst (v := 0) hx hb dX10_isFrom_14 (by decide) ?_
    have hP9 := hP.sub (ws' := []) [] rfl
    have hD9 := hD.sub (ws' := []) [] (by decide) rfl
    exact W.zret (v := 0) hx hb hr rfl (fun t ht hW => ⟨⟨0, (), rfl, bo_no (by omega), by rw [ht]; exact hP9, va_K.moved hW.alike hK, hD9⟩, hS.F ht⟩) hS.2.2 dX10_isFrom_15
  · skip
    have f3 := i_nlt c1
    refine lv_iload_n hx hb dX10_isFrom_5 rfl (lv_at hl 0 rfl) ?_
    refine lv_iload_n hx hb dX10_isFrom_6 rfl (lv_at hl 2 rfl) ?_
    refine lv_icmp_gt (tgt := 14) hx hb dX10_isFrom_7 (by decide) (fun c4 => ?_) (fun c4 => ?_)
    · skip
      have f5 := i_lt c4
      refine lv_iconst (v := 0) hx hb dX10_isFrom_14 (by decide) ?_
      have hP9 := hP.sub (ws' := []) [] rfl
      have hD9 := hD.sub (ws' := []) [] (by decide) rfl
      exact W.zret (v := 0) hx hb hr rfl (fun t ht hW => ⟨⟨0, (), rfl, bo_no (by omega), by rw [ht]; exact hP9, va_K.moved hW.alike hK, hD9⟩, hS.F ht⟩) hS.2.2 dX10_isFrom_15
    · skip
      have f6 := i_nlt c4
      refine lv_iconst (v := 1) hx hb dX10_isFrom_10 (by decide) ?_
      refine lv_goto (tgt := 15) hx hb dX10_isFrom_11 (by decide) ?_
      have hP9 := hP.sub (ws' := []) [] rfl
      have hD9 := hD.sub (ws' := []) [] (by decide) rfl
      exact W.zret (v := 1) hx hb hr rfl (fun t ht hW => ⟨⟨1, (), rfl, bo_yes (by omega), by rw [ht]; exact hP9, va_K.moved hW.alike hK, hD9⟩, hS.F ht⟩) hS.2.2 dX10_isFrom_15

set_option maxHeartbeats 4000000 in
set_option maxRecDepth 100000 in
theorem ct_X10_isDay (l : Launch) (D : va_G) (cI cY cJ cQ : ClassId) (sz : Nat) (a : Int32)  : Met l yX10_isDay wsX10_isDay ({ frames := 1, cells := 0, slots := 0, locals := 21 }) (cPre D (ty4 cI cY cJ cQ) [] sz [.int a]) (va_Qi (fun (r : Int32) (u : Unit) => r = if 0 ≤ a.toInt ∧ a.toInt < 10000 then 1 else 0) (cB D (ty4 cI cY cJ cQ) (fun (u : Unit) => []) (va_A [] sz)) (va_A [] sz)) 0 0 (va_A [] sz) := by
  refine Met.ofW (cc := cX10_isDay) (maxL := 1) (ret := (some .boolean)) (by decide) rfl ?_
  intro p e s m args below meth c s₁ B hml hv
  obtain ⟨rfl, hsz, hP, hK, hD0, hN⟩ := hv
  have hx := B.exec
  have hb := B.bytes
  have hr := B.returns
  have hts := atoms_spec (ws := wsX10_isDay) B.pre
  have hown : s.vm.findClass RX10 = some m.cls := findClass_of_methodNamed B.named
  have hlocks := B.notSynchronized
  subst hsz
  have hD := hD0.self (sz := s.heap.size)
  generalize hAe : va_A [] s.heap.size = A at hD ⊢
  have hA : ∀ q : Nat, s.heap.size ≤ q → A q := fun q h => by rw [← hAe]; exact Or.inr h
  have hS : va_S A s.heap s.heap [] := va_S.rf
  have hP : va_P D vwCl [] s.heap := hP
  have hl := lv_entry ([.int a]) (n := 1) (Nat.le_of_ble_eq_true rfl)
  rw [lg_entry_eq]
  generalize (lg_sl ([.int a]) ++ List.replicate (1 - (lg_sl ([.int a])).length) Slot.unset).toArray = ls at hl ⊢
  have hl : lv_has ls 1 [(0, .int a)] := hl
  have k10000 : (10000 : Int32).toInt = 10000 := by decide
  refine lv_iload_n hx hb dX10_isDay_0 rfl (lv_at hl 0 rfl) ?_
  refine lv_sipush (v := 10000) hx hb dX10_isDay_1 (by decide) ?_
  refine st_i (wr := []) (va_runS (As := [.int a, .int 10000]) (rest := []) ⟨hx, hb, hml, hown, hts⟩ (ct_X10_isBelow l D cI cY cJ cQ _ a (10000)) (va_cwS 2 hts gX10_isDay_X10_isBelow rfl rfl rfl (by decide +kernel) ⟨Nat.le_of_ble_eq_true rfl, Nat.le_of_ble_eq_true rfl⟩) (cPreS (hP.sub [] rfl) hK (hD.sub [] (by decide) rfl) hN) rfl rfl hl.1 rfl (lv_room (Nat.le_of_ble_eq_true rfl)) dX10_isDay_4 ⟨Nat.le_of_ble_eq_true rfl, Nat.le_of_ble_eq_true rfl⟩) hP hD hS hA [] [] rfl rfl (by decide) (by decide) (fun r3 u1 H locs hw2 hP hD hS => ?_)
  replace hP : va_P D vwCl [] H := hP
  replace hD : va_D A [] := hD
  have hP9 := hP.sub (ws' := []) [] rfl
  have hD9 := hD.sub (ws' := []) [] (by decide) rfl
  exact W.zret (v := r3) hx hb hr (zn_b hw2) (fun t ht hW => ⟨⟨r3, (), rfl, bo_iff hw2 ⟨fun h => by omega, fun h => by omega⟩, by rw [ht]; exact hP9, va_K.moved hW.alike hK, hD9⟩, hS.F ht⟩) hS.2.2 dX10_isDay_7

set_option maxHeartbeats 4000000 in
set_option maxRecDepth 100000 in
theorem ct_X10_areDays (l : Launch) (D : va_G) (cI cY cJ cQ : ClassId) (sz : Nat) (a b : Int32)  : Met l yX10_areDays wsX10_areDays ({ frames := 2, cells := 0, slots := 0, locals := 41 }) (cPre D (ty4 cI cY cJ cQ) [] sz [.int a, .int b]) (va_Qi (fun (r : Int32) (u : Unit) => r = if 0 ≤ a.toInt ∧ b.toInt < 10000 ∧ a.toInt ≤ b.toInt then 1 else 0) (cB D (ty4 cI cY cJ cQ) (fun (u : Unit) => []) (va_A [] sz)) (va_A [] sz)) 0 0 (va_A [] sz) := by
  refine Met.ofW (cc := cX10_areDays) (maxL := 2) (ret := (some .boolean)) (by decide) rfl ?_
  intro p e s m args below meth c s₁ B hml hv
  obtain ⟨rfl, hsz, hP, hK, hD0, hN⟩ := hv
  have hx := B.exec
  have hb := B.bytes
  have hr := B.returns
  have hts := atoms_spec (ws := wsX10_areDays) B.pre
  have hown : s.vm.findClass RX10 = some m.cls := findClass_of_methodNamed B.named
  have hlocks := B.notSynchronized
  subst hsz
  have hD := hD0.self (sz := s.heap.size)
  generalize hAe : va_A [] s.heap.size = A at hD ⊢
  have hA : ∀ q : Nat, s.heap.size ≤ q → A q := fun q h => by rw [← hAe]; exact Or.inr h
  have hS : va_S A s.heap s.heap [] := va_S.rf
  have hP : va_P D vwCl [] s.heap := hP
  have hl := lv_entry ([.int a, .int b]) (n := 2) (Nat.le_of_ble_eq_true rfl)
  rw [lg_entry_eq]
  generalize (lg_sl ([.int a, .int b]) ++ List.replicate (2 - (lg_sl ([.int a, .int b])).length) Slot.unset).toArray = ls at hl ⊢
  have hl : lv_has ls 2 [(0, .int a), (1, .int b)] := hl
  have k0 : (0 : Int32).toInt = 0 := by decide
  refine lv_iload_n hx hb dX10_areDays_0 rfl (lv_at hl 0 rfl) ?_
  refine st_i (wr := []) (va_runS (As := [.int a]) (rest := []) ⟨hx, hb, hml, hown, hts⟩ (ct_X10_isDay l D cI cY cJ cQ _ a) (va_cwS 1 hts gX10_areDays_X10_isDay rfl rfl rfl (by decide +kernel) ⟨Nat.le_of_ble_eq_true rfl, Nat.le_of_ble_eq_true rfl⟩) (cPreS (hP.sub [] rfl) hK (hD.sub [] (by decide) rfl) hN) rfl rfl hl.1 rfl (lv_room (Nat.le_of_ble_eq_true rfl)) dX10_areDays_1 ⟨Nat.le_of_ble_eq_true rfl, Nat.le_of_ble_eq_true rfl⟩) hP hD hS hA [] [] rfl rfl (by decide) (by decide) (fun r3 u1 H locs hw2 hP hD hS => ?_)
  replace hP : va_P D vwCl [] H := hP
  replace hD : va_D A [] := hD
  refine lv_if_eq (tgt := 23) hx hb dX10_areDays_4 (by decide) (fun c4 => ?_) (fun c4 => ?_)
  · skip
    have f5 := bo_f hw2 c4
    refine lv_iconst (v := 0) hx hb dX10_areDays_23 (by decide) ?_
    have hP9 := hP.sub (ws' := []) [] rfl
    have hD9 := hD.sub (ws' := []) [] (by decide) rfl
    exact W.zret (v := 0) hx hb hr rfl (fun t ht hW => ⟨⟨0, (), rfl, bo_no (by omega), by rw [ht]; exact hP9, va_K.moved hW.alike hK, hD9⟩, hS.F ht⟩) hS.2.2 dX10_areDays_24
  · skip
    have f6 := bo_t hw2 c4
    refine lv_iload_n hx hb dX10_areDays_7 rfl (lv_at hl 1 rfl) ?_
    refine st_i (wr := []) (va_runS (As := [.int b]) (rest := []) ⟨hx, hb, hml, hown, hts⟩ (ct_X10_isDay l D cI cY cJ cQ _ b) (va_cwS 1 hts gX10_areDays_X10_isDay rfl rfl rfl (by decide +kernel) ⟨Nat.le_of_ble_eq_true rfl, Nat.le_of_ble_eq_true rfl⟩) (cPreS (hP.sub [] rfl) hK (hD.sub [] (by decide) rfl) hN) rfl rfl hl.1 rfl (lv_room (Nat.le_of_ble_eq_true rfl)) dX10_areDays_8 ⟨Nat.le_of_ble_eq_true rfl, Nat.le_of_ble_eq_true rfl⟩) hP hD hS hA [] [] rfl rfl (by decide) (by decide) (fun r9 u7 H locs hw8 hP hD hS => ?_)
    replace hP : va_P D vwCl [] H := hP
    replace hD : va_D A [] := hD
    refine lv_if_eq (tgt := 23) hx hb dX10_areDays_11 (by decide) (fun c10 => ?_) (fun c10 => ?_)
    · skip
      have f11 := bo_f hw8 c10
      refine lv_iconst (v := 0) hx hb dX10_areDays_23 (by decide) ?_
      have hP9 := hP.sub (ws' := []) [] rfl
      have hD9 := hD.sub (ws' := []) [] (by decide) rfl
      exact W.zret (v := 0) hx hb hr rfl (fun t ht hW => ⟨⟨0, (), rfl, bo_no (by omega), by rw [ht]; exact hP9, va_K.moved hW.alike hK, hD9⟩, hS.F ht⟩) hS.2.2 dX10_areDays_24
    · skip
      have f12 := bo_t hw8 c10
      refine lv_iload_n hx hb dX10_areDays_14 rfl (lv_at hl 0 rfl) ?_
      refine lv_iload_n hx hb dX10_areDays_15 rfl (lv_at hl 1 rfl) ?_
      refine lv_icmp_gt (tgt := 23) hx hb dX10_areDays_16 (by decide) (fun c13 => ?_) (fun c13 => ?_)
      · skip
        have f14 := i_lt c13
        refine lv_iconst (v := 0) hx hb dX10_areDays_23 (by decide) ?_
        have hP9 := hP.sub (ws' := []) [] rfl
        have hD9 := hD.sub (ws' := []) [] (by decide) rfl
        exact W.zret (v := 0) hx hb hr rfl (fun t ht hW => ⟨⟨0, (), rfl, bo_no (by omega), by rw [ht]; exact hP9, va_K.moved hW.alike hK, hD9⟩, hS.F ht⟩) hS.2.2 dX10_areDays_24
      · skip
        have f15 := i_nlt c13
        refine lv_iconst (v := 1) hx hb dX10_areDays_19 (by decide) ?_
        refine lv_goto (tgt := 24) hx hb dX10_areDays_20 (by decide) ?_
        have hP9 := hP.sub (ws' := []) [] rfl
        have hD9 := hD.sub (ws' := []) [] (by decide) rfl
        exact W.zret (v := 1) hx hb hr rfl (fun t ht hW => ⟨⟨1, (), rfl, bo_yes (by omega), by rw [ht]; exact hP9, va_K.moved hW.alike hK, hD9⟩, hS.F ht⟩) hS.2.2 dX10_areDays_24

set_option maxHeartbeats 4000000 in
set_option maxRecDepth 100000 in
theorem ct_X10_isPerson (l : Launch) (D : va_G) (cI cY cJ cQ : ClassId) (sz : Nat) (a : Int32)  : Met l yX10_isPerson wsX10_isPerson ({ frames := 1, cells := 0, slots := 0, locals := 21 }) (cPre D (ty4 cI cY cJ cQ) [] sz [.int a]) (va_Qi (fun (r : Int32) (u : Unit) => r = if 0 ≤ a.toInt ∧ a.toInt < 10 then 1 else 0) (cB D (ty4 cI cY cJ cQ) (fun (u : Unit) => []) (va_A [] sz)) (va_A [] sz)) 0 0 (va_A [] sz) := by
  refine Met.ofW (cc := cX10_isPerson) (maxL := 1) (ret := (some .boolean)) (by decide) rfl ?_
  intro p e s m args below meth c s₁ B hml hv
  obtain ⟨rfl, hsz, hP, hK, hD0, hN⟩ := hv
  have hx := B.exec
  have hb := B.bytes
  have hr := B.returns
  have hts := atoms_spec (ws := wsX10_isPerson) B.pre
  have hown : s.vm.findClass RX10 = some m.cls := findClass_of_methodNamed B.named
  have hlocks := B.notSynchronized
  subst hsz
  have hD := hD0.self (sz := s.heap.size)
  generalize hAe : va_A [] s.heap.size = A at hD ⊢
  have hA : ∀ q : Nat, s.heap.size ≤ q → A q := fun q h => by rw [← hAe]; exact Or.inr h
  have hS : va_S A s.heap s.heap [] := va_S.rf
  have hP : va_P D vwCl [] s.heap := hP
  have hl := lv_entry ([.int a]) (n := 1) (Nat.le_of_ble_eq_true rfl)
  rw [lg_entry_eq]
  generalize (lg_sl ([.int a]) ++ List.replicate (1 - (lg_sl ([.int a])).length) Slot.unset).toArray = ls at hl ⊢
  have hl : lv_has ls 1 [(0, .int a)] := hl
  have k10 : (10 : Int32).toInt = 10 := by decide
  refine lv_iload_n hx hb dX10_isPerson_0 rfl (lv_at hl 0 rfl) ?_
  refine lv_bipush (v := 10) hx hb dX10_isPerson_1 (by decide) ?_
  refine st_i (wr := []) (va_runS (As := [.int a, .int 10]) (rest := []) ⟨hx, hb, hml, hown, hts⟩ (ct_X10_isBelow l D cI cY cJ cQ _ a (10)) (va_cwS 2 hts gX10_isPerson_X10_isBelow rfl rfl rfl (by decide +kernel) ⟨Nat.le_of_ble_eq_true rfl, Nat.le_of_ble_eq_true rfl⟩) (cPreS (hP.sub [] rfl) hK (hD.sub [] (by decide) rfl) hN) rfl rfl hl.1 rfl (lv_room (Nat.le_of_ble_eq_true rfl)) dX10_isPerson_3 ⟨Nat.le_of_ble_eq_true rfl, Nat.le_of_ble_eq_true rfl⟩) hP hD hS hA [] [] rfl rfl (by decide) (by decide) (fun r3 u1 H locs hw2 hP hD hS => ?_)
  replace hP : va_P D vwCl [] H := hP
  replace hD : va_D A [] := hD
  have hP9 := hP.sub (ws' := []) [] rfl
  have hD9 := hD.sub (ws' := []) [] (by decide) rfl
  exact W.zret (v := r3) hx hb hr (zn_b hw2) (fun t ht hW => ⟨⟨r3, (), rfl, bo_iff hw2 ⟨fun h => by omega, fun h => by omega⟩, by rw [ht]; exact hP9, va_K.moved hW.alike hK, hD9⟩, hS.F ht⟩) hS.2.2 dX10_isPerson_6

set_option maxHeartbeats 4000000 in
set_option maxRecDepth 100000 in
theorem ct_X10_isOwner (l : Launch) (D : va_G) (cI cY cJ cQ : ClassId) (sz : Nat) (a : Int32)  : Met l yX10_isOwner wsX10_isOwner ({ frames := 1, cells := 0, slots := 0, locals := 21 }) (cPre D (ty4 cI cY cJ cQ) [] sz [.int a]) (va_Qi (fun (r : Int32) (u : Unit) => r = if 0 ≤ a.toInt ∧ a.toInt < 20 then 1 else 0) (cB D (ty4 cI cY cJ cQ) (fun (u : Unit) => []) (va_A [] sz)) (va_A [] sz)) 0 0 (va_A [] sz) := by
  refine Met.ofW (cc := cX10_isOwner) (maxL := 1) (ret := (some .boolean)) (by decide) rfl ?_
  intro p e s m args below meth c s₁ B hml hv
  obtain ⟨rfl, hsz, hP, hK, hD0, hN⟩ := hv
  have hx := B.exec
  have hb := B.bytes
  have hr := B.returns
  have hts := atoms_spec (ws := wsX10_isOwner) B.pre
  have hown : s.vm.findClass RX10 = some m.cls := findClass_of_methodNamed B.named
  have hlocks := B.notSynchronized
  subst hsz
  have hD := hD0.self (sz := s.heap.size)
  generalize hAe : va_A [] s.heap.size = A at hD ⊢
  have hA : ∀ q : Nat, s.heap.size ≤ q → A q := fun q h => by rw [← hAe]; exact Or.inr h
  have hS : va_S A s.heap s.heap [] := va_S.rf
  have hP : va_P D vwCl [] s.heap := hP
  have hl := lv_entry ([.int a]) (n := 1) (Nat.le_of_ble_eq_true rfl)
  rw [lg_entry_eq]
  generalize (lg_sl ([.int a]) ++ List.replicate (1 - (lg_sl ([.int a])).length) Slot.unset).toArray = ls at hl ⊢
  have hl : lv_has ls 1 [(0, .int a)] := hl
  have k20 : (20 : Int32).toInt = 20 := by decide
  refine lv_iload_n hx hb dX10_isOwner_0 rfl (lv_at hl 0 rfl) ?_
  refine lv_bipush (v := 20) hx hb dX10_isOwner_1 (by decide) ?_
  refine st_i (wr := []) (va_runS (As := [.int a, .int 20]) (rest := []) ⟨hx, hb, hml, hown, hts⟩ (ct_X10_isBelow l D cI cY cJ cQ _ a (20)) (va_cwS 2 hts gX10_isOwner_X10_isBelow rfl rfl rfl (by decide +kernel) ⟨Nat.le_of_ble_eq_true rfl, Nat.le_of_ble_eq_true rfl⟩) (cPreS (hP.sub [] rfl) hK (hD.sub [] (by decide) rfl) hN) rfl rfl hl.1 rfl (lv_room (Nat.le_of_ble_eq_true rfl)) dX10_isOwner_3 ⟨Nat.le_of_ble_eq_true rfl, Nat.le_of_ble_eq_true rfl⟩) hP hD hS hA [] [] rfl rfl (by decide) (by decide) (fun r3 u1 H locs hw2 hP hD hS => ?_)
  replace hP : va_P D vwCl [] H := hP
  replace hD : va_D A [] := hD
  have hP9 := hP.sub (ws' := []) [] rfl
  have hD9 := hD.sub (ws' := []) [] (by decide) rfl
  exact W.zret (v := r3) hx hb hr (zn_b hw2) (fun t ht hW => ⟨⟨r3, (), rfl, bo_iff hw2 ⟨fun h => by omega, fun h => by omega⟩, by rw [ht]; exact hP9, va_K.moved hW.alike hK, hD9⟩, hS.F ht⟩) hS.2.2 dX10_isOwner_6

set_option maxHeartbeats 4000000 in
set_option maxRecDepth 100000 in
theorem ct_X10_isPair (l : Launch) (D : va_G) (cI cY cJ cQ : ClassId) (sz : Nat) (a b : Int32)  : Met l yX10_isPair wsX10_isPair ({ frames := 2, cells := 0, slots := 0, locals := 41 }) (cPre D (ty4 cI cY cJ cQ) [] sz [.int a, .int b]) (va_Qi (fun (r : Int32) (u : Unit) => r = if 0 ≤ a.toInt ∧ a.toInt < 20 ∧ 10 ≤ b.toInt ∧ b.toInt < 20 ∧ ¬ a.toInt = b.toInt then 1 else 0) (cB D (ty4 cI cY cJ cQ) (fun (u : Unit) => []) (va_A [] sz)) (va_A [] sz)) 0 0 (va_A [] sz) := by
  refine Met.ofW (cc := cX10_isPair) (maxL := 2) (ret := (some .boolean)) (by decide) rfl ?_
  intro p e s m args below meth c s₁ B hml hv
  obtain ⟨rfl, hsz, hP, hK, hD0, hN⟩ := hv
  have hx := B.exec
  have hb := B.bytes
  have hr := B.returns
  have hts := atoms_spec (ws := wsX10_isPair) B.pre
  have hown : s.vm.findClass RX10 = some m.cls := findClass_of_methodNamed B.named
  have hlocks := B.notSynchronized
  subst hsz
  have hD := hD0.self (sz := s.heap.size)
  generalize hAe : va_A [] s.heap.size = A at hD ⊢
  have hA : ∀ q : Nat, s.heap.size ≤ q → A q := fun q h => by rw [← hAe]; exact Or.inr h
  have hS : va_S A s.heap s.heap [] := va_S.rf
  have hP : va_P D vwCl [] s.heap := hP
  have hl := lv_entry ([.int a, .int b]) (n := 2) (Nat.le_of_ble_eq_true rfl)
  rw [lg_entry_eq]
  generalize (lg_sl ([.int a, .int b]) ++ List.replicate (2 - (lg_sl ([.int a, .int b])).length) Slot.unset).toArray = ls at hl ⊢
  have hl : lv_has ls 2 [(0, .int a), (1, .int b)] := hl
  have k0 : (0 : Int32).toInt = 0 := by decide
  refine lv_iload_n hx hb dX10_isPair_0 rfl (lv_at hl 0 rfl) ?_
  refine st_i (wr := []) (va_runS (As := [.int a]) (rest := []) ⟨hx, hb, hml, hown, hts⟩ (ct_X10_isOwner l D cI cY cJ cQ _ a) (va_cwS 1 hts gX10_isPair_X10_isOwner rfl rfl rfl (by decide +kernel) ⟨Nat.le_of_ble_eq_true rfl, Nat.le_of_ble_eq_true rfl⟩) (cPreS (hP.sub [] rfl) hK (hD.sub [] (by decide) rfl) hN) rfl rfl hl.1 rfl (lv_room (Nat.le_of_ble_eq_true rfl)) dX10_isPair_1 ⟨Nat.le_of_ble_eq_true rfl, Nat.le_of_ble_eq_true rfl⟩) hP hD hS hA [] [] rfl rfl (by decide) (by decide) (fun r3 u1 H locs hw2 hP hD hS => ?_)
  replace hP : va_P D vwCl [] H := hP
  replace hD : va_D A [] := hD
  refine lv_if_eq (tgt := 30) hx hb dX10_isPair_4 (by decide) (fun c4 => ?_) (fun c4 => ?_)
  · skip
    have f5 := bo_f hw2 c4
    refine lv_iconst (v := 0) hx hb dX10_isPair_30 (by decide) ?_
    have hP9 := hP.sub (ws' := []) [] rfl
    have hD9 := hD.sub (ws' := []) [] (by decide) rfl
    exact W.zret (v := 0) hx hb hr rfl (fun t ht hW => ⟨⟨0, (), rfl, bo_no (by omega), by rw [ht]; exact hP9, va_K.moved hW.alike hK, hD9⟩, hS.F ht⟩) hS.2.2 dX10_isPair_31
  · skip
    have f6 := bo_t hw2 c4
    refine lv_iload_n hx hb dX10_isPair_7 rfl (lv_at hl 1 rfl) ?_
    refine st_i (wr := []) (va_runS (As := [.int b]) (rest := []) ⟨hx, hb, hml, hown, hts⟩ (ct_X10_isOwner l D cI cY cJ cQ _ b) (va_cwS 1 hts gX10_isPair_X10_isOwner rfl rfl rfl (by decide +kernel) ⟨Nat.le_of_ble_eq_true rfl, Nat.le_of_ble_eq_true rfl⟩) (cPreS (hP.sub [] rfl) hK (hD.sub [] (by decide) rfl) hN) rfl rfl hl.1 rfl (lv_room (Nat.le_of_ble_eq_true rfl)) dX10_isPair_8 ⟨Nat.le_of_ble_eq_true rfl, Nat.le_of_ble_eq_true rfl⟩) hP hD hS hA [] [] rfl rfl (by decide) (by decide) (fun r9 u7 H locs hw8 hP hD hS => ?_)
    replace hP : va_P D vwCl [] H := hP
    replace hD : va_D A [] := hD
    refine lv_if_eq (tgt := 30) hx hb dX10_isPair_11 (by decide) (fun c10 => ?_) (fun c10 => ?_)
    · skip
      have f11 := bo_f hw8 c10
      refine lv_iconst (v := 0) hx hb dX10_isPair_30 (by decide) ?_
      have hP9 := hP.sub (ws' := []) [] rfl
      have hD9 := hD.sub (ws' := []) [] (by decide) rfl
      exact W.zret (v := 0) hx hb hr rfl (fun t ht hW => ⟨⟨0, (), rfl, bo_no (by omega), by rw [ht]; exact hP9, va_K.moved hW.alike hK, hD9⟩, hS.F ht⟩) hS.2.2 dX10_isPair_31
    · skip
      have f12 := bo_t hw8 c10
      refine lv_iload_n hx hb dX10_isPair_14 rfl (lv_at hl 1 rfl) ?_
      refine st_i (wr := []) (va_runS (As := [.int b]) (rest := []) ⟨hx, hb, hml, hown, hts⟩ (ct_X10_isPerson l D cI cY cJ cQ _ b) (va_cwS 1 hts gX10_isPair_X10_isPerson rfl rfl rfl (by decide +kernel) ⟨Nat.le_of_ble_eq_true rfl, Nat.le_of_ble_eq_true rfl⟩) (cPreS (hP.sub [] rfl) hK (hD.sub [] (by decide) rfl) hN) rfl rfl hl.1 rfl (lv_room (Nat.le_of_ble_eq_true rfl)) dX10_isPair_15 ⟨Nat.le_of_ble_eq_true rfl, Nat.le_of_ble_eq_true rfl⟩) hP hD hS hA [] [] rfl rfl (by decide) (by decide) (fun r15 u13 H locs hw14 hP hD hS => ?_)
      replace hP : va_P D vwCl [] H := hP
      replace hD : va_D A [] := hD
      refine lv_if_ne (tgt := 30) hx hb dX10_isPair_18 (by decide) (fun c16 => ?_) (fun c16 => ?_)
      · skip
        have f17 := bo_t hw14 c16
        refine lv_iconst (v := 0) hx hb dX10_isPair_30 (by decide) ?_
        have hP9 := hP.sub (ws' := []) [] rfl
        have hD9 := hD.sub (ws' := []) [] (by decide) rfl
        exact W.zret (v := 0) hx hb hr rfl (fun t ht hW => ⟨⟨0, (), rfl, bo_no (by omega), by rw [ht]; exact hP9, va_K.moved hW.alike hK, hD9⟩, hS.F ht⟩) hS.2.2 dX10_isPair_31
      · skip
        have f18 := bo_f hw14 c16
        refine lv_iload_n hx hb dX10_isPair_21 rfl (lv_at hl 0 rfl) ?_
        refine lv_iload_n hx hb dX10_isPair_22 rfl (lv_at hl 1 rfl) ?_
        refine lv_icmp_eq (tgt := 30) hx hb dX10_isPair_23 (by decide) (fun c19 => ?_) (fun c19 => ?_)
        · skip
          have f20 := i_eq c19
          refine lv_iconst (v := 0) hx hb dX10_isPair_30 (by decide) ?_
          have hP9 := hP.sub (ws' := []) [] rfl
          have hD9 := hD.sub (ws' := []) [] (by decide) rfl
          exact W.zret (v := 0) hx hb hr rfl (fun t ht hW => ⟨⟨0, (), rfl, bo_no (by omega), by rw [ht]; exact hP9, va_K.moved hW.alike hK, hD9⟩, hS.F ht⟩) hS.2.2 dX10_isPair_31
        · skip
          have f21 := i_ne c19
          refine lv_iconst (v := 1) hx hb dX10_isPair_26 (by decide) ?_
          refine lv_goto (tgt := 31) hx hb dX10_isPair_27 (by decide) ?_
          have hP9 := hP.sub (ws' := []) [] rfl
          have hD9 := hD.sub (ws' := []) [] (by decide) rfl
          exact W.zret (v := 1) hx hb hr rfl (fun t ht hW => ⟨⟨1, (), rfl, bo_yes (by omega), by rw [ht]; exact hP9, va_K.moved hW.alike hK, hD9⟩, hS.F ht⟩) hS.2.2 dX10_isPair_31
end
section
set_option maxRecDepth 20000 in
theorem ggX10_paper_X10_isCrate : GoodIn wsX10_paper wsX10_isCrate := goodIn_r _ [9, 10, 11, 12, 13, 8, 14, 40, 41, 42, 43, 44, 45, 46, 47, 48, 49, 50, 51, 52, 53, 61, 62, 63, 64, 65, 66] (by decide +kernel) (by decide +kernel)
set_option maxRecDepth 20000 in
theorem gX10_paper_X10_isCrate : GoodIn wsX10_paper (wsV RX10 180 RX10 yX10_isCrate wsX10_isCrate) := goodIn_app (goodIn_of _ (by decide +kernel)) ggX10_paper_X10_isCrate
theorem dX10_paper_0 : decode cX10_paper 0 = .ok (.aload_n 0, 1) := by decide +kernel
theorem dX10_paper_1 : decode cX10_paper 1 = .ok (.iload_n 1, 1) := by decide +kernel
theorem dX10_paper_2 : decode cX10_paper 2 = .ok (.invokevirtual 180, 3) := by decide +kernel
theorem dX10_paper_5 : decode cX10_paper 5 = .ok (.ifCond .eq 32, 3) := by decide +kernel
theorem dX10_paper_37 : decode cX10_paper 37 = .ok (.ldc 89, 2) := by decide +kernel
theorem dX10_paper_39 : decode cX10_paper 39 = .ok (.ireturn, 1) := by decide +kernel
set_option maxRecDepth 20000 in
theorem ggX10_owner_X10_isCrate : GoodIn wsX10_owner wsX10_isCrate := goodIn_r _ [9, 3, 10, 11, 12, 8, 13, 33, 34, 35, 36, 37, 38, 39, 40, 41, 42, 43, 44, 45, 46, 47, 48, 49, 50, 51, 52] (by decide +kernel) (by decide +kernel)
set_option maxRecDepth 20000 in
theorem gX10_owner_X10_isCrate : GoodIn wsX10_owner (wsV RX10 180 RX10 yX10_isCrate wsX10_isCrate) := goodIn_app (goodIn_of _ (by decide +kernel)) ggX10_owner_X10_isCrate
theorem dX10_owner_0 : decode cX10_owner 0 = .ok (.aload_n 0, 1) := by decide +kernel
theorem dX10_owner_1 : decode cX10_owner 1 = .ok (.iload_n 1, 1) := by decide +kernel
theorem dX10_owner_2 : decode cX10_owner 2 = .ok (.invokevirtual 180, 3) := by decide +kernel
theorem dX10_owner_5 : decode cX10_owner 5 = .ok (.ifCond .eq 17, 3) := by decide +kernel
theorem dX10_owner_22 : decode cX10_owner 22 = .ok (.ldc 89, 2) := by decide +kernel
theorem dX10_owner_24 : decode cX10_owner 24 = .ok (.ireturn, 1) := by decide +kernel
set_option maxRecDepth 20000 in
theorem ggX10_quarrels_X10_isCrate : GoodIn wsX10_quarrels wsX10_isCrate := goodIn_r _ [9, 3, 10, 11, 12, 8, 13, 32, 33, 34, 35, 36, 37, 38, 39, 40, 41, 42, 43, 44, 45, 46, 47, 48, 49, 50, 51] (by decide +kernel) (by decide +kernel)
set_option maxRecDepth 20000 in
theorem gX10_quarrels_X10_isCrate : GoodIn wsX10_quarrels (wsV RX10 180 RX10 yX10_isCrate wsX10_isCrate) := goodIn_app (goodIn_of _ (by decide +kernel)) ggX10_quarrels_X10_isCrate
theorem dX10_quarrels_0 : decode cX10_quarrels 0 = .ok (.aload_n 0, 1) := by decide +kernel
theorem dX10_quarrels_1 : decode cX10_quarrels 1 = .ok (.iload_n 1, 1) := by decide +kernel
theorem dX10_quarrels_2 : decode cX10_quarrels 2 = .ok (.invokevirtual 180, 3) := by decide +kernel
theorem dX10_quarrels_5 : decode cX10_quarrels 5 = .ok (.ifCond .eq 10, 3) := by decide +kernel
theorem dX10_quarrels_15 : decode cX10_quarrels 15 = .ok (.ldc 89, 2) := by decide +kernel
theorem dX10_quarrels_17 : decode cX10_quarrels 17 = .ok (.ireturn, 1) := by decide +kernel
set_option maxRecDepth 20000 in
theorem ggX10_pledge_X10_isCrate : GoodIn wsX10_pledge wsX10_isCrate := goodIn_r _ [10, 11, 12, 13, 14, 9, 15, 38, 39, 40, 41, 42, 43, 44, 45, 46, 47, 48, 49, 50, 51, 58, 59, 60, 61, 62, 63] (by decide +kernel) (by decide +kernel)
set_option maxRecDepth 20000 in
theorem gX10_pledge_X10_isCrate : GoodIn wsX10_pledge (wsV RX10 180 RX10 yX10_isCrate wsX10_isCrate) := goodIn_app (goodIn_of _ (by decide +kernel)) ggX10_pledge_X10_isCrate
theorem dX10_pledge_0 : decode cX10_pledge 0 = .ok (.aload_n 0, 1) := by decide +kernel
theorem dX10_pledge_1 : decode cX10_pledge 1 = .ok (.iload_n 1, 1) := by decide +kernel
theorem dX10_pledge_2 : decode cX10_pledge 2 = .ok (.invokevirtual 180, 3) := by decide +kernel
theorem dX10_pledge_5 : decode cX10_pledge 5 = .ok (.ifCond .eq 30, 3) := by decide +kernel
theorem dX10_pledge_35 : decode cX10_pledge 35 = .ok (.ldc 89, 2) := by decide +kernel
theorem dX10_pledge_37 : decode cX10_pledge 37 = .ok (.ireturn, 1) := by decide +kernel
set_option maxRecDepth 20000 in
theorem ggX10_rank_X10_isCrate : GoodIn wsX10_rank wsX10_isCrate := goodIn_r _ [11, 5, 12, 13, 14, 10, 15, 50, 51, 52, 53, 54, 55, 56, 57, 58, 59, 60, 61, 62, 63, 70, 71, 72, 73, 74, 75] (by decide +kernel) (by decide +kernel)
set_option maxRecDepth 20000 in
theorem gX10_rank_X10_isCrate : GoodIn wsX10_rank (wsV RX10 180 RX10 yX10_isCrate wsX10_isCrate) := goodIn_app (goodIn_of _ (by decide +kernel)) ggX10_rank_X10_isCrate
theorem dX10_rank_0 : decode cX10_rank 0 = .ok (.aload_n 0, 1) := by decide +kernel
theorem dX10_rank_1 : decode cX10_rank 1 = .ok (.iload_n 1, 1) := by decide +kernel
theorem dX10_rank_2 : decode cX10_rank 2 = .ok (.invokevirtual 180, 3) := by decide +kernel
theorem dX10_rank_5 : decode cX10_rank 5 = .ok (.ifCond .eq 32, 3) := by decide +kernel
theorem dX10_rank_37 : decode cX10_rank 37 = .ok (.ldc 89, 2) := by decide +kernel
theorem dX10_rank_39 : decode cX10_rank 39 = .ok (.ireturn, 1) := by decide +kernel
theorem dX10_fault_0 : decode cX10_fault 0 = .ok (.aload_n 0, 1) := by decide +kernel
theorem dX10_fault_1 : decode cX10_fault 1 = .ok (.getfield 47, 3) := by decide +kernel
theorem dX10_fault_4 : decode cX10_fault 4 = .ok (.getfield 224, 3) := by decide +kernel
theorem dX10_fault_7 : decode cX10_fault 7 = .ok (.ireturn, 1) := by decide +kernel
set_option maxRecDepth 20000 in
theorem ggX10_act_X10_isCrate : GoodIn wsX10_act wsX10_isCrate := goodIn_r _ [9, 10, 11, 12, 13, 8, 14, 31, 32, 33, 34, 35, 36, 37, 38, 39, 40, 41, 42, 43, 44, 50, 51, 52, 53, 54, 55] (by decide +kernel) (by decide +kernel)
set_option maxRecDepth 20000 in
theorem gX10_act_X10_isCrate : GoodIn wsX10_act (wsV RX10 180 RX10 yX10_isCrate wsX10_isCrate) := goodIn_app (goodIn_of _ (by decide +kernel)) ggX10_act_X10_isCrate
theorem dX10_act_0 : decode cX10_act 0 = .ok (.aload_n 0, 1) := by decide +kernel
theorem dX10_act_1 : decode cX10_act 1 = .ok (.iload_n 1, 1) := by decide +kernel
theorem dX10_act_2 : decode cX10_act 2 = .ok (.invokevirtual 180, 3) := by decide +kernel
theorem dX10_act_5 : decode cX10_act 5 = .ok (.ifCond .eq 30, 3) := by decide +kernel
theorem dX10_act_35 : decode cX10_act 35 = .ok (.ldc 89, 2) := by decide +kernel
theorem dX10_act_37 : decode cX10_act 37 = .ok (.ireturn, 1) := by decide +kernel
set_option maxRecDepth 20000 in
theorem ggX10_duty_X10_isCrate : GoodIn wsX10_duty wsX10_isCrate := goodIn_r _ [15, 7, 16, 17, 18, 14, 19, 39, 40, 41, 42, 43, 44, 45, 46, 47, 48, 49, 50, 51, 52, 58, 59, 60, 61, 62, 63] (by decide +kernel) (by decide +kernel)
set_option maxRecDepth 20000 in
theorem gX10_duty_X10_isCrate : GoodIn wsX10_duty (wsV RX10 180 RX10 yX10_isCrate wsX10_isCrate) := goodIn_app (goodIn_of _ (by decide +kernel)) ggX10_duty_X10_isCrate
theorem dX10_duty_0 : decode cX10_duty 0 = .ok (.aload_n 0, 1) := by decide +kernel
theorem dX10_duty_1 : decode cX10_duty 1 = .ok (.iload_n 1, 1) := by decide +kernel
theorem dX10_duty_2 : decode cX10_duty 2 = .ok (.invokevirtual 180, 3) := by decide +kernel
theorem dX10_duty_5 : decode cX10_duty 5 = .ok (.ifCond .eq 11, 3) := by decide +kernel
theorem dX10_duty_16 : decode cX10_duty 16 = .ok (.ldc 89, 2) := by decide +kernel
theorem dX10_duty_18 : decode cX10_duty 18 = .ok (.ireturn, 1) := by decide +kernel
set_option maxRecDepth 20000 in
theorem ggX10_move_X10_isCrate : GoodIn wsX10_move wsX10_isCrate := goodIn_r _ [11, 3, 12, 13, 14, 10, 15, 43, 44, 45, 46, 47, 48, 49, 50, 51, 52, 53, 54, 55, 56, 57, 58, 59, 60, 61, 62] (by decide +kernel) (by decide +kernel)
set_option maxRecDepth 20000 in
theorem gX10_move_X10_isCrate : GoodIn wsX10_move (wsV RX10 180 RX10 yX10_isCrate wsX10_isCrate) := goodIn_app (goodIn_of _ (by decide +kernel)) ggX10_move_X10_isCrate
theorem dX10_move_0 : decode cX10_move 0 = .ok (.aload_n 0, 1) := by decide +kernel
theorem dX10_move_1 : decode cX10_move 1 = .ok (.iload_n 1, 1) := by decide +kernel
theorem dX10_move_2 : decode cX10_move 2 = .ok (.invokevirtual 180, 3) := by decide +kernel
theorem dX10_move_5 : decode cX10_move 5 = .ok (.ifCond .eq 18, 3) := by decide +kernel
theorem dX10_move_23 : decode cX10_move 23 = .ok (.ldc 89, 2) := by decide +kernel
theorem dX10_move_25 : decode cX10_move 25 = .ok (.ireturn, 1) := by decide +kernel
set_option maxRecDepth 20000 in
theorem ggX10_often_X10_isCrate : GoodIn wsX10_often wsX10_isCrate := goodIn_r _ [8, 2, 9, 10, 11, 7, 12, 57, 58, 59, 60, 61, 62, 63, 64, 65, 66, 67, 68, 69, 70, 71, 72, 73, 74, 75, 76] (by decide +kernel) (by decide +kernel)
set_option maxRecDepth 20000 in
theorem gX10_often_X10_isCrate : GoodIn wsX10_often (wsV RX10 180 RX10 yX10_isCrate wsX10_isCrate) := goodIn_app (goodIn_of _ (by decide +kernel)) ggX10_often_X10_isCrate
theorem dX10_often_0 : decode cX10_often 0 = .ok (.aload_n 0, 1) := by decide +kernel
theorem dX10_often_1 : decode cX10_often 1 = .ok (.iload_n 1, 1) := by decide +kernel
theorem dX10_often_2 : decode cX10_often 2 = .ok (.invokevirtual 180, 3) := by decide +kernel
theorem dX10_often_5 : decode cX10_often 5 = .ok (.ifCond .eq 31, 3) := by decide +kernel
theorem dX10_often_36 : decode cX10_often 36 = .ok (.ldc 89, 2) := by decide +kernel
theorem dX10_often_38 : decode cX10_often 38 = .ok (.ireturn, 1) := by decide +kernel
set_option maxRecDepth 20000 in
theorem ggX10_opened_X10_isCrate : GoodIn wsX10_opened wsX10_isCrate := goodIn_r _ [10, 11, 12, 13, 14, 9, 15, 32, 33, 34, 35, 36, 37, 38, 39, 40, 41, 42, 43, 44, 45, 51, 52, 53, 54, 55, 56] (by decide +kernel) (by decide +kernel)
set_option maxRecDepth 20000 in
theorem gX10_opened_X10_isCrate : GoodIn wsX10_opened (wsV RX10 180 RX10 yX10_isCrate wsX10_isCrate) := goodIn_app (goodIn_of _ (by decide +kernel)) ggX10_opened_X10_isCrate
theorem dX10_opened_0 : decode cX10_opened 0 = .ok (.aload_n 0, 1) := by decide +kernel
theorem dX10_opened_1 : decode cX10_opened 1 = .ok (.iload_n 1, 1) := by decide +kernel
theorem dX10_opened_2 : decode cX10_opened 2 = .ok (.invokevirtual 180, 3) := by decide +kernel
theorem dX10_opened_5 : decode cX10_opened 5 = .ok (.ifCond .eq 32, 3) := by decide +kernel
theorem dX10_opened_37 : decode cX10_opened 37 = .ok (.ldc 89, 2) := by decide +kernel
theorem dX10_opened_39 : decode cX10_opened 39 = .ok (.ireturn, 1) := by decide +kernel
set_option maxRecDepth 20000 in
theorem ggX10_verdict_X10_isCrate : GoodIn wsX10_verdict wsX10_isCrate := goodIn_r _ [7, 8, 9, 10, 11, 6, 12, 45, 46, 47, 48, 49, 50, 51, 52, 53, 54, 55, 56, 57, 58, 59, 60, 61, 62, 63, 64] (by decide +kernel) (by decide +kernel)
set_option maxRecDepth 20000 in
theorem gX10_verdict_X10_isCrate : GoodIn wsX10_verdict (wsV RX10 180 RX10 yX10_isCrate wsX10_isCrate) := goodIn_app (goodIn_of _ (by decide +kernel)) ggX10_verdict_X10_isCrate
theorem dX10_verdict_0 : decode cX10_verdict 0 = .ok (.aload_n 0, 1) := by decide +kernel
theorem dX10_verdict_1 : decode cX10_verdict 1 = .ok (.iload_n 1, 1) := by decide +kernel
theorem dX10_verdict_2 : decode cX10_verdict 2 = .ok (.invokevirtual 180, 3) := by decide +kernel
theorem dX10_verdict_5 : decode cX10_verdict 5 = .ok (.ifCond .ne 6, 3) := by decide +kernel
theorem dX10_verdict_8 : decode cX10_verdict 8 = .ok (.ldc 89, 2) := by decide +kernel
theorem dX10_verdict_10 : decode cX10_verdict 10 = .ok (.ireturn, 1) := by decide +kernel
set_option maxRecDepth 20000 in
theorem ggX10_barred_X10_isCrate : GoodIn wsX10_barred wsX10_isCrate := goodIn_r _ [6, 7, 8, 9, 10, 5, 11, 106, 107, 108, 109, 110, 111, 112, 113, 114, 115, 116, 117, 118, 119, 120, 121, 122, 123, 124, 125] (by decide +kernel) (by decide +kernel)
set_option maxRecDepth 20000 in
theorem gX10_barred_X10_isCrate : GoodIn wsX10_barred (wsV RX10 180 RX10 yX10_isCrate wsX10_isCrate) := goodIn_app (goodIn_of _ (by decide +kernel)) ggX10_barred_X10_isCrate
theorem dX10_barred_0 : decode cX10_barred 0 = .ok (.aload_n 0, 1) := by decide +kernel
theorem dX10_barred_1 : decode cX10_barred 1 = .ok (.iload_n 1, 1) := by decide +kernel
theorem dX10_barred_2 : decode cX10_barred 2 = .ok (.invokevirtual 180, 3) := by decide +kernel
theorem dX10_barred_5 : decode cX10_barred 5 = .ok (.ifCond .eq 10, 3) := by decide +kernel
theorem dX10_barred_15 : decode cX10_barred 15 = .ok (.ldc 89, 2) := by decide +kernel
theorem dX10_barred_17 : decode cX10_barred 17 = .ok (.ireturn, 1) := by decide +kernel
set_option maxRecDepth 20000 in
theorem ggX10_day_X10_isDay : GoodIn wsX10_day wsX10_isDay := goodIn_r _ [6, 7, 8, 5, 9] (by decide +kernel) (by decide +kernel)
set_option maxRecDepth 20000 in
theorem gX10_day_X10_isDay : GoodIn wsX10_day (va_wsS RX10 138 yX10_isDay wsX10_isDay) := goodIn_app (goodIn_of _ (by decide +kernel)) ggX10_day_X10_isDay
theorem dX10_day_0 : decode cX10_day 0 = .ok (.iload_n 1, 1) := by decide +kernel
theorem dX10_day_1 : decode cX10_day 1 = .ok (.invokestatic 138, 3) := by decide +kernel
theorem dX10_day_4 : decode cX10_day 4 = .ok (.ifCond .ne 6, 3) := by decide +kernel
theorem dX10_day_7 : decode cX10_day 7 = .ok (.ldc 89, 2) := by decide +kernel
theorem dX10_day_9 : decode cX10_day 9 = .ok (.ireturn, 1) := by decide +kernel
theorem dX10_day_10 : decode cX10_day 10 = .ok (.aload_n 0, 1) := by decide +kernel
theorem dX10_day_11 : decode cX10_day 11 = .ok (.getfield 298, 3) := by decide +kernel
theorem dX10_day_14 : decode cX10_day 14 = .ok (.istore_n 2, 1) := by decide +kernel
theorem dX10_day_15 : decode cX10_day 15 = .ok (.aload_n 0, 1) := by decide +kernel
theorem dX10_day_16 : decode cX10_day 16 = .ok (.iload_n 1, 1) := by decide +kernel
theorem dX10_day_17 : decode cX10_day 17 = .ok (.putfield 298, 3) := by decide +kernel
theorem dX10_day_20 : decode cX10_day 20 = .ok (.iload_n 2, 1) := by decide +kernel
theorem dX10_day_21 : decode cX10_day 21 = .ok (.ireturn, 1) := by decide +kernel
set_option maxRecDepth 20000 in
theorem ggX10_kind_X10_isCrate : GoodIn wsX10_kind wsX10_isCrate := goodIn_r _ [6, 7, 8, 9, 10, 5, 11, 123, 124, 125, 126, 127, 128, 129, 130, 131, 132, 133, 134, 135, 136, 137, 138, 139, 140, 141, 142] (by decide +kernel) (by decide +kernel)
set_option maxRecDepth 20000 in
theorem gX10_kind_X10_isCrate : GoodIn wsX10_kind (wsV RX10 180 RX10 yX10_isCrate wsX10_isCrate) := goodIn_app (goodIn_of _ (by decide +kernel)) ggX10_kind_X10_isCrate
theorem dX10_kind_0 : decode cX10_kind 0 = .ok (.aload_n 0, 1) := by decide +kernel
theorem dX10_kind_1 : decode cX10_kind 1 = .ok (.iload_n 1, 1) := by decide +kernel
theorem dX10_kind_2 : decode cX10_kind 2 = .ok (.invokevirtual 180, 3) := by decide +kernel
theorem dX10_kind_5 : decode cX10_kind 5 = .ok (.ifCond .eq 11, 3) := by decide +kernel
theorem dX10_kind_16 : decode cX10_kind 16 = .ok (.ldc 89, 2) := by decide +kernel
theorem dX10_kind_18 : decode cX10_kind 18 = .ok (.ireturn, 1) := by decide +kernel
set_option maxRecDepth 20000 in
theorem ggX10_as_X10_isCrate : GoodIn wsX10_as wsX10_isCrate := goodIn_r _ [8, 2, 9, 10, 11, 7, 12, 136, 137, 138, 139, 140, 141, 142, 143, 144, 145, 146, 147, 148, 149, 150, 151, 152, 153, 154, 155] (by decide +kernel) (by decide +kernel)
set_option maxRecDepth 20000 in
theorem gX10_as_X10_isCrate : GoodIn wsX10_as (wsV RX10 180 RX10 yX10_isCrate wsX10_isCrate) := goodIn_app (goodIn_of _ (by decide +kernel)) ggX10_as_X10_isCrate
theorem dX10_as_0 : decode cX10_as 0 = .ok (.aload_n 0, 1) := by decide +kernel
theorem dX10_as_1 : decode cX10_as 1 = .ok (.iload_n 1, 1) := by decide +kernel
theorem dX10_as_2 : decode cX10_as 2 = .ok (.invokevirtual 180, 3) := by decide +kernel
theorem dX10_as_5 : decode cX10_as 5 = .ok (.ifCond .eq 11, 3) := by decide +kernel
theorem dX10_as_16 : decode cX10_as 16 = .ok (.ldc 89, 2) := by decide +kernel
theorem dX10_as_18 : decode cX10_as 18 = .ok (.ireturn, 1) := by decide +kernel
set_option maxRecDepth 20000 in
theorem ggX10_ask_X10_isCrate : GoodIn wsX10_ask wsX10_isCrate := goodIn_r _ [7, 8, 9, 10, 11, 6, 12, 169, 170, 171, 172, 173, 174, 175, 176, 177, 178, 179, 180, 181, 182, 183, 184, 185, 186, 187, 188] (by decide +kernel) (by decide +kernel)
set_option maxRecDepth 20000 in
theorem gX10_ask_X10_isCrate : GoodIn wsX10_ask (wsV RX10 180 RX10 yX10_isCrate wsX10_isCrate) := goodIn_app (goodIn_of _ (by decide +kernel)) ggX10_ask_X10_isCrate
theorem dX10_ask_0 : decode cX10_ask 0 = .ok (.aload_n 0, 1) := by decide +kernel
theorem dX10_ask_1 : decode cX10_ask 1 = .ok (.iload_n 1, 1) := by decide +kernel
theorem dX10_ask_2 : decode cX10_ask 2 = .ok (.invokevirtual 180, 3) := by decide +kernel
theorem dX10_ask_5 : decode cX10_ask 5 = .ok (.ifCond .eq 11, 3) := by decide +kernel
theorem dX10_ask_16 : decode cX10_ask 16 = .ok (.ldc 89, 2) := by decide +kernel
theorem dX10_ask_18 : decode cX10_ask 18 = .ok (.ireturn, 1) := by decide +kernel
theorem dX10_status_0 : decode cX10_status 0 = .ok (.aload_n 0, 1) := by decide +kernel
theorem dX10_status_1 : decode cX10_status 1 = .ok (.getfield 322, 3) := by decide +kernel
theorem dX10_status_4 : decode cX10_status 4 = .ok (.ireturn, 1) := by decide +kernel
set_option maxRecDepth 20000 in
theorem ggX10_isCrate_X10_isBelow : GoodIn wsX10_isCrate wsX10_isBelow := goodIn_r _ [6] (by decide +kernel) (by decide +kernel)
set_option maxRecDepth 20000 in
theorem gX10_isCrate_X10_isBelow : GoodIn wsX10_isCrate (va_wsS RX10 85 yX10_isBelow wsX10_isBelow) := goodIn_app (goodIn_of _ (by decide +kernel)) ggX10_isCrate_X10_isBelow
theorem dX10_isCrate_0 : decode cX10_isCrate 0 = .ok (.iload_n 1, 1) := by decide +kernel
theorem dX10_isCrate_1 : decode cX10_isCrate 1 = .ok (.aload_n 0, 1) := by decide +kernel
theorem dX10_isCrate_2 : decode cX10_isCrate 2 = .ok (.getfield 26, 3) := by decide +kernel
theorem dX10_isCrate_5 : decode cX10_isCrate 5 = .ok (.getfield 177, 3) := by decide +kernel
theorem dX10_isCrate_8 : decode cX10_isCrate 8 = .ok (.invokestatic 85, 3) := by decide +kernel
theorem dX10_isCrate_11 : decode cX10_isCrate 11 = .ok (.ireturn, 1) := by decide +kernel
set_option maxHeartbeats 4000000 in
set_option maxRecDepth 100000 in
theorem ct_X10_isCrate (l : Launch) (D : va_G) (cI cY cJ cQ : ClassId) (sz : Nat) (ad : Nat → Nat) (a : Int32)   : Met l yX10_isCrate wsX10_isCrate ({ frames := 1, cells := 0, slots := 0, locals := 21 }) (cPre D (ty4 cI cY cJ cQ) [((ad 0), .inr (10, [.ref (ad 1), .ref (ad 2), .ref (ad 3), .ref (ad 4), .ref (ad 5), .ref (ad 6), .ref (ad 7), .ref (ad 8), .ref (ad 9), .ref (ad 10), .ref (ad 11), .int 0, .int 0, .int 0])), ((ad 3), .inr (1, [.ref (ad 31), .ref (ad 32), .ref (ad 33), .int 0, .ref (ad 34), .ref (ad 35)]))] sz [.ref (ad 0), .int a]) (va_Qi (fun (r : Int32) (u : Unit) => r = 0) (cB D (ty4 cI cY cJ cQ) (fun (u : Unit) => [((ad 0), .inr (10, [.ref (ad 1), .ref (ad 2), .ref (ad 3), .ref (ad 4), .ref (ad 5), .ref (ad 6), .ref (ad 7), .ref (ad 8), .ref (ad 9), .ref (ad 10), .ref (ad 11), .int 0, .int 0, .int 0])), ((ad 3), .inr (1, [.ref (ad 31), .ref (ad 32), .ref (ad 33), .int 0, .ref (ad 34), .ref (ad 35)]))]) (va_A [((ad 0), .inr (10, [.ref (ad 1), .ref (ad 2), .ref (ad 3), .ref (ad 4), .ref (ad 5), .ref (ad 6), .ref (ad 7), .ref (ad 8), .ref (ad 9), .ref (ad 10), .ref (ad 11), .int 0, .int 0, .int 0])), ((ad 3), .inr (1, [.ref (ad 31), .ref (ad 32), .ref (ad 33), .int 0, .ref (ad 34), .ref (ad 35)]))] sz)) (va_A [((ad 0), .inr (10, [.ref (ad 1), .ref (ad 2), .ref (ad 3), .ref (ad 4), .ref (ad 5), .ref (ad 6), .ref (ad 7), .ref (ad 8), .ref (ad 9), .ref (ad 10), .ref (ad 11), .int 0, .int 0, .int 0])), ((ad 3), .inr (1, [.ref (ad 31), .ref (ad 32), .ref (ad 33), .int 0, .ref (ad 34), .ref (ad 35)]))] sz)) 0 0 (va_A [((ad 0), .inr (10, [.ref (ad 1), .ref (ad 2), .ref (ad 3), .ref (ad 4), .ref (ad 5), .ref (ad 6), .ref (ad 7), .ref (ad 8), .ref (ad 9), .ref (ad 10), .ref (ad 11), .int 0, .int 0, .int 0])), ((ad 3), .inr (1, [.ref (ad 31), .ref (ad 32), .ref (ad 33), .int 0, .ref (ad 34), .ref (ad 35)]))] sz) := by
  refine Met.ofW (cc := cX10_isCrate) (maxL := 2) (ret := (some .boolean)) (by decide) rfl ?_
  intro p e s m args below meth c s₁ B hml hv
  obtain ⟨rfl, hsz, hP, hK, hD0, hN⟩ := hv
  have hx := B.exec
  have hb := B.bytes
  have hr := B.returns
  have hts := atoms_spec (ws := wsX10_isCrate) B.pre
  have hown : s.vm.findClass RX10 = some m.cls := findClass_of_methodNamed B.named
  have hlocks := B.notSynchronized
  subst hsz
  have hD := hD0.self (sz := s.heap.size)
  generalize hAe : va_A [((ad 0), .inr (10, [.ref (ad 1), .ref (ad 2), .ref (ad 3), .ref (ad 4), .ref (ad 5), .ref (ad 6), .ref (ad 7), .ref (ad 8), .ref (ad 9), .ref (ad 10), .ref (ad 11), .int 0, .int 0, .int 0])), ((ad 3), .inr (1, [.ref (ad 31), .ref (ad 32), .ref (ad 33), .int 0, .ref (ad 34), .ref (ad 35)]))] s.heap.size = A at hD ⊢
  have hA : ∀ q : Nat, s.heap.size ≤ q → A q := fun q h => by rw [← hAe]; exact Or.inr h
  have hS : va_S A s.heap s.heap [] := va_S.rf
  have hP : va_P D vwCl [((ad 0), .inr (10, [.ref (ad 1), .ref (ad 2), .ref (ad 3), .ref (ad 4), .ref (ad 5), .ref (ad 6), .ref (ad 7), .ref (ad 8), .ref (ad 9), .ref (ad 10), .ref (ad 11), .int 0, .int 0, .int 0])), ((ad 3), .inr (1, [.ref (ad 31), .ref (ad 32), .ref (ad 33), .int 0, .ref (ad 34), .ref (ad 35)]))] s.heap := hP
  have hl := lv_entry ([.ref (ad 0), .int a]) (n := 2) (Nat.le_of_ble_eq_true rfl)
  rw [lg_entry_eq]
  generalize (lg_sl ([.ref (ad 0), .int a]) ++ List.replicate (2 - (lg_sl ([.ref (ad 0), .int a])).length) Slot.unset).toArray = ls at hl ⊢
  have hl : lv_has ls 2 [(0, .ref (ad 0)), (1, .int a)] := hl
  have k0 : (0 : Int32).toInt = 0 := by decide
  refine lv_iload_n hx hb dX10_isCrate_0 rfl (lv_at hl 1 rfl) ?_
  refine lv_aload_n hx hb dX10_isCrate_1 rfl (lv_at hl 0 rfl) ?_
  refine va_get (D := D) (ci := 10) (v := .ref (ad 3)) (C := RX10) (T := TX10) (N := 14) hx hb hts (by decide +kernel) hown hK hP 0 rfl rfl 2 (by decide) (hts (.fieldLink RX10 26 "PortRooms" "crates" "LPortRooms$Crates;") (by decide +kernel)) (fun _ h9 => h9) rfl dX10_isCrate_2 ?_
  refine va_get (D := D) (ci := 1) (v := .int 0) (C := RX1) (T := TX1) (N := 6) hx hb hts (by decide +kernel) hown hK hP 1 rfl rfl 3 (by decide) (hts (.fieldLink RX10 177 "PortRooms$Crates" "count" "I") (by decide +kernel)) (fun _ h9 => h9) rfl dX10_isCrate_5 ?_
  refine st_i (wr := [((ad 0), .inr (10, [.ref (ad 1), .ref (ad 2), .ref (ad 3), .ref (ad 4), .ref (ad 5), .ref (ad 6), .ref (ad 7), .ref (ad 8), .ref (ad 9), .ref (ad 10), .ref (ad 11), .int 0, .int 0, .int 0])), ((ad 3), .inr (1, [.ref (ad 31), .ref (ad 32), .ref (ad 33), .int 0, .ref (ad 34), .ref (ad 35)]))]) (va_runS (As := [.int a, .int 0]) (rest := []) ⟨hx, hb, hml, hown, hts⟩ (ct_X10_isBelow l D cI cY cJ cQ _ a (0)) (va_cwS 2 hts gX10_isCrate_X10_isBelow rfl rfl rfl (by decide +kernel) ⟨Nat.le_of_ble_eq_true rfl, Nat.le_of_ble_eq_true rfl⟩) (cPreS (hP.sub [] rfl) hK (hD.sub [] (by decide) rfl) hN) rfl rfl hl.1 rfl (lv_room (Nat.le_of_ble_eq_true rfl)) dX10_isCrate_8 ⟨Nat.le_of_ble_eq_true rfl, Nat.le_of_ble_eq_true rfl⟩) hP hD hS hA [] [0, 1] rfl rfl (by decide) (by decide) (fun r3 u1 H locs hw2 hP hD hS => ?_)
  replace hP : va_P D vwCl [((ad 0), .inr (10, [.ref (ad 1), .ref (ad 2), .ref (ad 3), .ref (ad 4), .ref (ad 5), .ref (ad 6), .ref (ad 7), .ref (ad 8), .ref (ad 9), .ref (ad 10), .ref (ad 11), .int 0, .int 0, .int 0])), ((ad 3), .inr (1, [.ref (ad 31), .ref (ad 32), .ref (ad 33), .int 0, .ref (ad 34), .ref (ad 35)]))] H := hP
  replace hD : va_D A [((ad 0), .inr (10, [.ref (ad 1), .ref (ad 2), .ref (ad 3), .ref (ad 4), .ref (ad 5), .ref (ad 6), .ref (ad 7), .ref (ad 8), .ref (ad 9), .ref (ad 10), .ref (ad 11), .int 0, .int 0, .int 0])), ((ad 3), .inr (1, [.ref (ad 31), .ref (ad 32), .ref (ad 33), .int 0, .ref (ad 34), .ref (ad 35)]))] := hD
  have hP9 := hP.sub (ws' := [((ad 0), .inr (10, [.ref (ad 1), .ref (ad 2), .ref (ad 3), .ref (ad 4), .ref (ad 5), .ref (ad 6), .ref (ad 7), .ref (ad 8), .ref (ad 9), .ref (ad 10), .ref (ad 11), .int 0, .int 0, .int 0])), ((ad 3), .inr (1, [.ref (ad 31), .ref (ad 32), .ref (ad 33), .int 0, .ref (ad 34), .ref (ad 35)]))]) [0, 1] rfl
  have hD9 := hD.sub (ws' := [((ad 0), .inr (10, [.ref (ad 1), .ref (ad 2), .ref (ad 3), .ref (ad 4), .ref (ad 5), .ref (ad 6), .ref (ad 7), .ref (ad 8), .ref (ad 9), .ref (ad 10), .ref (ad 11), .int 0, .int 0, .int 0])), ((ad 3), .inr (1, [.ref (ad 31), .ref (ad 32), .ref (ad 33), .int 0, .ref (ad 34), .ref (ad 35)]))]) [0, 1] (by decide) rfl
  exact W.zret (v := r3) hx hb hr (zn_b hw2) (fun t ht hW => ⟨⟨r3, (), rfl, (by have h := hw2; rw [if_neg (by omega)] at h; exact h), by rw [ht]; exact hP9, va_K.moved hW.alike hK, hD9⟩, hS.F ht⟩) hS.2.2 dX10_isCrate_11

set_option maxHeartbeats 4000000 in
set_option maxRecDepth 100000 in
theorem ct_X10_paper (l : Launch) (D : va_G) (cI cY cJ cQ : ClassId) (sz : Nat) (ad : Nat → Nat) (x0 x1 x2 x3 x4 : Int32)   : Met l yX10_paper wsX10_paper ({ frames := 2, cells := 0, slots := 0, locals := 42 }) (cPre D (ty4 cI cY cJ cQ) [((ad 0), .inr (10, [.ref (ad 1), .ref (ad 2), .ref (ad 3), .ref (ad 4), .ref (ad 5), .ref (ad 6), .ref (ad 7), .ref (ad 8), .ref (ad 9), .ref (ad 10), .ref (ad 11), .int 0, .int 0, .int 0])), ((ad 3), .inr (1, [.ref (ad 31), .ref (ad 32), .ref (ad 33), .int 0, .ref (ad 34), .ref (ad 35)]))] sz [.ref (ad 0), .int x0, .int x1, .int x2, .int x3, .int x4]) (va_Qi (fun (r : Int32) (u : Unit) => r = -1000001) (cB D (ty4 cI cY cJ cQ) (fun (u : Unit) => []) (va_A [((ad 0), .inr (10, [.ref (ad 1), .ref (ad 2), .ref (ad 3), .ref (ad 4), .ref (ad 5), .ref (ad 6), .ref (ad 7), .ref (ad 8), .ref (ad 9), .ref (ad 10), .ref (ad 11), .int 0, .int 0, .int 0])), ((ad 3), .inr (1, [.ref (ad 31), .ref (ad 32), .ref (ad 33), .int 0, .ref (ad 34), .ref (ad 35)]))] sz)) (va_A [((ad 0), .inr (10, [.ref (ad 1), .ref (ad 2), .ref (ad 3), .ref (ad 4), .ref (ad 5), .ref (ad 6), .ref (ad 7), .ref (ad 8), .ref (ad 9), .ref (ad 10), .ref (ad 11), .int 0, .int 0, .int 0])), ((ad 3), .inr (1, [.ref (ad 31), .ref (ad 32), .ref (ad 33), .int 0, .ref (ad 34), .ref (ad 35)]))] sz)) 0 0 (va_A [((ad 0), .inr (10, [.ref (ad 1), .ref (ad 2), .ref (ad 3), .ref (ad 4), .ref (ad 5), .ref (ad 6), .ref (ad 7), .ref (ad 8), .ref (ad 9), .ref (ad 10), .ref (ad 11), .int 0, .int 0, .int 0])), ((ad 3), .inr (1, [.ref (ad 31), .ref (ad 32), .ref (ad 33), .int 0, .ref (ad 34), .ref (ad 35)]))] sz) := by
  refine Met.ofW (cc := cX10_paper) (maxL := 6) (ret := (some .int)) (by decide) rfl ?_
  intro p e s m args below meth c s₁ B hml hv
  obtain ⟨rfl, hsz, hP, hK, hD0, hN⟩ := hv
  have hx := B.exec
  have hb := B.bytes
  have hr := B.returns
  have hts := atoms_spec (ws := wsX10_paper) B.pre
  have hown : s.vm.findClass RX10 = some m.cls := findClass_of_methodNamed B.named
  have hlocks := B.notSynchronized
  subst hsz
  have hD := hD0.self (sz := s.heap.size)
  generalize hAe : va_A [((ad 0), .inr (10, [.ref (ad 1), .ref (ad 2), .ref (ad 3), .ref (ad 4), .ref (ad 5), .ref (ad 6), .ref (ad 7), .ref (ad 8), .ref (ad 9), .ref (ad 10), .ref (ad 11), .int 0, .int 0, .int 0])), ((ad 3), .inr (1, [.ref (ad 31), .ref (ad 32), .ref (ad 33), .int 0, .ref (ad 34), .ref (ad 35)]))] s.heap.size = A at hD ⊢
  have hA : ∀ q : Nat, s.heap.size ≤ q → A q := fun q h => by rw [← hAe]; exact Or.inr h
  have hS : va_S A s.heap s.heap [] := va_S.rf
  have hP : va_P D vwCl [((ad 0), .inr (10, [.ref (ad 1), .ref (ad 2), .ref (ad 3), .ref (ad 4), .ref (ad 5), .ref (ad 6), .ref (ad 7), .ref (ad 8), .ref (ad 9), .ref (ad 10), .ref (ad 11), .int 0, .int 0, .int 0])), ((ad 3), .inr (1, [.ref (ad 31), .ref (ad 32), .ref (ad 33), .int 0, .ref (ad 34), .ref (ad 35)]))] s.heap := hP
  have hl := lv_entry ([.ref (ad 0), .int x0, .int x1, .int x2, .int x3, .int x4]) (n := 6) (Nat.le_of_ble_eq_true rfl)
  rw [lg_entry_eq]
  generalize (lg_sl ([.ref (ad 0), .int x0, .int x1, .int x2, .int x3, .int x4]) ++ List.replicate (6 - (lg_sl ([.ref (ad 0), .int x0, .int x1, .int x2, .int x3, .int x4])).length) Slot.unset).toArray = ls at hl ⊢
  have hl : lv_has ls 6 [(0, .ref (ad 0)), (1, .int x0), (2, .int x1), (3, .int x2), (4, .int x3), (5, .int x4)] := hl
  refine lv_aload_n hx hb dX10_paper_0 rfl (lv_at hl 0 rfl) ?_
  refine lv_iload_n hx hb dX10_paper_1 rfl (lv_at hl 1 rfl) ?_
  refine st_i (wr := []) (va_runV (C := RX10) (As := [.int x0]) (rest := []) ⟨hx, hb, hml, hown, hts⟩ (ct_X10_isCrate l D cI cY cJ cQ _ ad x0) (cwV 1 hts gX10_paper_X10_isCrate rfl rfl rfl (by decide +kernel) ⟨Nat.le_of_ble_eq_true rfl, Nat.le_of_ble_eq_true rfl⟩) (cPreV (hP.sub [0, 1] rfl) hK (hD.sub [0, 1] (by decide) rfl) hN (ci := 10) (q0 := 0) rfl rfl) rfl rfl hl.1 rfl (lv_room (Nat.le_of_ble_eq_true rfl)) dX10_paper_2 ⟨Nat.le_of_ble_eq_true rfl, Nat.le_of_ble_eq_true rfl⟩) hP hD hS hA [0, 1] [] rfl rfl (by decide) (by decide) (fun r3 u1 H locs hw2 hP hD hS => ?_)
  replace hP : va_P D vwCl [((ad 0), .inr (10, [.ref (ad 1), .ref (ad 2), .ref (ad 3), .ref (ad 4), .ref (ad 5), .ref (ad 6), .ref (ad 7), .ref (ad 8), .ref (ad 9), .ref (ad 10), .ref (ad 11), .int 0, .int 0, .int 0])), ((ad 3), .inr (1, [.ref (ad 31), .ref (ad 32), .ref (ad 33), .int 0, .ref (ad 34), .ref (ad 35)]))] H := hP
  replace hD : va_D A [((ad 0), .inr (10, [.ref (ad 1), .ref (ad 2), .ref (ad 3), .ref (ad 4), .ref (ad 5), .ref (ad 6), .ref (ad 7), .ref (ad 8), .ref (ad 9), .ref (ad 10), .ref (ad 11), .int 0, .int 0, .int 0])), ((ad 3), .inr (1, [.ref (ad 31), .ref (ad 32), .ref (ad 33), .int 0, .ref (ad 34), .ref (ad 35)]))] := hD
  subst hw2
  refine lv_if_eq (tgt := 37) hx hb dX10_paper_5 (by decide) (fun _ => ?_) (fun c => absurd (by decide) c)
  refine lv_ldc hx hb hown (hts (.constant RX10 89 (-1000001)) (by decide +kernel)) dX10_paper_37 ?_
  have hP9 := hP.sub (ws' := []) [] rfl
  have hD9 := hD.sub (ws' := []) [] (by decide) rfl
  exact W.iret (v := (-1000001)) hx hb hr (fun t ht hW => ⟨⟨(-1000001), (), rfl, rfl, by rw [ht]; exact hP9, va_K.moved hW.alike hK, hD9⟩, hS.F ht⟩) hS.2.2 dX10_paper_39

set_option maxHeartbeats 4000000 in
set_option maxRecDepth 100000 in
theorem ct_X10_owner (l : Launch) (D : va_G) (cI cY cJ cQ : ClassId) (sz : Nat) (ad : Nat → Nat) (x0 x1 x2 : Int32)   : Met l yX10_owner wsX10_owner ({ frames := 2, cells := 0, slots := 0, locals := 42 }) (cPre D (ty4 cI cY cJ cQ) [((ad 0), .inr (10, [.ref (ad 1), .ref (ad 2), .ref (ad 3), .ref (ad 4), .ref (ad 5), .ref (ad 6), .ref (ad 7), .ref (ad 8), .ref (ad 9), .ref (ad 10), .ref (ad 11), .int 0, .int 0, .int 0])), ((ad 3), .inr (1, [.ref (ad 31), .ref (ad 32), .ref (ad 33), .int 0, .ref (ad 34), .ref (ad 35)]))] sz [.ref (ad 0), .int x0, .int x1, .int x2]) (va_Qi (fun (r : Int32) (u : Unit) => r = -1000001) (cB D (ty4 cI cY cJ cQ) (fun (u : Unit) => []) (va_A [((ad 0), .inr (10, [.ref (ad 1), .ref (ad 2), .ref (ad 3), .ref (ad 4), .ref (ad 5), .ref (ad 6), .ref (ad 7), .ref (ad 8), .ref (ad 9), .ref (ad 10), .ref (ad 11), .int 0, .int 0, .int 0])), ((ad 3), .inr (1, [.ref (ad 31), .ref (ad 32), .ref (ad 33), .int 0, .ref (ad 34), .ref (ad 35)]))] sz)) (va_A [((ad 0), .inr (10, [.ref (ad 1), .ref (ad 2), .ref (ad 3), .ref (ad 4), .ref (ad 5), .ref (ad 6), .ref (ad 7), .ref (ad 8), .ref (ad 9), .ref (ad 10), .ref (ad 11), .int 0, .int 0, .int 0])), ((ad 3), .inr (1, [.ref (ad 31), .ref (ad 32), .ref (ad 33), .int 0, .ref (ad 34), .ref (ad 35)]))] sz)) 0 0 (va_A [((ad 0), .inr (10, [.ref (ad 1), .ref (ad 2), .ref (ad 3), .ref (ad 4), .ref (ad 5), .ref (ad 6), .ref (ad 7), .ref (ad 8), .ref (ad 9), .ref (ad 10), .ref (ad 11), .int 0, .int 0, .int 0])), ((ad 3), .inr (1, [.ref (ad 31), .ref (ad 32), .ref (ad 33), .int 0, .ref (ad 34), .ref (ad 35)]))] sz) := by
  refine Met.ofW (cc := cX10_owner) (maxL := 4) (ret := (some .int)) (by decide) rfl ?_
  intro p e s m args below meth c s₁ B hml hv
  obtain ⟨rfl, hsz, hP, hK, hD0, hN⟩ := hv
  have hx := B.exec
  have hb := B.bytes
  have hr := B.returns
  have hts := atoms_spec (ws := wsX10_owner) B.pre
  have hown : s.vm.findClass RX10 = some m.cls := findClass_of_methodNamed B.named
  have hlocks := B.notSynchronized
  subst hsz
  have hD := hD0.self (sz := s.heap.size)
  generalize hAe : va_A [((ad 0), .inr (10, [.ref (ad 1), .ref (ad 2), .ref (ad 3), .ref (ad 4), .ref (ad 5), .ref (ad 6), .ref (ad 7), .ref (ad 8), .ref (ad 9), .ref (ad 10), .ref (ad 11), .int 0, .int 0, .int 0])), ((ad 3), .inr (1, [.ref (ad 31), .ref (ad 32), .ref (ad 33), .int 0, .ref (ad 34), .ref (ad 35)]))] s.heap.size = A at hD ⊢
  have hA : ∀ q : Nat, s.heap.size ≤ q → A q := fun q h => by rw [← hAe]; exact Or.inr h
  have hS : va_S A s.heap s.heap [] := va_S.rf
  have hP : va_P D vwCl [((ad 0), .inr (10, [.ref (ad 1), .ref (ad 2), .ref (ad 3), .ref (ad 4), .ref (ad 5), .ref (ad 6), .ref (ad 7), .ref (ad 8), .ref (ad 9), .ref (ad 10), .ref (ad 11), .int 0, .int 0, .int 0])), ((ad 3), .inr (1, [.ref (ad 31), .ref (ad 32), .ref (ad 33), .int 0, .ref (ad 34), .ref (ad 35)]))] s.heap := hP
  have hl := lv_entry ([.ref (ad 0), .int x0, .int x1, .int x2]) (n := 4) (Nat.le_of_ble_eq_true rfl)
  rw [lg_entry_eq]
  generalize (lg_sl ([.ref (ad 0), .int x0, .int x1, .int x2]) ++ List.replicate (4 - (lg_sl ([.ref (ad 0), .int x0, .int x1, .int x2])).length) Slot.unset).toArray = ls at hl ⊢
  have hl : lv_has ls 4 [(0, .ref (ad 0)), (1, .int x0), (2, .int x1), (3, .int x2)] := hl
  refine lv_aload_n hx hb dX10_owner_0 rfl (lv_at hl 0 rfl) ?_
  refine lv_iload_n hx hb dX10_owner_1 rfl (lv_at hl 1 rfl) ?_
  refine st_i (wr := []) (va_runV (C := RX10) (As := [.int x0]) (rest := []) ⟨hx, hb, hml, hown, hts⟩ (ct_X10_isCrate l D cI cY cJ cQ _ ad x0) (cwV 1 hts gX10_owner_X10_isCrate rfl rfl rfl (by decide +kernel) ⟨Nat.le_of_ble_eq_true rfl, Nat.le_of_ble_eq_true rfl⟩) (cPreV (hP.sub [0, 1] rfl) hK (hD.sub [0, 1] (by decide) rfl) hN (ci := 10) (q0 := 0) rfl rfl) rfl rfl hl.1 rfl (lv_room (Nat.le_of_ble_eq_true rfl)) dX10_owner_2 ⟨Nat.le_of_ble_eq_true rfl, Nat.le_of_ble_eq_true rfl⟩) hP hD hS hA [0, 1] [] rfl rfl (by decide) (by decide) (fun r3 u1 H locs hw2 hP hD hS => ?_)
  replace hP : va_P D vwCl [((ad 0), .inr (10, [.ref (ad 1), .ref (ad 2), .ref (ad 3), .ref (ad 4), .ref (ad 5), .ref (ad 6), .ref (ad 7), .ref (ad 8), .ref (ad 9), .ref (ad 10), .ref (ad 11), .int 0, .int 0, .int 0])), ((ad 3), .inr (1, [.ref (ad 31), .ref (ad 32), .ref (ad 33), .int 0, .ref (ad 34), .ref (ad 35)]))] H := hP
  replace hD : va_D A [((ad 0), .inr (10, [.ref (ad 1), .ref (ad 2), .ref (ad 3), .ref (ad 4), .ref (ad 5), .ref (ad 6), .ref (ad 7), .ref (ad 8), .ref (ad 9), .ref (ad 10), .ref (ad 11), .int 0, .int 0, .int 0])), ((ad 3), .inr (1, [.ref (ad 31), .ref (ad 32), .ref (ad 33), .int 0, .ref (ad 34), .ref (ad 35)]))] := hD
  subst hw2
  refine lv_if_eq (tgt := 22) hx hb dX10_owner_5 (by decide) (fun _ => ?_) (fun c => absurd (by decide) c)
  refine lv_ldc hx hb hown (hts (.constant RX10 89 (-1000001)) (by decide +kernel)) dX10_owner_22 ?_
  have hP9 := hP.sub (ws' := []) [] rfl
  have hD9 := hD.sub (ws' := []) [] (by decide) rfl
  exact W.iret (v := (-1000001)) hx hb hr (fun t ht hW => ⟨⟨(-1000001), (), rfl, rfl, by rw [ht]; exact hP9, va_K.moved hW.alike hK, hD9⟩, hS.F ht⟩) hS.2.2 dX10_owner_24

set_option maxHeartbeats 4000000 in
set_option maxRecDepth 100000 in
theorem ct_X10_quarrels (l : Launch) (D : va_G) (cI cY cJ cQ : ClassId) (sz : Nat) (ad : Nat → Nat) (x0 x1 : Int32)   : Met l yX10_quarrels wsX10_quarrels ({ frames := 2, cells := 0, slots := 0, locals := 42 }) (cPre D (ty4 cI cY cJ cQ) [((ad 0), .inr (10, [.ref (ad 1), .ref (ad 2), .ref (ad 3), .ref (ad 4), .ref (ad 5), .ref (ad 6), .ref (ad 7), .ref (ad 8), .ref (ad 9), .ref (ad 10), .ref (ad 11), .int 0, .int 0, .int 0])), ((ad 3), .inr (1, [.ref (ad 31), .ref (ad 32), .ref (ad 33), .int 0, .ref (ad 34), .ref (ad 35)]))] sz [.ref (ad 0), .int x0, .int x1]) (va_Qi (fun (r : Int32) (u : Unit) => r = -1000001) (cB D (ty4 cI cY cJ cQ) (fun (u : Unit) => []) (va_A [((ad 0), .inr (10, [.ref (ad 1), .ref (ad 2), .ref (ad 3), .ref (ad 4), .ref (ad 5), .ref (ad 6), .ref (ad 7), .ref (ad 8), .ref (ad 9), .ref (ad 10), .ref (ad 11), .int 0, .int 0, .int 0])), ((ad 3), .inr (1, [.ref (ad 31), .ref (ad 32), .ref (ad 33), .int 0, .ref (ad 34), .ref (ad 35)]))] sz)) (va_A [((ad 0), .inr (10, [.ref (ad 1), .ref (ad 2), .ref (ad 3), .ref (ad 4), .ref (ad 5), .ref (ad 6), .ref (ad 7), .ref (ad 8), .ref (ad 9), .ref (ad 10), .ref (ad 11), .int 0, .int 0, .int 0])), ((ad 3), .inr (1, [.ref (ad 31), .ref (ad 32), .ref (ad 33), .int 0, .ref (ad 34), .ref (ad 35)]))] sz)) 0 0 (va_A [((ad 0), .inr (10, [.ref (ad 1), .ref (ad 2), .ref (ad 3), .ref (ad 4), .ref (ad 5), .ref (ad 6), .ref (ad 7), .ref (ad 8), .ref (ad 9), .ref (ad 10), .ref (ad 11), .int 0, .int 0, .int 0])), ((ad 3), .inr (1, [.ref (ad 31), .ref (ad 32), .ref (ad 33), .int 0, .ref (ad 34), .ref (ad 35)]))] sz) := by
  refine Met.ofW (cc := cX10_quarrels) (maxL := 3) (ret := (some .int)) (by decide) rfl ?_
  intro p e s m args below meth c s₁ B hml hv
  obtain ⟨rfl, hsz, hP, hK, hD0, hN⟩ := hv
  have hx := B.exec
  have hb := B.bytes
  have hr := B.returns
  have hts := atoms_spec (ws := wsX10_quarrels) B.pre
  have hown : s.vm.findClass RX10 = some m.cls := findClass_of_methodNamed B.named
  have hlocks := B.notSynchronized
  subst hsz
  have hD := hD0.self (sz := s.heap.size)
  generalize hAe : va_A [((ad 0), .inr (10, [.ref (ad 1), .ref (ad 2), .ref (ad 3), .ref (ad 4), .ref (ad 5), .ref (ad 6), .ref (ad 7), .ref (ad 8), .ref (ad 9), .ref (ad 10), .ref (ad 11), .int 0, .int 0, .int 0])), ((ad 3), .inr (1, [.ref (ad 31), .ref (ad 32), .ref (ad 33), .int 0, .ref (ad 34), .ref (ad 35)]))] s.heap.size = A at hD ⊢
  have hA : ∀ q : Nat, s.heap.size ≤ q → A q := fun q h => by rw [← hAe]; exact Or.inr h
  have hS : va_S A s.heap s.heap [] := va_S.rf
  have hP : va_P D vwCl [((ad 0), .inr (10, [.ref (ad 1), .ref (ad 2), .ref (ad 3), .ref (ad 4), .ref (ad 5), .ref (ad 6), .ref (ad 7), .ref (ad 8), .ref (ad 9), .ref (ad 10), .ref (ad 11), .int 0, .int 0, .int 0])), ((ad 3), .inr (1, [.ref (ad 31), .ref (ad 32), .ref (ad 33), .int 0, .ref (ad 34), .ref (ad 35)]))] s.heap := hP
  have hl := lv_entry ([.ref (ad 0), .int x0, .int x1]) (n := 3) (Nat.le_of_ble_eq_true rfl)
  rw [lg_entry_eq]
  generalize (lg_sl ([.ref (ad 0), .int x0, .int x1]) ++ List.replicate (3 - (lg_sl ([.ref (ad 0), .int x0, .int x1])).length) Slot.unset).toArray = ls at hl ⊢
  have hl : lv_has ls 3 [(0, .ref (ad 0)), (1, .int x0), (2, .int x1)] := hl
  refine lv_aload_n hx hb dX10_quarrels_0 rfl (lv_at hl 0 rfl) ?_
  refine lv_iload_n hx hb dX10_quarrels_1 rfl (lv_at hl 1 rfl) ?_
  refine st_i (wr := []) (va_runV (C := RX10) (As := [.int x0]) (rest := []) ⟨hx, hb, hml, hown, hts⟩ (ct_X10_isCrate l D cI cY cJ cQ _ ad x0) (cwV 1 hts gX10_quarrels_X10_isCrate rfl rfl rfl (by decide +kernel) ⟨Nat.le_of_ble_eq_true rfl, Nat.le_of_ble_eq_true rfl⟩) (cPreV (hP.sub [0, 1] rfl) hK (hD.sub [0, 1] (by decide) rfl) hN (ci := 10) (q0 := 0) rfl rfl) rfl rfl hl.1 rfl (lv_room (Nat.le_of_ble_eq_true rfl)) dX10_quarrels_2 ⟨Nat.le_of_ble_eq_true rfl, Nat.le_of_ble_eq_true rfl⟩) hP hD hS hA [0, 1] [] rfl rfl (by decide) (by decide) (fun r3 u1 H locs hw2 hP hD hS => ?_)
  replace hP : va_P D vwCl [((ad 0), .inr (10, [.ref (ad 1), .ref (ad 2), .ref (ad 3), .ref (ad 4), .ref (ad 5), .ref (ad 6), .ref (ad 7), .ref (ad 8), .ref (ad 9), .ref (ad 10), .ref (ad 11), .int 0, .int 0, .int 0])), ((ad 3), .inr (1, [.ref (ad 31), .ref (ad 32), .ref (ad 33), .int 0, .ref (ad 34), .ref (ad 35)]))] H := hP
  replace hD : va_D A [((ad 0), .inr (10, [.ref (ad 1), .ref (ad 2), .ref (ad 3), .ref (ad 4), .ref (ad 5), .ref (ad 6), .ref (ad 7), .ref (ad 8), .ref (ad 9), .ref (ad 10), .ref (ad 11), .int 0, .int 0, .int 0])), ((ad 3), .inr (1, [.ref (ad 31), .ref (ad 32), .ref (ad 33), .int 0, .ref (ad 34), .ref (ad 35)]))] := hD
  subst hw2
  refine lv_if_eq (tgt := 15) hx hb dX10_quarrels_5 (by decide) (fun _ => ?_) (fun c => absurd (by decide) c)
  refine lv_ldc hx hb hown (hts (.constant RX10 89 (-1000001)) (by decide +kernel)) dX10_quarrels_15 ?_
  have hP9 := hP.sub (ws' := []) [] rfl
  have hD9 := hD.sub (ws' := []) [] (by decide) rfl
  exact W.iret (v := (-1000001)) hx hb hr (fun t ht hW => ⟨⟨(-1000001), (), rfl, rfl, by rw [ht]; exact hP9, va_K.moved hW.alike hK, hD9⟩, hS.F ht⟩) hS.2.2 dX10_quarrels_17

set_option maxHeartbeats 4000000 in
set_option maxRecDepth 100000 in
theorem ct_X10_pledge (l : Launch) (D : va_G) (cI cY cJ cQ : ClassId) (sz : Nat) (ad : Nat → Nat) (x0 x1 x2 x3 x4 : Int32)   : Met l yX10_pledge wsX10_pledge ({ frames := 2, cells := 0, slots := 0, locals := 42 }) (cPre D (ty4 cI cY cJ cQ) [((ad 0), .inr (10, [.ref (ad 1), .ref (ad 2), .ref (ad 3), .ref (ad 4), .ref (ad 5), .ref (ad 6), .ref (ad 7), .ref (ad 8), .ref (ad 9), .ref (ad 10), .ref (ad 11), .int 0, .int 0, .int 0])), ((ad 3), .inr (1, [.ref (ad 31), .ref (ad 32), .ref (ad 33), .int 0, .ref (ad 34), .ref (ad 35)]))] sz [.ref (ad 0), .int x0, .int x1, .int x2, .int x3, .int x4]) (va_Qi (fun (r : Int32) (u : Unit) => r = -1000001) (cB D (ty4 cI cY cJ cQ) (fun (u : Unit) => []) (va_A [((ad 0), .inr (10, [.ref (ad 1), .ref (ad 2), .ref (ad 3), .ref (ad 4), .ref (ad 5), .ref (ad 6), .ref (ad 7), .ref (ad 8), .ref (ad 9), .ref (ad 10), .ref (ad 11), .int 0, .int 0, .int 0])), ((ad 3), .inr (1, [.ref (ad 31), .ref (ad 32), .ref (ad 33), .int 0, .ref (ad 34), .ref (ad 35)]))] sz)) (va_A [((ad 0), .inr (10, [.ref (ad 1), .ref (ad 2), .ref (ad 3), .ref (ad 4), .ref (ad 5), .ref (ad 6), .ref (ad 7), .ref (ad 8), .ref (ad 9), .ref (ad 10), .ref (ad 11), .int 0, .int 0, .int 0])), ((ad 3), .inr (1, [.ref (ad 31), .ref (ad 32), .ref (ad 33), .int 0, .ref (ad 34), .ref (ad 35)]))] sz)) 0 0 (va_A [((ad 0), .inr (10, [.ref (ad 1), .ref (ad 2), .ref (ad 3), .ref (ad 4), .ref (ad 5), .ref (ad 6), .ref (ad 7), .ref (ad 8), .ref (ad 9), .ref (ad 10), .ref (ad 11), .int 0, .int 0, .int 0])), ((ad 3), .inr (1, [.ref (ad 31), .ref (ad 32), .ref (ad 33), .int 0, .ref (ad 34), .ref (ad 35)]))] sz) := by
  refine Met.ofW (cc := cX10_pledge) (maxL := 6) (ret := (some .int)) (by decide) rfl ?_
  intro p e s m args below meth c s₁ B hml hv
  obtain ⟨rfl, hsz, hP, hK, hD0, hN⟩ := hv
  have hx := B.exec
  have hb := B.bytes
  have hr := B.returns
  have hts := atoms_spec (ws := wsX10_pledge) B.pre
  have hown : s.vm.findClass RX10 = some m.cls := findClass_of_methodNamed B.named
  have hlocks := B.notSynchronized
  subst hsz
  have hD := hD0.self (sz := s.heap.size)
  generalize hAe : va_A [((ad 0), .inr (10, [.ref (ad 1), .ref (ad 2), .ref (ad 3), .ref (ad 4), .ref (ad 5), .ref (ad 6), .ref (ad 7), .ref (ad 8), .ref (ad 9), .ref (ad 10), .ref (ad 11), .int 0, .int 0, .int 0])), ((ad 3), .inr (1, [.ref (ad 31), .ref (ad 32), .ref (ad 33), .int 0, .ref (ad 34), .ref (ad 35)]))] s.heap.size = A at hD ⊢
  have hA : ∀ q : Nat, s.heap.size ≤ q → A q := fun q h => by rw [← hAe]; exact Or.inr h
  have hS : va_S A s.heap s.heap [] := va_S.rf
  have hP : va_P D vwCl [((ad 0), .inr (10, [.ref (ad 1), .ref (ad 2), .ref (ad 3), .ref (ad 4), .ref (ad 5), .ref (ad 6), .ref (ad 7), .ref (ad 8), .ref (ad 9), .ref (ad 10), .ref (ad 11), .int 0, .int 0, .int 0])), ((ad 3), .inr (1, [.ref (ad 31), .ref (ad 32), .ref (ad 33), .int 0, .ref (ad 34), .ref (ad 35)]))] s.heap := hP
  have hl := lv_entry ([.ref (ad 0), .int x0, .int x1, .int x2, .int x3, .int x4]) (n := 6) (Nat.le_of_ble_eq_true rfl)
  rw [lg_entry_eq]
  generalize (lg_sl ([.ref (ad 0), .int x0, .int x1, .int x2, .int x3, .int x4]) ++ List.replicate (6 - (lg_sl ([.ref (ad 0), .int x0, .int x1, .int x2, .int x3, .int x4])).length) Slot.unset).toArray = ls at hl ⊢
  have hl : lv_has ls 6 [(0, .ref (ad 0)), (1, .int x0), (2, .int x1), (3, .int x2), (4, .int x3), (5, .int x4)] := hl
  refine lv_aload_n hx hb dX10_pledge_0 rfl (lv_at hl 0 rfl) ?_
  refine lv_iload_n hx hb dX10_pledge_1 rfl (lv_at hl 1 rfl) ?_
  refine st_i (wr := []) (va_runV (C := RX10) (As := [.int x0]) (rest := []) ⟨hx, hb, hml, hown, hts⟩ (ct_X10_isCrate l D cI cY cJ cQ _ ad x0) (cwV 1 hts gX10_pledge_X10_isCrate rfl rfl rfl (by decide +kernel) ⟨Nat.le_of_ble_eq_true rfl, Nat.le_of_ble_eq_true rfl⟩) (cPreV (hP.sub [0, 1] rfl) hK (hD.sub [0, 1] (by decide) rfl) hN (ci := 10) (q0 := 0) rfl rfl) rfl rfl hl.1 rfl (lv_room (Nat.le_of_ble_eq_true rfl)) dX10_pledge_2 ⟨Nat.le_of_ble_eq_true rfl, Nat.le_of_ble_eq_true rfl⟩) hP hD hS hA [0, 1] [] rfl rfl (by decide) (by decide) (fun r3 u1 H locs hw2 hP hD hS => ?_)
  replace hP : va_P D vwCl [((ad 0), .inr (10, [.ref (ad 1), .ref (ad 2), .ref (ad 3), .ref (ad 4), .ref (ad 5), .ref (ad 6), .ref (ad 7), .ref (ad 8), .ref (ad 9), .ref (ad 10), .ref (ad 11), .int 0, .int 0, .int 0])), ((ad 3), .inr (1, [.ref (ad 31), .ref (ad 32), .ref (ad 33), .int 0, .ref (ad 34), .ref (ad 35)]))] H := hP
  replace hD : va_D A [((ad 0), .inr (10, [.ref (ad 1), .ref (ad 2), .ref (ad 3), .ref (ad 4), .ref (ad 5), .ref (ad 6), .ref (ad 7), .ref (ad 8), .ref (ad 9), .ref (ad 10), .ref (ad 11), .int 0, .int 0, .int 0])), ((ad 3), .inr (1, [.ref (ad 31), .ref (ad 32), .ref (ad 33), .int 0, .ref (ad 34), .ref (ad 35)]))] := hD
  subst hw2
  refine lv_if_eq (tgt := 35) hx hb dX10_pledge_5 (by decide) (fun _ => ?_) (fun c => absurd (by decide) c)
  refine lv_ldc hx hb hown (hts (.constant RX10 89 (-1000001)) (by decide +kernel)) dX10_pledge_35 ?_
  have hP9 := hP.sub (ws' := []) [] rfl
  have hD9 := hD.sub (ws' := []) [] (by decide) rfl
  exact W.iret (v := (-1000001)) hx hb hr (fun t ht hW => ⟨⟨(-1000001), (), rfl, rfl, by rw [ht]; exact hP9, va_K.moved hW.alike hK, hD9⟩, hS.F ht⟩) hS.2.2 dX10_pledge_37

set_option maxHeartbeats 4000000 in
set_option maxRecDepth 100000 in
theorem ct_X10_rank (l : Launch) (D : va_G) (cI cY cJ cQ : ClassId) (sz : Nat) (ad : Nat → Nat) (x0 x1 x2 x3 x4 : Int32)   : Met l yX10_rank wsX10_rank ({ frames := 2, cells := 0, slots := 0, locals := 42 }) (cPre D (ty4 cI cY cJ cQ) [((ad 0), .inr (10, [.ref (ad 1), .ref (ad 2), .ref (ad 3), .ref (ad 4), .ref (ad 5), .ref (ad 6), .ref (ad 7), .ref (ad 8), .ref (ad 9), .ref (ad 10), .ref (ad 11), .int 0, .int 0, .int 0])), ((ad 3), .inr (1, [.ref (ad 31), .ref (ad 32), .ref (ad 33), .int 0, .ref (ad 34), .ref (ad 35)]))] sz [.ref (ad 0), .int x0, .int x1, .int x2, .int x3, .int x4]) (va_Qi (fun (r : Int32) (u : Unit) => r = -1000001) (cB D (ty4 cI cY cJ cQ) (fun (u : Unit) => []) (va_A [((ad 0), .inr (10, [.ref (ad 1), .ref (ad 2), .ref (ad 3), .ref (ad 4), .ref (ad 5), .ref (ad 6), .ref (ad 7), .ref (ad 8), .ref (ad 9), .ref (ad 10), .ref (ad 11), .int 0, .int 0, .int 0])), ((ad 3), .inr (1, [.ref (ad 31), .ref (ad 32), .ref (ad 33), .int 0, .ref (ad 34), .ref (ad 35)]))] sz)) (va_A [((ad 0), .inr (10, [.ref (ad 1), .ref (ad 2), .ref (ad 3), .ref (ad 4), .ref (ad 5), .ref (ad 6), .ref (ad 7), .ref (ad 8), .ref (ad 9), .ref (ad 10), .ref (ad 11), .int 0, .int 0, .int 0])), ((ad 3), .inr (1, [.ref (ad 31), .ref (ad 32), .ref (ad 33), .int 0, .ref (ad 34), .ref (ad 35)]))] sz)) 0 0 (va_A [((ad 0), .inr (10, [.ref (ad 1), .ref (ad 2), .ref (ad 3), .ref (ad 4), .ref (ad 5), .ref (ad 6), .ref (ad 7), .ref (ad 8), .ref (ad 9), .ref (ad 10), .ref (ad 11), .int 0, .int 0, .int 0])), ((ad 3), .inr (1, [.ref (ad 31), .ref (ad 32), .ref (ad 33), .int 0, .ref (ad 34), .ref (ad 35)]))] sz) := by
  refine Met.ofW (cc := cX10_rank) (maxL := 7) (ret := (some .int)) (by decide) rfl ?_
  intro p e s m args below meth c s₁ B hml hv
  obtain ⟨rfl, hsz, hP, hK, hD0, hN⟩ := hv
  have hx := B.exec
  have hb := B.bytes
  have hr := B.returns
  have hts := atoms_spec (ws := wsX10_rank) B.pre
  have hown : s.vm.findClass RX10 = some m.cls := findClass_of_methodNamed B.named
  have hlocks := B.notSynchronized
  subst hsz
  have hD := hD0.self (sz := s.heap.size)
  generalize hAe : va_A [((ad 0), .inr (10, [.ref (ad 1), .ref (ad 2), .ref (ad 3), .ref (ad 4), .ref (ad 5), .ref (ad 6), .ref (ad 7), .ref (ad 8), .ref (ad 9), .ref (ad 10), .ref (ad 11), .int 0, .int 0, .int 0])), ((ad 3), .inr (1, [.ref (ad 31), .ref (ad 32), .ref (ad 33), .int 0, .ref (ad 34), .ref (ad 35)]))] s.heap.size = A at hD ⊢
  have hA : ∀ q : Nat, s.heap.size ≤ q → A q := fun q h => by rw [← hAe]; exact Or.inr h
  have hS : va_S A s.heap s.heap [] := va_S.rf
  have hP : va_P D vwCl [((ad 0), .inr (10, [.ref (ad 1), .ref (ad 2), .ref (ad 3), .ref (ad 4), .ref (ad 5), .ref (ad 6), .ref (ad 7), .ref (ad 8), .ref (ad 9), .ref (ad 10), .ref (ad 11), .int 0, .int 0, .int 0])), ((ad 3), .inr (1, [.ref (ad 31), .ref (ad 32), .ref (ad 33), .int 0, .ref (ad 34), .ref (ad 35)]))] s.heap := hP
  have hl := lv_entry ([.ref (ad 0), .int x0, .int x1, .int x2, .int x3, .int x4]) (n := 7) (Nat.le_of_ble_eq_true rfl)
  rw [lg_entry_eq]
  generalize (lg_sl ([.ref (ad 0), .int x0, .int x1, .int x2, .int x3, .int x4]) ++ List.replicate (7 - (lg_sl ([.ref (ad 0), .int x0, .int x1, .int x2, .int x3, .int x4])).length) Slot.unset).toArray = ls at hl ⊢
  have hl : lv_has ls 7 [(0, .ref (ad 0)), (1, .int x0), (2, .int x1), (3, .int x2), (4, .int x3), (5, .int x4)] := hl
  refine lv_aload_n hx hb dX10_rank_0 rfl (lv_at hl 0 rfl) ?_
  refine lv_iload_n hx hb dX10_rank_1 rfl (lv_at hl 1 rfl) ?_
  refine st_i (wr := []) (va_runV (C := RX10) (As := [.int x0]) (rest := []) ⟨hx, hb, hml, hown, hts⟩ (ct_X10_isCrate l D cI cY cJ cQ _ ad x0) (cwV 1 hts gX10_rank_X10_isCrate rfl rfl rfl (by decide +kernel) ⟨Nat.le_of_ble_eq_true rfl, Nat.le_of_ble_eq_true rfl⟩) (cPreV (hP.sub [0, 1] rfl) hK (hD.sub [0, 1] (by decide) rfl) hN (ci := 10) (q0 := 0) rfl rfl) rfl rfl hl.1 rfl (lv_room (Nat.le_of_ble_eq_true rfl)) dX10_rank_2 ⟨Nat.le_of_ble_eq_true rfl, Nat.le_of_ble_eq_true rfl⟩) hP hD hS hA [0, 1] [] rfl rfl (by decide) (by decide) (fun r3 u1 H locs hw2 hP hD hS => ?_)
  replace hP : va_P D vwCl [((ad 0), .inr (10, [.ref (ad 1), .ref (ad 2), .ref (ad 3), .ref (ad 4), .ref (ad 5), .ref (ad 6), .ref (ad 7), .ref (ad 8), .ref (ad 9), .ref (ad 10), .ref (ad 11), .int 0, .int 0, .int 0])), ((ad 3), .inr (1, [.ref (ad 31), .ref (ad 32), .ref (ad 33), .int 0, .ref (ad 34), .ref (ad 35)]))] H := hP
  replace hD : va_D A [((ad 0), .inr (10, [.ref (ad 1), .ref (ad 2), .ref (ad 3), .ref (ad 4), .ref (ad 5), .ref (ad 6), .ref (ad 7), .ref (ad 8), .ref (ad 9), .ref (ad 10), .ref (ad 11), .int 0, .int 0, .int 0])), ((ad 3), .inr (1, [.ref (ad 31), .ref (ad 32), .ref (ad 33), .int 0, .ref (ad 34), .ref (ad 35)]))] := hD
  subst hw2
  refine lv_if_eq (tgt := 37) hx hb dX10_rank_5 (by decide) (fun _ => ?_) (fun c => absurd (by decide) c)
  refine lv_ldc hx hb hown (hts (.constant RX10 89 (-1000001)) (by decide +kernel)) dX10_rank_37 ?_
  have hP9 := hP.sub (ws' := []) [] rfl
  have hD9 := hD.sub (ws' := []) [] (by decide) rfl
  exact W.iret (v := (-1000001)) hx hb hr (fun t ht hW => ⟨⟨(-1000001), (), rfl, rfl, by rw [ht]; exact hP9, va_K.moved hW.alike hK, hD9⟩, hS.F ht⟩) hS.2.2 dX10_rank_39

set_option maxHeartbeats 4000000 in
set_option maxRecDepth 100000 in
theorem ct_X10_act (l : Launch) (D : va_G) (cI cY cJ cQ : ClassId) (sz : Nat) (ad : Nat → Nat) (x0 x1 x2 x3 : Int32)   : Met l yX10_act wsX10_act ({ frames := 2, cells := 0, slots := 0, locals := 42 }) (cPre D (ty4 cI cY cJ cQ) [((ad 0), .inr (10, [.ref (ad 1), .ref (ad 2), .ref (ad 3), .ref (ad 4), .ref (ad 5), .ref (ad 6), .ref (ad 7), .ref (ad 8), .ref (ad 9), .ref (ad 10), .ref (ad 11), .int 0, .int 0, .int 0])), ((ad 3), .inr (1, [.ref (ad 31), .ref (ad 32), .ref (ad 33), .int 0, .ref (ad 34), .ref (ad 35)]))] sz [.ref (ad 0), .int x0, .int x1, .int x2, .int x3]) (va_Qi (fun (r : Int32) (u : Unit) => r = -1000001) (cB D (ty4 cI cY cJ cQ) (fun (u : Unit) => []) (va_A [((ad 0), .inr (10, [.ref (ad 1), .ref (ad 2), .ref (ad 3), .ref (ad 4), .ref (ad 5), .ref (ad 6), .ref (ad 7), .ref (ad 8), .ref (ad 9), .ref (ad 10), .ref (ad 11), .int 0, .int 0, .int 0])), ((ad 3), .inr (1, [.ref (ad 31), .ref (ad 32), .ref (ad 33), .int 0, .ref (ad 34), .ref (ad 35)]))] sz)) (va_A [((ad 0), .inr (10, [.ref (ad 1), .ref (ad 2), .ref (ad 3), .ref (ad 4), .ref (ad 5), .ref (ad 6), .ref (ad 7), .ref (ad 8), .ref (ad 9), .ref (ad 10), .ref (ad 11), .int 0, .int 0, .int 0])), ((ad 3), .inr (1, [.ref (ad 31), .ref (ad 32), .ref (ad 33), .int 0, .ref (ad 34), .ref (ad 35)]))] sz)) 0 0 (va_A [((ad 0), .inr (10, [.ref (ad 1), .ref (ad 2), .ref (ad 3), .ref (ad 4), .ref (ad 5), .ref (ad 6), .ref (ad 7), .ref (ad 8), .ref (ad 9), .ref (ad 10), .ref (ad 11), .int 0, .int 0, .int 0])), ((ad 3), .inr (1, [.ref (ad 31), .ref (ad 32), .ref (ad 33), .int 0, .ref (ad 34), .ref (ad 35)]))] sz) := by
  refine Met.ofW (cc := cX10_act) (maxL := 5) (ret := (some .int)) (by decide) rfl ?_
  intro p e s m args below meth c s₁ B hml hv
  obtain ⟨rfl, hsz, hP, hK, hD0, hN⟩ := hv
  have hx := B.exec
  have hb := B.bytes
  have hr := B.returns
  have hts := atoms_spec (ws := wsX10_act) B.pre
  have hown : s.vm.findClass RX10 = some m.cls := findClass_of_methodNamed B.named
  have hlocks := B.notSynchronized
  subst hsz
  have hD := hD0.self (sz := s.heap.size)
  generalize hAe : va_A [((ad 0), .inr (10, [.ref (ad 1), .ref (ad 2), .ref (ad 3), .ref (ad 4), .ref (ad 5), .ref (ad 6), .ref (ad 7), .ref (ad 8), .ref (ad 9), .ref (ad 10), .ref (ad 11), .int 0, .int 0, .int 0])), ((ad 3), .inr (1, [.ref (ad 31), .ref (ad 32), .ref (ad 33), .int 0, .ref (ad 34), .ref (ad 35)]))] s.heap.size = A at hD ⊢
  have hA : ∀ q : Nat, s.heap.size ≤ q → A q := fun q h => by rw [← hAe]; exact Or.inr h
  have hS : va_S A s.heap s.heap [] := va_S.rf
  have hP : va_P D vwCl [((ad 0), .inr (10, [.ref (ad 1), .ref (ad 2), .ref (ad 3), .ref (ad 4), .ref (ad 5), .ref (ad 6), .ref (ad 7), .ref (ad 8), .ref (ad 9), .ref (ad 10), .ref (ad 11), .int 0, .int 0, .int 0])), ((ad 3), .inr (1, [.ref (ad 31), .ref (ad 32), .ref (ad 33), .int 0, .ref (ad 34), .ref (ad 35)]))] s.heap := hP
  have hl := lv_entry ([.ref (ad 0), .int x0, .int x1, .int x2, .int x3]) (n := 5) (Nat.le_of_ble_eq_true rfl)
  rw [lg_entry_eq]
  generalize (lg_sl ([.ref (ad 0), .int x0, .int x1, .int x2, .int x3]) ++ List.replicate (5 - (lg_sl ([.ref (ad 0), .int x0, .int x1, .int x2, .int x3])).length) Slot.unset).toArray = ls at hl ⊢
  have hl : lv_has ls 5 [(0, .ref (ad 0)), (1, .int x0), (2, .int x1), (3, .int x2), (4, .int x3)] := hl
  refine lv_aload_n hx hb dX10_act_0 rfl (lv_at hl 0 rfl) ?_
  refine lv_iload_n hx hb dX10_act_1 rfl (lv_at hl 1 rfl) ?_
  refine st_i (wr := []) (va_runV (C := RX10) (As := [.int x0]) (rest := []) ⟨hx, hb, hml, hown, hts⟩ (ct_X10_isCrate l D cI cY cJ cQ _ ad x0) (cwV 1 hts gX10_act_X10_isCrate rfl rfl rfl (by decide +kernel) ⟨Nat.le_of_ble_eq_true rfl, Nat.le_of_ble_eq_true rfl⟩) (cPreV (hP.sub [0, 1] rfl) hK (hD.sub [0, 1] (by decide) rfl) hN (ci := 10) (q0 := 0) rfl rfl) rfl rfl hl.1 rfl (lv_room (Nat.le_of_ble_eq_true rfl)) dX10_act_2 ⟨Nat.le_of_ble_eq_true rfl, Nat.le_of_ble_eq_true rfl⟩) hP hD hS hA [0, 1] [] rfl rfl (by decide) (by decide) (fun r3 u1 H locs hw2 hP hD hS => ?_)
  replace hP : va_P D vwCl [((ad 0), .inr (10, [.ref (ad 1), .ref (ad 2), .ref (ad 3), .ref (ad 4), .ref (ad 5), .ref (ad 6), .ref (ad 7), .ref (ad 8), .ref (ad 9), .ref (ad 10), .ref (ad 11), .int 0, .int 0, .int 0])), ((ad 3), .inr (1, [.ref (ad 31), .ref (ad 32), .ref (ad 33), .int 0, .ref (ad 34), .ref (ad 35)]))] H := hP
  replace hD : va_D A [((ad 0), .inr (10, [.ref (ad 1), .ref (ad 2), .ref (ad 3), .ref (ad 4), .ref (ad 5), .ref (ad 6), .ref (ad 7), .ref (ad 8), .ref (ad 9), .ref (ad 10), .ref (ad 11), .int 0, .int 0, .int 0])), ((ad 3), .inr (1, [.ref (ad 31), .ref (ad 32), .ref (ad 33), .int 0, .ref (ad 34), .ref (ad 35)]))] := hD
  subst hw2
  refine lv_if_eq (tgt := 35) hx hb dX10_act_5 (by decide) (fun _ => ?_) (fun c => absurd (by decide) c)
  refine lv_ldc hx hb hown (hts (.constant RX10 89 (-1000001)) (by decide +kernel)) dX10_act_35 ?_
  have hP9 := hP.sub (ws' := []) [] rfl
  have hD9 := hD.sub (ws' := []) [] (by decide) rfl
  exact W.iret (v := (-1000001)) hx hb hr (fun t ht hW => ⟨⟨(-1000001), (), rfl, rfl, by rw [ht]; exact hP9, va_K.moved hW.alike hK, hD9⟩, hS.F ht⟩) hS.2.2 dX10_act_37

set_option maxHeartbeats 4000000 in
set_option maxRecDepth 100000 in
theorem ct_X10_duty (l : Launch) (D : va_G) (cI cY cJ cQ : ClassId) (sz : Nat) (ad : Nat → Nat) (x0 x1 : Int32)   : Met l yX10_duty wsX10_duty ({ frames := 2, cells := 0, slots := 0, locals := 42 }) (cPre D (ty4 cI cY cJ cQ) [((ad 0), .inr (10, [.ref (ad 1), .ref (ad 2), .ref (ad 3), .ref (ad 4), .ref (ad 5), .ref (ad 6), .ref (ad 7), .ref (ad 8), .ref (ad 9), .ref (ad 10), .ref (ad 11), .int 0, .int 0, .int 0])), ((ad 3), .inr (1, [.ref (ad 31), .ref (ad 32), .ref (ad 33), .int 0, .ref (ad 34), .ref (ad 35)]))] sz [.ref (ad 0), .int x0, .int x1]) (va_Qi (fun (r : Int32) (u : Unit) => r = -1000001) (cB D (ty4 cI cY cJ cQ) (fun (u : Unit) => []) (va_A [((ad 0), .inr (10, [.ref (ad 1), .ref (ad 2), .ref (ad 3), .ref (ad 4), .ref (ad 5), .ref (ad 6), .ref (ad 7), .ref (ad 8), .ref (ad 9), .ref (ad 10), .ref (ad 11), .int 0, .int 0, .int 0])), ((ad 3), .inr (1, [.ref (ad 31), .ref (ad 32), .ref (ad 33), .int 0, .ref (ad 34), .ref (ad 35)]))] sz)) (va_A [((ad 0), .inr (10, [.ref (ad 1), .ref (ad 2), .ref (ad 3), .ref (ad 4), .ref (ad 5), .ref (ad 6), .ref (ad 7), .ref (ad 8), .ref (ad 9), .ref (ad 10), .ref (ad 11), .int 0, .int 0, .int 0])), ((ad 3), .inr (1, [.ref (ad 31), .ref (ad 32), .ref (ad 33), .int 0, .ref (ad 34), .ref (ad 35)]))] sz)) 0 0 (va_A [((ad 0), .inr (10, [.ref (ad 1), .ref (ad 2), .ref (ad 3), .ref (ad 4), .ref (ad 5), .ref (ad 6), .ref (ad 7), .ref (ad 8), .ref (ad 9), .ref (ad 10), .ref (ad 11), .int 0, .int 0, .int 0])), ((ad 3), .inr (1, [.ref (ad 31), .ref (ad 32), .ref (ad 33), .int 0, .ref (ad 34), .ref (ad 35)]))] sz) := by
  refine Met.ofW (cc := cX10_duty) (maxL := 5) (ret := (some .int)) (by decide) rfl ?_
  intro p e s m args below meth c s₁ B hml hv
  obtain ⟨rfl, hsz, hP, hK, hD0, hN⟩ := hv
  have hx := B.exec
  have hb := B.bytes
  have hr := B.returns
  have hts := atoms_spec (ws := wsX10_duty) B.pre
  have hown : s.vm.findClass RX10 = some m.cls := findClass_of_methodNamed B.named
  have hlocks := B.notSynchronized
  subst hsz
  have hD := hD0.self (sz := s.heap.size)
  generalize hAe : va_A [((ad 0), .inr (10, [.ref (ad 1), .ref (ad 2), .ref (ad 3), .ref (ad 4), .ref (ad 5), .ref (ad 6), .ref (ad 7), .ref (ad 8), .ref (ad 9), .ref (ad 10), .ref (ad 11), .int 0, .int 0, .int 0])), ((ad 3), .inr (1, [.ref (ad 31), .ref (ad 32), .ref (ad 33), .int 0, .ref (ad 34), .ref (ad 35)]))] s.heap.size = A at hD ⊢
  have hA : ∀ q : Nat, s.heap.size ≤ q → A q := fun q h => by rw [← hAe]; exact Or.inr h
  have hS : va_S A s.heap s.heap [] := va_S.rf
  have hP : va_P D vwCl [((ad 0), .inr (10, [.ref (ad 1), .ref (ad 2), .ref (ad 3), .ref (ad 4), .ref (ad 5), .ref (ad 6), .ref (ad 7), .ref (ad 8), .ref (ad 9), .ref (ad 10), .ref (ad 11), .int 0, .int 0, .int 0])), ((ad 3), .inr (1, [.ref (ad 31), .ref (ad 32), .ref (ad 33), .int 0, .ref (ad 34), .ref (ad 35)]))] s.heap := hP
  have hl := lv_entry ([.ref (ad 0), .int x0, .int x1]) (n := 5) (Nat.le_of_ble_eq_true rfl)
  rw [lg_entry_eq]
  generalize (lg_sl ([.ref (ad 0), .int x0, .int x1]) ++ List.replicate (5 - (lg_sl ([.ref (ad 0), .int x0, .int x1])).length) Slot.unset).toArray = ls at hl ⊢
  have hl : lv_has ls 5 [(0, .ref (ad 0)), (1, .int x0), (2, .int x1)] := hl
  refine lv_aload_n hx hb dX10_duty_0 rfl (lv_at hl 0 rfl) ?_
  refine lv_iload_n hx hb dX10_duty_1 rfl (lv_at hl 1 rfl) ?_
  refine st_i (wr := []) (va_runV (C := RX10) (As := [.int x0]) (rest := []) ⟨hx, hb, hml, hown, hts⟩ (ct_X10_isCrate l D cI cY cJ cQ _ ad x0) (cwV 1 hts gX10_duty_X10_isCrate rfl rfl rfl (by decide +kernel) ⟨Nat.le_of_ble_eq_true rfl, Nat.le_of_ble_eq_true rfl⟩) (cPreV (hP.sub [0, 1] rfl) hK (hD.sub [0, 1] (by decide) rfl) hN (ci := 10) (q0 := 0) rfl rfl) rfl rfl hl.1 rfl (lv_room (Nat.le_of_ble_eq_true rfl)) dX10_duty_2 ⟨Nat.le_of_ble_eq_true rfl, Nat.le_of_ble_eq_true rfl⟩) hP hD hS hA [0, 1] [] rfl rfl (by decide) (by decide) (fun r3 u1 H locs hw2 hP hD hS => ?_)
  replace hP : va_P D vwCl [((ad 0), .inr (10, [.ref (ad 1), .ref (ad 2), .ref (ad 3), .ref (ad 4), .ref (ad 5), .ref (ad 6), .ref (ad 7), .ref (ad 8), .ref (ad 9), .ref (ad 10), .ref (ad 11), .int 0, .int 0, .int 0])), ((ad 3), .inr (1, [.ref (ad 31), .ref (ad 32), .ref (ad 33), .int 0, .ref (ad 34), .ref (ad 35)]))] H := hP
  replace hD : va_D A [((ad 0), .inr (10, [.ref (ad 1), .ref (ad 2), .ref (ad 3), .ref (ad 4), .ref (ad 5), .ref (ad 6), .ref (ad 7), .ref (ad 8), .ref (ad 9), .ref (ad 10), .ref (ad 11), .int 0, .int 0, .int 0])), ((ad 3), .inr (1, [.ref (ad 31), .ref (ad 32), .ref (ad 33), .int 0, .ref (ad 34), .ref (ad 35)]))] := hD
  subst hw2
  refine lv_if_eq (tgt := 16) hx hb dX10_duty_5 (by decide) (fun _ => ?_) (fun c => absurd (by decide) c)
  refine lv_ldc hx hb hown (hts (.constant RX10 89 (-1000001)) (by decide +kernel)) dX10_duty_16 ?_
  have hP9 := hP.sub (ws' := []) [] rfl
  have hD9 := hD.sub (ws' := []) [] (by decide) rfl
  exact W.iret (v := (-1000001)) hx hb hr (fun t ht hW => ⟨⟨(-1000001), (), rfl, rfl, by rw [ht]; exact hP9, va_K.moved hW.alike hK, hD9⟩, hS.F ht⟩) hS.2.2 dX10_duty_18

set_option maxHeartbeats 4000000 in
set_option maxRecDepth 100000 in
theorem ct_X10_move (l : Launch) (D : va_G) (cI cY cJ cQ : ClassId) (sz : Nat) (ad : Nat → Nat) (x0 x1 : Int32)   : Met l yX10_move wsX10_move ({ frames := 2, cells := 0, slots := 0, locals := 42 }) (cPre D (ty4 cI cY cJ cQ) [((ad 0), .inr (10, [.ref (ad 1), .ref (ad 2), .ref (ad 3), .ref (ad 4), .ref (ad 5), .ref (ad 6), .ref (ad 7), .ref (ad 8), .ref (ad 9), .ref (ad 10), .ref (ad 11), .int 0, .int 0, .int 0])), ((ad 3), .inr (1, [.ref (ad 31), .ref (ad 32), .ref (ad 33), .int 0, .ref (ad 34), .ref (ad 35)]))] sz [.ref (ad 0), .int x0, .int x1]) (va_Qi (fun (r : Int32) (u : Unit) => r = -1000001) (cB D (ty4 cI cY cJ cQ) (fun (u : Unit) => []) (va_A [((ad 0), .inr (10, [.ref (ad 1), .ref (ad 2), .ref (ad 3), .ref (ad 4), .ref (ad 5), .ref (ad 6), .ref (ad 7), .ref (ad 8), .ref (ad 9), .ref (ad 10), .ref (ad 11), .int 0, .int 0, .int 0])), ((ad 3), .inr (1, [.ref (ad 31), .ref (ad 32), .ref (ad 33), .int 0, .ref (ad 34), .ref (ad 35)]))] sz)) (va_A [((ad 0), .inr (10, [.ref (ad 1), .ref (ad 2), .ref (ad 3), .ref (ad 4), .ref (ad 5), .ref (ad 6), .ref (ad 7), .ref (ad 8), .ref (ad 9), .ref (ad 10), .ref (ad 11), .int 0, .int 0, .int 0])), ((ad 3), .inr (1, [.ref (ad 31), .ref (ad 32), .ref (ad 33), .int 0, .ref (ad 34), .ref (ad 35)]))] sz)) 0 0 (va_A [((ad 0), .inr (10, [.ref (ad 1), .ref (ad 2), .ref (ad 3), .ref (ad 4), .ref (ad 5), .ref (ad 6), .ref (ad 7), .ref (ad 8), .ref (ad 9), .ref (ad 10), .ref (ad 11), .int 0, .int 0, .int 0])), ((ad 3), .inr (1, [.ref (ad 31), .ref (ad 32), .ref (ad 33), .int 0, .ref (ad 34), .ref (ad 35)]))] sz) := by
  refine Met.ofW (cc := cX10_move) (maxL := 4) (ret := (some .int)) (by decide) rfl ?_
  intro p e s m args below meth c s₁ B hml hv
  obtain ⟨rfl, hsz, hP, hK, hD0, hN⟩ := hv
  have hx := B.exec
  have hb := B.bytes
  have hr := B.returns
  have hts := atoms_spec (ws := wsX10_move) B.pre
  have hown : s.vm.findClass RX10 = some m.cls := findClass_of_methodNamed B.named
  have hlocks := B.notSynchronized
  subst hsz
  have hD := hD0.self (sz := s.heap.size)
  generalize hAe : va_A [((ad 0), .inr (10, [.ref (ad 1), .ref (ad 2), .ref (ad 3), .ref (ad 4), .ref (ad 5), .ref (ad 6), .ref (ad 7), .ref (ad 8), .ref (ad 9), .ref (ad 10), .ref (ad 11), .int 0, .int 0, .int 0])), ((ad 3), .inr (1, [.ref (ad 31), .ref (ad 32), .ref (ad 33), .int 0, .ref (ad 34), .ref (ad 35)]))] s.heap.size = A at hD ⊢
  have hA : ∀ q : Nat, s.heap.size ≤ q → A q := fun q h => by rw [← hAe]; exact Or.inr h
  have hS : va_S A s.heap s.heap [] := va_S.rf
  have hP : va_P D vwCl [((ad 0), .inr (10, [.ref (ad 1), .ref (ad 2), .ref (ad 3), .ref (ad 4), .ref (ad 5), .ref (ad 6), .ref (ad 7), .ref (ad 8), .ref (ad 9), .ref (ad 10), .ref (ad 11), .int 0, .int 0, .int 0])), ((ad 3), .inr (1, [.ref (ad 31), .ref (ad 32), .ref (ad 33), .int 0, .ref (ad 34), .ref (ad 35)]))] s.heap := hP
  have hl := lv_entry ([.ref (ad 0), .int x0, .int x1]) (n := 4) (Nat.le_of_ble_eq_true rfl)
  rw [lg_entry_eq]
  generalize (lg_sl ([.ref (ad 0), .int x0, .int x1]) ++ List.replicate (4 - (lg_sl ([.ref (ad 0), .int x0, .int x1])).length) Slot.unset).toArray = ls at hl ⊢
  have hl : lv_has ls 4 [(0, .ref (ad 0)), (1, .int x0), (2, .int x1)] := hl
  refine lv_aload_n hx hb dX10_move_0 rfl (lv_at hl 0 rfl) ?_
  refine lv_iload_n hx hb dX10_move_1 rfl (lv_at hl 1 rfl) ?_
  refine st_i (wr := []) (va_runV (C := RX10) (As := [.int x0]) (rest := []) ⟨hx, hb, hml, hown, hts⟩ (ct_X10_isCrate l D cI cY cJ cQ _ ad x0) (cwV 1 hts gX10_move_X10_isCrate rfl rfl rfl (by decide +kernel) ⟨Nat.le_of_ble_eq_true rfl, Nat.le_of_ble_eq_true rfl⟩) (cPreV (hP.sub [0, 1] rfl) hK (hD.sub [0, 1] (by decide) rfl) hN (ci := 10) (q0 := 0) rfl rfl) rfl rfl hl.1 rfl (lv_room (Nat.le_of_ble_eq_true rfl)) dX10_move_2 ⟨Nat.le_of_ble_eq_true rfl, Nat.le_of_ble_eq_true rfl⟩) hP hD hS hA [0, 1] [] rfl rfl (by decide) (by decide) (fun r3 u1 H locs hw2 hP hD hS => ?_)
  replace hP : va_P D vwCl [((ad 0), .inr (10, [.ref (ad 1), .ref (ad 2), .ref (ad 3), .ref (ad 4), .ref (ad 5), .ref (ad 6), .ref (ad 7), .ref (ad 8), .ref (ad 9), .ref (ad 10), .ref (ad 11), .int 0, .int 0, .int 0])), ((ad 3), .inr (1, [.ref (ad 31), .ref (ad 32), .ref (ad 33), .int 0, .ref (ad 34), .ref (ad 35)]))] H := hP
  replace hD : va_D A [((ad 0), .inr (10, [.ref (ad 1), .ref (ad 2), .ref (ad 3), .ref (ad 4), .ref (ad 5), .ref (ad 6), .ref (ad 7), .ref (ad 8), .ref (ad 9), .ref (ad 10), .ref (ad 11), .int 0, .int 0, .int 0])), ((ad 3), .inr (1, [.ref (ad 31), .ref (ad 32), .ref (ad 33), .int 0, .ref (ad 34), .ref (ad 35)]))] := hD
  subst hw2
  refine lv_if_eq (tgt := 23) hx hb dX10_move_5 (by decide) (fun _ => ?_) (fun c => absurd (by decide) c)
  refine lv_ldc hx hb hown (hts (.constant RX10 89 (-1000001)) (by decide +kernel)) dX10_move_23 ?_
  have hP9 := hP.sub (ws' := []) [] rfl
  have hD9 := hD.sub (ws' := []) [] (by decide) rfl
  exact W.iret (v := (-1000001)) hx hb hr (fun t ht hW => ⟨⟨(-1000001), (), rfl, rfl, by rw [ht]; exact hP9, va_K.moved hW.alike hK, hD9⟩, hS.F ht⟩) hS.2.2 dX10_move_25

set_option maxHeartbeats 4000000 in
set_option maxRecDepth 100000 in
theorem ct_X10_often (l : Launch) (D : va_G) (cI cY cJ cQ : ClassId) (sz : Nat) (ad : Nat → Nat) (x0 x1 x2 x3 : Int32)   : Met l yX10_often wsX10_often ({ frames := 2, cells := 0, slots := 0, locals := 42 }) (cPre D (ty4 cI cY cJ cQ) [((ad 0), .inr (10, [.ref (ad 1), .ref (ad 2), .ref (ad 3), .ref (ad 4), .ref (ad 5), .ref (ad 6), .ref (ad 7), .ref (ad 8), .ref (ad 9), .ref (ad 10), .ref (ad 11), .int 0, .int 0, .int 0])), ((ad 3), .inr (1, [.ref (ad 31), .ref (ad 32), .ref (ad 33), .int 0, .ref (ad 34), .ref (ad 35)]))] sz [.ref (ad 0), .int x0, .int x1, .int x2, .int x3]) (va_Qi (fun (r : Int32) (u : Unit) => r = -1000001) (cB D (ty4 cI cY cJ cQ) (fun (u : Unit) => []) (va_A [((ad 0), .inr (10, [.ref (ad 1), .ref (ad 2), .ref (ad 3), .ref (ad 4), .ref (ad 5), .ref (ad 6), .ref (ad 7), .ref (ad 8), .ref (ad 9), .ref (ad 10), .ref (ad 11), .int 0, .int 0, .int 0])), ((ad 3), .inr (1, [.ref (ad 31), .ref (ad 32), .ref (ad 33), .int 0, .ref (ad 34), .ref (ad 35)]))] sz)) (va_A [((ad 0), .inr (10, [.ref (ad 1), .ref (ad 2), .ref (ad 3), .ref (ad 4), .ref (ad 5), .ref (ad 6), .ref (ad 7), .ref (ad 8), .ref (ad 9), .ref (ad 10), .ref (ad 11), .int 0, .int 0, .int 0])), ((ad 3), .inr (1, [.ref (ad 31), .ref (ad 32), .ref (ad 33), .int 0, .ref (ad 34), .ref (ad 35)]))] sz)) 0 0 (va_A [((ad 0), .inr (10, [.ref (ad 1), .ref (ad 2), .ref (ad 3), .ref (ad 4), .ref (ad 5), .ref (ad 6), .ref (ad 7), .ref (ad 8), .ref (ad 9), .ref (ad 10), .ref (ad 11), .int 0, .int 0, .int 0])), ((ad 3), .inr (1, [.ref (ad 31), .ref (ad 32), .ref (ad 33), .int 0, .ref (ad 34), .ref (ad 35)]))] sz) := by
  refine Met.ofW (cc := cX10_often) (maxL := 8) (ret := (some .int)) (by decide) rfl ?_
  intro p e s m args below meth c s₁ B hml hv
  obtain ⟨rfl, hsz, hP, hK, hD0, hN⟩ := hv
  have hx := B.exec
  have hb := B.bytes
  have hr := B.returns
  have hts := atoms_spec (ws := wsX10_often) B.pre
  have hown : s.vm.findClass RX10 = some m.cls := findClass_of_methodNamed B.named
  have hlocks := B.notSynchronized
  subst hsz
  have hD := hD0.self (sz := s.heap.size)
  generalize hAe : va_A [((ad 0), .inr (10, [.ref (ad 1), .ref (ad 2), .ref (ad 3), .ref (ad 4), .ref (ad 5), .ref (ad 6), .ref (ad 7), .ref (ad 8), .ref (ad 9), .ref (ad 10), .ref (ad 11), .int 0, .int 0, .int 0])), ((ad 3), .inr (1, [.ref (ad 31), .ref (ad 32), .ref (ad 33), .int 0, .ref (ad 34), .ref (ad 35)]))] s.heap.size = A at hD ⊢
  have hA : ∀ q : Nat, s.heap.size ≤ q → A q := fun q h => by rw [← hAe]; exact Or.inr h
  have hS : va_S A s.heap s.heap [] := va_S.rf
  have hP : va_P D vwCl [((ad 0), .inr (10, [.ref (ad 1), .ref (ad 2), .ref (ad 3), .ref (ad 4), .ref (ad 5), .ref (ad 6), .ref (ad 7), .ref (ad 8), .ref (ad 9), .ref (ad 10), .ref (ad 11), .int 0, .int 0, .int 0])), ((ad 3), .inr (1, [.ref (ad 31), .ref (ad 32), .ref (ad 33), .int 0, .ref (ad 34), .ref (ad 35)]))] s.heap := hP
  have hl := lv_entry ([.ref (ad 0), .int x0, .int x1, .int x2, .int x3]) (n := 8) (Nat.le_of_ble_eq_true rfl)
  rw [lg_entry_eq]
  generalize (lg_sl ([.ref (ad 0), .int x0, .int x1, .int x2, .int x3]) ++ List.replicate (8 - (lg_sl ([.ref (ad 0), .int x0, .int x1, .int x2, .int x3])).length) Slot.unset).toArray = ls at hl ⊢
  have hl : lv_has ls 8 [(0, .ref (ad 0)), (1, .int x0), (2, .int x1), (3, .int x2), (4, .int x3)] := hl
  refine lv_aload_n hx hb dX10_often_0 rfl (lv_at hl 0 rfl) ?_
  refine lv_iload_n hx hb dX10_often_1 rfl (lv_at hl 1 rfl) ?_
  refine st_i (wr := []) (va_runV (C := RX10) (As := [.int x0]) (rest := []) ⟨hx, hb, hml, hown, hts⟩ (ct_X10_isCrate l D cI cY cJ cQ _ ad x0) (cwV 1 hts gX10_often_X10_isCrate rfl rfl rfl (by decide +kernel) ⟨Nat.le_of_ble_eq_true rfl, Nat.le_of_ble_eq_true rfl⟩) (cPreV (hP.sub [0, 1] rfl) hK (hD.sub [0, 1] (by decide) rfl) hN (ci := 10) (q0 := 0) rfl rfl) rfl rfl hl.1 rfl (lv_room (Nat.le_of_ble_eq_true rfl)) dX10_often_2 ⟨Nat.le_of_ble_eq_true rfl, Nat.le_of_ble_eq_true rfl⟩) hP hD hS hA [0, 1] [] rfl rfl (by decide) (by decide) (fun r3 u1 H locs hw2 hP hD hS => ?_)
  replace hP : va_P D vwCl [((ad 0), .inr (10, [.ref (ad 1), .ref (ad 2), .ref (ad 3), .ref (ad 4), .ref (ad 5), .ref (ad 6), .ref (ad 7), .ref (ad 8), .ref (ad 9), .ref (ad 10), .ref (ad 11), .int 0, .int 0, .int 0])), ((ad 3), .inr (1, [.ref (ad 31), .ref (ad 32), .ref (ad 33), .int 0, .ref (ad 34), .ref (ad 35)]))] H := hP
  replace hD : va_D A [((ad 0), .inr (10, [.ref (ad 1), .ref (ad 2), .ref (ad 3), .ref (ad 4), .ref (ad 5), .ref (ad 6), .ref (ad 7), .ref (ad 8), .ref (ad 9), .ref (ad 10), .ref (ad 11), .int 0, .int 0, .int 0])), ((ad 3), .inr (1, [.ref (ad 31), .ref (ad 32), .ref (ad 33), .int 0, .ref (ad 34), .ref (ad 35)]))] := hD
  subst hw2
  refine lv_if_eq (tgt := 36) hx hb dX10_often_5 (by decide) (fun _ => ?_) (fun c => absurd (by decide) c)
  refine lv_ldc hx hb hown (hts (.constant RX10 89 (-1000001)) (by decide +kernel)) dX10_often_36 ?_
  have hP9 := hP.sub (ws' := []) [] rfl
  have hD9 := hD.sub (ws' := []) [] (by decide) rfl
  exact W.iret (v := (-1000001)) hx hb hr (fun t ht hW => ⟨⟨(-1000001), (), rfl, rfl, by rw [ht]; exact hP9, va_K.moved hW.alike hK, hD9⟩, hS.F ht⟩) hS.2.2 dX10_often_38

set_option maxHeartbeats 4000000 in
set_option maxRecDepth 100000 in
theorem ct_X10_opened (l : Launch) (D : va_G) (cI cY cJ cQ : ClassId) (sz : Nat) (ad : Nat → Nat) (x0 x1 x2 x3 : Int32)   : Met l yX10_opened wsX10_opened ({ frames := 2, cells := 0, slots := 0, locals := 42 }) (cPre D (ty4 cI cY cJ cQ) [((ad 0), .inr (10, [.ref (ad 1), .ref (ad 2), .ref (ad 3), .ref (ad 4), .ref (ad 5), .ref (ad 6), .ref (ad 7), .ref (ad 8), .ref (ad 9), .ref (ad 10), .ref (ad 11), .int 0, .int 0, .int 0])), ((ad 3), .inr (1, [.ref (ad 31), .ref (ad 32), .ref (ad 33), .int 0, .ref (ad 34), .ref (ad 35)]))] sz [.ref (ad 0), .int x0, .int x1, .int x2, .int x3]) (va_Qi (fun (r : Int32) (u : Unit) => r = -1000001) (cB D (ty4 cI cY cJ cQ) (fun (u : Unit) => []) (va_A [((ad 0), .inr (10, [.ref (ad 1), .ref (ad 2), .ref (ad 3), .ref (ad 4), .ref (ad 5), .ref (ad 6), .ref (ad 7), .ref (ad 8), .ref (ad 9), .ref (ad 10), .ref (ad 11), .int 0, .int 0, .int 0])), ((ad 3), .inr (1, [.ref (ad 31), .ref (ad 32), .ref (ad 33), .int 0, .ref (ad 34), .ref (ad 35)]))] sz)) (va_A [((ad 0), .inr (10, [.ref (ad 1), .ref (ad 2), .ref (ad 3), .ref (ad 4), .ref (ad 5), .ref (ad 6), .ref (ad 7), .ref (ad 8), .ref (ad 9), .ref (ad 10), .ref (ad 11), .int 0, .int 0, .int 0])), ((ad 3), .inr (1, [.ref (ad 31), .ref (ad 32), .ref (ad 33), .int 0, .ref (ad 34), .ref (ad 35)]))] sz)) 0 0 (va_A [((ad 0), .inr (10, [.ref (ad 1), .ref (ad 2), .ref (ad 3), .ref (ad 4), .ref (ad 5), .ref (ad 6), .ref (ad 7), .ref (ad 8), .ref (ad 9), .ref (ad 10), .ref (ad 11), .int 0, .int 0, .int 0])), ((ad 3), .inr (1, [.ref (ad 31), .ref (ad 32), .ref (ad 33), .int 0, .ref (ad 34), .ref (ad 35)]))] sz) := by
  refine Met.ofW (cc := cX10_opened) (maxL := 5) (ret := (some .int)) (by decide) rfl ?_
  intro p e s m args below meth c s₁ B hml hv
  obtain ⟨rfl, hsz, hP, hK, hD0, hN⟩ := hv
  have hx := B.exec
  have hb := B.bytes
  have hr := B.returns
  have hts := atoms_spec (ws := wsX10_opened) B.pre
  have hown : s.vm.findClass RX10 = some m.cls := findClass_of_methodNamed B.named
  have hlocks := B.notSynchronized
  subst hsz
  have hD := hD0.self (sz := s.heap.size)
  generalize hAe : va_A [((ad 0), .inr (10, [.ref (ad 1), .ref (ad 2), .ref (ad 3), .ref (ad 4), .ref (ad 5), .ref (ad 6), .ref (ad 7), .ref (ad 8), .ref (ad 9), .ref (ad 10), .ref (ad 11), .int 0, .int 0, .int 0])), ((ad 3), .inr (1, [.ref (ad 31), .ref (ad 32), .ref (ad 33), .int 0, .ref (ad 34), .ref (ad 35)]))] s.heap.size = A at hD ⊢
  have hA : ∀ q : Nat, s.heap.size ≤ q → A q := fun q h => by rw [← hAe]; exact Or.inr h
  have hS : va_S A s.heap s.heap [] := va_S.rf
  have hP : va_P D vwCl [((ad 0), .inr (10, [.ref (ad 1), .ref (ad 2), .ref (ad 3), .ref (ad 4), .ref (ad 5), .ref (ad 6), .ref (ad 7), .ref (ad 8), .ref (ad 9), .ref (ad 10), .ref (ad 11), .int 0, .int 0, .int 0])), ((ad 3), .inr (1, [.ref (ad 31), .ref (ad 32), .ref (ad 33), .int 0, .ref (ad 34), .ref (ad 35)]))] s.heap := hP
  have hl := lv_entry ([.ref (ad 0), .int x0, .int x1, .int x2, .int x3]) (n := 5) (Nat.le_of_ble_eq_true rfl)
  rw [lg_entry_eq]
  generalize (lg_sl ([.ref (ad 0), .int x0, .int x1, .int x2, .int x3]) ++ List.replicate (5 - (lg_sl ([.ref (ad 0), .int x0, .int x1, .int x2, .int x3])).length) Slot.unset).toArray = ls at hl ⊢
  have hl : lv_has ls 5 [(0, .ref (ad 0)), (1, .int x0), (2, .int x1), (3, .int x2), (4, .int x3)] := hl
  refine lv_aload_n hx hb dX10_opened_0 rfl (lv_at hl 0 rfl) ?_
  refine lv_iload_n hx hb dX10_opened_1 rfl (lv_at hl 1 rfl) ?_
  refine st_i (wr := []) (va_runV (C := RX10) (As := [.int x0]) (rest := []) ⟨hx, hb, hml, hown, hts⟩ (ct_X10_isCrate l D cI cY cJ cQ _ ad x0) (cwV 1 hts gX10_opened_X10_isCrate rfl rfl rfl (by decide +kernel) ⟨Nat.le_of_ble_eq_true rfl, Nat.le_of_ble_eq_true rfl⟩) (cPreV (hP.sub [0, 1] rfl) hK (hD.sub [0, 1] (by decide) rfl) hN (ci := 10) (q0 := 0) rfl rfl) rfl rfl hl.1 rfl (lv_room (Nat.le_of_ble_eq_true rfl)) dX10_opened_2 ⟨Nat.le_of_ble_eq_true rfl, Nat.le_of_ble_eq_true rfl⟩) hP hD hS hA [0, 1] [] rfl rfl (by decide) (by decide) (fun r3 u1 H locs hw2 hP hD hS => ?_)
  replace hP : va_P D vwCl [((ad 0), .inr (10, [.ref (ad 1), .ref (ad 2), .ref (ad 3), .ref (ad 4), .ref (ad 5), .ref (ad 6), .ref (ad 7), .ref (ad 8), .ref (ad 9), .ref (ad 10), .ref (ad 11), .int 0, .int 0, .int 0])), ((ad 3), .inr (1, [.ref (ad 31), .ref (ad 32), .ref (ad 33), .int 0, .ref (ad 34), .ref (ad 35)]))] H := hP
  replace hD : va_D A [((ad 0), .inr (10, [.ref (ad 1), .ref (ad 2), .ref (ad 3), .ref (ad 4), .ref (ad 5), .ref (ad 6), .ref (ad 7), .ref (ad 8), .ref (ad 9), .ref (ad 10), .ref (ad 11), .int 0, .int 0, .int 0])), ((ad 3), .inr (1, [.ref (ad 31), .ref (ad 32), .ref (ad 33), .int 0, .ref (ad 34), .ref (ad 35)]))] := hD
  subst hw2
  refine lv_if_eq (tgt := 37) hx hb dX10_opened_5 (by decide) (fun _ => ?_) (fun c => absurd (by decide) c)
  refine lv_ldc hx hb hown (hts (.constant RX10 89 (-1000001)) (by decide +kernel)) dX10_opened_37 ?_
  have hP9 := hP.sub (ws' := []) [] rfl
  have hD9 := hD.sub (ws' := []) [] (by decide) rfl
  exact W.iret (v := (-1000001)) hx hb hr (fun t ht hW => ⟨⟨(-1000001), (), rfl, rfl, by rw [ht]; exact hP9, va_K.moved hW.alike hK, hD9⟩, hS.F ht⟩) hS.2.2 dX10_opened_39

set_option maxHeartbeats 4000000 in
set_option maxRecDepth 100000 in
theorem ct_X10_verdict (l : Launch) (D : va_G) (cI cY cJ cQ : ClassId) (sz : Nat) (ad : Nat → Nat) (x0 : Int32)   : Met l yX10_verdict wsX10_verdict ({ frames := 2, cells := 0, slots := 0, locals := 42 }) (cPre D (ty4 cI cY cJ cQ) [((ad 0), .inr (10, [.ref (ad 1), .ref (ad 2), .ref (ad 3), .ref (ad 4), .ref (ad 5), .ref (ad 6), .ref (ad 7), .ref (ad 8), .ref (ad 9), .ref (ad 10), .ref (ad 11), .int 0, .int 0, .int 0])), ((ad 3), .inr (1, [.ref (ad 31), .ref (ad 32), .ref (ad 33), .int 0, .ref (ad 34), .ref (ad 35)]))] sz [.ref (ad 0), .int x0]) (va_Qi (fun (r : Int32) (u : Unit) => r = -1000001) (cB D (ty4 cI cY cJ cQ) (fun (u : Unit) => []) (va_A [((ad 0), .inr (10, [.ref (ad 1), .ref (ad 2), .ref (ad 3), .ref (ad 4), .ref (ad 5), .ref (ad 6), .ref (ad 7), .ref (ad 8), .ref (ad 9), .ref (ad 10), .ref (ad 11), .int 0, .int 0, .int 0])), ((ad 3), .inr (1, [.ref (ad 31), .ref (ad 32), .ref (ad 33), .int 0, .ref (ad 34), .ref (ad 35)]))] sz)) (va_A [((ad 0), .inr (10, [.ref (ad 1), .ref (ad 2), .ref (ad 3), .ref (ad 4), .ref (ad 5), .ref (ad 6), .ref (ad 7), .ref (ad 8), .ref (ad 9), .ref (ad 10), .ref (ad 11), .int 0, .int 0, .int 0])), ((ad 3), .inr (1, [.ref (ad 31), .ref (ad 32), .ref (ad 33), .int 0, .ref (ad 34), .ref (ad 35)]))] sz)) 0 0 (va_A [((ad 0), .inr (10, [.ref (ad 1), .ref (ad 2), .ref (ad 3), .ref (ad 4), .ref (ad 5), .ref (ad 6), .ref (ad 7), .ref (ad 8), .ref (ad 9), .ref (ad 10), .ref (ad 11), .int 0, .int 0, .int 0])), ((ad 3), .inr (1, [.ref (ad 31), .ref (ad 32), .ref (ad 33), .int 0, .ref (ad 34), .ref (ad 35)]))] sz) := by
  refine Met.ofW (cc := cX10_verdict) (maxL := 2) (ret := (some .int)) (by decide) rfl ?_
  intro p e s m args below meth c s₁ B hml hv
  obtain ⟨rfl, hsz, hP, hK, hD0, hN⟩ := hv
  have hx := B.exec
  have hb := B.bytes
  have hr := B.returns
  have hts := atoms_spec (ws := wsX10_verdict) B.pre
  have hown : s.vm.findClass RX10 = some m.cls := findClass_of_methodNamed B.named
  have hlocks := B.notSynchronized
  subst hsz
  have hD := hD0.self (sz := s.heap.size)
  generalize hAe : va_A [((ad 0), .inr (10, [.ref (ad 1), .ref (ad 2), .ref (ad 3), .ref (ad 4), .ref (ad 5), .ref (ad 6), .ref (ad 7), .ref (ad 8), .ref (ad 9), .ref (ad 10), .ref (ad 11), .int 0, .int 0, .int 0])), ((ad 3), .inr (1, [.ref (ad 31), .ref (ad 32), .ref (ad 33), .int 0, .ref (ad 34), .ref (ad 35)]))] s.heap.size = A at hD ⊢
  have hA : ∀ q : Nat, s.heap.size ≤ q → A q := fun q h => by rw [← hAe]; exact Or.inr h
  have hS : va_S A s.heap s.heap [] := va_S.rf
  have hP : va_P D vwCl [((ad 0), .inr (10, [.ref (ad 1), .ref (ad 2), .ref (ad 3), .ref (ad 4), .ref (ad 5), .ref (ad 6), .ref (ad 7), .ref (ad 8), .ref (ad 9), .ref (ad 10), .ref (ad 11), .int 0, .int 0, .int 0])), ((ad 3), .inr (1, [.ref (ad 31), .ref (ad 32), .ref (ad 33), .int 0, .ref (ad 34), .ref (ad 35)]))] s.heap := hP
  have hl := lv_entry ([.ref (ad 0), .int x0]) (n := 2) (Nat.le_of_ble_eq_true rfl)
  rw [lg_entry_eq]
  generalize (lg_sl ([.ref (ad 0), .int x0]) ++ List.replicate (2 - (lg_sl ([.ref (ad 0), .int x0])).length) Slot.unset).toArray = ls at hl ⊢
  have hl : lv_has ls 2 [(0, .ref (ad 0)), (1, .int x0)] := hl
  refine lv_aload_n hx hb dX10_verdict_0 rfl (lv_at hl 0 rfl) ?_
  refine lv_iload_n hx hb dX10_verdict_1 rfl (lv_at hl 1 rfl) ?_
  refine st_i (wr := []) (va_runV (C := RX10) (As := [.int x0]) (rest := []) ⟨hx, hb, hml, hown, hts⟩ (ct_X10_isCrate l D cI cY cJ cQ _ ad x0) (cwV 1 hts gX10_verdict_X10_isCrate rfl rfl rfl (by decide +kernel) ⟨Nat.le_of_ble_eq_true rfl, Nat.le_of_ble_eq_true rfl⟩) (cPreV (hP.sub [0, 1] rfl) hK (hD.sub [0, 1] (by decide) rfl) hN (ci := 10) (q0 := 0) rfl rfl) rfl rfl hl.1 rfl (lv_room (Nat.le_of_ble_eq_true rfl)) dX10_verdict_2 ⟨Nat.le_of_ble_eq_true rfl, Nat.le_of_ble_eq_true rfl⟩) hP hD hS hA [0, 1] [] rfl rfl (by decide) (by decide) (fun r3 u1 H locs hw2 hP hD hS => ?_)
  replace hP : va_P D vwCl [((ad 0), .inr (10, [.ref (ad 1), .ref (ad 2), .ref (ad 3), .ref (ad 4), .ref (ad 5), .ref (ad 6), .ref (ad 7), .ref (ad 8), .ref (ad 9), .ref (ad 10), .ref (ad 11), .int 0, .int 0, .int 0])), ((ad 3), .inr (1, [.ref (ad 31), .ref (ad 32), .ref (ad 33), .int 0, .ref (ad 34), .ref (ad 35)]))] H := hP
  replace hD : va_D A [((ad 0), .inr (10, [.ref (ad 1), .ref (ad 2), .ref (ad 3), .ref (ad 4), .ref (ad 5), .ref (ad 6), .ref (ad 7), .ref (ad 8), .ref (ad 9), .ref (ad 10), .ref (ad 11), .int 0, .int 0, .int 0])), ((ad 3), .inr (1, [.ref (ad 31), .ref (ad 32), .ref (ad 33), .int 0, .ref (ad 34), .ref (ad 35)]))] := hD
  subst hw2
  refine lv_if_ne (tgt := 11) hx hb dX10_verdict_5 (by decide) (fun c => absurd c (by decide)) (fun _ => ?_)
  refine lv_ldc hx hb hown (hts (.constant RX10 89 (-1000001)) (by decide +kernel)) dX10_verdict_8 ?_
  have hP9 := hP.sub (ws' := []) [] rfl
  have hD9 := hD.sub (ws' := []) [] (by decide) rfl
  exact W.iret (v := (-1000001)) hx hb hr (fun t ht hW => ⟨⟨(-1000001), (), rfl, rfl, by rw [ht]; exact hP9, va_K.moved hW.alike hK, hD9⟩, hS.F ht⟩) hS.2.2 dX10_verdict_10

set_option maxHeartbeats 4000000 in
set_option maxRecDepth 100000 in
theorem ct_X10_barred (l : Launch) (D : va_G) (cI cY cJ cQ : ClassId) (sz : Nat) (ad : Nat → Nat) (x0 x1 : Int32)   : Met l yX10_barred wsX10_barred ({ frames := 2, cells := 0, slots := 0, locals := 42 }) (cPre D (ty4 cI cY cJ cQ) [((ad 0), .inr (10, [.ref (ad 1), .ref (ad 2), .ref (ad 3), .ref (ad 4), .ref (ad 5), .ref (ad 6), .ref (ad 7), .ref (ad 8), .ref (ad 9), .ref (ad 10), .ref (ad 11), .int 0, .int 0, .int 0])), ((ad 3), .inr (1, [.ref (ad 31), .ref (ad 32), .ref (ad 33), .int 0, .ref (ad 34), .ref (ad 35)]))] sz [.ref (ad 0), .int x0, .int x1]) (va_Qi (fun (r : Int32) (u : Unit) => r = -1000001) (cB D (ty4 cI cY cJ cQ) (fun (u : Unit) => []) (va_A [((ad 0), .inr (10, [.ref (ad 1), .ref (ad 2), .ref (ad 3), .ref (ad 4), .ref (ad 5), .ref (ad 6), .ref (ad 7), .ref (ad 8), .ref (ad 9), .ref (ad 10), .ref (ad 11), .int 0, .int 0, .int 0])), ((ad 3), .inr (1, [.ref (ad 31), .ref (ad 32), .ref (ad 33), .int 0, .ref (ad 34), .ref (ad 35)]))] sz)) (va_A [((ad 0), .inr (10, [.ref (ad 1), .ref (ad 2), .ref (ad 3), .ref (ad 4), .ref (ad 5), .ref (ad 6), .ref (ad 7), .ref (ad 8), .ref (ad 9), .ref (ad 10), .ref (ad 11), .int 0, .int 0, .int 0])), ((ad 3), .inr (1, [.ref (ad 31), .ref (ad 32), .ref (ad 33), .int 0, .ref (ad 34), .ref (ad 35)]))] sz)) 0 0 (va_A [((ad 0), .inr (10, [.ref (ad 1), .ref (ad 2), .ref (ad 3), .ref (ad 4), .ref (ad 5), .ref (ad 6), .ref (ad 7), .ref (ad 8), .ref (ad 9), .ref (ad 10), .ref (ad 11), .int 0, .int 0, .int 0])), ((ad 3), .inr (1, [.ref (ad 31), .ref (ad 32), .ref (ad 33), .int 0, .ref (ad 34), .ref (ad 35)]))] sz) := by
  refine Met.ofW (cc := cX10_barred) (maxL := 3) (ret := (some .int)) (by decide) rfl ?_
  intro p e s m args below meth c s₁ B hml hv
  obtain ⟨rfl, hsz, hP, hK, hD0, hN⟩ := hv
  have hx := B.exec
  have hb := B.bytes
  have hr := B.returns
  have hts := atoms_spec (ws := wsX10_barred) B.pre
  have hown : s.vm.findClass RX10 = some m.cls := findClass_of_methodNamed B.named
  have hlocks := B.notSynchronized
  subst hsz
  have hD := hD0.self (sz := s.heap.size)
  generalize hAe : va_A [((ad 0), .inr (10, [.ref (ad 1), .ref (ad 2), .ref (ad 3), .ref (ad 4), .ref (ad 5), .ref (ad 6), .ref (ad 7), .ref (ad 8), .ref (ad 9), .ref (ad 10), .ref (ad 11), .int 0, .int 0, .int 0])), ((ad 3), .inr (1, [.ref (ad 31), .ref (ad 32), .ref (ad 33), .int 0, .ref (ad 34), .ref (ad 35)]))] s.heap.size = A at hD ⊢
  have hA : ∀ q : Nat, s.heap.size ≤ q → A q := fun q h => by rw [← hAe]; exact Or.inr h
  have hS : va_S A s.heap s.heap [] := va_S.rf
  have hP : va_P D vwCl [((ad 0), .inr (10, [.ref (ad 1), .ref (ad 2), .ref (ad 3), .ref (ad 4), .ref (ad 5), .ref (ad 6), .ref (ad 7), .ref (ad 8), .ref (ad 9), .ref (ad 10), .ref (ad 11), .int 0, .int 0, .int 0])), ((ad 3), .inr (1, [.ref (ad 31), .ref (ad 32), .ref (ad 33), .int 0, .ref (ad 34), .ref (ad 35)]))] s.heap := hP
  have hl := lv_entry ([.ref (ad 0), .int x0, .int x1]) (n := 3) (Nat.le_of_ble_eq_true rfl)
  rw [lg_entry_eq]
  generalize (lg_sl ([.ref (ad 0), .int x0, .int x1]) ++ List.replicate (3 - (lg_sl ([.ref (ad 0), .int x0, .int x1])).length) Slot.unset).toArray = ls at hl ⊢
  have hl : lv_has ls 3 [(0, .ref (ad 0)), (1, .int x0), (2, .int x1)] := hl
  refine lv_aload_n hx hb dX10_barred_0 rfl (lv_at hl 0 rfl) ?_
  refine lv_iload_n hx hb dX10_barred_1 rfl (lv_at hl 1 rfl) ?_
  refine st_i (wr := []) (va_runV (C := RX10) (As := [.int x0]) (rest := []) ⟨hx, hb, hml, hown, hts⟩ (ct_X10_isCrate l D cI cY cJ cQ _ ad x0) (cwV 1 hts gX10_barred_X10_isCrate rfl rfl rfl (by decide +kernel) ⟨Nat.le_of_ble_eq_true rfl, Nat.le_of_ble_eq_true rfl⟩) (cPreV (hP.sub [0, 1] rfl) hK (hD.sub [0, 1] (by decide) rfl) hN (ci := 10) (q0 := 0) rfl rfl) rfl rfl hl.1 rfl (lv_room (Nat.le_of_ble_eq_true rfl)) dX10_barred_2 ⟨Nat.le_of_ble_eq_true rfl, Nat.le_of_ble_eq_true rfl⟩) hP hD hS hA [0, 1] [] rfl rfl (by decide) (by decide) (fun r3 u1 H locs hw2 hP hD hS => ?_)
  replace hP : va_P D vwCl [((ad 0), .inr (10, [.ref (ad 1), .ref (ad 2), .ref (ad 3), .ref (ad 4), .ref (ad 5), .ref (ad 6), .ref (ad 7), .ref (ad 8), .ref (ad 9), .ref (ad 10), .ref (ad 11), .int 0, .int 0, .int 0])), ((ad 3), .inr (1, [.ref (ad 31), .ref (ad 32), .ref (ad 33), .int 0, .ref (ad 34), .ref (ad 35)]))] H := hP
  replace hD : va_D A [((ad 0), .inr (10, [.ref (ad 1), .ref (ad 2), .ref (ad 3), .ref (ad 4), .ref (ad 5), .ref (ad 6), .ref (ad 7), .ref (ad 8), .ref (ad 9), .ref (ad 10), .ref (ad 11), .int 0, .int 0, .int 0])), ((ad 3), .inr (1, [.ref (ad 31), .ref (ad 32), .ref (ad 33), .int 0, .ref (ad 34), .ref (ad 35)]))] := hD
  subst hw2
  refine lv_if_eq (tgt := 15) hx hb dX10_barred_5 (by decide) (fun _ => ?_) (fun c => absurd (by decide) c)
  refine lv_ldc hx hb hown (hts (.constant RX10 89 (-1000001)) (by decide +kernel)) dX10_barred_15 ?_
  have hP9 := hP.sub (ws' := []) [] rfl
  have hD9 := hD.sub (ws' := []) [] (by decide) rfl
  exact W.iret (v := (-1000001)) hx hb hr (fun t ht hW => ⟨⟨(-1000001), (), rfl, rfl, by rw [ht]; exact hP9, va_K.moved hW.alike hK, hD9⟩, hS.F ht⟩) hS.2.2 dX10_barred_17

set_option maxHeartbeats 4000000 in
set_option maxRecDepth 100000 in
theorem ct_X10_kind (l : Launch) (D : va_G) (cI cY cJ cQ : ClassId) (sz : Nat) (ad : Nat → Nat) (x0 : Int32)   : Met l yX10_kind wsX10_kind ({ frames := 2, cells := 0, slots := 0, locals := 42 }) (cPre D (ty4 cI cY cJ cQ) [((ad 0), .inr (10, [.ref (ad 1), .ref (ad 2), .ref (ad 3), .ref (ad 4), .ref (ad 5), .ref (ad 6), .ref (ad 7), .ref (ad 8), .ref (ad 9), .ref (ad 10), .ref (ad 11), .int 0, .int 0, .int 0])), ((ad 3), .inr (1, [.ref (ad 31), .ref (ad 32), .ref (ad 33), .int 0, .ref (ad 34), .ref (ad 35)]))] sz [.ref (ad 0), .int x0]) (va_Qi (fun (r : Int32) (u : Unit) => r = -1000001) (cB D (ty4 cI cY cJ cQ) (fun (u : Unit) => []) (va_A [((ad 0), .inr (10, [.ref (ad 1), .ref (ad 2), .ref (ad 3), .ref (ad 4), .ref (ad 5), .ref (ad 6), .ref (ad 7), .ref (ad 8), .ref (ad 9), .ref (ad 10), .ref (ad 11), .int 0, .int 0, .int 0])), ((ad 3), .inr (1, [.ref (ad 31), .ref (ad 32), .ref (ad 33), .int 0, .ref (ad 34), .ref (ad 35)]))] sz)) (va_A [((ad 0), .inr (10, [.ref (ad 1), .ref (ad 2), .ref (ad 3), .ref (ad 4), .ref (ad 5), .ref (ad 6), .ref (ad 7), .ref (ad 8), .ref (ad 9), .ref (ad 10), .ref (ad 11), .int 0, .int 0, .int 0])), ((ad 3), .inr (1, [.ref (ad 31), .ref (ad 32), .ref (ad 33), .int 0, .ref (ad 34), .ref (ad 35)]))] sz)) 0 0 (va_A [((ad 0), .inr (10, [.ref (ad 1), .ref (ad 2), .ref (ad 3), .ref (ad 4), .ref (ad 5), .ref (ad 6), .ref (ad 7), .ref (ad 8), .ref (ad 9), .ref (ad 10), .ref (ad 11), .int 0, .int 0, .int 0])), ((ad 3), .inr (1, [.ref (ad 31), .ref (ad 32), .ref (ad 33), .int 0, .ref (ad 34), .ref (ad 35)]))] sz) := by
  refine Met.ofW (cc := cX10_kind) (maxL := 2) (ret := (some .int)) (by decide) rfl ?_
  intro p e s m args below meth c s₁ B hml hv
  obtain ⟨rfl, hsz, hP, hK, hD0, hN⟩ := hv
  have hx := B.exec
  have hb := B.bytes
  have hr := B.returns
  have hts := atoms_spec (ws := wsX10_kind) B.pre
  have hown : s.vm.findClass RX10 = some m.cls := findClass_of_methodNamed B.named
  have hlocks := B.notSynchronized
  subst hsz
  have hD := hD0.self (sz := s.heap.size)
  generalize hAe : va_A [((ad 0), .inr (10, [.ref (ad 1), .ref (ad 2), .ref (ad 3), .ref (ad 4), .ref (ad 5), .ref (ad 6), .ref (ad 7), .ref (ad 8), .ref (ad 9), .ref (ad 10), .ref (ad 11), .int 0, .int 0, .int 0])), ((ad 3), .inr (1, [.ref (ad 31), .ref (ad 32), .ref (ad 33), .int 0, .ref (ad 34), .ref (ad 35)]))] s.heap.size = A at hD ⊢
  have hA : ∀ q : Nat, s.heap.size ≤ q → A q := fun q h => by rw [← hAe]; exact Or.inr h
  have hS : va_S A s.heap s.heap [] := va_S.rf
  have hP : va_P D vwCl [((ad 0), .inr (10, [.ref (ad 1), .ref (ad 2), .ref (ad 3), .ref (ad 4), .ref (ad 5), .ref (ad 6), .ref (ad 7), .ref (ad 8), .ref (ad 9), .ref (ad 10), .ref (ad 11), .int 0, .int 0, .int 0])), ((ad 3), .inr (1, [.ref (ad 31), .ref (ad 32), .ref (ad 33), .int 0, .ref (ad 34), .ref (ad 35)]))] s.heap := hP
  have hl := lv_entry ([.ref (ad 0), .int x0]) (n := 2) (Nat.le_of_ble_eq_true rfl)
  rw [lg_entry_eq]
  generalize (lg_sl ([.ref (ad 0), .int x0]) ++ List.replicate (2 - (lg_sl ([.ref (ad 0), .int x0])).length) Slot.unset).toArray = ls at hl ⊢
  have hl : lv_has ls 2 [(0, .ref (ad 0)), (1, .int x0)] := hl
  refine lv_aload_n hx hb dX10_kind_0 rfl (lv_at hl 0 rfl) ?_
  refine lv_iload_n hx hb dX10_kind_1 rfl (lv_at hl 1 rfl) ?_
  refine st_i (wr := []) (va_runV (C := RX10) (As := [.int x0]) (rest := []) ⟨hx, hb, hml, hown, hts⟩ (ct_X10_isCrate l D cI cY cJ cQ _ ad x0) (cwV 1 hts gX10_kind_X10_isCrate rfl rfl rfl (by decide +kernel) ⟨Nat.le_of_ble_eq_true rfl, Nat.le_of_ble_eq_true rfl⟩) (cPreV (hP.sub [0, 1] rfl) hK (hD.sub [0, 1] (by decide) rfl) hN (ci := 10) (q0 := 0) rfl rfl) rfl rfl hl.1 rfl (lv_room (Nat.le_of_ble_eq_true rfl)) dX10_kind_2 ⟨Nat.le_of_ble_eq_true rfl, Nat.le_of_ble_eq_true rfl⟩) hP hD hS hA [0, 1] [] rfl rfl (by decide) (by decide) (fun r3 u1 H locs hw2 hP hD hS => ?_)
  replace hP : va_P D vwCl [((ad 0), .inr (10, [.ref (ad 1), .ref (ad 2), .ref (ad 3), .ref (ad 4), .ref (ad 5), .ref (ad 6), .ref (ad 7), .ref (ad 8), .ref (ad 9), .ref (ad 10), .ref (ad 11), .int 0, .int 0, .int 0])), ((ad 3), .inr (1, [.ref (ad 31), .ref (ad 32), .ref (ad 33), .int 0, .ref (ad 34), .ref (ad 35)]))] H := hP
  replace hD : va_D A [((ad 0), .inr (10, [.ref (ad 1), .ref (ad 2), .ref (ad 3), .ref (ad 4), .ref (ad 5), .ref (ad 6), .ref (ad 7), .ref (ad 8), .ref (ad 9), .ref (ad 10), .ref (ad 11), .int 0, .int 0, .int 0])), ((ad 3), .inr (1, [.ref (ad 31), .ref (ad 32), .ref (ad 33), .int 0, .ref (ad 34), .ref (ad 35)]))] := hD
  subst hw2
  refine lv_if_eq (tgt := 16) hx hb dX10_kind_5 (by decide) (fun _ => ?_) (fun c => absurd (by decide) c)
  refine lv_ldc hx hb hown (hts (.constant RX10 89 (-1000001)) (by decide +kernel)) dX10_kind_16 ?_
  have hP9 := hP.sub (ws' := []) [] rfl
  have hD9 := hD.sub (ws' := []) [] (by decide) rfl
  exact W.iret (v := (-1000001)) hx hb hr (fun t ht hW => ⟨⟨(-1000001), (), rfl, rfl, by rw [ht]; exact hP9, va_K.moved hW.alike hK, hD9⟩, hS.F ht⟩) hS.2.2 dX10_kind_18

set_option maxHeartbeats 4000000 in
set_option maxRecDepth 100000 in
theorem ct_X10_as (l : Launch) (D : va_G) (cI cY cJ cQ : ClassId) (sz : Nat) (ad : Nat → Nat) (x0 x1 : Int32)   : Met l yX10_as wsX10_as ({ frames := 2, cells := 0, slots := 0, locals := 42 }) (cPre D (ty4 cI cY cJ cQ) [((ad 0), .inr (10, [.ref (ad 1), .ref (ad 2), .ref (ad 3), .ref (ad 4), .ref (ad 5), .ref (ad 6), .ref (ad 7), .ref (ad 8), .ref (ad 9), .ref (ad 10), .ref (ad 11), .int 0, .int 0, .int 0])), ((ad 3), .inr (1, [.ref (ad 31), .ref (ad 32), .ref (ad 33), .int 0, .ref (ad 34), .ref (ad 35)]))] sz [.ref (ad 0), .int x0, .int x1]) (va_Qi (fun (r : Int32) (u : Unit) => r = -1000001) (cB D (ty4 cI cY cJ cQ) (fun (u : Unit) => []) (va_A [((ad 0), .inr (10, [.ref (ad 1), .ref (ad 2), .ref (ad 3), .ref (ad 4), .ref (ad 5), .ref (ad 6), .ref (ad 7), .ref (ad 8), .ref (ad 9), .ref (ad 10), .ref (ad 11), .int 0, .int 0, .int 0])), ((ad 3), .inr (1, [.ref (ad 31), .ref (ad 32), .ref (ad 33), .int 0, .ref (ad 34), .ref (ad 35)]))] sz)) (va_A [((ad 0), .inr (10, [.ref (ad 1), .ref (ad 2), .ref (ad 3), .ref (ad 4), .ref (ad 5), .ref (ad 6), .ref (ad 7), .ref (ad 8), .ref (ad 9), .ref (ad 10), .ref (ad 11), .int 0, .int 0, .int 0])), ((ad 3), .inr (1, [.ref (ad 31), .ref (ad 32), .ref (ad 33), .int 0, .ref (ad 34), .ref (ad 35)]))] sz)) 0 0 (va_A [((ad 0), .inr (10, [.ref (ad 1), .ref (ad 2), .ref (ad 3), .ref (ad 4), .ref (ad 5), .ref (ad 6), .ref (ad 7), .ref (ad 8), .ref (ad 9), .ref (ad 10), .ref (ad 11), .int 0, .int 0, .int 0])), ((ad 3), .inr (1, [.ref (ad 31), .ref (ad 32), .ref (ad 33), .int 0, .ref (ad 34), .ref (ad 35)]))] sz) := by
  refine Met.ofW (cc := cX10_as) (maxL := 3) (ret := (some .int)) (by decide) rfl ?_
  intro p e s m args below meth c s₁ B hml hv
  obtain ⟨rfl, hsz, hP, hK, hD0, hN⟩ := hv
  have hx := B.exec
  have hb := B.bytes
  have hr := B.returns
  have hts := atoms_spec (ws := wsX10_as) B.pre
  have hown : s.vm.findClass RX10 = some m.cls := findClass_of_methodNamed B.named
  have hlocks := B.notSynchronized
  subst hsz
  have hD := hD0.self (sz := s.heap.size)
  generalize hAe : va_A [((ad 0), .inr (10, [.ref (ad 1), .ref (ad 2), .ref (ad 3), .ref (ad 4), .ref (ad 5), .ref (ad 6), .ref (ad 7), .ref (ad 8), .ref (ad 9), .ref (ad 10), .ref (ad 11), .int 0, .int 0, .int 0])), ((ad 3), .inr (1, [.ref (ad 31), .ref (ad 32), .ref (ad 33), .int 0, .ref (ad 34), .ref (ad 35)]))] s.heap.size = A at hD ⊢
  have hA : ∀ q : Nat, s.heap.size ≤ q → A q := fun q h => by rw [← hAe]; exact Or.inr h
  have hS : va_S A s.heap s.heap [] := va_S.rf
  have hP : va_P D vwCl [((ad 0), .inr (10, [.ref (ad 1), .ref (ad 2), .ref (ad 3), .ref (ad 4), .ref (ad 5), .ref (ad 6), .ref (ad 7), .ref (ad 8), .ref (ad 9), .ref (ad 10), .ref (ad 11), .int 0, .int 0, .int 0])), ((ad 3), .inr (1, [.ref (ad 31), .ref (ad 32), .ref (ad 33), .int 0, .ref (ad 34), .ref (ad 35)]))] s.heap := hP
  have hl := lv_entry ([.ref (ad 0), .int x0, .int x1]) (n := 3) (Nat.le_of_ble_eq_true rfl)
  rw [lg_entry_eq]
  generalize (lg_sl ([.ref (ad 0), .int x0, .int x1]) ++ List.replicate (3 - (lg_sl ([.ref (ad 0), .int x0, .int x1])).length) Slot.unset).toArray = ls at hl ⊢
  have hl : lv_has ls 3 [(0, .ref (ad 0)), (1, .int x0), (2, .int x1)] := hl
  refine lv_aload_n hx hb dX10_as_0 rfl (lv_at hl 0 rfl) ?_
  refine lv_iload_n hx hb dX10_as_1 rfl (lv_at hl 1 rfl) ?_
  refine st_i (wr := []) (va_runV (C := RX10) (As := [.int x0]) (rest := []) ⟨hx, hb, hml, hown, hts⟩ (ct_X10_isCrate l D cI cY cJ cQ _ ad x0) (cwV 1 hts gX10_as_X10_isCrate rfl rfl rfl (by decide +kernel) ⟨Nat.le_of_ble_eq_true rfl, Nat.le_of_ble_eq_true rfl⟩) (cPreV (hP.sub [0, 1] rfl) hK (hD.sub [0, 1] (by decide) rfl) hN (ci := 10) (q0 := 0) rfl rfl) rfl rfl hl.1 rfl (lv_room (Nat.le_of_ble_eq_true rfl)) dX10_as_2 ⟨Nat.le_of_ble_eq_true rfl, Nat.le_of_ble_eq_true rfl⟩) hP hD hS hA [0, 1] [] rfl rfl (by decide) (by decide) (fun r3 u1 H locs hw2 hP hD hS => ?_)
  replace hP : va_P D vwCl [((ad 0), .inr (10, [.ref (ad 1), .ref (ad 2), .ref (ad 3), .ref (ad 4), .ref (ad 5), .ref (ad 6), .ref (ad 7), .ref (ad 8), .ref (ad 9), .ref (ad 10), .ref (ad 11), .int 0, .int 0, .int 0])), ((ad 3), .inr (1, [.ref (ad 31), .ref (ad 32), .ref (ad 33), .int 0, .ref (ad 34), .ref (ad 35)]))] H := hP
  replace hD : va_D A [((ad 0), .inr (10, [.ref (ad 1), .ref (ad 2), .ref (ad 3), .ref (ad 4), .ref (ad 5), .ref (ad 6), .ref (ad 7), .ref (ad 8), .ref (ad 9), .ref (ad 10), .ref (ad 11), .int 0, .int 0, .int 0])), ((ad 3), .inr (1, [.ref (ad 31), .ref (ad 32), .ref (ad 33), .int 0, .ref (ad 34), .ref (ad 35)]))] := hD
  subst hw2
  refine lv_if_eq (tgt := 16) hx hb dX10_as_5 (by decide) (fun _ => ?_) (fun c => absurd (by decide) c)
  refine lv_ldc hx hb hown (hts (.constant RX10 89 (-1000001)) (by decide +kernel)) dX10_as_16 ?_
  have hP9 := hP.sub (ws' := []) [] rfl
  have hD9 := hD.sub (ws' := []) [] (by decide) rfl
  exact W.iret (v := (-1000001)) hx hb hr (fun t ht hW => ⟨⟨(-1000001), (), rfl, rfl, by rw [ht]; exact hP9, va_K.moved hW.alike hK, hD9⟩, hS.F ht⟩) hS.2.2 dX10_as_18

set_option maxHeartbeats 4000000 in
set_option maxRecDepth 100000 in
theorem ct_X10_ask (l : Launch) (D : va_G) (cI cY cJ cQ : ClassId) (sz : Nat) (ad : Nat → Nat) (x0 x1 : Int32)   : Met l yX10_ask wsX10_ask ({ frames := 2, cells := 0, slots := 0, locals := 42 }) (cPre D (ty4 cI cY cJ cQ) [((ad 0), .inr (10, [.ref (ad 1), .ref (ad 2), .ref (ad 3), .ref (ad 4), .ref (ad 5), .ref (ad 6), .ref (ad 7), .ref (ad 8), .ref (ad 9), .ref (ad 10), .ref (ad 11), .int 0, .int 0, .int 0])), ((ad 3), .inr (1, [.ref (ad 31), .ref (ad 32), .ref (ad 33), .int 0, .ref (ad 34), .ref (ad 35)]))] sz [.ref (ad 0), .int x0, .int x1]) (va_Qi (fun (r : Int32) (u : Unit) => r = -1000001) (cB D (ty4 cI cY cJ cQ) (fun (u : Unit) => []) (va_A [((ad 0), .inr (10, [.ref (ad 1), .ref (ad 2), .ref (ad 3), .ref (ad 4), .ref (ad 5), .ref (ad 6), .ref (ad 7), .ref (ad 8), .ref (ad 9), .ref (ad 10), .ref (ad 11), .int 0, .int 0, .int 0])), ((ad 3), .inr (1, [.ref (ad 31), .ref (ad 32), .ref (ad 33), .int 0, .ref (ad 34), .ref (ad 35)]))] sz)) (va_A [((ad 0), .inr (10, [.ref (ad 1), .ref (ad 2), .ref (ad 3), .ref (ad 4), .ref (ad 5), .ref (ad 6), .ref (ad 7), .ref (ad 8), .ref (ad 9), .ref (ad 10), .ref (ad 11), .int 0, .int 0, .int 0])), ((ad 3), .inr (1, [.ref (ad 31), .ref (ad 32), .ref (ad 33), .int 0, .ref (ad 34), .ref (ad 35)]))] sz)) 0 0 (va_A [((ad 0), .inr (10, [.ref (ad 1), .ref (ad 2), .ref (ad 3), .ref (ad 4), .ref (ad 5), .ref (ad 6), .ref (ad 7), .ref (ad 8), .ref (ad 9), .ref (ad 10), .ref (ad 11), .int 0, .int 0, .int 0])), ((ad 3), .inr (1, [.ref (ad 31), .ref (ad 32), .ref (ad 33), .int 0, .ref (ad 34), .ref (ad 35)]))] sz) := by
  refine Met.ofW (cc := cX10_ask) (maxL := 4) (ret := (some .int)) (by decide) rfl ?_
  intro p e s m args below meth c s₁ B hml hv
  obtain ⟨rfl, hsz, hP, hK, hD0, hN⟩ := hv
  have hx := B.exec
  have hb := B.bytes
  have hr := B.returns
  have hts := atoms_spec (ws := wsX10_ask) B.pre
  have hown : s.vm.findClass RX10 = some m.cls := findClass_of_methodNamed B.named
  have hlocks := B.notSynchronized
  subst hsz
  have hD := hD0.self (sz := s.heap.size)
  generalize hAe : va_A [((ad 0), .inr (10, [.ref (ad 1), .ref (ad 2), .ref (ad 3), .ref (ad 4), .ref (ad 5), .ref (ad 6), .ref (ad 7), .ref (ad 8), .ref (ad 9), .ref (ad 10), .ref (ad 11), .int 0, .int 0, .int 0])), ((ad 3), .inr (1, [.ref (ad 31), .ref (ad 32), .ref (ad 33), .int 0, .ref (ad 34), .ref (ad 35)]))] s.heap.size = A at hD ⊢
  have hA : ∀ q : Nat, s.heap.size ≤ q → A q := fun q h => by rw [← hAe]; exact Or.inr h
  have hS : va_S A s.heap s.heap [] := va_S.rf
  have hP : va_P D vwCl [((ad 0), .inr (10, [.ref (ad 1), .ref (ad 2), .ref (ad 3), .ref (ad 4), .ref (ad 5), .ref (ad 6), .ref (ad 7), .ref (ad 8), .ref (ad 9), .ref (ad 10), .ref (ad 11), .int 0, .int 0, .int 0])), ((ad 3), .inr (1, [.ref (ad 31), .ref (ad 32), .ref (ad 33), .int 0, .ref (ad 34), .ref (ad 35)]))] s.heap := hP
  have hl := lv_entry ([.ref (ad 0), .int x0, .int x1]) (n := 4) (Nat.le_of_ble_eq_true rfl)
  rw [lg_entry_eq]
  generalize (lg_sl ([.ref (ad 0), .int x0, .int x1]) ++ List.replicate (4 - (lg_sl ([.ref (ad 0), .int x0, .int x1])).length) Slot.unset).toArray = ls at hl ⊢
  have hl : lv_has ls 4 [(0, .ref (ad 0)), (1, .int x0), (2, .int x1)] := hl
  refine lv_aload_n hx hb dX10_ask_0 rfl (lv_at hl 0 rfl) ?_
  refine lv_iload_n hx hb dX10_ask_1 rfl (lv_at hl 1 rfl) ?_
  refine st_i (wr := []) (va_runV (C := RX10) (As := [.int x0]) (rest := []) ⟨hx, hb, hml, hown, hts⟩ (ct_X10_isCrate l D cI cY cJ cQ _ ad x0) (cwV 1 hts gX10_ask_X10_isCrate rfl rfl rfl (by decide +kernel) ⟨Nat.le_of_ble_eq_true rfl, Nat.le_of_ble_eq_true rfl⟩) (cPreV (hP.sub [0, 1] rfl) hK (hD.sub [0, 1] (by decide) rfl) hN (ci := 10) (q0 := 0) rfl rfl) rfl rfl hl.1 rfl (lv_room (Nat.le_of_ble_eq_true rfl)) dX10_ask_2 ⟨Nat.le_of_ble_eq_true rfl, Nat.le_of_ble_eq_true rfl⟩) hP hD hS hA [0, 1] [] rfl rfl (by decide) (by decide) (fun r3 u1 H locs hw2 hP hD hS => ?_)
  replace hP : va_P D vwCl [((ad 0), .inr (10, [.ref (ad 1), .ref (ad 2), .ref (ad 3), .ref (ad 4), .ref (ad 5), .ref (ad 6), .ref (ad 7), .ref (ad 8), .ref (ad 9), .ref (ad 10), .ref (ad 11), .int 0, .int 0, .int 0])), ((ad 3), .inr (1, [.ref (ad 31), .ref (ad 32), .ref (ad 33), .int 0, .ref (ad 34), .ref (ad 35)]))] H := hP
  replace hD : va_D A [((ad 0), .inr (10, [.ref (ad 1), .ref (ad 2), .ref (ad 3), .ref (ad 4), .ref (ad 5), .ref (ad 6), .ref (ad 7), .ref (ad 8), .ref (ad 9), .ref (ad 10), .ref (ad 11), .int 0, .int 0, .int 0])), ((ad 3), .inr (1, [.ref (ad 31), .ref (ad 32), .ref (ad 33), .int 0, .ref (ad 34), .ref (ad 35)]))] := hD
  subst hw2
  refine lv_if_eq (tgt := 16) hx hb dX10_ask_5 (by decide) (fun _ => ?_) (fun c => absurd (by decide) c)
  refine lv_ldc hx hb hown (hts (.constant RX10 89 (-1000001)) (by decide +kernel)) dX10_ask_16 ?_
  have hP9 := hP.sub (ws' := []) [] rfl
  have hD9 := hD.sub (ws' := []) [] (by decide) rfl
  exact W.iret (v := (-1000001)) hx hb hr (fun t ht hW => ⟨⟨(-1000001), (), rfl, rfl, by rw [ht]; exact hP9, va_K.moved hW.alike hK, hD9⟩, hS.F ht⟩) hS.2.2 dX10_ask_18

set_option maxHeartbeats 4000000 in
set_option maxRecDepth 100000 in
theorem ct_X10_status (l : Launch) (D : va_G) (cI cY cJ cQ : ClassId) (sz : Nat) (ad : Nat → Nat)   : Met l yX10_status wsX10_status ({ frames := 0, cells := 0, slots := 0, locals := 0 }) (cPre D (ty4 cI cY cJ cQ) [((ad 0), .inr (10, [.ref (ad 1), .ref (ad 2), .ref (ad 3), .ref (ad 4), .ref (ad 5), .ref (ad 6), .ref (ad 7), .ref (ad 8), .ref (ad 9), .ref (ad 10), .ref (ad 11), .int 0, .int 0, .int 0]))] sz [.ref (ad 0)]) (va_Qi (fun (r : Int32) (u : Unit) => r = 0) (cB D (ty4 cI cY cJ cQ) (fun (u : Unit) => []) (va_A [((ad 0), .inr (10, [.ref (ad 1), .ref (ad 2), .ref (ad 3), .ref (ad 4), .ref (ad 5), .ref (ad 6), .ref (ad 7), .ref (ad 8), .ref (ad 9), .ref (ad 10), .ref (ad 11), .int 0, .int 0, .int 0]))] sz)) (va_A [((ad 0), .inr (10, [.ref (ad 1), .ref (ad 2), .ref (ad 3), .ref (ad 4), .ref (ad 5), .ref (ad 6), .ref (ad 7), .ref (ad 8), .ref (ad 9), .ref (ad 10), .ref (ad 11), .int 0, .int 0, .int 0]))] sz)) 0 0 (va_A [((ad 0), .inr (10, [.ref (ad 1), .ref (ad 2), .ref (ad 3), .ref (ad 4), .ref (ad 5), .ref (ad 6), .ref (ad 7), .ref (ad 8), .ref (ad 9), .ref (ad 10), .ref (ad 11), .int 0, .int 0, .int 0]))] sz) := by
  refine Met.ofW (cc := cX10_status) (maxL := 1) (ret := (some .int)) (by decide) rfl ?_
  intro p e s m args below meth c s₁ B hml hv
  obtain ⟨rfl, hsz, hP, hK, hD0, hN⟩ := hv
  have hx := B.exec
  have hb := B.bytes
  have hr := B.returns
  have hts := atoms_spec (ws := wsX10_status) B.pre
  have hown : s.vm.findClass RX10 = some m.cls := findClass_of_methodNamed B.named
  have hlocks := B.notSynchronized
  subst hsz
  have hD := hD0.self (sz := s.heap.size)
  generalize hAe : va_A [((ad 0), .inr (10, [.ref (ad 1), .ref (ad 2), .ref (ad 3), .ref (ad 4), .ref (ad 5), .ref (ad 6), .ref (ad 7), .ref (ad 8), .ref (ad 9), .ref (ad 10), .ref (ad 11), .int 0, .int 0, .int 0]))] s.heap.size = A at hD ⊢
  have hA : ∀ q : Nat, s.heap.size ≤ q → A q := fun q h => by rw [← hAe]; exact Or.inr h
  have hS : va_S A s.heap s.heap [] := va_S.rf
  have hP : va_P D vwCl [((ad 0), .inr (10, [.ref (ad 1), .ref (ad 2), .ref (ad 3), .ref (ad 4), .ref (ad 5), .ref (ad 6), .ref (ad 7), .ref (ad 8), .ref (ad 9), .ref (ad 10), .ref (ad 11), .int 0, .int 0, .int 0]))] s.heap := hP
  have hl := lv_entry ([.ref (ad 0)]) (n := 1) (Nat.le_of_ble_eq_true rfl)
  rw [lg_entry_eq]
  generalize (lg_sl ([.ref (ad 0)]) ++ List.replicate (1 - (lg_sl ([.ref (ad 0)])).length) Slot.unset).toArray = ls at hl ⊢
  have hl : lv_has ls 1 [(0, .ref (ad 0))] := hl
  refine lv_aload_n hx hb dX10_status_0 rfl (lv_at hl 0 rfl) ?_
  refine va_get (D := D) (ci := 10) (v := .int 0) (C := RX10) (T := TX10) (N := 14) hx hb hts (by decide +kernel) hown hK hP 0 rfl rfl 13 (by decide) (hts (.fieldLink RX10 322 "PortRooms" "latestFinding" "I") (by decide +kernel)) (fun _ h9 => h9) rfl dX10_status_1 ?_
  have hP9 := hP.sub (ws' := []) [] rfl
  have hD9 := hD.sub (ws' := []) [] (by decide) rfl
  exact W.iret (v := 0) hx hb hr (fun t ht hW => ⟨⟨0, (), rfl, rfl, by rw [ht]; exact hP9, va_K.moved hW.alike hK, hD9⟩, hS.F ht⟩) hS.2.2 dX10_status_4

set_option maxHeartbeats 4000000 in
set_option maxRecDepth 100000 in
theorem ct_X10_day (l : Launch) (D : va_G) (cI cY cJ cQ : ClassId) (sz : Nat) (ad : Nat → Nat) (d : Int32)   : Met l yX10_day wsX10_day ({ frames := 2, cells := 0, slots := 0, locals := 41 }) (cPre D (ty4 cI cY cJ cQ) [((ad 0), .inr (10, [.ref (ad 1), .ref (ad 2), .ref (ad 3), .ref (ad 4), .ref (ad 5), .ref (ad 6), .ref (ad 7), .ref (ad 8), .ref (ad 9), .ref (ad 10), .ref (ad 11), .int 0, .int 0, .int 0]))] sz [.ref (ad 0), .int d]) (va_Qi (fun (r : Int32) (u : Unit) => r = an_day d) (cB D (ty4 cI cY cJ cQ) (fun (u : Unit) => []) (va_A [((ad 0), .inr (10, [.ref (ad 1), .ref (ad 2), .ref (ad 3), .ref (ad 4), .ref (ad 5), .ref (ad 6), .ref (ad 7), .ref (ad 8), .ref (ad 9), .ref (ad 10), .ref (ad 11), .int 0, .int 0, .int 0]))] sz)) (va_A [((ad 0), .inr (10, [.ref (ad 1), .ref (ad 2), .ref (ad 3), .ref (ad 4), .ref (ad 5), .ref (ad 6), .ref (ad 7), .ref (ad 8), .ref (ad 9), .ref (ad 10), .ref (ad 11), .int 0, .int 0, .int 0]))] sz)) 0 0 (va_A [((ad 0), .inr (10, [.ref (ad 1), .ref (ad 2), .ref (ad 3), .ref (ad 4), .ref (ad 5), .ref (ad 6), .ref (ad 7), .ref (ad 8), .ref (ad 9), .ref (ad 10), .ref (ad 11), .int 0, .int 0, .int 0]))] sz) := by
  refine Met.ofW (cc := cX10_day) (maxL := 3) (ret := (some .int)) (by decide) rfl ?_
  intro p e s m args below meth c s₁ B hml hv
  obtain ⟨rfl, hsz, hP, hK, hD0, hN⟩ := hv
  have hx := B.exec
  have hb := B.bytes
  have hr := B.returns
  have hts := atoms_spec (ws := wsX10_day) B.pre
  have hown : s.vm.findClass RX10 = some m.cls := findClass_of_methodNamed B.named
  have hlocks := B.notSynchronized
  subst hsz
  have hD := hD0.self (sz := s.heap.size)
  generalize hAe : va_A [((ad 0), .inr (10, [.ref (ad 1), .ref (ad 2), .ref (ad 3), .ref (ad 4), .ref (ad 5), .ref (ad 6), .ref (ad 7), .ref (ad 8), .ref (ad 9), .ref (ad 10), .ref (ad 11), .int 0, .int 0, .int 0]))] s.heap.size = A at hD ⊢
  have hA : ∀ q : Nat, s.heap.size ≤ q → A q := fun q h => by rw [← hAe]; exact Or.inr h
  have hS : va_S A s.heap s.heap [] := va_S.rf
  have hP : va_P D vwCl [((ad 0), .inr (10, [.ref (ad 1), .ref (ad 2), .ref (ad 3), .ref (ad 4), .ref (ad 5), .ref (ad 6), .ref (ad 7), .ref (ad 8), .ref (ad 9), .ref (ad 10), .ref (ad 11), .int 0, .int 0, .int 0]))] s.heap := hP
  have hl := lv_entry ([.ref (ad 0), .int d]) (n := 3) (Nat.le_of_ble_eq_true rfl)
  rw [lg_entry_eq]
  generalize (lg_sl ([.ref (ad 0), .int d]) ++ List.replicate (3 - (lg_sl ([.ref (ad 0), .int d])).length) Slot.unset).toArray = ls at hl ⊢
  have hl : lv_has ls 3 [(0, .ref (ad 0)), (1, .int d)] := hl
  have k0 : (0 : Int32).toInt = 0 := by decide
  refine lv_iload_n hx hb dX10_day_0 rfl (lv_at hl 1 rfl) ?_
  refine st_i (wr := [((ad 0), .inr (10, [.ref (ad 1), .ref (ad 2), .ref (ad 3), .ref (ad 4), .ref (ad 5), .ref (ad 6), .ref (ad 7), .ref (ad 8), .ref (ad 9), .ref (ad 10), .ref (ad 11), .int 0, .int 0, .int 0]))]) (va_runS (As := [.int d]) (rest := []) ⟨hx, hb, hml, hown, hts⟩ (ct_X10_isDay l D cI cY cJ cQ _ d) (va_cwS 1 hts gX10_day_X10_isDay rfl rfl rfl (by decide +kernel) ⟨Nat.le_of_ble_eq_true rfl, Nat.le_of_ble_eq_true rfl⟩) (cPreS (hP.sub [] rfl) hK (hD.sub [] (by decide) rfl) hN) rfl rfl hl.1 rfl (lv_room (Nat.le_of_ble_eq_true rfl)) dX10_day_1 ⟨Nat.le_of_ble_eq_true rfl, Nat.le_of_ble_eq_true rfl⟩) hP hD hS hA [] [0] rfl rfl (by decide) (by decide) (fun r3 u1 H locs hw2 hP hD hS => ?_)
  replace hP : va_P D vwCl [((ad 0), .inr (10, [.ref (ad 1), .ref (ad 2), .ref (ad 3), .ref (ad 4), .ref (ad 5), .ref (ad 6), .ref (ad 7), .ref (ad 8), .ref (ad 9), .ref (ad 10), .ref (ad 11), .int 0, .int 0, .int 0]))] H := hP
  replace hD : va_D A [((ad 0), .inr (10, [.ref (ad 1), .ref (ad 2), .ref (ad 3), .ref (ad 4), .ref (ad 5), .ref (ad 6), .ref (ad 7), .ref (ad 8), .ref (ad 9), .ref (ad 10), .ref (ad 11), .int 0, .int 0, .int 0]))] := hD
  refine lv_if_ne (tgt := 10) hx hb dX10_day_4 (by decide) (fun c4 => ?_) (fun c4 => ?_)
  · skip
    have f5 := bo_t hw2 c4
    refine lv_aload_n hx hb dX10_day_10 rfl (lv_at hl 0 rfl) ?_
    refine va_get (D := D) (ci := 10) (v := .int 0) (C := RX10) (T := TX10) (N := 14) hx hb hts (by decide +kernel) hown hK hP 0 rfl rfl 12 (by decide) (hts (.fieldLink RX10 298 "PortRooms" "today" "I") (by decide +kernel)) (fun _ h9 => h9) rfl dX10_day_11 ?_
    refine lv_istore_n (lv' := [(2, .int 0), (0, .ref (ad 0)), (1, .int d)]) hx hb dX10_day_14 rfl hl (by decide) rfl (fun ls hl => ?_)
    refine lv_aload_n hx hb dX10_day_15 rfl (lv_at hl 1 rfl) ?_
    refine lv_iload_n hx hb dX10_day_16 rfl (lv_at hl 2 rfl) ?_
    refine va_put (D := D) (ci := 10) (v := .int d) (ty := .int) (C := RX10) (T := TX10) (N := 14) hx hb hts (by decide +kernel) tyX10 tyX10_ok nmX10 hown hK hP hD hS 0 rfl rfl 12 (by decide) (hts (.fieldLink RX10 298 "PortRooms" "today" "I") (by decide +kernel)) (fun _ h9 => h9) rfl (by decide +kernel) rfl rfl (Nat.le_of_ble_eq_true rfl) dX10_day_17 (fun H locs hP hD hS => ?_)
    replace hP : va_P D vwCl [((ad 0), .inr (10, [.ref (ad 1), .ref (ad 2), .ref (ad 3), .ref (ad 4), .ref (ad 5), .ref (ad 6), .ref (ad 7), .ref (ad 8), .ref (ad 9), .ref (ad 10), .ref (ad 11), .int 0, .int d, .int 0]))] H := hP
    replace hD : va_D A [((ad 0), .inr (10, [.ref (ad 1), .ref (ad 2), .ref (ad 3), .ref (ad 4), .ref (ad 5), .ref (ad 6), .ref (ad 7), .ref (ad 8), .ref (ad 9), .ref (ad 10), .ref (ad 11), .int 0, .int d, .int 0]))] := hD
    refine lv_iload_n hx hb dX10_day_20 rfl (lv_at hl 0 rfl) ?_
    have hP9 := hP.sub (ws' := []) [] rfl
    have hD9 := hD.sub (ws' := []) [] (by decide) rfl
    exact W.iret (v := 0) hx hb hr (fun t ht hW => ⟨⟨0, (), rfl, (by unfold an_day; (repeat' split) <;> first | rfl | (exfalso; omega)), by rw [ht]; exact hP9, va_K.moved hW.alike hK, hD9⟩, hS.F ht⟩) hS.2.2 dX10_day_21
  · skip
    have f6 := bo_f hw2 c4
    refine lv_ldc hx hb hown (hts (.constant RX10 89 (-1000001)) (by decide +kernel)) dX10_day_7 ?_
    have hP9 := hP.sub (ws' := []) [] rfl
    have hD9 := hD.sub (ws' := []) [] (by decide) rfl
    exact W.iret (v := (-1000001)) hx hb hr (fun t ht hW => ⟨⟨(-1000001), (), rfl, (by unfold an_day; (repeat' split) <;> first | rfl | (exfalso; omega)), by rw [ht]; exact hP9, va_K.moved hW.alike hK, hD9⟩, hS.F ht⟩) hS.2.2 dX10_day_9

set_option maxHeartbeats 4000000 in
set_option maxRecDepth 100000 in
theorem ct_X10_fault (l : Launch) (D : va_G) (cI cY cJ cQ : ClassId) (sz : Nat) (ad : Nat → Nat)   : Met l yX10_fault wsX10_fault ({ frames := 0, cells := 0, slots := 0, locals := 0 }) (cPre D (ty4 cI cY cJ cQ) [((ad 0), .inr (10, [.ref (ad 1), .ref (ad 2), .ref (ad 3), .ref (ad 4), .ref (ad 5), .ref (ad 6), .ref (ad 7), .ref (ad 8), .ref (ad 9), .ref (ad 10), .ref (ad 11), .int 0, .int 0, .int 0])), ((ad 6), .inr (2, [.ref (ad 47), .int 0, .int 0, .ref (ad 48), .ref (ad 49), .ref (ad 50), .int 0, .ref (ad 51), .ref (ad 52), .ref (ad 53), .int 0, .int 0, .int 0, .int 0, .int 0]))] sz [.ref (ad 0)]) (va_Qi (fun (r : Int32) (u : Unit) => r = 0) (cB D (ty4 cI cY cJ cQ) (fun (u : Unit) => []) (va_A [((ad 0), .inr (10, [.ref (ad 1), .ref (ad 2), .ref (ad 3), .ref (ad 4), .ref (ad 5), .ref (ad 6), .ref (ad 7), .ref (ad 8), .ref (ad 9), .ref (ad 10), .ref (ad 11), .int 0, .int 0, .int 0])), ((ad 6), .inr (2, [.ref (ad 47), .int 0, .int 0, .ref (ad 48), .ref (ad 49), .ref (ad 50), .int 0, .ref (ad 51), .ref (ad 52), .ref (ad 53), .int 0, .int 0, .int 0, .int 0, .int 0]))] sz)) (va_A [((ad 0), .inr (10, [.ref (ad 1), .ref (ad 2), .ref (ad 3), .ref (ad 4), .ref (ad 5), .ref (ad 6), .ref (ad 7), .ref (ad 8), .ref (ad 9), .ref (ad 10), .ref (ad 11), .int 0, .int 0, .int 0])), ((ad 6), .inr (2, [.ref (ad 47), .int 0, .int 0, .ref (ad 48), .ref (ad 49), .ref (ad 50), .int 0, .ref (ad 51), .ref (ad 52), .ref (ad 53), .int 0, .int 0, .int 0, .int 0, .int 0]))] sz)) 0 0 (va_A [((ad 0), .inr (10, [.ref (ad 1), .ref (ad 2), .ref (ad 3), .ref (ad 4), .ref (ad 5), .ref (ad 6), .ref (ad 7), .ref (ad 8), .ref (ad 9), .ref (ad 10), .ref (ad 11), .int 0, .int 0, .int 0])), ((ad 6), .inr (2, [.ref (ad 47), .int 0, .int 0, .ref (ad 48), .ref (ad 49), .ref (ad 50), .int 0, .ref (ad 51), .ref (ad 52), .ref (ad 53), .int 0, .int 0, .int 0, .int 0, .int 0]))] sz) := by
  refine Met.ofW (cc := cX10_fault) (maxL := 1) (ret := (some .int)) (by decide) rfl ?_
  intro p e s m args below meth c s₁ B hml hv
  obtain ⟨rfl, hsz, hP, hK, hD0, hN⟩ := hv
  have hx := B.exec
  have hb := B.bytes
  have hr := B.returns
  have hts := atoms_spec (ws := wsX10_fault) B.pre
  have hown : s.vm.findClass RX10 = some m.cls := findClass_of_methodNamed B.named
  have hlocks := B.notSynchronized
  subst hsz
  have hD := hD0.self (sz := s.heap.size)
  generalize hAe : va_A [((ad 0), .inr (10, [.ref (ad 1), .ref (ad 2), .ref (ad 3), .ref (ad 4), .ref (ad 5), .ref (ad 6), .ref (ad 7), .ref (ad 8), .ref (ad 9), .ref (ad 10), .ref (ad 11), .int 0, .int 0, .int 0])), ((ad 6), .inr (2, [.ref (ad 47), .int 0, .int 0, .ref (ad 48), .ref (ad 49), .ref (ad 50), .int 0, .ref (ad 51), .ref (ad 52), .ref (ad 53), .int 0, .int 0, .int 0, .int 0, .int 0]))] s.heap.size = A at hD ⊢
  have hA : ∀ q : Nat, s.heap.size ≤ q → A q := fun q h => by rw [← hAe]; exact Or.inr h
  have hS : va_S A s.heap s.heap [] := va_S.rf
  have hP : va_P D vwCl [((ad 0), .inr (10, [.ref (ad 1), .ref (ad 2), .ref (ad 3), .ref (ad 4), .ref (ad 5), .ref (ad 6), .ref (ad 7), .ref (ad 8), .ref (ad 9), .ref (ad 10), .ref (ad 11), .int 0, .int 0, .int 0])), ((ad 6), .inr (2, [.ref (ad 47), .int 0, .int 0, .ref (ad 48), .ref (ad 49), .ref (ad 50), .int 0, .ref (ad 51), .ref (ad 52), .ref (ad 53), .int 0, .int 0, .int 0, .int 0, .int 0]))] s.heap := hP
  have hl := lv_entry ([.ref (ad 0)]) (n := 1) (Nat.le_of_ble_eq_true rfl)
  rw [lg_entry_eq]
  generalize (lg_sl ([.ref (ad 0)]) ++ List.replicate (1 - (lg_sl ([.ref (ad 0)])).length) Slot.unset).toArray = ls at hl ⊢
  have hl : lv_has ls 1 [(0, .ref (ad 0))] := hl
  refine lv_aload_n hx hb dX10_fault_0 rfl (lv_at hl 0 rfl) ?_
  refine va_get (D := D) (ci := 10) (v := .ref (ad 6)) (C := RX10) (T := TX10) (N := 14) hx hb hts (by decide +kernel) hown hK hP 0 rfl rfl 5 (by decide) (hts (.fieldLink RX10 47 "PortRooms" "duties" "LPortRooms$Duties;") (by decide +kernel)) (fun _ h9 => h9) rfl dX10_fault_1 ?_
  refine va_get (D := D) (ci := 2) (v := .int 0) (C := RX2) (T := TX2) (N := 15) hx hb hts (by decide +kernel) hown hK hP 1 rfl rfl 2 (by decide) (hts (.fieldLink RX10 224 "PortRooms$Duties" "latestFault" "I") (by decide +kernel)) (fun _ h9 => h9) rfl dX10_fault_4 ?_
  have hP9 := hP.sub (ws' := []) [] rfl
  have hD9 := hD.sub (ws' := []) [] (by decide) rfl
  exact W.iret (v := 0) hx hb hr (fun t ht hW => ⟨⟨0, (), rfl, rfl, by rw [ht]; exact hP9, va_K.moved hW.alike hK, hD9⟩, hS.F ht⟩) hS.2.2 dX10_fault_7
end
section
theorem dJ7_fill_53178_0 : decode cJ7_fill_53178 0 = .ok (.iconst 0, 1) := by decide +kernel
theorem dJ7_fill_53178_1 : decode cJ7_fill_53178 1 = .ok (.istore_n 2, 1) := by decide +kernel
theorem dJ7_fill_53178_2 : decode cJ7_fill_53178 2 = .ok (.aload_n 0, 1) := by decide +kernel
theorem dJ7_fill_53178_3 : decode cJ7_fill_53178 3 = .ok (.arraylength, 1) := by decide +kernel
theorem dJ7_fill_53178_4 : decode cJ7_fill_53178 4 = .ok (.istore_n 3, 1) := by decide +kernel
theorem dJ7_fill_53178_5 : decode cJ7_fill_53178 5 = .ok (.iload_n 2, 1) := by decide +kernel
theorem dJ7_fill_53178_6 : decode cJ7_fill_53178 6 = .ok (.iload_n 3, 1) := by decide +kernel
theorem dJ7_fill_53178_7 : decode cJ7_fill_53178 7 = .ok (.if_icmp .ge 13, 3) := by decide +kernel
theorem dJ7_fill_53178_10 : decode cJ7_fill_53178 10 = .ok (.aload_n 0, 1) := by decide +kernel
theorem dJ7_fill_53178_11 : decode cJ7_fill_53178 11 = .ok (.iload_n 2, 1) := by decide +kernel
theorem dJ7_fill_53178_12 : decode cJ7_fill_53178 12 = .ok (.iload_n 1, 1) := by decide +kernel
theorem dJ7_fill_53178_13 : decode cJ7_fill_53178 13 = .ok (.iastore, 1) := by decide +kernel
theorem dJ7_fill_53178_14 : decode cJ7_fill_53178 14 = .ok (.iinc 2 1, 3) := by decide +kernel
theorem dJ7_fill_53178_17 : decode cJ7_fill_53178 17 = .ok (.goto (-12), 3) := by decide +kernel
theorem dJ7_fill_53178_20 : decode cJ7_fill_53178 20 = .ok (.return_, 1) := by decide +kernel
set_option maxHeartbeats 4000000 in
set_option maxRecDepth 100000 in
theorem cFill (l : Launch) (D : va_G) (cI cY cJ cQ : ClassId) (sz : Nat) (q n : Nat) (f : Nat → Int32) (v : Int32) (hn : n < 2 ^ 31) : Met l yJ7_fill_53178 wsJ7_fill_53178 ({ frames := 0, cells := 0, slots := 0, locals := 0 }) (cPre D (ty4 cI cY cJ cQ) [(q, .inl (cI, n, .inl f))] sz [.ref q, .int v]) (va_Qv (fun (u : Unit) => True) (cB D (ty4 cI cY cJ cQ) (fun (u : Unit) => [(q, .inl (cI, n, .inl (fun _ => v)))]) (va_A [(q, .inl (cI, n, .inl f))] sz)) (va_A [(q, .inl (cI, n, .inl f))] sz)) 0 0 (va_A [(q, .inl (cI, n, .inl f))] sz) := by
  refine Met.ofW (cc := cJ7_fill_53178) (maxL := 4) (ret := none) (by decide) rfl ?_
  intro p e s m args below meth c s₁ B hml hv
  obtain ⟨rfl, hsz, hP, hK, hD0, hN⟩ := hv
  have hx := B.exec
  have hb := B.bytes
  have hr := B.returns
  have hts := atoms_spec (ws := wsJ7_fill_53178) B.pre
  have hown : s.vm.findClass RJ7 = some m.cls := findClass_of_methodNamed B.named
  have hlocks := B.notSynchronized
  subst hsz
  have hD := hD0.self (sz := s.heap.size)
  generalize hAe : va_A [(q, .inl (cI, n, .inl f))] s.heap.size = A at hD ⊢
  have hA : ∀ q : Nat, s.heap.size ≤ q → A q := fun q h => by rw [← hAe]; exact Or.inr h
  have hS : va_S A s.heap s.heap [] := va_S.rf
  have hP : va_P D vwCl [(q, .inl (cI, n, .inl f))] s.heap := hP
  have hl := lv_entry ([.ref q, .int v]) (n := 4) (Nat.le_of_ble_eq_true rfl)
  rw [lg_entry_eq]
  generalize (lg_sl ([.ref q, .int v]) ++ List.replicate (4 - (lg_sl ([.ref q, .int v])).length) Slot.unset).toArray = ls at hl ⊢
  have hl : lv_has ls 4 [(0, .ref q), (1, .int v)] := hl
  have k0 : (0 : Int32).toInt = 0 := by decide
  have k1 : (1 : Int32).toInt = 1 := by decide
  have hnI : (nI n).toInt = (n : Int) := nI_toInt hn
  refine lv_iconst (v := 0) hx hb dJ7_fill_53178_0 (by decide) ?_
  refine lv_istore_n (lv' := [(2, .int 0), (0, .ref q), (1, .int v)]) hx hb dJ7_fill_53178_1 rfl hl (by decide) rfl (fun ls hl => ?_)
  refine lv_aload_n hx hb dJ7_fill_53178_2 rfl (lv_at hl 1 rfl) ?_
  refine va_alen (v := nI n) hx hb hK hP 0 0 rfl rfl rfl dJ7_fill_53178_3 ?_
  refine lv_istore_n (lv' := [(3, .int (nI n)), (2, .int 0), (0, .ref q), (1, .int v)]) hx hb dJ7_fill_53178_4 rfl hl (by decide) rfl (fun ls hl => ?_)
  refine st_loop 5 (fun _ => []) (fun (z : Int32 × (Nat → Int32)) (ls : Array Slot) (H : Heap) (locs : List Loc) => match z with | (i, g) => (0 ≤ i.toInt) ∧ (i.toInt ≤ (n : Int)) ∧ (∀ j : Nat, (j : Int) < i.toInt → g j = v) ∧ lv_has ls 4 [(0, .ref q), (1, .int v), (2, .int i), (3, .int (nI n))] ∧ va_P D vwCl [(q, .inl (cI, n, .inl g))] H ∧ va_D A [(q, .inl (cI, n, .inl g))] ∧ va_S A s.heap H locs) (fun (z : Int32 × (Nat → Int32)) => match z with | (i, g) => (n : Int) - i.toInt) ?_ ?_ ((0 : Int32), f) ⟨(by omega), (by omega), (by intro j hj; exfalso; omega), lv_sub hl [2, 3, 1, 0] rfl, hP, hD, hS⟩
  · rintro ⟨i, g⟩ ls H locs ⟨g1, g2, g3, hl, hP, hD, hS⟩
    show (0 : Int) ≤ (n : Int) - i.toInt
    omega
  · rintro n6 ih4 ⟨i, g⟩ ls H locs ⟨g1, g2, g3, hl, hP, hD, hS⟩ hm5
    have hm5 : (n : Int) - i.toInt < (n6 : Int) + 1 := hm5
    replace hl : lv_has ls 4 [(0, .ref q), (1, .int v), (2, .int i), (3, .int (nI n))] := hl
    replace hP : va_P D vwCl [(q, .inl (cI, n, .inl g))] H := hP
    replace hD : va_D A [(q, .inl (cI, n, .inl g))] := hD
    show W _ _ _ _ _ _ _ _ _ _ _ _ _ _ _ (F0 m 5 ls [])
    refine lv_iload_n hx hb dJ7_fill_53178_5 rfl (lv_at hl 2 rfl) ?_
    refine lv_iload_n hx hb dJ7_fill_53178_6 rfl (lv_at hl 3 rfl) ?_
    refine lv_icmp_ge (tgt := 20) hx hb dJ7_fill_53178_7 (by decide) (fun c7 => ?_) (fun c7 => ?_)
    · skip
      have f8 := i_le c7
      have hP9 : va_P D vwCl [(q, .inl (cI, n, .inl (fun _ => v)))] H := hP.cong1 (fun j hj => g3 j (by omega))
      have hD9 : va_D A [(q, .inl (cI, n, .inl (fun _ => v)))] := hD.adr rfl
      exact W.vret hx hb hr (fun t ht hW => ⟨⟨(), rfl, trivial, by rw [ht]; exact hP9, va_K.moved hW.alike hK, hD9⟩, hS.F ht⟩) hS.2.2 dJ7_fill_53178_20
    · skip
      have f9 := i_nle c7
      refine lv_aload_n hx hb dJ7_fill_53178_10 rfl (lv_at hl 0 rfl) ?_
      refine lv_iload_n hx hb dJ7_fill_53178_11 rfl (lv_at hl 2 rfl) ?_
      refine lv_iload_n hx hb dJ7_fill_53178_12 rfl (lv_at hl 1 rfl) ?_
      refine va_iast hx hb hK hP hD hS 0 0 rfl rfl (i_in (by omega) (by omega)) dJ7_fill_53178_13 (fun H locs hP hD hS => ?_)
      replace hP : va_P D vwCl [(q, .inl (cI, n, .inl (upd g i.toNatClampNeg v)))] H := hP
      replace hD : va_D A [(q, .inl (cI, n, .inl (upd g i.toNatClampNeg v)))] := hD
      obtain ⟨v10, ev10⟩ : ∃ y : Int32, y = i + 1 := ⟨_, rfl⟩
      have tv10 : v10.toInt = i.toInt + 1 := by rw [ev10]; exact (i_add (x := i) (y := (1 : Int32)) (by rw [k1]; omega) (by rw [k1]; omega)).trans (by rw [k1])
      refine lv_iinc (v := v10) (lv' := [(2, .int v10), (0, .ref q), (1, .int v), (3, .int (nI n))]) hx hb dJ7_fill_53178_14 hl (k := 2) rfl (by rw [ev10]; rfl) (by decide) rfl (fun ls hl => ?_)
      refine lv_goto (tgt := 5) hx hb dJ7_fill_53178_17 (by decide) ?_
      exact ih4 (v10, upd g i.toNatClampNeg v) ls H locs ⟨(by omega), (by omega), (by exact fun j hj => if h : j = i.toNatClampNeg then (by subst h; exact upd_s _ _ _) else (by rw [upd_n _ _ h]; exact g3 j (by have := i_cl g1; omega))), lv_sub hl [1, 2, 0, 3] rfl, hP.sub [0] rfl, hD.sub [0] (by decide) rfl, hS⟩ (by show (n : Int) - v10.toInt < _; omega)
end
section
theorem dX9_isMissing_0 : decode cX9_isMissing 0 = .ok (.aload_n 0, 1) := by decide +kernel
theorem dX9_isMissing_1 : decode cX9_isMissing 1 = .ok (.getfield 20, 3) := by decide +kernel
theorem dX9_isMissing_4 : decode cX9_isMissing 4 = .ok (.iload_n 1, 1) := by decide +kernel
theorem dX9_isMissing_5 : decode cX9_isMissing 5 = .ok (.iaload, 1) := by decide +kernel
theorem dX9_isMissing_6 : decode cX9_isMissing 6 = .ok (.iconst (-1), 1) := by decide +kernel
theorem dX9_isMissing_7 : decode cX9_isMissing 7 = .ok (.if_icmp .ne 7, 3) := by decide +kernel
theorem dX9_isMissing_10 : decode cX9_isMissing 10 = .ok (.iconst 1, 1) := by decide +kernel
theorem dX9_isMissing_11 : decode cX9_isMissing 11 = .ok (.goto 4, 3) := by decide +kernel
theorem dX9_isMissing_15 : decode cX9_isMissing 15 = .ok (.ireturn, 1) := by decide +kernel
set_option maxRecDepth 20000 in
theorem ggX9_howMany_X9_isMissing : GoodIn wsX9_howMany wsX9_isMissing := goodIn_r _ [5, 6, 7, 8, 9] (by decide +kernel) (by decide +kernel)
set_option maxRecDepth 20000 in
theorem gX9_howMany_X9_isMissing : GoodIn wsX9_howMany (wsV RX9 29 RX9 yX9_isMissing wsX9_isMissing) := goodIn_app (goodIn_of _ (by decide +kernel)) ggX9_howMany_X9_isMissing
theorem dX9_howMany_0 : decode cX9_howMany 0 = .ok (.iconst 0, 1) := by decide +kernel
theorem dX9_howMany_1 : decode cX9_howMany 1 = .ok (.istore_n 1, 1) := by decide +kernel
theorem dX9_howMany_2 : decode cX9_howMany 2 = .ok (.iconst 0, 1) := by decide +kernel
theorem dX9_howMany_3 : decode cX9_howMany 3 = .ok (.istore_n 2, 1) := by decide +kernel
theorem dX9_howMany_4 : decode cX9_howMany 4 = .ok (.iload_n 2, 1) := by decide +kernel
theorem dX9_howMany_5 : decode cX9_howMany 5 = .ok (.bipush 8, 2) := by decide +kernel
theorem dX9_howMany_7 : decode cX9_howMany 7 = .ok (.if_icmp .ge 20, 3) := by decide +kernel
theorem dX9_howMany_10 : decode cX9_howMany 10 = .ok (.aload_n 0, 1) := by decide +kernel
theorem dX9_howMany_11 : decode cX9_howMany 11 = .ok (.iload_n 2, 1) := by decide +kernel
theorem dX9_howMany_12 : decode cX9_howMany 12 = .ok (.invokevirtual 29, 3) := by decide +kernel
theorem dX9_howMany_15 : decode cX9_howMany 15 = .ok (.ifCond .ne 6, 3) := by decide +kernel
theorem dX9_howMany_21 : decode cX9_howMany 21 = .ok (.iinc 2 1, 3) := by decide +kernel
theorem dX9_howMany_24 : decode cX9_howMany 24 = .ok (.goto (-20), 3) := by decide +kernel
theorem dX9_howMany_27 : decode cX9_howMany 27 = .ok (.iload_n 1, 1) := by decide +kernel
theorem dX9_howMany_28 : decode cX9_howMany 28 = .ok (.ireturn, 1) := by decide +kernel
set_option maxRecDepth 20000 in
theorem ggX10_set_X10_isBelow : GoodIn wsX10_set wsX10_isBelow := goodIn_r _ [6] (by decide +kernel) (by decide +kernel)
set_option maxRecDepth 20000 in
theorem gX10_set_X10_isBelow : GoodIn wsX10_set (va_wsS RX10 85 yX10_isBelow wsX10_isBelow) := goodIn_app (goodIn_of _ (by decide +kernel)) ggX10_set_X10_isBelow
set_option maxRecDepth 20000 in
theorem ggX10_set_X9_isMissing : GoodIn wsX10_set wsX9_isMissing := goodIn_r _ [11, 12, 47, 48, 49] (by decide +kernel) (by decide +kernel)
set_option maxRecDepth 20000 in
theorem gX10_set_X9_isMissing : GoodIn wsX10_set (wsV RX10 101 RX9 yX9_isMissing wsX9_isMissing) := goodIn_app (goodIn_of _ (by decide +kernel)) ggX10_set_X9_isMissing
set_option maxRecDepth 20000 in
theorem ggX10_set_X10_finding : GoodIn wsX10_set wsX10_finding := goodIn_r _ [16, 17, 18, 33, 34, 35, 36, 37, 38, 39, 40, 41, 42, 43, 44, 45, 46] (by decide +kernel) (by decide +kernel)
set_option maxRecDepth 20000 in
theorem gX10_set_X10_finding : GoodIn wsX10_set (wsV RX10 90 RX10 yX10_finding wsX10_finding) := goodIn_app (goodIn_of _ (by decide +kernel)) ggX10_set_X10_finding
theorem dX10_set_0 : decode cX10_set 0 = .ok (.iload_n 1, 1) := by decide +kernel
theorem dX10_set_1 : decode cX10_set 1 = .ok (.bipush 8, 2) := by decide +kernel
theorem dX10_set_3 : decode cX10_set 3 = .ok (.invokestatic 85, 3) := by decide +kernel
theorem dX10_set_6 : decode cX10_set 6 = .ok (.ifCond .ne 6, 3) := by decide +kernel
theorem dX10_set_9 : decode cX10_set 9 = .ok (.ldc 89, 2) := by decide +kernel
theorem dX10_set_11 : decode cX10_set 11 = .ok (.ireturn, 1) := by decide +kernel
theorem dX10_set_12 : decode cX10_set 12 = .ok (.aload_n 0, 1) := by decide +kernel
theorem dX10_set_13 : decode cX10_set 13 = .ok (.getfield 10, 3) := by decide +kernel
theorem dX10_set_16 : decode cX10_set 16 = .ok (.iload_n 1, 1) := by decide +kernel
theorem dX10_set_17 : decode cX10_set 17 = .ok (.invokevirtual 101, 3) := by decide +kernel
theorem dX10_set_20 : decode cX10_set 20 = .ok (.ifCond .eq 9, 3) := by decide +kernel
theorem dX10_set_23 : decode cX10_set 23 = .ok (.aload_n 0, 1) := by decide +kernel
theorem dX10_set_24 : decode cX10_set 24 = .ok (.iconst 1, 1) := by decide +kernel
theorem dX10_set_25 : decode cX10_set 25 = .ok (.invokevirtual 90, 3) := by decide +kernel
theorem dX10_set_28 : decode cX10_set 28 = .ok (.ireturn, 1) := by decide +kernel
set_option maxRecDepth 20000 in
theorem ggX10_copy_X10_isBelow : GoodIn wsX10_copy wsX10_isBelow := goodIn_r _ [12] (by decide +kernel) (by decide +kernel)
set_option maxRecDepth 20000 in
theorem gX10_copy_X10_isBelow : GoodIn wsX10_copy (va_wsS RX10 85 yX10_isBelow wsX10_isBelow) := goodIn_app (goodIn_of _ (by decide +kernel)) ggX10_copy_X10_isBelow
set_option maxRecDepth 20000 in
theorem ggX10_copy_X9_isMissing : GoodIn wsX10_copy wsX9_isMissing := goodIn_r _ [17, 18, 47, 48, 49] (by decide +kernel) (by decide +kernel)
set_option maxRecDepth 20000 in
theorem gX10_copy_X9_isMissing : GoodIn wsX10_copy (wsV RX10 101 RX9 yX9_isMissing wsX9_isMissing) := goodIn_app (goodIn_of _ (by decide +kernel)) ggX10_copy_X9_isMissing
set_option maxRecDepth 20000 in
theorem ggX10_copy_X10_finding : GoodIn wsX10_copy wsX10_finding := goodIn_r _ [22, 23, 24, 33, 34, 35, 36, 37, 38, 39, 40, 41, 42, 43, 44, 45, 46] (by decide +kernel) (by decide +kernel)
set_option maxRecDepth 20000 in
theorem gX10_copy_X10_finding : GoodIn wsX10_copy (wsV RX10 90 RX10 yX10_finding wsX10_finding) := goodIn_app (goodIn_of _ (by decide +kernel)) ggX10_copy_X10_finding
theorem dX10_copy_0 : decode cX10_copy 0 = .ok (.iload_n 1, 1) := by decide +kernel
theorem dX10_copy_1 : decode cX10_copy 1 = .ok (.bipush 8, 2) := by decide +kernel
theorem dX10_copy_3 : decode cX10_copy 3 = .ok (.invokestatic 85, 3) := by decide +kernel
theorem dX10_copy_6 : decode cX10_copy 6 = .ok (.ifCond .eq 12, 3) := by decide +kernel
theorem dX10_copy_9 : decode cX10_copy 9 = .ok (.iload_n 3, 1) := by decide +kernel
theorem dX10_copy_10 : decode cX10_copy 10 = .ok (.bipush 8, 2) := by decide +kernel
theorem dX10_copy_12 : decode cX10_copy 12 = .ok (.invokestatic 85, 3) := by decide +kernel
theorem dX10_copy_15 : decode cX10_copy 15 = .ok (.ifCond .ne 6, 3) := by decide +kernel
theorem dX10_copy_18 : decode cX10_copy 18 = .ok (.ldc 89, 2) := by decide +kernel
theorem dX10_copy_20 : decode cX10_copy 20 = .ok (.ireturn, 1) := by decide +kernel
theorem dX10_copy_21 : decode cX10_copy 21 = .ok (.aload_n 0, 1) := by decide +kernel
theorem dX10_copy_22 : decode cX10_copy 22 = .ok (.getfield 10, 3) := by decide +kernel
theorem dX10_copy_25 : decode cX10_copy 25 = .ok (.iload_n 1, 1) := by decide +kernel
theorem dX10_copy_26 : decode cX10_copy 26 = .ok (.invokevirtual 101, 3) := by decide +kernel
theorem dX10_copy_29 : decode cX10_copy 29 = .ok (.ifCond .ne 14, 3) := by decide +kernel
theorem dX10_copy_43 : decode cX10_copy 43 = .ok (.aload_n 0, 1) := by decide +kernel
theorem dX10_copy_44 : decode cX10_copy 44 = .ok (.iconst 1, 1) := by decide +kernel
theorem dX10_copy_45 : decode cX10_copy 45 = .ok (.invokevirtual 90, 3) := by decide +kernel
theorem dX10_copy_48 : decode cX10_copy 48 = .ok (.ireturn, 1) := by decide +kernel
set_option maxRecDepth 20000 in
theorem ggX10_drop_X10_isBelow : GoodIn wsX10_drop wsX10_isBelow := goodIn_r _ [7] (by decide +kernel) (by decide +kernel)
set_option maxRecDepth 20000 in
theorem gX10_drop_X10_isBelow : GoodIn wsX10_drop (va_wsS RX10 85 yX10_isBelow wsX10_isBelow) := goodIn_app (goodIn_of _ (by decide +kernel)) ggX10_drop_X10_isBelow
set_option maxRecDepth 20000 in
theorem ggX10_drop_X9_isMissing : GoodIn wsX10_drop wsX9_isMissing := goodIn_r _ [12, 13, 42, 43, 44] (by decide +kernel) (by decide +kernel)
set_option maxRecDepth 20000 in
theorem gX10_drop_X9_isMissing : GoodIn wsX10_drop (wsV RX10 101 RX9 yX9_isMissing wsX9_isMissing) := goodIn_app (goodIn_of _ (by decide +kernel)) ggX10_drop_X9_isMissing
set_option maxRecDepth 20000 in
theorem ggX10_drop_X10_finding : GoodIn wsX10_drop wsX10_finding := goodIn_r _ [17, 18, 19, 28, 29, 30, 31, 32, 33, 34, 35, 36, 37, 38, 39, 40, 41] (by decide +kernel) (by decide +kernel)
set_option maxRecDepth 20000 in
theorem gX10_drop_X10_finding : GoodIn wsX10_drop (wsV RX10 90 RX10 yX10_finding wsX10_finding) := goodIn_app (goodIn_of _ (by decide +kernel)) ggX10_drop_X10_finding
theorem dX10_drop_0 : decode cX10_drop 0 = .ok (.iload_n 1, 1) := by decide +kernel
theorem dX10_drop_1 : decode cX10_drop 1 = .ok (.bipush 8, 2) := by decide +kernel
theorem dX10_drop_3 : decode cX10_drop 3 = .ok (.invokestatic 85, 3) := by decide +kernel
theorem dX10_drop_6 : decode cX10_drop 6 = .ok (.ifCond .ne 6, 3) := by decide +kernel
theorem dX10_drop_9 : decode cX10_drop 9 = .ok (.ldc 89, 2) := by decide +kernel
theorem dX10_drop_11 : decode cX10_drop 11 = .ok (.ireturn, 1) := by decide +kernel
theorem dX10_drop_12 : decode cX10_drop 12 = .ok (.aload_n 0, 1) := by decide +kernel
theorem dX10_drop_13 : decode cX10_drop 13 = .ok (.getfield 10, 3) := by decide +kernel
theorem dX10_drop_16 : decode cX10_drop 16 = .ok (.iload_n 1, 1) := by decide +kernel
theorem dX10_drop_17 : decode cX10_drop 17 = .ok (.invokevirtual 101, 3) := by decide +kernel
theorem dX10_drop_20 : decode cX10_drop 20 = .ok (.ifCond .eq 9, 3) := by decide +kernel
theorem dX10_drop_23 : decode cX10_drop 23 = .ok (.aload_n 0, 1) := by decide +kernel
theorem dX10_drop_24 : decode cX10_drop 24 = .ok (.iconst 1, 1) := by decide +kernel
theorem dX10_drop_25 : decode cX10_drop 25 = .ok (.invokevirtual 90, 3) := by decide +kernel
theorem dX10_drop_28 : decode cX10_drop 28 = .ok (.ireturn, 1) := by decide +kernel
set_option maxRecDepth 20000 in
theorem ggX10_holds_X10_isBelow : GoodIn wsX10_holds wsX10_isBelow := goodIn_r _ [7] (by decide +kernel) (by decide +kernel)
set_option maxRecDepth 20000 in
theorem gX10_holds_X10_isBelow : GoodIn wsX10_holds (va_wsS RX10 85 yX10_isBelow wsX10_isBelow) := goodIn_app (goodIn_of _ (by decide +kernel)) ggX10_holds_X10_isBelow
set_option maxRecDepth 20000 in
theorem ggX10_holds_X10_isFrom : GoodIn wsX10_holds wsX10_isFrom := goodIn_r _ [10] (by decide +kernel) (by decide +kernel)
set_option maxRecDepth 20000 in
theorem gX10_holds_X10_isFrom : GoodIn wsX10_holds (va_wsS RX10 135 yX10_isFrom wsX10_isFrom) := goodIn_app (goodIn_of _ (by decide +kernel)) ggX10_holds_X10_isFrom
set_option maxRecDepth 20000 in
theorem ggX10_holds_X9_isMissing : GoodIn wsX10_holds wsX9_isMissing := goodIn_r _ [15, 16, 74, 75, 76] (by decide +kernel) (by decide +kernel)
set_option maxRecDepth 20000 in
theorem gX10_holds_X9_isMissing : GoodIn wsX10_holds (wsV RX10 101 RX9 yX9_isMissing wsX9_isMissing) := goodIn_app (goodIn_of _ (by decide +kernel)) ggX10_holds_X9_isMissing
set_option maxRecDepth 20000 in
theorem ggX10_holds_X10_finding : GoodIn wsX10_holds wsX10_finding := goodIn_r _ [20, 21, 22, 60, 61, 62, 63, 64, 65, 66, 67, 68, 69, 70, 71, 72, 73] (by decide +kernel) (by decide +kernel)
set_option maxRecDepth 20000 in
theorem gX10_holds_X10_finding : GoodIn wsX10_holds (wsV RX10 90 RX10 yX10_finding wsX10_finding) := goodIn_app (goodIn_of _ (by decide +kernel)) ggX10_holds_X10_finding
theorem dX10_holds_0 : decode cX10_holds 0 = .ok (.iload_n 1, 1) := by decide +kernel
theorem dX10_holds_1 : decode cX10_holds 1 = .ok (.bipush 8, 2) := by decide +kernel
theorem dX10_holds_3 : decode cX10_holds 3 = .ok (.invokestatic 85, 3) := by decide +kernel
theorem dX10_holds_6 : decode cX10_holds 6 = .ok (.ifCond .eq 13, 3) := by decide +kernel
theorem dX10_holds_9 : decode cX10_holds 9 = .ok (.iload_n 3, 1) := by decide +kernel
theorem dX10_holds_10 : decode cX10_holds 10 = .ok (.iconst 1, 1) := by decide +kernel
theorem dX10_holds_11 : decode cX10_holds 11 = .ok (.bipush 15, 2) := by decide +kernel
theorem dX10_holds_13 : decode cX10_holds 13 = .ok (.invokestatic 135, 3) := by decide +kernel
theorem dX10_holds_16 : decode cX10_holds 16 = .ok (.ifCond .ne 6, 3) := by decide +kernel
theorem dX10_holds_19 : decode cX10_holds 19 = .ok (.ldc 89, 2) := by decide +kernel
theorem dX10_holds_21 : decode cX10_holds 21 = .ok (.ireturn, 1) := by decide +kernel
theorem dX10_holds_22 : decode cX10_holds 22 = .ok (.aload_n 0, 1) := by decide +kernel
theorem dX10_holds_23 : decode cX10_holds 23 = .ok (.getfield 10, 3) := by decide +kernel
theorem dX10_holds_26 : decode cX10_holds 26 = .ok (.iload_n 1, 1) := by decide +kernel
theorem dX10_holds_27 : decode cX10_holds 27 = .ok (.invokevirtual 101, 3) := by decide +kernel
theorem dX10_holds_30 : decode cX10_holds 30 = .ok (.ifCond .eq 9, 3) := by decide +kernel
theorem dX10_holds_33 : decode cX10_holds 33 = .ok (.aload_n 0, 1) := by decide +kernel
theorem dX10_holds_34 : decode cX10_holds 34 = .ok (.iconst 1, 1) := by decide +kernel
theorem dX10_holds_35 : decode cX10_holds 35 = .ok (.invokevirtual 90, 3) := by decide +kernel
theorem dX10_holds_38 : decode cX10_holds 38 = .ok (.ireturn, 1) := by decide +kernel
set_option maxRecDepth 20000 in
theorem ggX10_count_X9_howMany : GoodIn wsX10_count wsX9_howMany := goodIn_r _ [24, 25, 26, 27, 23, 28, 29, 101, 102, 103] (by decide +kernel) (by decide +kernel)
set_option maxRecDepth 20000 in
theorem gX10_count_X9_howMany : GoodIn wsX10_count (wsV RX10 316 RX9 yX9_howMany wsX9_howMany) := goodIn_app (goodIn_of _ (by decide +kernel)) ggX10_count_X9_howMany
theorem dX10_count_0 : decode cX10_count 0 = .ok (.iload_n 1, 1) := by decide +kernel
theorem dX10_count_1 : decode cX10_count 1 = .ok (.tableswitch 135 0 9 #[55, 63, 71, 79, 87, 95, 103, 111, 119, 127], 55) := by decide +kernel
theorem dX10_count_56 : decode cX10_count 56 = .ok (.aload_n 0, 1) := by decide +kernel
theorem dX10_count_57 : decode cX10_count 57 = .ok (.getfield 10, 3) := by decide +kernel
theorem dX10_count_60 : decode cX10_count 60 = .ok (.invokevirtual 316, 3) := by decide +kernel
theorem dX10_count_63 : decode cX10_count 63 = .ok (.ireturn, 1) := by decide +kernel
theorem dX10_count_64 : decode cX10_count 64 = .ok (.aload_n 0, 1) := by decide +kernel
theorem dX10_count_65 : decode cX10_count 65 = .ok (.getfield 19, 3) := by decide +kernel
theorem dX10_count_68 : decode cX10_count 68 = .ok (.getfield 141, 3) := by decide +kernel
theorem dX10_count_71 : decode cX10_count 71 = .ok (.ireturn, 1) := by decide +kernel
theorem dX10_count_72 : decode cX10_count 72 = .ok (.aload_n 0, 1) := by decide +kernel
theorem dX10_count_73 : decode cX10_count 73 = .ok (.getfield 26, 3) := by decide +kernel
theorem dX10_count_76 : decode cX10_count 76 = .ok (.getfield 177, 3) := by decide +kernel
theorem dX10_count_79 : decode cX10_count 79 = .ok (.ireturn, 1) := by decide +kernel
theorem dX10_count_80 : decode cX10_count 80 = .ok (.aload_n 0, 1) := by decide +kernel
theorem dX10_count_81 : decode cX10_count 81 = .ok (.getfield 33, 3) := by decide +kernel
theorem dX10_count_84 : decode cX10_count 84 = .ok (.getfield 186, 3) := by decide +kernel
theorem dX10_count_87 : decode cX10_count 87 = .ok (.ireturn, 1) := by decide +kernel
theorem dX10_count_88 : decode cX10_count 88 = .ok (.aload_n 0, 1) := by decide +kernel
theorem dX10_count_89 : decode cX10_count 89 = .ok (.getfield 40, 3) := by decide +kernel
theorem dX10_count_92 : decode cX10_count 92 = .ok (.getfield 199, 3) := by decide +kernel
theorem dX10_count_95 : decode cX10_count 95 = .ok (.ireturn, 1) := by decide +kernel
theorem dX10_count_96 : decode cX10_count 96 = .ok (.aload_n 0, 1) := by decide +kernel
theorem dX10_count_97 : decode cX10_count 97 = .ok (.getfield 47, 3) := by decide +kernel
theorem dX10_count_100 : decode cX10_count 100 = .ok (.getfield 319, 3) := by decide +kernel
theorem dX10_count_103 : decode cX10_count 103 = .ok (.ireturn, 1) := by decide +kernel
theorem dX10_count_104 : decode cX10_count 104 = .ok (.aload_n 0, 1) := by decide +kernel
theorem dX10_count_105 : decode cX10_count 105 = .ok (.getfield 54, 3) := by decide +kernel
theorem dX10_count_108 : decode cX10_count 108 = .ok (.getfield 227, 3) := by decide +kernel
theorem dX10_count_111 : decode cX10_count 111 = .ok (.ireturn, 1) := by decide +kernel
theorem dX10_count_112 : decode cX10_count 112 = .ok (.aload_n 0, 1) := by decide +kernel
theorem dX10_count_113 : decode cX10_count 113 = .ok (.getfield 61, 3) := by decide +kernel
theorem dX10_count_116 : decode cX10_count 116 = .ok (.getfield 287, 3) := by decide +kernel
theorem dX10_count_119 : decode cX10_count 119 = .ok (.ireturn, 1) := by decide +kernel
theorem dX10_count_120 : decode cX10_count 120 = .ok (.aload_n 0, 1) := by decide +kernel
theorem dX10_count_121 : decode cX10_count 121 = .ok (.getfield 68, 3) := by decide +kernel
theorem dX10_count_124 : decode cX10_count 124 = .ok (.getfield 292, 3) := by decide +kernel
theorem dX10_count_127 : decode cX10_count 127 = .ok (.ireturn, 1) := by decide +kernel
theorem dX10_count_128 : decode cX10_count 128 = .ok (.aload_n 0, 1) := by decide +kernel
theorem dX10_count_129 : decode cX10_count 129 = .ok (.getfield 47, 3) := by decide +kernel
theorem dX10_count_132 : decode cX10_count 132 = .ok (.getfield 213, 3) := by decide +kernel
theorem dX10_count_135 : decode cX10_count 135 = .ok (.ireturn, 1) := by decide +kernel
theorem dX10_count_136 : decode cX10_count 136 = .ok (.ldc 89, 2) := by decide +kernel
theorem dX10_count_138 : decode cX10_count 138 = .ok (.ireturn, 1) := by decide +kernel
theorem dX10_finding_0 : decode cX10_finding 0 = .ok (.aload_n 0, 1) := by decide +kernel
theorem dX10_finding_1 : decode cX10_finding 1 = .ok (.iload_n 1, 1) := by decide +kernel
theorem dX10_finding_2 : decode cX10_finding 2 = .ok (.putfield 322, 3) := by decide +kernel
theorem dX10_finding_5 : decode cX10_finding 5 = .ok (.ldc_w 325, 3) := by decide +kernel
theorem dX10_finding_8 : decode cX10_finding 8 = .ok (.iload_n 1, 1) := by decide +kernel
theorem dX10_finding_9 : decode cX10_finding 9 = .ok (.isub, 1) := by decide +kernel
theorem dX10_finding_10 : decode cX10_finding 10 = .ok (.ireturn, 1) := by decide +kernel
theorem dX10_passed_0 : decode cX10_passed 0 = .ok (.aload_n 0, 1) := by decide +kernel
theorem dX10_passed_1 : decode cX10_passed 1 = .ok (.iconst 0, 1) := by decide +kernel
theorem dX10_passed_2 : decode cX10_passed 2 = .ok (.putfield 322, 3) := by decide +kernel
theorem dX10_passed_5 : decode cX10_passed 5 = .ok (.iload_n 1, 1) := by decide +kernel
theorem dX10_passed_6 : decode cX10_passed 6 = .ok (.ireturn, 1) := by decide +kernel
set_option maxHeartbeats 4000000 in
set_option maxRecDepth 100000 in
theorem ct_X10_finding (l : Launch) (D : va_G) (cI cY cJ cQ : ClassId) (sz : Nat) (ad : Nat → Nat) (a : Int32)   : Met l yX10_finding wsX10_finding ({ frames := 0, cells := 0, slots := 0, locals := 0 }) (cPre D (ty4 cI cY cJ cQ) [((ad 0), .inr (10, [.ref (ad 1), .ref (ad 2), .ref (ad 3), .ref (ad 4), .ref (ad 5), .ref (ad 6), .ref (ad 7), .ref (ad 8), .ref (ad 9), .ref (ad 10), .ref (ad 11), .int 0, .int 0, .int 0]))] sz [.ref (ad 0), .int a]) (va_Qi (fun (r : Int32) (u : Unit) => r = (-1000010) - a) (cB D (ty4 cI cY cJ cQ) (fun (u : Unit) => []) (va_A [((ad 0), .inr (10, [.ref (ad 1), .ref (ad 2), .ref (ad 3), .ref (ad 4), .ref (ad 5), .ref (ad 6), .ref (ad 7), .ref (ad 8), .ref (ad 9), .ref (ad 10), .ref (ad 11), .int 0, .int 0, .int 0]))] sz)) (va_A [((ad 0), .inr (10, [.ref (ad 1), .ref (ad 2), .ref (ad 3), .ref (ad 4), .ref (ad 5), .ref (ad 6), .ref (ad 7), .ref (ad 8), .ref (ad 9), .ref (ad 10), .ref (ad 11), .int 0, .int 0, .int 0]))] sz)) 0 0 (va_A [((ad 0), .inr (10, [.ref (ad 1), .ref (ad 2), .ref (ad 3), .ref (ad 4), .ref (ad 5), .ref (ad 6), .ref (ad 7), .ref (ad 8), .ref (ad 9), .ref (ad 10), .ref (ad 11), .int 0, .int 0, .int 0]))] sz) := by
  refine Met.ofW (cc := cX10_finding) (maxL := 2) (ret := (some .int)) (by decide) rfl ?_
  intro p e s m args below meth c s₁ B hml hv
  obtain ⟨rfl, hsz, hP, hK, hD0, hN⟩ := hv
  have hx := B.exec
  have hb := B.bytes
  have hr := B.returns
  have hts := atoms_spec (ws := wsX10_finding) B.pre
  have hown : s.vm.findClass RX10 = some m.cls := findClass_of_methodNamed B.named
  have hlocks := B.notSynchronized
  subst hsz
  have hD := hD0.self (sz := s.heap.size)
  generalize hAe : va_A [((ad 0), .inr (10, [.ref (ad 1), .ref (ad 2), .ref (ad 3), .ref (ad 4), .ref (ad 5), .ref (ad 6), .ref (ad 7), .ref (ad 8), .ref (ad 9), .ref (ad 10), .ref (ad 11), .int 0, .int 0, .int 0]))] s.heap.size = A at hD ⊢
  have hA : ∀ q : Nat, s.heap.size ≤ q → A q := fun q h => by rw [← hAe]; exact Or.inr h
  have hS : va_S A s.heap s.heap [] := va_S.rf
  have hP : va_P D vwCl [((ad 0), .inr (10, [.ref (ad 1), .ref (ad 2), .ref (ad 3), .ref (ad 4), .ref (ad 5), .ref (ad 6), .ref (ad 7), .ref (ad 8), .ref (ad 9), .ref (ad 10), .ref (ad 11), .int 0, .int 0, .int 0]))] s.heap := hP
  have hl := lv_entry ([.ref (ad 0), .int a]) (n := 2) (Nat.le_of_ble_eq_true rfl)
  rw [lg_entry_eq]
  generalize (lg_sl ([.ref (ad 0), .int a]) ++ List.replicate (2 - (lg_sl ([.ref (ad 0), .int a])).length) Slot.unset).toArray = ls at hl ⊢
  have hl : lv_has ls 2 [(0, .ref (ad 0)), (1, .int a)] := hl
  have km1000010 : (-1000010 : Int32).toInt = -1000010 := by decide
  refine lv_aload_n hx hb dX10_finding_0 rfl (lv_at hl 0 rfl) ?_
  refine lv_iload_n hx hb dX10_finding_1 rfl (lv_at hl 1 rfl) ?_
  refine va_put (D := D) (ci := 10) (v := .int a) (ty := .int) (C := RX10) (T := TX10) (N := 14) hx hb hts (by decide +kernel) tyX10 tyX10_ok nmX10 hown hK hP hD hS 0 rfl rfl 13 (by decide) (hts (.fieldLink RX10 322 "PortRooms" "latestFinding" "I") (by decide +kernel)) (fun _ h9 => h9) rfl (by decide +kernel) rfl rfl (Nat.le_of_ble_eq_true rfl) dX10_finding_2 (fun H locs hP hD hS => ?_)
  replace hP : va_P D vwCl [((ad 0), .inr (10, [.ref (ad 1), .ref (ad 2), .ref (ad 3), .ref (ad 4), .ref (ad 5), .ref (ad 6), .ref (ad 7), .ref (ad 8), .ref (ad 9), .ref (ad 10), .ref (ad 11), .int 0, .int 0, .int a]))] H := hP
  replace hD : va_D A [((ad 0), .inr (10, [.ref (ad 1), .ref (ad 2), .ref (ad 3), .ref (ad 4), .ref (ad 5), .ref (ad 6), .ref (ad 7), .ref (ad 8), .ref (ad 9), .ref (ad 10), .ref (ad 11), .int 0, .int 0, .int a]))] := hD
  refine lv_ldcw hx hb hown (hts (.constant RX10 325 (-1000010)) (by decide +kernel)) dX10_finding_5 ?_
  refine lv_iload_n hx hb dX10_finding_8 rfl (lv_at hl 1 rfl) ?_
  refine lv_isub hx hb dX10_finding_9 ?_
  refine lv_topi (fun v1 ev1 => ?_)
  have hP9 := hP.sub (ws' := []) [] rfl
  have hD9 := hD.sub (ws' := []) [] (by decide) rfl
  exact W.iret (v := v1) hx hb hr (fun t ht hW => ⟨⟨v1, (), rfl, ev1, by rw [ht]; exact hP9, va_K.moved hW.alike hK, hD9⟩, hS.F ht⟩) hS.2.2 dX10_finding_10

set_option maxHeartbeats 4000000 in
set_option maxRecDepth 100000 in
theorem ct_X10_passed (l : Launch) (D : va_G) (cI cY cJ cQ : ClassId) (sz : Nat) (ad : Nat → Nat) (a : Int32)   : Met l yX10_passed wsX10_passed ({ frames := 0, cells := 0, slots := 0, locals := 0 }) (cPre D (ty4 cI cY cJ cQ) [((ad 0), .inr (10, [.ref (ad 1), .ref (ad 2), .ref (ad 3), .ref (ad 4), .ref (ad 5), .ref (ad 6), .ref (ad 7), .ref (ad 8), .ref (ad 9), .ref (ad 10), .ref (ad 11), .int 0, .int 0, .int 0]))] sz [.ref (ad 0), .int a]) (va_Qi (fun (r : Int32) (u : Unit) => r = a) (cB D (ty4 cI cY cJ cQ) (fun (u : Unit) => []) (va_A [((ad 0), .inr (10, [.ref (ad 1), .ref (ad 2), .ref (ad 3), .ref (ad 4), .ref (ad 5), .ref (ad 6), .ref (ad 7), .ref (ad 8), .ref (ad 9), .ref (ad 10), .ref (ad 11), .int 0, .int 0, .int 0]))] sz)) (va_A [((ad 0), .inr (10, [.ref (ad 1), .ref (ad 2), .ref (ad 3), .ref (ad 4), .ref (ad 5), .ref (ad 6), .ref (ad 7), .ref (ad 8), .ref (ad 9), .ref (ad 10), .ref (ad 11), .int 0, .int 0, .int 0]))] sz)) 0 0 (va_A [((ad 0), .inr (10, [.ref (ad 1), .ref (ad 2), .ref (ad 3), .ref (ad 4), .ref (ad 5), .ref (ad 6), .ref (ad 7), .ref (ad 8), .ref (ad 9), .ref (ad 10), .ref (ad 11), .int 0, .int 0, .int 0]))] sz) := by
  refine Met.ofW (cc := cX10_passed) (maxL := 2) (ret := (some .int)) (by decide) rfl ?_
  intro p e s m args below meth c s₁ B hml hv
  obtain ⟨rfl, hsz, hP, hK, hD0, hN⟩ := hv
  have hx := B.exec
  have hb := B.bytes
  have hr := B.returns
  have hts := atoms_spec (ws := wsX10_passed) B.pre
  have hown : s.vm.findClass RX10 = some m.cls := findClass_of_methodNamed B.named
  have hlocks := B.notSynchronized
  subst hsz
  have hD := hD0.self (sz := s.heap.size)
  generalize hAe : va_A [((ad 0), .inr (10, [.ref (ad 1), .ref (ad 2), .ref (ad 3), .ref (ad 4), .ref (ad 5), .ref (ad 6), .ref (ad 7), .ref (ad 8), .ref (ad 9), .ref (ad 10), .ref (ad 11), .int 0, .int 0, .int 0]))] s.heap.size = A at hD ⊢
  have hA : ∀ q : Nat, s.heap.size ≤ q → A q := fun q h => by rw [← hAe]; exact Or.inr h
  have hS : va_S A s.heap s.heap [] := va_S.rf
  have hP : va_P D vwCl [((ad 0), .inr (10, [.ref (ad 1), .ref (ad 2), .ref (ad 3), .ref (ad 4), .ref (ad 5), .ref (ad 6), .ref (ad 7), .ref (ad 8), .ref (ad 9), .ref (ad 10), .ref (ad 11), .int 0, .int 0, .int 0]))] s.heap := hP
  have hl := lv_entry ([.ref (ad 0), .int a]) (n := 2) (Nat.le_of_ble_eq_true rfl)
  rw [lg_entry_eq]
  generalize (lg_sl ([.ref (ad 0), .int a]) ++ List.replicate (2 - (lg_sl ([.ref (ad 0), .int a])).length) Slot.unset).toArray = ls at hl ⊢
  have hl : lv_has ls 2 [(0, .ref (ad 0)), (1, .int a)] := hl
  refine lv_aload_n hx hb dX10_passed_0 rfl (lv_at hl 0 rfl) ?_
  refine lv_iconst (v := 0) hx hb dX10_passed_1 (by decide) ?_
  refine va_put (D := D) (ci := 10) (v := .int 0) (ty := .int) (C := RX10) (T := TX10) (N := 14) hx hb hts (by decide +kernel) tyX10 tyX10_ok nmX10 hown hK hP hD hS 0 rfl rfl 13 (by decide) (hts (.fieldLink RX10 322 "PortRooms" "latestFinding" "I") (by decide +kernel)) (fun _ h9 => h9) rfl (by decide +kernel) rfl rfl (Nat.le_of_ble_eq_true rfl) dX10_passed_2 (fun H locs hP hD hS => ?_)
  replace hP : va_P D vwCl [((ad 0), .inr (10, [.ref (ad 1), .ref (ad 2), .ref (ad 3), .ref (ad 4), .ref (ad 5), .ref (ad 6), .ref (ad 7), .ref (ad 8), .ref (ad 9), .ref (ad 10), .ref (ad 11), .int 0, .int 0, .int 0]))] H := hP
  replace hD : va_D A [((ad 0), .inr (10, [.ref (ad 1), .ref (ad 2), .ref (ad 3), .ref (ad 4), .ref (ad 5), .ref (ad 6), .ref (ad 7), .ref (ad 8), .ref (ad 9), .ref (ad 10), .ref (ad 11), .int 0, .int 0, .int 0]))] := hD
  refine lv_iload_n hx hb dX10_passed_5 rfl (lv_at hl 1 rfl) ?_
  have hP9 := hP.sub (ws' := []) [] rfl
  have hD9 := hD.sub (ws' := []) [] (by decide) rfl
  exact W.iret (v := a) hx hb hr (fun t ht hW => ⟨⟨a, (), rfl, rfl, by rw [ht]; exact hP9, va_K.moved hW.alike hK, hD9⟩, hS.F ht⟩) hS.2.2 dX10_passed_6

set_option maxHeartbeats 4000000 in
set_option maxRecDepth 100000 in
theorem ct_X9_isMissing (l : Launch) (D : va_G) (cI cY cJ cQ : ClassId) (sz : Nat) (ad : Nat → Nat) (a : Int32)  (h1 : 0 ≤ a.toInt) (h2 : a.toInt < 8) : Met l yX9_isMissing wsX9_isMissing ({ frames := 0, cells := 0, slots := 0, locals := 0 }) (cPre D (ty4 cI cY cJ cQ) [((ad 1), .inr (9, [.ref (ad 12), .ref (ad 13), .ref (ad 14)])), ((ad 14), .inl (cI, 8, .inl (fun _ => (-1))))] sz [.ref (ad 1), .int a]) (va_Qi (fun (r : Int32) (u : Unit) => r = 1) (cB D (ty4 cI cY cJ cQ) (fun (u : Unit) => [((ad 1), .inr (9, [.ref (ad 12), .ref (ad 13), .ref (ad 14)])), ((ad 14), .inl (cI, 8, .inl (fun _ => (-1))))]) (va_A [((ad 1), .inr (9, [.ref (ad 12), .ref (ad 13), .ref (ad 14)])), ((ad 14), .inl (cI, 8, .inl (fun _ => (-1))))] sz)) (va_A [((ad 1), .inr (9, [.ref (ad 12), .ref (ad 13), .ref (ad 14)])), ((ad 14), .inl (cI, 8, .inl (fun _ => (-1))))] sz)) 0 0 (va_A [((ad 1), .inr (9, [.ref (ad 12), .ref (ad 13), .ref (ad 14)])), ((ad 14), .inl (cI, 8, .inl (fun _ => (-1))))] sz) := by
  refine Met.ofW (cc := cX9_isMissing) (maxL := 2) (ret := (some .boolean)) (by decide) rfl ?_
  intro p e s m args below meth c s₁ B hml hv
  obtain ⟨rfl, hsz, hP, hK, hD0, hN⟩ := hv
  have hx := B.exec
  have hb := B.bytes
  have hr := B.returns
  have hts := atoms_spec (ws := wsX9_isMissing) B.pre
  have hown : s.vm.findClass RX9 = some m.cls := findClass_of_methodNamed B.named
  have hlocks := B.notSynchronized
  subst hsz
  have hD := hD0.self (sz := s.heap.size)
  generalize hAe : va_A [((ad 1), .inr (9, [.ref (ad 12), .ref (ad 13), .ref (ad 14)])), ((ad 14), .inl (cI, 8, .inl (fun _ => (-1))))] s.heap.size = A at hD ⊢
  have hA : ∀ q : Nat, s.heap.size ≤ q → A q := fun q h => by rw [← hAe]; exact Or.inr h
  have hS : va_S A s.heap s.heap [] := va_S.rf
  have hP : va_P D vwCl [((ad 1), .inr (9, [.ref (ad 12), .ref (ad 13), .ref (ad 14)])), ((ad 14), .inl (cI, 8, .inl (fun _ => (-1))))] s.heap := hP
  have hl := lv_entry ([.ref (ad 1), .int a]) (n := 2) (Nat.le_of_ble_eq_true rfl)
  rw [lg_entry_eq]
  generalize (lg_sl ([.ref (ad 1), .int a]) ++ List.replicate (2 - (lg_sl ([.ref (ad 1), .int a])).length) Slot.unset).toArray = ls at hl ⊢
  have hl : lv_has ls 2 [(0, .ref (ad 1)), (1, .int a)] := hl
  refine lv_aload_n hx hb dX9_isMissing_0 rfl (lv_at hl 0 rfl) ?_
  refine va_get (D := D) (ci := 9) (v := .ref (ad 14)) (C := RX9) (T := TX9) (N := 3) hx hb hts (by decide +kernel) hown hK hP 0 rfl rfl 2 (by decide) (hts (.fieldLink RX9 20 "PortRooms$Sheets" "size" "[I") (by decide +kernel)) (fun _ h9 => h9) rfl dX9_isMissing_1 ?_
  refine lv_iload_n hx hb dX9_isMissing_4 rfl (lv_at hl 1 rfl) ?_
  refine va_iald hx hb hK hP 1 0 rfl rfl (i_in (by omega) (by omega)) dX9_isMissing_5 ?_
  refine lv_topi (fun v1 ev1 => ?_)
  have ev1 : v1 = (-1) := ev1
  subst ev1
  refine lv_iconst (v := (-1)) hx hb dX9_isMissing_6 (by decide) ?_
  refine lv_icmp_ne (tgt := 14) hx hb dX9_isMissing_7 (by decide) (fun c => absurd c (by decide)) (fun _ => ?_)
  refine lv_iconst (v := 1) hx hb dX9_isMissing_10 (by decide) ?_
  refine lv_goto (tgt := 15) hx hb dX9_isMissing_11 (by decide) ?_
  have hP9 := hP.sub (ws' := [((ad 1), .inr (9, [.ref (ad 12), .ref (ad 13), .ref (ad 14)])), ((ad 14), .inl (cI, 8, .inl (fun _ => (-1))))]) [0, 1] rfl
  have hD9 := hD.sub (ws' := [((ad 1), .inr (9, [.ref (ad 12), .ref (ad 13), .ref (ad 14)])), ((ad 14), .inl (cI, 8, .inl (fun _ => (-1))))]) [0, 1] (by decide) rfl
  exact W.zret (v := 1) hx hb hr rfl (fun t ht hW => ⟨⟨1, (), rfl, rfl, by rw [ht]; exact hP9, va_K.moved hW.alike hK, hD9⟩, hS.F ht⟩) hS.2.2 dX9_isMissing_15

set_option maxHeartbeats 4000000 in
set_option maxRecDepth 100000 in
theorem ct_X10_set (l : Launch) (D : va_G) (cI cY cJ cQ : ClassId) (sz : Nat) (ad : Nat → Nat) (a i v : Int32)   : Met l yX10_set wsX10_set ({ frames := 1, cells := 0, slots := 0, locals := 21 }) (cPre D (ty4 cI cY cJ cQ) [((ad 0), .inr (10, [.ref (ad 1), .ref (ad 2), .ref (ad 3), .ref (ad 4), .ref (ad 5), .ref (ad 6), .ref (ad 7), .ref (ad 8), .ref (ad 9), .ref (ad 10), .ref (ad 11), .int 0, .int 0, .int 0])), ((ad 1), .inr (9, [.ref (ad 12), .ref (ad 13), .ref (ad 14)])), ((ad 14), .inl (cI, 8, .inl (fun _ => (-1))))] sz [.ref (ad 0), .int a, .int i, .int v]) (va_Qi (fun (r : Int32) (u : Unit) => r = an_set a i v) (cB D (ty4 cI cY cJ cQ) (fun (u : Unit) => []) (va_A [((ad 0), .inr (10, [.ref (ad 1), .ref (ad 2), .ref (ad 3), .ref (ad 4), .ref (ad 5), .ref (ad 6), .ref (ad 7), .ref (ad 8), .ref (ad 9), .ref (ad 10), .ref (ad 11), .int 0, .int 0, .int 0])), ((ad 1), .inr (9, [.ref (ad 12), .ref (ad 13), .ref (ad 14)])), ((ad 14), .inl (cI, 8, .inl (fun _ => (-1))))] sz)) (va_A [((ad 0), .inr (10, [.ref (ad 1), .ref (ad 2), .ref (ad 3), .ref (ad 4), .ref (ad 5), .ref (ad 6), .ref (ad 7), .ref (ad 8), .ref (ad 9), .ref (ad 10), .ref (ad 11), .int 0, .int 0, .int 0])), ((ad 1), .inr (9, [.ref (ad 12), .ref (ad 13), .ref (ad 14)])), ((ad 14), .inl (cI, 8, .inl (fun _ => (-1))))] sz)) 0 0 (va_A [((ad 0), .inr (10, [.ref (ad 1), .ref (ad 2), .ref (ad 3), .ref (ad 4), .ref (ad 5), .ref (ad 6), .ref (ad 7), .ref (ad 8), .ref (ad 9), .ref (ad 10), .ref (ad 11), .int 0, .int 0, .int 0])), ((ad 1), .inr (9, [.ref (ad 12), .ref (ad 13), .ref (ad 14)])), ((ad 14), .inl (cI, 8, .inl (fun _ => (-1))))] sz) := by
  refine Met.ofW (cc := cX10_set) (maxL := 4) (ret := (some .int)) (by decide) rfl ?_
  intro p e s m args below meth c s₁ B hml hv
  obtain ⟨rfl, hsz, hP, hK, hD0, hN⟩ := hv
  have hx := B.exec
  have hb := B.bytes
  have hr := B.returns
  have hts := atoms_spec (ws := wsX10_set) B.pre
  have hown : s.vm.findClass RX10 = some m.cls := findClass_of_methodNamed B.named
  have hlocks := B.notSynchronized
  subst hsz
  have hD := hD0.self (sz := s.heap.size)
  generalize hAe : va_A [((ad 0), .inr (10, [.ref (ad 1), .ref (ad 2), .ref (ad 3), .ref (ad 4), .ref (ad 5), .ref (ad 6), .ref (ad 7), .ref (ad 8), .ref (ad 9), .ref (ad 10), .ref (ad 11), .int 0, .int 0, .int 0])), ((ad 1), .inr (9, [.ref (ad 12), .ref (ad 13), .ref (ad 14)])), ((ad 14), .inl (cI, 8, .inl (fun _ => (-1))))] s.heap.size = A at hD ⊢
  have hA : ∀ q : Nat, s.heap.size ≤ q → A q := fun q h => by rw [← hAe]; exact Or.inr h
  have hS : va_S A s.heap s.heap [] := va_S.rf
  have hP : va_P D vwCl [((ad 0), .inr (10, [.ref (ad 1), .ref (ad 2), .ref (ad 3), .ref (ad 4), .ref (ad 5), .ref (ad 6), .ref (ad 7), .ref (ad 8), .ref (ad 9), .ref (ad 10), .ref (ad 11), .int 0, .int 0, .int 0])), ((ad 1), .inr (9, [.ref (ad 12), .ref (ad 13), .ref (ad 14)])), ((ad 14), .inl (cI, 8, .inl (fun _ => (-1))))] s.heap := hP
  have hl := lv_entry ([.ref (ad 0), .int a, .int i, .int v]) (n := 4) (Nat.le_of_ble_eq_true rfl)
  rw [lg_entry_eq]
  generalize (lg_sl ([.ref (ad 0), .int a, .int i, .int v]) ++ List.replicate (4 - (lg_sl ([.ref (ad 0), .int a, .int i, .int v])).length) Slot.unset).toArray = ls at hl ⊢
  have hl : lv_has ls 4 [(0, .ref (ad 0)), (1, .int a), (2, .int i), (3, .int v)] := hl
  have k0 : (0 : Int32).toInt = 0 := by decide
  have k1 : (1 : Int32).toInt = 1 := by decide
  have k8 : (8 : Int32).toInt = 8 := by decide
  refine lv_iload_n hx hb dX10_set_0 rfl (lv_at hl 1 rfl) ?_
  refine lv_bipush (v := 8) hx hb dX10_set_1 (by decide) ?_
  refine st_i (wr := [((ad 0), .inr (10, [.ref (ad 1), .ref (ad 2), .ref (ad 3), .ref (ad 4), .ref (ad 5), .ref (ad 6), .ref (ad 7), .ref (ad 8), .ref (ad 9), .ref (ad 10), .ref (ad 11), .int 0, .int 0, .int 0])), ((ad 1), .inr (9, [.ref (ad 12), .ref (ad 13), .ref (ad 14)])), ((ad 14), .inl (cI, 8, .inl (fun _ => (-1))))]) (va_runS (As := [.int a, .int 8]) (rest := []) ⟨hx, hb, hml, hown, hts⟩ (ct_X10_isBelow l D cI cY cJ cQ _ a (8)) (va_cwS 2 hts gX10_set_X10_isBelow rfl rfl rfl (by decide +kernel) ⟨Nat.le_of_ble_eq_true rfl, Nat.le_of_ble_eq_true rfl⟩) (cPreS (hP.sub [] rfl) hK (hD.sub [] (by decide) rfl) hN) rfl rfl hl.1 rfl (lv_room (Nat.le_of_ble_eq_true rfl)) dX10_set_3 ⟨Nat.le_of_ble_eq_true rfl, Nat.le_of_ble_eq_true rfl⟩) hP hD hS hA [] [0, 1, 2] rfl rfl (by decide) (by decide) (fun r3 u1 H locs hw2 hP hD hS => ?_)
  replace hP : va_P D vwCl [((ad 0), .inr (10, [.ref (ad 1), .ref (ad 2), .ref (ad 3), .ref (ad 4), .ref (ad 5), .ref (ad 6), .ref (ad 7), .ref (ad 8), .ref (ad 9), .ref (ad 10), .ref (ad 11), .int 0, .int 0, .int 0])), ((ad 1), .inr (9, [.ref (ad 12), .ref (ad 13), .ref (ad 14)])), ((ad 14), .inl (cI, 8, .inl (fun _ => (-1))))] H := hP
  replace hD : va_D A [((ad 0), .inr (10, [.ref (ad 1), .ref (ad 2), .ref (ad 3), .ref (ad 4), .ref (ad 5), .ref (ad 6), .ref (ad 7), .ref (ad 8), .ref (ad 9), .ref (ad 10), .ref (ad 11), .int 0, .int 0, .int 0])), ((ad 1), .inr (9, [.ref (ad 12), .ref (ad 13), .ref (ad 14)])), ((ad 14), .inl (cI, 8, .inl (fun _ => (-1))))] := hD
  refine lv_if_ne (tgt := 12) hx hb dX10_set_6 (by decide) (fun c4 => ?_) (fun c4 => ?_)
  · skip
    have f5 := bo_t hw2 c4
    refine lv_aload_n hx hb dX10_set_12 rfl (lv_at hl 0 rfl) ?_
    refine va_get (D := D) (ci := 10) (v := .ref (ad 1)) (C := RX10) (T := TX10) (N := 14) hx hb hts (by decide +kernel) hown hK hP 0 rfl rfl 0 (by decide) (hts (.fieldLink RX10 10 "PortRooms" "sheets" "LPortRooms$Sheets;") (by decide +kernel)) (fun _ h9 => h9) rfl dX10_set_13 ?_
    refine lv_iload_n hx hb dX10_set_16 rfl (lv_at hl 1 rfl) ?_
    refine st_i (wr := [((ad 0), .inr (10, [.ref (ad 1), .ref (ad 2), .ref (ad 3), .ref (ad 4), .ref (ad 5), .ref (ad 6), .ref (ad 7), .ref (ad 8), .ref (ad 9), .ref (ad 10), .ref (ad 11), .int 0, .int 0, .int 0]))]) (va_runV (C := RX9) (As := [.int a]) (rest := []) ⟨hx, hb, hml, hown, hts⟩ (ct_X9_isMissing l D cI cY cJ cQ _ ad a (by omega) (by omega)) (cwV 1 hts gX10_set_X9_isMissing rfl rfl rfl (by decide +kernel) ⟨Nat.le_of_ble_eq_true rfl, Nat.le_of_ble_eq_true rfl⟩) (cPreV (hP.sub [1, 2] rfl) hK (hD.sub [1, 2] (by decide) rfl) hN (ci := 9) (q0 := 0) rfl rfl) rfl rfl hl.1 rfl (lv_room (Nat.le_of_ble_eq_true rfl)) dX10_set_17 ⟨Nat.le_of_ble_eq_true rfl, Nat.le_of_ble_eq_true rfl⟩) hP hD hS hA [1, 2] [0] rfl rfl (by decide) (by decide) (fun r8 u6 H locs hw7 hP hD hS => ?_)
    replace hP : va_P D vwCl [((ad 0), .inr (10, [.ref (ad 1), .ref (ad 2), .ref (ad 3), .ref (ad 4), .ref (ad 5), .ref (ad 6), .ref (ad 7), .ref (ad 8), .ref (ad 9), .ref (ad 10), .ref (ad 11), .int 0, .int 0, .int 0])), ((ad 1), .inr (9, [.ref (ad 12), .ref (ad 13), .ref (ad 14)])), ((ad 14), .inl (cI, 8, .inl (fun _ => (-1))))] H := hP
    replace hD : va_D A [((ad 0), .inr (10, [.ref (ad 1), .ref (ad 2), .ref (ad 3), .ref (ad 4), .ref (ad 5), .ref (ad 6), .ref (ad 7), .ref (ad 8), .ref (ad 9), .ref (ad 10), .ref (ad 11), .int 0, .int 0, .int 0])), ((ad 1), .inr (9, [.ref (ad 12), .ref (ad 13), .ref (ad 14)])), ((ad 14), .inl (cI, 8, .inl (fun _ => (-1))))] := hD
    subst hw7
    refine lv_if_eq (tgt := 29) hx hb dX10_set_20 (by decide) (fun c => absurd c (by decide)) (fun _ => ?_)
    refine lv_aload_n hx hb dX10_set_23 rfl (lv_at hl 0 rfl) ?_
    refine lv_iconst (v := 1) hx hb dX10_set_24 (by decide) ?_
    refine st_i (wr := [((ad 1), .inr (9, [.ref (ad 12), .ref (ad 13), .ref (ad 14)])), ((ad 14), .inl (cI, 8, .inl (fun _ => (-1))))]) (va_runV (C := RX10) (As := [.int 1]) (rest := []) ⟨hx, hb, hml, hown, hts⟩ (ct_X10_finding l D cI cY cJ cQ _ ad (1)) (cwV 1 hts gX10_set_X10_finding rfl rfl rfl (by decide +kernel) ⟨Nat.le_of_ble_eq_true rfl, Nat.le_of_ble_eq_true rfl⟩) (cPreV (hP.sub [0] rfl) hK (hD.sub [0] (by decide) rfl) hN (ci := 10) (q0 := 0) rfl rfl) rfl rfl hl.1 rfl (lv_room (Nat.le_of_ble_eq_true rfl)) dX10_set_25 ⟨Nat.le_of_ble_eq_true rfl, Nat.le_of_ble_eq_true rfl⟩) hP hD hS hA [0] [1, 2] rfl rfl (by decide) (by decide) (fun r11 u9 H locs hw10 hP hD hS => ?_)
    replace hP : va_P D vwCl [((ad 1), .inr (9, [.ref (ad 12), .ref (ad 13), .ref (ad 14)])), ((ad 14), .inl (cI, 8, .inl (fun _ => (-1))))] H := hP
    replace hD : va_D A [((ad 1), .inr (9, [.ref (ad 12), .ref (ad 13), .ref (ad 14)])), ((ad 14), .inl (cI, 8, .inl (fun _ => (-1))))] := hD
    replace hw10 : r11 = (-1000011) := hw10.trans (by decide)
    subst hw10
    have hP9 := hP.sub (ws' := []) [] rfl
    have hD9 := hD.sub (ws' := []) [] (by decide) rfl
    exact W.iret (v := (-1000011)) hx hb hr (fun t ht hW => ⟨⟨(-1000011), (), rfl, (by unfold an_set; (repeat' split) <;> first | rfl | (exfalso; omega)), by rw [ht]; exact hP9, va_K.moved hW.alike hK, hD9⟩, hS.F ht⟩) hS.2.2 dX10_set_28
  · skip
    have f12 := bo_f hw2 c4
    refine lv_ldc hx hb hown (hts (.constant RX10 89 (-1000001)) (by decide +kernel)) dX10_set_9 ?_
    have hP9 := hP.sub (ws' := []) [] rfl
    have hD9 := hD.sub (ws' := []) [] (by decide) rfl
    exact W.iret (v := (-1000001)) hx hb hr (fun t ht hW => ⟨⟨(-1000001), (), rfl, (by unfold an_set; (repeat' split) <;> first | rfl | (exfalso; omega)), by rw [ht]; exact hP9, va_K.moved hW.alike hK, hD9⟩, hS.F ht⟩) hS.2.2 dX10_set_11

set_option maxHeartbeats 4000000 in
set_option maxRecDepth 100000 in
theorem ct_X10_copy (l : Launch) (D : va_G) (cI cY cJ cQ : ClassId) (sz : Nat) (ad : Nat → Nat) (a i b j n : Int32)   : Met l yX10_copy wsX10_copy ({ frames := 1, cells := 0, slots := 0, locals := 21 }) (cPre D (ty4 cI cY cJ cQ) [((ad 0), .inr (10, [.ref (ad 1), .ref (ad 2), .ref (ad 3), .ref (ad 4), .ref (ad 5), .ref (ad 6), .ref (ad 7), .ref (ad 8), .ref (ad 9), .ref (ad 10), .ref (ad 11), .int 0, .int 0, .int 0])), ((ad 1), .inr (9, [.ref (ad 12), .ref (ad 13), .ref (ad 14)])), ((ad 14), .inl (cI, 8, .inl (fun _ => (-1))))] sz [.ref (ad 0), .int a, .int i, .int b, .int j, .int n]) (va_Qi (fun (r : Int32) (u : Unit) => r = an_copy a i b j n) (cB D (ty4 cI cY cJ cQ) (fun (u : Unit) => []) (va_A [((ad 0), .inr (10, [.ref (ad 1), .ref (ad 2), .ref (ad 3), .ref (ad 4), .ref (ad 5), .ref (ad 6), .ref (ad 7), .ref (ad 8), .ref (ad 9), .ref (ad 10), .ref (ad 11), .int 0, .int 0, .int 0])), ((ad 1), .inr (9, [.ref (ad 12), .ref (ad 13), .ref (ad 14)])), ((ad 14), .inl (cI, 8, .inl (fun _ => (-1))))] sz)) (va_A [((ad 0), .inr (10, [.ref (ad 1), .ref (ad 2), .ref (ad 3), .ref (ad 4), .ref (ad 5), .ref (ad 6), .ref (ad 7), .ref (ad 8), .ref (ad 9), .ref (ad 10), .ref (ad 11), .int 0, .int 0, .int 0])), ((ad 1), .inr (9, [.ref (ad 12), .ref (ad 13), .ref (ad 14)])), ((ad 14), .inl (cI, 8, .inl (fun _ => (-1))))] sz)) 0 0 (va_A [((ad 0), .inr (10, [.ref (ad 1), .ref (ad 2), .ref (ad 3), .ref (ad 4), .ref (ad 5), .ref (ad 6), .ref (ad 7), .ref (ad 8), .ref (ad 9), .ref (ad 10), .ref (ad 11), .int 0, .int 0, .int 0])), ((ad 1), .inr (9, [.ref (ad 12), .ref (ad 13), .ref (ad 14)])), ((ad 14), .inl (cI, 8, .inl (fun _ => (-1))))] sz) := by
  refine Met.ofW (cc := cX10_copy) (maxL := 6) (ret := (some .int)) (by decide) rfl ?_
  intro p e s m args below meth c s₁ B hml hv
  obtain ⟨rfl, hsz, hP, hK, hD0, hN⟩ := hv
  have hx := B.exec
  have hb := B.bytes
  have hr := B.returns
  have hts := atoms_spec (ws := wsX10_copy) B.pre
  have hown : s.vm.findClass RX10 = some m.cls := findClass_of_methodNamed B.named
  have hlocks := B.notSynchronized
  subst hsz
  have hD := hD0.self (sz := s.heap.size)
  generalize hAe : va_A [((ad 0), .inr (10, [.ref (ad 1), .ref (ad 2), .ref (ad 3), .ref (ad 4), .ref (ad 5), .ref (ad 6), .ref (ad 7), .ref (ad 8), .ref (ad 9), .ref (ad 10), .ref (ad 11), .int 0, .int 0, .int 0])), ((ad 1), .inr (9, [.ref (ad 12), .ref (ad 13), .ref (ad 14)])), ((ad 14), .inl (cI, 8, .inl (fun _ => (-1))))] s.heap.size = A at hD ⊢
  have hA : ∀ q : Nat, s.heap.size ≤ q → A q := fun q h => by rw [← hAe]; exact Or.inr h
  have hS : va_S A s.heap s.heap [] := va_S.rf
  have hP : va_P D vwCl [((ad 0), .inr (10, [.ref (ad 1), .ref (ad 2), .ref (ad 3), .ref (ad 4), .ref (ad 5), .ref (ad 6), .ref (ad 7), .ref (ad 8), .ref (ad 9), .ref (ad 10), .ref (ad 11), .int 0, .int 0, .int 0])), ((ad 1), .inr (9, [.ref (ad 12), .ref (ad 13), .ref (ad 14)])), ((ad 14), .inl (cI, 8, .inl (fun _ => (-1))))] s.heap := hP
  have hl := lv_entry ([.ref (ad 0), .int a, .int i, .int b, .int j, .int n]) (n := 6) (Nat.le_of_ble_eq_true rfl)
  rw [lg_entry_eq]
  generalize (lg_sl ([.ref (ad 0), .int a, .int i, .int b, .int j, .int n]) ++ List.replicate (6 - (lg_sl ([.ref (ad 0), .int a, .int i, .int b, .int j, .int n])).length) Slot.unset).toArray = ls at hl ⊢
  have hl : lv_has ls 6 [(0, .ref (ad 0)), (1, .int a), (2, .int i), (3, .int b), (4, .int j), (5, .int n)] := hl
  have k0 : (0 : Int32).toInt = 0 := by decide
  have k1 : (1 : Int32).toInt = 1 := by decide
  have k8 : (8 : Int32).toInt = 8 := by decide
  refine lv_iload_n hx hb dX10_copy_0 rfl (lv_at hl 1 rfl) ?_
  refine lv_bipush (v := 8) hx hb dX10_copy_1 (by decide) ?_
  refine st_i (wr := [((ad 0), .inr (10, [.ref (ad 1), .ref (ad 2), .ref (ad 3), .ref (ad 4), .ref (ad 5), .ref (ad 6), .ref (ad 7), .ref (ad 8), .ref (ad 9), .ref (ad 10), .ref (ad 11), .int 0, .int 0, .int 0])), ((ad 1), .inr (9, [.ref (ad 12), .ref (ad 13), .ref (ad 14)])), ((ad 14), .inl (cI, 8, .inl (fun _ => (-1))))]) (va_runS (As := [.int a, .int 8]) (rest := []) ⟨hx, hb, hml, hown, hts⟩ (ct_X10_isBelow l D cI cY cJ cQ _ a (8)) (va_cwS 2 hts gX10_copy_X10_isBelow rfl rfl rfl (by decide +kernel) ⟨Nat.le_of_ble_eq_true rfl, Nat.le_of_ble_eq_true rfl⟩) (cPreS (hP.sub [] rfl) hK (hD.sub [] (by decide) rfl) hN) rfl rfl hl.1 rfl (lv_room (Nat.le_of_ble_eq_true rfl)) dX10_copy_3 ⟨Nat.le_of_ble_eq_true rfl, Nat.le_of_ble_eq_true rfl⟩) hP hD hS hA [] [0, 1, 2] rfl rfl (by decide) (by decide) (fun r3 u1 H locs hw2 hP hD hS => ?_)
  replace hP : va_P D vwCl [((ad 0), .inr (10, [.ref (ad 1), .ref (ad 2), .ref (ad 3), .ref (ad 4), .ref (ad 5), .ref (ad 6), .ref (ad 7), .ref (ad 8), .ref (ad 9), .ref (ad 10), .ref (ad 11), .int 0, .int 0, .int 0])), ((ad 1), .inr (9, [.ref (ad 12), .ref (ad 13), .ref (ad 14)])), ((ad 14), .inl (cI, 8, .inl (fun _ => (-1))))] H := hP
  replace hD : va_D A [((ad 0), .inr (10, [.ref (ad 1), .ref (ad 2), .ref (ad 3), .ref (ad 4), .ref (ad 5), .ref (ad 6), .ref (ad 7), .ref (ad 8), .ref (ad 9), .ref (ad 10), .ref (ad 11), .int 0, .int 0, .int 0])), ((ad 1), .inr (9, [.ref (ad 12), .ref (ad 13), .ref (ad 14)])), ((ad 14), .inl (cI, 8, .inl (fun _ => (-1))))] := hD
  refine lv_if_eq (tgt := 18) hx hb dX10_copy_6 (by decide) (fun c4 => ?_) (fun c4 => ?_)
  · skip
    have f5 := bo_f hw2 c4
    refine lv_ldc hx hb hown (hts (.constant RX10 89 (-1000001)) (by decide +kernel)) dX10_copy_18 ?_
    have hP9 := hP.sub (ws' := []) [] rfl
    have hD9 := hD.sub (ws' := []) [] (by decide) rfl
    exact W.iret (v := (-1000001)) hx hb hr (fun t ht hW => ⟨⟨(-1000001), (), rfl, (by unfold an_copy; (repeat' split) <;> first | rfl | (exfalso; omega)), by rw [ht]; exact hP9, va_K.moved hW.alike hK, hD9⟩, hS.F ht⟩) hS.2.2 dX10_copy_20
  · skip
    have f6 := bo_t hw2 c4
    refine lv_iload_n hx hb dX10_copy_9 rfl (lv_at hl 3 rfl) ?_
    refine lv_bipush (v := 8) hx hb dX10_copy_10 (by decide) ?_
    refine st_i (wr := [((ad 0), .inr (10, [.ref (ad 1), .ref (ad 2), .ref (ad 3), .ref (ad 4), .ref (ad 5), .ref (ad 6), .ref (ad 7), .ref (ad 8), .ref (ad 9), .ref (ad 10), .ref (ad 11), .int 0, .int 0, .int 0])), ((ad 1), .inr (9, [.ref (ad 12), .ref (ad 13), .ref (ad 14)])), ((ad 14), .inl (cI, 8, .inl (fun _ => (-1))))]) (va_runS (As := [.int b, .int 8]) (rest := []) ⟨hx, hb, hml, hown, hts⟩ (ct_X10_isBelow l D cI cY cJ cQ _ b (8)) (va_cwS 2 hts gX10_copy_X10_isBelow rfl rfl rfl (by decide +kernel) ⟨Nat.le_of_ble_eq_true rfl, Nat.le_of_ble_eq_true rfl⟩) (cPreS (hP.sub [] rfl) hK (hD.sub [] (by decide) rfl) hN) rfl rfl hl.1 rfl (lv_room (Nat.le_of_ble_eq_true rfl)) dX10_copy_12 ⟨Nat.le_of_ble_eq_true rfl, Nat.le_of_ble_eq_true rfl⟩) hP hD hS hA [] [0, 1, 2] rfl rfl (by decide) (by decide) (fun r9 u7 H locs hw8 hP hD hS => ?_)
    replace hP : va_P D vwCl [((ad 0), .inr (10, [.ref (ad 1), .ref (ad 2), .ref (ad 3), .ref (ad 4), .ref (ad 5), .ref (ad 6), .ref (ad 7), .ref (ad 8), .ref (ad 9), .ref (ad 10), .ref (ad 11), .int 0, .int 0, .int 0])), ((ad 1), .inr (9, [.ref (ad 12), .ref (ad 13), .ref (ad 14)])), ((ad 14), .inl (cI, 8, .inl (fun _ => (-1))))] H := hP
    replace hD : va_D A [((ad 0), .inr (10, [.ref (ad 1), .ref (ad 2), .ref (ad 3), .ref (ad 4), .ref (ad 5), .ref (ad 6), .ref (ad 7), .ref (ad 8), .ref (ad 9), .ref (ad 10), .ref (ad 11), .int 0, .int 0, .int 0])), ((ad 1), .inr (9, [.ref (ad 12), .ref (ad 13), .ref (ad 14)])), ((ad 14), .inl (cI, 8, .inl (fun _ => (-1))))] := hD
    refine lv_if_ne (tgt := 21) hx hb dX10_copy_15 (by decide) (fun c10 => ?_) (fun c10 => ?_)
    · skip
      have f11 := bo_t hw8 c10
      refine lv_aload_n hx hb dX10_copy_21 rfl (lv_at hl 0 rfl) ?_
      refine va_get (D := D) (ci := 10) (v := .ref (ad 1)) (C := RX10) (T := TX10) (N := 14) hx hb hts (by decide +kernel) hown hK hP 0 rfl rfl 0 (by decide) (hts (.fieldLink RX10 10 "PortRooms" "sheets" "LPortRooms$Sheets;") (by decide +kernel)) (fun _ h9 => h9) rfl dX10_copy_22 ?_
      refine lv_iload_n hx hb dX10_copy_25 rfl (lv_at hl 1 rfl) ?_
      refine st_i (wr := [((ad 0), .inr (10, [.ref (ad 1), .ref (ad 2), .ref (ad 3), .ref (ad 4), .ref (ad 5), .ref (ad 6), .ref (ad 7), .ref (ad 8), .ref (ad 9), .ref (ad 10), .ref (ad 11), .int 0, .int 0, .int 0]))]) (va_runV (C := RX9) (As := [.int a]) (rest := []) ⟨hx, hb, hml, hown, hts⟩ (ct_X9_isMissing l D cI cY cJ cQ _ ad a (by omega) (by omega)) (cwV 1 hts gX10_copy_X9_isMissing rfl rfl rfl (by decide +kernel) ⟨Nat.le_of_ble_eq_true rfl, Nat.le_of_ble_eq_true rfl⟩) (cPreV (hP.sub [1, 2] rfl) hK (hD.sub [1, 2] (by decide) rfl) hN (ci := 9) (q0 := 0) rfl rfl) rfl rfl hl.1 rfl (lv_room (Nat.le_of_ble_eq_true rfl)) dX10_copy_26 ⟨Nat.le_of_ble_eq_true rfl, Nat.le_of_ble_eq_true rfl⟩) hP hD hS hA [1, 2] [0] rfl rfl (by decide) (by decide) (fun r14 u12 H locs hw13 hP hD hS => ?_)
      replace hP : va_P D vwCl [((ad 0), .inr (10, [.ref (ad 1), .ref (ad 2), .ref (ad 3), .ref (ad 4), .ref (ad 5), .ref (ad 6), .ref (ad 7), .ref (ad 8), .ref (ad 9), .ref (ad 10), .ref (ad 11), .int 0, .int 0, .int 0])), ((ad 1), .inr (9, [.ref (ad 12), .ref (ad 13), .ref (ad 14)])), ((ad 14), .inl (cI, 8, .inl (fun _ => (-1))))] H := hP
      replace hD : va_D A [((ad 0), .inr (10, [.ref (ad 1), .ref (ad 2), .ref (ad 3), .ref (ad 4), .ref (ad 5), .ref (ad 6), .ref (ad 7), .ref (ad 8), .ref (ad 9), .ref (ad 10), .ref (ad 11), .int 0, .int 0, .int 0])), ((ad 1), .inr (9, [.ref (ad 12), .ref (ad 13), .ref (ad 14)])), ((ad 14), .inl (cI, 8, .inl (fun _ => (-1))))] := hD
      subst hw13
      refine lv_if_ne (tgt := 43) hx hb dX10_copy_29 (by decide) (fun _ => ?_) (fun c => absurd c (by decide))
      refine lv_aload_n hx hb dX10_copy_43 rfl (lv_at hl 0 rfl) ?_
      refine lv_iconst (v := 1) hx hb dX10_copy_44 (by decide) ?_
      refine st_i (wr := [((ad 1), .inr (9, [.ref (ad 12), .ref (ad 13), .ref (ad 14)])), ((ad 14), .inl (cI, 8, .inl (fun _ => (-1))))]) (va_runV (C := RX10) (As := [.int 1]) (rest := []) ⟨hx, hb, hml, hown, hts⟩ (ct_X10_finding l D cI cY cJ cQ _ ad (1)) (cwV 1 hts gX10_copy_X10_finding rfl rfl rfl (by decide +kernel) ⟨Nat.le_of_ble_eq_true rfl, Nat.le_of_ble_eq_true rfl⟩) (cPreV (hP.sub [0] rfl) hK (hD.sub [0] (by decide) rfl) hN (ci := 10) (q0 := 0) rfl rfl) rfl rfl hl.1 rfl (lv_room (Nat.le_of_ble_eq_true rfl)) dX10_copy_45 ⟨Nat.le_of_ble_eq_true rfl, Nat.le_of_ble_eq_true rfl⟩) hP hD hS hA [0] [1, 2] rfl rfl (by decide) (by decide) (fun r17 u15 H locs hw16 hP hD hS => ?_)
      replace hP : va_P D vwCl [((ad 1), .inr (9, [.ref (ad 12), .ref (ad 13), .ref (ad 14)])), ((ad 14), .inl (cI, 8, .inl (fun _ => (-1))))] H := hP
      replace hD : va_D A [((ad 1), .inr (9, [.ref (ad 12), .ref (ad 13), .ref (ad 14)])), ((ad 14), .inl (cI, 8, .inl (fun _ => (-1))))] := hD
      replace hw16 : r17 = (-1000011) := hw16.trans (by decide)
      subst hw16
      have hP9 := hP.sub (ws' := []) [] rfl
      have hD9 := hD.sub (ws' := []) [] (by decide) rfl
      exact W.iret (v := (-1000011)) hx hb hr (fun t ht hW => ⟨⟨(-1000011), (), rfl, (by unfold an_copy; (repeat' split) <;> first | rfl | (exfalso; omega)), by rw [ht]; exact hP9, va_K.moved hW.alike hK, hD9⟩, hS.F ht⟩) hS.2.2 dX10_copy_48
    · skip
      have f18 := bo_f hw8 c10
      refine lv_ldc hx hb hown (hts (.constant RX10 89 (-1000001)) (by decide +kernel)) dX10_copy_18 ?_
      have hP9 := hP.sub (ws' := []) [] rfl
      have hD9 := hD.sub (ws' := []) [] (by decide) rfl
      exact W.iret (v := (-1000001)) hx hb hr (fun t ht hW => ⟨⟨(-1000001), (), rfl, (by unfold an_copy; (repeat' split) <;> first | rfl | (exfalso; omega)), by rw [ht]; exact hP9, va_K.moved hW.alike hK, hD9⟩, hS.F ht⟩) hS.2.2 dX10_copy_20

set_option maxHeartbeats 4000000 in
set_option maxRecDepth 100000 in
theorem ct_X10_drop (l : Launch) (D : va_G) (cI cY cJ cQ : ClassId) (sz : Nat) (ad : Nat → Nat) (a : Int32)   : Met l yX10_drop wsX10_drop ({ frames := 1, cells := 0, slots := 0, locals := 21 }) (cPre D (ty4 cI cY cJ cQ) [((ad 0), .inr (10, [.ref (ad 1), .ref (ad 2), .ref (ad 3), .ref (ad 4), .ref (ad 5), .ref (ad 6), .ref (ad 7), .ref (ad 8), .ref (ad 9), .ref (ad 10), .ref (ad 11), .int 0, .int 0, .int 0])), ((ad 1), .inr (9, [.ref (ad 12), .ref (ad 13), .ref (ad 14)])), ((ad 14), .inl (cI, 8, .inl (fun _ => (-1))))] sz [.ref (ad 0), .int a]) (va_Qi (fun (r : Int32) (u : Unit) => r = an_drop a) (cB D (ty4 cI cY cJ cQ) (fun (u : Unit) => []) (va_A [((ad 0), .inr (10, [.ref (ad 1), .ref (ad 2), .ref (ad 3), .ref (ad 4), .ref (ad 5), .ref (ad 6), .ref (ad 7), .ref (ad 8), .ref (ad 9), .ref (ad 10), .ref (ad 11), .int 0, .int 0, .int 0])), ((ad 1), .inr (9, [.ref (ad 12), .ref (ad 13), .ref (ad 14)])), ((ad 14), .inl (cI, 8, .inl (fun _ => (-1))))] sz)) (va_A [((ad 0), .inr (10, [.ref (ad 1), .ref (ad 2), .ref (ad 3), .ref (ad 4), .ref (ad 5), .ref (ad 6), .ref (ad 7), .ref (ad 8), .ref (ad 9), .ref (ad 10), .ref (ad 11), .int 0, .int 0, .int 0])), ((ad 1), .inr (9, [.ref (ad 12), .ref (ad 13), .ref (ad 14)])), ((ad 14), .inl (cI, 8, .inl (fun _ => (-1))))] sz)) 0 0 (va_A [((ad 0), .inr (10, [.ref (ad 1), .ref (ad 2), .ref (ad 3), .ref (ad 4), .ref (ad 5), .ref (ad 6), .ref (ad 7), .ref (ad 8), .ref (ad 9), .ref (ad 10), .ref (ad 11), .int 0, .int 0, .int 0])), ((ad 1), .inr (9, [.ref (ad 12), .ref (ad 13), .ref (ad 14)])), ((ad 14), .inl (cI, 8, .inl (fun _ => (-1))))] sz) := by
  refine Met.ofW (cc := cX10_drop) (maxL := 3) (ret := (some .int)) (by decide) rfl ?_
  intro p e s m args below meth c s₁ B hml hv
  obtain ⟨rfl, hsz, hP, hK, hD0, hN⟩ := hv
  have hx := B.exec
  have hb := B.bytes
  have hr := B.returns
  have hts := atoms_spec (ws := wsX10_drop) B.pre
  have hown : s.vm.findClass RX10 = some m.cls := findClass_of_methodNamed B.named
  have hlocks := B.notSynchronized
  subst hsz
  have hD := hD0.self (sz := s.heap.size)
  generalize hAe : va_A [((ad 0), .inr (10, [.ref (ad 1), .ref (ad 2), .ref (ad 3), .ref (ad 4), .ref (ad 5), .ref (ad 6), .ref (ad 7), .ref (ad 8), .ref (ad 9), .ref (ad 10), .ref (ad 11), .int 0, .int 0, .int 0])), ((ad 1), .inr (9, [.ref (ad 12), .ref (ad 13), .ref (ad 14)])), ((ad 14), .inl (cI, 8, .inl (fun _ => (-1))))] s.heap.size = A at hD ⊢
  have hA : ∀ q : Nat, s.heap.size ≤ q → A q := fun q h => by rw [← hAe]; exact Or.inr h
  have hS : va_S A s.heap s.heap [] := va_S.rf
  have hP : va_P D vwCl [((ad 0), .inr (10, [.ref (ad 1), .ref (ad 2), .ref (ad 3), .ref (ad 4), .ref (ad 5), .ref (ad 6), .ref (ad 7), .ref (ad 8), .ref (ad 9), .ref (ad 10), .ref (ad 11), .int 0, .int 0, .int 0])), ((ad 1), .inr (9, [.ref (ad 12), .ref (ad 13), .ref (ad 14)])), ((ad 14), .inl (cI, 8, .inl (fun _ => (-1))))] s.heap := hP
  have hl := lv_entry ([.ref (ad 0), .int a]) (n := 3) (Nat.le_of_ble_eq_true rfl)
  rw [lg_entry_eq]
  generalize (lg_sl ([.ref (ad 0), .int a]) ++ List.replicate (3 - (lg_sl ([.ref (ad 0), .int a])).length) Slot.unset).toArray = ls at hl ⊢
  have hl : lv_has ls 3 [(0, .ref (ad 0)), (1, .int a)] := hl
  have k0 : (0 : Int32).toInt = 0 := by decide
  have k1 : (1 : Int32).toInt = 1 := by decide
  have k8 : (8 : Int32).toInt = 8 := by decide
  refine lv_iload_n hx hb dX10_drop_0 rfl (lv_at hl 1 rfl) ?_
  refine lv_bipush (v := 8) hx hb dX10_drop_1 (by decide) ?_
  refine st_i (wr := [((ad 0), .inr (10, [.ref (ad 1), .ref (ad 2), .ref (ad 3), .ref (ad 4), .ref (ad 5), .ref (ad 6), .ref (ad 7), .ref (ad 8), .ref (ad 9), .ref (ad 10), .ref (ad 11), .int 0, .int 0, .int 0])), ((ad 1), .inr (9, [.ref (ad 12), .ref (ad 13), .ref (ad 14)])), ((ad 14), .inl (cI, 8, .inl (fun _ => (-1))))]) (va_runS (As := [.int a, .int 8]) (rest := []) ⟨hx, hb, hml, hown, hts⟩ (ct_X10_isBelow l D cI cY cJ cQ _ a (8)) (va_cwS 2 hts gX10_drop_X10_isBelow rfl rfl rfl (by decide +kernel) ⟨Nat.le_of_ble_eq_true rfl, Nat.le_of_ble_eq_true rfl⟩) (cPreS (hP.sub [] rfl) hK (hD.sub [] (by decide) rfl) hN) rfl rfl hl.1 rfl (lv_room (Nat.le_of_ble_eq_true rfl)) dX10_drop_3 ⟨Nat.le_of_ble_eq_true rfl, Nat.le_of_ble_eq_true rfl⟩) hP hD hS hA [] [0, 1, 2] rfl rfl (by decide) (by decide) (fun r3 u1 H locs hw2 hP hD hS => ?_)
  replace hP : va_P D vwCl [((ad 0), .inr (10, [.ref (ad 1), .ref (ad 2), .ref (ad 3), .ref (ad 4), .ref (ad 5), .ref (ad 6), .ref (ad 7), .ref (ad 8), .ref (ad 9), .ref (ad 10), .ref (ad 11), .int 0, .int 0, .int 0])), ((ad 1), .inr (9, [.ref (ad 12), .ref (ad 13), .ref (ad 14)])), ((ad 14), .inl (cI, 8, .inl (fun _ => (-1))))] H := hP
  replace hD : va_D A [((ad 0), .inr (10, [.ref (ad 1), .ref (ad 2), .ref (ad 3), .ref (ad 4), .ref (ad 5), .ref (ad 6), .ref (ad 7), .ref (ad 8), .ref (ad 9), .ref (ad 10), .ref (ad 11), .int 0, .int 0, .int 0])), ((ad 1), .inr (9, [.ref (ad 12), .ref (ad 13), .ref (ad 14)])), ((ad 14), .inl (cI, 8, .inl (fun _ => (-1))))] := hD
  refine lv_if_ne (tgt := 12) hx hb dX10_drop_6 (by decide) (fun c4 => ?_) (fun c4 => ?_)
  · skip
    have f5 := bo_t hw2 c4
    refine lv_aload_n hx hb dX10_drop_12 rfl (lv_at hl 0 rfl) ?_
    refine va_get (D := D) (ci := 10) (v := .ref (ad 1)) (C := RX10) (T := TX10) (N := 14) hx hb hts (by decide +kernel) hown hK hP 0 rfl rfl 0 (by decide) (hts (.fieldLink RX10 10 "PortRooms" "sheets" "LPortRooms$Sheets;") (by decide +kernel)) (fun _ h9 => h9) rfl dX10_drop_13 ?_
    refine lv_iload_n hx hb dX10_drop_16 rfl (lv_at hl 1 rfl) ?_
    refine st_i (wr := [((ad 0), .inr (10, [.ref (ad 1), .ref (ad 2), .ref (ad 3), .ref (ad 4), .ref (ad 5), .ref (ad 6), .ref (ad 7), .ref (ad 8), .ref (ad 9), .ref (ad 10), .ref (ad 11), .int 0, .int 0, .int 0]))]) (va_runV (C := RX9) (As := [.int a]) (rest := []) ⟨hx, hb, hml, hown, hts⟩ (ct_X9_isMissing l D cI cY cJ cQ _ ad a (by omega) (by omega)) (cwV 1 hts gX10_drop_X9_isMissing rfl rfl rfl (by decide +kernel) ⟨Nat.le_of_ble_eq_true rfl, Nat.le_of_ble_eq_true rfl⟩) (cPreV (hP.sub [1, 2] rfl) hK (hD.sub [1, 2] (by decide) rfl) hN (ci := 9) (q0 := 0) rfl rfl) rfl rfl hl.1 rfl (lv_room (Nat.le_of_ble_eq_true rfl)) dX10_drop_17 ⟨Nat.le_of_ble_eq_true rfl, Nat.le_of_ble_eq_true rfl⟩) hP hD hS hA [1, 2] [0] rfl rfl (by decide) (by decide) (fun r8 u6 H locs hw7 hP hD hS => ?_)
    replace hP : va_P D vwCl [((ad 0), .inr (10, [.ref (ad 1), .ref (ad 2), .ref (ad 3), .ref (ad 4), .ref (ad 5), .ref (ad 6), .ref (ad 7), .ref (ad 8), .ref (ad 9), .ref (ad 10), .ref (ad 11), .int 0, .int 0, .int 0])), ((ad 1), .inr (9, [.ref (ad 12), .ref (ad 13), .ref (ad 14)])), ((ad 14), .inl (cI, 8, .inl (fun _ => (-1))))] H := hP
    replace hD : va_D A [((ad 0), .inr (10, [.ref (ad 1), .ref (ad 2), .ref (ad 3), .ref (ad 4), .ref (ad 5), .ref (ad 6), .ref (ad 7), .ref (ad 8), .ref (ad 9), .ref (ad 10), .ref (ad 11), .int 0, .int 0, .int 0])), ((ad 1), .inr (9, [.ref (ad 12), .ref (ad 13), .ref (ad 14)])), ((ad 14), .inl (cI, 8, .inl (fun _ => (-1))))] := hD
    subst hw7
    refine lv_if_eq (tgt := 29) hx hb dX10_drop_20 (by decide) (fun c => absurd c (by decide)) (fun _ => ?_)
    refine lv_aload_n hx hb dX10_drop_23 rfl (lv_at hl 0 rfl) ?_
    refine lv_iconst (v := 1) hx hb dX10_drop_24 (by decide) ?_
    refine st_i (wr := [((ad 1), .inr (9, [.ref (ad 12), .ref (ad 13), .ref (ad 14)])), ((ad 14), .inl (cI, 8, .inl (fun _ => (-1))))]) (va_runV (C := RX10) (As := [.int 1]) (rest := []) ⟨hx, hb, hml, hown, hts⟩ (ct_X10_finding l D cI cY cJ cQ _ ad (1)) (cwV 1 hts gX10_drop_X10_finding rfl rfl rfl (by decide +kernel) ⟨Nat.le_of_ble_eq_true rfl, Nat.le_of_ble_eq_true rfl⟩) (cPreV (hP.sub [0] rfl) hK (hD.sub [0] (by decide) rfl) hN (ci := 10) (q0 := 0) rfl rfl) rfl rfl hl.1 rfl (lv_room (Nat.le_of_ble_eq_true rfl)) dX10_drop_25 ⟨Nat.le_of_ble_eq_true rfl, Nat.le_of_ble_eq_true rfl⟩) hP hD hS hA [0] [1, 2] rfl rfl (by decide) (by decide) (fun r11 u9 H locs hw10 hP hD hS => ?_)
    replace hP : va_P D vwCl [((ad 1), .inr (9, [.ref (ad 12), .ref (ad 13), .ref (ad 14)])), ((ad 14), .inl (cI, 8, .inl (fun _ => (-1))))] H := hP
    replace hD : va_D A [((ad 1), .inr (9, [.ref (ad 12), .ref (ad 13), .ref (ad 14)])), ((ad 14), .inl (cI, 8, .inl (fun _ => (-1))))] := hD
    replace hw10 : r11 = (-1000011) := hw10.trans (by decide)
    subst hw10
    have hP9 := hP.sub (ws' := []) [] rfl
    have hD9 := hD.sub (ws' := []) [] (by decide) rfl
    exact W.iret (v := (-1000011)) hx hb hr (fun t ht hW => ⟨⟨(-1000011), (), rfl, (by unfold an_drop; (repeat' split) <;> first | rfl | (exfalso; omega)), by rw [ht]; exact hP9, va_K.moved hW.alike hK, hD9⟩, hS.F ht⟩) hS.2.2 dX10_drop_28
  · skip
    have f12 := bo_f hw2 c4
    refine lv_ldc hx hb hown (hts (.constant RX10 89 (-1000001)) (by decide +kernel)) dX10_drop_9 ?_
    have hP9 := hP.sub (ws' := []) [] rfl
    have hD9 := hD.sub (ws' := []) [] (by decide) rfl
    exact W.iret (v := (-1000001)) hx hb hr (fun t ht hW => ⟨⟨(-1000001), (), rfl, (by unfold an_drop; (repeat' split) <;> first | rfl | (exfalso; omega)), by rw [ht]; exact hP9, va_K.moved hW.alike hK, hD9⟩, hS.F ht⟩) hS.2.2 dX10_drop_11

set_option maxHeartbeats 4000000 in
set_option maxRecDepth 100000 in
theorem ct_X10_holds (l : Launch) (D : va_G) (cI cY cJ cQ : ClassId) (sz : Nat) (ad : Nat → Nat) (a i n : Int32)   : Met l yX10_holds wsX10_holds ({ frames := 1, cells := 0, slots := 0, locals := 22 }) (cPre D (ty4 cI cY cJ cQ) [((ad 0), .inr (10, [.ref (ad 1), .ref (ad 2), .ref (ad 3), .ref (ad 4), .ref (ad 5), .ref (ad 6), .ref (ad 7), .ref (ad 8), .ref (ad 9), .ref (ad 10), .ref (ad 11), .int 0, .int 0, .int 0])), ((ad 1), .inr (9, [.ref (ad 12), .ref (ad 13), .ref (ad 14)])), ((ad 14), .inl (cI, 8, .inl (fun _ => (-1))))] sz [.ref (ad 0), .int a, .int i, .int n]) (va_Qi (fun (r : Int32) (u : Unit) => r = an_holds a i n) (cB D (ty4 cI cY cJ cQ) (fun (u : Unit) => []) (va_A [((ad 0), .inr (10, [.ref (ad 1), .ref (ad 2), .ref (ad 3), .ref (ad 4), .ref (ad 5), .ref (ad 6), .ref (ad 7), .ref (ad 8), .ref (ad 9), .ref (ad 10), .ref (ad 11), .int 0, .int 0, .int 0])), ((ad 1), .inr (9, [.ref (ad 12), .ref (ad 13), .ref (ad 14)])), ((ad 14), .inl (cI, 8, .inl (fun _ => (-1))))] sz)) (va_A [((ad 0), .inr (10, [.ref (ad 1), .ref (ad 2), .ref (ad 3), .ref (ad 4), .ref (ad 5), .ref (ad 6), .ref (ad 7), .ref (ad 8), .ref (ad 9), .ref (ad 10), .ref (ad 11), .int 0, .int 0, .int 0])), ((ad 1), .inr (9, [.ref (ad 12), .ref (ad 13), .ref (ad 14)])), ((ad 14), .inl (cI, 8, .inl (fun _ => (-1))))] sz)) 0 0 (va_A [((ad 0), .inr (10, [.ref (ad 1), .ref (ad 2), .ref (ad 3), .ref (ad 4), .ref (ad 5), .ref (ad 6), .ref (ad 7), .ref (ad 8), .ref (ad 9), .ref (ad 10), .ref (ad 11), .int 0, .int 0, .int 0])), ((ad 1), .inr (9, [.ref (ad 12), .ref (ad 13), .ref (ad 14)])), ((ad 14), .inl (cI, 8, .inl (fun _ => (-1))))] sz) := by
  refine Met.ofW (cc := cX10_holds) (maxL := 8) (ret := (some .int)) (by decide) rfl ?_
  intro p e s m args below meth c s₁ B hml hv
  obtain ⟨rfl, hsz, hP, hK, hD0, hN⟩ := hv
  have hx := B.exec
  have hb := B.bytes
  have hr := B.returns
  have hts := atoms_spec (ws := wsX10_holds) B.pre
  have hown : s.vm.findClass RX10 = some m.cls := findClass_of_methodNamed B.named
  have hlocks := B.notSynchronized
  subst hsz
  have hD := hD0.self (sz := s.heap.size)
  generalize hAe : va_A [((ad 0), .inr (10, [.ref (ad 1), .ref (ad 2), .ref (ad 3), .ref (ad 4), .ref (ad 5), .ref (ad 6), .ref (ad 7), .ref (ad 8), .ref (ad 9), .ref (ad 10), .ref (ad 11), .int 0, .int 0, .int 0])), ((ad 1), .inr (9, [.ref (ad 12), .ref (ad 13), .ref (ad 14)])), ((ad 14), .inl (cI, 8, .inl (fun _ => (-1))))] s.heap.size = A at hD ⊢
  have hA : ∀ q : Nat, s.heap.size ≤ q → A q := fun q h => by rw [← hAe]; exact Or.inr h
  have hS : va_S A s.heap s.heap [] := va_S.rf
  have hP : va_P D vwCl [((ad 0), .inr (10, [.ref (ad 1), .ref (ad 2), .ref (ad 3), .ref (ad 4), .ref (ad 5), .ref (ad 6), .ref (ad 7), .ref (ad 8), .ref (ad 9), .ref (ad 10), .ref (ad 11), .int 0, .int 0, .int 0])), ((ad 1), .inr (9, [.ref (ad 12), .ref (ad 13), .ref (ad 14)])), ((ad 14), .inl (cI, 8, .inl (fun _ => (-1))))] s.heap := hP
  have hl := lv_entry ([.ref (ad 0), .int a, .int i, .int n]) (n := 8) (Nat.le_of_ble_eq_true rfl)
  rw [lg_entry_eq]
  generalize (lg_sl ([.ref (ad 0), .int a, .int i, .int n]) ++ List.replicate (8 - (lg_sl ([.ref (ad 0), .int a, .int i, .int n])).length) Slot.unset).toArray = ls at hl ⊢
  have hl : lv_has ls 8 [(0, .ref (ad 0)), (1, .int a), (2, .int i), (3, .int n)] := hl
  have k0 : (0 : Int32).toInt = 0 := by decide
  have k1 : (1 : Int32).toInt = 1 := by decide
  have k8 : (8 : Int32).toInt = 8 := by decide
  have k15 : (15 : Int32).toInt = 15 := by decide
  refine lv_iload_n hx hb dX10_holds_0 rfl (lv_at hl 1 rfl) ?_
  refine lv_bipush (v := 8) hx hb dX10_holds_1 (by decide) ?_
  refine st_i (wr := [((ad 0), .inr (10, [.ref (ad 1), .ref (ad 2), .ref (ad 3), .ref (ad 4), .ref (ad 5), .ref (ad 6), .ref (ad 7), .ref (ad 8), .ref (ad 9), .ref (ad 10), .ref (ad 11), .int 0, .int 0, .int 0])), ((ad 1), .inr (9, [.ref (ad 12), .ref (ad 13), .ref (ad 14)])), ((ad 14), .inl (cI, 8, .inl (fun _ => (-1))))]) (va_runS (As := [.int a, .int 8]) (rest := []) ⟨hx, hb, hml, hown, hts⟩ (ct_X10_isBelow l D cI cY cJ cQ _ a (8)) (va_cwS 2 hts gX10_holds_X10_isBelow rfl rfl rfl (by decide +kernel) ⟨Nat.le_of_ble_eq_true rfl, Nat.le_of_ble_eq_true rfl⟩) (cPreS (hP.sub [] rfl) hK (hD.sub [] (by decide) rfl) hN) rfl rfl hl.1 rfl (lv_room (Nat.le_of_ble_eq_true rfl)) dX10_holds_3 ⟨Nat.le_of_ble_eq_true rfl, Nat.le_of_ble_eq_true rfl⟩) hP hD hS hA [] [0, 1, 2] rfl rfl (by decide) (by decide) (fun r3 u1 H locs hw2 hP hD hS => ?_)
  replace hP : va_P D vwCl [((ad 0), .inr (10, [.ref (ad 1), .ref (ad 2), .ref (ad 3), .ref (ad 4), .ref (ad 5), .ref (ad 6), .ref (ad 7), .ref (ad 8), .ref (ad 9), .ref (ad 10), .ref (ad 11), .int 0, .int 0, .int 0])), ((ad 1), .inr (9, [.ref (ad 12), .ref (ad 13), .ref (ad 14)])), ((ad 14), .inl (cI, 8, .inl (fun _ => (-1))))] H := hP
  replace hD : va_D A [((ad 0), .inr (10, [.ref (ad 1), .ref (ad 2), .ref (ad 3), .ref (ad 4), .ref (ad 5), .ref (ad 6), .ref (ad 7), .ref (ad 8), .ref (ad 9), .ref (ad 10), .ref (ad 11), .int 0, .int 0, .int 0])), ((ad 1), .inr (9, [.ref (ad 12), .ref (ad 13), .ref (ad 14)])), ((ad 14), .inl (cI, 8, .inl (fun _ => (-1))))] := hD
  refine lv_if_eq (tgt := 19) hx hb dX10_holds_6 (by decide) (fun c4 => ?_) (fun c4 => ?_)
  · skip
    have f5 := bo_f hw2 c4
    refine lv_ldc hx hb hown (hts (.constant RX10 89 (-1000001)) (by decide +kernel)) dX10_holds_19 ?_
    have hP9 := hP.sub (ws' := []) [] rfl
    have hD9 := hD.sub (ws' := []) [] (by decide) rfl
    exact W.iret (v := (-1000001)) hx hb hr (fun t ht hW => ⟨⟨(-1000001), (), rfl, (by unfold an_holds; (repeat' split) <;> first | rfl | (exfalso; omega)), by rw [ht]; exact hP9, va_K.moved hW.alike hK, hD9⟩, hS.F ht⟩) hS.2.2 dX10_holds_21
  · skip
    have f6 := bo_t hw2 c4
    refine lv_iload_n hx hb dX10_holds_9 rfl (lv_at hl 3 rfl) ?_
    refine lv_iconst (v := 1) hx hb dX10_holds_10 (by decide) ?_
    refine lv_bipush (v := 15) hx hb dX10_holds_11 (by decide) ?_
    refine st_i (wr := [((ad 0), .inr (10, [.ref (ad 1), .ref (ad 2), .ref (ad 3), .ref (ad 4), .ref (ad 5), .ref (ad 6), .ref (ad 7), .ref (ad 8), .ref (ad 9), .ref (ad 10), .ref (ad 11), .int 0, .int 0, .int 0])), ((ad 1), .inr (9, [.ref (ad 12), .ref (ad 13), .ref (ad 14)])), ((ad 14), .inl (cI, 8, .inl (fun _ => (-1))))]) (va_runS (As := [.int n, .int 1, .int 15]) (rest := []) ⟨hx, hb, hml, hown, hts⟩ (ct_X10_isFrom l D cI cY cJ cQ _ n (1) (15)) (va_cwS 3 hts gX10_holds_X10_isFrom rfl rfl rfl (by decide +kernel) ⟨Nat.le_of_ble_eq_true rfl, Nat.le_of_ble_eq_true rfl⟩) (cPreS (hP.sub [] rfl) hK (hD.sub [] (by decide) rfl) hN) rfl rfl hl.1 rfl (lv_room (Nat.le_of_ble_eq_true rfl)) dX10_holds_13 ⟨Nat.le_of_ble_eq_true rfl, Nat.le_of_ble_eq_true rfl⟩) hP hD hS hA [] [0, 1, 2] rfl rfl (by decide) (by decide) (fun r9 u7 H locs hw8 hP hD hS => ?_)
    replace hP : va_P D vwCl [((ad 0), .inr (10, [.ref (ad 1), .ref (ad 2), .ref (ad 3), .ref (ad 4), .ref (ad 5), .ref (ad 6), .ref (ad 7), .ref (ad 8), .ref (ad 9), .ref (ad 10), .ref (ad 11), .int 0, .int 0, .int 0])), ((ad 1), .inr (9, [.ref (ad 12), .ref (ad 13), .ref (ad 14)])), ((ad 14), .inl (cI, 8, .inl (fun _ => (-1))))] H := hP
    replace hD : va_D A [((ad 0), .inr (10, [.ref (ad 1), .ref (ad 2), .ref (ad 3), .ref (ad 4), .ref (ad 5), .ref (ad 6), .ref (ad 7), .ref (ad 8), .ref (ad 9), .ref (ad 10), .ref (ad 11), .int 0, .int 0, .int 0])), ((ad 1), .inr (9, [.ref (ad 12), .ref (ad 13), .ref (ad 14)])), ((ad 14), .inl (cI, 8, .inl (fun _ => (-1))))] := hD
    refine lv_if_ne (tgt := 22) hx hb dX10_holds_16 (by decide) (fun c10 => ?_) (fun c10 => ?_)
    · skip
      have f11 := bo_t hw8 c10
      refine lv_aload_n hx hb dX10_holds_22 rfl (lv_at hl 0 rfl) ?_
      refine va_get (D := D) (ci := 10) (v := .ref (ad 1)) (C := RX10) (T := TX10) (N := 14) hx hb hts (by decide +kernel) hown hK hP 0 rfl rfl 0 (by decide) (hts (.fieldLink RX10 10 "PortRooms" "sheets" "LPortRooms$Sheets;") (by decide +kernel)) (fun _ h9 => h9) rfl dX10_holds_23 ?_
      refine lv_iload_n hx hb dX10_holds_26 rfl (lv_at hl 1 rfl) ?_
      refine st_i (wr := [((ad 0), .inr (10, [.ref (ad 1), .ref (ad 2), .ref (ad 3), .ref (ad 4), .ref (ad 5), .ref (ad 6), .ref (ad 7), .ref (ad 8), .ref (ad 9), .ref (ad 10), .ref (ad 11), .int 0, .int 0, .int 0]))]) (va_runV (C := RX9) (As := [.int a]) (rest := []) ⟨hx, hb, hml, hown, hts⟩ (ct_X9_isMissing l D cI cY cJ cQ _ ad a (by omega) (by omega)) (cwV 1 hts gX10_holds_X9_isMissing rfl rfl rfl (by decide +kernel) ⟨Nat.le_of_ble_eq_true rfl, Nat.le_of_ble_eq_true rfl⟩) (cPreV (hP.sub [1, 2] rfl) hK (hD.sub [1, 2] (by decide) rfl) hN (ci := 9) (q0 := 0) rfl rfl) rfl rfl hl.1 rfl (lv_room (Nat.le_of_ble_eq_true rfl)) dX10_holds_27 ⟨Nat.le_of_ble_eq_true rfl, Nat.le_of_ble_eq_true rfl⟩) hP hD hS hA [1, 2] [0] rfl rfl (by decide) (by decide) (fun r14 u12 H locs hw13 hP hD hS => ?_)
      replace hP : va_P D vwCl [((ad 0), .inr (10, [.ref (ad 1), .ref (ad 2), .ref (ad 3), .ref (ad 4), .ref (ad 5), .ref (ad 6), .ref (ad 7), .ref (ad 8), .ref (ad 9), .ref (ad 10), .ref (ad 11), .int 0, .int 0, .int 0])), ((ad 1), .inr (9, [.ref (ad 12), .ref (ad 13), .ref (ad 14)])), ((ad 14), .inl (cI, 8, .inl (fun _ => (-1))))] H := hP
      replace hD : va_D A [((ad 0), .inr (10, [.ref (ad 1), .ref (ad 2), .ref (ad 3), .ref (ad 4), .ref (ad 5), .ref (ad 6), .ref (ad 7), .ref (ad 8), .ref (ad 9), .ref (ad 10), .ref (ad 11), .int 0, .int 0, .int 0])), ((ad 1), .inr (9, [.ref (ad 12), .ref (ad 13), .ref (ad 14)])), ((ad 14), .inl (cI, 8, .inl (fun _ => (-1))))] := hD
      subst hw13
      refine lv_if_eq (tgt := 39) hx hb dX10_holds_30 (by decide) (fun c => absurd c (by decide)) (fun _ => ?_)
      refine lv_aload_n hx hb dX10_holds_33 rfl (lv_at hl 0 rfl) ?_
      refine lv_iconst (v := 1) hx hb dX10_holds_34 (by decide) ?_
      refine st_i (wr := [((ad 1), .inr (9, [.ref (ad 12), .ref (ad 13), .ref (ad 14)])), ((ad 14), .inl (cI, 8, .inl (fun _ => (-1))))]) (va_runV (C := RX10) (As := [.int 1]) (rest := []) ⟨hx, hb, hml, hown, hts⟩ (ct_X10_finding l D cI cY cJ cQ _ ad (1)) (cwV 1 hts gX10_holds_X10_finding rfl rfl rfl (by decide +kernel) ⟨Nat.le_of_ble_eq_true rfl, Nat.le_of_ble_eq_true rfl⟩) (cPreV (hP.sub [0] rfl) hK (hD.sub [0] (by decide) rfl) hN (ci := 10) (q0 := 0) rfl rfl) rfl rfl hl.1 rfl (lv_room (Nat.le_of_ble_eq_true rfl)) dX10_holds_35 ⟨Nat.le_of_ble_eq_true rfl, Nat.le_of_ble_eq_true rfl⟩) hP hD hS hA [0] [1, 2] rfl rfl (by decide) (by decide) (fun r17 u15 H locs hw16 hP hD hS => ?_)
      replace hP : va_P D vwCl [((ad 1), .inr (9, [.ref (ad 12), .ref (ad 13), .ref (ad 14)])), ((ad 14), .inl (cI, 8, .inl (fun _ => (-1))))] H := hP
      replace hD : va_D A [((ad 1), .inr (9, [.ref (ad 12), .ref (ad 13), .ref (ad 14)])), ((ad 14), .inl (cI, 8, .inl (fun _ => (-1))))] := hD
      replace hw16 : r17 = (-1000011) := hw16.trans (by decide)
      subst hw16
      have hP9 := hP.sub (ws' := []) [] rfl
      have hD9 := hD.sub (ws' := []) [] (by decide) rfl
      exact W.iret (v := (-1000011)) hx hb hr (fun t ht hW => ⟨⟨(-1000011), (), rfl, (by unfold an_holds; (repeat' split) <;> first | rfl | (exfalso; omega)), by rw [ht]; exact hP9, va_K.moved hW.alike hK, hD9⟩, hS.F ht⟩) hS.2.2 dX10_holds_38
    · skip
      have f18 := bo_f hw8 c10
      refine lv_ldc hx hb hown (hts (.constant RX10 89 (-1000001)) (by decide +kernel)) dX10_holds_19 ?_
      have hP9 := hP.sub (ws' := []) [] rfl
      have hD9 := hD.sub (ws' := []) [] (by decide) rfl
      exact W.iret (v := (-1000001)) hx hb hr (fun t ht hW => ⟨⟨(-1000001), (), rfl, (by unfold an_holds; (repeat' split) <;> first | rfl | (exfalso; omega)), by rw [ht]; exact hP9, va_K.moved hW.alike hK, hD9⟩, hS.F ht⟩) hS.2.2 dX10_holds_21

set_option maxHeartbeats 4000000 in
set_option maxRecDepth 100000 in
theorem ct_X9_howMany (l : Launch) (D : va_G) (cI cY cJ cQ : ClassId) (sz : Nat) (ad : Nat → Nat)   : Met l yX9_howMany wsX9_howMany ({ frames := 1, cells := 0, slots := 0, locals := 21 }) (cPre D (ty4 cI cY cJ cQ) [((ad 1), .inr (9, [.ref (ad 12), .ref (ad 13), .ref (ad 14)])), ((ad 14), .inl (cI, 8, .inl (fun _ => (-1))))] sz [.ref (ad 1)]) (va_Qi (fun (r : Int32) (u : Unit) => r = 0) (cB D (ty4 cI cY cJ cQ) (fun (u : Unit) => []) (va_A [((ad 1), .inr (9, [.ref (ad 12), .ref (ad 13), .ref (ad 14)])), ((ad 14), .inl (cI, 8, .inl (fun _ => (-1))))] sz)) (va_A [((ad 1), .inr (9, [.ref (ad 12), .ref (ad 13), .ref (ad 14)])), ((ad 14), .inl (cI, 8, .inl (fun _ => (-1))))] sz)) 0 0 (va_A [((ad 1), .inr (9, [.ref (ad 12), .ref (ad 13), .ref (ad 14)])), ((ad 14), .inl (cI, 8, .inl (fun _ => (-1))))] sz) := by
  refine Met.ofW (cc := cX9_howMany) (maxL := 3) (ret := (some .int)) (by decide) rfl ?_
  intro p e s m args below meth c s₁ B hml hv
  obtain ⟨rfl, hsz, hP, hK, hD0, hN⟩ := hv
  have hx := B.exec
  have hb := B.bytes
  have hr := B.returns
  have hts := atoms_spec (ws := wsX9_howMany) B.pre
  have hown : s.vm.findClass RX9 = some m.cls := findClass_of_methodNamed B.named
  have hlocks := B.notSynchronized
  subst hsz
  have hD := hD0.self (sz := s.heap.size)
  generalize hAe : va_A [((ad 1), .inr (9, [.ref (ad 12), .ref (ad 13), .ref (ad 14)])), ((ad 14), .inl (cI, 8, .inl (fun _ => (-1))))] s.heap.size = A at hD ⊢
  have hA : ∀ q : Nat, s.heap.size ≤ q → A q := fun q h => by rw [← hAe]; exact Or.inr h
  have hS : va_S A s.heap s.heap [] := va_S.rf
  have hP : va_P D vwCl [((ad 1), .inr (9, [.ref (ad 12), .ref (ad 13), .ref (ad 14)])), ((ad 14), .inl (cI, 8, .inl (fun _ => (-1))))] s.heap := hP
  have hl := lv_entry ([.ref (ad 1)]) (n := 3) (Nat.le_of_ble_eq_true rfl)
  rw [lg_entry_eq]
  generalize (lg_sl ([.ref (ad 1)]) ++ List.replicate (3 - (lg_sl ([.ref (ad 1)])).length) Slot.unset).toArray = ls at hl ⊢
  have hl : lv_has ls 3 [(0, .ref (ad 1))] := hl
  have k0 : (0 : Int32).toInt = 0 := by decide
  have k1 : (1 : Int32).toInt = 1 := by decide
  have k8 : (8 : Int32).toInt = 8 := by decide
  refine lv_iconst (v := 0) hx hb dX9_howMany_0 (by decide) ?_
  refine lv_istore_n (lv' := [(1, .int 0), (0, .ref (ad 1))]) hx hb dX9_howMany_1 rfl hl (by decide) rfl (fun ls hl => ?_)
  refine lv_iconst (v := 0) hx hb dX9_howMany_2 (by decide) ?_
  refine lv_istore_n (lv' := [(2, .int 0), (1, .int 0), (0, .ref (ad 1))]) hx hb dX9_howMany_3 rfl hl (by decide) rfl (fun ls hl => ?_)
  refine st_loop 4 (fun _ => []) (fun (k : Int32) (ls : Array Slot) (H : Heap) (locs : List Loc) => (0 ≤ k.toInt) ∧ (k.toInt ≤ 8) ∧ lv_has ls 3 [(0, .ref (ad 1)), (1, .int 0), (2, .int k)] ∧ va_P D vwCl [((ad 1), .inr (9, [.ref (ad 12), .ref (ad 13), .ref (ad 14)])), ((ad 14), .inl (cI, 8, .inl (fun _ => (-1))))] H ∧ va_D A [((ad 1), .inr (9, [.ref (ad 12), .ref (ad 13), .ref (ad 14)])), ((ad 14), .inl (cI, 8, .inl (fun _ => (-1))))] ∧ va_S A s.heap H locs) (fun (k : Int32) => 8 - k.toInt) ?_ ?_ (0 : Int32) ⟨(by omega), (by omega), lv_sub hl [2, 1, 0] rfl, hP, hD, hS⟩
  · rintro k ls H locs ⟨g1, g2, hl, hP, hD, hS⟩
    show (0 : Int) ≤ 8 - k.toInt
    omega
  · rintro n5 ih3 k ls H locs ⟨g1, g2, hl, hP, hD, hS⟩ hm4
    have hm4 : 8 - k.toInt < (n5 : Int) + 1 := hm4
    replace hl : lv_has ls 3 [(0, .ref (ad 1)), (1, .int 0), (2, .int k)] := hl
    replace hP : va_P D vwCl [((ad 1), .inr (9, [.ref (ad 12), .ref (ad 13), .ref (ad 14)])), ((ad 14), .inl (cI, 8, .inl (fun _ => (-1))))] H := hP
    replace hD : va_D A [((ad 1), .inr (9, [.ref (ad 12), .ref (ad 13), .ref (ad 14)])), ((ad 14), .inl (cI, 8, .inl (fun _ => (-1))))] := hD
    show W _ _ _ _ _ _ _ _ _ _ _ _ _ _ _ (F0 m 4 ls [])
    refine lv_iload_n hx hb dX9_howMany_4 rfl (lv_at hl 2 rfl) ?_
    refine lv_bipush (v := 8) hx hb dX9_howMany_5 (by decide) ?_
    refine lv_icmp_ge (tgt := 27) hx hb dX9_howMany_7 (by decide) (fun c6 => ?_) (fun c6 => ?_)
    · skip
      have f7 := i_le c6
      refine lv_iload_n hx hb dX9_howMany_27 rfl (lv_at hl 1 rfl) ?_
      have hP9 := hP.sub (ws' := []) [] rfl
      have hD9 := hD.sub (ws' := []) [] (by decide) rfl
      exact W.iret (v := 0) hx hb hr (fun t ht hW => ⟨⟨0, (), rfl, rfl, by rw [ht]; exact hP9, va_K.moved hW.alike hK, hD9⟩, hS.F ht⟩) hS.2.2 dX9_howMany_28
    · skip
      have f8 := i_nle c6
      refine lv_aload_n hx hb dX9_howMany_10 rfl (lv_at hl 0 rfl) ?_
      refine lv_iload_n hx hb dX9_howMany_11 rfl (lv_at hl 2 rfl) ?_
      refine st_i (wr := []) (va_runV (C := RX9) (As := [.int k]) (rest := []) ⟨hx, hb, hml, hown, hts⟩ (ct_X9_isMissing l D cI cY cJ cQ _ ad k (by omega) (by omega)) (cwV 1 hts gX9_howMany_X9_isMissing rfl rfl rfl (by decide +kernel) ⟨Nat.le_of_ble_eq_true rfl, Nat.le_of_ble_eq_true rfl⟩) (cPreV (hP.sub [0, 1] rfl) hK (hD.sub [0, 1] (by decide) rfl) hN (ci := 9) (q0 := 0) rfl rfl) rfl rfl hl.1 rfl (lv_room (Nat.le_of_ble_eq_true rfl)) dX9_howMany_12 ⟨Nat.le_of_ble_eq_true rfl, Nat.le_of_ble_eq_true rfl⟩) hP hD hS hA [0, 1] [] rfl rfl (by decide) (by decide) (fun r11 u9 H locs hw10 hP hD hS => ?_)
      replace hP : va_P D vwCl [((ad 1), .inr (9, [.ref (ad 12), .ref (ad 13), .ref (ad 14)])), ((ad 14), .inl (cI, 8, .inl (fun _ => (-1))))] H := hP
      replace hD : va_D A [((ad 1), .inr (9, [.ref (ad 12), .ref (ad 13), .ref (ad 14)])), ((ad 14), .inl (cI, 8, .inl (fun _ => (-1))))] := hD
      subst hw10
      refine lv_if_ne (tgt := 21) hx hb dX9_howMany_15 (by decide) (fun _ => ?_) (fun c => absurd c (by decide))
      obtain ⟨v12, ev12⟩ : ∃ y : Int32, y = k + 1 := ⟨_, rfl⟩
      have tv12 : v12.toInt = k.toInt + 1 := by rw [ev12]; exact (i_add (x := k) (y := (1 : Int32)) (by rw [k1]; omega) (by rw [k1]; omega)).trans (by rw [k1])
      refine lv_iinc (v := v12) (lv' := [(2, .int v12), (0, .ref (ad 1)), (1, .int 0)]) hx hb dX9_howMany_21 hl (k := 2) rfl (by rw [ev12]; rfl) (by decide) rfl (fun ls hl => ?_)
      refine lv_goto (tgt := 4) hx hb dX9_howMany_24 (by decide) ?_
      exact ih3 v12 ls H locs ⟨(by omega), (by omega), lv_sub hl [1, 2, 0] rfl, hP.sub [0, 1] rfl, hD.sub [0, 1] (by decide) rfl, hS⟩ (by show 8 - v12.toInt < _; omega)

set_option maxHeartbeats 4000000 in
set_option maxRecDepth 100000 in
theorem ct_X10_count (l : Launch) (D : va_G) (cI cY cJ cQ : ClassId) (sz : Nat) (ad : Nat → Nat) (w : Int32)   : Met l yX10_count wsX10_count ({ frames := 2, cells := 0, slots := 0, locals := 43 }) (cPre D (ty4 cI cY cJ cQ) [((ad 0), .inr (10, [.ref (ad 1), .ref (ad 2), .ref (ad 3), .ref (ad 4), .ref (ad 5), .ref (ad 6), .ref (ad 7), .ref (ad 8), .ref (ad 9), .ref (ad 10), .ref (ad 11), .int 0, .int 0, .int 0])), ((ad 1), .inr (9, [.ref (ad 12), .ref (ad 13), .ref (ad 14)])), ((ad 14), .inl (cI, 8, .inl (fun _ => (-1)))), ((ad 2), .inr (3, [.ref (ad 23), .ref (ad 24), .ref (ad 25), .ref (ad 26), .int 0, .ref (ad 27), .ref (ad 28), .ref (ad 29), .ref (ad 30)])), ((ad 3), .inr (1, [.ref (ad 31), .ref (ad 32), .ref (ad 33), .int 0, .ref (ad 34), .ref (ad 35)])), ((ad 4), .inr (7, [.ref (ad 36), .ref (ad 37), .ref (ad 38), .ref (ad 39), .ref (ad 40), .ref (ad 41), .int 0])), ((ad 5), .inr (8, [.ref (ad 42), .ref (ad 43), .ref (ad 44), .ref (ad 45), .int 0, .ref (ad 46)])), ((ad 6), .inr (2, [.ref (ad 47), .int 0, .int 0, .ref (ad 48), .ref (ad 49), .ref (ad 50), .int 0, .ref (ad 51), .ref (ad 52), .ref (ad 53), .int 0, .int 0, .int 0, .int 0, .int 0])), ((ad 7), .inr (0, [.ref (ad 54), .ref (ad 55), .ref (ad 56), .ref (ad 57), .int 0])), ((ad 9), .inr (6, [.ref (ad 59), .ref (ad 60), .ref (ad 61), .ref (ad 62), .int 0])), ((ad 10), .inr (4, [.ref (ad 63), .ref (ad 64), .ref (ad 65), .int 0]))] sz [.ref (ad 0), .int w]) (va_Qi (fun (r : Int32) (u : Unit) => r = an_count w) (cB D (ty4 cI cY cJ cQ) (fun (u : Unit) => []) (va_A [((ad 0), .inr (10, [.ref (ad 1), .ref (ad 2), .ref (ad 3), .ref (ad 4), .ref (ad 5), .ref (ad 6), .ref (ad 7), .ref (ad 8), .ref (ad 9), .ref (ad 10), .ref (ad 11), .int 0, .int 0, .int 0])), ((ad 1), .inr (9, [.ref (ad 12), .ref (ad 13), .ref (ad 14)])), ((ad 14), .inl (cI, 8, .inl (fun _ => (-1)))), ((ad 2), .inr (3, [.ref (ad 23), .ref (ad 24), .ref (ad 25), .ref (ad 26), .int 0, .ref (ad 27), .ref (ad 28), .ref (ad 29), .ref (ad 30)])), ((ad 3), .inr (1, [.ref (ad 31), .ref (ad 32), .ref (ad 33), .int 0, .ref (ad 34), .ref (ad 35)])), ((ad 4), .inr (7, [.ref (ad 36), .ref (ad 37), .ref (ad 38), .ref (ad 39), .ref (ad 40), .ref (ad 41), .int 0])), ((ad 5), .inr (8, [.ref (ad 42), .ref (ad 43), .ref (ad 44), .ref (ad 45), .int 0, .ref (ad 46)])), ((ad 6), .inr (2, [.ref (ad 47), .int 0, .int 0, .ref (ad 48), .ref (ad 49), .ref (ad 50), .int 0, .ref (ad 51), .ref (ad 52), .ref (ad 53), .int 0, .int 0, .int 0, .int 0, .int 0])), ((ad 7), .inr (0, [.ref (ad 54), .ref (ad 55), .ref (ad 56), .ref (ad 57), .int 0])), ((ad 9), .inr (6, [.ref (ad 59), .ref (ad 60), .ref (ad 61), .ref (ad 62), .int 0])), ((ad 10), .inr (4, [.ref (ad 63), .ref (ad 64), .ref (ad 65), .int 0]))] sz)) (va_A [((ad 0), .inr (10, [.ref (ad 1), .ref (ad 2), .ref (ad 3), .ref (ad 4), .ref (ad 5), .ref (ad 6), .ref (ad 7), .ref (ad 8), .ref (ad 9), .ref (ad 10), .ref (ad 11), .int 0, .int 0, .int 0])), ((ad 1), .inr (9, [.ref (ad 12), .ref (ad 13), .ref (ad 14)])), ((ad 14), .inl (cI, 8, .inl (fun _ => (-1)))), ((ad 2), .inr (3, [.ref (ad 23), .ref (ad 24), .ref (ad 25), .ref (ad 26), .int 0, .ref (ad 27), .ref (ad 28), .ref (ad 29), .ref (ad 30)])), ((ad 3), .inr (1, [.ref (ad 31), .ref (ad 32), .ref (ad 33), .int 0, .ref (ad 34), .ref (ad 35)])), ((ad 4), .inr (7, [.ref (ad 36), .ref (ad 37), .ref (ad 38), .ref (ad 39), .ref (ad 40), .ref (ad 41), .int 0])), ((ad 5), .inr (8, [.ref (ad 42), .ref (ad 43), .ref (ad 44), .ref (ad 45), .int 0, .ref (ad 46)])), ((ad 6), .inr (2, [.ref (ad 47), .int 0, .int 0, .ref (ad 48), .ref (ad 49), .ref (ad 50), .int 0, .ref (ad 51), .ref (ad 52), .ref (ad 53), .int 0, .int 0, .int 0, .int 0, .int 0])), ((ad 7), .inr (0, [.ref (ad 54), .ref (ad 55), .ref (ad 56), .ref (ad 57), .int 0])), ((ad 9), .inr (6, [.ref (ad 59), .ref (ad 60), .ref (ad 61), .ref (ad 62), .int 0])), ((ad 10), .inr (4, [.ref (ad 63), .ref (ad 64), .ref (ad 65), .int 0]))] sz)) 0 0 (va_A [((ad 0), .inr (10, [.ref (ad 1), .ref (ad 2), .ref (ad 3), .ref (ad 4), .ref (ad 5), .ref (ad 6), .ref (ad 7), .ref (ad 8), .ref (ad 9), .ref (ad 10), .ref (ad 11), .int 0, .int 0, .int 0])), ((ad 1), .inr (9, [.ref (ad 12), .ref (ad 13), .ref (ad 14)])), ((ad 14), .inl (cI, 8, .inl (fun _ => (-1)))), ((ad 2), .inr (3, [.ref (ad 23), .ref (ad 24), .ref (ad 25), .ref (ad 26), .int 0, .ref (ad 27), .ref (ad 28), .ref (ad 29), .ref (ad 30)])), ((ad 3), .inr (1, [.ref (ad 31), .ref (ad 32), .ref (ad 33), .int 0, .ref (ad 34), .ref (ad 35)])), ((ad 4), .inr (7, [.ref (ad 36), .ref (ad 37), .ref (ad 38), .ref (ad 39), .ref (ad 40), .ref (ad 41), .int 0])), ((ad 5), .inr (8, [.ref (ad 42), .ref (ad 43), .ref (ad 44), .ref (ad 45), .int 0, .ref (ad 46)])), ((ad 6), .inr (2, [.ref (ad 47), .int 0, .int 0, .ref (ad 48), .ref (ad 49), .ref (ad 50), .int 0, .ref (ad 51), .ref (ad 52), .ref (ad 53), .int 0, .int 0, .int 0, .int 0, .int 0])), ((ad 7), .inr (0, [.ref (ad 54), .ref (ad 55), .ref (ad 56), .ref (ad 57), .int 0])), ((ad 9), .inr (6, [.ref (ad 59), .ref (ad 60), .ref (ad 61), .ref (ad 62), .int 0])), ((ad 10), .inr (4, [.ref (ad 63), .ref (ad 64), .ref (ad 65), .int 0]))] sz) := by
  refine Met.ofW (cc := cX10_count) (maxL := 2) (ret := (some .int)) (by decide) rfl ?_
  intro p e s m args below meth c s₁ B hml hv
  obtain ⟨rfl, hsz, hP, hK, hD0, hN⟩ := hv
  have hx := B.exec
  have hb := B.bytes
  have hr := B.returns
  have hts := atoms_spec (ws := wsX10_count) B.pre
  have hown : s.vm.findClass RX10 = some m.cls := findClass_of_methodNamed B.named
  have hlocks := B.notSynchronized
  subst hsz
  have hD := hD0.self (sz := s.heap.size)
  generalize hAe : va_A [((ad 0), .inr (10, [.ref (ad 1), .ref (ad 2), .ref (ad 3), .ref (ad 4), .ref (ad 5), .ref (ad 6), .ref (ad 7), .ref (ad 8), .ref (ad 9), .ref (ad 10), .ref (ad 11), .int 0, .int 0, .int 0])), ((ad 1), .inr (9, [.ref (ad 12), .ref (ad 13), .ref (ad 14)])), ((ad 14), .inl (cI, 8, .inl (fun _ => (-1)))), ((ad 2), .inr (3, [.ref (ad 23), .ref (ad 24), .ref (ad 25), .ref (ad 26), .int 0, .ref (ad 27), .ref (ad 28), .ref (ad 29), .ref (ad 30)])), ((ad 3), .inr (1, [.ref (ad 31), .ref (ad 32), .ref (ad 33), .int 0, .ref (ad 34), .ref (ad 35)])), ((ad 4), .inr (7, [.ref (ad 36), .ref (ad 37), .ref (ad 38), .ref (ad 39), .ref (ad 40), .ref (ad 41), .int 0])), ((ad 5), .inr (8, [.ref (ad 42), .ref (ad 43), .ref (ad 44), .ref (ad 45), .int 0, .ref (ad 46)])), ((ad 6), .inr (2, [.ref (ad 47), .int 0, .int 0, .ref (ad 48), .ref (ad 49), .ref (ad 50), .int 0, .ref (ad 51), .ref (ad 52), .ref (ad 53), .int 0, .int 0, .int 0, .int 0, .int 0])), ((ad 7), .inr (0, [.ref (ad 54), .ref (ad 55), .ref (ad 56), .ref (ad 57), .int 0])), ((ad 9), .inr (6, [.ref (ad 59), .ref (ad 60), .ref (ad 61), .ref (ad 62), .int 0])), ((ad 10), .inr (4, [.ref (ad 63), .ref (ad 64), .ref (ad 65), .int 0]))] s.heap.size = A at hD ⊢
  have hA : ∀ q : Nat, s.heap.size ≤ q → A q := fun q h => by rw [← hAe]; exact Or.inr h
  have hS : va_S A s.heap s.heap [] := va_S.rf
  have hP : va_P D vwCl [((ad 0), .inr (10, [.ref (ad 1), .ref (ad 2), .ref (ad 3), .ref (ad 4), .ref (ad 5), .ref (ad 6), .ref (ad 7), .ref (ad 8), .ref (ad 9), .ref (ad 10), .ref (ad 11), .int 0, .int 0, .int 0])), ((ad 1), .inr (9, [.ref (ad 12), .ref (ad 13), .ref (ad 14)])), ((ad 14), .inl (cI, 8, .inl (fun _ => (-1)))), ((ad 2), .inr (3, [.ref (ad 23), .ref (ad 24), .ref (ad 25), .ref (ad 26), .int 0, .ref (ad 27), .ref (ad 28), .ref (ad 29), .ref (ad 30)])), ((ad 3), .inr (1, [.ref (ad 31), .ref (ad 32), .ref (ad 33), .int 0, .ref (ad 34), .ref (ad 35)])), ((ad 4), .inr (7, [.ref (ad 36), .ref (ad 37), .ref (ad 38), .ref (ad 39), .ref (ad 40), .ref (ad 41), .int 0])), ((ad 5), .inr (8, [.ref (ad 42), .ref (ad 43), .ref (ad 44), .ref (ad 45), .int 0, .ref (ad 46)])), ((ad 6), .inr (2, [.ref (ad 47), .int 0, .int 0, .ref (ad 48), .ref (ad 49), .ref (ad 50), .int 0, .ref (ad 51), .ref (ad 52), .ref (ad 53), .int 0, .int 0, .int 0, .int 0, .int 0])), ((ad 7), .inr (0, [.ref (ad 54), .ref (ad 55), .ref (ad 56), .ref (ad 57), .int 0])), ((ad 9), .inr (6, [.ref (ad 59), .ref (ad 60), .ref (ad 61), .ref (ad 62), .int 0])), ((ad 10), .inr (4, [.ref (ad 63), .ref (ad 64), .ref (ad 65), .int 0]))] s.heap := hP
  have hl := lv_entry ([.ref (ad 0), .int w]) (n := 2) (Nat.le_of_ble_eq_true rfl)
  rw [lg_entry_eq]
  generalize (lg_sl ([.ref (ad 0), .int w]) ++ List.replicate (2 - (lg_sl ([.ref (ad 0), .int w])).length) Slot.unset).toArray = ls at hl ⊢
  have hl : lv_has ls 2 [(0, .ref (ad 0)), (1, .int w)] := hl
  refine lv_iload_n hx hb dX10_count_0 rfl (lv_at hl 1 rfl) ?_
  rcases (show (w.toInt < 0 ∨ 9 < w.toInt) ∨ w.toInt = 0 ∨ w.toInt = 1 ∨ w.toInt = 2 ∨ w.toInt = 3 ∨ w.toInt = 4 ∨ w.toInt = 5 ∨ w.toInt = 6 ∨ w.toInt = 7 ∨ w.toInt = 8 ∨ w.toInt = 9 by omega) with h1 | h1 | h1 | h1 | h1 | h1 | h1 | h1 | h1 | h1 | h1
  · skip
    refine lv_tableOut (tgt := 136) hx hb dX10_count_1 h1 (by decide) ?_
    refine lv_ldc hx hb hown (hts (.constant RX10 89 (-1000001)) (by decide +kernel)) dX10_count_136 ?_
    have hP9 := hP.sub (ws' := []) [] rfl
    have hD9 := hD.sub (ws' := []) [] (by decide) rfl
    exact W.iret (v := (-1000001)) hx hb hr (fun t ht hW => ⟨⟨(-1000001), (), rfl, (by unfold an_count; (repeat' split) <;> first | rfl | (exfalso; omega)), by rw [ht]; exact hP9, va_K.moved hW.alike hK, hD9⟩, hS.F ht⟩) hS.2.2 dX10_count_138
  · skip
    refine lv_tableIn (tgt := 56) (off := 55) hx hb dX10_count_1 (by omega) (by omega) (by rw [h1]; rfl) (by decide) ?_
    refine lv_aload_n hx hb dX10_count_56 rfl (lv_at hl 0 rfl) ?_
    refine va_get (D := D) (ci := 10) (v := .ref (ad 1)) (C := RX10) (T := TX10) (N := 14) hx hb hts (by decide +kernel) hown hK hP 0 rfl rfl 0 (by decide) (hts (.fieldLink RX10 10 "PortRooms" "sheets" "LPortRooms$Sheets;") (by decide +kernel)) (fun _ h9 => h9) rfl dX10_count_57 ?_
    refine st_i (wr := [((ad 0), .inr (10, [.ref (ad 1), .ref (ad 2), .ref (ad 3), .ref (ad 4), .ref (ad 5), .ref (ad 6), .ref (ad 7), .ref (ad 8), .ref (ad 9), .ref (ad 10), .ref (ad 11), .int 0, .int 0, .int 0])), ((ad 2), .inr (3, [.ref (ad 23), .ref (ad 24), .ref (ad 25), .ref (ad 26), .int 0, .ref (ad 27), .ref (ad 28), .ref (ad 29), .ref (ad 30)])), ((ad 3), .inr (1, [.ref (ad 31), .ref (ad 32), .ref (ad 33), .int 0, .ref (ad 34), .ref (ad 35)])), ((ad 4), .inr (7, [.ref (ad 36), .ref (ad 37), .ref (ad 38), .ref (ad 39), .ref (ad 40), .ref (ad 41), .int 0])), ((ad 5), .inr (8, [.ref (ad 42), .ref (ad 43), .ref (ad 44), .ref (ad 45), .int 0, .ref (ad 46)])), ((ad 6), .inr (2, [.ref (ad 47), .int 0, .int 0, .ref (ad 48), .ref (ad 49), .ref (ad 50), .int 0, .ref (ad 51), .ref (ad 52), .ref (ad 53), .int 0, .int 0, .int 0, .int 0, .int 0])), ((ad 7), .inr (0, [.ref (ad 54), .ref (ad 55), .ref (ad 56), .ref (ad 57), .int 0])), ((ad 9), .inr (6, [.ref (ad 59), .ref (ad 60), .ref (ad 61), .ref (ad 62), .int 0])), ((ad 10), .inr (4, [.ref (ad 63), .ref (ad 64), .ref (ad 65), .int 0]))]) (va_runV (C := RX9) (As := []) (rest := []) ⟨hx, hb, hml, hown, hts⟩ (ct_X9_howMany l D cI cY cJ cQ _ ad) (cwV 0 hts gX10_count_X9_howMany rfl rfl rfl (by decide +kernel) ⟨Nat.le_of_ble_eq_true rfl, Nat.le_of_ble_eq_true rfl⟩) (cPreV (hP.sub [1, 2] rfl) hK (hD.sub [1, 2] (by decide) rfl) hN (ci := 9) (q0 := 0) rfl rfl) rfl rfl hl.1 rfl (lv_room (Nat.le_of_ble_eq_true rfl)) dX10_count_60 ⟨Nat.le_of_ble_eq_true rfl, Nat.le_of_ble_eq_true rfl⟩) hP hD hS hA [1, 2] [0, 3, 4, 5, 6, 7, 8, 9, 10] rfl rfl (by decide) (by decide) (fun r4 u2 H locs hw3 hP hD hS => ?_)
    replace hP : va_P D vwCl [((ad 0), .inr (10, [.ref (ad 1), .ref (ad 2), .ref (ad 3), .ref (ad 4), .ref (ad 5), .ref (ad 6), .ref (ad 7), .ref (ad 8), .ref (ad 9), .ref (ad 10), .ref (ad 11), .int 0, .int 0, .int 0])), ((ad 2), .inr (3, [.ref (ad 23), .ref (ad 24), .ref (ad 25), .ref (ad 26), .int 0, .ref (ad 27), .ref (ad 28), .ref (ad 29), .ref (ad 30)])), ((ad 3), .inr (1, [.ref (ad 31), .ref (ad 32), .ref (ad 33), .int 0, .ref (ad 34), .ref (ad 35)])), ((ad 4), .inr (7, [.ref (ad 36), .ref (ad 37), .ref (ad 38), .ref (ad 39), .ref (ad 40), .ref (ad 41), .int 0])), ((ad 5), .inr (8, [.ref (ad 42), .ref (ad 43), .ref (ad 44), .ref (ad 45), .int 0, .ref (ad 46)])), ((ad 6), .inr (2, [.ref (ad 47), .int 0, .int 0, .ref (ad 48), .ref (ad 49), .ref (ad 50), .int 0, .ref (ad 51), .ref (ad 52), .ref (ad 53), .int 0, .int 0, .int 0, .int 0, .int 0])), ((ad 7), .inr (0, [.ref (ad 54), .ref (ad 55), .ref (ad 56), .ref (ad 57), .int 0])), ((ad 9), .inr (6, [.ref (ad 59), .ref (ad 60), .ref (ad 61), .ref (ad 62), .int 0])), ((ad 10), .inr (4, [.ref (ad 63), .ref (ad 64), .ref (ad 65), .int 0]))] H := hP
    replace hD : va_D A [((ad 0), .inr (10, [.ref (ad 1), .ref (ad 2), .ref (ad 3), .ref (ad 4), .ref (ad 5), .ref (ad 6), .ref (ad 7), .ref (ad 8), .ref (ad 9), .ref (ad 10), .ref (ad 11), .int 0, .int 0, .int 0])), ((ad 2), .inr (3, [.ref (ad 23), .ref (ad 24), .ref (ad 25), .ref (ad 26), .int 0, .ref (ad 27), .ref (ad 28), .ref (ad 29), .ref (ad 30)])), ((ad 3), .inr (1, [.ref (ad 31), .ref (ad 32), .ref (ad 33), .int 0, .ref (ad 34), .ref (ad 35)])), ((ad 4), .inr (7, [.ref (ad 36), .ref (ad 37), .ref (ad 38), .ref (ad 39), .ref (ad 40), .ref (ad 41), .int 0])), ((ad 5), .inr (8, [.ref (ad 42), .ref (ad 43), .ref (ad 44), .ref (ad 45), .int 0, .ref (ad 46)])), ((ad 6), .inr (2, [.ref (ad 47), .int 0, .int 0, .ref (ad 48), .ref (ad 49), .ref (ad 50), .int 0, .ref (ad 51), .ref (ad 52), .ref (ad 53), .int 0, .int 0, .int 0, .int 0, .int 0])), ((ad 7), .inr (0, [.ref (ad 54), .ref (ad 55), .ref (ad 56), .ref (ad 57), .int 0])), ((ad 9), .inr (6, [.ref (ad 59), .ref (ad 60), .ref (ad 61), .ref (ad 62), .int 0])), ((ad 10), .inr (4, [.ref (ad 63), .ref (ad 64), .ref (ad 65), .int 0]))] := hD
    subst hw3
    have hP9 := hP.sub (ws' := []) [] rfl
    have hD9 := hD.sub (ws' := []) [] (by decide) rfl
    exact W.iret (v := 0) hx hb hr (fun t ht hW => ⟨⟨0, (), rfl, (by unfold an_count; (repeat' split) <;> first | rfl | (exfalso; omega)), by rw [ht]; exact hP9, va_K.moved hW.alike hK, hD9⟩, hS.F ht⟩) hS.2.2 dX10_count_63
  · skip
    refine lv_tableIn (tgt := 64) (off := 63) hx hb dX10_count_1 (by omega) (by omega) (by rw [h1]; rfl) (by decide) ?_
    refine lv_aload_n hx hb dX10_count_64 rfl (lv_at hl 0 rfl) ?_
    refine va_get (D := D) (ci := 10) (v := .ref (ad 2)) (C := RX10) (T := TX10) (N := 14) hx hb hts (by decide +kernel) hown hK hP 0 rfl rfl 1 (by decide) (hts (.fieldLink RX10 19 "PortRooms" "holdings" "LPortRooms$Holdings;") (by decide +kernel)) (fun _ h9 => h9) rfl dX10_count_65 ?_
    refine va_get (D := D) (ci := 3) (v := .int 0) (C := RX3) (T := TX3) (N := 9) hx hb hts (by decide +kernel) hown hK hP 3 rfl rfl 4 (by decide) (hts (.fieldLink RX10 141 "PortRooms$Holdings" "count" "I") (by decide +kernel)) (fun _ h9 => h9) rfl dX10_count_68 ?_
    have hP9 := hP.sub (ws' := []) [] rfl
    have hD9 := hD.sub (ws' := []) [] (by decide) rfl
    exact W.iret (v := 0) hx hb hr (fun t ht hW => ⟨⟨0, (), rfl, (by unfold an_count; (repeat' split) <;> first | rfl | (exfalso; omega)), by rw [ht]; exact hP9, va_K.moved hW.alike hK, hD9⟩, hS.F ht⟩) hS.2.2 dX10_count_71
  · skip
    refine lv_tableIn (tgt := 72) (off := 71) hx hb dX10_count_1 (by omega) (by omega) (by rw [h1]; rfl) (by decide) ?_
    refine lv_aload_n hx hb dX10_count_72 rfl (lv_at hl 0 rfl) ?_
    refine va_get (D := D) (ci := 10) (v := .ref (ad 3)) (C := RX10) (T := TX10) (N := 14) hx hb hts (by decide +kernel) hown hK hP 0 rfl rfl 2 (by decide) (hts (.fieldLink RX10 26 "PortRooms" "crates" "LPortRooms$Crates;") (by decide +kernel)) (fun _ h9 => h9) rfl dX10_count_73 ?_
    refine va_get (D := D) (ci := 1) (v := .int 0) (C := RX1) (T := TX1) (N := 6) hx hb hts (by decide +kernel) hown hK hP 4 rfl rfl 3 (by decide) (hts (.fieldLink RX10 177 "PortRooms$Crates" "count" "I") (by decide +kernel)) (fun _ h9 => h9) rfl dX10_count_76 ?_
    have hP9 := hP.sub (ws' := []) [] rfl
    have hD9 := hD.sub (ws' := []) [] (by decide) rfl
    exact W.iret (v := 0) hx hb hr (fun t ht hW => ⟨⟨0, (), rfl, (by unfold an_count; (repeat' split) <;> first | rfl | (exfalso; omega)), by rw [ht]; exact hP9, va_K.moved hW.alike hK, hD9⟩, hS.F ht⟩) hS.2.2 dX10_count_79
  · skip
    refine lv_tableIn (tgt := 80) (off := 79) hx hb dX10_count_1 (by omega) (by omega) (by rw [h1]; rfl) (by decide) ?_
    refine lv_aload_n hx hb dX10_count_80 rfl (lv_at hl 0 rfl) ?_
    refine va_get (D := D) (ci := 10) (v := .ref (ad 4)) (C := RX10) (T := TX10) (N := 14) hx hb hts (by decide +kernel) hown hK hP 0 rfl rfl 3 (by decide) (hts (.fieldLink RX10 33 "PortRooms" "papers" "LPortRooms$Papers;") (by decide +kernel)) (fun _ h9 => h9) rfl dX10_count_81 ?_
    refine va_get (D := D) (ci := 7) (v := .int 0) (C := RX7) (T := TX7) (N := 7) hx hb hts (by decide +kernel) hown hK hP 5 rfl rfl 6 (by decide) (hts (.fieldLink RX10 186 "PortRooms$Papers" "count" "I") (by decide +kernel)) (fun _ h9 => h9) rfl dX10_count_84 ?_
    have hP9 := hP.sub (ws' := []) [] rfl
    have hD9 := hD.sub (ws' := []) [] (by decide) rfl
    exact W.iret (v := 0) hx hb hr (fun t ht hW => ⟨⟨0, (), rfl, (by unfold an_count; (repeat' split) <;> first | rfl | (exfalso; omega)), by rw [ht]; exact hP9, va_K.moved hW.alike hK, hD9⟩, hS.F ht⟩) hS.2.2 dX10_count_87
  · skip
    refine lv_tableIn (tgt := 88) (off := 87) hx hb dX10_count_1 (by omega) (by omega) (by rw [h1]; rfl) (by decide) ?_
    refine lv_aload_n hx hb dX10_count_88 rfl (lv_at hl 0 rfl) ?_
    refine va_get (D := D) (ci := 10) (v := .ref (ad 5)) (C := RX10) (T := TX10) (N := 14) hx hb hts (by decide +kernel) hown hK hP 0 rfl rfl 4 (by decide) (hts (.fieldLink RX10 40 "PortRooms" "pledges" "LPortRooms$Pledges;") (by decide +kernel)) (fun _ h9 => h9) rfl dX10_count_89 ?_
    refine va_get (D := D) (ci := 8) (v := .int 0) (C := RX8) (T := TX8) (N := 6) hx hb hts (by decide +kernel) hown hK hP 6 rfl rfl 4 (by decide) (hts (.fieldLink RX10 199 "PortRooms$Pledges" "count" "I") (by decide +kernel)) (fun _ h9 => h9) rfl dX10_count_92 ?_
    have hP9 := hP.sub (ws' := []) [] rfl
    have hD9 := hD.sub (ws' := []) [] (by decide) rfl
    exact W.iret (v := 0) hx hb hr (fun t ht hW => ⟨⟨0, (), rfl, (by unfold an_count; (repeat' split) <;> first | rfl | (exfalso; omega)), by rw [ht]; exact hP9, va_K.moved hW.alike hK, hD9⟩, hS.F ht⟩) hS.2.2 dX10_count_95
  · skip
    refine lv_tableIn (tgt := 96) (off := 95) hx hb dX10_count_1 (by omega) (by omega) (by rw [h1]; rfl) (by decide) ?_
    refine lv_aload_n hx hb dX10_count_96 rfl (lv_at hl 0 rfl) ?_
    refine va_get (D := D) (ci := 10) (v := .ref (ad 6)) (C := RX10) (T := TX10) (N := 14) hx hb hts (by decide +kernel) hown hK hP 0 rfl rfl 5 (by decide) (hts (.fieldLink RX10 47 "PortRooms" "duties" "LPortRooms$Duties;") (by decide +kernel)) (fun _ h9 => h9) rfl dX10_count_97 ?_
    refine va_get (D := D) (ci := 2) (v := .int 0) (C := RX2) (T := TX2) (N := 15) hx hb hts (by decide +kernel) hown hK hP 7 rfl rfl 6 (by decide) (hts (.fieldLink RX10 319 "PortRooms$Duties" "lines" "I") (by decide +kernel)) (fun _ h9 => h9) rfl dX10_count_100 ?_
    have hP9 := hP.sub (ws' := []) [] rfl
    have hD9 := hD.sub (ws' := []) [] (by decide) rfl
    exact W.iret (v := 0) hx hb hr (fun t ht hW => ⟨⟨0, (), rfl, (by unfold an_count; (repeat' split) <;> first | rfl | (exfalso; omega)), by rw [ht]; exact hP9, va_K.moved hW.alike hK, hD9⟩, hS.F ht⟩) hS.2.2 dX10_count_103
  · skip
    refine lv_tableIn (tgt := 104) (off := 103) hx hb dX10_count_1 (by omega) (by omega) (by rw [h1]; rfl) (by decide) ?_
    refine lv_aload_n hx hb dX10_count_104 rfl (lv_at hl 0 rfl) ?_
    refine va_get (D := D) (ci := 10) (v := .ref (ad 7)) (C := RX10) (T := TX10) (N := 14) hx hb hts (by decide +kernel) hown hK hP 0 rfl rfl 6 (by decide) (hts (.fieldLink RX10 54 "PortRooms" "acts" "LPortRooms$Acts;") (by decide +kernel)) (fun _ h9 => h9) rfl dX10_count_105 ?_
    refine va_get (D := D) (ci := 0) (v := .int 0) (C := RX0) (T := TX0) (N := 5) hx hb hts (by decide +kernel) hown hK hP 8 rfl rfl 4 (by decide) (hts (.fieldLink RX10 227 "PortRooms$Acts" "count" "I") (by decide +kernel)) (fun _ h9 => h9) rfl dX10_count_108 ?_
    have hP9 := hP.sub (ws' := []) [] rfl
    have hD9 := hD.sub (ws' := []) [] (by decide) rfl
    exact W.iret (v := 0) hx hb hr (fun t ht hW => ⟨⟨0, (), rfl, (by unfold an_count; (repeat' split) <;> first | rfl | (exfalso; omega)), by rw [ht]; exact hP9, va_K.moved hW.alike hK, hD9⟩, hS.F ht⟩) hS.2.2 dX10_count_111
  · skip
    refine lv_tableIn (tgt := 112) (off := 111) hx hb dX10_count_1 (by omega) (by omega) (by rw [h1]; rfl) (by decide) ?_
    refine lv_aload_n hx hb dX10_count_112 rfl (lv_at hl 0 rfl) ?_
    refine va_get (D := D) (ci := 10) (v := .ref (ad 9)) (C := RX10) (T := TX10) (N := 14) hx hb hts (by decide +kernel) hown hK hP 0 rfl rfl 8 (by decide) (hts (.fieldLink RX10 61 "PortRooms" "openings" "LPortRooms$Openings;") (by decide +kernel)) (fun _ h9 => h9) rfl dX10_count_113 ?_
    refine va_get (D := D) (ci := 6) (v := .int 0) (C := RX6) (T := TX6) (N := 5) hx hb hts (by decide +kernel) hown hK hP 9 rfl rfl 4 (by decide) (hts (.fieldLink RX10 287 "PortRooms$Openings" "count" "I") (by decide +kernel)) (fun _ h9 => h9) rfl dX10_count_116 ?_
    have hP9 := hP.sub (ws' := []) [] rfl
    have hD9 := hD.sub (ws' := []) [] (by decide) rfl
    exact W.iret (v := 0) hx hb hr (fun t ht hW => ⟨⟨0, (), rfl, (by unfold an_count; (repeat' split) <;> first | rfl | (exfalso; omega)), by rw [ht]; exact hP9, va_K.moved hW.alike hK, hD9⟩, hS.F ht⟩) hS.2.2 dX10_count_119
  · skip
    refine lv_tableIn (tgt := 120) (off := 119) hx hb dX10_count_1 (by omega) (by omega) (by rw [h1]; rfl) (by decide) ?_
    refine lv_aload_n hx hb dX10_count_120 rfl (lv_at hl 0 rfl) ?_
    refine va_get (D := D) (ci := 10) (v := .ref (ad 10)) (C := RX10) (T := TX10) (N := 14) hx hb hts (by decide +kernel) hown hK hP 0 rfl rfl 9 (by decide) (hts (.fieldLink RX10 68 "PortRooms" "lists" "LPortRooms$Lists;") (by decide +kernel)) (fun _ h9 => h9) rfl dX10_count_121 ?_
    refine va_get (D := D) (ci := 4) (v := .int 0) (C := RX4) (T := TX4) (N := 4) hx hb hts (by decide +kernel) hown hK hP 10 rfl rfl 3 (by decide) (hts (.fieldLink RX10 292 "PortRooms$Lists" "count" "I") (by decide +kernel)) (fun _ h9 => h9) rfl dX10_count_124 ?_
    have hP9 := hP.sub (ws' := []) [] rfl
    have hD9 := hD.sub (ws' := []) [] (by decide) rfl
    exact W.iret (v := 0) hx hb hr (fun t ht hW => ⟨⟨0, (), rfl, (by unfold an_count; (repeat' split) <;> first | rfl | (exfalso; omega)), by rw [ht]; exact hP9, va_K.moved hW.alike hK, hD9⟩, hS.F ht⟩) hS.2.2 dX10_count_127
  · skip
    refine lv_tableIn (tgt := 128) (off := 127) hx hb dX10_count_1 (by omega) (by omega) (by rw [h1]; rfl) (by decide) ?_
    refine lv_aload_n hx hb dX10_count_128 rfl (lv_at hl 0 rfl) ?_
    refine va_get (D := D) (ci := 10) (v := .ref (ad 6)) (C := RX10) (T := TX10) (N := 14) hx hb hts (by decide +kernel) hown hK hP 0 rfl rfl 5 (by decide) (hts (.fieldLink RX10 47 "PortRooms" "duties" "LPortRooms$Duties;") (by decide +kernel)) (fun _ h9 => h9) rfl dX10_count_129 ?_
    refine va_get (D := D) (ci := 2) (v := .int 0) (C := RX2) (T := TX2) (N := 15) hx hb hts (by decide +kernel) hown hK hP 7 rfl rfl 1 (by decide) (hts (.fieldLink RX10 213 "PortRooms$Duties" "length" "I") (by decide +kernel)) (fun _ h9 => h9) rfl dX10_count_132 ?_
    have hP9 := hP.sub (ws' := []) [] rfl
    have hD9 := hD.sub (ws' := []) [] (by decide) rfl
    exact W.iret (v := 0) hx hb hr (fun t ht hW => ⟨⟨0, (), rfl, (by unfold an_count; (repeat' split) <;> first | rfl | (exfalso; omega)), by rw [ht]; exact hP9, va_K.moved hW.alike hK, hD9⟩, hS.F ht⟩) hS.2.2 dX10_count_135
end
section
theorem dX3_tell_0 : decode cX3_tell 0 = .ok (.aload_n 0, 1) := by decide +kernel
theorem dX3_tell_1 : decode cX3_tell 1 = .ok (.getfield 9, 3) := by decide +kernel
theorem dX3_tell_4 : decode cX3_tell 4 = .ok (.aload_n 0, 1) := by decide +kernel
theorem dX3_tell_5 : decode cX3_tell 5 = .ok (.getfield 36, 3) := by decide +kernel
theorem dX3_tell_8 : decode cX3_tell 8 = .ok (.iload_n 1, 1) := by decide +kernel
theorem dX3_tell_9 : decode cX3_tell 9 = .ok (.iastore, 1) := by decide +kernel
theorem dX3_tell_10 : decode cX3_tell 10 = .ok (.aload_n 0, 1) := by decide +kernel
theorem dX3_tell_11 : decode cX3_tell 11 = .ok (.getfield 15, 3) := by decide +kernel
theorem dX3_tell_14 : decode cX3_tell 14 = .ok (.aload_n 0, 1) := by decide +kernel
theorem dX3_tell_15 : decode cX3_tell 15 = .ok (.getfield 36, 3) := by decide +kernel
theorem dX3_tell_18 : decode cX3_tell 18 = .ok (.iload_n 2, 1) := by decide +kernel
theorem dX3_tell_19 : decode cX3_tell 19 = .ok (.iastore, 1) := by decide +kernel
theorem dX3_tell_20 : decode cX3_tell 20 = .ok (.aload_n 0, 1) := by decide +kernel
theorem dX3_tell_21 : decode cX3_tell 21 = .ok (.getfield 18, 3) := by decide +kernel
theorem dX3_tell_24 : decode cX3_tell 24 = .ok (.aload_n 0, 1) := by decide +kernel
theorem dX3_tell_25 : decode cX3_tell 25 = .ok (.getfield 36, 3) := by decide +kernel
theorem dX3_tell_28 : decode cX3_tell 28 = .ok (.iload_n 3, 1) := by decide +kernel
theorem dX3_tell_29 : decode cX3_tell 29 = .ok (.iastore, 1) := by decide +kernel
theorem dX3_tell_30 : decode cX3_tell 30 = .ok (.aload_n 0, 1) := by decide +kernel
theorem dX3_tell_31 : decode cX3_tell 31 = .ok (.getfield 21, 3) := by decide +kernel
theorem dX3_tell_34 : decode cX3_tell 34 = .ok (.aload_n 0, 1) := by decide +kernel
theorem dX3_tell_35 : decode cX3_tell 35 = .ok (.getfield 36, 3) := by decide +kernel
theorem dX3_tell_38 : decode cX3_tell 38 = .ok (.iload 4, 2) := by decide +kernel
theorem dX3_tell_40 : decode cX3_tell 40 = .ok (.iastore, 1) := by decide +kernel
theorem dX3_tell_41 : decode cX3_tell 41 = .ok (.aload_n 0, 1) := by decide +kernel
theorem dX3_tell_42 : decode cX3_tell 42 = .ok (.dup, 1) := by decide +kernel
theorem dX3_tell_43 : decode cX3_tell 43 = .ok (.getfield 36, 3) := by decide +kernel
theorem dX3_tell_46 : decode cX3_tell 46 = .ok (.iconst 1, 1) := by decide +kernel
theorem dX3_tell_47 : decode cX3_tell 47 = .ok (.iadd, 1) := by decide +kernel
theorem dX3_tell_48 : decode cX3_tell 48 = .ok (.putfield 36, 3) := by decide +kernel
theorem dX3_tell_51 : decode cX3_tell 51 = .ok (.aload_n 0, 1) := by decide +kernel
theorem dX3_tell_52 : decode cX3_tell 52 = .ok (.getfield 36, 3) := by decide +kernel
theorem dX3_tell_55 : decode cX3_tell 55 = .ok (.ireturn, 1) := by decide +kernel
theorem dX3_place_0 : decode cX3_place 0 = .ok (.iload_n 0, 1) := by decide +kernel
theorem dX3_place_1 : decode cX3_place 1 = .ok (.bipush 10, 2) := by decide +kernel
theorem dX3_place_3 : decode cX3_place 3 = .ok (.imul, 1) := by decide +kernel
theorem dX3_place_4 : decode cX3_place 4 = .ok (.iload_n 1, 1) := by decide +kernel
theorem dX3_place_5 : decode cX3_place 5 = .ok (.iadd, 1) := by decide +kernel
theorem dX3_place_6 : decode cX3_place 6 = .ok (.bipush 10, 2) := by decide +kernel
theorem dX3_place_8 : decode cX3_place 8 = .ok (.isub, 1) := by decide +kernel
theorem dX3_place_9 : decode cX3_place 9 = .ok (.ireturn, 1) := by decide +kernel
set_option maxRecDepth 20000 in
theorem ggX3_lookAt_J7_fill_53178 : GoodIn wsX3_lookAt wsJ7_fill_53178 := goodIn_r _ [11] (by decide +kernel) (by decide +kernel)
set_option maxRecDepth 20000 in
theorem gX3_lookAt_J7_fill_53178 : GoodIn wsX3_lookAt (va_wsS RX3 40 yJ7_fill_53178 wsJ7_fill_53178) := goodIn_app (goodIn_of _ (by decide +kernel)) ggX3_lookAt_J7_fill_53178
set_option maxRecDepth 20000 in
theorem ggX3_lookAt_X3_gatherWhoHas : GoodIn wsX3_lookAt wsX3_gatherWhoHas := goodIn_r _ [19, 20, 3, 1, 4, 5, 8, 9, 10, 11, 12, 13, 14, 15, 33, 34, 35, 36, 37, 38, 39, 40, 41] (by decide +kernel) (by decide +kernel)
set_option maxRecDepth 20000 in
theorem gX3_lookAt_X3_gatherWhoHas : GoodIn wsX3_lookAt (wsV RX3 50 RX3 yX3_gatherWhoHas wsX3_gatherWhoHas) := goodIn_app (goodIn_of _ (by decide +kernel)) ggX3_lookAt_X3_gatherWhoHas
set_option maxRecDepth 20000 in
theorem ggX3_lookAt_X3_closeReach : GoodIn wsX3_lookAt wsX3_closeReach := goodIn_r _ [24, 20, 25, 26, 27, 28, 29, 30, 31, 32, 33, 34, 35, 36, 37, 38, 39, 40, 41] (by decide +kernel) (by decide +kernel)
set_option maxRecDepth 20000 in
theorem gX3_lookAt_X3_closeReach : GoodIn wsX3_lookAt (wsV RX3 53 RX3 yX3_closeReach wsX3_closeReach) := goodIn_app (goodIn_of _ (by decide +kernel)) ggX3_lookAt_X3_closeReach
theorem dX3_lookAt_0 : decode cX3_lookAt 0 = .ok (.aload_n 0, 1) := by decide +kernel
theorem dX3_lookAt_1 : decode cX3_lookAt 1 = .ok (.getfield 24, 3) := by decide +kernel
theorem dX3_lookAt_4 : decode cX3_lookAt 4 = .ok (.iconst 0, 1) := by decide +kernel
theorem dX3_lookAt_5 : decode cX3_lookAt 5 = .ok (.invokestatic 40, 3) := by decide +kernel
theorem dX3_lookAt_8 : decode cX3_lookAt 8 = .ok (.aload_n 0, 1) := by decide +kernel
theorem dX3_lookAt_9 : decode cX3_lookAt 9 = .ok (.getfield 27, 3) := by decide +kernel
theorem dX3_lookAt_12 : decode cX3_lookAt 12 = .ok (.iconst 0, 1) := by decide +kernel
theorem dX3_lookAt_13 : decode cX3_lookAt 13 = .ok (.invokestatic 40, 3) := by decide +kernel
theorem dX3_lookAt_16 : decode cX3_lookAt 16 = .ok (.iconst 0, 1) := by decide +kernel
theorem dX3_lookAt_17 : decode cX3_lookAt 17 = .ok (.istore_n 2, 1) := by decide +kernel
theorem dX3_lookAt_18 : decode cX3_lookAt 18 = .ok (.iload_n 2, 1) := by decide +kernel
theorem dX3_lookAt_19 : decode cX3_lookAt 19 = .ok (.aload_n 0, 1) := by decide +kernel
theorem dX3_lookAt_20 : decode cX3_lookAt 20 = .ok (.getfield 36, 3) := by decide +kernel
theorem dX3_lookAt_23 : decode cX3_lookAt 23 = .ok (.if_icmp .ge 74, 3) := by decide +kernel
theorem dX3_lookAt_97 : decode cX3_lookAt 97 = .ok (.aload_n 0, 1) := by decide +kernel
theorem dX3_lookAt_98 : decode cX3_lookAt 98 = .ok (.invokevirtual 50, 3) := by decide +kernel
theorem dX3_lookAt_101 : decode cX3_lookAt 101 = .ok (.aload_n 0, 1) := by decide +kernel
theorem dX3_lookAt_102 : decode cX3_lookAt 102 = .ok (.invokevirtual 53, 3) := by decide +kernel
theorem dX3_lookAt_105 : decode cX3_lookAt 105 = .ok (.return_, 1) := by decide +kernel
set_option maxRecDepth 20000 in
theorem ggX3_gatherWhoHas_J7_fill_53178 : GoodIn wsX3_gatherWhoHas wsJ7_fill_53178 := goodIn_r _ [9] (by decide +kernel) (by decide +kernel)
set_option maxRecDepth 20000 in
theorem gX3_gatherWhoHas_J7_fill_53178 : GoodIn wsX3_gatherWhoHas (va_wsS RX3 40 yJ7_fill_53178 wsJ7_fill_53178) := goodIn_app (goodIn_of _ (by decide +kernel)) ggX3_gatherWhoHas_J7_fill_53178
theorem dX3_gatherWhoHas_0 : decode cX3_gatherWhoHas 0 = .ok (.aload_n 0, 1) := by decide +kernel
theorem dX3_gatherWhoHas_1 : decode cX3_gatherWhoHas 1 = .ok (.getfield 30, 3) := by decide +kernel
theorem dX3_gatherWhoHas_4 : decode cX3_gatherWhoHas 4 = .ok (.iconst 0, 1) := by decide +kernel
theorem dX3_gatherWhoHas_5 : decode cX3_gatherWhoHas 5 = .ok (.invokestatic 40, 3) := by decide +kernel
theorem dX3_gatherWhoHas_8 : decode cX3_gatherWhoHas 8 = .ok (.iconst 0, 1) := by decide +kernel
theorem dX3_gatherWhoHas_9 : decode cX3_gatherWhoHas 9 = .ok (.istore_n 1, 1) := by decide +kernel
theorem dX3_gatherWhoHas_10 : decode cX3_gatherWhoHas 10 = .ok (.iload_n 1, 1) := by decide +kernel
theorem dX3_gatherWhoHas_11 : decode cX3_gatherWhoHas 11 = .ok (.aload_n 0, 1) := by decide +kernel
theorem dX3_gatherWhoHas_12 : decode cX3_gatherWhoHas 12 = .ok (.getfield 36, 3) := by decide +kernel
theorem dX3_gatherWhoHas_15 : decode cX3_gatherWhoHas 15 = .ok (.if_icmp .ge 57, 3) := by decide +kernel
theorem dX3_gatherWhoHas_72 : decode cX3_gatherWhoHas 72 = .ok (.return_, 1) := by decide +kernel
set_option maxRecDepth 20000 in
theorem ggX3_closeReach_X10_hasBit : GoodIn wsX3_closeReach wsX10_hasBit := goodIn_r _ [9] (by decide +kernel) (by decide +kernel)
set_option maxRecDepth 20000 in
theorem gX3_closeReach_X10_hasBit_n62 : GoodIn wsX3_closeReach (wsX10_hasBit) := ggX3_closeReach_X10_hasBit
theorem dX3_closeReach_0 : decode cX3_closeReach 0 = .ok (.aload_n 0, 1) := by decide +kernel
theorem dX3_closeReach_1 : decode cX3_closeReach 1 = .ok (.getfield 30, 3) := by decide +kernel
theorem dX3_closeReach_4 : decode cX3_closeReach 4 = .ok (.bipush 10, 2) := by decide +kernel
theorem dX3_closeReach_6 : decode cX3_closeReach 6 = .ok (.aload_n 0, 1) := by decide +kernel
theorem dX3_closeReach_7 : decode cX3_closeReach 7 = .ok (.getfield 33, 3) := by decide +kernel
theorem dX3_closeReach_10 : decode cX3_closeReach 10 = .ok (.iconst 0, 1) := by decide +kernel
theorem dX3_closeReach_11 : decode cX3_closeReach 11 = .ok (.bipush 10, 2) := by decide +kernel
theorem dX3_closeReach_13 : decode cX3_closeReach 13 = .ok (.invokestatic 56, 3) := by decide +kernel
theorem dX3_closeReach_16 : decode cX3_closeReach 16 = .ok (.iconst 0, 1) := by decide +kernel
theorem dX3_closeReach_17 : decode cX3_closeReach 17 = .ok (.istore_n 1, 1) := by decide +kernel
theorem dX3_closeReach_18 : decode cX3_closeReach 18 = .ok (.iload_n 1, 1) := by decide +kernel
theorem dX3_closeReach_19 : decode cX3_closeReach 19 = .ok (.bipush 10, 2) := by decide +kernel
theorem dX3_closeReach_21 : decode cX3_closeReach 21 = .ok (.if_icmp .ge 51, 3) := by decide +kernel
theorem dX3_closeReach_24 : decode cX3_closeReach 24 = .ok (.iconst 0, 1) := by decide +kernel
theorem dX3_closeReach_25 : decode cX3_closeReach 25 = .ok (.istore_n 2, 1) := by decide +kernel
theorem dX3_closeReach_26 : decode cX3_closeReach 26 = .ok (.iload_n 2, 1) := by decide +kernel
theorem dX3_closeReach_27 : decode cX3_closeReach 27 = .ok (.bipush 10, 2) := by decide +kernel
theorem dX3_closeReach_29 : decode cX3_closeReach 29 = .ok (.if_icmp .ge 37, 3) := by decide +kernel
theorem dX3_closeReach_32 : decode cX3_closeReach 32 = .ok (.aload_n 0, 1) := by decide +kernel
theorem dX3_closeReach_33 : decode cX3_closeReach 33 = .ok (.getfield 33, 3) := by decide +kernel
theorem dX3_closeReach_36 : decode cX3_closeReach 36 = .ok (.iload_n 2, 1) := by decide +kernel
theorem dX3_closeReach_37 : decode cX3_closeReach 37 = .ok (.iaload, 1) := by decide +kernel
theorem dX3_closeReach_38 : decode cX3_closeReach 38 = .ok (.iload_n 1, 1) := by decide +kernel
theorem dX3_closeReach_39 : decode cX3_closeReach 39 = .ok (.invokestatic 62, 3) := by decide +kernel
theorem dX3_closeReach_42 : decode cX3_closeReach 42 = .ok (.ifCond .eq 18, 3) := by decide +kernel
theorem dX3_closeReach_60 : decode cX3_closeReach 60 = .ok (.iinc 2 1, 3) := by decide +kernel
theorem dX3_closeReach_63 : decode cX3_closeReach 63 = .ok (.goto (-37), 3) := by decide +kernel
theorem dX3_closeReach_66 : decode cX3_closeReach 66 = .ok (.iinc 1 1, 3) := by decide +kernel
theorem dX3_closeReach_69 : decode cX3_closeReach 69 = .ok (.goto (-51), 3) := by decide +kernel
theorem dX3_closeReach_72 : decode cX3_closeReach 72 = .ok (.return_, 1) := by decide +kernel
set_option maxRecDepth 20000 in
theorem ggX3_partOf_X3_place : GoodIn wsX3_partOf wsX3_place := goodIn_r _ [5] (by decide +kernel) (by decide +kernel)
set_option maxRecDepth 20000 in
theorem gX3_partOf_X3_place : GoodIn wsX3_partOf (va_wsS RX3 46 yX3_place wsX3_place) := goodIn_app (goodIn_of _ (by decide +kernel)) ggX3_partOf_X3_place
theorem dX3_partOf_0 : decode cX3_partOf 0 = .ok (.aload_n 0, 1) := by decide +kernel
theorem dX3_partOf_1 : decode cX3_partOf 1 = .ok (.getfield 24, 3) := by decide +kernel
theorem dX3_partOf_4 : decode cX3_partOf 4 = .ok (.iload_n 1, 1) := by decide +kernel
theorem dX3_partOf_5 : decode cX3_partOf 5 = .ok (.iload_n 2, 1) := by decide +kernel
theorem dX3_partOf_6 : decode cX3_partOf 6 = .ok (.invokestatic 46, 3) := by decide +kernel
theorem dX3_partOf_9 : decode cX3_partOf 9 = .ok (.iaload, 1) := by decide +kernel
theorem dX3_partOf_10 : decode cX3_partOf 10 = .ok (.ireturn, 1) := by decide +kernel
set_option maxRecDepth 20000 in
theorem ggX10_hold_X10_isPair : GoodIn wsX10_hold wsX10_isPair := goodIn_r _ [8, 9, 10, 7, 11, 12, 13, 14, 15, 16, 17] (by decide +kernel) (by decide +kernel)
set_option maxRecDepth 20000 in
theorem gX10_hold_X10_isPair : GoodIn wsX10_hold (va_wsS RX10 132 yX10_isPair wsX10_isPair) := goodIn_app (goodIn_of _ (by decide +kernel)) ggX10_hold_X10_isPair
set_option maxRecDepth 20000 in
theorem ggX10_hold_X10_isFrom : GoodIn wsX10_hold wsX10_isFrom := goodIn_r _ [20] (by decide +kernel) (by decide +kernel)
set_option maxRecDepth 20000 in
theorem gX10_hold_X10_isFrom : GoodIn wsX10_hold (va_wsS RX10 135 yX10_isFrom wsX10_isFrom) := goodIn_app (goodIn_of _ (by decide +kernel)) ggX10_hold_X10_isFrom
set_option maxRecDepth 20000 in
theorem ggX10_hold_X10_isDay : GoodIn wsX10_hold wsX10_isDay := goodIn_r _ [23, 12, 13, 7, 14] (by decide +kernel) (by decide +kernel)
set_option maxRecDepth 20000 in
theorem gX10_hold_X10_isDay : GoodIn wsX10_hold (va_wsS RX10 138 yX10_isDay wsX10_isDay) := goodIn_app (goodIn_of _ (by decide +kernel)) ggX10_hold_X10_isDay
set_option maxRecDepth 20000 in
theorem ggX10_hold_X3_tell : GoodIn wsX10_hold wsX3_tell := goodIn_r _ [28, 29, 30, 31, 32, 33, 48, 49, 50, 51, 52, 53, 54, 55, 56] (by decide +kernel) (by decide +kernel)
set_option maxRecDepth 20000 in
theorem gX10_hold_X3_tell : GoodIn wsX10_hold (wsV RX10 146 RX3 yX3_tell wsX3_tell) := goodIn_app (goodIn_of _ (by decide +kernel)) ggX10_hold_X3_tell
theorem dX10_hold_0 : decode cX10_hold 0 = .ok (.iload_n 1, 1) := by decide +kernel
theorem dX10_hold_1 : decode cX10_hold 1 = .ok (.iload_n 2, 1) := by decide +kernel
theorem dX10_hold_2 : decode cX10_hold 2 = .ok (.invokestatic 132, 3) := by decide +kernel
theorem dX10_hold_5 : decode cX10_hold 5 = .ok (.ifCond .eq 21, 3) := by decide +kernel
theorem dX10_hold_8 : decode cX10_hold 8 = .ok (.iload_n 3, 1) := by decide +kernel
theorem dX10_hold_9 : decode cX10_hold 9 = .ok (.iconst 0, 1) := by decide +kernel
theorem dX10_hold_10 : decode cX10_hold 10 = .ok (.bipush 100, 2) := by decide +kernel
theorem dX10_hold_12 : decode cX10_hold 12 = .ok (.invokestatic 135, 3) := by decide +kernel
theorem dX10_hold_15 : decode cX10_hold 15 = .ok (.ifCond .eq 11, 3) := by decide +kernel
theorem dX10_hold_18 : decode cX10_hold 18 = .ok (.iload 4, 2) := by decide +kernel
theorem dX10_hold_20 : decode cX10_hold 20 = .ok (.invokestatic 138, 3) := by decide +kernel
theorem dX10_hold_23 : decode cX10_hold 23 = .ok (.ifCond .ne 6, 3) := by decide +kernel
theorem dX10_hold_26 : decode cX10_hold 26 = .ok (.ldc 89, 2) := by decide +kernel
theorem dX10_hold_28 : decode cX10_hold 28 = .ok (.ireturn, 1) := by decide +kernel
theorem dX10_hold_29 : decode cX10_hold 29 = .ok (.aload_n 0, 1) := by decide +kernel
theorem dX10_hold_30 : decode cX10_hold 30 = .ok (.getfield 19, 3) := by decide +kernel
theorem dX10_hold_33 : decode cX10_hold 33 = .ok (.getfield 141, 3) := by decide +kernel
theorem dX10_hold_36 : decode cX10_hold 36 = .ok (.bipush 40, 2) := by decide +kernel
theorem dX10_hold_38 : decode cX10_hold 38 = .ok (.if_icmp .lt 6, 3) := by decide +kernel
theorem dX10_hold_44 : decode cX10_hold 44 = .ok (.aload_n 0, 1) := by decide +kernel
theorem dX10_hold_45 : decode cX10_hold 45 = .ok (.getfield 19, 3) := by decide +kernel
theorem dX10_hold_48 : decode cX10_hold 48 = .ok (.iload_n 1, 1) := by decide +kernel
theorem dX10_hold_49 : decode cX10_hold 49 = .ok (.iload_n 2, 1) := by decide +kernel
theorem dX10_hold_50 : decode cX10_hold 50 = .ok (.iload_n 3, 1) := by decide +kernel
theorem dX10_hold_51 : decode cX10_hold 51 = .ok (.iload 4, 2) := by decide +kernel
theorem dX10_hold_53 : decode cX10_hold 53 = .ok (.invokevirtual 146, 3) := by decide +kernel
theorem dX10_hold_56 : decode cX10_hold 56 = .ok (.ireturn, 1) := by decide +kernel
set_option maxRecDepth 20000 in
theorem ggX10_percent_X10_isPair : GoodIn wsX10_percent wsX10_isPair := goodIn_r _ [6, 7, 8, 5, 9, 10, 11, 12, 13, 14, 15] (by decide +kernel) (by decide +kernel)
set_option maxRecDepth 20000 in
theorem gX10_percent_X10_isPair : GoodIn wsX10_percent (va_wsS RX10 132 yX10_isPair wsX10_isPair) := goodIn_app (goodIn_of _ (by decide +kernel)) ggX10_percent_X10_isPair
set_option maxRecDepth 20000 in
theorem ggX10_percent_X10_isDay : GoodIn wsX10_percent wsX10_isDay := goodIn_r _ [18, 10, 11, 5, 12] (by decide +kernel) (by decide +kernel)
set_option maxRecDepth 20000 in
theorem gX10_percent_X10_isDay : GoodIn wsX10_percent (va_wsS RX10 138 yX10_isDay wsX10_isDay) := goodIn_app (goodIn_of _ (by decide +kernel)) ggX10_percent_X10_isDay
set_option maxRecDepth 20000 in
theorem ggX10_percent_X3_lookAt : GoodIn wsX10_percent wsX3_lookAt := goodIn_r _ [23, 24, 25, 26, 27, 28, 29, 30, 31, 32, 33, 34, 35, 36, 22, 37, 38, 39, 40, 41, 42, 43, 44, 45, 46, 47, 48, 49, 50, 51, 52, 5, 53, 72, 73, 74, 75, 76, 77, 78, 79, 80] (by decide +kernel) (by decide +kernel)
set_option maxRecDepth 20000 in
theorem gX10_percent_X3_lookAt : GoodIn wsX10_percent (wsV RX10 153 RX3 yX3_lookAt wsX3_lookAt) := goodIn_app (goodIn_of _ (by decide +kernel)) ggX10_percent_X3_lookAt
set_option maxRecDepth 20000 in
theorem ggX10_percent_X3_partOf : GoodIn wsX10_percent wsX3_partOf := goodIn_r _ [57, 24, 35, 36, 22, 37, 72, 73, 74, 75, 76, 77, 78, 79, 80] (by decide +kernel) (by decide +kernel)
set_option maxRecDepth 20000 in
theorem gX10_percent_X3_partOf : GoodIn wsX10_percent (wsV RX10 156 RX3 yX3_partOf wsX3_partOf) := goodIn_app (goodIn_of _ (by decide +kernel)) ggX10_percent_X3_partOf
theorem dX10_percent_0 : decode cX10_percent 0 = .ok (.iload_n 1, 1) := by decide +kernel
theorem dX10_percent_1 : decode cX10_percent 1 = .ok (.iload_n 2, 1) := by decide +kernel
theorem dX10_percent_2 : decode cX10_percent 2 = .ok (.invokestatic 132, 3) := by decide +kernel
theorem dX10_percent_5 : decode cX10_percent 5 = .ok (.ifCond .eq 10, 3) := by decide +kernel
theorem dX10_percent_8 : decode cX10_percent 8 = .ok (.iload_n 3, 1) := by decide +kernel
theorem dX10_percent_9 : decode cX10_percent 9 = .ok (.invokestatic 138, 3) := by decide +kernel
theorem dX10_percent_12 : decode cX10_percent 12 = .ok (.ifCond .ne 6, 3) := by decide +kernel
theorem dX10_percent_15 : decode cX10_percent 15 = .ok (.ldc 89, 2) := by decide +kernel
theorem dX10_percent_17 : decode cX10_percent 17 = .ok (.ireturn, 1) := by decide +kernel
theorem dX10_percent_18 : decode cX10_percent 18 = .ok (.aload_n 0, 1) := by decide +kernel
theorem dX10_percent_19 : decode cX10_percent 19 = .ok (.getfield 19, 3) := by decide +kernel
theorem dX10_percent_22 : decode cX10_percent 22 = .ok (.iload_n 3, 1) := by decide +kernel
theorem dX10_percent_23 : decode cX10_percent 23 = .ok (.invokevirtual 153, 3) := by decide +kernel
theorem dX10_percent_26 : decode cX10_percent 26 = .ok (.aload_n 0, 1) := by decide +kernel
theorem dX10_percent_27 : decode cX10_percent 27 = .ok (.getfield 19, 3) := by decide +kernel
theorem dX10_percent_30 : decode cX10_percent 30 = .ok (.iload_n 1, 1) := by decide +kernel
theorem dX10_percent_31 : decode cX10_percent 31 = .ok (.iload_n 2, 1) := by decide +kernel
theorem dX10_percent_32 : decode cX10_percent 32 = .ok (.invokevirtual 156, 3) := by decide +kernel
theorem dX10_percent_35 : decode cX10_percent 35 = .ok (.ireturn, 1) := by decide +kernel
theorem dX10_hasBit_0 : decode cX10_hasBit 0 = .ok (.iload_n 0, 1) := by decide +kernel
theorem dX10_hasBit_1 : decode cX10_hasBit 1 = .ok (.iload_n 1, 1) := by decide +kernel
theorem dX10_hasBit_2 : decode cX10_hasBit 2 = .ok (.iushr, 1) := by decide +kernel
theorem dX10_hasBit_3 : decode cX10_hasBit 3 = .ok (.iconst 1, 1) := by decide +kernel
theorem dX10_hasBit_4 : decode cX10_hasBit 4 = .ok (.iand, 1) := by decide +kernel
theorem dX10_hasBit_5 : decode cX10_hasBit 5 = .ok (.ifCond .eq 7, 3) := by decide +kernel
theorem dX10_hasBit_12 : decode cX10_hasBit 12 = .ok (.iconst 0, 1) := by decide +kernel
theorem dX10_hasBit_13 : decode cX10_hasBit 13 = .ok (.ireturn, 1) := by decide +kernel
set_option maxHeartbeats 4000000 in
set_option maxRecDepth 100000 in
theorem ct_hasBit0 (l : Launch) (D : va_G) (cI cY cJ cQ : ClassId) (sz : Nat) (b : Int32)  : Met l yX10_hasBit wsX10_hasBit ({ frames := 0, cells := 0, slots := 0, locals := 0 }) (cPre D (ty4 cI cY cJ cQ) [] sz [.int 0, .int b]) (va_Qi (fun (r : Int32) (u : Unit) => r = 0) (cB D (ty4 cI cY cJ cQ) (fun (u : Unit) => []) (va_A [] sz)) (va_A [] sz)) 0 0 (va_A [] sz) := by
  refine Met.ofW (cc := cX10_hasBit) (maxL := 2) (ret := (some .boolean)) (by decide) rfl ?_
  intro p e s m args below meth c s₁ B hml hv
  obtain ⟨rfl, hsz, hP, hK, hD0, hN⟩ := hv
  have hx := B.exec
  have hb := B.bytes
  have hr := B.returns
  have hts := atoms_spec (ws := wsX10_hasBit) B.pre
  have hown : s.vm.findClass RX10 = some m.cls := findClass_of_methodNamed B.named
  have hlocks := B.notSynchronized
  subst hsz
  have hD := hD0.self (sz := s.heap.size)
  generalize hAe : va_A [] s.heap.size = A at hD ⊢
  have hA : ∀ q : Nat, s.heap.size ≤ q → A q := fun q h => by rw [← hAe]; exact Or.inr h
  have hS : va_S A s.heap s.heap [] := va_S.rf
  have hP : va_P D vwCl [] s.heap := hP
  have hl := lv_entry ([.int 0, .int b]) (n := 2) (Nat.le_of_ble_eq_true rfl)
  rw [lg_entry_eq]
  generalize (lg_sl ([.int 0, .int b]) ++ List.replicate (2 - (lg_sl ([.int 0, .int b])).length) Slot.unset).toArray = ls at hl ⊢
  have hl : lv_has ls 2 [(0, .int 0), (1, .int b)] := hl
  refine lv_iload_n hx hb dX10_hasBit_0 rfl (lv_at hl 0 rfl) ?_
  refine lv_iload_n hx hb dX10_hasBit_1 rfl (lv_at hl 1 rfl) ?_
  refine lv_iushr (v := 0) hx hb dX10_hasBit_2 (ush0 _) ?_
  refine lv_iconst (v := 1) hx hb dX10_hasBit_3 (by decide) ?_
  refine lv_iand hx hb dX10_hasBit_4 ?_
  refine lv_topi (fun v1 ev1 => ?_)
  replace ev1 : v1 = 0 := ev1.trans (by first | exact Int32.zero_and | exact Int32.and_zero)
  subst ev1
  refine lv_if_eq (tgt := 12) hx hb dX10_hasBit_5 (by decide) (fun _ => ?_) (fun c => absurd (by decide) c)
  refine lv_iconst (v := 0) hx hb dX10_hasBit_12 (by decide) ?_
  have hP9 := hP.sub (ws' := []) [] rfl
  have hD9 := hD.sub (ws' := []) [] (by decide) rfl
  exact W.zret (v := 0) hx hb hr rfl (fun t ht hW => ⟨⟨0, (), rfl, rfl, by rw [ht]; exact hP9, va_K.moved hW.alike hK, hD9⟩, hS.F ht⟩) hS.2.2 dX10_hasBit_13

set_option maxHeartbeats 4000000 in
set_option maxRecDepth 100000 in
theorem ct_X3_tell (l : Launch) (D : va_G) (cI cY cJ cQ : ClassId) (sz : Nat) (ad : Nat → Nat) (o k q d : Int32)   : Met l yX3_tell wsX3_tell ({ frames := 0, cells := 0, slots := 0, locals := 0 }) (cPre D (ty4 cI cY cJ cQ) [((ad 2), .inr (3, [.ref (ad 23), .ref (ad 24), .ref (ad 25), .ref (ad 26), .int 0, .ref (ad 27), .ref (ad 28), .ref (ad 29), .ref (ad 30)])), ((ad 23), .inl (cI, 40, .inl (fun _ => 0))), ((ad 24), .inl (cI, 40, .inl (fun _ => 0))), ((ad 25), .inl (cI, 40, .inl (fun _ => 0))), ((ad 26), .inl (cI, 40, .inl (fun _ => 0)))] sz [.ref (ad 2), .int o, .int k, .int q, .int d]) (va_Qi (fun (r : Int32) (u : Unit) => r = 1) (cB D (ty4 cI cY cJ cQ) (fun (u : Unit) => []) (va_A [((ad 2), .inr (3, [.ref (ad 23), .ref (ad 24), .ref (ad 25), .ref (ad 26), .int 0, .ref (ad 27), .ref (ad 28), .ref (ad 29), .ref (ad 30)])), ((ad 23), .inl (cI, 40, .inl (fun _ => 0))), ((ad 24), .inl (cI, 40, .inl (fun _ => 0))), ((ad 25), .inl (cI, 40, .inl (fun _ => 0))), ((ad 26), .inl (cI, 40, .inl (fun _ => 0)))] sz)) (va_A [((ad 2), .inr (3, [.ref (ad 23), .ref (ad 24), .ref (ad 25), .ref (ad 26), .int 0, .ref (ad 27), .ref (ad 28), .ref (ad 29), .ref (ad 30)])), ((ad 23), .inl (cI, 40, .inl (fun _ => 0))), ((ad 24), .inl (cI, 40, .inl (fun _ => 0))), ((ad 25), .inl (cI, 40, .inl (fun _ => 0))), ((ad 26), .inl (cI, 40, .inl (fun _ => 0)))] sz)) 0 0 (va_A [((ad 2), .inr (3, [.ref (ad 23), .ref (ad 24), .ref (ad 25), .ref (ad 26), .int 0, .ref (ad 27), .ref (ad 28), .ref (ad 29), .ref (ad 30)])), ((ad 23), .inl (cI, 40, .inl (fun _ => 0))), ((ad 24), .inl (cI, 40, .inl (fun _ => 0))), ((ad 25), .inl (cI, 40, .inl (fun _ => 0))), ((ad 26), .inl (cI, 40, .inl (fun _ => 0)))] sz) := by
  refine Met.ofW (cc := cX3_tell) (maxL := 5) (ret := (some .int)) (by decide) rfl ?_
  intro p e s m args below meth c s₁ B hml hv
  obtain ⟨rfl, hsz, hP, hK, hD0, hN⟩ := hv
  have hx := B.exec
  have hb := B.bytes
  have hr := B.returns
  have hts := atoms_spec (ws := wsX3_tell) B.pre
  have hown : s.vm.findClass RX3 = some m.cls := findClass_of_methodNamed B.named
  have hlocks := B.notSynchronized
  subst hsz
  have hD := hD0.self (sz := s.heap.size)
  generalize hAe : va_A [((ad 2), .inr (3, [.ref (ad 23), .ref (ad 24), .ref (ad 25), .ref (ad 26), .int 0, .ref (ad 27), .ref (ad 28), .ref (ad 29), .ref (ad 30)])), ((ad 23), .inl (cI, 40, .inl (fun _ => 0))), ((ad 24), .inl (cI, 40, .inl (fun _ => 0))), ((ad 25), .inl (cI, 40, .inl (fun _ => 0))), ((ad 26), .inl (cI, 40, .inl (fun _ => 0)))] s.heap.size = A at hD ⊢
  have hA : ∀ q : Nat, s.heap.size ≤ q → A q := fun q h => by rw [← hAe]; exact Or.inr h
  have hS : va_S A s.heap s.heap [] := va_S.rf
  have hP : va_P D vwCl [((ad 2), .inr (3, [.ref (ad 23), .ref (ad 24), .ref (ad 25), .ref (ad 26), .int 0, .ref (ad 27), .ref (ad 28), .ref (ad 29), .ref (ad 30)])), ((ad 23), .inl (cI, 40, .inl (fun _ => 0))), ((ad 24), .inl (cI, 40, .inl (fun _ => 0))), ((ad 25), .inl (cI, 40, .inl (fun _ => 0))), ((ad 26), .inl (cI, 40, .inl (fun _ => 0)))] s.heap := hP
  have hl := lv_entry ([.ref (ad 2), .int o, .int k, .int q, .int d]) (n := 5) (Nat.le_of_ble_eq_true rfl)
  rw [lg_entry_eq]
  generalize (lg_sl ([.ref (ad 2), .int o, .int k, .int q, .int d]) ++ List.replicate (5 - (lg_sl ([.ref (ad 2), .int o, .int k, .int q, .int d])).length) Slot.unset).toArray = ls at hl ⊢
  have hl : lv_has ls 5 [(0, .ref (ad 2)), (1, .int o), (2, .int k), (3, .int q), (4, .int d)] := hl
  have k0 : (0 : Int32).toInt = 0 := by decide
  refine lv_aload_n hx hb dX3_tell_0 rfl (lv_at hl 0 rfl) ?_
  refine va_get (D := D) (ci := 3) (v := .ref (ad 23)) (C := RX3) (T := TX3) (N := 9) hx hb hts (by decide +kernel) hown hK hP 0 rfl rfl 0 (by decide) (hts (.fieldLink RX3 9 "PortRooms$Holdings" "owner" "[I") (by decide +kernel)) (fun _ h9 => h9) rfl dX3_tell_1 ?_
  refine lv_aload_n hx hb dX3_tell_4 rfl (lv_at hl 0 rfl) ?_
  refine va_get (D := D) (ci := 3) (v := .int 0) (C := RX3) (T := TX3) (N := 9) hx hb hts (by decide +kernel) hown hK hP 0 rfl rfl 4 (by decide) (hts (.fieldLink RX3 36 "PortRooms$Holdings" "count" "I") (by decide +kernel)) (fun _ h9 => h9) rfl dX3_tell_5 ?_
  refine lv_iload_n hx hb dX3_tell_8 rfl (lv_at hl 1 rfl) ?_
  refine va_iast hx hb hK hP hD hS 1 0 rfl rfl (i_in (by decide) (by decide)) dX3_tell_9 (fun H locs hP hD hS => ?_)
  replace hP : va_P D vwCl [((ad 2), .inr (3, [.ref (ad 23), .ref (ad 24), .ref (ad 25), .ref (ad 26), .int 0, .ref (ad 27), .ref (ad 28), .ref (ad 29), .ref (ad 30)])), ((ad 23), .inl (cI, 40, .inl (upd (fun _ => 0) ((0 : Int32).toNatClampNeg) o))), ((ad 24), .inl (cI, 40, .inl (fun _ => 0))), ((ad 25), .inl (cI, 40, .inl (fun _ => 0))), ((ad 26), .inl (cI, 40, .inl (fun _ => 0)))] H := hP
  replace hD : va_D A [((ad 2), .inr (3, [.ref (ad 23), .ref (ad 24), .ref (ad 25), .ref (ad 26), .int 0, .ref (ad 27), .ref (ad 28), .ref (ad 29), .ref (ad 30)])), ((ad 23), .inl (cI, 40, .inl (upd (fun _ => 0) ((0 : Int32).toNatClampNeg) o))), ((ad 24), .inl (cI, 40, .inl (fun _ => 0))), ((ad 25), .inl (cI, 40, .inl (fun _ => 0))), ((ad 26), .inl (cI, 40, .inl (fun _ => 0)))] := hD
  refine lv_aload_n hx hb dX3_tell_10 rfl (lv_at hl 0 rfl) ?_
  refine va_get (D := D) (ci := 3) (v := .ref (ad 24)) (C := RX3) (T := TX3) (N := 9) hx hb hts (by decide +kernel) hown hK hP 0 rfl rfl 1 (by decide) (hts (.fieldLink RX3 15 "PortRooms$Holdings" "company" "[I") (by decide +kernel)) (fun _ h9 => h9) rfl dX3_tell_11 ?_
  refine lv_aload_n hx hb dX3_tell_14 rfl (lv_at hl 0 rfl) ?_
  refine va_get (D := D) (ci := 3) (v := .int 0) (C := RX3) (T := TX3) (N := 9) hx hb hts (by decide +kernel) hown hK hP 0 rfl rfl 4 (by decide) (hts (.fieldLink RX3 36 "PortRooms$Holdings" "count" "I") (by decide +kernel)) (fun _ h9 => h9) rfl dX3_tell_15 ?_
  refine lv_iload_n hx hb dX3_tell_18 rfl (lv_at hl 2 rfl) ?_
  refine va_iast hx hb hK hP hD hS 2 0 rfl rfl (i_in (by decide) (by decide)) dX3_tell_19 (fun H locs hP hD hS => ?_)
  replace hP : va_P D vwCl [((ad 2), .inr (3, [.ref (ad 23), .ref (ad 24), .ref (ad 25), .ref (ad 26), .int 0, .ref (ad 27), .ref (ad 28), .ref (ad 29), .ref (ad 30)])), ((ad 23), .inl (cI, 40, .inl (upd (fun _ => 0) ((0 : Int32).toNatClampNeg) o))), ((ad 24), .inl (cI, 40, .inl (upd (fun _ => 0) ((0 : Int32).toNatClampNeg) k))), ((ad 25), .inl (cI, 40, .inl (fun _ => 0))), ((ad 26), .inl (cI, 40, .inl (fun _ => 0)))] H := hP
  replace hD : va_D A [((ad 2), .inr (3, [.ref (ad 23), .ref (ad 24), .ref (ad 25), .ref (ad 26), .int 0, .ref (ad 27), .ref (ad 28), .ref (ad 29), .ref (ad 30)])), ((ad 23), .inl (cI, 40, .inl (upd (fun _ => 0) ((0 : Int32).toNatClampNeg) o))), ((ad 24), .inl (cI, 40, .inl (upd (fun _ => 0) ((0 : Int32).toNatClampNeg) k))), ((ad 25), .inl (cI, 40, .inl (fun _ => 0))), ((ad 26), .inl (cI, 40, .inl (fun _ => 0)))] := hD
  refine lv_aload_n hx hb dX3_tell_20 rfl (lv_at hl 0 rfl) ?_
  refine va_get (D := D) (ci := 3) (v := .ref (ad 25)) (C := RX3) (T := TX3) (N := 9) hx hb hts (by decide +kernel) hown hK hP 0 rfl rfl 2 (by decide) (hts (.fieldLink RX3 18 "PortRooms$Holdings" "percentage" "[I") (by decide +kernel)) (fun _ h9 => h9) rfl dX3_tell_21 ?_
  refine lv_aload_n hx hb dX3_tell_24 rfl (lv_at hl 0 rfl) ?_
  refine va_get (D := D) (ci := 3) (v := .int 0) (C := RX3) (T := TX3) (N := 9) hx hb hts (by decide +kernel) hown hK hP 0 rfl rfl 4 (by decide) (hts (.fieldLink RX3 36 "PortRooms$Holdings" "count" "I") (by decide +kernel)) (fun _ h9 => h9) rfl dX3_tell_25 ?_
  refine lv_iload_n hx hb dX3_tell_28 rfl (lv_at hl 3 rfl) ?_
  refine va_iast hx hb hK hP hD hS 3 0 rfl rfl (i_in (by decide) (by decide)) dX3_tell_29 (fun H locs hP hD hS => ?_)
  replace hP : va_P D vwCl [((ad 2), .inr (3, [.ref (ad 23), .ref (ad 24), .ref (ad 25), .ref (ad 26), .int 0, .ref (ad 27), .ref (ad 28), .ref (ad 29), .ref (ad 30)])), ((ad 23), .inl (cI, 40, .inl (upd (fun _ => 0) ((0 : Int32).toNatClampNeg) o))), ((ad 24), .inl (cI, 40, .inl (upd (fun _ => 0) ((0 : Int32).toNatClampNeg) k))), ((ad 25), .inl (cI, 40, .inl (upd (fun _ => 0) ((0 : Int32).toNatClampNeg) q))), ((ad 26), .inl (cI, 40, .inl (fun _ => 0)))] H := hP
  replace hD : va_D A [((ad 2), .inr (3, [.ref (ad 23), .ref (ad 24), .ref (ad 25), .ref (ad 26), .int 0, .ref (ad 27), .ref (ad 28), .ref (ad 29), .ref (ad 30)])), ((ad 23), .inl (cI, 40, .inl (upd (fun _ => 0) ((0 : Int32).toNatClampNeg) o))), ((ad 24), .inl (cI, 40, .inl (upd (fun _ => 0) ((0 : Int32).toNatClampNeg) k))), ((ad 25), .inl (cI, 40, .inl (upd (fun _ => 0) ((0 : Int32).toNatClampNeg) q))), ((ad 26), .inl (cI, 40, .inl (fun _ => 0)))] := hD
  refine lv_aload_n hx hb dX3_tell_30 rfl (lv_at hl 0 rfl) ?_
  refine va_get (D := D) (ci := 3) (v := .ref (ad 26)) (C := RX3) (T := TX3) (N := 9) hx hb hts (by decide +kernel) hown hK hP 0 rfl rfl 3 (by decide) (hts (.fieldLink RX3 21 "PortRooms$Holdings" "since" "[I") (by decide +kernel)) (fun _ h9 => h9) rfl dX3_tell_31 ?_
  refine lv_aload_n hx hb dX3_tell_34 rfl (lv_at hl 0 rfl) ?_
  refine va_get (D := D) (ci := 3) (v := .int 0) (C := RX3) (T := TX3) (N := 9) hx hb hts (by decide +kernel) hown hK hP 0 rfl rfl 4 (by decide) (hts (.fieldLink RX3 36 "PortRooms$Holdings" "count" "I") (by decide +kernel)) (fun _ h9 => h9) rfl dX3_tell_35 ?_
  refine lv_iload hx hb dX3_tell_38 (lv_at hl 4 rfl) ?_
  refine va_iast hx hb hK hP hD hS 4 0 rfl rfl (i_in (by decide) (by decide)) dX3_tell_40 (fun H locs hP hD hS => ?_)
  replace hP : va_P D vwCl [((ad 2), .inr (3, [.ref (ad 23), .ref (ad 24), .ref (ad 25), .ref (ad 26), .int 0, .ref (ad 27), .ref (ad 28), .ref (ad 29), .ref (ad 30)])), ((ad 23), .inl (cI, 40, .inl (upd (fun _ => 0) ((0 : Int32).toNatClampNeg) o))), ((ad 24), .inl (cI, 40, .inl (upd (fun _ => 0) ((0 : Int32).toNatClampNeg) k))), ((ad 25), .inl (cI, 40, .inl (upd (fun _ => 0) ((0 : Int32).toNatClampNeg) q))), ((ad 26), .inl (cI, 40, .inl (upd (fun _ => 0) ((0 : Int32).toNatClampNeg) d)))] H := hP
  replace hD : va_D A [((ad 2), .inr (3, [.ref (ad 23), .ref (ad 24), .ref (ad 25), .ref (ad 26), .int 0, .ref (ad 27), .ref (ad 28), .ref (ad 29), .ref (ad 30)])), ((ad 23), .inl (cI, 40, .inl (upd (fun _ => 0) ((0 : Int32).toNatClampNeg) o))), ((ad 24), .inl (cI, 40, .inl (upd (fun _ => 0) ((0 : Int32).toNatClampNeg) k))), ((ad 25), .inl (cI, 40, .inl (upd (fun _ => 0) ((0 : Int32).toNatClampNeg) q))), ((ad 26), .inl (cI, 40, .inl (upd (fun _ => 0) ((0 : Int32).toNatClampNeg) d)))] := hD
  refine lv_aload_n hx hb dX3_tell_41 rfl (lv_at hl 0 rfl) ?_
  refine lv_dup hx hb dX3_tell_42 rfl ?_
  refine va_get (D := D) (ci := 3) (v := .int 0) (C := RX3) (T := TX3) (N := 9) hx hb hts (by decide +kernel) hown hK hP 0 rfl rfl 4 (by decide) (hts (.fieldLink RX3 36 "PortRooms$Holdings" "count" "I") (by decide +kernel)) (fun _ h9 => h9) rfl dX3_tell_43 ?_
  refine lv_iconst (v := 1) hx hb dX3_tell_46 (by decide) ?_
  refine lv_iadd hx hb dX3_tell_47 ?_
  refine lv_topi (fun v1 ev1 => ?_)
  replace ev1 : v1 = 1 := ev1.trans (by decide)
  subst ev1
  refine va_put (D := D) (ci := 3) (v := .int 1) (ty := .int) (C := RX3) (T := TX3) (N := 9) hx hb hts (by decide +kernel) tyX3 tyX3_ok nmX3 hown hK hP hD hS 0 rfl rfl 4 (by decide) (hts (.fieldLink RX3 36 "PortRooms$Holdings" "count" "I") (by decide +kernel)) (fun _ h9 => h9) rfl (by decide +kernel) rfl rfl (Nat.le_of_ble_eq_true rfl) dX3_tell_48 (fun H locs hP hD hS => ?_)
  replace hP : va_P D vwCl [((ad 2), .inr (3, [.ref (ad 23), .ref (ad 24), .ref (ad 25), .ref (ad 26), .int 1, .ref (ad 27), .ref (ad 28), .ref (ad 29), .ref (ad 30)])), ((ad 23), .inl (cI, 40, .inl (upd (fun _ => 0) ((0 : Int32).toNatClampNeg) o))), ((ad 24), .inl (cI, 40, .inl (upd (fun _ => 0) ((0 : Int32).toNatClampNeg) k))), ((ad 25), .inl (cI, 40, .inl (upd (fun _ => 0) ((0 : Int32).toNatClampNeg) q))), ((ad 26), .inl (cI, 40, .inl (upd (fun _ => 0) ((0 : Int32).toNatClampNeg) d)))] H := hP
  replace hD : va_D A [((ad 2), .inr (3, [.ref (ad 23), .ref (ad 24), .ref (ad 25), .ref (ad 26), .int 1, .ref (ad 27), .ref (ad 28), .ref (ad 29), .ref (ad 30)])), ((ad 23), .inl (cI, 40, .inl (upd (fun _ => 0) ((0 : Int32).toNatClampNeg) o))), ((ad 24), .inl (cI, 40, .inl (upd (fun _ => 0) ((0 : Int32).toNatClampNeg) k))), ((ad 25), .inl (cI, 40, .inl (upd (fun _ => 0) ((0 : Int32).toNatClampNeg) q))), ((ad 26), .inl (cI, 40, .inl (upd (fun _ => 0) ((0 : Int32).toNatClampNeg) d)))] := hD
  refine lv_aload_n hx hb dX3_tell_51 rfl (lv_at hl 0 rfl) ?_
  refine va_get (D := D) (ci := 3) (v := .int 1) (C := RX3) (T := TX3) (N := 9) hx hb hts (by decide +kernel) hown hK hP 0 rfl rfl 4 (by decide) (hts (.fieldLink RX3 36 "PortRooms$Holdings" "count" "I") (by decide +kernel)) (fun _ h9 => h9) rfl dX3_tell_52 ?_
  have hP9 := hP.sub (ws' := []) [] rfl
  have hD9 := hD.sub (ws' := []) [] (by decide) rfl
  exact W.iret (v := 1) hx hb hr (fun t ht hW => ⟨⟨1, (), rfl, rfl, by rw [ht]; exact hP9, va_K.moved hW.alike hK, hD9⟩, hS.F ht⟩) hS.2.2 dX3_tell_55

set_option maxHeartbeats 4000000 in
set_option maxRecDepth 100000 in
theorem ct_X10_hold (l : Launch) (D : va_G) (cI cY cJ cQ : ClassId) (sz : Nat) (ad : Nat → Nat) (o k q d : Int32)   : Met l yX10_hold wsX10_hold ({ frames := 3, cells := 0, slots := 0, locals := 62 }) (cPre D (ty4 cI cY cJ cQ) [((ad 0), .inr (10, [.ref (ad 1), .ref (ad 2), .ref (ad 3), .ref (ad 4), .ref (ad 5), .ref (ad 6), .ref (ad 7), .ref (ad 8), .ref (ad 9), .ref (ad 10), .ref (ad 11), .int 0, .int 0, .int 0])), ((ad 2), .inr (3, [.ref (ad 23), .ref (ad 24), .ref (ad 25), .ref (ad 26), .int 0, .ref (ad 27), .ref (ad 28), .ref (ad 29), .ref (ad 30)])), ((ad 23), .inl (cI, 40, .inl (fun _ => 0))), ((ad 24), .inl (cI, 40, .inl (fun _ => 0))), ((ad 25), .inl (cI, 40, .inl (fun _ => 0))), ((ad 26), .inl (cI, 40, .inl (fun _ => 0)))] sz [.ref (ad 0), .int o, .int k, .int q, .int d]) (va_Qi (fun (r : Int32) (u : Unit) => r = an_hold o k q d) (cB D (ty4 cI cY cJ cQ) (fun (u : Unit) => []) (va_A [((ad 0), .inr (10, [.ref (ad 1), .ref (ad 2), .ref (ad 3), .ref (ad 4), .ref (ad 5), .ref (ad 6), .ref (ad 7), .ref (ad 8), .ref (ad 9), .ref (ad 10), .ref (ad 11), .int 0, .int 0, .int 0])), ((ad 2), .inr (3, [.ref (ad 23), .ref (ad 24), .ref (ad 25), .ref (ad 26), .int 0, .ref (ad 27), .ref (ad 28), .ref (ad 29), .ref (ad 30)])), ((ad 23), .inl (cI, 40, .inl (fun _ => 0))), ((ad 24), .inl (cI, 40, .inl (fun _ => 0))), ((ad 25), .inl (cI, 40, .inl (fun _ => 0))), ((ad 26), .inl (cI, 40, .inl (fun _ => 0)))] sz)) (va_A [((ad 0), .inr (10, [.ref (ad 1), .ref (ad 2), .ref (ad 3), .ref (ad 4), .ref (ad 5), .ref (ad 6), .ref (ad 7), .ref (ad 8), .ref (ad 9), .ref (ad 10), .ref (ad 11), .int 0, .int 0, .int 0])), ((ad 2), .inr (3, [.ref (ad 23), .ref (ad 24), .ref (ad 25), .ref (ad 26), .int 0, .ref (ad 27), .ref (ad 28), .ref (ad 29), .ref (ad 30)])), ((ad 23), .inl (cI, 40, .inl (fun _ => 0))), ((ad 24), .inl (cI, 40, .inl (fun _ => 0))), ((ad 25), .inl (cI, 40, .inl (fun _ => 0))), ((ad 26), .inl (cI, 40, .inl (fun _ => 0)))] sz)) 0 0 (va_A [((ad 0), .inr (10, [.ref (ad 1), .ref (ad 2), .ref (ad 3), .ref (ad 4), .ref (ad 5), .ref (ad 6), .ref (ad 7), .ref (ad 8), .ref (ad 9), .ref (ad 10), .ref (ad 11), .int 0, .int 0, .int 0])), ((ad 2), .inr (3, [.ref (ad 23), .ref (ad 24), .ref (ad 25), .ref (ad 26), .int 0, .ref (ad 27), .ref (ad 28), .ref (ad 29), .ref (ad 30)])), ((ad 23), .inl (cI, 40, .inl (fun _ => 0))), ((ad 24), .inl (cI, 40, .inl (fun _ => 0))), ((ad 25), .inl (cI, 40, .inl (fun _ => 0))), ((ad 26), .inl (cI, 40, .inl (fun _ => 0)))] sz) := by
  refine Met.ofW (cc := cX10_hold) (maxL := 5) (ret := (some .int)) (by decide) rfl ?_
  intro p e s m args below meth c s₁ B hml hv
  obtain ⟨rfl, hsz, hP, hK, hD0, hN⟩ := hv
  have hx := B.exec
  have hb := B.bytes
  have hr := B.returns
  have hts := atoms_spec (ws := wsX10_hold) B.pre
  have hown : s.vm.findClass RX10 = some m.cls := findClass_of_methodNamed B.named
  have hlocks := B.notSynchronized
  subst hsz
  have hD := hD0.self (sz := s.heap.size)
  generalize hAe : va_A [((ad 0), .inr (10, [.ref (ad 1), .ref (ad 2), .ref (ad 3), .ref (ad 4), .ref (ad 5), .ref (ad 6), .ref (ad 7), .ref (ad 8), .ref (ad 9), .ref (ad 10), .ref (ad 11), .int 0, .int 0, .int 0])), ((ad 2), .inr (3, [.ref (ad 23), .ref (ad 24), .ref (ad 25), .ref (ad 26), .int 0, .ref (ad 27), .ref (ad 28), .ref (ad 29), .ref (ad 30)])), ((ad 23), .inl (cI, 40, .inl (fun _ => 0))), ((ad 24), .inl (cI, 40, .inl (fun _ => 0))), ((ad 25), .inl (cI, 40, .inl (fun _ => 0))), ((ad 26), .inl (cI, 40, .inl (fun _ => 0)))] s.heap.size = A at hD ⊢
  have hA : ∀ q : Nat, s.heap.size ≤ q → A q := fun q h => by rw [← hAe]; exact Or.inr h
  have hS : va_S A s.heap s.heap [] := va_S.rf
  have hP : va_P D vwCl [((ad 0), .inr (10, [.ref (ad 1), .ref (ad 2), .ref (ad 3), .ref (ad 4), .ref (ad 5), .ref (ad 6), .ref (ad 7), .ref (ad 8), .ref (ad 9), .ref (ad 10), .ref (ad 11), .int 0, .int 0, .int 0])), ((ad 2), .inr (3, [.ref (ad 23), .ref (ad 24), .ref (ad 25), .ref (ad 26), .int 0, .ref (ad 27), .ref (ad 28), .ref (ad 29), .ref (ad 30)])), ((ad 23), .inl (cI, 40, .inl (fun _ => 0))), ((ad 24), .inl (cI, 40, .inl (fun _ => 0))), ((ad 25), .inl (cI, 40, .inl (fun _ => 0))), ((ad 26), .inl (cI, 40, .inl (fun _ => 0)))] s.heap := hP
  have hl := lv_entry ([.ref (ad 0), .int o, .int k, .int q, .int d]) (n := 5) (Nat.le_of_ble_eq_true rfl)
  rw [lg_entry_eq]
  generalize (lg_sl ([.ref (ad 0), .int o, .int k, .int q, .int d]) ++ List.replicate (5 - (lg_sl ([.ref (ad 0), .int o, .int k, .int q, .int d])).length) Slot.unset).toArray = ls at hl ⊢
  have hl : lv_has ls 5 [(0, .ref (ad 0)), (1, .int o), (2, .int k), (3, .int q), (4, .int d)] := hl
  have k0 : (0 : Int32).toInt = 0 := by decide
  have k100 : (100 : Int32).toInt = 100 := by decide
  refine lv_iload_n hx hb dX10_hold_0 rfl (lv_at hl 1 rfl) ?_
  refine lv_iload_n hx hb dX10_hold_1 rfl (lv_at hl 2 rfl) ?_
  refine st_i (wr := [((ad 0), .inr (10, [.ref (ad 1), .ref (ad 2), .ref (ad 3), .ref (ad 4), .ref (ad 5), .ref (ad 6), .ref (ad 7), .ref (ad 8), .ref (ad 9), .ref (ad 10), .ref (ad 11), .int 0, .int 0, .int 0])), ((ad 2), .inr (3, [.ref (ad 23), .ref (ad 24), .ref (ad 25), .ref (ad 26), .int 0, .ref (ad 27), .ref (ad 28), .ref (ad 29), .ref (ad 30)])), ((ad 23), .inl (cI, 40, .inl (fun _ => 0))), ((ad 24), .inl (cI, 40, .inl (fun _ => 0))), ((ad 25), .inl (cI, 40, .inl (fun _ => 0))), ((ad 26), .inl (cI, 40, .inl (fun _ => 0)))]) (va_runS (As := [.int o, .int k]) (rest := []) ⟨hx, hb, hml, hown, hts⟩ (ct_X10_isPair l D cI cY cJ cQ _ o k) (va_cwS 2 hts gX10_hold_X10_isPair rfl rfl rfl (by decide +kernel) ⟨Nat.le_of_ble_eq_true rfl, Nat.le_of_ble_eq_true rfl⟩) (cPreS (hP.sub [] rfl) hK (hD.sub [] (by decide) rfl) hN) rfl rfl hl.1 rfl (lv_room (Nat.le_of_ble_eq_true rfl)) dX10_hold_2 ⟨Nat.le_of_ble_eq_true rfl, Nat.le_of_ble_eq_true rfl⟩) hP hD hS hA [] [0, 1, 2, 3, 4, 5] rfl rfl (by decide) (by decide) (fun r3 u1 H locs hw2 hP hD hS => ?_)
  replace hP : va_P D vwCl [((ad 0), .inr (10, [.ref (ad 1), .ref (ad 2), .ref (ad 3), .ref (ad 4), .ref (ad 5), .ref (ad 6), .ref (ad 7), .ref (ad 8), .ref (ad 9), .ref (ad 10), .ref (ad 11), .int 0, .int 0, .int 0])), ((ad 2), .inr (3, [.ref (ad 23), .ref (ad 24), .ref (ad 25), .ref (ad 26), .int 0, .ref (ad 27), .ref (ad 28), .ref (ad 29), .ref (ad 30)])), ((ad 23), .inl (cI, 40, .inl (fun _ => 0))), ((ad 24), .inl (cI, 40, .inl (fun _ => 0))), ((ad 25), .inl (cI, 40, .inl (fun _ => 0))), ((ad 26), .inl (cI, 40, .inl (fun _ => 0)))] H := hP
  replace hD : va_D A [((ad 0), .inr (10, [.ref (ad 1), .ref (ad 2), .ref (ad 3), .ref (ad 4), .ref (ad 5), .ref (ad 6), .ref (ad 7), .ref (ad 8), .ref (ad 9), .ref (ad 10), .ref (ad 11), .int 0, .int 0, .int 0])), ((ad 2), .inr (3, [.ref (ad 23), .ref (ad 24), .ref (ad 25), .ref (ad 26), .int 0, .ref (ad 27), .ref (ad 28), .ref (ad 29), .ref (ad 30)])), ((ad 23), .inl (cI, 40, .inl (fun _ => 0))), ((ad 24), .inl (cI, 40, .inl (fun _ => 0))), ((ad 25), .inl (cI, 40, .inl (fun _ => 0))), ((ad 26), .inl (cI, 40, .inl (fun _ => 0)))] := hD
  refine lv_if_eq (tgt := 26) hx hb dX10_hold_5 (by decide) (fun c4 => ?_) (fun c4 => ?_)
  · skip
    have f5 := bo_f hw2 c4
    refine lv_ldc hx hb hown (hts (.constant RX10 89 (-1000001)) (by decide +kernel)) dX10_hold_26 ?_
    have hP9 := hP.sub (ws' := []) [] rfl
    have hD9 := hD.sub (ws' := []) [] (by decide) rfl
    exact W.iret (v := (-1000001)) hx hb hr (fun t ht hW => ⟨⟨(-1000001), (), rfl, (by unfold an_hold; (repeat' split) <;> first | rfl | (exfalso; omega)), by rw [ht]; exact hP9, va_K.moved hW.alike hK, hD9⟩, hS.F ht⟩) hS.2.2 dX10_hold_28
  · skip
    have f6 := bo_t hw2 c4
    refine lv_iload_n hx hb dX10_hold_8 rfl (lv_at hl 3 rfl) ?_
    refine lv_iconst (v := 0) hx hb dX10_hold_9 (by decide) ?_
    refine lv_bipush (v := 100) hx hb dX10_hold_10 (by decide) ?_
    refine st_i (wr := [((ad 0), .inr (10, [.ref (ad 1), .ref (ad 2), .ref (ad 3), .ref (ad 4), .ref (ad 5), .ref (ad 6), .ref (ad 7), .ref (ad 8), .ref (ad 9), .ref (ad 10), .ref (ad 11), .int 0, .int 0, .int 0])), ((ad 2), .inr (3, [.ref (ad 23), .ref (ad 24), .ref (ad 25), .ref (ad 26), .int 0, .ref (ad 27), .ref (ad 28), .ref (ad 29), .ref (ad 30)])), ((ad 23), .inl (cI, 40, .inl (fun _ => 0))), ((ad 24), .inl (cI, 40, .inl (fun _ => 0))), ((ad 25), .inl (cI, 40, .inl (fun _ => 0))), ((ad 26), .inl (cI, 40, .inl (fun _ => 0)))]) (va_runS (As := [.int q, .int 0, .int 100]) (rest := []) ⟨hx, hb, hml, hown, hts⟩ (ct_X10_isFrom l D cI cY cJ cQ _ q (0) (100)) (va_cwS 3 hts gX10_hold_X10_isFrom rfl rfl rfl (by decide +kernel) ⟨Nat.le_of_ble_eq_true rfl, Nat.le_of_ble_eq_true rfl⟩) (cPreS (hP.sub [] rfl) hK (hD.sub [] (by decide) rfl) hN) rfl rfl hl.1 rfl (lv_room (Nat.le_of_ble_eq_true rfl)) dX10_hold_12 ⟨Nat.le_of_ble_eq_true rfl, Nat.le_of_ble_eq_true rfl⟩) hP hD hS hA [] [0, 1, 2, 3, 4, 5] rfl rfl (by decide) (by decide) (fun r9 u7 H locs hw8 hP hD hS => ?_)
    replace hP : va_P D vwCl [((ad 0), .inr (10, [.ref (ad 1), .ref (ad 2), .ref (ad 3), .ref (ad 4), .ref (ad 5), .ref (ad 6), .ref (ad 7), .ref (ad 8), .ref (ad 9), .ref (ad 10), .ref (ad 11), .int 0, .int 0, .int 0])), ((ad 2), .inr (3, [.ref (ad 23), .ref (ad 24), .ref (ad 25), .ref (ad 26), .int 0, .ref (ad 27), .ref (ad 28), .ref (ad 29), .ref (ad 30)])), ((ad 23), .inl (cI, 40, .inl (fun _ => 0))), ((ad 24), .inl (cI, 40, .inl (fun _ => 0))), ((ad 25), .inl (cI, 40, .inl (fun _ => 0))), ((ad 26), .inl (cI, 40, .inl (fun _ => 0)))] H := hP
    replace hD : va_D A [((ad 0), .inr (10, [.ref (ad 1), .ref (ad 2), .ref (ad 3), .ref (ad 4), .ref (ad 5), .ref (ad 6), .ref (ad 7), .ref (ad 8), .ref (ad 9), .ref (ad 10), .ref (ad 11), .int 0, .int 0, .int 0])), ((ad 2), .inr (3, [.ref (ad 23), .ref (ad 24), .ref (ad 25), .ref (ad 26), .int 0, .ref (ad 27), .ref (ad 28), .ref (ad 29), .ref (ad 30)])), ((ad 23), .inl (cI, 40, .inl (fun _ => 0))), ((ad 24), .inl (cI, 40, .inl (fun _ => 0))), ((ad 25), .inl (cI, 40, .inl (fun _ => 0))), ((ad 26), .inl (cI, 40, .inl (fun _ => 0)))] := hD
    refine lv_if_eq (tgt := 26) hx hb dX10_hold_15 (by decide) (fun c10 => ?_) (fun c10 => ?_)
    · skip
      have f11 := bo_f hw8 c10
      refine lv_ldc hx hb hown (hts (.constant RX10 89 (-1000001)) (by decide +kernel)) dX10_hold_26 ?_
      have hP9 := hP.sub (ws' := []) [] rfl
      have hD9 := hD.sub (ws' := []) [] (by decide) rfl
      exact W.iret (v := (-1000001)) hx hb hr (fun t ht hW => ⟨⟨(-1000001), (), rfl, (by unfold an_hold; (repeat' split) <;> first | rfl | (exfalso; omega)), by rw [ht]; exact hP9, va_K.moved hW.alike hK, hD9⟩, hS.F ht⟩) hS.2.2 dX10_hold_28
    · skip
      have f12 := bo_t hw8 c10
      refine lv_iload hx hb dX10_hold_18 (lv_at hl 4 rfl) ?_
      refine st_i (wr := [((ad 0), .inr (10, [.ref (ad 1), .ref (ad 2), .ref (ad 3), .ref (ad 4), .ref (ad 5), .ref (ad 6), .ref (ad 7), .ref (ad 8), .ref (ad 9), .ref (ad 10), .ref (ad 11), .int 0, .int 0, .int 0])), ((ad 2), .inr (3, [.ref (ad 23), .ref (ad 24), .ref (ad 25), .ref (ad 26), .int 0, .ref (ad 27), .ref (ad 28), .ref (ad 29), .ref (ad 30)])), ((ad 23), .inl (cI, 40, .inl (fun _ => 0))), ((ad 24), .inl (cI, 40, .inl (fun _ => 0))), ((ad 25), .inl (cI, 40, .inl (fun _ => 0))), ((ad 26), .inl (cI, 40, .inl (fun _ => 0)))]) (va_runS (As := [.int d]) (rest := []) ⟨hx, hb, hml, hown, hts⟩ (ct_X10_isDay l D cI cY cJ cQ _ d) (va_cwS 1 hts gX10_hold_X10_isDay rfl rfl rfl (by decide +kernel) ⟨Nat.le_of_ble_eq_true rfl, Nat.le_of_ble_eq_true rfl⟩) (cPreS (hP.sub [] rfl) hK (hD.sub [] (by decide) rfl) hN) rfl rfl hl.1 rfl (lv_room (Nat.le_of_ble_eq_true rfl)) dX10_hold_20 ⟨Nat.le_of_ble_eq_true rfl, Nat.le_of_ble_eq_true rfl⟩) hP hD hS hA [] [0, 1, 2, 3, 4, 5] rfl rfl (by decide) (by decide) (fun r15 u13 H locs hw14 hP hD hS => ?_)
      replace hP : va_P D vwCl [((ad 0), .inr (10, [.ref (ad 1), .ref (ad 2), .ref (ad 3), .ref (ad 4), .ref (ad 5), .ref (ad 6), .ref (ad 7), .ref (ad 8), .ref (ad 9), .ref (ad 10), .ref (ad 11), .int 0, .int 0, .int 0])), ((ad 2), .inr (3, [.ref (ad 23), .ref (ad 24), .ref (ad 25), .ref (ad 26), .int 0, .ref (ad 27), .ref (ad 28), .ref (ad 29), .ref (ad 30)])), ((ad 23), .inl (cI, 40, .inl (fun _ => 0))), ((ad 24), .inl (cI, 40, .inl (fun _ => 0))), ((ad 25), .inl (cI, 40, .inl (fun _ => 0))), ((ad 26), .inl (cI, 40, .inl (fun _ => 0)))] H := hP
      replace hD : va_D A [((ad 0), .inr (10, [.ref (ad 1), .ref (ad 2), .ref (ad 3), .ref (ad 4), .ref (ad 5), .ref (ad 6), .ref (ad 7), .ref (ad 8), .ref (ad 9), .ref (ad 10), .ref (ad 11), .int 0, .int 0, .int 0])), ((ad 2), .inr (3, [.ref (ad 23), .ref (ad 24), .ref (ad 25), .ref (ad 26), .int 0, .ref (ad 27), .ref (ad 28), .ref (ad 29), .ref (ad 30)])), ((ad 23), .inl (cI, 40, .inl (fun _ => 0))), ((ad 24), .inl (cI, 40, .inl (fun _ => 0))), ((ad 25), .inl (cI, 40, .inl (fun _ => 0))), ((ad 26), .inl (cI, 40, .inl (fun _ => 0)))] := hD
      refine lv_if_ne (tgt := 29) hx hb dX10_hold_23 (by decide) (fun c16 => ?_) (fun c16 => ?_)
      · skip
        have f17 := bo_t hw14 c16
        refine lv_aload_n hx hb dX10_hold_29 rfl (lv_at hl 0 rfl) ?_
        refine va_get (D := D) (ci := 10) (v := .ref (ad 2)) (C := RX10) (T := TX10) (N := 14) hx hb hts (by decide +kernel) hown hK hP 0 rfl rfl 1 (by decide) (hts (.fieldLink RX10 19 "PortRooms" "holdings" "LPortRooms$Holdings;") (by decide +kernel)) (fun _ h9 => h9) rfl dX10_hold_30 ?_
        refine va_get (D := D) (ci := 3) (v := .int 0) (C := RX3) (T := TX3) (N := 9) hx hb hts (by decide +kernel) hown hK hP 1 rfl rfl 4 (by decide) (hts (.fieldLink RX10 141 "PortRooms$Holdings" "count" "I") (by decide +kernel)) (fun _ h9 => h9) rfl dX10_hold_33 ?_
        refine lv_bipush (v := 40) hx hb dX10_hold_36 (by decide) ?_
        refine lv_icmp_lt (tgt := 44) hx hb dX10_hold_38 (by decide) (fun _ => ?_) (fun c => absurd (by decide) c)
        refine lv_aload_n hx hb dX10_hold_44 rfl (lv_at hl 0 rfl) ?_
        refine va_get (D := D) (ci := 10) (v := .ref (ad 2)) (C := RX10) (T := TX10) (N := 14) hx hb hts (by decide +kernel) hown hK hP 0 rfl rfl 1 (by decide) (hts (.fieldLink RX10 19 "PortRooms" "holdings" "LPortRooms$Holdings;") (by decide +kernel)) (fun _ h9 => h9) rfl dX10_hold_45 ?_
        refine lv_iload_n hx hb dX10_hold_48 rfl (lv_at hl 1 rfl) ?_
        refine lv_iload_n hx hb dX10_hold_49 rfl (lv_at hl 2 rfl) ?_
        refine lv_iload_n hx hb dX10_hold_50 rfl (lv_at hl 3 rfl) ?_
        refine lv_iload hx hb dX10_hold_51 (lv_at hl 4 rfl) ?_
        refine st_i (wr := [((ad 0), .inr (10, [.ref (ad 1), .ref (ad 2), .ref (ad 3), .ref (ad 4), .ref (ad 5), .ref (ad 6), .ref (ad 7), .ref (ad 8), .ref (ad 9), .ref (ad 10), .ref (ad 11), .int 0, .int 0, .int 0]))]) (va_runV (C := RX3) (As := [.int o, .int k, .int q, .int d]) (rest := []) ⟨hx, hb, hml, hown, hts⟩ (ct_X3_tell l D cI cY cJ cQ _ ad o k q d) (cwV 4 hts gX10_hold_X3_tell rfl rfl rfl (by decide +kernel) ⟨Nat.le_of_ble_eq_true rfl, Nat.le_of_ble_eq_true rfl⟩) (cPreV (hP.sub [1, 2, 3, 4, 5] rfl) hK (hD.sub [1, 2, 3, 4, 5] (by decide) rfl) hN (ci := 3) (q0 := 0) rfl rfl) rfl rfl hl.1 rfl (lv_room (Nat.le_of_ble_eq_true rfl)) dX10_hold_53 ⟨Nat.le_of_ble_eq_true rfl, Nat.le_of_ble_eq_true rfl⟩) hP hD hS hA [1, 2, 3, 4, 5] [0] rfl rfl (by decide) (by decide) (fun r20 u18 H locs hw19 hP hD hS => ?_)
        replace hP : va_P D vwCl [((ad 0), .inr (10, [.ref (ad 1), .ref (ad 2), .ref (ad 3), .ref (ad 4), .ref (ad 5), .ref (ad 6), .ref (ad 7), .ref (ad 8), .ref (ad 9), .ref (ad 10), .ref (ad 11), .int 0, .int 0, .int 0]))] H := hP
        replace hD : va_D A [((ad 0), .inr (10, [.ref (ad 1), .ref (ad 2), .ref (ad 3), .ref (ad 4), .ref (ad 5), .ref (ad 6), .ref (ad 7), .ref (ad 8), .ref (ad 9), .ref (ad 10), .ref (ad 11), .int 0, .int 0, .int 0]))] := hD
        subst hw19
        have hP9 := hP.sub (ws' := []) [] rfl
        have hD9 := hD.sub (ws' := []) [] (by decide) rfl
        exact W.iret (v := 1) hx hb hr (fun t ht hW => ⟨⟨1, (), rfl, (by unfold an_hold; (repeat' split) <;> first | rfl | (exfalso; omega)), by rw [ht]; exact hP9, va_K.moved hW.alike hK, hD9⟩, hS.F ht⟩) hS.2.2 dX10_hold_56
      · skip
        have f21 := bo_f hw14 c16
        refine lv_ldc hx hb hown (hts (.constant RX10 89 (-1000001)) (by decide +kernel)) dX10_hold_26 ?_
        have hP9 := hP.sub (ws' := []) [] rfl
        have hD9 := hD.sub (ws' := []) [] (by decide) rfl
        exact W.iret (v := (-1000001)) hx hb hr (fun t ht hW => ⟨⟨(-1000001), (), rfl, (by unfold an_hold; (repeat' split) <;> first | rfl | (exfalso; omega)), by rw [ht]; exact hP9, va_K.moved hW.alike hK, hD9⟩, hS.F ht⟩) hS.2.2 dX10_hold_28

set_option maxHeartbeats 4000000 in
set_option maxRecDepth 100000 in
theorem ct_X3_gatherWhoHas (l : Launch) (D : va_G) (cI cY cJ cQ : ClassId) (sz : Nat) (ad : Nat → Nat)   : Met l yX3_gatherWhoHas wsX3_gatherWhoHas ({ frames := 1, cells := 0, slots := 0, locals := 23 }) (cPre D (ty4 cI cY cJ cQ) [((ad 2), .inr (3, [.ref (ad 23), .ref (ad 24), .ref (ad 25), .ref (ad 26), .int 0, .ref (ad 27), .ref (ad 28), .ref (ad 29), .ref (ad 30)])), ((ad 29), .inl (cI, 20, .inl (fun _ => 0)))] sz [.ref (ad 2)]) (va_Qv (fun (u : Unit) => True) (cB D (ty4 cI cY cJ cQ) (fun (u : Unit) => [((ad 2), .inr (3, [.ref (ad 23), .ref (ad 24), .ref (ad 25), .ref (ad 26), .int 0, .ref (ad 27), .ref (ad 28), .ref (ad 29), .ref (ad 30)])), ((ad 29), .inl (cI, 20, .inl (fun _ => 0)))]) (va_A [((ad 2), .inr (3, [.ref (ad 23), .ref (ad 24), .ref (ad 25), .ref (ad 26), .int 0, .ref (ad 27), .ref (ad 28), .ref (ad 29), .ref (ad 30)])), ((ad 29), .inl (cI, 20, .inl (fun _ => 0)))] sz)) (va_A [((ad 2), .inr (3, [.ref (ad 23), .ref (ad 24), .ref (ad 25), .ref (ad 26), .int 0, .ref (ad 27), .ref (ad 28), .ref (ad 29), .ref (ad 30)])), ((ad 29), .inl (cI, 20, .inl (fun _ => 0)))] sz)) 0 0 (va_A [((ad 2), .inr (3, [.ref (ad 23), .ref (ad 24), .ref (ad 25), .ref (ad 26), .int 0, .ref (ad 27), .ref (ad 28), .ref (ad 29), .ref (ad 30)])), ((ad 29), .inl (cI, 20, .inl (fun _ => 0)))] sz) := by
  refine Met.ofW (cc := cX3_gatherWhoHas) (maxL := 2) (ret := none) (by decide) rfl ?_
  intro p e s m args below meth c s₁ B hml hv
  obtain ⟨rfl, hsz, hP, hK, hD0, hN⟩ := hv
  have hx := B.exec
  have hb := B.bytes
  have hr := B.returns
  have hts := atoms_spec (ws := wsX3_gatherWhoHas) B.pre
  have hown : s.vm.findClass RX3 = some m.cls := findClass_of_methodNamed B.named
  have hlocks := B.notSynchronized
  subst hsz
  have hD := hD0.self (sz := s.heap.size)
  generalize hAe : va_A [((ad 2), .inr (3, [.ref (ad 23), .ref (ad 24), .ref (ad 25), .ref (ad 26), .int 0, .ref (ad 27), .ref (ad 28), .ref (ad 29), .ref (ad 30)])), ((ad 29), .inl (cI, 20, .inl (fun _ => 0)))] s.heap.size = A at hD ⊢
  have hA : ∀ q : Nat, s.heap.size ≤ q → A q := fun q h => by rw [← hAe]; exact Or.inr h
  have hS : va_S A s.heap s.heap [] := va_S.rf
  have hP : va_P D vwCl [((ad 2), .inr (3, [.ref (ad 23), .ref (ad 24), .ref (ad 25), .ref (ad 26), .int 0, .ref (ad 27), .ref (ad 28), .ref (ad 29), .ref (ad 30)])), ((ad 29), .inl (cI, 20, .inl (fun _ => 0)))] s.heap := hP
  have hl := lv_entry ([.ref (ad 2)]) (n := 2) (Nat.le_of_ble_eq_true rfl)
  rw [lg_entry_eq]
  generalize (lg_sl ([.ref (ad 2)]) ++ List.replicate (2 - (lg_sl ([.ref (ad 2)])).length) Slot.unset).toArray = ls at hl ⊢
  have hl : lv_has ls 2 [(0, .ref (ad 2))] := hl
  have k0 : (0 : Int32).toInt = 0 := by decide
  refine lv_aload_n hx hb dX3_gatherWhoHas_0 rfl (lv_at hl 0 rfl) ?_
  refine va_get (D := D) (ci := 3) (v := .ref (ad 29)) (C := RX3) (T := TX3) (N := 9) hx hb hts (by decide +kernel) hown hK hP 0 rfl rfl 7 (by decide) (hts (.fieldLink RX3 30 "PortRooms$Holdings" "has" "[I") (by decide +kernel)) (fun _ h9 => h9) rfl dX3_gatherWhoHas_1 ?_
  refine lv_iconst (v := 0) hx hb dX3_gatherWhoHas_4 (by decide) ?_
  refine st_v (wr := [((ad 2), .inr (3, [.ref (ad 23), .ref (ad 24), .ref (ad 25), .ref (ad 26), .int 0, .ref (ad 27), .ref (ad 28), .ref (ad 29), .ref (ad 30)]))]) (va_runS (As := [.ref (ad 29), .int 0]) (rest := []) ⟨hx, hb, hml, hown, hts⟩ (cFill l D cI cY cJ cQ _ (ad 29) 20 (fun _ => 0) 0 (by decide)) (va_cwS 2 hts gX3_gatherWhoHas_J7_fill_53178 rfl rfl rfl (by decide +kernel) ⟨Nat.le_of_ble_eq_true rfl, Nat.le_of_ble_eq_true rfl⟩) (cPreS (hP.sub [1] rfl) hK (hD.sub [1] (by decide) rfl) hN) rfl rfl hl.1 rfl (lv_room (Nat.le_of_ble_eq_true rfl)) dX3_gatherWhoHas_5 ⟨Nat.le_of_ble_eq_true rfl, Nat.le_of_ble_eq_true rfl⟩) hP hD hS hA [1] [0] rfl rfl (by decide) (by decide) (fun u1 H locs hw2 hP hD hS => ?_)
  replace hP : va_P D vwCl [((ad 2), .inr (3, [.ref (ad 23), .ref (ad 24), .ref (ad 25), .ref (ad 26), .int 0, .ref (ad 27), .ref (ad 28), .ref (ad 29), .ref (ad 30)])), ((ad 29), .inl (cI, 20, .inl (fun _ => 0)))] H := hP
  replace hD : va_D A [((ad 2), .inr (3, [.ref (ad 23), .ref (ad 24), .ref (ad 25), .ref (ad 26), .int 0, .ref (ad 27), .ref (ad 28), .ref (ad 29), .ref (ad 30)])), ((ad 29), .inl (cI, 20, .inl (fun _ => 0)))] := hD
  refine lv_iconst (v := 0) hx hb dX3_gatherWhoHas_8 (by decide) ?_
  refine lv_istore_n (lv' := [(1, .int 0), (0, .ref (ad 2))]) hx hb dX3_gatherWhoHas_9 rfl hl (by decide) rfl (fun ls hl => ?_)
  refine lv_iload_n hx hb dX3_gatherWhoHas_10 rfl (lv_at hl 0 rfl) ?_
  refine lv_aload_n hx hb dX3_gatherWhoHas_11 rfl (lv_at hl 1 rfl) ?_
  refine va_get (D := D) (ci := 3) (v := .int 0) (C := RX3) (T := TX3) (N := 9) hx hb hts (by decide +kernel) hown hK hP 0 rfl rfl 4 (by decide) (hts (.fieldLink RX3 36 "PortRooms$Holdings" "count" "I") (by decide +kernel)) (fun _ h9 => h9) rfl dX3_gatherWhoHas_12 ?_
  refine lv_icmp_ge (tgt := 72) hx hb dX3_gatherWhoHas_15 (by decide) (fun _ => ?_) (fun c => absurd (by decide) c)
  have hP9 := hP.sub (ws' := [((ad 2), .inr (3, [.ref (ad 23), .ref (ad 24), .ref (ad 25), .ref (ad 26), .int 0, .ref (ad 27), .ref (ad 28), .ref (ad 29), .ref (ad 30)])), ((ad 29), .inl (cI, 20, .inl (fun _ => 0)))]) [0, 1] rfl
  have hD9 := hD.sub (ws' := [((ad 2), .inr (3, [.ref (ad 23), .ref (ad 24), .ref (ad 25), .ref (ad 26), .int 0, .ref (ad 27), .ref (ad 28), .ref (ad 29), .ref (ad 30)])), ((ad 29), .inl (cI, 20, .inl (fun _ => 0)))]) [0, 1] (by decide) rfl
  exact W.vret hx hb hr (fun t ht hW => ⟨⟨(), rfl, trivial, by rw [ht]; exact hP9, va_K.moved hW.alike hK, hD9⟩, hS.F ht⟩) hS.2.2 dX3_gatherWhoHas_72

set_option maxHeartbeats 4000000 in
set_option maxRecDepth 100000 in
theorem ct_X3_closeReach (l : Launch) (D : va_G) (cI cY cJ cQ : ClassId) (sz : Nat) (ad : Nat → Nat)   : Met l yX3_closeReach wsX3_closeReach ({ frames := 1, cells := 0, slots := 0, locals := 40 }) (cPre D (ty4 cI cY cJ cQ) [((ad 2), .inr (3, [.ref (ad 23), .ref (ad 24), .ref (ad 25), .ref (ad 26), .int 0, .ref (ad 27), .ref (ad 28), .ref (ad 29), .ref (ad 30)])), ((ad 29), .inl (cI, 20, .inl (fun _ => 0))), ((ad 30), .inl (cI, 10, .inl (fun _ => 0)))] sz [.ref (ad 2)]) (va_Qv (fun (u : Unit) => True) (cB D (ty4 cI cY cJ cQ) (fun (u : Unit) => [((ad 2), .inr (3, [.ref (ad 23), .ref (ad 24), .ref (ad 25), .ref (ad 26), .int 0, .ref (ad 27), .ref (ad 28), .ref (ad 29), .ref (ad 30)])), ((ad 29), .inl (cI, 20, .inl (fun _ => 0))), ((ad 30), .inl (cI, 10, .inl (fun _ => 0)))]) (va_A [((ad 2), .inr (3, [.ref (ad 23), .ref (ad 24), .ref (ad 25), .ref (ad 26), .int 0, .ref (ad 27), .ref (ad 28), .ref (ad 29), .ref (ad 30)])), ((ad 29), .inl (cI, 20, .inl (fun _ => 0))), ((ad 30), .inl (cI, 10, .inl (fun _ => 0)))] sz)) (va_A [((ad 2), .inr (3, [.ref (ad 23), .ref (ad 24), .ref (ad 25), .ref (ad 26), .int 0, .ref (ad 27), .ref (ad 28), .ref (ad 29), .ref (ad 30)])), ((ad 29), .inl (cI, 20, .inl (fun _ => 0))), ((ad 30), .inl (cI, 10, .inl (fun _ => 0)))] sz)) 0 0 (va_A [((ad 2), .inr (3, [.ref (ad 23), .ref (ad 24), .ref (ad 25), .ref (ad 26), .int 0, .ref (ad 27), .ref (ad 28), .ref (ad 29), .ref (ad 30)])), ((ad 29), .inl (cI, 20, .inl (fun _ => 0))), ((ad 30), .inl (cI, 10, .inl (fun _ => 0)))] sz) := by
  refine Met.ofW (cc := cX3_closeReach) (maxL := 3) (ret := none) (by decide) rfl ?_
  intro p e s m args below meth c s₁ B hml hv
  obtain ⟨rfl, hsz, hP, hK, hD0, hN⟩ := hv
  have hx := B.exec
  have hb := B.bytes
  have hr := B.returns
  have hts := atoms_spec (ws := wsX3_closeReach) B.pre
  have hown : s.vm.findClass RX3 = some m.cls := findClass_of_methodNamed B.named
  have hlocks := B.notSynchronized
  subst hsz
  have hD := hD0.self (sz := s.heap.size)
  generalize hAe : va_A [((ad 2), .inr (3, [.ref (ad 23), .ref (ad 24), .ref (ad 25), .ref (ad 26), .int 0, .ref (ad 27), .ref (ad 28), .ref (ad 29), .ref (ad 30)])), ((ad 29), .inl (cI, 20, .inl (fun _ => 0))), ((ad 30), .inl (cI, 10, .inl (fun _ => 0)))] s.heap.size = A at hD ⊢
  have hA : ∀ q : Nat, s.heap.size ≤ q → A q := fun q h => by rw [← hAe]; exact Or.inr h
  have hS : va_S A s.heap s.heap [] := va_S.rf
  have hP : va_P D vwCl [((ad 2), .inr (3, [.ref (ad 23), .ref (ad 24), .ref (ad 25), .ref (ad 26), .int 0, .ref (ad 27), .ref (ad 28), .ref (ad 29), .ref (ad 30)])), ((ad 29), .inl (cI, 20, .inl (fun _ => 0))), ((ad 30), .inl (cI, 10, .inl (fun _ => 0)))] s.heap := hP
  have hl := lv_entry ([.ref (ad 2)]) (n := 3) (Nat.le_of_ble_eq_true rfl)
  rw [lg_entry_eq]
  generalize (lg_sl ([.ref (ad 2)]) ++ List.replicate (3 - (lg_sl ([.ref (ad 2)])).length) Slot.unset).toArray = ls at hl ⊢
  have hl : lv_has ls 3 [(0, .ref (ad 2))] := hl
  have k0 : (0 : Int32).toInt = 0 := by decide
  have k1 : (1 : Int32).toInt = 1 := by decide
  have k10 : (10 : Int32).toInt = 10 := by decide
  refine lv_aload_n hx hb dX3_closeReach_0 rfl (lv_at hl 0 rfl) ?_
  refine va_get (D := D) (ci := 3) (v := .ref (ad 29)) (C := RX3) (T := TX3) (N := 9) hx hb hts (by decide +kernel) hown hK hP 0 rfl rfl 7 (by decide) (hts (.fieldLink RX3 30 "PortRooms$Holdings" "has" "[I") (by decide +kernel)) (fun _ h9 => h9) rfl dX3_closeReach_1 ?_
  refine lv_bipush (v := 10) hx hb dX3_closeReach_4 (by decide) ?_
  refine lv_aload_n hx hb dX3_closeReach_6 rfl (lv_at hl 0 rfl) ?_
  refine va_get (D := D) (ci := 3) (v := .ref (ad 30)) (C := RX3) (T := TX3) (N := 9) hx hb hts (by decide +kernel) hown hK hP 0 rfl rfl 8 (by decide) (hts (.fieldLink RX3 33 "PortRooms$Holdings" "reach" "[I") (by decide +kernel)) (fun _ h9 => h9) rfl dX3_closeReach_7 ?_
  refine lv_iconst (v := 0) hx hb dX3_closeReach_10 (by decide) ?_
  refine lv_bipush (v := 10) hx hb dX3_closeReach_11 (by decide) ?_
  refine va_copyi hx hb (hml.trans hl.1.symm) hown (hts (.methodLink RX3 56 arraycopyName) (by decide +kernel)) (hts (.native arraycopyName) (by decide +kernel)) (hts (.static arraycopyName) (by decide +kernel)) (hts (.initialized "java/lang/System") (by decide +kernel)) hK hP hD hS 1 2 0 0 rfl rfl rfl rfl rfl (by decide) (by decide) (by decide) (by decide) (by decide) (fun _ _ => rfl) (Nat.le_of_ble_eq_true rfl) (Nat.le_of_ble_eq_true rfl) dX3_closeReach_13 (fun H locs hP hD hS => ?_)
  replace hP : va_P D vwCl [((ad 2), .inr (3, [.ref (ad 23), .ref (ad 24), .ref (ad 25), .ref (ad 26), .int 0, .ref (ad 27), .ref (ad 28), .ref (ad 29), .ref (ad 30)])), ((ad 29), .inl (cI, 20, .inl (fun _ => 0))), ((ad 30), .inl (cI, 10, .inl (va_cpy (fun _ => 0) (fun _ => 0) ((10 : Int32).toNatClampNeg) ((0 : Int32).toNatClampNeg) ((10 : Int32).toNatClampNeg))))] H := hP
  replace hD : va_D A [((ad 2), .inr (3, [.ref (ad 23), .ref (ad 24), .ref (ad 25), .ref (ad 26), .int 0, .ref (ad 27), .ref (ad 28), .ref (ad 29), .ref (ad 30)])), ((ad 29), .inl (cI, 20, .inl (fun _ => 0))), ((ad 30), .inl (cI, 10, .inl (va_cpy (fun _ => 0) (fun _ => 0) ((10 : Int32).toNatClampNeg) ((0 : Int32).toNatClampNeg) ((10 : Int32).toNatClampNeg))))] := hD
  have ec : (va_cpy (fun _ => 0) (fun _ => 0) ((10 : Int32).toNatClampNeg) ((0 : Int32).toNatClampNeg) ((10 : Int32).toNatClampNeg) : Nat → Int32) = (fun (_ : Nat) => (0 : Int32)) := cpy0 _ _ _
  rw [ec] at hP hD
  replace hP : va_P D vwCl [((ad 2), .inr (3, [.ref (ad 23), .ref (ad 24), .ref (ad 25), .ref (ad 26), .int 0, .ref (ad 27), .ref (ad 28), .ref (ad 29), .ref (ad 30)])), ((ad 29), .inl (cI, 20, .inl (fun _ => 0))), ((ad 30), .inl (cI, 10, .inl (fun _ => 0)))] H := hP
  replace hD : va_D A [((ad 2), .inr (3, [.ref (ad 23), .ref (ad 24), .ref (ad 25), .ref (ad 26), .int 0, .ref (ad 27), .ref (ad 28), .ref (ad 29), .ref (ad 30)])), ((ad 29), .inl (cI, 20, .inl (fun _ => 0))), ((ad 30), .inl (cI, 10, .inl (fun _ => 0)))] := hD
  refine lv_iconst (v := 0) hx hb dX3_closeReach_16 (by decide) ?_
  refine lv_istore_n (lv' := [(1, .int 0), (0, .ref (ad 2))]) hx hb dX3_closeReach_17 rfl hl (by decide) rfl (fun ls hl => ?_)
  refine st_loop 18 (fun _ => []) (fun (k : Int32) (ls : Array Slot) (H : Heap) (locs : List Loc) => (0 ≤ k.toInt) ∧ (k.toInt ≤ 10) ∧ lv_has ls 3 [(0, .ref (ad 2)), (1, .int k)] ∧ va_P D vwCl [((ad 2), .inr (3, [.ref (ad 23), .ref (ad 24), .ref (ad 25), .ref (ad 26), .int 0, .ref (ad 27), .ref (ad 28), .ref (ad 29), .ref (ad 30)])), ((ad 29), .inl (cI, 20, .inl (fun _ => 0))), ((ad 30), .inl (cI, 10, .inl (fun _ => 0)))] H ∧ va_D A [((ad 2), .inr (3, [.ref (ad 23), .ref (ad 24), .ref (ad 25), .ref (ad 26), .int 0, .ref (ad 27), .ref (ad 28), .ref (ad 29), .ref (ad 30)])), ((ad 29), .inl (cI, 20, .inl (fun _ => 0))), ((ad 30), .inl (cI, 10, .inl (fun _ => 0)))] ∧ va_S A s.heap H locs) (fun (k : Int32) => 10 - k.toInt) ?_ ?_ (0 : Int32) ⟨(by omega), (by omega), lv_sub hl [1, 0] rfl, hP, hD, hS⟩
  · rintro k ls H locs ⟨g1, g2, hl, hP, hD, hS⟩
    show (0 : Int) ≤ 10 - k.toInt
    omega
  · rintro n5 ih3 k ls H locs ⟨g1, g2, hl, hP, hD, hS⟩ hm4
    have hm4 : 10 - k.toInt < (n5 : Int) + 1 := hm4
    replace hl : lv_has ls 3 [(0, .ref (ad 2)), (1, .int k)] := hl
    replace hP : va_P D vwCl [((ad 2), .inr (3, [.ref (ad 23), .ref (ad 24), .ref (ad 25), .ref (ad 26), .int 0, .ref (ad 27), .ref (ad 28), .ref (ad 29), .ref (ad 30)])), ((ad 29), .inl (cI, 20, .inl (fun _ => 0))), ((ad 30), .inl (cI, 10, .inl (fun _ => 0)))] H := hP
    replace hD : va_D A [((ad 2), .inr (3, [.ref (ad 23), .ref (ad 24), .ref (ad 25), .ref (ad 26), .int 0, .ref (ad 27), .ref (ad 28), .ref (ad 29), .ref (ad 30)])), ((ad 29), .inl (cI, 20, .inl (fun _ => 0))), ((ad 30), .inl (cI, 10, .inl (fun _ => 0)))] := hD
    show W _ _ _ _ _ _ _ _ _ _ _ _ _ _ _ (F0 m 18 ls [])
    refine lv_iload_n hx hb dX3_closeReach_18 rfl (lv_at hl 1 rfl) ?_
    refine lv_bipush (v := 10) hx hb dX3_closeReach_19 (by decide) ?_
    refine lv_icmp_ge (tgt := 72) hx hb dX3_closeReach_21 (by decide) (fun c6 => ?_) (fun c6 => ?_)
    · skip
      have f7 := i_le c6
      have hP9 := hP.sub (ws' := [((ad 2), .inr (3, [.ref (ad 23), .ref (ad 24), .ref (ad 25), .ref (ad 26), .int 0, .ref (ad 27), .ref (ad 28), .ref (ad 29), .ref (ad 30)])), ((ad 29), .inl (cI, 20, .inl (fun _ => 0))), ((ad 30), .inl (cI, 10, .inl (fun _ => 0)))]) [0, 1, 2] rfl
      have hD9 := hD.sub (ws' := [((ad 2), .inr (3, [.ref (ad 23), .ref (ad 24), .ref (ad 25), .ref (ad 26), .int 0, .ref (ad 27), .ref (ad 28), .ref (ad 29), .ref (ad 30)])), ((ad 29), .inl (cI, 20, .inl (fun _ => 0))), ((ad 30), .inl (cI, 10, .inl (fun _ => 0)))]) [0, 1, 2] (by decide) rfl
      exact W.vret hx hb hr (fun t ht hW => ⟨⟨(), rfl, trivial, by rw [ht]; exact hP9, va_K.moved hW.alike hK, hD9⟩, hS.F ht⟩) hS.2.2 dX3_closeReach_72
    · skip
      have f8 := i_nle c6
      refine lv_iconst (v := 0) hx hb dX3_closeReach_24 (by decide) ?_
      refine lv_istore_n (lv' := [(2, .int 0), (0, .ref (ad 2)), (1, .int k)]) hx hb dX3_closeReach_25 rfl hl (by decide) rfl (fun ls hl => ?_)
      refine st_loop 26 (fun _ => []) (fun (j : Int32) (ls : Array Slot) (H : Heap) (locs : List Loc) => (0 ≤ j.toInt) ∧ (j.toInt ≤ 10) ∧ lv_has ls 3 [(0, .ref (ad 2)), (1, .int k), (2, .int j)] ∧ va_P D vwCl [((ad 2), .inr (3, [.ref (ad 23), .ref (ad 24), .ref (ad 25), .ref (ad 26), .int 0, .ref (ad 27), .ref (ad 28), .ref (ad 29), .ref (ad 30)])), ((ad 29), .inl (cI, 20, .inl (fun _ => 0))), ((ad 30), .inl (cI, 10, .inl (fun _ => 0)))] H ∧ va_D A [((ad 2), .inr (3, [.ref (ad 23), .ref (ad 24), .ref (ad 25), .ref (ad 26), .int 0, .ref (ad 27), .ref (ad 28), .ref (ad 29), .ref (ad 30)])), ((ad 29), .inl (cI, 20, .inl (fun _ => 0))), ((ad 30), .inl (cI, 10, .inl (fun _ => 0)))] ∧ va_S A s.heap H locs) (fun (j : Int32) => 10 - j.toInt) ?_ ?_ (0 : Int32) ⟨(by omega), (by omega), lv_sub hl [1, 2, 0] rfl, hP, hD, hS⟩
      · rintro j ls H locs ⟨g9, g10, hl, hP, hD, hS⟩
        show (0 : Int) ≤ 10 - j.toInt
        omega
      · rintro n13 ih11 j ls H locs ⟨g9, g10, hl, hP, hD, hS⟩ hm12
        have hm12 : 10 - j.toInt < (n13 : Int) + 1 := hm12
        replace hl : lv_has ls 3 [(0, .ref (ad 2)), (1, .int k), (2, .int j)] := hl
        replace hP : va_P D vwCl [((ad 2), .inr (3, [.ref (ad 23), .ref (ad 24), .ref (ad 25), .ref (ad 26), .int 0, .ref (ad 27), .ref (ad 28), .ref (ad 29), .ref (ad 30)])), ((ad 29), .inl (cI, 20, .inl (fun _ => 0))), ((ad 30), .inl (cI, 10, .inl (fun _ => 0)))] H := hP
        replace hD : va_D A [((ad 2), .inr (3, [.ref (ad 23), .ref (ad 24), .ref (ad 25), .ref (ad 26), .int 0, .ref (ad 27), .ref (ad 28), .ref (ad 29), .ref (ad 30)])), ((ad 29), .inl (cI, 20, .inl (fun _ => 0))), ((ad 30), .inl (cI, 10, .inl (fun _ => 0)))] := hD
        show W _ _ _ _ _ _ _ _ _ _ _ _ _ _ _ (F0 m 26 ls [])
        refine lv_iload_n hx hb dX3_closeReach_26 rfl (lv_at hl 2 rfl) ?_
        refine lv_bipush (v := 10) hx hb dX3_closeReach_27 (by decide) ?_
        refine lv_icmp_ge (tgt := 66) hx hb dX3_closeReach_29 (by decide) (fun c14 => ?_) (fun c14 => ?_)
        · skip
          have f15 := i_le c14
          obtain ⟨v16, ev16⟩ : ∃ y : Int32, y = k + 1 := ⟨_, rfl⟩
          have tv16 : v16.toInt = k.toInt + 1 := by rw [ev16]; exact (i_add (x := k) (y := (1 : Int32)) (by rw [k1]; omega) (by rw [k1]; omega)).trans (by rw [k1])
          refine lv_iinc (v := v16) (lv' := [(1, .int v16), (0, .ref (ad 2)), (2, .int j)]) hx hb dX3_closeReach_66 hl (k := 1) rfl (by rw [ev16]; rfl) (by decide) rfl (fun ls hl => ?_)
          refine lv_goto (tgt := 18) hx hb dX3_closeReach_69 (by decide) ?_
          exact ih3 v16 ls H locs ⟨(by omega), (by omega), lv_sub hl [1, 0] rfl, hP.sub [0, 1, 2] rfl, hD.sub [0, 1, 2] (by decide) rfl, hS⟩ (by show 10 - v16.toInt < _; omega)
        · skip
          have f17 := i_nle c14
          refine lv_aload_n hx hb dX3_closeReach_32 rfl (lv_at hl 0 rfl) ?_
          refine va_get (D := D) (ci := 3) (v := .ref (ad 30)) (C := RX3) (T := TX3) (N := 9) hx hb hts (by decide +kernel) hown hK hP 0 rfl rfl 8 (by decide) (hts (.fieldLink RX3 33 "PortRooms$Holdings" "reach" "[I") (by decide +kernel)) (fun _ h9 => h9) rfl dX3_closeReach_33 ?_
          refine lv_iload_n hx hb dX3_closeReach_36 rfl (lv_at hl 2 rfl) ?_
          refine va_iald hx hb hK hP 2 0 rfl rfl (i_in (by omega) (by omega)) dX3_closeReach_37 ?_
          refine lv_topi (fun v18 ev18 => ?_)
          have ev18 : v18 = 0 := ev18
          subst ev18
          refine lv_iload_n hx hb dX3_closeReach_38 rfl (lv_at hl 1 rfl) ?_
          refine st_i (wr := [((ad 2), .inr (3, [.ref (ad 23), .ref (ad 24), .ref (ad 25), .ref (ad 26), .int 0, .ref (ad 27), .ref (ad 28), .ref (ad 29), .ref (ad 30)])), ((ad 29), .inl (cI, 20, .inl (fun _ => 0))), ((ad 30), .inl (cI, 10, .inl (fun _ => 0)))]) (va_runSN (As := [.int 0, .int k]) (rest := []) ⟨hx, hb, hml, hown, hts⟩ (ct_hasBit0 l D cI cY cJ cQ _ k) ⟨va_cnB 2 hts gX3_closeReach_X10_hasBit_n62 rfl rfl rfl (hN (RX3, 62, yX10_hasBit, "PortRooms") (by decide +kernel)) (hts (.initialized RX10) (by decide +kernel)) (by decide +kernel) ⟨Nat.le_of_ble_eq_true rfl, Nat.le_of_ble_eq_true rfl⟩, (hts (.static yX10_hasBit) (by decide +kernel)), trivial⟩ (cPreS (hP.sub [] rfl) hK (hD.sub [] (by decide) rfl) hN) rfl rfl hl.1 rfl (lv_room (Nat.le_of_ble_eq_true rfl)) dX3_closeReach_39 ⟨Nat.le_of_ble_eq_true rfl, Nat.le_of_ble_eq_true rfl⟩) hP hD hS hA [] [0, 1, 2] rfl rfl (by decide) (by decide) (fun r21 u19 H locs hw20 hP hD hS => ?_)
          replace hP : va_P D vwCl [((ad 2), .inr (3, [.ref (ad 23), .ref (ad 24), .ref (ad 25), .ref (ad 26), .int 0, .ref (ad 27), .ref (ad 28), .ref (ad 29), .ref (ad 30)])), ((ad 29), .inl (cI, 20, .inl (fun _ => 0))), ((ad 30), .inl (cI, 10, .inl (fun _ => 0)))] H := hP
          replace hD : va_D A [((ad 2), .inr (3, [.ref (ad 23), .ref (ad 24), .ref (ad 25), .ref (ad 26), .int 0, .ref (ad 27), .ref (ad 28), .ref (ad 29), .ref (ad 30)])), ((ad 29), .inl (cI, 20, .inl (fun _ => 0))), ((ad 30), .inl (cI, 10, .inl (fun _ => 0)))] := hD
          subst hw20
          refine lv_if_eq (tgt := 60) hx hb dX3_closeReach_42 (by decide) (fun _ => ?_) (fun c => absurd (by decide) c)
          obtain ⟨v22, ev22⟩ : ∃ y : Int32, y = j + 1 := ⟨_, rfl⟩
          have tv22 : v22.toInt = j.toInt + 1 := by rw [ev22]; exact (i_add (x := j) (y := (1 : Int32)) (by rw [k1]; omega) (by rw [k1]; omega)).trans (by rw [k1])
          refine lv_iinc (v := v22) (lv' := [(2, .int v22), (0, .ref (ad 2)), (1, .int k)]) hx hb dX3_closeReach_60 hl (k := 2) rfl (by rw [ev22]; rfl) (by decide) rfl (fun ls hl => ?_)
          refine lv_goto (tgt := 26) hx hb dX3_closeReach_63 (by decide) ?_
          exact ih11 v22 ls H locs ⟨(by omega), (by omega), lv_sub hl [1, 2, 0] rfl, hP.sub [0, 1, 2] rfl, hD.sub [0, 1, 2] (by decide) rfl, hS⟩ (by show 10 - v22.toInt < _; omega)

set_option maxHeartbeats 4000000 in
set_option maxRecDepth 100000 in
theorem ct_X3_lookAt (l : Launch) (D : va_G) (cI cY cJ cQ : ClassId) (sz : Nat) (ad : Nat → Nat) (d : Int32)   : Met l yX3_lookAt wsX3_lookAt ({ frames := 2, cells := 0, slots := 0, locals := 62 }) (cPre D (ty4 cI cY cJ cQ) [((ad 2), .inr (3, [.ref (ad 23), .ref (ad 24), .ref (ad 25), .ref (ad 26), .int 0, .ref (ad 27), .ref (ad 28), .ref (ad 29), .ref (ad 30)])), ((ad 27), .inl (cI, 200, .inl (fun _ => 0))), ((ad 28), .inl (cI, 200, .inl (fun _ => 0))), ((ad 29), .inl (cI, 20, .inl (fun _ => 0))), ((ad 30), .inl (cI, 10, .inl (fun _ => 0)))] sz [.ref (ad 2), .int d]) (va_Qv (fun (u : Unit) => True) (cB D (ty4 cI cY cJ cQ) (fun (u : Unit) => [((ad 2), .inr (3, [.ref (ad 23), .ref (ad 24), .ref (ad 25), .ref (ad 26), .int 0, .ref (ad 27), .ref (ad 28), .ref (ad 29), .ref (ad 30)])), ((ad 27), .inl (cI, 200, .inl (fun _ => 0))), ((ad 28), .inl (cI, 200, .inl (fun _ => 0))), ((ad 29), .inl (cI, 20, .inl (fun _ => 0))), ((ad 30), .inl (cI, 10, .inl (fun _ => 0)))]) (va_A [((ad 2), .inr (3, [.ref (ad 23), .ref (ad 24), .ref (ad 25), .ref (ad 26), .int 0, .ref (ad 27), .ref (ad 28), .ref (ad 29), .ref (ad 30)])), ((ad 27), .inl (cI, 200, .inl (fun _ => 0))), ((ad 28), .inl (cI, 200, .inl (fun _ => 0))), ((ad 29), .inl (cI, 20, .inl (fun _ => 0))), ((ad 30), .inl (cI, 10, .inl (fun _ => 0)))] sz)) (va_A [((ad 2), .inr (3, [.ref (ad 23), .ref (ad 24), .ref (ad 25), .ref (ad 26), .int 0, .ref (ad 27), .ref (ad 28), .ref (ad 29), .ref (ad 30)])), ((ad 27), .inl (cI, 200, .inl (fun _ => 0))), ((ad 28), .inl (cI, 200, .inl (fun _ => 0))), ((ad 29), .inl (cI, 20, .inl (fun _ => 0))), ((ad 30), .inl (cI, 10, .inl (fun _ => 0)))] sz)) 0 0 (va_A [((ad 2), .inr (3, [.ref (ad 23), .ref (ad 24), .ref (ad 25), .ref (ad 26), .int 0, .ref (ad 27), .ref (ad 28), .ref (ad 29), .ref (ad 30)])), ((ad 27), .inl (cI, 200, .inl (fun _ => 0))), ((ad 28), .inl (cI, 200, .inl (fun _ => 0))), ((ad 29), .inl (cI, 20, .inl (fun _ => 0))), ((ad 30), .inl (cI, 10, .inl (fun _ => 0)))] sz) := by
  refine Met.ofW (cc := cX3_lookAt) (maxL := 4) (ret := none) (by decide) rfl ?_
  intro p e s m args below meth c s₁ B hml hv
  obtain ⟨rfl, hsz, hP, hK, hD0, hN⟩ := hv
  have hx := B.exec
  have hb := B.bytes
  have hr := B.returns
  have hts := atoms_spec (ws := wsX3_lookAt) B.pre
  have hown : s.vm.findClass RX3 = some m.cls := findClass_of_methodNamed B.named
  have hlocks := B.notSynchronized
  subst hsz
  have hD := hD0.self (sz := s.heap.size)
  generalize hAe : va_A [((ad 2), .inr (3, [.ref (ad 23), .ref (ad 24), .ref (ad 25), .ref (ad 26), .int 0, .ref (ad 27), .ref (ad 28), .ref (ad 29), .ref (ad 30)])), ((ad 27), .inl (cI, 200, .inl (fun _ => 0))), ((ad 28), .inl (cI, 200, .inl (fun _ => 0))), ((ad 29), .inl (cI, 20, .inl (fun _ => 0))), ((ad 30), .inl (cI, 10, .inl (fun _ => 0)))] s.heap.size = A at hD ⊢
  have hA : ∀ q : Nat, s.heap.size ≤ q → A q := fun q h => by rw [← hAe]; exact Or.inr h
  have hS : va_S A s.heap s.heap [] := va_S.rf
  have hP : va_P D vwCl [((ad 2), .inr (3, [.ref (ad 23), .ref (ad 24), .ref (ad 25), .ref (ad 26), .int 0, .ref (ad 27), .ref (ad 28), .ref (ad 29), .ref (ad 30)])), ((ad 27), .inl (cI, 200, .inl (fun _ => 0))), ((ad 28), .inl (cI, 200, .inl (fun _ => 0))), ((ad 29), .inl (cI, 20, .inl (fun _ => 0))), ((ad 30), .inl (cI, 10, .inl (fun _ => 0)))] s.heap := hP
  have hl := lv_entry ([.ref (ad 2), .int d]) (n := 4) (Nat.le_of_ble_eq_true rfl)
  rw [lg_entry_eq]
  generalize (lg_sl ([.ref (ad 2), .int d]) ++ List.replicate (4 - (lg_sl ([.ref (ad 2), .int d])).length) Slot.unset).toArray = ls at hl ⊢
  have hl : lv_has ls 4 [(0, .ref (ad 2)), (1, .int d)] := hl
  have k0 : (0 : Int32).toInt = 0 := by decide
  refine lv_aload_n hx hb dX3_lookAt_0 rfl (lv_at hl 0 rfl) ?_
  refine va_get (D := D) (ci := 3) (v := .ref (ad 27)) (C := RX3) (T := TX3) (N := 9) hx hb hts (by decide +kernel) hown hK hP 0 rfl rfl 5 (by decide) (hts (.fieldLink RX3 24 "PortRooms$Holdings" "part" "[I") (by decide +kernel)) (fun _ h9 => h9) rfl dX3_lookAt_1 ?_
  refine lv_iconst (v := 0) hx hb dX3_lookAt_4 (by decide) ?_
  refine st_v (wr := [((ad 2), .inr (3, [.ref (ad 23), .ref (ad 24), .ref (ad 25), .ref (ad 26), .int 0, .ref (ad 27), .ref (ad 28), .ref (ad 29), .ref (ad 30)])), ((ad 28), .inl (cI, 200, .inl (fun _ => 0))), ((ad 29), .inl (cI, 20, .inl (fun _ => 0))), ((ad 30), .inl (cI, 10, .inl (fun _ => 0)))]) (va_runS (As := [.ref (ad 27), .int 0]) (rest := []) ⟨hx, hb, hml, hown, hts⟩ (cFill l D cI cY cJ cQ _ (ad 27) 200 (fun _ => 0) 0 (by decide)) (va_cwS 2 hts gX3_lookAt_J7_fill_53178 rfl rfl rfl (by decide +kernel) ⟨Nat.le_of_ble_eq_true rfl, Nat.le_of_ble_eq_true rfl⟩) (cPreS (hP.sub [1] rfl) hK (hD.sub [1] (by decide) rfl) hN) rfl rfl hl.1 rfl (lv_room (Nat.le_of_ble_eq_true rfl)) dX3_lookAt_5 ⟨Nat.le_of_ble_eq_true rfl, Nat.le_of_ble_eq_true rfl⟩) hP hD hS hA [1] [0, 2, 3, 4] rfl rfl (by decide) (by decide) (fun u1 H locs hw2 hP hD hS => ?_)
  replace hP : va_P D vwCl [((ad 2), .inr (3, [.ref (ad 23), .ref (ad 24), .ref (ad 25), .ref (ad 26), .int 0, .ref (ad 27), .ref (ad 28), .ref (ad 29), .ref (ad 30)])), ((ad 28), .inl (cI, 200, .inl (fun _ => 0))), ((ad 29), .inl (cI, 20, .inl (fun _ => 0))), ((ad 30), .inl (cI, 10, .inl (fun _ => 0))), ((ad 27), .inl (cI, 200, .inl (fun _ => 0)))] H := hP
  replace hD : va_D A [((ad 2), .inr (3, [.ref (ad 23), .ref (ad 24), .ref (ad 25), .ref (ad 26), .int 0, .ref (ad 27), .ref (ad 28), .ref (ad 29), .ref (ad 30)])), ((ad 28), .inl (cI, 200, .inl (fun _ => 0))), ((ad 29), .inl (cI, 20, .inl (fun _ => 0))), ((ad 30), .inl (cI, 10, .inl (fun _ => 0))), ((ad 27), .inl (cI, 200, .inl (fun _ => 0)))] := hD
  refine lv_aload_n hx hb dX3_lookAt_8 rfl (lv_at hl 0 rfl) ?_
  refine va_get (D := D) (ci := 3) (v := .ref (ad 28)) (C := RX3) (T := TX3) (N := 9) hx hb hts (by decide +kernel) hown hK hP 0 rfl rfl 6 (by decide) (hts (.fieldLink RX3 27 "PortRooms$Holdings" "partSince" "[I") (by decide +kernel)) (fun _ h9 => h9) rfl dX3_lookAt_9 ?_
  refine lv_iconst (v := 0) hx hb dX3_lookAt_12 (by decide) ?_
  refine st_v (wr := [((ad 2), .inr (3, [.ref (ad 23), .ref (ad 24), .ref (ad 25), .ref (ad 26), .int 0, .ref (ad 27), .ref (ad 28), .ref (ad 29), .ref (ad 30)])), ((ad 29), .inl (cI, 20, .inl (fun _ => 0))), ((ad 30), .inl (cI, 10, .inl (fun _ => 0))), ((ad 27), .inl (cI, 200, .inl (fun _ => 0)))]) (va_runS (As := [.ref (ad 28), .int 0]) (rest := []) ⟨hx, hb, hml, hown, hts⟩ (cFill l D cI cY cJ cQ _ (ad 28) 200 (fun _ => 0) 0 (by decide)) (va_cwS 2 hts gX3_lookAt_J7_fill_53178 rfl rfl rfl (by decide +kernel) ⟨Nat.le_of_ble_eq_true rfl, Nat.le_of_ble_eq_true rfl⟩) (cPreS (hP.sub [1] rfl) hK (hD.sub [1] (by decide) rfl) hN) rfl rfl hl.1 rfl (lv_room (Nat.le_of_ble_eq_true rfl)) dX3_lookAt_13 ⟨Nat.le_of_ble_eq_true rfl, Nat.le_of_ble_eq_true rfl⟩) hP hD hS hA [1] [0, 2, 3, 4] rfl rfl (by decide) (by decide) (fun u4 H locs hw5 hP hD hS => ?_)
  replace hP : va_P D vwCl [((ad 2), .inr (3, [.ref (ad 23), .ref (ad 24), .ref (ad 25), .ref (ad 26), .int 0, .ref (ad 27), .ref (ad 28), .ref (ad 29), .ref (ad 30)])), ((ad 29), .inl (cI, 20, .inl (fun _ => 0))), ((ad 30), .inl (cI, 10, .inl (fun _ => 0))), ((ad 27), .inl (cI, 200, .inl (fun _ => 0))), ((ad 28), .inl (cI, 200, .inl (fun _ => 0)))] H := hP
  replace hD : va_D A [((ad 2), .inr (3, [.ref (ad 23), .ref (ad 24), .ref (ad 25), .ref (ad 26), .int 0, .ref (ad 27), .ref (ad 28), .ref (ad 29), .ref (ad 30)])), ((ad 29), .inl (cI, 20, .inl (fun _ => 0))), ((ad 30), .inl (cI, 10, .inl (fun _ => 0))), ((ad 27), .inl (cI, 200, .inl (fun _ => 0))), ((ad 28), .inl (cI, 200, .inl (fun _ => 0)))] := hD
  refine lv_iconst (v := 0) hx hb dX3_lookAt_16 (by decide) ?_
  refine lv_istore_n (lv' := [(2, .int 0), (0, .ref (ad 2)), (1, .int d)]) hx hb dX3_lookAt_17 rfl hl (by decide) rfl (fun ls hl => ?_)
  refine lv_iload_n hx hb dX3_lookAt_18 rfl (lv_at hl 0 rfl) ?_
  refine lv_aload_n hx hb dX3_lookAt_19 rfl (lv_at hl 1 rfl) ?_
  refine va_get (D := D) (ci := 3) (v := .int 0) (C := RX3) (T := TX3) (N := 9) hx hb hts (by decide +kernel) hown hK hP 0 rfl rfl 4 (by decide) (hts (.fieldLink RX3 36 "PortRooms$Holdings" "count" "I") (by decide +kernel)) (fun _ h9 => h9) rfl dX3_lookAt_20 ?_
  refine lv_icmp_ge (tgt := 97) hx hb dX3_lookAt_23 (by decide) (fun _ => ?_) (fun c => absurd (by decide) c)
  refine lv_aload_n hx hb dX3_lookAt_97 rfl (lv_at hl 1 rfl) ?_
  refine st_v (wr := [((ad 30), .inl (cI, 10, .inl (fun _ => 0))), ((ad 27), .inl (cI, 200, .inl (fun _ => 0))), ((ad 28), .inl (cI, 200, .inl (fun _ => 0)))]) (va_runV (C := RX3) (As := []) (rest := []) ⟨hx, hb, hml, hown, hts⟩ (ct_X3_gatherWhoHas l D cI cY cJ cQ _ ad) (cwV 0 hts gX3_lookAt_X3_gatherWhoHas rfl rfl rfl (by decide +kernel) ⟨Nat.le_of_ble_eq_true rfl, Nat.le_of_ble_eq_true rfl⟩) (cPreV (hP.sub [0, 1] rfl) hK (hD.sub [0, 1] (by decide) rfl) hN (ci := 3) (q0 := 0) rfl rfl) rfl rfl hl.1 rfl (lv_room (Nat.le_of_ble_eq_true rfl)) dX3_lookAt_98 ⟨Nat.le_of_ble_eq_true rfl, Nat.le_of_ble_eq_true rfl⟩) hP hD hS hA [0, 1] [2, 3, 4] rfl rfl (by decide) (by decide) (fun u7 H locs hw8 hP hD hS => ?_)
  replace hP : va_P D vwCl [((ad 30), .inl (cI, 10, .inl (fun _ => 0))), ((ad 27), .inl (cI, 200, .inl (fun _ => 0))), ((ad 28), .inl (cI, 200, .inl (fun _ => 0))), ((ad 2), .inr (3, [.ref (ad 23), .ref (ad 24), .ref (ad 25), .ref (ad 26), .int 0, .ref (ad 27), .ref (ad 28), .ref (ad 29), .ref (ad 30)])), ((ad 29), .inl (cI, 20, .inl (fun _ => 0)))] H := hP
  replace hD : va_D A [((ad 30), .inl (cI, 10, .inl (fun _ => 0))), ((ad 27), .inl (cI, 200, .inl (fun _ => 0))), ((ad 28), .inl (cI, 200, .inl (fun _ => 0))), ((ad 2), .inr (3, [.ref (ad 23), .ref (ad 24), .ref (ad 25), .ref (ad 26), .int 0, .ref (ad 27), .ref (ad 28), .ref (ad 29), .ref (ad 30)])), ((ad 29), .inl (cI, 20, .inl (fun _ => 0)))] := hD
  refine lv_aload_n hx hb dX3_lookAt_101 rfl (lv_at hl 1 rfl) ?_
  refine st_v (wr := [((ad 27), .inl (cI, 200, .inl (fun _ => 0))), ((ad 28), .inl (cI, 200, .inl (fun _ => 0)))]) (va_runV (C := RX3) (As := []) (rest := []) ⟨hx, hb, hml, hown, hts⟩ (ct_X3_closeReach l D cI cY cJ cQ _ ad) (cwV 0 hts gX3_lookAt_X3_closeReach rfl rfl rfl (by decide +kernel) ⟨Nat.le_of_ble_eq_true rfl, Nat.le_of_ble_eq_true rfl⟩) (cPreV (hP.sub [3, 4, 0] rfl) hK (hD.sub [3, 4, 0] (by decide) rfl) hN (ci := 3) (q0 := 0) rfl rfl) rfl rfl hl.1 rfl (lv_room (Nat.le_of_ble_eq_true rfl)) dX3_lookAt_102 ⟨Nat.le_of_ble_eq_true rfl, Nat.le_of_ble_eq_true rfl⟩) hP hD hS hA [3, 4, 0] [1, 2] rfl rfl (by decide) (by decide) (fun u10 H locs hw11 hP hD hS => ?_)
  replace hP : va_P D vwCl [((ad 27), .inl (cI, 200, .inl (fun _ => 0))), ((ad 28), .inl (cI, 200, .inl (fun _ => 0))), ((ad 2), .inr (3, [.ref (ad 23), .ref (ad 24), .ref (ad 25), .ref (ad 26), .int 0, .ref (ad 27), .ref (ad 28), .ref (ad 29), .ref (ad 30)])), ((ad 29), .inl (cI, 20, .inl (fun _ => 0))), ((ad 30), .inl (cI, 10, .inl (fun _ => 0)))] H := hP
  replace hD : va_D A [((ad 27), .inl (cI, 200, .inl (fun _ => 0))), ((ad 28), .inl (cI, 200, .inl (fun _ => 0))), ((ad 2), .inr (3, [.ref (ad 23), .ref (ad 24), .ref (ad 25), .ref (ad 26), .int 0, .ref (ad 27), .ref (ad 28), .ref (ad 29), .ref (ad 30)])), ((ad 29), .inl (cI, 20, .inl (fun _ => 0))), ((ad 30), .inl (cI, 10, .inl (fun _ => 0)))] := hD
  have hP9 := hP.sub (ws' := [((ad 2), .inr (3, [.ref (ad 23), .ref (ad 24), .ref (ad 25), .ref (ad 26), .int 0, .ref (ad 27), .ref (ad 28), .ref (ad 29), .ref (ad 30)])), ((ad 27), .inl (cI, 200, .inl (fun _ => 0))), ((ad 28), .inl (cI, 200, .inl (fun _ => 0))), ((ad 29), .inl (cI, 20, .inl (fun _ => 0))), ((ad 30), .inl (cI, 10, .inl (fun _ => 0)))]) [2, 0, 1, 3, 4] rfl
  have hD9 := hD.sub (ws' := [((ad 2), .inr (3, [.ref (ad 23), .ref (ad 24), .ref (ad 25), .ref (ad 26), .int 0, .ref (ad 27), .ref (ad 28), .ref (ad 29), .ref (ad 30)])), ((ad 27), .inl (cI, 200, .inl (fun _ => 0))), ((ad 28), .inl (cI, 200, .inl (fun _ => 0))), ((ad 29), .inl (cI, 20, .inl (fun _ => 0))), ((ad 30), .inl (cI, 10, .inl (fun _ => 0)))]) [2, 0, 1, 3, 4] (by decide) rfl
  exact W.vret hx hb hr (fun t ht hW => ⟨⟨(), rfl, trivial, by rw [ht]; exact hP9, va_K.moved hW.alike hK, hD9⟩, hS.F ht⟩) hS.2.2 dX3_lookAt_105

set_option maxHeartbeats 4000000 in
set_option maxRecDepth 100000 in
theorem ct_X3_place (l : Launch) (D : va_G) (cI cY cJ cQ : ClassId) (sz : Nat) (o k : Int32)  (h1 : 0 ≤ o.toInt) (h2 : o.toInt < 20) (h3 : 10 ≤ k.toInt) (h4 : k.toInt < 20) : Met l yX3_place wsX3_place ({ frames := 0, cells := 0, slots := 0, locals := 0 }) (cPre D (ty4 cI cY cJ cQ) [] sz [.int o, .int k]) (va_Qi (fun (r : Int32) (u : Unit) => r.toInt = o.toInt * 10 + k.toInt - 10) (cB D (ty4 cI cY cJ cQ) (fun (u : Unit) => []) (va_A [] sz)) (va_A [] sz)) 0 0 (va_A [] sz) := by
  refine Met.ofW (cc := cX3_place) (maxL := 2) (ret := (some .int)) (by decide) rfl ?_
  intro p e s m args below meth c s₁ B hml hv
  obtain ⟨rfl, hsz, hP, hK, hD0, hN⟩ := hv
  have hx := B.exec
  have hb := B.bytes
  have hr := B.returns
  have hts := atoms_spec (ws := wsX3_place) B.pre
  have hown : s.vm.findClass RX3 = some m.cls := findClass_of_methodNamed B.named
  have hlocks := B.notSynchronized
  subst hsz
  have hD := hD0.self (sz := s.heap.size)
  generalize hAe : va_A [] s.heap.size = A at hD ⊢
  have hA : ∀ q : Nat, s.heap.size ≤ q → A q := fun q h => by rw [← hAe]; exact Or.inr h
  have hS : va_S A s.heap s.heap [] := va_S.rf
  have hP : va_P D vwCl [] s.heap := hP
  have hl := lv_entry ([.int o, .int k]) (n := 2) (Nat.le_of_ble_eq_true rfl)
  rw [lg_entry_eq]
  generalize (lg_sl ([.int o, .int k]) ++ List.replicate (2 - (lg_sl ([.int o, .int k])).length) Slot.unset).toArray = ls at hl ⊢
  have hl : lv_has ls 2 [(0, .int o), (1, .int k)] := hl
  have k10 : (10 : Int32).toInt = 10 := by decide
  refine lv_iload_n hx hb dX3_place_0 rfl (lv_at hl 0 rfl) ?_
  refine lv_bipush (v := 10) hx hb dX3_place_1 (by decide) ?_
  refine lv_imul hx hb dX3_place_3 ?_
  refine lv_topi (fun v1 ev1 => ?_)
  have tv1 : v1.toInt = o.toInt * 10 := by rw [ev1]; exact (i_mul (x := o) (y := (10 : Int32)) (by rw [k10]; omega) (by rw [k10]; omega)).trans (by rw [k10])
  refine lv_iload_n hx hb dX3_place_4 rfl (lv_at hl 1 rfl) ?_
  refine lv_iadd hx hb dX3_place_5 ?_
  refine lv_topi (fun v2 ev2 => ?_)
  have tv2 : v2.toInt = v1.toInt + k.toInt := by rw [ev2]; exact (i_add (x := v1) (y := k) (by omega) (by omega))
  refine lv_bipush (v := 10) hx hb dX3_place_6 (by decide) ?_
  refine lv_isub hx hb dX3_place_8 ?_
  refine lv_topi (fun v3 ev3 => ?_)
  have tv3 : v3.toInt = v2.toInt - 10 := by rw [ev3]; exact (i_sub (x := v2) (y := (10 : Int32)) (by rw [k10]; omega) (by rw [k10]; omega)).trans (by rw [k10])
  have hP9 := hP.sub (ws' := []) [] rfl
  have hD9 := hD.sub (ws' := []) [] (by decide) rfl
  exact W.iret (v := v3) hx hb hr (fun t ht hW => ⟨⟨v3, (), rfl, (by omega), by rw [ht]; exact hP9, va_K.moved hW.alike hK, hD9⟩, hS.F ht⟩) hS.2.2 dX3_place_9

set_option maxHeartbeats 4000000 in
set_option maxRecDepth 100000 in
theorem ct_X3_partOf (l : Launch) (D : va_G) (cI cY cJ cQ : ClassId) (sz : Nat) (ad : Nat → Nat) (o k : Int32)  (h1 : 0 ≤ o.toInt) (h2 : o.toInt < 20) (h3 : 10 ≤ k.toInt) (h4 : k.toInt < 20) : Met l yX3_partOf wsX3_partOf ({ frames := 1, cells := 0, slots := 0, locals := 21 }) (cPre D (ty4 cI cY cJ cQ) [((ad 2), .inr (3, [.ref (ad 23), .ref (ad 24), .ref (ad 25), .ref (ad 26), .int 0, .ref (ad 27), .ref (ad 28), .ref (ad 29), .ref (ad 30)])), ((ad 27), .inl (cI, 200, .inl (fun _ => 0)))] sz [.ref (ad 2), .int o, .int k]) (va_Qi (fun (r : Int32) (u : Unit) => r = 0) (cB D (ty4 cI cY cJ cQ) (fun (u : Unit) => []) (va_A [((ad 2), .inr (3, [.ref (ad 23), .ref (ad 24), .ref (ad 25), .ref (ad 26), .int 0, .ref (ad 27), .ref (ad 28), .ref (ad 29), .ref (ad 30)])), ((ad 27), .inl (cI, 200, .inl (fun _ => 0)))] sz)) (va_A [((ad 2), .inr (3, [.ref (ad 23), .ref (ad 24), .ref (ad 25), .ref (ad 26), .int 0, .ref (ad 27), .ref (ad 28), .ref (ad 29), .ref (ad 30)])), ((ad 27), .inl (cI, 200, .inl (fun _ => 0)))] sz)) 0 0 (va_A [((ad 2), .inr (3, [.ref (ad 23), .ref (ad 24), .ref (ad 25), .ref (ad 26), .int 0, .ref (ad 27), .ref (ad 28), .ref (ad 29), .ref (ad 30)])), ((ad 27), .inl (cI, 200, .inl (fun _ => 0)))] sz) := by
  refine Met.ofW (cc := cX3_partOf) (maxL := 3) (ret := (some .int)) (by decide) rfl ?_
  intro p e s m args below meth c s₁ B hml hv
  obtain ⟨rfl, hsz, hP, hK, hD0, hN⟩ := hv
  have hx := B.exec
  have hb := B.bytes
  have hr := B.returns
  have hts := atoms_spec (ws := wsX3_partOf) B.pre
  have hown : s.vm.findClass RX3 = some m.cls := findClass_of_methodNamed B.named
  have hlocks := B.notSynchronized
  subst hsz
  have hD := hD0.self (sz := s.heap.size)
  generalize hAe : va_A [((ad 2), .inr (3, [.ref (ad 23), .ref (ad 24), .ref (ad 25), .ref (ad 26), .int 0, .ref (ad 27), .ref (ad 28), .ref (ad 29), .ref (ad 30)])), ((ad 27), .inl (cI, 200, .inl (fun _ => 0)))] s.heap.size = A at hD ⊢
  have hA : ∀ q : Nat, s.heap.size ≤ q → A q := fun q h => by rw [← hAe]; exact Or.inr h
  have hS : va_S A s.heap s.heap [] := va_S.rf
  have hP : va_P D vwCl [((ad 2), .inr (3, [.ref (ad 23), .ref (ad 24), .ref (ad 25), .ref (ad 26), .int 0, .ref (ad 27), .ref (ad 28), .ref (ad 29), .ref (ad 30)])), ((ad 27), .inl (cI, 200, .inl (fun _ => 0)))] s.heap := hP
  have hl := lv_entry ([.ref (ad 2), .int o, .int k]) (n := 3) (Nat.le_of_ble_eq_true rfl)
  rw [lg_entry_eq]
  generalize (lg_sl ([.ref (ad 2), .int o, .int k]) ++ List.replicate (3 - (lg_sl ([.ref (ad 2), .int o, .int k])).length) Slot.unset).toArray = ls at hl ⊢
  have hl : lv_has ls 3 [(0, .ref (ad 2)), (1, .int o), (2, .int k)] := hl
  refine lv_aload_n hx hb dX3_partOf_0 rfl (lv_at hl 0 rfl) ?_
  refine va_get (D := D) (ci := 3) (v := .ref (ad 27)) (C := RX3) (T := TX3) (N := 9) hx hb hts (by decide +kernel) hown hK hP 0 rfl rfl 5 (by decide) (hts (.fieldLink RX3 24 "PortRooms$Holdings" "part" "[I") (by decide +kernel)) (fun _ h9 => h9) rfl dX3_partOf_1 ?_
  refine lv_iload_n hx hb dX3_partOf_4 rfl (lv_at hl 1 rfl) ?_
  refine lv_iload_n hx hb dX3_partOf_5 rfl (lv_at hl 2 rfl) ?_
  refine st_i (wr := [((ad 2), .inr (3, [.ref (ad 23), .ref (ad 24), .ref (ad 25), .ref (ad 26), .int 0, .ref (ad 27), .ref (ad 28), .ref (ad 29), .ref (ad 30)])), ((ad 27), .inl (cI, 200, .inl (fun _ => 0)))]) (va_runS (As := [.int o, .int k]) (rest := [.ref (ad 27)]) ⟨hx, hb, hml, hown, hts⟩ (ct_X3_place l D cI cY cJ cQ _ o k (by omega) (by omega) (by omega) (by omega)) (va_cwS 2 hts gX3_partOf_X3_place rfl rfl rfl (by decide +kernel) ⟨Nat.le_of_ble_eq_true rfl, Nat.le_of_ble_eq_true rfl⟩) (cPreS (hP.sub [] rfl) hK (hD.sub [] (by decide) rfl) hN) rfl rfl hl.1 rfl (lv_room (Nat.le_of_ble_eq_true rfl)) dX3_partOf_6 ⟨Nat.le_of_ble_eq_true rfl, Nat.le_of_ble_eq_true rfl⟩) hP hD hS hA [] [0, 1] rfl rfl (by decide) (by decide) (fun r3 u1 H locs hw2 hP hD hS => ?_)
  replace hP : va_P D vwCl [((ad 2), .inr (3, [.ref (ad 23), .ref (ad 24), .ref (ad 25), .ref (ad 26), .int 0, .ref (ad 27), .ref (ad 28), .ref (ad 29), .ref (ad 30)])), ((ad 27), .inl (cI, 200, .inl (fun _ => 0)))] H := hP
  replace hD : va_D A [((ad 2), .inr (3, [.ref (ad 23), .ref (ad 24), .ref (ad 25), .ref (ad 26), .int 0, .ref (ad 27), .ref (ad 28), .ref (ad 29), .ref (ad 30)])), ((ad 27), .inl (cI, 200, .inl (fun _ => 0)))] := hD
  refine va_iald hx hb hK hP 1 0 rfl rfl (i_in (by omega) (by omega)) dX3_partOf_9 ?_
  refine lv_topi (fun v4 ev4 => ?_)
  have ev4 : v4 = 0 := ev4
  subst ev4
  have hP9 := hP.sub (ws' := []) [] rfl
  have hD9 := hD.sub (ws' := []) [] (by decide) rfl
  exact W.iret (v := 0) hx hb hr (fun t ht hW => ⟨⟨0, (), rfl, rfl, by rw [ht]; exact hP9, va_K.moved hW.alike hK, hD9⟩, hS.F ht⟩) hS.2.2 dX3_partOf_10

set_option maxHeartbeats 4000000 in
set_option maxRecDepth 100000 in
theorem ct_X10_percent (l : Launch) (D : va_G) (cI cY cJ cQ : ClassId) (sz : Nat) (ad : Nat → Nat) (o k d : Int32)   : Met l yX10_percent wsX10_percent ({ frames := 3, cells := 0, slots := 0, locals := 85 }) (cPre D (ty4 cI cY cJ cQ) [((ad 0), .inr (10, [.ref (ad 1), .ref (ad 2), .ref (ad 3), .ref (ad 4), .ref (ad 5), .ref (ad 6), .ref (ad 7), .ref (ad 8), .ref (ad 9), .ref (ad 10), .ref (ad 11), .int 0, .int 0, .int 0])), ((ad 2), .inr (3, [.ref (ad 23), .ref (ad 24), .ref (ad 25), .ref (ad 26), .int 0, .ref (ad 27), .ref (ad 28), .ref (ad 29), .ref (ad 30)])), ((ad 27), .inl (cI, 200, .inl (fun _ => 0))), ((ad 28), .inl (cI, 200, .inl (fun _ => 0))), ((ad 29), .inl (cI, 20, .inl (fun _ => 0))), ((ad 30), .inl (cI, 10, .inl (fun _ => 0)))] sz [.ref (ad 0), .int o, .int k, .int d]) (va_Qi (fun (r : Int32) (u : Unit) => r = an_percent o k d) (cB D (ty4 cI cY cJ cQ) (fun (u : Unit) => []) (va_A [((ad 0), .inr (10, [.ref (ad 1), .ref (ad 2), .ref (ad 3), .ref (ad 4), .ref (ad 5), .ref (ad 6), .ref (ad 7), .ref (ad 8), .ref (ad 9), .ref (ad 10), .ref (ad 11), .int 0, .int 0, .int 0])), ((ad 2), .inr (3, [.ref (ad 23), .ref (ad 24), .ref (ad 25), .ref (ad 26), .int 0, .ref (ad 27), .ref (ad 28), .ref (ad 29), .ref (ad 30)])), ((ad 27), .inl (cI, 200, .inl (fun _ => 0))), ((ad 28), .inl (cI, 200, .inl (fun _ => 0))), ((ad 29), .inl (cI, 20, .inl (fun _ => 0))), ((ad 30), .inl (cI, 10, .inl (fun _ => 0)))] sz)) (va_A [((ad 0), .inr (10, [.ref (ad 1), .ref (ad 2), .ref (ad 3), .ref (ad 4), .ref (ad 5), .ref (ad 6), .ref (ad 7), .ref (ad 8), .ref (ad 9), .ref (ad 10), .ref (ad 11), .int 0, .int 0, .int 0])), ((ad 2), .inr (3, [.ref (ad 23), .ref (ad 24), .ref (ad 25), .ref (ad 26), .int 0, .ref (ad 27), .ref (ad 28), .ref (ad 29), .ref (ad 30)])), ((ad 27), .inl (cI, 200, .inl (fun _ => 0))), ((ad 28), .inl (cI, 200, .inl (fun _ => 0))), ((ad 29), .inl (cI, 20, .inl (fun _ => 0))), ((ad 30), .inl (cI, 10, .inl (fun _ => 0)))] sz)) 0 0 (va_A [((ad 0), .inr (10, [.ref (ad 1), .ref (ad 2), .ref (ad 3), .ref (ad 4), .ref (ad 5), .ref (ad 6), .ref (ad 7), .ref (ad 8), .ref (ad 9), .ref (ad 10), .ref (ad 11), .int 0, .int 0, .int 0])), ((ad 2), .inr (3, [.ref (ad 23), .ref (ad 24), .ref (ad 25), .ref (ad 26), .int 0, .ref (ad 27), .ref (ad 28), .ref (ad 29), .ref (ad 30)])), ((ad 27), .inl (cI, 200, .inl (fun _ => 0))), ((ad 28), .inl (cI, 200, .inl (fun _ => 0))), ((ad 29), .inl (cI, 20, .inl (fun _ => 0))), ((ad 30), .inl (cI, 10, .inl (fun _ => 0)))] sz) := by
  refine Met.ofW (cc := cX10_percent) (maxL := 4) (ret := (some .int)) (by decide) rfl ?_
  intro p e s m args below meth c s₁ B hml hv
  obtain ⟨rfl, hsz, hP, hK, hD0, hN⟩ := hv
  have hx := B.exec
  have hb := B.bytes
  have hr := B.returns
  have hts := atoms_spec (ws := wsX10_percent) B.pre
  have hown : s.vm.findClass RX10 = some m.cls := findClass_of_methodNamed B.named
  have hlocks := B.notSynchronized
  subst hsz
  have hD := hD0.self (sz := s.heap.size)
  generalize hAe : va_A [((ad 0), .inr (10, [.ref (ad 1), .ref (ad 2), .ref (ad 3), .ref (ad 4), .ref (ad 5), .ref (ad 6), .ref (ad 7), .ref (ad 8), .ref (ad 9), .ref (ad 10), .ref (ad 11), .int 0, .int 0, .int 0])), ((ad 2), .inr (3, [.ref (ad 23), .ref (ad 24), .ref (ad 25), .ref (ad 26), .int 0, .ref (ad 27), .ref (ad 28), .ref (ad 29), .ref (ad 30)])), ((ad 27), .inl (cI, 200, .inl (fun _ => 0))), ((ad 28), .inl (cI, 200, .inl (fun _ => 0))), ((ad 29), .inl (cI, 20, .inl (fun _ => 0))), ((ad 30), .inl (cI, 10, .inl (fun _ => 0)))] s.heap.size = A at hD ⊢
  have hA : ∀ q : Nat, s.heap.size ≤ q → A q := fun q h => by rw [← hAe]; exact Or.inr h
  have hS : va_S A s.heap s.heap [] := va_S.rf
  have hP : va_P D vwCl [((ad 0), .inr (10, [.ref (ad 1), .ref (ad 2), .ref (ad 3), .ref (ad 4), .ref (ad 5), .ref (ad 6), .ref (ad 7), .ref (ad 8), .ref (ad 9), .ref (ad 10), .ref (ad 11), .int 0, .int 0, .int 0])), ((ad 2), .inr (3, [.ref (ad 23), .ref (ad 24), .ref (ad 25), .ref (ad 26), .int 0, .ref (ad 27), .ref (ad 28), .ref (ad 29), .ref (ad 30)])), ((ad 27), .inl (cI, 200, .inl (fun _ => 0))), ((ad 28), .inl (cI, 200, .inl (fun _ => 0))), ((ad 29), .inl (cI, 20, .inl (fun _ => 0))), ((ad 30), .inl (cI, 10, .inl (fun _ => 0)))] s.heap := hP
  have hl := lv_entry ([.ref (ad 0), .int o, .int k, .int d]) (n := 4) (Nat.le_of_ble_eq_true rfl)
  rw [lg_entry_eq]
  generalize (lg_sl ([.ref (ad 0), .int o, .int k, .int d]) ++ List.replicate (4 - (lg_sl ([.ref (ad 0), .int o, .int k, .int d])).length) Slot.unset).toArray = ls at hl ⊢
  have hl : lv_has ls 4 [(0, .ref (ad 0)), (1, .int o), (2, .int k), (3, .int d)] := hl
  have k0 : (0 : Int32).toInt = 0 := by decide
  refine lv_iload_n hx hb dX10_percent_0 rfl (lv_at hl 1 rfl) ?_
  refine lv_iload_n hx hb dX10_percent_1 rfl (lv_at hl 2 rfl) ?_
  refine st_i (wr := [((ad 0), .inr (10, [.ref (ad 1), .ref (ad 2), .ref (ad 3), .ref (ad 4), .ref (ad 5), .ref (ad 6), .ref (ad 7), .ref (ad 8), .ref (ad 9), .ref (ad 10), .ref (ad 11), .int 0, .int 0, .int 0])), ((ad 2), .inr (3, [.ref (ad 23), .ref (ad 24), .ref (ad 25), .ref (ad 26), .int 0, .ref (ad 27), .ref (ad 28), .ref (ad 29), .ref (ad 30)])), ((ad 27), .inl (cI, 200, .inl (fun _ => 0))), ((ad 28), .inl (cI, 200, .inl (fun _ => 0))), ((ad 29), .inl (cI, 20, .inl (fun _ => 0))), ((ad 30), .inl (cI, 10, .inl (fun _ => 0)))]) (va_runS (As := [.int o, .int k]) (rest := []) ⟨hx, hb, hml, hown, hts⟩ (ct_X10_isPair l D cI cY cJ cQ _ o k) (va_cwS 2 hts gX10_percent_X10_isPair rfl rfl rfl (by decide +kernel) ⟨Nat.le_of_ble_eq_true rfl, Nat.le_of_ble_eq_true rfl⟩) (cPreS (hP.sub [] rfl) hK (hD.sub [] (by decide) rfl) hN) rfl rfl hl.1 rfl (lv_room (Nat.le_of_ble_eq_true rfl)) dX10_percent_2 ⟨Nat.le_of_ble_eq_true rfl, Nat.le_of_ble_eq_true rfl⟩) hP hD hS hA [] [0, 1, 2, 3, 4, 5] rfl rfl (by decide) (by decide) (fun r3 u1 H locs hw2 hP hD hS => ?_)
  replace hP : va_P D vwCl [((ad 0), .inr (10, [.ref (ad 1), .ref (ad 2), .ref (ad 3), .ref (ad 4), .ref (ad 5), .ref (ad 6), .ref (ad 7), .ref (ad 8), .ref (ad 9), .ref (ad 10), .ref (ad 11), .int 0, .int 0, .int 0])), ((ad 2), .inr (3, [.ref (ad 23), .ref (ad 24), .ref (ad 25), .ref (ad 26), .int 0, .ref (ad 27), .ref (ad 28), .ref (ad 29), .ref (ad 30)])), ((ad 27), .inl (cI, 200, .inl (fun _ => 0))), ((ad 28), .inl (cI, 200, .inl (fun _ => 0))), ((ad 29), .inl (cI, 20, .inl (fun _ => 0))), ((ad 30), .inl (cI, 10, .inl (fun _ => 0)))] H := hP
  replace hD : va_D A [((ad 0), .inr (10, [.ref (ad 1), .ref (ad 2), .ref (ad 3), .ref (ad 4), .ref (ad 5), .ref (ad 6), .ref (ad 7), .ref (ad 8), .ref (ad 9), .ref (ad 10), .ref (ad 11), .int 0, .int 0, .int 0])), ((ad 2), .inr (3, [.ref (ad 23), .ref (ad 24), .ref (ad 25), .ref (ad 26), .int 0, .ref (ad 27), .ref (ad 28), .ref (ad 29), .ref (ad 30)])), ((ad 27), .inl (cI, 200, .inl (fun _ => 0))), ((ad 28), .inl (cI, 200, .inl (fun _ => 0))), ((ad 29), .inl (cI, 20, .inl (fun _ => 0))), ((ad 30), .inl (cI, 10, .inl (fun _ => 0)))] := hD
  refine lv_if_eq (tgt := 15) hx hb dX10_percent_5 (by decide) (fun c4 => ?_) (fun c4 => ?_)
  · skip
    have f5 := bo_f hw2 c4
    refine lv_ldc hx hb hown (hts (.constant RX10 89 (-1000001)) (by decide +kernel)) dX10_percent_15 ?_
    have hP9 := hP.sub (ws' := []) [] rfl
    have hD9 := hD.sub (ws' := []) [] (by decide) rfl
    exact W.iret (v := (-1000001)) hx hb hr (fun t ht hW => ⟨⟨(-1000001), (), rfl, (by unfold an_percent; (repeat' split) <;> first | rfl | (exfalso; omega)), by rw [ht]; exact hP9, va_K.moved hW.alike hK, hD9⟩, hS.F ht⟩) hS.2.2 dX10_percent_17
  · skip
    have f6 := bo_t hw2 c4
    refine lv_iload_n hx hb dX10_percent_8 rfl (lv_at hl 3 rfl) ?_
    refine st_i (wr := [((ad 0), .inr (10, [.ref (ad 1), .ref (ad 2), .ref (ad 3), .ref (ad 4), .ref (ad 5), .ref (ad 6), .ref (ad 7), .ref (ad 8), .ref (ad 9), .ref (ad 10), .ref (ad 11), .int 0, .int 0, .int 0])), ((ad 2), .inr (3, [.ref (ad 23), .ref (ad 24), .ref (ad 25), .ref (ad 26), .int 0, .ref (ad 27), .ref (ad 28), .ref (ad 29), .ref (ad 30)])), ((ad 27), .inl (cI, 200, .inl (fun _ => 0))), ((ad 28), .inl (cI, 200, .inl (fun _ => 0))), ((ad 29), .inl (cI, 20, .inl (fun _ => 0))), ((ad 30), .inl (cI, 10, .inl (fun _ => 0)))]) (va_runS (As := [.int d]) (rest := []) ⟨hx, hb, hml, hown, hts⟩ (ct_X10_isDay l D cI cY cJ cQ _ d) (va_cwS 1 hts gX10_percent_X10_isDay rfl rfl rfl (by decide +kernel) ⟨Nat.le_of_ble_eq_true rfl, Nat.le_of_ble_eq_true rfl⟩) (cPreS (hP.sub [] rfl) hK (hD.sub [] (by decide) rfl) hN) rfl rfl hl.1 rfl (lv_room (Nat.le_of_ble_eq_true rfl)) dX10_percent_9 ⟨Nat.le_of_ble_eq_true rfl, Nat.le_of_ble_eq_true rfl⟩) hP hD hS hA [] [0, 1, 2, 3, 4, 5] rfl rfl (by decide) (by decide) (fun r9 u7 H locs hw8 hP hD hS => ?_)
    replace hP : va_P D vwCl [((ad 0), .inr (10, [.ref (ad 1), .ref (ad 2), .ref (ad 3), .ref (ad 4), .ref (ad 5), .ref (ad 6), .ref (ad 7), .ref (ad 8), .ref (ad 9), .ref (ad 10), .ref (ad 11), .int 0, .int 0, .int 0])), ((ad 2), .inr (3, [.ref (ad 23), .ref (ad 24), .ref (ad 25), .ref (ad 26), .int 0, .ref (ad 27), .ref (ad 28), .ref (ad 29), .ref (ad 30)])), ((ad 27), .inl (cI, 200, .inl (fun _ => 0))), ((ad 28), .inl (cI, 200, .inl (fun _ => 0))), ((ad 29), .inl (cI, 20, .inl (fun _ => 0))), ((ad 30), .inl (cI, 10, .inl (fun _ => 0)))] H := hP
    replace hD : va_D A [((ad 0), .inr (10, [.ref (ad 1), .ref (ad 2), .ref (ad 3), .ref (ad 4), .ref (ad 5), .ref (ad 6), .ref (ad 7), .ref (ad 8), .ref (ad 9), .ref (ad 10), .ref (ad 11), .int 0, .int 0, .int 0])), ((ad 2), .inr (3, [.ref (ad 23), .ref (ad 24), .ref (ad 25), .ref (ad 26), .int 0, .ref (ad 27), .ref (ad 28), .ref (ad 29), .ref (ad 30)])), ((ad 27), .inl (cI, 200, .inl (fun _ => 0))), ((ad 28), .inl (cI, 200, .inl (fun _ => 0))), ((ad 29), .inl (cI, 20, .inl (fun _ => 0))), ((ad 30), .inl (cI, 10, .inl (fun _ => 0)))] := hD
    refine lv_if_ne (tgt := 18) hx hb dX10_percent_12 (by decide) (fun c10 => ?_) (fun c10 => ?_)
    · skip
      have f11 := bo_t hw8 c10
      refine lv_aload_n hx hb dX10_percent_18 rfl (lv_at hl 0 rfl) ?_
      refine va_get (D := D) (ci := 10) (v := .ref (ad 2)) (C := RX10) (T := TX10) (N := 14) hx hb hts (by decide +kernel) hown hK hP 0 rfl rfl 1 (by decide) (hts (.fieldLink RX10 19 "PortRooms" "holdings" "LPortRooms$Holdings;") (by decide +kernel)) (fun _ h9 => h9) rfl dX10_percent_19 ?_
      refine lv_iload_n hx hb dX10_percent_22 rfl (lv_at hl 3 rfl) ?_
      refine st_v (wr := [((ad 0), .inr (10, [.ref (ad 1), .ref (ad 2), .ref (ad 3), .ref (ad 4), .ref (ad 5), .ref (ad 6), .ref (ad 7), .ref (ad 8), .ref (ad 9), .ref (ad 10), .ref (ad 11), .int 0, .int 0, .int 0]))]) (va_runV (C := RX3) (As := [.int d]) (rest := []) ⟨hx, hb, hml, hown, hts⟩ (ct_X3_lookAt l D cI cY cJ cQ _ ad d) (cwV 1 hts gX10_percent_X3_lookAt rfl rfl rfl (by decide +kernel) ⟨Nat.le_of_ble_eq_true rfl, Nat.le_of_ble_eq_true rfl⟩) (cPreV (hP.sub [1, 2, 3, 4, 5] rfl) hK (hD.sub [1, 2, 3, 4, 5] (by decide) rfl) hN (ci := 3) (q0 := 0) rfl rfl) rfl rfl hl.1 rfl (lv_room (Nat.le_of_ble_eq_true rfl)) dX10_percent_23 ⟨Nat.le_of_ble_eq_true rfl, Nat.le_of_ble_eq_true rfl⟩) hP hD hS hA [1, 2, 3, 4, 5] [0] rfl rfl (by decide) (by decide) (fun u12 H locs hw13 hP hD hS => ?_)
      replace hP : va_P D vwCl [((ad 0), .inr (10, [.ref (ad 1), .ref (ad 2), .ref (ad 3), .ref (ad 4), .ref (ad 5), .ref (ad 6), .ref (ad 7), .ref (ad 8), .ref (ad 9), .ref (ad 10), .ref (ad 11), .int 0, .int 0, .int 0])), ((ad 2), .inr (3, [.ref (ad 23), .ref (ad 24), .ref (ad 25), .ref (ad 26), .int 0, .ref (ad 27), .ref (ad 28), .ref (ad 29), .ref (ad 30)])), ((ad 27), .inl (cI, 200, .inl (fun _ => 0))), ((ad 28), .inl (cI, 200, .inl (fun _ => 0))), ((ad 29), .inl (cI, 20, .inl (fun _ => 0))), ((ad 30), .inl (cI, 10, .inl (fun _ => 0)))] H := hP
      replace hD : va_D A [((ad 0), .inr (10, [.ref (ad 1), .ref (ad 2), .ref (ad 3), .ref (ad 4), .ref (ad 5), .ref (ad 6), .ref (ad 7), .ref (ad 8), .ref (ad 9), .ref (ad 10), .ref (ad 11), .int 0, .int 0, .int 0])), ((ad 2), .inr (3, [.ref (ad 23), .ref (ad 24), .ref (ad 25), .ref (ad 26), .int 0, .ref (ad 27), .ref (ad 28), .ref (ad 29), .ref (ad 30)])), ((ad 27), .inl (cI, 200, .inl (fun _ => 0))), ((ad 28), .inl (cI, 200, .inl (fun _ => 0))), ((ad 29), .inl (cI, 20, .inl (fun _ => 0))), ((ad 30), .inl (cI, 10, .inl (fun _ => 0)))] := hD
      refine lv_aload_n hx hb dX10_percent_26 rfl (lv_at hl 0 rfl) ?_
      refine va_get (D := D) (ci := 10) (v := .ref (ad 2)) (C := RX10) (T := TX10) (N := 14) hx hb hts (by decide +kernel) hown hK hP 0 rfl rfl 1 (by decide) (hts (.fieldLink RX10 19 "PortRooms" "holdings" "LPortRooms$Holdings;") (by decide +kernel)) (fun _ h9 => h9) rfl dX10_percent_27 ?_
      refine lv_iload_n hx hb dX10_percent_30 rfl (lv_at hl 1 rfl) ?_
      refine lv_iload_n hx hb dX10_percent_31 rfl (lv_at hl 2 rfl) ?_
      refine st_i (wr := [((ad 0), .inr (10, [.ref (ad 1), .ref (ad 2), .ref (ad 3), .ref (ad 4), .ref (ad 5), .ref (ad 6), .ref (ad 7), .ref (ad 8), .ref (ad 9), .ref (ad 10), .ref (ad 11), .int 0, .int 0, .int 0])), ((ad 28), .inl (cI, 200, .inl (fun _ => 0))), ((ad 29), .inl (cI, 20, .inl (fun _ => 0))), ((ad 30), .inl (cI, 10, .inl (fun _ => 0)))]) (va_runV (C := RX3) (As := [.int o, .int k]) (rest := []) ⟨hx, hb, hml, hown, hts⟩ (ct_X3_partOf l D cI cY cJ cQ _ ad o k (by omega) (by omega) (by omega) (by omega)) (cwV 2 hts gX10_percent_X3_partOf rfl rfl rfl (by decide +kernel) ⟨Nat.le_of_ble_eq_true rfl, Nat.le_of_ble_eq_true rfl⟩) (cPreV (hP.sub [1, 2] rfl) hK (hD.sub [1, 2] (by decide) rfl) hN (ci := 3) (q0 := 0) rfl rfl) rfl rfl hl.1 rfl (lv_room (Nat.le_of_ble_eq_true rfl)) dX10_percent_32 ⟨Nat.le_of_ble_eq_true rfl, Nat.le_of_ble_eq_true rfl⟩) hP hD hS hA [1, 2] [0, 3, 4, 5] rfl rfl (by decide) (by decide) (fun r17 u15 H locs hw16 hP hD hS => ?_)
      replace hP : va_P D vwCl [((ad 0), .inr (10, [.ref (ad 1), .ref (ad 2), .ref (ad 3), .ref (ad 4), .ref (ad 5), .ref (ad 6), .ref (ad 7), .ref (ad 8), .ref (ad 9), .ref (ad 10), .ref (ad 11), .int 0, .int 0, .int 0])), ((ad 28), .inl (cI, 200, .inl (fun _ => 0))), ((ad 29), .inl (cI, 20, .inl (fun _ => 0))), ((ad 30), .inl (cI, 10, .inl (fun _ => 0)))] H := hP
      replace hD : va_D A [((ad 0), .inr (10, [.ref (ad 1), .ref (ad 2), .ref (ad 3), .ref (ad 4), .ref (ad 5), .ref (ad 6), .ref (ad 7), .ref (ad 8), .ref (ad 9), .ref (ad 10), .ref (ad 11), .int 0, .int 0, .int 0])), ((ad 28), .inl (cI, 200, .inl (fun _ => 0))), ((ad 29), .inl (cI, 20, .inl (fun _ => 0))), ((ad 30), .inl (cI, 10, .inl (fun _ => 0)))] := hD
      subst hw16
      have hP9 := hP.sub (ws' := []) [] rfl
      have hD9 := hD.sub (ws' := []) [] (by decide) rfl
      exact W.iret (v := 0) hx hb hr (fun t ht hW => ⟨⟨0, (), rfl, (by unfold an_percent; (repeat' split) <;> first | rfl | (exfalso; omega)), by rw [ht]; exact hP9, va_K.moved hW.alike hK, hD9⟩, hS.F ht⟩) hS.2.2 dX10_percent_35
    · skip
      have f18 := bo_f hw8 c10
      refine lv_ldc hx hb hown (hts (.constant RX10 89 (-1000001)) (by decide +kernel)) dX10_percent_15 ?_
      have hP9 := hP.sub (ws' := []) [] rfl
      have hD9 := hD.sub (ws' := []) [] (by decide) rfl
      exact W.iret (v := (-1000001)) hx hb hr (fun t ht hW => ⟨⟨(-1000001), (), rfl, (by unfold an_percent; (repeat' split) <;> first | rfl | (exfalso; omega)), by rw [ht]; exact hP9, va_K.moved hW.alike hK, hD9⟩, hS.F ht⟩) hS.2.2 dX10_percent_17
end
