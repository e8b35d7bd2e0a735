def tb_ch : List (List Cond) := [tables_1_1, tables_1_2, tables_1_3, tables_1_4, tables_1_5, tables_1_6, tables_1_7]
theorem tb_flat : tables_1 = tb_ch.flatten := by simp only [tables_1, tb_ch, List.flatten_cons, List.flatten_nil, List.append_nil]
theorem tb_at (k o : Nat) {w : Cond} (h : (tb_ch[k]?.getD [])[o]? = some w) : w ∈ tables_1 := by
  rw [tb_flat]
  cases hc : tb_ch[k]? with
  | none => rw [hc] at h; exact absurd h (by simp)
  | some c => rw [hc] at h; exact List.mem_flatten.mpr ⟨c, List.mem_of_getElem? hc, List.mem_of_getElem? h⟩
-- ===== PART A: goes FIRST, ahead of the names: the tables' words, and 'selects' of the private methods out of them =====
/-- a private method of a class that the tables say can be made, by its rows of tables_1 -/
def lw_okq (q : MethodName × Nat) : Prop := (q.1.cls ≠ "java/lang/invoke/MethodHandle" ∧ q.1.cls ≠ "java/lang/invoke/VarHandle") ∧ Cond.instantiable q.1.cls q.2 ∈ tables_1 ∧ Cond.privateMethod q.1 ∈ tables_1 ∧ Cond.instanceMethod q.1 ∈ tables_1
set_option maxRecDepth 20000 in
theorem lw_p0 : lw_okq (⟨"PortRooms", "finding", "(I)I"⟩, 14) := ⟨⟨by decide +kernel, by decide +kernel⟩, tb_at 0 22 rfl, tb_at 1 132 rfl, tb_at 1 133 rfl⟩
set_option maxRecDepth 20000 in
theorem lw_p1 : lw_okq (⟨"PortRooms", "passed", "(I)I"⟩, 14) := ⟨⟨by decide +kernel, by decide +kernel⟩, tb_at 0 22 rfl, tb_at 1 141 rfl, tb_at 1 142 rfl⟩
set_option maxRecDepth 20000 in
theorem lw_p2 : lw_okq (⟨"PortRooms$Holdings", "gatherWhoHas", "()V"⟩, 9) := ⟨⟨by decide +kernel, by decide +kernel⟩, tb_at 0 55 rfl, tb_at 1 217 rfl, tb_at 1 218 rfl⟩
set_option maxRecDepth 20000 in
theorem lw_p3 : lw_okq (⟨"PortRooms$Holdings", "closeReach", "()V"⟩, 9) := ⟨⟨by decide +kernel, by decide +kernel⟩, tb_at 0 55 rfl, tb_at 1 221 rfl, tb_at 1 222 rfl⟩
set_option maxRecDepth 20000 in
theorem lw_p4 : lw_okq (⟨"PortRooms$Holdings", "leadingTo", "(I)I"⟩, 9) := ⟨⟨by decide +kernel, by decide +kernel⟩, tb_at 0 55 rfl, tb_at 2 2 rfl, tb_at 2 3 rfl⟩
set_option maxRecDepth 20000 in
theorem lw_p5 : lw_okq (⟨"PortRooms", "isCrate", "(I)Z"⟩, 14) := ⟨⟨by decide +kernel, by decide +kernel⟩, tb_at 0 22 rfl, tb_at 2 37 rfl, tb_at 2 38 rfl⟩
set_option maxRecDepth 20000 in
theorem lw_p6 : lw_okq (⟨"PortRooms$Papers", "isAhead", "(II)Z"⟩, 7) := ⟨⟨by decide +kernel, by decide +kernel⟩, tb_at 0 125 rfl, tb_at 2 48 rfl, tb_at 2 49 rfl⟩
set_option maxRecDepth 20000 in
theorem lw_p7 : lw_okq (⟨"PortRooms$Papers", "isKnown", "(III)Z"⟩, 7) := ⟨⟨by decide +kernel, by decide +kernel⟩, tb_at 0 125 rfl, tb_at 2 60 rfl, tb_at 2 61 rfl⟩
set_option maxRecDepth 20000 in
theorem lw_p8 : lw_okq (⟨"PortRooms$Pledges", "isKnown", "(III)Z"⟩, 6) := ⟨⟨by decide +kernel, by decide +kernel⟩, tb_at 0 154 rfl, tb_at 2 88 rfl, tb_at 2 89 rfl⟩
set_option maxRecDepth 20000 in
theorem lw_p9 : lw_okq (⟨"PortRooms$Pledges", "putBehind", "(III)V"⟩, 6) := ⟨⟨by decide +kernel, by decide +kernel⟩, tb_at 0 154 rfl, tb_at 2 92 rfl, tb_at 2 93 rfl⟩
set_option maxRecDepth 20000 in
theorem lw_p10 : lw_okq (⟨"PortRooms$Pledges", "isAhead", "(III)Z"⟩, 6) := ⟨⟨by decide +kernel, by decide +kernel⟩, tb_at 0 154 rfl, tb_at 2 96 rfl, tb_at 2 97 rfl⟩
set_option maxRecDepth 20000 in
theorem lw_p11 : lw_okq (⟨"PortRooms$Duties", "next", "()V"⟩, 15) := ⟨⟨by decide +kernel, by decide +kernel⟩, tb_at 0 181 rfl, tb_at 2 123 rfl, tb_at 2 124 rfl⟩
set_option maxRecDepth 20000 in
theorem lw_p12 : lw_okq (⟨"PortRooms$Duties", "readName", "()V"⟩, 15) := ⟨⟨by decide +kernel, by decide +kernel⟩, tb_at 0 181 rfl, tb_at 2 130 rfl, tb_at 2 131 rfl⟩
set_option maxRecDepth 20000 in
theorem lw_p13 : lw_okq (⟨"PortRooms$Duties", "isWord", "(I)Z"⟩, 15) := ⟨⟨by decide +kernel, by decide +kernel⟩, tb_at 0 181 rfl, tb_at 2 134 rfl, tb_at 2 135 rfl⟩
set_option maxRecDepth 20000 in
theorem lw_p14 : lw_okq (⟨"PortRooms$Duties", "readNumber", "()V"⟩, 15) := ⟨⟨by decide +kernel, by decide +kernel⟩, tb_at 0 181 rfl, tb_at 2 182 rfl, tb_at 2 183 rfl⟩
set_option maxRecDepth 20000 in
theorem lw_p15 : lw_okq (⟨"PortRooms$Duties", "readAct", "()I"⟩, 15) := ⟨⟨by decide +kernel, by decide +kernel⟩, tb_at 0 181 rfl, tb_at 2 186 rfl, tb_at 2 187 rfl⟩
def lw_privs_1 : List (MethodName × Nat) := [(⟨"PortRooms", "finding", "(I)I"⟩, 14), (⟨"PortRooms", "passed", "(I)I"⟩, 14), (⟨"PortRooms$Holdings", "gatherWhoHas", "()V"⟩, 9), (⟨"PortRooms$Holdings", "closeReach", "()V"⟩, 9), (⟨"PortRooms$Holdings", "leadingTo", "(I)I"⟩, 9), (⟨"PortRooms", "isCrate", "(I)Z"⟩, 14), (⟨"PortRooms$Papers", "isAhead", "(II)Z"⟩, 7), (⟨"PortRooms$Papers", "isKnown", "(III)Z"⟩, 7), (⟨"PortRooms$Pledges", "isKnown", "(III)Z"⟩, 6), (⟨"PortRooms$Pledges", "putBehind", "(III)V"⟩, 6), (⟨"PortRooms$Pledges", "isAhead", "(III)Z"⟩, 6), (⟨"PortRooms$Duties", "next", "()V"⟩, 15), (⟨"PortRooms$Duties", "readName", "()V"⟩, 15), (⟨"PortRooms$Duties", "isWord", "(I)Z"⟩, 15), (⟨"PortRooms$Duties", "readNumber", "()V"⟩, 15), (⟨"PortRooms$Duties", "readAct", "()I"⟩, 15)]
theorem lw_r1 : ∀ q ∈ lw_privs_1, lw_okq q := List.forall_mem_cons.mpr ⟨lw_p0, List.forall_mem_cons.mpr ⟨lw_p1, List.forall_mem_cons.mpr ⟨lw_p2, List.forall_mem_cons.mpr ⟨lw_p3, List.forall_mem_cons.mpr ⟨lw_p4, List.forall_mem_cons.mpr ⟨lw_p5, List.forall_mem_cons.mpr ⟨lw_p6, List.forall_mem_cons.mpr ⟨lw_p7, List.forall_mem_cons.mpr ⟨lw_p8, List.forall_mem_cons.mpr ⟨lw_p9, List.forall_mem_cons.mpr ⟨lw_p10, List.forall_mem_cons.mpr ⟨lw_p11, List.forall_mem_cons.mpr ⟨lw_p12, List.forall_mem_cons.mpr ⟨lw_p13, List.forall_mem_cons.mpr ⟨lw_p14, List.forall_mem_cons.mpr ⟨lw_p15, fun _ h => absurd h List.not_mem_nil⟩⟩⟩⟩⟩⟩⟩⟩⟩⟩⟩⟩⟩⟩⟩⟩
set_option maxRecDepth 20000 in
theorem lw_p16 : lw_okq (⟨"PortRooms$Duties", "readPart", "()I"⟩, 15) := ⟨⟨by decide +kernel, by decide +kernel⟩, tb_at 0 181 rfl, tb_at 2 190 rfl, tb_at 2 191 rfl⟩
set_option maxRecDepth 20000 in
theorem lw_p17 : lw_okq (⟨"PortRooms$Duties", "keepDraft", "()V"⟩, 15) := ⟨⟨by decide +kernel, by decide +kernel⟩, tb_at 0 181 rfl, tb_at 2 195 rfl, tb_at 2 196 rfl⟩
set_option maxRecDepth 20000 in
theorem lw_p18 : lw_okq (⟨"PortRooms$Openings", "firstOf", "(I)I"⟩, 5) := ⟨⟨by decide +kernel, by decide +kernel⟩, tb_at 1 24 rfl, tb_at 3 72 rfl, tb_at 3 73 rfl⟩
set_option maxRecDepth 20000 in
theorem lw_p19 : lw_okq (⟨"PortRooms$Openings", "compared", "(II)I"⟩, 5) := ⟨⟨by decide +kernel, by decide +kernel⟩, tb_at 1 24 rfl, tb_at 3 76 rfl, tb_at 3 77 rfl⟩
set_option maxRecDepth 20000 in
theorem lw_p20 : lw_okq (⟨"PortRooms", "isBarred", "(II)Z"⟩, 14) := ⟨⟨by decide +kernel, by decide +kernel⟩, tb_at 0 22 rfl, tb_at 3 99 rfl, tb_at 3 100 rfl⟩
set_option maxRecDepth 20000 in
theorem lw_p21 : lw_okq (⟨"PortRooms", "kindToday", "(I)I"⟩, 14) := ⟨⟨by decide +kernel, by decide +kernel⟩, tb_at 0 22 rfl, tb_at 3 116 rfl, tb_at 3 117 rfl⟩
set_option maxRecDepth 20000 in
theorem lw_p22 : lw_okq (⟨"PortRooms", "askSize", "(II)I"⟩, 14) := ⟨⟨by decide +kernel, by decide +kernel⟩, tb_at 0 22 rfl, tb_at 3 135 rfl, tb_at 3 136 rfl⟩
set_option maxRecDepth 20000 in
theorem lw_p23 : lw_okq (⟨"PortRooms", "sizeOfOwed", "(I)I"⟩, 14) := ⟨⟨by decide +kernel, by decide +kernel⟩, tb_at 0 22 rfl, tb_at 3 139 rfl, tb_at 3 140 rfl⟩
set_option maxRecDepth 20000 in
theorem lw_p24 : lw_okq (⟨"PortRooms", "leave", "(I)V"⟩, 14) := ⟨⟨by decide +kernel, by decide +kernel⟩, tb_at 0 22 rfl, tb_at 3 143 rfl, tb_at 3 144 rfl⟩
set_option maxRecDepth 20000 in
theorem lw_p25 : lw_okq (⟨"PortRooms", "sizeLent", "(I)I"⟩, 14) := ⟨⟨by decide +kernel, by decide +kernel⟩, tb_at 0 22 rfl, tb_at 3 147 rfl, tb_at 3 148 rfl⟩
set_option maxRecDepth 20000 in
theorem lw_p26 : lw_okq (⟨"PortRooms", "sizeOfDeep", "(I)I"⟩, 14) := ⟨⟨by decide +kernel, by decide +kernel⟩, tb_at 0 22 rfl, tb_at 3 151 rfl, tb_at 3 152 rfl⟩
set_option maxRecDepth 20000 in
theorem lw_p27 : lw_okq (⟨"PortRooms", "sizeOfStopped", "(I)I"⟩, 14) := ⟨⟨by decide +kernel, by decide +kernel⟩, tb_at 0 22 rfl, tb_at 3 155 rfl, tb_at 3 156 rfl⟩
set_option maxRecDepth 20000 in
theorem lw_p28 : lw_okq (⟨"PortRooms", "markOfStopped", "(I)I"⟩, 14) := ⟨⟨by decide +kernel, by decide +kernel⟩, tb_at 0 22 rfl, tb_at 3 159 rfl, tb_at 3 160 rfl⟩
set_option maxRecDepth 20000 in
theorem lw_p29 : lw_okq (⟨"PortRooms", "markLent", "(I)I"⟩, 14) := ⟨⟨by decide +kernel, by decide +kernel⟩, tb_at 0 22 rfl, tb_at 3 163 rfl, tb_at 3 164 rfl⟩
set_option maxRecDepth 20000 in
theorem lw_p30 : lw_okq (⟨"PortRooms", "askMark", "(II)I"⟩, 14) := ⟨⟨by decide +kernel, by decide +kernel⟩, tb_at 0 22 rfl, tb_at 3 167 rfl, tb_at 3 168 rfl⟩
set_option maxRecDepth 20000 in
theorem lw_p31 : lw_okq (⟨"PortRooms", "markOfOwed", "(I)I"⟩, 14) := ⟨⟨by decide +kernel, by decide +kernel⟩, tb_at 0 22 rfl, tb_at 3 171 rfl, tb_at 3 172 rfl⟩
def lw_privs_2 : List (MethodName × Nat) := [(⟨"PortRooms$Duties", "readPart", "()I"⟩, 15), (⟨"PortRooms$Duties", "keepDraft", "()V"⟩, 15), (⟨"PortRooms$Openings", "firstOf", "(I)I"⟩, 5), (⟨"PortRooms$Openings", "compared", "(II)I"⟩, 5), (⟨"PortRooms", "isBarred", "(II)Z"⟩, 14), (⟨"PortRooms", "kindToday", "(I)I"⟩, 14), (⟨"PortRooms", "askSize", "(II)I"⟩, 14), (⟨"PortRooms", "sizeOfOwed", "(I)I"⟩, 14), (⟨"PortRooms", "leave", "(I)V"⟩, 14), (⟨"PortRooms", "sizeLent", "(I)I"⟩, 14), (⟨"PortRooms", "sizeOfDeep", "(I)I"⟩, 14), (⟨"PortRooms", "sizeOfStopped", "(I)I"⟩, 14), (⟨"PortRooms", "markOfStopped", "(I)I"⟩, 14), (⟨"PortRooms", "markLent", "(I)I"⟩, 14), (⟨"PortRooms", "askMark", "(II)I"⟩, 14), (⟨"PortRooms", "markOfOwed", "(I)I"⟩, 14)]
theorem lw_r2 : ∀ q ∈ lw_privs_2, lw_okq q := List.forall_mem_cons.mpr ⟨lw_p16, List.forall_mem_cons.mpr ⟨lw_p17, List.forall_mem_cons.mpr ⟨lw_p18, List.forall_mem_cons.mpr ⟨lw_p19, List.forall_mem_cons.mpr ⟨lw_p20, List.forall_mem_cons.mpr ⟨lw_p21, List.forall_mem_cons.mpr ⟨lw_p22, List.forall_mem_cons.mpr ⟨lw_p23, List.forall_mem_cons.mpr ⟨lw_p24, List.forall_mem_cons.mpr ⟨lw_p25, List.forall_mem_cons.mpr ⟨lw_p26, List.forall_mem_cons.mpr ⟨lw_p27, List.forall_mem_cons.mpr ⟨lw_p28, List.forall_mem_cons.mpr ⟨lw_p29, List.forall_mem_cons.mpr ⟨lw_p30, List.forall_mem_cons.mpr ⟨lw_p31, fun _ h => absurd h List.not_mem_nil⟩⟩⟩⟩⟩⟩⟩⟩⟩⟩⟩⟩⟩⟩⟩⟩
set_option maxRecDepth 20000 in
theorem lw_p32 : lw_okq (⟨"PortRooms", "markOfClean", "(I)I"⟩, 14) := ⟨⟨by decide +kernel, by decide +kernel⟩, tb_at 0 22 rfl, tb_at 3 175 rfl, tb_at 3 176 rfl⟩
set_option maxRecDepth 20000 in
theorem lw_p33 : lw_okq (⟨"PortRoomsModel", "found", "(I)I"⟩, 64) := ⟨⟨by decide +kernel, by decide +kernel⟩, tb_at 3 199 rfl, tb_at 4 173 rfl, tb_at 4 174 rfl⟩
set_option maxRecDepth 20000 in
theorem lw_p34 : lw_okq (⟨"PortRoomsModel", "holding", "(IIII)I"⟩, 64) := ⟨⟨by decide +kernel, by decide +kernel⟩, tb_at 3 199 rfl, tb_at 4 194 rfl, tb_at 4 195 rfl⟩
set_option maxRecDepth 20000 in
theorem lw_p35 : lw_okq (⟨"PortRoomsModel", "percentOf", "(III)I"⟩, 64) := ⟨⟨by decide +kernel, by decide +kernel⟩, tb_at 3 199 rfl, tb_at 4 221 rfl, tb_at 4 222 rfl⟩
set_option maxRecDepth 20000 in
theorem lw_p36 : lw_okq (⟨"PortRoomsModel", "shareOf", "(III)I"⟩, 64) := ⟨⟨by decide +kernel, by decide +kernel⟩, tb_at 3 199 rfl, tb_at 4 233 rfl, tb_at 4 234 rfl⟩
set_option maxRecDepth 20000 in
theorem lw_p37 : lw_okq (⟨"PortRoomsModel", "findHas", "(I)V"⟩, 64) := ⟨⟨by decide +kernel, by decide +kernel⟩, tb_at 3 199 rfl, tb_at 4 238 rfl, tb_at 4 239 rfl⟩
set_option maxRecDepth 20000 in
theorem lw_p38 : lw_okq (⟨"PortRoomsModel", "rowsTo", "(II)J"⟩, 64) := ⟨⟨by decide +kernel, by decide +kernel⟩, tb_at 3 199 rfl, tb_at 5 2 rfl, tb_at 5 3 rfl⟩
set_option maxRecDepth 20000 in
theorem lw_p39 : lw_okq (⟨"PortRoomsModel", "isCrate", "(I)Z"⟩, 64) := ⟨⟨by decide +kernel, by decide +kernel⟩, tb_at 3 199 rfl, tb_at 5 25 rfl, tb_at 5 26 rfl⟩
set_option maxRecDepth 20000 in
theorem lw_p40 : lw_okq (⟨"PortRoomsModel", "ownerOf", "(III)I"⟩, 64) := ⟨⟨by decide +kernel, by decide +kernel⟩, tb_at 3 199 rfl, tb_at 5 33 rfl, tb_at 5 34 rfl⟩
set_option maxRecDepth 20000 in
theorem lw_p41 : lw_okq (⟨"PortRoomsModel", "keyOf", "(II)I"⟩, 64) := ⟨⟨by decide +kernel, by decide +kernel⟩, tb_at 3 199 rfl, tb_at 5 50 rfl, tb_at 5 51 rfl⟩
set_option maxRecDepth 20000 in
theorem lw_p42 : lw_okq (⟨"PortRoomsModel", "step", "()V"⟩, 64) := ⟨⟨by decide +kernel, by decide +kernel⟩, tb_at 3 199 rfl, tb_at 5 64 rfl, tb_at 5 65 rfl⟩
set_option maxRecDepth 20000 in
theorem lw_p43 : lw_okq (⟨"PortRoomsModel", "byteAt", "(I)I"⟩, 64) := ⟨⟨by decide +kernel, by decide +kernel⟩, tb_at 3 199 rfl, tb_at 5 68 rfl, tb_at 5 69 rfl⟩
set_option maxRecDepth 20000 in
theorem lw_p44 : lw_okq (⟨"PortRoomsModel", "word", "()J"⟩, 64) := ⟨⟨by decide +kernel, by decide +kernel⟩, tb_at 3 199 rfl, tb_at 5 78 rfl, tb_at 5 79 rfl⟩
set_option maxRecDepth 20000 in
theorem lw_p45 : lw_okq (⟨"PortRoomsModel", "bad", "(I)V"⟩, 64) := ⟨⟨by decide +kernel, by decide +kernel⟩, tb_at 3 199 rfl, tb_at 5 86 rfl, tb_at 5 87 rfl⟩
set_option maxRecDepth 20000 in
theorem lw_p46 : lw_okq (⟨"PortRoomsModel", "need", "(Z)V"⟩, 64) := ⟨⟨by decide +kernel, by decide +kernel⟩, tb_at 3 199 rfl, tb_at 5 90 rfl, tb_at 5 91 rfl⟩
set_option maxRecDepth 20000 in
theorem lw_p47 : lw_okq (⟨"PortRoomsModel", "is", "(I)Z"⟩, 64) := ⟨⟨by decide +kernel, by decide +kernel⟩, tb_at 3 199 rfl, tb_at 5 94 rfl, tb_at 5 95 rfl⟩
def lw_privs_3 : List (MethodName × Nat) := [(⟨"PortRooms", "markOfClean", "(I)I"⟩, 14), (⟨"PortRoomsModel", "found", "(I)I"⟩, 64), (⟨"PortRoomsModel", "holding", "(IIII)I"⟩, 64), (⟨"PortRoomsModel", "percentOf", "(III)I"⟩, 64), (⟨"PortRoomsModel", "shareOf", "(III)I"⟩, 64), (⟨"PortRoomsModel", "findHas", "(I)V"⟩, 64), (⟨"PortRoomsModel", "rowsTo", "(II)J"⟩, 64), (⟨"PortRoomsModel", "isCrate", "(I)Z"⟩, 64), (⟨"PortRoomsModel", "ownerOf", "(III)I"⟩, 64), (⟨"PortRoomsModel", "keyOf", "(II)I"⟩, 64), (⟨"PortRoomsModel", "step", "()V"⟩, 64), (⟨"PortRoomsModel", "byteAt", "(I)I"⟩, 64), (⟨"PortRoomsModel", "word", "()J"⟩, 64), (⟨"PortRoomsModel", "bad", "(I)V"⟩, 64), (⟨"PortRoomsModel", "need", "(Z)V"⟩, 64), (⟨"PortRoomsModel", "is", "(I)Z"⟩, 64)]
theorem lw_r3 : ∀ q ∈ lw_privs_3, lw_okq q := List.forall_mem_cons.mpr ⟨lw_p32, List.forall_mem_cons.mpr ⟨lw_p33, List.forall_mem_cons.mpr ⟨lw_p34, List.forall_mem_cons.mpr ⟨lw_p35, List.forall_mem_cons.mpr ⟨lw_p36, List.forall_mem_cons.mpr ⟨lw_p37, List.forall_mem_cons.mpr ⟨lw_p38, List.forall_mem_cons.mpr ⟨lw_p39, List.forall_mem_cons.mpr ⟨lw_p40, List.forall_mem_cons.mpr ⟨lw_p41, List.forall_mem_cons.mpr ⟨lw_p42, List.forall_mem_cons.mpr ⟨lw_p43, List.forall_mem_cons.mpr ⟨lw_p44, List.forall_mem_cons.mpr ⟨lw_p45, List.forall_mem_cons.mpr ⟨lw_p46, List.forall_mem_cons.mpr ⟨lw_p47, fun _ h => absurd h List.not_mem_nil⟩⟩⟩⟩⟩⟩⟩⟩⟩⟩⟩⟩⟩⟩⟩⟩
set_option maxRecDepth 20000 in
theorem lw_p48 : lw_okq (⟨"PortRoomsModel", "numberUpTo", "(I)I"⟩, 64) := ⟨⟨by decide +kernel, by decide +kernel⟩, tb_at 3 199 rfl, tb_at 5 98 rfl, tb_at 5 99 rfl⟩
set_option maxRecDepth 20000 in
theorem lw_p49 : lw_okq (⟨"PortRoomsModel", "wakes", "(I)I"⟩, 64) := ⟨⟨by decide +kernel, by decide +kernel⟩, tb_at 3 199 rfl, tb_at 5 117 rfl, tb_at 5 118 rfl⟩
set_option maxRecDepth 20000 in
theorem lw_p50 : lw_okq (⟨"PortRoomsModel", "insideOf", "(II)I"⟩, 64) := ⟨⟨by decide +kernel, by decide +kernel⟩, tb_at 3 199 rfl, tb_at 5 135 rfl, tb_at 5 136 rfl⟩
set_option maxRecDepth 20000 in
theorem lw_p51 : lw_okq (⟨"PortRoomsModel", "lotOf", "(II)J"⟩, 64) := ⟨⟨by decide +kernel, by decide +kernel⟩, tb_at 3 199 rfl, tb_at 5 148 rfl, tb_at 5 149 rfl⟩
set_option maxRecDepth 20000 in
theorem lw_p52 : lw_okq (⟨"PortRoomsModel", "drawnOn", "(II)I"⟩, 64) := ⟨⟨by decide +kernel, by decide +kernel⟩, tb_at 3 199 rfl, tb_at 5 161 rfl, tb_at 5 162 rfl⟩
set_option maxRecDepth 20000 in
theorem lw_p53 : lw_okq (⟨"PortRoomsModel", "isBarred", "(II)Z"⟩, 64) := ⟨⟨by decide +kernel, by decide +kernel⟩, tb_at 3 199 rfl, tb_at 5 188 rfl, tb_at 5 189 rfl⟩
set_option maxRecDepth 20000 in
theorem lw_p54 : lw_okq (⟨"PortRoomsModel", "kindOf", "(I)I"⟩, 64) := ⟨⟨by decide +kernel, by decide +kernel⟩, tb_at 3 199 rfl, tb_at 5 201 rfl, tb_at 5 202 rfl⟩
set_option maxRecDepth 20000 in
theorem lw_p55 : lw_okq (⟨"PortRoomsModel", "owes", "(I)I"⟩, 64) := ⟨⟨by decide +kernel, by decide +kernel⟩, tb_at 3 199 rfl, tb_at 5 205 rfl, tb_at 5 206 rfl⟩
set_option maxRecDepth 20000 in
theorem lw_p56 : lw_okq (⟨"PortRoomsModel", "sizeOf", "(II)I"⟩, 64) := ⟨⟨by decide +kernel, by decide +kernel⟩, tb_at 3 199 rfl, tb_at 5 221 rfl, tb_at 5 222 rfl⟩
set_option maxRecDepth 20000 in
theorem lw_p57 : lw_okq (⟨"PortRoomsModel", "began", "(I)V"⟩, 64) := ⟨⟨by decide +kernel, by decide +kernel⟩, tb_at 3 199 rfl, tb_at 5 225 rfl, tb_at 5 226 rfl⟩
set_option maxRecDepth 20000 in
theorem lw_p58 : lw_okq (⟨"PortRoomsModel", "markOf", "(II)I"⟩, 64) := ⟨⟨by decide +kernel, by decide +kernel⟩, tb_at 3 199 rfl, tb_at 5 229 rfl, tb_at 5 230 rfl⟩
set_option maxRecDepth 20000 in
theorem lw_p59 : lw_okq (⟨"PortRoomsModel", "plainSize", "(I)I"⟩, 64) := ⟨⟨by decide +kernel, by decide +kernel⟩, tb_at 3 199 rfl, tb_at 5 233 rfl, tb_at 5 234 rfl⟩
def lw_privs_4 : List (MethodName × Nat) := [(⟨"PortRoomsModel", "numberUpTo", "(I)I"⟩, 64), (⟨"PortRoomsModel", "wakes", "(I)I"⟩, 64), (⟨"PortRoomsModel", "insideOf", "(II)I"⟩, 64), (⟨"PortRoomsModel", "lotOf", "(II)J"⟩, 64), (⟨"PortRoomsModel", "drawnOn", "(II)I"⟩, 64), (⟨"PortRoomsModel", "isBarred", "(II)Z"⟩, 64), (⟨"PortRoomsModel", "kindOf", "(I)I"⟩, 64), (⟨"PortRoomsModel", "owes", "(I)I"⟩, 64), (⟨"PortRoomsModel", "sizeOf", "(II)I"⟩, 64), (⟨"PortRoomsModel", "began", "(I)V"⟩, 64), (⟨"PortRoomsModel", "markOf", "(II)I"⟩, 64), (⟨"PortRoomsModel", "plainSize", "(I)I"⟩, 64)]
theorem lw_r4 : ∀ q ∈ lw_privs_4, lw_okq q := List.forall_mem_cons.mpr ⟨lw_p48, List.forall_mem_cons.mpr ⟨lw_p49, List.forall_mem_cons.mpr ⟨lw_p50, List.forall_mem_cons.mpr ⟨lw_p51, List.forall_mem_cons.mpr ⟨lw_p52, List.forall_mem_cons.mpr ⟨lw_p53, List.forall_mem_cons.mpr ⟨lw_p54, List.forall_mem_cons.mpr ⟨lw_p55, List.forall_mem_cons.mpr ⟨lw_p56, List.forall_mem_cons.mpr ⟨lw_p57, List.forall_mem_cons.mpr ⟨lw_p58, List.forall_mem_cons.mpr ⟨lw_p59, fun _ h => absurd h List.not_mem_nil⟩⟩⟩⟩⟩⟩⟩⟩⟩⟩⟩⟩
def lw_privs : List (MethodName × Nat) := lw_privs_1 ++ (lw_privs_2 ++ (lw_privs_3 ++ (lw_privs_4)))
def lw_tbl : List Cond := k2_sels lw_privs ++ tables_1
set_option maxRecDepth 20000 in
theorem lw_privs_ok : ∀ q ∈ lw_privs, lw_okq q := by
  show ∀ q ∈ lw_privs_1 ++ (lw_privs_2 ++ (lw_privs_3 ++ (lw_privs_4))), lw_okq q
  exact List.forall_mem_append.mpr ⟨lw_r1, List.forall_mem_append.mpr ⟨lw_r2, List.forall_mem_append.mpr ⟨lw_r3, lw_r4⟩⟩⟩
