section
def lw_ch : List (List Cond) := [k2_sels lw_privs, tables_1_1, tables_1_2, tables_1_3, tables_1_4, tables_1_5, tables_1_6, tables_1_7]
theorem lw_flat : lw_tbl = lw_ch.flatten := by simp only [lw_tbl, tables_1, lw_ch, List.flatten_cons, List.flatten_nil, List.append_nil]
theorem lw_mem (ws : List Cond) (rs : List (Nat × Nat × Nat)) (h : ws = rs.flatMap (fun q => ((lw_ch[q.1]?.getD []).drop q.2.1).take q.2.2)) : ∀ w ∈ ws, w ∈ lw_tbl := by
  intro w hw
  rw [h] at hw
  obtain ⟨q, -, hq⟩ := List.mem_flatMap.mp hw
  have hm := List.mem_of_mem_drop (List.mem_of_mem_take hq)
  rw [lw_flat]
  cases hc : lw_ch[q.1]? with
  | none => rw [hc] at hm; exact absurd hm (by simp)
  | some c => rw [hc] at hm; exact List.mem_flatten.mpr ⟨c, List.mem_of_getElem? hc, hm⟩
def inT (ws : List Cond) : Prop := ∀ w ∈ ws, w ∈ lw_tbl
theorem it_cons {c : Cond} {ws : List Cond} (h : inT [c]) (g : inT ws) : inT (c :: ws) := fun w h1 => (List.mem_cons.mp h1).elim (fun e => by rw [e]; exact h c List.mem_cons_self) (g w)
theorem it_app {a b : List Cond} (ga : inT a) (gb : inT b) : inT (a ++ b) := fun w h1 => (List.mem_append.mp h1).elim (ga w) (gb w)
set_option maxRecDepth 20000 in
theorem it_X40 : inT wsX40 := lw_mem _ [(2, 57, 1), (2, 59, 1), (2, 61, 1), (2, 63, 1)] rfl
set_option maxRecDepth 20000 in
theorem it_X50 : inT wsX50 := lw_mem _ [(2, 74, 1), (2, 76, 1)] rfl
set_option maxRecDepth 20000 in
theorem it_X30 : inT wsX30 := lw_mem _ [(1, 71, 1), (1, 73, 1), (1, 75, 1), (1, 77, 1), (1, 79, 1), (1, 81, 1), (1, 83, 1), (1, 85, 1), (1, 87, 1)] rfl
set_option maxRecDepth 20000 in
theorem it_X80 : inT wsX80 := lw_mem _ [(1, 167, 1), (1, 169, 1), (1, 171, 1), (1, 173, 1), (1, 175, 1), (1, 177, 1)] rfl
set_option maxRecDepth 20000 in
theorem it_X00 : inT wsX00 := lw_mem _ [(2, 12, 1), (2, 14, 1), (2, 16, 1), (2, 18, 1), (2, 20, 1)] rfl
set_option maxRecDepth 20000 in
theorem it_X20 : inT wsX20 := lw_mem _ [(1, 205, 1), (1, 207, 1), (1, 209, 1), (1, 211, 1), (1, 213, 1), (1, 215, 1), (1, 217, 1), (1, 219, 1), (1, 221, 1), (1, 223, 1), (1, 225, 1), (1, 227, 1), (1, 229, 1), (1, 231, 1), (1, 233, 1)] rfl
set_option maxRecDepth 20000 in
theorem it_X70 : inT wsX70 := lw_mem _ [(1, 138, 1), (1, 140, 1), (1, 142, 1), (1, 144, 1), (1, 146, 1), (1, 148, 1), (1, 150, 1)] rfl
set_option maxRecDepth 20000 in
theorem it_X60 : inT wsX60 := lw_mem _ [(2, 35, 1), (2, 37, 1), (2, 39, 1), (2, 41, 1), (2, 43, 1)] rfl
set_option maxRecDepth 20000 in
theorem it_X90 : inT wsX90 := lw_mem _ [(1, 46, 1), (1, 48, 1), (1, 50, 1)] rfl
set_option maxRecDepth 20000 in
theorem it_X10 : inT wsX10 := lw_mem _ [(1, 111, 1), (1, 113, 1), (1, 115, 1), (1, 117, 1), (1, 119, 1), (1, 121, 1)] rfl
set_option maxRecDepth 20000 in
theorem it_X0_init : inT wsX0_init := it_cons (lw_mem [Cond.code yX0_init cX0_init 1 none] [(2, 1, 1)] rfl) (it_app (lw_mem wsX0_init_o1 [(2, 2, 1), (1, 27, 2), (1, 53, 1), (2, 3, 2), (2, 6, 1), (2, 8, 1)] rfl) it_X00)
set_option maxRecDepth 20000 in
theorem it_X0_tell : inT wsX0_tell := it_cons (lw_mem [Cond.code yX0_tell cX0_tell 5 (some .int)] [(3, 210, 1)] rfl) (it_app (lw_mem wsX0_tell_o1 [(2, 3, 1), (2, 10, 1), (2, 4, 1), (2, 6, 1), (2, 8, 1)] rfl) it_X00)
set_option maxRecDepth 20000 in
theorem it_X2_lineFor : inT wsX2_lineFor := it_cons (lw_mem [Cond.code yX2_lineFor cX2_lineFor 4 (some .int)] [(3, 222, 1)] rfl) (it_app (lw_mem wsX2_lineFor_o1 [(1, 195, 1), (1, 191, 2)] rfl) it_X20)
set_option maxRecDepth 20000 in
theorem it_X0_firstWaking : inT wsX0_firstWaking := it_cons (lw_mem [Cond.code yX0_firstWaking cX0_firstWaking 6 (some .int)] [(3, 218, 1)] rfl) (it_app (lw_mem wsX0_firstWaking_o1 [(2, 10, 1), (2, 6, 1), (2, 3, 2), (2, 8, 1), (3, 219, 3), (1, 8, 1)] rfl) (it_app (it_app it_X00 it_X20) it_X2_lineFor))
set_option maxRecDepth 20000 in
theorem it_J7_fill_53178 : inT wsJ7_fill_53178 := it_cons (lw_mem [Cond.code yJ7_fill_53178 cJ7_fill_53178 4 none] [(1, 39, 1)] rfl) (lw_mem [] [] rfl)
set_option maxRecDepth 20000 in
theorem it_X1_init : inT wsX1_init := it_cons (lw_mem [Cond.code yX1_init cX1_init 1 none] [(1, 94, 1)] rfl) (it_app (lw_mem wsX1_init_o1 [(1, 95, 1), (1, 27, 2), (1, 53, 1), (1, 99, 1), (1, 101, 1), (1, 103, 1), (1, 107, 1), (1, 109, 1), (1, 96, 1), (1, 98, 1), (1, 97, 1), (1, 38, 1), (1, 3, 1)] rfl) (it_app it_X10 it_J7_fill_53178))
set_option maxRecDepth 20000 in
theorem it_X1_tell : inT wsX1_tell := it_cons (lw_mem [Cond.code yX1_tell cX1_tell 3 (some .int)] [(3, 31, 1)] rfl) (it_app (lw_mem wsX1_tell_o1 [(1, 99, 1), (1, 105, 1), (1, 101, 1)] rfl) it_X10)
set_option maxRecDepth 20000 in
theorem it_X1_setIn : inT wsX1_setIn := it_cons (lw_mem [Cond.code yX1_setIn cX1_setIn 4 (some .int)] [(4, 1, 1)] rfl) (it_app (lw_mem wsX1_setIn_o1 [(1, 105, 1), (1, 103, 1)] rfl) it_X10)
set_option maxRecDepth 20000 in
theorem it_X1_setInRooms : inT wsX1_setInRooms := it_cons (lw_mem [Cond.code yX1_setInRooms cX1_setInRooms 2 (some .int)] [(4, 40, 1)] rfl) (it_app (lw_mem wsX1_setInRooms_o1 [(1, 105, 1), (1, 96, 1), (3, 238, 2), (4, 0, 1), (1, 5, 1)] rfl) (it_app it_X10 it_X1_setIn))
set_option maxRecDepth 20000 in
theorem it_X10_hasBit : inT wsX10_hasBit := it_cons (lw_mem [Cond.code yX10_hasBit cX10_hasBit 2 (some .boolean)] [(2, 227, 1)] rfl) (lw_mem [] [] rfl)
set_option maxRecDepth 20000 in
theorem it_X1_worthsOf : inT wsX1_worthsOf := it_cons (lw_mem [Cond.code yX1_worthsOf cX1_worthsOf 4 (some .int)] [(4, 11, 1)] rfl) (it_app (lw_mem wsX1_worthsOf_o1 [(1, 105, 1), (1, 101, 1), (2, 226, 1), (1, 1, 1)] rfl) (it_app it_X10 it_X10_hasBit))
set_option maxRecDepth 20000 in
theorem it_J6_bitCount_0f7a4 : inT wsJ6_bitCount_0f7a4 := it_cons (lw_mem [Cond.code yJ6_bitCount_0f7a4 cJ6_bitCount_0f7a4 1 (some .int)] [(4, 4, 1)] rfl) (lw_mem wsJ6_bitCount_0f7a4_o1 [(4, 5, 3)] rfl)
set_option maxRecDepth 20000 in
theorem it_X1_fits : inT wsX1_fits := it_cons (lw_mem [Cond.code yX1_fits cX1_fits 4 (some .boolean)] [(3, 237, 1)] rfl) (it_app (lw_mem wsX1_fits_o1 [(1, 107, 1), (1, 101, 1), (1, 109, 1), (3, 238, 2), (4, 0, 1), (1, 5, 1), (4, 2, 2), (1, 20, 1), (4, 8, 3)] rfl) (it_app (it_app it_X10 it_X1_setIn) (it_app it_J6_bitCount_0f7a4 it_X1_worthsOf)))
set_option maxRecDepth 20000 in
theorem it_X2_init : inT wsX2_init := it_cons (lw_mem [Cond.code yX2_init cX2_init 1 none] [(1, 184, 1)] rfl) (it_app (lw_mem wsX2_init_o1 [(1, 185, 1), (1, 27, 2), (1, 236, 1), (1, 186, 1), (1, 53, 1), (1, 191, 3), (1, 197, 3)] rfl) it_X20)
set_option maxRecDepth 20000 in
theorem it_X2_take : inT wsX2_take := it_cons (lw_mem [Cond.code yX2_take cX2_take 2 none] [(3, 113, 1)] rfl) (it_app (lw_mem wsX2_take_o1 [(1, 187, 1), (1, 186, 1)] rfl) it_X20)
set_option maxRecDepth 20000 in
theorem it_X2_isLetter : inT wsX2_isLetter := it_cons (lw_mem [Cond.code yX2_isLetter cX2_isLetter 1 (some .boolean)] [(3, 128, 1)] rfl) (lw_mem [] [] rfl)
set_option maxRecDepth 20000 in
theorem it_J0_isLatin1_aae02 : inT wsJ0_isLatin1_aae02 := it_cons (lw_mem [Cond.code yJ0_isLatin1_aae02 cJ0_isLatin1_aae02 1 (some .boolean)] [(3, 145, 1)] rfl) (lw_mem wsJ0_isLatin1_aae02_o1 [(3, 146, 1), (7, 9, 1)] rfl)
set_option maxRecDepth 20000 in
theorem it_J3_checkIndex_8e157 : inT wsJ3_checkIndex_8e157 := it_cons (lw_mem [Cond.code yJ3_checkIndex_8e157 cJ3_checkIndex_8e157 3 (some .int)] [(3, 158, 1)] rfl) (lw_mem [] [] rfl)
set_option maxRecDepth 20000 in
theorem it_J0_checkIndex_df160 : inT wsJ0_checkIndex_df160 := it_cons (lw_mem [Cond.code yJ0_checkIndex_df160 cJ0_checkIndex_df160 2 none] [(3, 153, 1)] rfl) (it_app (lw_mem wsJ0_checkIndex_df160_o1 [(3, 154, 1), (3, 156, 2), (1, 18, 1)] rfl) it_J3_checkIndex_8e157)
set_option maxRecDepth 20000 in
theorem it_J1_charAt_3b067 : inT wsJ1_charAt_3b067 := it_cons (lw_mem [Cond.code yJ1_charAt_3b067 cJ1_charAt_3b067 2 (some .char)] [(3, 150, 1)] rfl) (it_app (lw_mem wsJ1_charAt_3b067_o1 [(3, 151, 2), (1, 16, 1)] rfl) it_J0_checkIndex_df160)
set_option maxRecDepth 20000 in
theorem it_J2_length_9d52b : inT wsJ2_length_9d52b := it_cons (lw_mem [Cond.code yJ2_length_9d52b cJ2_length_9d52b 1 (some .int)] [(3, 167, 1)] rfl) (lw_mem [] [] rfl)
set_option maxRecDepth 20000 in
theorem it_J2_checkIndex_2214a : inT wsJ2_checkIndex_2214a := it_cons (lw_mem [Cond.code yJ2_checkIndex_2214a cJ2_checkIndex_2214a 2 none] [(3, 164, 1)] rfl) (it_app (lw_mem wsJ2_checkIndex_2214a_o1 [(3, 165, 2), (1, 19, 1), (3, 168, 1), (3, 152, 1), (1, 16, 1)] rfl) (it_app it_J2_length_9d52b it_J0_checkIndex_df160))
set_option maxRecDepth 20000 in
theorem it_J2_getChar_3b067 : inT wsJ2_getChar_3b067 := it_cons (lw_mem [Cond.code yJ2_getChar_3b067 cJ2_getChar_3b067 2 (some .char)] [(3, 171, 1)] rfl) (it_app (lw_mem wsJ2_getChar_3b067_o1 [(3, 172, 1), (3, 174, 1), (3, 176, 1), (3, 165, 2), (1, 19, 1)] rfl) it_J2_length_9d52b)
set_option maxRecDepth 20000 in
theorem it_J2_charAt_3b067 : inT wsJ2_charAt_3b067 := it_cons (lw_mem [Cond.code yJ2_charAt_3b067 cJ2_charAt_3b067 2 (some .char)] [(3, 161, 1)] rfl) (it_app (lw_mem wsJ2_charAt_3b067_o1 [(3, 162, 2), (1, 19, 1), (3, 169, 2)] rfl) (it_app it_J2_checkIndex_2214a it_J2_getChar_3b067))
set_option maxRecDepth 20000 in
theorem it_J0_charAt_5068e : inT wsJ0_charAt_5068e := it_cons (lw_mem [Cond.code yJ0_charAt_5068e cJ0_charAt_5068e 2 (some .char)] [(3, 141, 1)] rfl) (it_app (lw_mem wsJ0_charAt_5068e_o1 [(7, 10, 1), (3, 142, 3), (1, 16, 1), (3, 148, 2), (1, 17, 1), (3, 159, 2), (1, 19, 1)] rfl) (it_app (it_app it_J0_isLatin1_aae02 it_J1_charAt_3b067) it_J2_charAt_3b067))
set_option maxRecDepth 20000 in
theorem it_X2_isWord : inT wsX2_isWord := it_cons (lw_mem [Cond.code yX2_isWord cX2_isWord 4 (some .boolean)] [(3, 136, 1)] rfl) (it_app (lw_mem wsX2_isWord_o1 [(1, 201, 2), (1, 186, 1), (3, 138, 3), (1, 16, 1)] rfl) (it_app it_X20 it_J0_charAt_5068e))
set_option maxRecDepth 20000 in
theorem it_X2_readName : inT wsX2_readName := it_cons (lw_mem [Cond.code yX2_readName cX2_readName 2 none] [(3, 132, 1)] rfl) (it_app (lw_mem wsX2_readName_o1 [(1, 202, 1), (1, 187, 1), (1, 186, 1), (1, 203, 1), (1, 201, 1), (3, 126, 2), (1, 8, 1), (3, 133, 1), (3, 135, 1), (0, 13, 1)] rfl) (it_app (it_app it_X20 it_X2_isLetter) it_X2_isWord))
set_option maxRecDepth 20000 in
theorem it_X2_isFigure : inT wsX2_isFigure := it_cons (lw_mem [Cond.code yX2_isFigure cX2_isFigure 1 (some .boolean)] [(3, 180, 1)] rfl) (lw_mem [] [] rfl)
set_option maxRecDepth 20000 in
theorem it_X2_readNumber : inT wsX2_readNumber := it_cons (lw_mem [Cond.code yX2_readNumber cX2_readNumber 1 none] [(3, 184, 1)] rfl) (it_app (lw_mem wsX2_readNumber_o1 [(1, 204, 1), (1, 202, 1), (1, 187, 1), (1, 186, 1), (1, 201, 1), (1, 203, 1), (3, 178, 2), (1, 8, 1)] rfl) (it_app it_X20 it_X2_isFigure))
set_option maxRecDepth 20000 in
theorem it_X2_next : inT wsX2_next := it_cons (lw_mem [Cond.code yX2_next cX2_next 1 none] [(3, 125, 1)] rfl) (it_app (lw_mem wsX2_next_o1 [(1, 202, 1), (1, 201, 1), (1, 187, 1), (1, 186, 1), (1, 203, 1), (3, 126, 2), (1, 8, 1), (3, 129, 1), (3, 131, 1), (0, 12, 1), (3, 178, 2), (3, 181, 1), (3, 183, 1), (0, 14, 1)] rfl) (it_app (it_app (it_app it_X20 it_X2_isLetter) it_X2_readName) (it_app it_X2_isFigure it_X2_readNumber)))
set_option maxRecDepth 20000 in
theorem it_X2_readAct : inT wsX2_readAct := it_cons (lw_mem [Cond.code yX2_readAct cX2_readAct 1 (some .int)] [(3, 188, 1)] rfl) (it_app (lw_mem wsX2_readAct_o1 [(1, 203, 1), (1, 200, 1), (1, 197, 2), (1, 204, 1), (3, 122, 1), (3, 124, 1), (0, 11, 1), (1, 8, 1), (1, 187, 1)] rfl) (it_app it_X20 it_X2_next))
set_option maxRecDepth 20000 in
theorem it_X2_readPart : inT wsX2_readPart := it_cons (lw_mem [Cond.code yX2_readPart cX2_readPart 1 (some .int)] [(3, 192, 1)] rfl) (it_app (lw_mem wsX2_readPart_o1 [(1, 203, 2), (1, 199, 2), (3, 122, 1), (3, 124, 1), (0, 11, 1), (1, 8, 1)] rfl) (it_app it_X20 it_X2_next))
set_option maxRecDepth 20000 in
theorem it_X2_keepDraft : inT wsX2_keepDraft := it_cons (lw_mem [Cond.code yX2_keepDraft cX2_keepDraft 1 none] [(3, 197, 1)] rfl) (it_app (lw_mem wsX2_keepDraft_o1 [(1, 197, 1), (1, 191, 1), (1, 200, 1), (3, 198, 1), (2, 166, 1), (2, 165, 1), (1, 14, 1), (1, 198, 1), (1, 192, 1), (1, 199, 1), (1, 193, 1), (1, 195, 1)] rfl) it_X20)
set_option maxRecDepth 20000 in
theorem it_X2_read : inT wsX2_read := it_cons (lw_mem [Cond.code yX2_read cX2_read 3 (some .int)] [(3, 121, 1)] rfl) (it_app (lw_mem wsX2_read_o1 [(1, 202, 1), (1, 200, 1), (1, 203, 1), (1, 187, 1), (1, 189, 1), (3, 193, 1), (1, 201, 1), (1, 195, 1), (3, 122, 1), (3, 124, 1), (1, 8, 1), (3, 185, 1), (3, 187, 1), (0, 15, 1), (3, 189, 1), (3, 191, 1), (0, 16, 1), (3, 194, 1), (3, 196, 1), (0, 17, 1)] rfl) (it_app (it_app (it_app it_X20 it_X2_next) it_X2_readAct) (it_app it_X2_readPart it_X2_keepDraft)))
set_option maxRecDepth 20000 in
theorem it_X3_init : inT wsX3_init := it_cons (lw_mem [Cond.code yX3_init cX3_init 1 none] [(1, 58, 1)] rfl) (it_app (lw_mem wsX3_init_o1 [(1, 59, 1), (1, 27, 2), (1, 53, 1), (1, 60, 4), (1, 66, 4)] rfl) it_X30)
set_option maxRecDepth 20000 in
theorem it_X3_tell : inT wsX3_tell := it_cons (lw_mem [Cond.code yX3_tell cX3_tell 5 (some .int)] [(2, 198, 1)] rfl) (it_app (lw_mem wsX3_tell_o1 [(1, 60, 1), (1, 64, 1), (1, 61, 3)] rfl) it_X30)
set_option maxRecDepth 20000 in
theorem it_X3_place : inT wsX3_place := it_cons (lw_mem [Cond.code yX3_place cX3_place 2 (some .int)] [(2, 215, 1)] rfl) (lw_mem [] [] rfl)
set_option maxRecDepth 20000 in
theorem it_X3_gatherWhoHas : inT wsX3_gatherWhoHas := it_cons (lw_mem [Cond.code yX3_gatherWhoHas cX3_gatherWhoHas 2 none] [(2, 219, 1)] rfl) (it_app (lw_mem wsX3_gatherWhoHas_o1 [(1, 68, 1), (1, 64, 1), (1, 66, 1), (1, 60, 2), (2, 212, 1), (1, 38, 1), (1, 3, 1), (2, 213, 2), (1, 4, 1)] rfl) (it_app (it_app it_X30 it_J7_fill_53178) it_X3_place))
set_option maxRecDepth 20000 in
theorem it_X3_closeReach : inT wsX3_closeReach := it_cons (lw_mem [Cond.code yX3_closeReach cX3_closeReach 3 none] [(2, 223, 1)] rfl) (it_app (lw_mem wsX3_closeReach_o1 [(1, 68, 2), (2, 224, 1), (2, 166, 1), (2, 165, 1), (1, 14, 1), (2, 226, 1), (1, 1, 1)] rfl) (it_app it_X30 it_X10_hasBit))
set_option maxRecDepth 20000 in
theorem it_X3_lookAt : inT wsX3_lookAt := it_cons (lw_mem [Cond.code yX3_lookAt cX3_lookAt 4 none] [(2, 211, 1)] rfl) (it_app (lw_mem wsX3_lookAt_o1 [(1, 66, 2), (1, 64, 1), (1, 60, 2), (1, 63, 1), (1, 62, 1), (2, 212, 1), (1, 38, 1), (1, 3, 1), (2, 213, 2), (1, 4, 1), (2, 216, 1), (2, 218, 1), (0, 2, 1), (2, 220, 1), (2, 222, 1), (0, 3, 1)] rfl) (it_app (it_app (it_app it_X30 it_J7_fill_53178) it_X3_place) (it_app it_X3_gatherWhoHas it_X3_closeReach)))
set_option maxRecDepth 20000 in
theorem it_X3_partOf : inT wsX3_partOf := it_cons (lw_mem [Cond.code yX3_partOf cX3_partOf 3 (some .int)] [(2, 231, 1)] rfl) (it_app (lw_mem wsX3_partOf_o1 [(1, 66, 1), (2, 213, 2), (1, 4, 1)] rfl) (it_app it_X30 it_X3_place))
set_option maxRecDepth 20000 in
theorem it_X3_leadingTo : inT wsX3_leadingTo := it_cons (lw_mem [Cond.code yX3_leadingTo cX3_leadingTo 4 (some .int)] [(3, 4, 1)] rfl) (it_app (lw_mem wsX3_leadingTo_o1 [(1, 69, 1), (2, 226, 1), (1, 1, 1)] rfl) (it_app it_X30 it_X10_hasBit))
set_option maxRecDepth 20000 in
theorem it_X3_along : inT wsX3_along := it_cons (lw_mem [Cond.code yX3_along cX3_along 11 (some .long)] [(3, 7, 1)] rfl) (it_app (lw_mem wsX3_along_o1 [(1, 68, 1), (2, 226, 1), (1, 1, 1), (3, 8, 1), (2, 229, 2), (1, 4, 1), (3, 5, 2)] rfl) (it_app (it_app it_X30 it_X10_hasBit) it_X3_partOf))
set_option maxRecDepth 20000 in
theorem it_X3_shareOf : inT wsX3_shareOf := it_cons (lw_mem [Cond.code yX3_shareOf cX3_shareOf 6 (some .int)] [(2, 239, 1)] rfl) (it_app (lw_mem wsX3_shareOf_o1 [(3, 0, 1), (3, 9, 3), (1, 15, 1), (3, 12, 1), (3, 1, 1), (3, 3, 1), (0, 4, 1), (1, 4, 1), (3, 5, 2)] rfl) (it_app (it_app it_X30 it_X3_leadingTo) it_X3_along))
set_option maxRecDepth 20000 in
theorem it_X4_init : inT wsX4_init := it_cons (lw_mem [Cond.code yX4_init cX4_init 1 none] [(2, 50, 1)] rfl) (it_app (lw_mem wsX4_init_o1 [(2, 51, 1), (1, 27, 2), (1, 53, 1), (2, 52, 3)] rfl) it_X40)
set_option maxRecDepth 20000 in
theorem it_X4_tell : inT wsX4_tell := it_cons (lw_mem [Cond.code yX4_tell cX4_tell 4 (some .int)] [(4, 93, 1)] rfl) (it_app (lw_mem wsX4_tell_o1 [(2, 52, 1), (2, 55, 1), (2, 53, 2)] rfl) it_X40)
set_option maxRecDepth 20000 in
theorem it_X4_peopleOn : inT wsX4_peopleOn := it_cons (lw_mem [Cond.code yX4_peopleOn cX4_peopleOn 4 (some .int)] [(4, 105, 1)] rfl) (it_app (lw_mem wsX4_peopleOn_o1 [(2, 55, 1), (2, 53, 2), (2, 52, 1)] rfl) it_X40)
set_option maxRecDepth 20000 in
theorem it_X5_init : inT wsX5_init := it_cons (lw_mem [Cond.code yX5_init cX5_init 2 none] [(2, 70, 1)] rfl) (it_app (lw_mem wsX5_init_o1 [(2, 71, 1), (1, 27, 2), (2, 79, 1), (2, 73, 1), (2, 72, 1)] rfl) it_X50)
set_option maxRecDepth 20000 in
theorem it_X5_lotOf : inT wsX5_lotOf := it_cons (lw_mem [Cond.code yX5_lotOf cX5_lotOf 5 (some .long)] [(4, 27, 1)] rfl) (it_app (lw_mem wsX5_lotOf_o1 [(2, 72, 1), (4, 28, 5)] rfl) it_X50)
set_option maxRecDepth 20000 in
theorem it_X5_drawLots : inT wsX5_drawLots := it_cons (lw_mem [Cond.code yX5_drawLots cX5_drawLots 4 none] [(4, 44, 1)] rfl) (it_app (lw_mem wsX5_drawLots_o1 [(2, 73, 1), (2, 226, 1), (1, 1, 1), (4, 46, 1), (4, 25, 2), (1, 12, 1), (2, 72, 1)] rfl) (it_app (it_app it_X50 it_X10_hasBit) it_X5_lotOf))
set_option maxRecDepth 20000 in
theorem it_X5_howManyAhead : inT wsX5_howManyAhead := it_cons (lw_mem [Cond.code yX5_howManyAhead cX5_howManyAhead 5 (some .int)] [(4, 50, 1)] rfl) (it_app (lw_mem wsX5_howManyAhead_o1 [(2, 73, 1), (2, 226, 1), (1, 1, 1)] rfl) (it_app it_X50 it_X10_hasBit))
set_option maxRecDepth 20000 in
theorem it_X6_init : inT wsX6_init := it_cons (lw_mem [Cond.code yX6_init cX6_init 1 none] [(2, 27, 1)] rfl) (it_app (lw_mem wsX6_init_o1 [(2, 28, 1), (1, 27, 2), (1, 53, 1), (2, 29, 4)] rfl) it_X60)
set_option maxRecDepth 20000 in
theorem it_X6_tell : inT wsX6_tell := it_cons (lw_mem [Cond.code yX6_tell cX6_tell 5 (some .int)] [(4, 62, 1)] rfl) (it_app (lw_mem wsX6_tell_o1 [(2, 29, 1), (2, 33, 1), (2, 30, 3)] rfl) it_X60)
set_option maxRecDepth 20000 in
theorem it_X6_firstOf : inT wsX6_firstOf := it_cons (lw_mem [Cond.code yX6_firstOf cX6_firstOf 4 (some .int)] [(4, 74, 1)] rfl) (it_app (lw_mem wsX6_firstOf_o1 [(2, 33, 1), (2, 29, 2)] rfl) it_X60)
set_option maxRecDepth 20000 in
theorem it_X6_compared : inT wsX6_compared := it_cons (lw_mem [Cond.code yX6_compared cX6_compared 5 (some .int)] [(4, 78, 1)] rfl) (it_app (lw_mem wsX6_compared_o1 [(2, 31, 1), (4, 79, 2), (1, 15, 1), (4, 81, 1), (2, 32, 1), (4, 82, 1), (4, 3, 1), (1, 20, 1)] rfl) (it_app it_X60 it_J6_bitCount_0f7a4))
set_option maxRecDepth 20000 in
theorem it_X6_worstOf : inT wsX6_worstOf := it_cons (lw_mem [Cond.code yX6_worstOf cX6_worstOf 5 (some .int)] [(4, 70, 1)] rfl) (it_app (lw_mem wsX6_worstOf_o1 [(2, 33, 1), (2, 29, 1), (4, 83, 3), (4, 71, 1), (4, 73, 1), (0, 18, 1), (1, 10, 1), (2, 30, 1), (4, 75, 1), (4, 77, 1), (0, 19, 1)] rfl) (it_app (it_app it_X60 it_X6_firstOf) it_X6_compared))
set_option maxRecDepth 20000 in
theorem it_X7_init : inT wsX7_init := it_cons (lw_mem [Cond.code yX7_init cX7_init 1 none] [(1, 128, 1)] rfl) (it_app (lw_mem wsX7_init_o1 [(1, 129, 1), (1, 27, 2), (1, 53, 1), (1, 130, 6)] rfl) it_X70)
set_option maxRecDepth 20000 in
theorem it_X7_isAhead : inT wsX7_isAhead := it_cons (lw_mem [Cond.code yX7_isAhead cX7_isAhead 3 (some .boolean)] [(3, 50, 1)] rfl) (it_app (lw_mem wsX7_isAhead_o1 [(1, 133, 2)] rfl) it_X70)
set_option maxRecDepth 20000 in
theorem it_X7_tell : inT wsX7_tell := it_cons (lw_mem [Cond.code yX7_tell cX7_tell 7 (some .int)] [(3, 46, 1)] rfl) (it_app (lw_mem wsX7_tell_o1 [(1, 130, 1), (1, 136, 1), (1, 131, 5), (3, 47, 1), (3, 49, 1), (0, 6, 1), (1, 6, 1)] rfl) (it_app it_X70 it_X7_isAhead))
set_option maxRecDepth 20000 in
theorem it_X7_isKnown : inT wsX7_isKnown := it_cons (lw_mem [Cond.code yX7_isKnown cX7_isKnown 4 (some .boolean)] [(3, 62, 1)] rfl) (it_app (lw_mem wsX7_isKnown_o1 [(1, 130, 1), (1, 134, 1)] rfl) it_X70)
set_option maxRecDepth 20000 in
theorem it_X7_ownerOf : inT wsX7_ownerOf := it_cons (lw_mem [Cond.code yX7_ownerOf cX7_ownerOf 8 (some .int)] [(3, 58, 1)] rfl) (it_app (lw_mem wsX7_ownerOf_o1 [(1, 136, 1), (1, 135, 1), (1, 133, 1), (1, 131, 2), (3, 59, 1), (3, 61, 1), (0, 7, 1), (1, 6, 1), (1, 134, 1)] rfl) (it_app it_X70 it_X7_isKnown))
set_option maxRecDepth 20000 in
theorem it_X7_notGood : inT wsX7_notGood := it_cons (lw_mem [Cond.code yX7_notGood cX7_notGood 8 (some .int)] [(3, 70, 1)] rfl) (it_app (lw_mem wsX7_notGood_o1 [(1, 136, 1), (1, 135, 1), (1, 131, 2), (3, 59, 1), (3, 61, 1), (0, 7, 1), (1, 6, 1)] rfl) (it_app it_X70 it_X7_isKnown))
set_option maxRecDepth 20000 in
theorem it_X8_init : inT wsX8_init := it_cons (lw_mem [Cond.code yX8_init cX8_init 1 none] [(1, 157, 1)] rfl) (it_app (lw_mem wsX8_init_o1 [(1, 158, 1), (1, 27, 2), (1, 53, 1), (1, 159, 4), (1, 165, 1)] rfl) it_X80)
set_option maxRecDepth 20000 in
theorem it_X8_tell : inT wsX8_tell := it_cons (lw_mem [Cond.code yX8_tell cX8_tell 5 (some .int)] [(3, 78, 1)] rfl) (it_app (lw_mem wsX8_tell_o1 [(1, 159, 1), (1, 163, 1), (1, 160, 3)] rfl) it_X80)
set_option maxRecDepth 20000 in
theorem it_X8_isKnown : inT wsX8_isKnown := it_cons (lw_mem [Cond.code yX8_isKnown cX8_isKnown 4 (some .boolean)] [(3, 90, 1)] rfl) (it_app (lw_mem wsX8_isKnown_o1 [(1, 159, 1), (1, 162, 1)] rfl) it_X80)
set_option maxRecDepth 20000 in
theorem it_X8_sumsOn : inT wsX8_sumsOn := it_cons (lw_mem [Cond.code yX8_sumsOn cX8_sumsOn 5 (some .int)] [(4, 122, 1)] rfl) (it_app (lw_mem wsX8_sumsOn_o1 [(1, 163, 1), (1, 160, 1), (3, 87, 1), (3, 89, 1), (0, 8, 1), (1, 7, 1)] rfl) (it_app it_X80 it_X8_isKnown))
set_option maxRecDepth 20000 in
theorem it_X8_isAhead : inT wsX8_isAhead := it_cons (lw_mem [Cond.code yX8_isAhead cX8_isAhead 4 (some .boolean)] [(3, 98, 1)] rfl) (it_app (lw_mem wsX8_isAhead_o1 [(1, 162, 1), (1, 161, 1), (1, 160, 1)] rfl) it_X80)
set_option maxRecDepth 20000 in
theorem it_X8_putBehind : inT wsX8_putBehind := it_cons (lw_mem [Cond.code yX8_putBehind cX8_putBehind 5 none] [(3, 94, 1)] rfl) (it_app (lw_mem wsX8_putBehind_o1 [(1, 165, 1), (3, 95, 1), (3, 97, 1), (0, 10, 1), (1, 7, 1)] rfl) (it_app it_X80 it_X8_isAhead))
set_option maxRecDepth 20000 in
theorem it_X8_putInOrder : inT wsX8_putInOrder := it_cons (lw_mem [Cond.code yX8_putInOrder cX8_putInOrder 6 (some .int)] [(3, 86, 1)] rfl) (it_app (lw_mem wsX8_putInOrder_o1 [(1, 163, 1), (3, 87, 1), (3, 89, 1), (0, 8, 1), (1, 7, 1), (3, 91, 1), (3, 93, 1), (0, 9, 1), (1, 160, 1)] rfl) (it_app (it_app it_X80 it_X8_isKnown) it_X8_putBehind))
set_option maxRecDepth 20000 in
theorem it_X8_paidTo : inT wsX8_paidTo := it_cons (lw_mem [Cond.code yX8_paidTo cX8_paidTo 5 (some .int)] [(3, 102, 1)] rfl) (it_app (lw_mem wsX8_paidTo_o1 [(1, 160, 1), (1, 165, 1), (3, 103, 2), (1, 15, 1), (3, 105, 1)] rfl) it_X80)
set_option maxRecDepth 20000 in
theorem it_X9_init : inT wsX9_init := it_cons (lw_mem [Cond.code yX9_init cX9_init 1 none] [(1, 33, 1)] rfl) (it_app (lw_mem wsX9_init_o1 [(1, 34, 1), (1, 27, 2), (1, 35, 1), (1, 53, 1), (1, 40, 1), (1, 42, 1), (1, 44, 1), (1, 37, 2), (1, 3, 1)] rfl) (it_app it_X90 it_J7_fill_53178))
set_option maxRecDepth 20000 in
theorem it_X9_isMissing : inT wsX9_isMissing := it_cons (lw_mem [Cond.code yX9_isMissing cX9_isMissing 2 (some .boolean)] [(2, 151, 1)] rfl) (it_app (lw_mem wsX9_isMissing_o1 [(1, 44, 1)] rfl) it_X90)
set_option maxRecDepth 20000 in
theorem it_X9_hasPlaces : inT wsX9_hasPlaces := it_cons (lw_mem [Cond.code yX9_hasPlaces cX9_hasPlaces 4 (some .boolean)] [(2, 155, 1)] rfl) (it_app (lw_mem wsX9_hasPlaces_o1 [(1, 44, 1)] rfl) it_X90)
set_option maxRecDepth 20000 in
theorem it_X9_lay : inT wsX9_lay := it_cons (lw_mem [Cond.code yX9_lay cX9_lay 4 none] [(2, 139, 1)] rfl) (it_app (lw_mem wsX9_lay_o1 [(1, 40, 1), (1, 42, 1), (1, 44, 1), (1, 37, 2), (1, 3, 1)] rfl) (it_app it_X90 it_J7_fill_53178))
set_option maxRecDepth 20000 in
theorem it_X9_put : inT wsX9_put := it_cons (lw_mem [Cond.code yX9_put cX9_put 5 (some .int)] [(2, 159, 1)] rfl) (it_app (lw_mem wsX9_put_o1 [(1, 42, 1), (1, 40, 1)] rfl) it_X90)
set_option maxRecDepth 20000 in
theorem it_X9_takeAway : inT wsX9_takeAway := it_cons (lw_mem [Cond.code yX9_takeAway cX9_takeAway 2 none] [(2, 174, 1)] rfl) (it_app (lw_mem wsX9_takeAway_o1 [(1, 44, 1)] rfl) it_X90)
set_option maxRecDepth 20000 in
theorem it_X9_howMany : inT wsX9_howMany := it_cons (lw_mem [Cond.code yX9_howMany cX9_howMany 3 (some .int)] [(4, 189, 1)] rfl) (it_app (lw_mem wsX9_howMany_o1 [(4, 190, 1), (2, 149, 2), (1, 2, 1), (1, 44, 1)] rfl) (it_app it_X90 it_X9_isMissing))
set_option maxRecDepth 20000 in
theorem it_J9_abs_0f7a4 : inT wsJ9_abs_0f7a4 := it_cons (lw_mem [Cond.code yJ9_abs_0f7a4 cJ9_abs_0f7a4 1 (some .int)] [(4, 81, 1)] rfl) (lw_mem [] [] rfl)
set_option maxRecDepth 20000 in
theorem it_J9_max_7cf53 : inT wsJ9_max_7cf53 := it_cons (lw_mem [Cond.code yJ9_max_7cf53 cJ9_max_7cf53 2 (some .int)] [(4, 85, 1)] rfl) (lw_mem [] [] rfl)
set_option maxRecDepth 20000 in
theorem it_J9_min_7cf53 : inT wsJ9_min_7cf53 := it_cons (lw_mem [Cond.code yJ9_min_7cf53 cJ9_min_7cf53 2 (some .int)] [(3, 105, 1)] rfl) (lw_mem [] [] rfl)
set_option maxRecDepth 20000 in
theorem it_J9_min_f86c9 : inT wsJ9_min_f86c9 := it_cons (lw_mem [Cond.code yJ9_min_f86c9 cJ9_min_f86c9 4 (some .long)] [(3, 12, 1)] rfl) (lw_mem [] [] rfl)
-- it_X0_init it_X0_tell it_X2_lineFor it_X0_firstWaking it_J7_fill_53178 it_X1_init it_X1_tell it_X1_setIn it_X1_setInRooms it_X1_worthsOf it_J6_bitCount_0f7a4 it_X1_fits it_X2_init it_X2_take it_X2_isLetter it_J0_isLatin1_aae02 it_J3_checkIndex_8e157 it_J0_checkIndex_df160 it_J1_charAt_3b067 it_J2_length_9d52b it_J2_checkIndex_2214a it_J2_getChar_3b067 it_J2_charAt_3b067 it_J0_charAt_5068e it_X2_isWord it_X2_readName it_X2_isFigure it_X2_readNumber it_X2_next it_X2_readAct it_X2_readPart it_X2_keepDraft it_X2_read it_X3_init it_X3_tell it_X3_place it_X3_gatherWhoHas it_X3_closeReach it_X3_lookAt it_X3_partOf it_X3_leadingTo it_X3_along it_X3_shareOf it_X4_init it_X4_tell it_X4_peopleOn it_X5_init it_X5_lotOf it_X5_drawLots it_X5_howManyAhead it_X6_init it_X6_tell it_X6_firstOf it_X6_compared it_X6_worstOf it_X7_init it_X7_isAhead it_X7_tell it_X7_isKnown it_X7_ownerOf it_X7_notGood it_X8_init it_X8_tell it_X8_isKnown it_X8_sumsOn it_X8_isAhead it_X8_putBehind it_X8_putInOrder it_X8_paidTo it_X9_init it_X9_isMissing it_X9_hasPlaces it_X9_lay it_X9_put it_X9_takeAway it_X9_howMany it_J9_abs_0f7a4 it_J9_max_7cf53 it_J9_min_7cf53 it_J9_min_f86c9
end

section
set_option maxRecDepth 20000 in
theorem it_X100 : inT wsX100 := lw_mem _ [(2, 94, 1), (2, 96, 1), (2, 98, 1), (2, 100, 1), (2, 102, 1), (2, 104, 1), (2, 106, 1), (2, 108, 1), (2, 110, 1), (2, 112, 1), (2, 114, 1), (2, 116, 1), (2, 118, 1), (2, 120, 1)] rfl
set_option maxRecDepth 20000 in
theorem it_X10_init : inT wsX10_init := it_cons (lw_mem [Cond.code yX10_init cX10_init 2 none] [(1, 25, 1)] rfl) (it_app (it_app (it_app (lw_mem wsX10_init_o1 [(1, 26, 1), (1, 29, 2), (1, 2, 1), (2, 80, 1), (1, 54, 2), (1, 4, 1), (2, 81, 1), (1, 90, 2), (1, 5, 1), (2, 82, 1), (1, 124, 2), (1, 6, 1), (2, 83, 1), (1, 153, 2), (1, 7, 1), (2, 84, 1), (1, 180, 2), (1, 8, 1)] rfl) (lw_mem wsX10_init_o2 [(2, 85, 1), (1, 237, 2), (1, 9, 1), (2, 86, 1), (2, 23, 2), (1, 10, 1), (2, 88, 1), (2, 46, 2), (1, 11, 1), (2, 89, 2), (2, 66, 2), (1, 12, 1), (2, 87, 1), (1, 31, 2), (1, 57, 1), (1, 92, 2), (1, 127, 1)] rfl)) (lw_mem wsX10_init_o3 [(1, 156, 1), (1, 183, 1), (2, 0, 1), (2, 26, 1), (2, 49, 1), (2, 68, 2)] rfl)) (it_app (it_app (it_app (it_app (it_app it_X90 it_X100) it_X30) (it_app (it_app it_X10 it_X70) it_X80)) (it_app (it_app (it_app it_X20 it_X00) it_X60) (it_app it_X40 it_X50))) (it_app (it_app (it_app (it_app it_X9_init it_X3_init) it_X1_init) (it_app it_X7_init it_X8_init)) (it_app (it_app (it_app it_X2_init it_X0_init) it_X6_init) (it_app it_X4_init it_X5_init)))))
set_option maxRecDepth 20000 in
theorem it_X10_isBelow : inT wsX10_isBelow := it_cons (lw_mem [Cond.code yX10_isBelow cX10_isBelow 2 (some .boolean)] [(2, 129, 1)] rfl) (lw_mem [] [] rfl)
set_option maxRecDepth 20000 in
theorem it_X10_finding : inT wsX10_finding := it_cons (lw_mem [Cond.code yX10_finding cX10_finding 2 (some .int)] [(2, 134, 1)] rfl) (it_app (lw_mem wsX10_finding_o1 [(2, 93, 1), (2, 135, 1)] rfl) it_X100)
set_option maxRecDepth 20000 in
theorem it_X10_passed : inT wsX10_passed := it_cons (lw_mem [Cond.code yX10_passed cX10_passed 2 (some .int)] [(2, 143, 1)] rfl) (it_app (lw_mem wsX10_passed_o1 [(2, 93, 1)] rfl) it_X100)
set_option maxRecDepth 20000 in
theorem it_X10_sheet : inT wsX10_sheet := it_cons (lw_mem [Cond.code yX10_sheet cX10_sheet 4 (some .int)] [(2, 126, 1)] rfl) (it_app (lw_mem wsX10_sheet_o1 [(2, 130, 1), (2, 80, 1), (2, 127, 2), (1, 1, 1), (2, 131, 1), (2, 133, 1), (0, 0, 1), (2, 136, 3), (1, 2, 1), (2, 140, 1), (2, 142, 1), (0, 1, 1)] rfl) (it_app (it_app (it_app it_X100 it_X90) it_X10_isBelow) (it_app (it_app it_X10_finding it_X9_lay) it_X10_passed)))
set_option maxRecDepth 20000 in
theorem it_X10_set : inT wsX10_set := it_cons (lw_mem [Cond.code yX10_set cX10_set 4 (some .int)] [(2, 147, 1)] rfl) (it_app (lw_mem wsX10_set_o1 [(2, 130, 1), (2, 80, 1), (2, 127, 2), (1, 1, 1), (2, 148, 3), (1, 2, 1), (2, 131, 1), (2, 133, 1), (0, 0, 1), (2, 152, 3), (2, 156, 3), (2, 140, 1), (2, 142, 1), (0, 1, 1)] rfl) (it_app (it_app (it_app it_X100 it_X90) (it_app it_X10_isBelow it_X9_isMissing)) (it_app (it_app it_X10_finding it_X9_hasPlaces) (it_app it_X9_put it_X10_passed))))
set_option maxRecDepth 20000 in
theorem it_X10_copy : inT wsX10_copy := it_cons (lw_mem [Cond.code yX10_copy cX10_copy 6 (some .int)] [(2, 163, 1)] rfl) (it_app (lw_mem wsX10_copy_o1 [(2, 130, 1), (2, 80, 1), (1, 43, 1), (1, 41, 1), (2, 164, 1), (2, 166, 1), (2, 165, 1), (1, 14, 1), (2, 127, 2), (1, 1, 1), (2, 148, 3), (1, 2, 1), (2, 131, 1), (2, 133, 1), (0, 0, 1), (2, 152, 3), (2, 140, 1), (2, 142, 1), (0, 1, 1)] rfl) (it_app (it_app (it_app it_X100 it_X90) (it_app it_X10_isBelow it_X9_isMissing)) (it_app (it_app it_X10_finding it_X9_hasPlaces) it_X10_passed)))
set_option maxRecDepth 20000 in
theorem it_X10_drop : inT wsX10_drop := it_cons (lw_mem [Cond.code yX10_drop cX10_drop 3 (some .int)] [(2, 170, 1)] rfl) (it_app (lw_mem wsX10_drop_o1 [(2, 130, 1), (2, 80, 1), (1, 45, 1), (2, 127, 2), (1, 1, 1), (2, 148, 3), (1, 2, 1), (2, 131, 1), (2, 133, 1), (0, 0, 1), (2, 171, 3), (2, 140, 1), (2, 142, 1), (0, 1, 1)] rfl) (it_app (it_app (it_app it_X100 it_X90) (it_app it_X10_isBelow it_X9_isMissing)) (it_app (it_app it_X10_finding it_X9_takeAway) it_X10_passed)))
set_option maxRecDepth 20000 in
theorem it_X10_isOwner : inT wsX10_isOwner := it_cons (lw_mem [Cond.code yX10_isOwner cX10_isOwner 1 (some .boolean)] [(2, 184, 1)] rfl) (it_app (lw_mem wsX10_isOwner_o1 [(2, 127, 2), (1, 1, 1)] rfl) it_X10_isBelow)
set_option maxRecDepth 20000 in
theorem it_X10_isPerson : inT wsX10_isPerson := it_cons (lw_mem [Cond.code yX10_isPerson cX10_isPerson 1 (some .boolean)] [(2, 187, 1)] rfl) (it_app (lw_mem wsX10_isPerson_o1 [(2, 127, 2), (1, 1, 1)] rfl) it_X10_isBelow)
set_option maxRecDepth 20000 in
theorem it_X10_isPair : inT wsX10_isPair := it_cons (lw_mem [Cond.code yX10_isPair cX10_isPair 2 (some .boolean)] [(2, 181, 1)] rfl) (it_app (lw_mem wsX10_isPair_o1 [(2, 182, 2), (1, 1, 1), (2, 185, 2)] rfl) (it_app it_X10_isOwner it_X10_isPerson))
set_option maxRecDepth 20000 in
theorem it_X10_isFrom : inT wsX10_isFrom := it_cons (lw_mem [Cond.code yX10_isFrom cX10_isFrom 3 (some .boolean)] [(2, 190, 1)] rfl) (lw_mem [] [] rfl)
set_option maxRecDepth 20000 in
theorem it_X10_isDay : inT wsX10_isDay := it_cons (lw_mem [Cond.code yX10_isDay cX10_isDay 1 (some .boolean)] [(2, 193, 1)] rfl) (it_app (lw_mem wsX10_isDay_o1 [(2, 127, 2), (1, 1, 1)] rfl) it_X10_isBelow)
set_option maxRecDepth 20000 in
theorem it_X10_hold : inT wsX10_hold := it_cons (lw_mem [Cond.code yX10_hold cX10_hold 5 (some .int)] [(2, 178, 1)] rfl) (it_app (lw_mem wsX10_hold_o1 [(2, 130, 1), (2, 81, 1), (1, 65, 1), (2, 194, 1), (2, 179, 2), (1, 1, 1), (2, 188, 2), (2, 191, 2), (2, 195, 3), (1, 4, 1)] rfl) (it_app (it_app (it_app it_X100 it_X30) it_X10_isPair) (it_app (it_app it_X10_isFrom it_X10_isDay) it_X3_tell)))
set_option maxRecDepth 20000 in
theorem it_X10_holds : inT wsX10_holds := it_cons (lw_mem [Cond.code yX10_holds cX10_holds 8 (some .int)] [(2, 202, 1)] rfl) (it_app (lw_mem wsX10_holds_o1 [(2, 130, 1), (2, 80, 1), (1, 41, 1), (2, 127, 2), (1, 1, 1), (2, 188, 2), (2, 148, 3), (1, 2, 1), (2, 131, 1), (2, 133, 1), (0, 0, 1), (2, 152, 3), (2, 203, 1), (2, 176, 2), (2, 140, 1), (2, 142, 1), (0, 1, 1)] rfl) (it_app (it_app (it_app (it_app it_X100 it_X90) it_X30) (it_app it_X10_isBelow it_X10_isFrom)) (it_app (it_app (it_app it_X9_isMissing it_X10_finding) it_X9_hasPlaces) (it_app it_X10_hold it_X10_passed))))
set_option maxRecDepth 20000 in
theorem it_X10_percent : inT wsX10_percent := it_cons (lw_mem [Cond.code yX10_percent cX10_percent 4 (some .int)] [(2, 207, 1)] rfl) (it_app (lw_mem wsX10_percent_o1 [(2, 130, 1), (2, 81, 1), (2, 179, 2), (1, 1, 1), (2, 191, 2), (2, 208, 3), (1, 4, 1), (2, 228, 3)] rfl) (it_app (it_app (it_app it_X100 it_X30) it_X10_isPair) (it_app (it_app it_X10_isDay it_X3_lookAt) it_X3_partOf)))
set_option maxRecDepth 20000 in
theorem it_X10_share : inT wsX10_share := it_cons (lw_mem [Cond.code yX10_share cX10_share 4 (some .int)] [(2, 235, 1)] rfl) (it_app (lw_mem wsX10_share_o1 [(2, 130, 1), (2, 81, 1), (2, 185, 2), (1, 1, 1), (2, 182, 2), (2, 191, 2), (2, 208, 3), (1, 4, 1), (2, 236, 3)] rfl) (it_app (it_app (it_app it_X100 it_X30) (it_app it_X10_isPerson it_X10_isOwner)) (it_app (it_app it_X10_isDay it_X3_lookAt) it_X3_shareOf)))
set_option maxRecDepth 20000 in
theorem it_X10_truly : inT wsX10_truly := it_cons (lw_mem [Cond.code yX10_truly cX10_truly 7 (some .int)] [(3, 16, 1)] rfl) (it_app (lw_mem wsX10_truly_o1 [(2, 130, 1), (2, 81, 1), (3, 17, 1), (2, 182, 2), (1, 1, 1), (2, 191, 2), (2, 208, 3), (1, 4, 1), (2, 236, 3)] rfl) (it_app (it_app (it_app it_X100 it_X30) it_X10_isOwner) (it_app (it_app it_X10_isDay it_X3_lookAt) it_X3_shareOf)))
set_option maxRecDepth 20000 in
theorem it_X10_rings : inT wsX10_rings := it_cons (lw_mem [Cond.code yX10_rings cX10_rings 4 (some .int)] [(3, 21, 1)] rfl) (it_app (lw_mem wsX10_rings_o1 [(2, 130, 1), (2, 81, 1), (1, 70, 1), (2, 191, 2), (1, 1, 1), (2, 208, 3), (1, 4, 1), (2, 226, 1), (3, 22, 1)] rfl) (it_app (it_app (it_app it_X100 it_X30) it_X10_isDay) (it_app it_X3_lookAt it_X10_hasBit)))
set_option maxRecDepth 20000 in
theorem it_X10_crate : inT wsX10_crate := it_cons (lw_mem [Cond.code yX10_crate cX10_crate 3 (some .int)] [(3, 26, 1)] rfl) (it_app (lw_mem wsX10_crate_o1 [(3, 27, 1), (2, 130, 1), (2, 82, 1), (1, 106, 1), (2, 194, 1), (2, 182, 2), (1, 1, 1), (2, 188, 2), (3, 28, 3), (1, 5, 1)] rfl) (it_app (it_app (it_app it_X100 it_X10) it_X10_isOwner) (it_app it_X10_isFrom it_X1_tell)))
set_option maxRecDepth 20000 in
theorem it_X10_isCrate : inT wsX10_isCrate := it_cons (lw_mem [Cond.code yX10_isCrate cX10_isCrate 2 (some .boolean)] [(3, 39, 1)] rfl) (it_app (lw_mem wsX10_isCrate_o1 [(2, 82, 1), (1, 106, 1), (2, 127, 2), (1, 1, 1)] rfl) (it_app (it_app it_X100 it_X10) it_X10_isBelow))
set_option maxRecDepth 20000 in
theorem it_X10_areDays : inT wsX10_areDays := it_cons (lw_mem [Cond.code yX10_areDays cX10_areDays 2 (some .boolean)] [(3, 42, 1)] rfl) (it_app (lw_mem wsX10_areDays_o1 [(2, 191, 2), (1, 1, 1)] rfl) it_X10_isDay)
set_option maxRecDepth 20000 in
theorem it_X10_paper : inT wsX10_paper := it_cons (lw_mem [Cond.code yX10_paper cX10_paper 6 (some .int)] [(3, 35, 1)] rfl) (it_app (lw_mem wsX10_paper_o1 [(2, 130, 1), (2, 83, 1), (1, 137, 1), (2, 194, 1), (3, 36, 1), (3, 38, 1), (0, 5, 1), (1, 1, 1), (2, 182, 2), (3, 40, 2), (3, 43, 3), (1, 6, 1)] rfl) (it_app (it_app (it_app it_X100 it_X70) (it_app it_X10 it_X10_isCrate)) (it_app (it_app it_X10_isOwner it_X10_areDays) it_X7_tell)))
set_option maxRecDepth 20000 in
theorem it_X10_owner : inT wsX10_owner := it_cons (lw_mem [Cond.code yX10_owner cX10_owner 4 (some .int)] [(3, 54, 1)] rfl) (it_app (lw_mem wsX10_owner_o1 [(2, 130, 1), (2, 83, 1), (2, 82, 1), (1, 100, 1), (3, 36, 1), (3, 38, 1), (0, 5, 1), (1, 1, 1), (2, 191, 2), (3, 55, 3), (1, 6, 1)] rfl) (it_app (it_app (it_app it_X100 it_X10) it_X70) (it_app (it_app it_X10_isCrate it_X10_isDay) it_X7_ownerOf)))
set_option maxRecDepth 20000 in
theorem it_X10_quarrels : inT wsX10_quarrels := it_cons (lw_mem [Cond.code yX10_quarrels cX10_quarrels 3 (some .int)] [(3, 66, 1)] rfl) (it_app (lw_mem wsX10_quarrels_o1 [(2, 130, 1), (2, 83, 1), (2, 82, 1), (1, 100, 1), (3, 36, 1), (3, 38, 1), (0, 5, 1), (1, 1, 1), (2, 191, 2), (3, 67, 3), (1, 6, 1)] rfl) (it_app (it_app (it_app it_X100 it_X10) it_X70) (it_app (it_app it_X10_isCrate it_X10_isDay) it_X7_notGood)))
set_option maxRecDepth 20000 in
theorem it_X10_pledge : inT wsX10_pledge := it_cons (lw_mem [Cond.code yX10_pledge cX10_pledge 6 (some .int)] [(3, 74, 1)] rfl) (it_app (lw_mem wsX10_pledge_o1 [(3, 27, 1), (2, 130, 1), (2, 84, 1), (1, 164, 1), (2, 194, 1), (3, 36, 1), (3, 38, 1), (0, 5, 1), (1, 1, 1), (2, 185, 2), (2, 188, 2), (3, 40, 2), (3, 75, 3), (1, 7, 1)] rfl) (it_app (it_app (it_app it_X100 it_X80) (it_app it_X10 it_X10_isCrate)) (it_app (it_app it_X10_isPerson it_X10_isFrom) (it_app it_X10_areDays it_X8_tell))))
set_option maxRecDepth 20000 in
theorem it_X10_rank : inT wsX10_rank := it_cons (lw_mem [Cond.code yX10_rank cX10_rank 7 (some .int)] [(3, 82, 1)] rfl) (it_app (lw_mem wsX10_rank_o1 [(2, 130, 1), (2, 84, 1), (3, 17, 1), (1, 166, 1), (2, 82, 1), (1, 102, 1), (3, 36, 1), (3, 38, 1), (0, 5, 1), (1, 1, 1), (2, 127, 2), (2, 191, 2), (3, 83, 3), (1, 7, 1), (3, 99, 3)] rfl) (it_app (it_app (it_app it_X100 it_X80) (it_app it_X10 it_X10_isCrate)) (it_app (it_app it_X10_isDay it_X10_isBelow) (it_app it_X8_putInOrder it_X8_paidTo))))
set_option maxRecDepth 20000 in
theorem it_X10_feed : inT wsX10_feed := it_cons (lw_mem [Cond.code yX10_feed cX10_feed 5 (some .int)] [(3, 109, 1)] rfl) (it_app (lw_mem wsX10_feed_o1 [(2, 130, 1), (2, 85, 1), (1, 188, 1), (2, 194, 1), (2, 188, 2), (1, 1, 1), (3, 110, 3), (1, 8, 1)] rfl) (it_app (it_app it_X100 it_X20) (it_app it_X10_isFrom it_X2_take)))
set_option maxRecDepth 20000 in
theorem it_X10_duties : inT wsX10_duties := it_cons (lw_mem [Cond.code yX10_duties cX10_duties 1 (some .int)] [(3, 117, 1)] rfl) (it_app (lw_mem wsX10_duties_o1 [(2, 85, 1), (3, 118, 3), (1, 8, 1)] rfl) (it_app (it_app it_X100 it_X20) it_X2_read))
set_option maxRecDepth 20000 in
theorem it_X10_fault : inT wsX10_fault := it_cons (lw_mem [Cond.code yX10_fault cX10_fault 1 (some .int)] [(3, 202, 1)] rfl) (it_app (lw_mem wsX10_fault_o1 [(2, 85, 1), (1, 190, 1)] rfl) (it_app it_X100 it_X20))
set_option maxRecDepth 20000 in
theorem it_X10_act : inT wsX10_act := it_cons (lw_mem [Cond.code yX10_act cX10_act 5 (some .int)] [(3, 206, 1)] rfl) (it_app (lw_mem wsX10_act_o1 [(2, 130, 1), (2, 86, 1), (2, 11, 1), (2, 194, 1), (3, 36, 1), (3, 38, 1), (0, 5, 1), (1, 1, 1), (2, 127, 2), (2, 191, 2), (2, 188, 2), (3, 207, 3), (1, 9, 1)] rfl) (it_app (it_app (it_app it_X100 it_X00) (it_app it_X10 it_X10_isCrate)) (it_app (it_app it_X10_isBelow it_X10_isDay) (it_app it_X10_isFrom it_X0_tell))))
set_option maxRecDepth 20000 in
theorem it_X10_duty : inT wsX10_duty := it_cons (lw_mem [Cond.code yX10_duty cX10_duty 5 (some .int)] [(3, 214, 1)] rfl) (it_app (lw_mem wsX10_duty_o1 [(2, 130, 1), (2, 86, 1), (2, 85, 1), (2, 5, 1), (2, 9, 1), (3, 17, 1), (2, 82, 1), (1, 102, 1), (1, 194, 1), (2, 7, 1), (3, 36, 1), (3, 38, 1), (0, 5, 1), (1, 1, 1), (2, 127, 2), (3, 215, 3), (1, 9, 1), (3, 220, 1), (1, 8, 1), (3, 223, 1)] rfl) (it_app (it_app (it_app it_X100 it_X00) (it_app it_X10 it_X20)) (it_app (it_app it_X10_isCrate it_X10_isBelow) (it_app it_X0_firstWaking it_X2_lineFor))))
set_option maxRecDepth 20000 in
theorem it_X10_room : inT wsX10_room := it_cons (lw_mem [Cond.code yX10_room cX10_room 6 (some .int)] [(3, 227, 1)] rfl) (it_app (lw_mem wsX10_room_o1 [(3, 228, 1), (2, 130, 1), (2, 82, 1), (1, 108, 1), (1, 110, 1), (2, 127, 2), (1, 1, 1), (2, 188, 2)] rfl) (it_app (it_app it_X100 it_X10) (it_app it_X10_isBelow it_X10_isFrom)))
set_option maxRecDepth 20000 in
theorem it_X10_move : inT wsX10_move := it_cons (lw_mem [Cond.code yX10_move cX10_move 4 (some .int)] [(3, 232, 1)] rfl) (it_app (lw_mem wsX10_move_o1 [(3, 17, 1), (2, 130, 1), (2, 82, 1), (1, 104, 1), (3, 233, 1), (2, 194, 1), (3, 36, 1), (3, 38, 1), (0, 5, 1), (1, 1, 1), (2, 127, 2), (3, 234, 3), (1, 5, 1)] rfl) (it_app (it_app (it_app it_X100 it_X10) it_X10_isCrate) (it_app it_X10_isBelow it_X1_fits)))
set_option maxRecDepth 20000 in
theorem it_X10_inside : inT wsX10_inside := it_cons (lw_mem [Cond.code yX10_inside cX10_inside 4 (some .int)] [(4, 16, 1)] rfl) (it_app (lw_mem wsX10_inside_o1 [(2, 130, 1), (2, 82, 1), (2, 127, 2), (1, 1, 1), (4, 17, 1), (3, 239, 1), (4, 0, 1), (1, 5, 1), (4, 18, 1), (4, 3, 1), (1, 20, 1), (4, 19, 1), (4, 9, 2)] rfl) (it_app (it_app (it_app it_X100 it_X10) it_X10_isBelow) (it_app (it_app it_X1_setIn it_J6_bitCount_0f7a4) it_X1_worthsOf)))
set_option maxRecDepth 20000 in
theorem it_X10_lot : inT wsX10_lot := it_cons (lw_mem [Cond.code yX10_lot cX10_lot 4 (some .int)] [(4, 23, 1)] rfl) (it_app (lw_mem wsX10_lot_o1 [(3, 228, 1), (2, 130, 1), (2, 87, 1), (2, 127, 2), (1, 1, 1), (2, 191, 2), (2, 188, 2), (4, 24, 3), (1, 12, 1)] rfl) (it_app (it_app (it_app it_X100 it_X50) it_X10_isBelow) (it_app (it_app it_X10_isDay it_X10_isFrom) it_X5_lotOf)))
set_option maxRecDepth 20000 in
theorem it_X10_drawn : inT wsX10_drawn := it_cons (lw_mem [Cond.code yX10_drawn cX10_drawn 6 (some .int)] [(4, 36, 1)] rfl) (it_app (lw_mem wsX10_drawn_o1 [(2, 130, 1), (2, 82, 1), (2, 87, 1), (2, 191, 2), (1, 1, 1), (2, 188, 2), (4, 37, 3), (1, 5, 1), (4, 41, 3), (1, 12, 1), (2, 226, 1), (3, 22, 1), (4, 47, 3)] rfl) (it_app (it_app (it_app (it_app it_X100 it_X10) it_X50) (it_app it_X10_isDay it_X10_isFrom)) (it_app (it_app it_X1_setInRooms it_X5_drawLots) (it_app it_X10_hasBit it_X5_howManyAhead))))
set_option maxRecDepth 20000 in
theorem it_X10_often : inT wsX10_often := it_cons (lw_mem [Cond.code yX10_often cX10_often 8 (some .int)] [(4, 54, 1)] rfl) (it_app (lw_mem wsX10_often_o1 [(2, 130, 1), (2, 82, 1), (2, 87, 1), (3, 36, 1), (3, 38, 1), (0, 5, 1), (1, 1, 1), (3, 40, 2), (2, 188, 2), (4, 37, 3), (1, 5, 1), (3, 22, 1), (2, 226, 1), (4, 41, 3), (1, 12, 1), (4, 47, 3)] rfl) (it_app (it_app (it_app (it_app it_X100 it_X10) it_X50) (it_app it_X10_isCrate it_X10_areDays)) (it_app (it_app (it_app it_X10_isFrom it_X1_setInRooms) it_X10_hasBit) (it_app it_X5_drawLots it_X5_howManyAhead))))
set_option maxRecDepth 20000 in
theorem it_X10_opened : inT wsX10_opened := it_cons (lw_mem [Cond.code yX10_opened cX10_opened 5 (some .int)] [(4, 58, 1)] rfl) (it_app (lw_mem wsX10_opened_o1 [(3, 27, 1), (2, 130, 1), (2, 88, 1), (2, 34, 1), (2, 194, 1), (3, 36, 1), (3, 38, 1), (0, 5, 1), (1, 1, 1), (2, 191, 2), (2, 188, 2), (4, 59, 3), (1, 10, 1)] rfl) (it_app (it_app (it_app it_X100 it_X60) (it_app it_X10 it_X10_isCrate)) (it_app (it_app it_X10_isDay it_X10_isFrom) it_X6_tell)))
set_option maxRecDepth 20000 in
theorem it_X10_verdict : inT wsX10_verdict := it_cons (lw_mem [Cond.code yX10_verdict cX10_verdict 2 (some .int)] [(4, 66, 1)] rfl) (it_app (lw_mem wsX10_verdict_o1 [(2, 130, 1), (2, 88, 1), (3, 36, 1), (3, 38, 1), (0, 5, 1), (1, 1, 1), (4, 67, 3), (1, 10, 1)] rfl) (it_app (it_app (it_app it_X100 it_X10) it_X60) (it_app it_X10_isCrate it_X6_worstOf)))
set_option maxRecDepth 20000 in
theorem it_X10_list : inT wsX10_list := it_cons (lw_mem [Cond.code yX10_list cX10_list 4 (some .int)] [(4, 89, 1)] rfl) (it_app (lw_mem wsX10_list_o1 [(2, 130, 1), (2, 89, 1), (2, 56, 1), (2, 194, 1), (2, 185, 2), (1, 1, 1), (3, 40, 2), (4, 90, 3), (1, 11, 1)] rfl) (it_app (it_app (it_app it_X100 it_X40) it_X10_isPerson) (it_app it_X10_areDays it_X4_tell)))
set_option maxRecDepth 20000 in
theorem it_X10_isBarred : inT wsX10_isBarred := it_cons (lw_mem [Cond.code yX10_isBarred cX10_isBarred 8 (some .boolean)] [(4, 101, 1)] rfl) (it_app (lw_mem wsX10_isBarred_o1 [(2, 89, 1), (2, 83, 1), (2, 82, 1), (1, 100, 1), (2, 81, 1), (4, 106, 1), (4, 102, 3), (1, 11, 1), (3, 55, 3), (1, 6, 1), (2, 208, 3), (1, 4, 1), (2, 226, 1), (1, 1, 1), (3, 22, 1), (2, 236, 3)] rfl) (it_app (it_app (it_app (it_app it_X100 it_X10) it_X40) (it_app it_X70 it_X30)) (it_app (it_app (it_app it_X4_peopleOn it_X7_ownerOf) it_X3_lookAt) (it_app it_X10_hasBit it_X3_shareOf))))
set_option maxRecDepth 20000 in
theorem it_X10_barred : inT wsX10_barred := it_cons (lw_mem [Cond.code yX10_barred cX10_barred 3 (some .int)] [(4, 97, 1)] rfl) (it_app (lw_mem wsX10_barred_o1 [(2, 130, 1), (3, 36, 1), (3, 38, 1), (0, 5, 1), (1, 1, 1), (2, 191, 2), (4, 98, 1), (4, 100, 1), (0, 20, 1)] rfl) (it_app (it_app (it_app it_X100 it_X10) (it_app it_X40 it_X70)) (it_app (it_app it_X30 it_X10_isCrate) (it_app it_X10_isDay it_X10_isBarred))))
set_option maxRecDepth 20000 in
theorem it_X10_day : inT wsX10_day := it_cons (lw_mem [Cond.code yX10_day cX10_day 3 (some .int)] [(4, 110, 1)] rfl) (it_app (lw_mem wsX10_day_o1 [(2, 130, 1), (2, 92, 1), (2, 191, 2), (1, 1, 1)] rfl) (it_app it_X100 it_X10_isDay))
set_option maxRecDepth 20000 in
theorem it_X10_kindToday : inT wsX10_kindToday := it_cons (lw_mem [Cond.code yX10_kindToday cX10_kindToday 3 (some .int)] [(4, 118, 1)] rfl) (it_app (lw_mem wsX10_kindToday_o1 [(2, 92, 1), (2, 84, 1), (2, 82, 1), (1, 102, 1), (4, 98, 1), (4, 100, 1), (0, 20, 1), (1, 1, 1), (4, 119, 3), (1, 7, 1)] rfl) (it_app (it_app (it_app it_X100 it_X10) (it_app it_X40 it_X70)) (it_app (it_app it_X30 it_X80) (it_app it_X10_isBarred it_X8_sumsOn))))
set_option maxRecDepth 20000 in
theorem it_X10_kind : inT wsX10_kind := it_cons (lw_mem [Cond.code yX10_kind cX10_kind 2 (some .int)] [(4, 114, 1)] rfl) (it_app (lw_mem wsX10_kind_o1 [(2, 130, 1), (3, 36, 1), (3, 38, 1), (0, 5, 1), (1, 1, 1), (4, 115, 1), (4, 117, 1), (0, 21, 1)] rfl) (it_app (it_app (it_app it_X100 it_X10) (it_app it_X40 it_X70)) (it_app (it_app it_X30 it_X80) (it_app it_X10_isCrate it_X10_kindToday))))
set_option maxRecDepth 20000 in
theorem it_X10_isOfKind : inT wsX10_isOfKind := it_cons (lw_mem [Cond.code yX10_isOfKind cX10_isOfKind 2 (some .boolean)] [(4, 129, 1)] rfl) (lw_mem [] [] rfl)
set_option maxRecDepth 20000 in
theorem it_X10_as : inT wsX10_as := it_cons (lw_mem [Cond.code yX10_as cX10_as 3 (some .int)] [(4, 126, 1)] rfl) (it_app (lw_mem wsX10_as_o1 [(2, 130, 1), (2, 82, 1), (1, 102, 1), (3, 36, 1), (3, 38, 1), (0, 5, 1), (1, 1, 1), (2, 127, 2), (4, 115, 1), (4, 117, 1), (0, 21, 1), (4, 127, 2), (2, 131, 1), (2, 133, 1), (0, 0, 1), (2, 140, 1), (2, 142, 1), (0, 1, 1)] rfl) (it_app (it_app (it_app (it_app it_X100 it_X10) it_X40) (it_app (it_app it_X70 it_X30) it_X80)) (it_app (it_app (it_app it_X10_isCrate it_X10_isBelow) it_X10_kindToday) (it_app (it_app it_X10_isOfKind it_X10_finding) it_X10_passed))))
set_option maxRecDepth 20000 in
theorem it_X10_leave : inT wsX10_leave := it_cons (lw_mem [Cond.code yX10_leave cX10_leave 2 none] [(4, 145, 1)] rfl) (it_app (lw_mem wsX10_leave_o1 [(2, 91, 1), (2, 90, 1)] rfl) it_X100)
set_option maxRecDepth 20000 in
theorem it_X10_sizeLent : inT wsX10_sizeLent := it_cons (lw_mem [Cond.code yX10_sizeLent cX10_sizeLent 2 (some .int)] [(4, 149, 1)] rfl) (it_app (lw_mem wsX10_sizeLent_o1 [(2, 82, 1), (1, 102, 1), (4, 142, 1), (4, 144, 1), (0, 24, 1), (1, 1, 1)] rfl) (it_app (it_app it_X100 it_X10) it_X10_leave))
set_option maxRecDepth 20000 in
theorem it_X10_sizeOfOwed : inT wsX10_sizeOfOwed := it_cons (lw_mem [Cond.code yX10_sizeOfOwed cX10_sizeOfOwed 2 (some .int)] [(4, 141, 1)] rfl) (it_app (lw_mem wsX10_sizeOfOwed_o1 [(2, 84, 1), (2, 92, 1), (4, 142, 1), (4, 144, 1), (1, 1, 1), (4, 146, 1), (4, 148, 1), (0, 25, 1), (4, 119, 3), (1, 7, 1)] rfl) (it_app (it_app (it_app it_X100 it_X10) it_X80) (it_app (it_app it_X10_leave it_X10_sizeLent) it_X8_sumsOn)))
set_option maxRecDepth 20000 in
theorem it_X10_sizeOfDeep : inT wsX10_sizeOfDeep := it_cons (lw_mem [Cond.code yX10_sizeOfDeep cX10_sizeOfDeep 2 (some .int)] [(4, 153, 1)] rfl) (it_app (lw_mem wsX10_sizeOfDeep_o1 [(4, 142, 1), (4, 144, 1), (1, 1, 1), (4, 138, 1), (4, 140, 1), (0, 23, 1)] rfl) (it_app (it_app (it_app it_X100 it_X10) it_X80) (it_app it_X10_leave it_X10_sizeOfOwed)))
set_option maxRecDepth 20000 in
theorem it_X10_markLent : inT wsX10_markLent := it_cons (lw_mem [Cond.code yX10_markLent cX10_markLent 2 (some .int)] [(4, 165, 1)] rfl) (it_app (lw_mem wsX10_markLent_o1 [(2, 83, 1), (2, 82, 1), (1, 100, 1), (2, 92, 1), (4, 142, 1), (4, 144, 1), (0, 24, 1), (1, 1, 1), (3, 55, 3), (1, 6, 1)] rfl) (it_app (it_app (it_app it_X100 it_X10) it_X70) (it_app it_X10_leave it_X7_ownerOf)))
set_option maxRecDepth 20000 in
theorem it_X10_markOfStopped : inT wsX10_markOfStopped := it_cons (lw_mem [Cond.code yX10_markOfStopped cX10_markOfStopped 2 (some .int)] [(4, 161, 1)] rfl) (it_app (lw_mem wsX10_markOfStopped_o1 [(4, 142, 1), (4, 144, 1), (1, 1, 1), (4, 162, 1), (4, 164, 1), (0, 29, 1)] rfl) (it_app (it_app (it_app it_X100 it_X10) it_X70) (it_app it_X10_leave it_X10_markLent)))
set_option maxRecDepth 20000 in
theorem it_X10_sizeOfStopped : inT wsX10_sizeOfStopped := it_cons (lw_mem [Cond.code yX10_sizeOfStopped cX10_sizeOfStopped 2 (some .int)] [(4, 157, 1)] rfl) (it_app (lw_mem wsX10_sizeOfStopped_o1 [(4, 142, 1), (4, 144, 1), (1, 1, 1), (4, 158, 1), (4, 160, 1), (0, 28, 1)] rfl) (it_app (it_app (it_app it_X100 it_X10) it_X70) (it_app it_X10_leave it_X10_markOfStopped)))
set_option maxRecDepth 20000 in
theorem it_X10_askSize : inT wsX10_askSize := it_cons (lw_mem [Cond.code yX10_askSize cX10_askSize 3 (some .int)] [(4, 137, 1)] rfl) (it_app (lw_mem wsX10_askSize_o1 [(4, 138, 1), (4, 140, 1), (1, 1, 1), (4, 146, 1), (4, 148, 1), (4, 150, 1), (4, 152, 1), (0, 26, 1), (4, 154, 1), (4, 156, 1), (0, 27, 1), (2, 83, 1)] rfl) (it_app (it_app (it_app it_X100 it_X10) (it_app it_X80 it_X70)) (it_app (it_app it_X10_sizeOfOwed it_X10_sizeOfDeep) (it_app it_X10_sizeOfStopped it_X10_sizeLent))))
set_option maxRecDepth 20000 in
theorem it_X10_markOfOwed : inT wsX10_markOfOwed := it_cons (lw_mem [Cond.code yX10_markOfOwed cX10_markOfOwed 2 (some .int)] [(4, 173, 1)] rfl) (it_app (lw_mem wsX10_markOfOwed_o1 [(4, 142, 1), (4, 144, 1), (1, 1, 1), (4, 162, 1), (4, 164, 1), (0, 29, 1)] rfl) (it_app (it_app (it_app it_X100 it_X10) it_X70) (it_app it_X10_leave it_X10_markLent)))
set_option maxRecDepth 20000 in
theorem it_X10_markOfClean : inT wsX10_markOfClean := it_cons (lw_mem [Cond.code yX10_markOfClean cX10_markOfClean 2 (some .int)] [(4, 177, 1)] rfl) (it_app (lw_mem wsX10_markOfClean_o1 [(4, 142, 1), (4, 144, 1), (1, 1, 1), (4, 162, 1), (4, 164, 1), (0, 29, 1), (4, 146, 1), (4, 148, 1), (0, 25, 1)] rfl) (it_app (it_app (it_app it_X100 it_X10) it_X70) (it_app (it_app it_X10_leave it_X10_markLent) it_X10_sizeLent)))
set_option maxRecDepth 20000 in
theorem it_X10_askMark : inT wsX10_askMark := it_cons (lw_mem [Cond.code yX10_askMark cX10_askMark 3 (some .int)] [(4, 169, 1)] rfl) (it_app (lw_mem wsX10_askMark_o1 [(4, 170, 1), (4, 172, 1), (0, 31, 1), (1, 1, 1), (4, 162, 1), (4, 164, 1), (4, 158, 1), (4, 160, 1), (0, 28, 1), (4, 174, 1), (4, 176, 1), (0, 32, 1)] rfl) (it_app (it_app (it_app it_X100 it_X10) (it_app it_X70 it_X10_markOfOwed)) (it_app (it_app it_X10_markOfStopped it_X10_markOfClean) it_X10_markLent)))
set_option maxRecDepth 20000 in
theorem it_X10_ask : inT wsX10_ask := it_cons (lw_mem [Cond.code yX10_ask cX10_ask 4 (some .int)] [(4, 133, 1)] rfl) (it_app (lw_mem wsX10_ask_o1 [(2, 130, 1), (2, 91, 1), (3, 36, 1), (3, 38, 1), (0, 5, 1), (1, 1, 1), (2, 127, 2), (4, 115, 1), (4, 117, 1), (0, 21, 1), (4, 134, 1), (4, 136, 1), (0, 22, 1), (4, 166, 1), (4, 168, 1), (0, 30, 1)] rfl) (it_app (it_app (it_app (it_app it_X100 it_X10) it_X40) (it_app (it_app it_X70 it_X30) it_X80)) (it_app (it_app (it_app it_X10_isCrate it_X10_isBelow) it_X10_kindToday) (it_app it_X10_askSize it_X10_askMark))))
set_option maxRecDepth 20000 in
theorem it_X10_trace : inT wsX10_trace := it_cons (lw_mem [Cond.code yX10_trace cX10_trace 2 (some .int)] [(4, 181, 1)] rfl) (it_app (lw_mem wsX10_trace_o1 [(2, 91, 1), (2, 90, 1), (3, 17, 1), (2, 127, 2), (1, 1, 1)] rfl) (it_app it_X100 it_X10_isBelow))
set_option maxRecDepth 20000 in
theorem it_X10_count : inT wsX10_count := it_cons (lw_mem [Cond.code yX10_count cX10_count 2 (some .int)] [(4, 185, 1)] rfl) (it_app (lw_mem wsX10_count_o1 [(2, 80, 2), (1, 65, 1), (2, 82, 1), (1, 106, 1), (2, 83, 1), (1, 137, 1), (2, 84, 1), (1, 164, 1), (2, 85, 1), (1, 196, 1), (2, 86, 1), (2, 11, 1), (2, 88, 1), (2, 34, 1), (2, 89, 1), (2, 56, 1), (1, 188, 1), (2, 130, 1), (4, 186, 3), (1, 2, 1)] rfl) (it_app (it_app (it_app (it_app it_X100 it_X30) it_X10) (it_app (it_app it_X70 it_X80) it_X20)) (it_app (it_app (it_app it_X00 it_X60) it_X40) (it_app it_X90 it_X9_howMany))))
set_option maxRecDepth 20000 in
theorem it_X10_status : inT wsX10_status := it_cons (lw_mem [Cond.code yX10_status cX10_status 1 (some .int)] [(4, 194, 1)] rfl) (it_app (lw_mem wsX10_status_o1 [(2, 93, 1)] rfl) it_X100)
-- it_X10_hasBit it_X10_init it_X10_isBelow it_X10_finding it_X10_passed it_X10_sheet it_X10_set it_X10_copy it_X10_drop it_X10_isOwner it_X10_isPerson it_X10_isPair it_X10_isFrom it_X10_isDay it_X10_hold it_X10_holds it_X10_percent it_X10_share it_X10_truly it_X10_rings it_X10_crate it_X10_isCrate it_X10_areDays it_X10_paper it_X10_owner it_X10_quarrels it_X10_pledge it_X10_rank it_X10_feed it_X10_duties it_X10_fault it_X10_act it_X10_duty it_X10_room it_X10_move it_X10_inside it_X10_lot it_X10_drawn it_X10_often it_X10_opened it_X10_verdict it_X10_list it_X10_isBarred it_X10_barred it_X10_day it_X10_kindToday it_X10_kind it_X10_isOfKind it_X10_as it_X10_leave it_X10_sizeLent it_X10_sizeOfOwed it_X10_sizeOfDeep it_X10_markLent it_X10_markOfStopped it_X10_sizeOfStopped it_X10_askSize it_X10_markOfOwed it_X10_markOfClean it_X10_askMark it_X10_ask it_X10_trace it_X10_count it_X10_status
end

section
set_option maxRecDepth 20000 in
theorem it_X110 : inT wsX110 := lw_mem _ [(5, 30, 1), (5, 32, 1), (5, 34, 1), (5, 36, 1), (5, 38, 1), (5, 40, 1), (5, 42, 1), (5, 44, 1), (5, 46, 1), (5, 48, 1), (5, 50, 1), (5, 52, 1), (5, 54, 1), (5, 56, 1), (5, 58, 1), (5, 60, 1), (5, 62, 1), (5, 64, 1), (5, 66, 1), (5, 68, 1), (5, 70, 1), (5, 72, 1), (5, 74, 1), (5, 76, 1), (5, 78, 1), (5, 80, 1), (5, 82, 1), (5, 84, 1), (5, 86, 1), (5, 88, 1), (5, 90, 1), (5, 92, 1), (5, 94, 1), (5, 96, 1), (5, 98, 1), (5, 100, 1), (5, 102, 1), (5, 104, 1), (5, 106, 1), (5, 108, 1), (5, 110, 1), (5, 112, 1), (5, 114, 1), (5, 116, 1), (5, 118, 1), (5, 120, 1), (5, 122, 1), (5, 124, 1), (5, 126, 1), (5, 128, 1), (5, 130, 1), (5, 132, 1), (5, 134, 1), (5, 136, 1), (5, 138, 1), (5, 140, 1), (5, 142, 1), (5, 144, 1), (5, 146, 1), (5, 148, 1), (5, 150, 1), (5, 152, 1), (5, 154, 1), (5, 156, 1)] rfl
set_option maxRecDepth 20000 in
theorem it_X11_in : inT wsX11_in := it_cons (lw_mem [Cond.code yX11_in cX11_in 6 (some .boolean)] [(5, 169, 1)] rfl) (lw_mem [] [] rfl)
set_option maxRecDepth 20000 in
theorem it_X11_init : inT wsX11_init := it_cons (lw_mem [Cond.code yX11_init cX11_init 3 none] [(4, 202, 1)] rfl) (it_app (it_app (lw_mem wsX11_init_o1 [(4, 203, 1), (1, 27, 2), (1, 53, 1), (4, 209, 3), (4, 213, 7), (2, 79, 1), (4, 220, 1), (4, 222, 2), (4, 225, 5), (4, 232, 1)] rfl) (lw_mem wsX11_init_o2 [(4, 233, 3), (4, 237, 1), (4, 239, 1), (5, 0, 1), (5, 11, 7), (5, 19, 4), (5, 24, 3), (5, 28, 1), (4, 207, 1), (4, 204, 2)] rfl)) it_X110)
set_option maxRecDepth 20000 in
theorem it_X11_found : inT wsX11_found := it_cons (lw_mem [Cond.code yX11_found cX11_found 2 (some .int)] [(5, 175, 1)] rfl) (it_app (lw_mem wsX11_found_o1 [(4, 208, 1), (5, 176, 1)] rfl) it_X110)
set_option maxRecDepth 20000 in
theorem it_X11_isSheet : inT wsX11_isSheet := it_cons (lw_mem [Cond.code yX11_isSheet cX11_isSheet 1 (some .boolean)] [(5, 165, 1)] rfl) (it_app (lw_mem wsX11_isSheet_o1 [(5, 166, 3), (1, 13, 1)] rfl) it_X11_in)
set_option maxRecDepth 20000 in
theorem it_X11_sheet : inT wsX11_sheet := it_cons (lw_mem [Cond.code yX11_sheet cX11_sheet 5 (some .int)] [(5, 162, 1)] rfl) (it_app (lw_mem wsX11_sheet_o1 [(4, 206, 1), (5, 170, 2), (4, 208, 4), (5, 163, 2), (1, 13, 1), (5, 167, 2), (5, 172, 1), (5, 174, 1), (0, 33, 1)] rfl) (it_app (it_app it_X110 it_X11_isSheet) (it_app it_X11_in it_X11_found)))
set_option maxRecDepth 20000 in
theorem it_X11_set : inT wsX11_set := it_cons (lw_mem [Cond.code yX11_set cX11_set 4 (some .int)] [(5, 180, 1)] rfl) (it_app (lw_mem wsX11_set_o1 [(4, 206, 1), (5, 171, 1), (4, 208, 4), (5, 163, 2), (1, 13, 1), (5, 167, 2), (5, 172, 1), (5, 174, 1), (0, 33, 1)] rfl) (it_app (it_app it_X110 it_X11_isSheet) (it_app it_X11_found it_X11_in)))
set_option maxRecDepth 20000 in
theorem it_X11_copy : inT wsX11_copy := it_cons (lw_mem [Cond.code yX11_copy cX11_copy 9 (some .int)] [(5, 184, 1)] rfl) (it_app (lw_mem wsX11_copy_o1 [(4, 206, 1), (5, 171, 1), (4, 208, 4), (5, 163, 2), (1, 13, 1), (5, 172, 1), (5, 174, 1), (0, 33, 1)] rfl) (it_app (it_app it_X110 it_X11_isSheet) it_X11_found))
set_option maxRecDepth 20000 in
theorem it_X11_drop : inT wsX11_drop := it_cons (lw_mem [Cond.code yX11_drop cX11_drop 2 (some .int)] [(5, 188, 1)] rfl) (it_app (lw_mem wsX11_drop_o1 [(4, 206, 1), (5, 171, 1), (4, 208, 3), (5, 163, 2), (1, 13, 1), (5, 172, 1), (5, 174, 1), (0, 33, 1)] rfl) (it_app (it_app it_X110 it_X11_isSheet) it_X11_found))
set_option maxRecDepth 20000 in
theorem it_X11_isOwner : inT wsX11_isOwner := it_cons (lw_mem [Cond.code yX11_isOwner cX11_isOwner 1 (some .boolean)] [(5, 199, 1)] rfl) (it_app (lw_mem wsX11_isOwner_o1 [(5, 200, 1), (5, 167, 2), (1, 13, 1)] rfl) it_X11_in)
set_option maxRecDepth 20000 in
theorem it_X11_isPerson : inT wsX11_isPerson := it_cons (lw_mem [Cond.code yX11_isPerson cX11_isPerson 1 (some .boolean)] [(5, 230, 1)] rfl) (it_app (lw_mem wsX11_isPerson_o1 [(5, 231, 1), (5, 167, 2), (1, 13, 1)] rfl) it_X11_in)
set_option maxRecDepth 20000 in
theorem it_X11_isCompany : inT wsX11_isCompany := it_cons (lw_mem [Cond.code yX11_isCompany cX11_isCompany 1 (some .boolean)] [(5, 203, 1)] rfl) (it_app (lw_mem wsX11_isCompany_o1 [(5, 204, 1), (5, 200, 1), (5, 167, 2), (1, 13, 1)] rfl) it_X11_in)
set_option maxRecDepth 20000 in
theorem it_X11_isDay : inT wsX11_isDay := it_cons (lw_mem [Cond.code yX11_isDay cX11_isDay 1 (some .boolean)] [(5, 208, 1)] rfl) (it_app (lw_mem wsX11_isDay_o1 [(5, 209, 1), (5, 167, 2), (1, 13, 1)] rfl) it_X11_in)
set_option maxRecDepth 20000 in
theorem it_X11_holding : inT wsX11_holding := it_cons (lw_mem [Cond.code yX11_holding cX11_holding 5 (some .int)] [(5, 196, 1)] rfl) (it_app (lw_mem wsX11_holding_o1 [(5, 205, 1), (5, 171, 1), (4, 212, 1), (5, 210, 1), (4, 213, 4), (5, 197, 2), (1, 13, 1), (5, 167, 2), (5, 201, 2), (5, 206, 2)] rfl) (it_app (it_app (it_app it_X110 it_X11_isOwner) it_X11_isCompany) (it_app it_X11_in it_X11_isDay)))
set_option maxRecDepth 20000 in
theorem it_X11_hold : inT wsX11_hold := it_cons (lw_mem [Cond.code yX11_hold cX11_hold 5 (some .int)] [(5, 192, 1)] rfl) (it_app (lw_mem wsX11_hold_o1 [(4, 206, 1), (5, 193, 1), (5, 195, 1), (0, 34, 1), (1, 13, 1)] rfl) (it_app it_X110 it_X11_holding))
set_option maxRecDepth 20000 in
theorem it_X11_holds : inT wsX11_holds := it_cons (lw_mem [Cond.code yX11_holds cX11_holds 7 (some .int)] [(5, 214, 1)] rfl) (it_app (lw_mem wsX11_holds_o1 [(4, 206, 1), (5, 215, 1), (5, 171, 1), (4, 208, 4), (5, 163, 2), (1, 13, 1), (5, 167, 2), (5, 172, 1), (5, 174, 1), (0, 33, 1), (5, 193, 1), (5, 195, 1), (0, 34, 1)] rfl) (it_app (it_app (it_app it_X110 it_X11_isSheet) it_X11_in) (it_app it_X11_found it_X11_holding)))
set_option maxRecDepth 20000 in
theorem it_X11_percentOf : inT wsX11_percentOf := it_cons (lw_mem [Cond.code yX11_percentOf cX11_percentOf 6 (some .int)] [(5, 223, 1)] rfl) (it_app (lw_mem wsX11_percentOf_o1 [(4, 204, 1), (4, 212, 3), (4, 216, 1), (4, 215, 1)] rfl) it_X110)
set_option maxRecDepth 20000 in
theorem it_X11_percent : inT wsX11_percent := it_cons (lw_mem [Cond.code yX11_percent cX11_percent 4 (some .int)] [(5, 219, 1)] rfl) (it_app (lw_mem wsX11_percent_o1 [(4, 206, 1), (5, 171, 1), (5, 197, 2), (1, 13, 1), (5, 201, 2), (5, 206, 2), (5, 220, 1), (5, 222, 1), (0, 35, 1)] rfl) (it_app (it_app (it_app it_X110 it_X11_isOwner) it_X11_isCompany) (it_app it_X11_isDay it_X11_percentOf)))
set_option maxRecDepth 20000 in
theorem it_X11_findHas : inT wsX11_findHas := it_cons (lw_mem [Cond.code yX11_findHas cX11_findHas 4 none] [(6, 0, 1)] rfl) (it_app (lw_mem wsX11_findHas_o1 [(4, 217, 1), (5, 220, 1), (5, 222, 1), (0, 35, 1), (1, 13, 1)] rfl) (it_app it_X110 it_X11_percentOf))
set_option maxRecDepth 20000 in
theorem it_X11_rowsTo : inT wsX11_rowsTo := it_cons (lw_mem [Cond.code yX11_rowsTo cX11_rowsTo 11 (some .long)] [(6, 4, 1)] rfl) (it_app (lw_mem wsX11_rowsTo_o1 [(4, 218, 1), (4, 220, 1), (6, 5, 1), (4, 219, 1), (4, 217, 1), (5, 205, 1), (6, 6, 1)] rfl) it_X110)
set_option maxRecDepth 20000 in
theorem it_X11_shareOf : inT wsX11_shareOf := it_cons (lw_mem [Cond.code yX11_shareOf cX11_shareOf 4 (some .int)] [(5, 235, 1)] rfl) (it_app (lw_mem wsX11_shareOf_o1 [(5, 236, 2), (5, 239, 1), (0, 37, 1), (1, 13, 1), (6, 1, 1), (6, 3, 1), (0, 38, 1)] rfl) (it_app (it_app it_X110 it_X11_findHas) it_X11_rowsTo))
set_option maxRecDepth 20000 in
theorem it_X11_share : inT wsX11_share := it_cons (lw_mem [Cond.code yX11_share cX11_share 4 (some .int)] [(5, 227, 1)] rfl) (it_app (lw_mem wsX11_share_o1 [(4, 206, 1), (5, 171, 1), (5, 228, 2), (1, 13, 1), (5, 197, 2), (5, 206, 2), (5, 232, 1), (5, 234, 1), (0, 36, 1)] rfl) (it_app (it_app (it_app it_X110 it_X11_isPerson) it_X11_isOwner) (it_app it_X11_isDay it_X11_shareOf)))
set_option maxRecDepth 20000 in
theorem it_X11_truly : inT wsX11_truly := it_cons (lw_mem [Cond.code yX11_truly cX11_truly 7 (some .int)] [(6, 10, 1)] rfl) (it_app (lw_mem wsX11_truly_o1 [(4, 206, 1), (5, 171, 1), (4, 204, 1), (5, 197, 2), (1, 13, 1), (5, 206, 2), (5, 232, 1), (5, 234, 1), (0, 36, 1)] rfl) (it_app (it_app it_X110 it_X11_isOwner) (it_app it_X11_isDay it_X11_shareOf)))
set_option maxRecDepth 20000 in
theorem it_X11_rings : inT wsX11_rings := it_cons (lw_mem [Cond.code yX11_rings cX11_rings 10 (some .int)] [(6, 14, 1)] rfl) (it_app (lw_mem wsX11_rings_o1 [(4, 206, 1), (5, 171, 1), (4, 217, 1), (5, 206, 2), (1, 13, 1), (5, 237, 1), (5, 239, 1), (0, 37, 1), (4, 204, 1)] rfl) (it_app (it_app it_X110 it_X11_isDay) it_X11_findHas))
set_option maxRecDepth 20000 in
theorem it_X11_isCrate : inT wsX11_isCrate := it_cons (lw_mem [Cond.code yX11_isCrate cX11_isCrate 2 (some .boolean)] [(6, 27, 1)] rfl) (it_app (lw_mem wsX11_isCrate_o1 [(4, 221, 1), (5, 167, 2), (1, 13, 1)] rfl) (it_app it_X110 it_X11_in))
set_option maxRecDepth 20000 in
theorem it_X11_crate : inT wsX11_crate := it_cons (lw_mem [Cond.code yX11_crate cX11_crate 3 (some .int)] [(6, 18, 1)] rfl) (it_app (lw_mem wsX11_crate_o1 [(4, 206, 1), (6, 19, 1), (5, 171, 1), (4, 221, 1), (5, 210, 1), (4, 222, 2), (5, 197, 2), (1, 13, 1), (5, 167, 2)] rfl) (it_app (it_app it_X110 it_X11_isOwner) it_X11_in))
set_option maxRecDepth 20000 in
theorem it_X11_paper : inT wsX11_paper := it_cons (lw_mem [Cond.code yX11_paper cX11_paper 6 (some .int)] [(6, 23, 1)] rfl) (it_app (lw_mem wsX11_paper_o1 [(4, 206, 1), (5, 209, 1), (5, 171, 1), (4, 224, 1), (5, 210, 1), (4, 225, 5), (6, 24, 1), (6, 26, 1), (0, 39, 1), (1, 13, 1), (5, 167, 2), (5, 197, 2), (5, 206, 2)] rfl) (it_app (it_app (it_app it_X110 it_X11_isCrate) it_X11_isOwner) (it_app it_X11_isDay it_X11_in)))
set_option maxRecDepth 20000 in
theorem it_X11_ownerOf : inT wsX11_ownerOf := it_cons (lw_mem [Cond.code yX11_ownerOf cX11_ownerOf 12 (some .int)] [(6, 35, 1)] rfl) (it_app (lw_mem wsX11_ownerOf_o1 [(4, 222, 1), (4, 230, 1), (4, 204, 1), (4, 224, 2), (4, 229, 1), (4, 228, 1), (4, 226, 2)] rfl) it_X110)
set_option maxRecDepth 20000 in
theorem it_X11_owner : inT wsX11_owner := it_cons (lw_mem [Cond.code yX11_owner cX11_owner 4 (some .int)] [(6, 31, 1)] rfl) (it_app (lw_mem wsX11_owner_o1 [(4, 206, 1), (5, 171, 1), (6, 24, 1), (6, 26, 1), (0, 39, 1), (1, 13, 1), (5, 206, 2), (6, 32, 1), (6, 34, 1), (0, 40, 1)] rfl) (it_app (it_app it_X110 it_X11_isCrate) (it_app it_X11_isDay it_X11_ownerOf)))
set_option maxRecDepth 20000 in
theorem it_X11_quarrels : inT wsX11_quarrels := it_cons (lw_mem [Cond.code yX11_quarrels cX11_quarrels 4 (some .int)] [(6, 39, 1)] rfl) (it_app (lw_mem wsX11_quarrels_o1 [(4, 206, 1), (5, 171, 1), (4, 230, 1), (6, 24, 1), (6, 26, 1), (0, 39, 1), (1, 13, 1), (5, 206, 2), (6, 32, 1), (6, 34, 1), (0, 40, 1)] rfl) (it_app (it_app it_X110 it_X11_isCrate) (it_app it_X11_isDay it_X11_ownerOf)))
set_option maxRecDepth 20000 in
theorem it_X11_pledge : inT wsX11_pledge := it_cons (lw_mem [Cond.code yX11_pledge cX11_pledge 6 (some .int)] [(6, 43, 1)] rfl) (it_app (lw_mem wsX11_pledge_o1 [(4, 206, 1), (6, 19, 1), (5, 209, 1), (5, 171, 1), (4, 231, 1), (5, 210, 1), (4, 232, 4), (6, 24, 1), (6, 26, 1), (0, 39, 1), (1, 13, 1), (5, 167, 2), (5, 228, 2), (5, 206, 2)] rfl) (it_app (it_app (it_app it_X110 it_X11_isCrate) it_X11_isPerson) (it_app it_X11_in it_X11_isDay)))
set_option maxRecDepth 20000 in
theorem it_X11_keyOf : inT wsX11_keyOf := it_cons (lw_mem [Cond.code yX11_keyOf cX11_keyOf 3 (some .int)] [(6, 52, 1)] rfl) (it_app (lw_mem wsX11_keyOf_o1 [(4, 235, 1), (4, 234, 1), (4, 233, 1)] rfl) it_X110)
set_option maxRecDepth 20000 in
theorem it_X11_rank : inT wsX11_rank := it_cons (lw_mem [Cond.code yX11_rank cX11_rank 13 (some .int)] [(6, 47, 1)] rfl) (it_app (lw_mem wsX11_rank_o1 [(4, 206, 1), (6, 48, 1), (5, 171, 1), (4, 223, 1), (4, 204, 1), (4, 231, 2), (4, 235, 1), (4, 233, 1), (6, 24, 1), (6, 26, 1), (0, 39, 1), (1, 13, 1), (5, 167, 2), (5, 206, 2), (6, 49, 1), (6, 51, 1), (0, 41, 1)] rfl) (it_app (it_app (it_app it_X110 it_X11_isCrate) it_X11_isDay) (it_app it_X11_in it_X11_keyOf)))
set_option maxRecDepth 20000 in
theorem it_X11_feed : inT wsX11_feed := it_cons (lw_mem [Cond.code yX11_feed cX11_feed 5 (some .int)] [(6, 56, 1)] rfl) (it_app (lw_mem wsX11_feed_o1 [(4, 206, 1), (6, 57, 1), (5, 171, 1), (5, 1, 1), (5, 210, 1), (5, 0, 1), (6, 58, 1), (5, 167, 2), (1, 13, 1)] rfl) (it_app it_X110 it_X11_in))
set_option maxRecDepth 20000 in
theorem it_X11_byteAt : inT wsX11_byteAt := it_cons (lw_mem [Cond.code yX11_byteAt cX11_byteAt 2 (some .int)] [(6, 70, 1)] rfl) (it_app (lw_mem wsX11_byteAt_o1 [(5, 3, 1), (5, 0, 1), (4, 204, 1)] rfl) it_X110)
set_option maxRecDepth 20000 in
theorem it_X11_isLetter : inT wsX11_isLetter := it_cons (lw_mem [Cond.code yX11_isLetter cX11_isLetter 1 (some .boolean)] [(6, 73, 1)] rfl) (lw_mem [] [] rfl)
set_option maxRecDepth 20000 in
theorem it_X11_isFigure : inT wsX11_isFigure := it_cons (lw_mem [Cond.code yX11_isFigure cX11_isFigure 1 (some .boolean)] [(6, 76, 1)] rfl) (lw_mem [] [] rfl)
set_option maxRecDepth 20000 in
theorem it_X11_step : inT wsX11_step := it_cons (lw_mem [Cond.code yX11_step cX11_step 2 none] [(6, 66, 1)] rfl) (it_app (lw_mem wsX11_step_o1 [(5, 4, 1), (5, 6, 1), (4, 204, 1), (5, 5, 1), (5, 7, 1), (6, 67, 1), (6, 69, 1), (0, 43, 1), (1, 13, 1), (6, 71, 2), (6, 74, 2)] rfl) (it_app (it_app it_X110 it_X11_byteAt) (it_app it_X11_isLetter it_X11_isFigure)))
set_option maxRecDepth 20000 in
theorem it_X11_bad : inT wsX11_bad := it_cons (lw_mem [Cond.code yX11_bad cX11_bad 2 none] [(6, 88, 1)] rfl) (it_app (lw_mem wsX11_bad_o1 [(5, 8, 1), (5, 6, 1), (5, 9, 1)] rfl) it_X110)
set_option maxRecDepth 20000 in
theorem it_X11_need : inT wsX11_need := it_cons (lw_mem [Cond.code yX11_need cX11_need 2 none] [(6, 92, 1)] rfl) (it_app (lw_mem wsX11_need_o1 [(5, 8, 1), (6, 85, 1), (6, 87, 1), (0, 45, 1), (1, 13, 1), (6, 63, 1), (6, 65, 1), (0, 42, 1)] rfl) (it_app (it_app it_X110 it_X11_bad) it_X11_step))
set_option maxRecDepth 20000 in
theorem it_X11_is : inT wsX11_is := it_cons (lw_mem [Cond.code yX11_is cX11_is 2 (some .boolean)] [(6, 96, 1)] rfl) (it_app (lw_mem wsX11_is_o1 [(5, 5, 1), (5, 0, 1), (5, 6, 1)] rfl) it_X110)
set_option maxRecDepth 20000 in
theorem it_X11_word : inT wsX11_word := it_cons (lw_mem [Cond.code yX11_word cX11_word 4 (some .long)] [(6, 80, 1)] rfl) (it_app (lw_mem wsX11_word_o1 [(5, 6, 2), (5, 5, 1), (5, 0, 1)] rfl) it_X110)
set_option maxRecDepth 20000 in
theorem it_X11_numberUpTo : inT wsX11_numberUpTo := it_cons (lw_mem [Cond.code yX11_numberUpTo cX11_numberUpTo 4 (some .int)] [(6, 100, 1)] rfl) (it_app (lw_mem wsX11_numberUpTo_o1 [(5, 6, 2), (5, 5, 1), (5, 0, 1), (6, 85, 1), (6, 87, 1), (1, 13, 1), (6, 89, 1), (6, 91, 1), (0, 46, 1)] rfl) (it_app (it_app it_X110 it_X11_bad) it_X11_need))
set_option maxRecDepth 20000 in
theorem it_X11_duties : inT wsX11_duties := it_cons (lw_mem [Cond.code yX11_duties cX11_duties 6 (some .int)] [(6, 62, 1)] rfl) (it_app (it_app (lw_mem wsX11_duties_o1 [(4, 206, 1), (5, 1, 1), (5, 3, 2), (5, 8, 1), (4, 238, 1), (5, 5, 1), (6, 81, 4), (4, 204, 1), (6, 101, 1), (4, 239, 1), (5, 2, 1), (6, 102, 1), (5, 9, 1), (4, 236, 2), (6, 63, 1), (6, 65, 1), (1, 13, 1), (6, 77, 1), (6, 79, 1)] rfl) (lw_mem wsX11_duties_o2 [(0, 44, 1), (6, 85, 1), (6, 87, 1), (6, 89, 1), (6, 91, 1), (6, 93, 1), (6, 95, 1), (0, 47, 1), (6, 97, 1), (6, 99, 1), (0, 48, 1)] rfl)) (it_app (it_app (it_app it_X110 it_X11_step) (it_app it_X11_word it_X11_bad)) (it_app (it_app it_X11_need it_X11_is) it_X11_numberUpTo)))
set_option maxRecDepth 20000 in
theorem it_X11_fault : inT wsX11_fault := it_cons (lw_mem [Cond.code yX11_fault cX11_fault 1 (some .int)] [(6, 106, 1)] rfl) (it_app (lw_mem wsX11_fault_o1 [(4, 206, 1), (5, 2, 1)] rfl) it_X110)
set_option maxRecDepth 20000 in
theorem it_X11_act : inT wsX11_act := it_cons (lw_mem [Cond.code yX11_act cX11_act 5 (some .int)] [(6, 110, 1)] rfl) (it_app (lw_mem wsX11_act_o1 [(4, 206, 1), (6, 48, 1), (6, 111, 1), (5, 171, 1), (5, 10, 1), (5, 210, 1), (5, 11, 4), (6, 24, 1), (6, 26, 1), (0, 39, 1), (1, 13, 1), (5, 167, 2), (5, 206, 2)] rfl) (it_app (it_app it_X110 it_X11_isCrate) (it_app it_X11_in it_X11_isDay)))
set_option maxRecDepth 20000 in
theorem it_X11_wakes : inT wsX11_wakes := it_cons (lw_mem [Cond.code yX11_wakes cX11_wakes 3 (some .int)] [(6, 119, 1)] rfl) (it_app (lw_mem wsX11_wakes_o1 [(4, 236, 2), (5, 12, 1), (5, 14, 1), (4, 204, 1)] rfl) it_X110)
set_option maxRecDepth 20000 in
theorem it_X11_duty : inT wsX11_duty := it_cons (lw_mem [Cond.code yX11_duty cX11_duty 6 (some .int)] [(6, 115, 1)] rfl) (it_app (lw_mem wsX11_duty_o1 [(4, 206, 1), (5, 170, 2), (4, 204, 1), (5, 10, 2), (5, 13, 1), (4, 223, 1), (4, 237, 1), (6, 24, 1), (6, 26, 1), (0, 39, 1), (1, 13, 1), (5, 167, 2), (6, 116, 1), (6, 118, 1), (0, 49, 1)] rfl) (it_app (it_app it_X110 it_X11_isCrate) (it_app it_X11_in it_X11_wakes)))
set_option maxRecDepth 20000 in
theorem it_X11_isRoom : inT wsX11_isRoom := it_cons (lw_mem [Cond.code yX11_isRoom cX11_isRoom 1 (some .boolean)] [(6, 126, 1)] rfl) (it_app (lw_mem wsX11_isRoom_o1 [(6, 127, 1), (5, 167, 2), (1, 13, 1)] rfl) it_X11_in)
set_option maxRecDepth 20000 in
theorem it_X11_room : inT wsX11_room := it_cons (lw_mem [Cond.code yX11_room cX11_room 5 (some .int)] [(6, 123, 1)] rfl) (it_app (lw_mem wsX11_room_o1 [(4, 206, 1), (6, 128, 1), (6, 5, 1), (5, 171, 1), (5, 15, 2), (6, 124, 2), (1, 13, 1), (5, 167, 2)] rfl) (it_app (it_app it_X110 it_X11_isRoom) it_X11_in))
set_option maxRecDepth 20000 in
theorem it_X11_insideOf : inT wsX11_insideOf := it_cons (lw_mem [Cond.code yX11_insideOf cX11_insideOf 5 (some .int)] [(6, 137, 1)] rfl) (it_app (lw_mem wsX11_insideOf_o1 [(4, 221, 1), (5, 17, 1), (4, 223, 1)] rfl) it_X110)
set_option maxRecDepth 20000 in
theorem it_X11_move : inT wsX11_move := it_cons (lw_mem [Cond.code yX11_move cX11_move 4 (some .int)] [(6, 132, 1)] rfl) (it_app (lw_mem wsX11_move_o1 [(4, 206, 1), (4, 204, 1), (5, 171, 1), (5, 17, 1), (6, 133, 1), (5, 15, 1), (4, 223, 1), (5, 16, 1), (5, 210, 1), (6, 24, 1), (6, 26, 1), (0, 39, 1), (1, 13, 1), (6, 124, 2), (6, 134, 1), (6, 136, 1), (0, 50, 1)] rfl) (it_app (it_app it_X110 it_X11_isCrate) (it_app it_X11_isRoom it_X11_insideOf)))
set_option maxRecDepth 20000 in
theorem it_X11_inside : inT wsX11_inside := it_cons (lw_mem [Cond.code yX11_inside cX11_inside 3 (some .int)] [(6, 141, 1)] rfl) (it_app (lw_mem wsX11_inside_o1 [(4, 206, 1), (5, 170, 2), (6, 124, 2), (1, 13, 1), (5, 167, 2), (6, 134, 1), (6, 136, 1), (0, 50, 1)] rfl) (it_app (it_app it_X110 it_X11_isRoom) (it_app it_X11_in it_X11_insideOf)))
set_option maxRecDepth 20000 in
theorem it_X11_lotOf : inT wsX11_lotOf := it_cons (lw_mem [Cond.code yX11_lotOf cX11_lotOf 5 (some .long)] [(6, 150, 1)] rfl) (it_app (lw_mem wsX11_lotOf_o1 [(4, 207, 1), (6, 151, 5)] rfl) it_X110)
set_option maxRecDepth 20000 in
theorem it_X11_lot : inT wsX11_lot := it_cons (lw_mem [Cond.code yX11_lot cX11_lot 4 (some .int)] [(6, 145, 1)] rfl) (it_app (lw_mem wsX11_lot_o1 [(4, 206, 1), (6, 146, 1), (6, 5, 1), (5, 171, 1), (5, 167, 2), (1, 13, 1), (5, 206, 2), (6, 147, 1), (6, 149, 1), (0, 51, 1)] rfl) (it_app (it_app it_X110 it_X11_in) (it_app it_X11_isDay it_X11_lotOf)))
set_option maxRecDepth 20000 in
theorem it_X11_drawnOn : inT wsX11_drawnOn := it_cons (lw_mem [Cond.code yX11_drawnOn cX11_drawnOn 8 (some .int)] [(6, 163, 1)] rfl) (it_app (lw_mem wsX11_drawnOn_o1 [(4, 204, 1), (4, 221, 1), (5, 17, 1), (6, 147, 1), (6, 149, 1), (0, 51, 1), (1, 13, 1)] rfl) (it_app it_X110 it_X11_lotOf))
set_option maxRecDepth 20000 in
theorem it_X11_drawn : inT wsX11_drawn := it_cons (lw_mem [Cond.code yX11_drawn cX11_drawn 3 (some .int)] [(6, 159, 1)] rfl) (it_app (lw_mem wsX11_drawn_o1 [(4, 206, 1), (6, 128, 1), (5, 171, 1), (5, 206, 2), (1, 13, 1), (5, 167, 2), (6, 160, 1), (6, 162, 1), (0, 52, 1)] rfl) (it_app (it_app it_X110 it_X11_isDay) (it_app it_X11_in it_X11_drawnOn)))
set_option maxRecDepth 20000 in
theorem it_X11_often : inT wsX11_often := it_cons (lw_mem [Cond.code yX11_often cX11_often 7 (some .int)] [(6, 167, 1)] rfl) (it_app (lw_mem wsX11_often_o1 [(4, 206, 1), (6, 128, 1), (5, 171, 1), (6, 24, 1), (6, 26, 1), (0, 39, 1), (1, 13, 1), (5, 167, 2), (5, 206, 2), (6, 160, 1), (6, 162, 1), (0, 52, 1)] rfl) (it_app (it_app (it_app it_X110 it_X11_isCrate) it_X11_isDay) (it_app it_X11_in it_X11_drawnOn)))
set_option maxRecDepth 20000 in
theorem it_X11_opened : inT wsX11_opened := it_cons (lw_mem [Cond.code yX11_opened cX11_opened 5 (some .int)] [(6, 171, 1)] rfl) (it_app (lw_mem wsX11_opened_o1 [(4, 206, 1), (6, 19, 1), (6, 58, 1), (5, 171, 1), (5, 18, 1), (5, 210, 1), (5, 19, 4), (6, 24, 1), (6, 26, 1), (0, 39, 1), (1, 13, 1), (5, 167, 2), (5, 206, 2)] rfl) (it_app (it_app it_X110 it_X11_isCrate) (it_app it_X11_isDay it_X11_in)))
set_option maxRecDepth 20000 in
theorem it_X11_bits : inT wsX11_bits := it_cons (lw_mem [Cond.code yX11_bits cX11_bits 3 (some .int)] [(6, 178, 1)] rfl) (lw_mem [] [] rfl)
set_option maxRecDepth 20000 in
theorem it_X11_verdict : inT wsX11_verdict := it_cons (lw_mem [Cond.code yX11_verdict cX11_verdict 8 (some .int)] [(6, 175, 1)] rfl) (it_app (lw_mem wsX11_verdict_o1 [(4, 206, 1), (5, 171, 1), (4, 204, 1), (5, 18, 5), (6, 24, 1), (6, 26, 1), (0, 39, 1), (1, 13, 1), (6, 176, 2)] rfl) (it_app (it_app it_X110 it_X11_isCrate) it_X11_bits))
set_option maxRecDepth 20000 in
theorem it_X11_list : inT wsX11_list := it_cons (lw_mem [Cond.code yX11_list cX11_list 4 (some .int)] [(6, 182, 1)] rfl) (it_app (lw_mem wsX11_list_o1 [(4, 206, 1), (5, 209, 1), (5, 171, 1), (5, 23, 1), (5, 210, 1), (5, 24, 3), (5, 228, 2), (1, 13, 1), (5, 167, 2), (5, 206, 2)] rfl) (it_app (it_app it_X110 it_X11_isPerson) (it_app it_X11_isDay it_X11_in)))
set_option maxRecDepth 20000 in
theorem it_X11_isBarred : inT wsX11_isBarred := it_cons (lw_mem [Cond.code yX11_isBarred cX11_isBarred 8 (some .boolean)] [(6, 190, 1)] rfl) (it_app (lw_mem wsX11_isBarred_o1 [(5, 23, 1), (5, 25, 2), (5, 24, 1), (6, 191, 1), (6, 32, 1), (6, 34, 1), (0, 40, 1), (1, 13, 1), (5, 232, 1), (5, 234, 1), (0, 36, 1), (4, 214, 1), (4, 218, 1)] rfl) (it_app (it_app it_X110 it_X11_ownerOf) it_X11_shareOf))
set_option maxRecDepth 20000 in
theorem it_X11_barred : inT wsX11_barred := it_cons (lw_mem [Cond.code yX11_barred cX11_barred 3 (some .int)] [(6, 186, 1)] rfl) (it_app (lw_mem wsX11_barred_o1 [(4, 206, 1), (5, 171, 1), (6, 24, 1), (6, 26, 1), (0, 39, 1), (1, 13, 1), (5, 206, 2), (6, 187, 1), (6, 189, 1), (0, 53, 1)] rfl) (it_app (it_app it_X110 it_X11_isCrate) (it_app it_X11_isDay it_X11_isBarred)))
set_option maxRecDepth 20000 in
theorem it_X11_day : inT wsX11_day := it_cons (lw_mem [Cond.code yX11_day cX11_day 3 (some .int)] [(6, 195, 1)] rfl) (it_app (lw_mem wsX11_day_o1 [(4, 206, 1), (5, 171, 1), (5, 27, 1), (5, 206, 2), (1, 13, 1)] rfl) (it_app it_X110 it_X11_isDay))
set_option maxRecDepth 20000 in
theorem it_X11_owes : inT wsX11_owes := it_cons (lw_mem [Cond.code yX11_owes cX11_owes 4 (some .int)] [(6, 207, 1)] rfl) (it_app (lw_mem wsX11_owes_o1 [(4, 231, 2), (4, 235, 1), (5, 27, 1), (4, 233, 1)] rfl) it_X110)
set_option maxRecDepth 20000 in
theorem it_X11_kindOf : inT wsX11_kindOf := it_cons (lw_mem [Cond.code yX11_kindOf cX11_kindOf 3 (some .int)] [(6, 203, 1)] rfl) (it_app (lw_mem wsX11_kindOf_o1 [(5, 27, 1), (4, 223, 1), (6, 204, 1), (6, 206, 1), (0, 55, 1), (1, 13, 1), (6, 187, 1), (6, 189, 1), (0, 53, 1), (4, 214, 1)] rfl) (it_app (it_app it_X110 it_X11_owes) it_X11_isBarred))
set_option maxRecDepth 20000 in
theorem it_X11_isOf : inT wsX11_isOf := it_cons (lw_mem [Cond.code yX11_isOf cX11_isOf 2 (some .boolean)] [(6, 215, 1)] rfl) (lw_mem [] [] rfl)
set_option maxRecDepth 20000 in
theorem it_X11_kind : inT wsX11_kind := it_cons (lw_mem [Cond.code yX11_kind cX11_kind 2 (some .int)] [(6, 199, 1)] rfl) (it_app (lw_mem wsX11_kind_o1 [(4, 206, 1), (5, 171, 1), (6, 24, 1), (6, 26, 1), (0, 39, 1), (1, 13, 1), (6, 200, 1), (6, 202, 1), (0, 54, 1)] rfl) (it_app (it_app it_X110 it_X11_isCrate) it_X11_kindOf))
set_option maxRecDepth 20000 in
theorem it_X11_as : inT wsX11_as := it_cons (lw_mem [Cond.code yX11_as cX11_as 3 (some .int)] [(6, 211, 1)] rfl) (it_app (lw_mem wsX11_as_o1 [(4, 206, 1), (6, 212, 1), (5, 171, 1), (4, 208, 1), (4, 223, 1), (6, 24, 1), (6, 26, 1), (0, 39, 1), (1, 13, 1), (5, 167, 2), (6, 200, 1), (6, 202, 1), (0, 54, 1), (6, 213, 2), (5, 172, 1), (5, 174, 1), (0, 33, 1)] rfl) (it_app (it_app (it_app it_X110 it_X11_isCrate) it_X11_in) (it_app (it_app it_X11_kindOf it_X11_isOf) it_X11_found)))
set_option maxRecDepth 20000 in
theorem it_X11_began : inT wsX11_began := it_cons (lw_mem [Cond.code yX11_began cX11_began 2 none] [(6, 227, 1)] rfl) (it_app (lw_mem wsX11_began_o1 [(5, 29, 1), (5, 28, 1)] rfl) it_X110)
set_option maxRecDepth 20000 in
theorem it_X11_plainSize : inT wsX11_plainSize := it_cons (lw_mem [Cond.code yX11_plainSize cX11_plainSize 2 (some .int)] [(6, 235, 1)] rfl) (it_app (lw_mem wsX11_plainSize_o1 [(4, 223, 1), (6, 224, 1), (6, 226, 1), (0, 57, 1), (1, 13, 1)] rfl) (it_app it_X110 it_X11_began))
set_option maxRecDepth 20000 in
theorem it_X11_markOf : inT wsX11_markOf := it_cons (lw_mem [Cond.code yX11_markOf cX11_markOf 3 (some .int)] [(6, 231, 1)] rfl) (it_app (lw_mem wsX11_markOf_o1 [(5, 27, 1), (6, 213, 2), (1, 13, 1), (6, 224, 1), (6, 226, 1), (6, 32, 1), (6, 34, 1), (0, 40, 1), (6, 232, 1), (6, 234, 1), (0, 59, 1)] rfl) (it_app (it_app (it_app it_X110 it_X11_isOf) it_X11_began) (it_app it_X11_ownerOf it_X11_plainSize)))
set_option maxRecDepth 20000 in
theorem it_X11_sizeOf : inT wsX11_sizeOf := it_cons (lw_mem [Cond.code yX11_sizeOf cX11_sizeOf 4 (some .int)] [(6, 223, 1)] rfl) (it_app (lw_mem wsX11_sizeOf_o1 [(6, 224, 1), (6, 226, 1), (1, 13, 1), (6, 228, 1), (6, 230, 1), (0, 58, 1), (6, 213, 2), (6, 232, 1), (6, 234, 1), (6, 204, 1), (6, 206, 1), (0, 55, 1)] rfl) (it_app (it_app (it_app it_X110 it_X11_began) it_X11_markOf) (it_app (it_app it_X11_isOf it_X11_plainSize) it_X11_owes)))
set_option maxRecDepth 20000 in
theorem it_X11_ask : inT wsX11_ask := it_cons (lw_mem [Cond.code yX11_ask cX11_ask 3 (some .int)] [(6, 219, 1)] rfl) (it_app (lw_mem wsX11_ask_o1 [(4, 206, 1), (5, 171, 1), (5, 29, 1), (6, 24, 1), (6, 26, 1), (0, 39, 1), (1, 13, 1), (5, 167, 2), (6, 200, 1), (6, 202, 1), (0, 54, 1), (6, 220, 1), (6, 222, 1), (0, 56, 1), (6, 228, 1), (6, 230, 1)] rfl) (it_app (it_app (it_app it_X110 it_X11_isCrate) it_X11_in) (it_app (it_app it_X11_kindOf it_X11_sizeOf) it_X11_markOf)))
set_option maxRecDepth 20000 in
theorem it_X11_trace : inT wsX11_trace := it_cons (lw_mem [Cond.code yX11_trace cX11_trace 2 (some .int)] [(6, 239, 1)] rfl) (it_app (lw_mem wsX11_trace_o1 [(4, 206, 1), (5, 29, 1), (5, 28, 1), (4, 204, 1), (5, 167, 2), (1, 13, 1)] rfl) (it_app it_X110 it_X11_in))
set_option maxRecDepth 20000 in
theorem it_X11_count : inT wsX11_count := it_cons (lw_mem [Cond.code yX11_count cX11_count 4 (some .int)] [(7, 3, 1)] rfl) (it_app (lw_mem wsX11_count_o1 [(4, 206, 1), (4, 209, 1), (4, 212, 1), (4, 221, 1), (4, 224, 1), (4, 231, 1), (4, 236, 1), (5, 10, 1), (5, 18, 1), (5, 23, 1), (5, 1, 1), (5, 171, 1)] rfl) it_X110)
set_option maxRecDepth 20000 in
theorem it_X11_status : inT wsX11_status := it_cons (lw_mem [Cond.code yX11_status cX11_status 1 (some .int)] [(7, 7, 1)] rfl) (it_app (lw_mem wsX11_status_o1 [(4, 206, 1), (4, 208, 1)] rfl) it_X110)
-- it_X11_in it_X11_init it_X11_found it_X11_isSheet it_X11_sheet it_X11_set it_X11_copy it_X11_drop it_X11_isOwner it_X11_isPerson it_X11_isCompany it_X11_isDay it_X11_holding it_X11_hold it_X11_holds it_X11_percentOf it_X11_percent it_X11_findHas it_X11_rowsTo it_X11_shareOf it_X11_share it_X11_truly it_X11_rings it_X11_isCrate it_X11_crate it_X11_paper it_X11_ownerOf it_X11_owner it_X11_quarrels it_X11_pledge it_X11_keyOf it_X11_rank it_X11_feed it_X11_byteAt it_X11_isLetter it_X11_isFigure it_X11_step it_X11_bad it_X11_need it_X11_is it_X11_word it_X11_numberUpTo it_X11_duties it_X11_fault it_X11_act it_X11_wakes it_X11_duty it_X11_isRoom it_X11_room it_X11_insideOf it_X11_move it_X11_inside it_X11_lotOf it_X11_lot it_X11_drawnOn it_X11_drawn it_X11_often it_X11_opened it_X11_bits it_X11_verdict it_X11_list it_X11_isBarred it_X11_barred it_X11_day it_X11_owes it_X11_kindOf it_X11_isOf it_X11_kind it_X11_as it_X11_began it_X11_plainSize it_X11_markOf it_X11_sizeOf it_X11_ask it_X11_trace it_X11_count it_X11_status
end

section
def wsL_cell : List Cond := Cond.code yL_cell cL_cell 2 (some .int) :: ([] : List Cond)
def wsL_law_o1 : List Cond := [Cond.classLink RL 7 RX10, Cond.instantiable RX10 14, Cond.initialized RX10, Cond.classLink RL 18 RX11, Cond.instantiable RX11 64, Cond.initialized RX11, Cond.constantLong RL 90 (4294967295), Cond.methodLink RL 9 yL_cell, Cond.static yL_cell, Cond.initialized RL, Cond.methodLink RL 15 yX10_init, Cond.instanceMethod yX10_init, Cond.methodLink RL 20 yX11_init, Cond.instanceMethod yX11_init, Cond.methodLink RL 21 yX10_sheet, Cond.instanceMethod yX10_sheet, Cond.selects RX10 yX10_sheet yX10_sheet, Cond.methodLink RL 25 yX11_sheet, Cond.instanceMethod yX11_sheet, Cond.selects RX11 yX11_sheet yX11_sheet, Cond.methodLink RL 26 yX10_set, Cond.instanceMethod yX10_set, Cond.selects RX10 yX10_set yX10_set, Cond.methodLink RL 29 yX11_set]
def wsL_law_o2 : List Cond := [Cond.instanceMethod yX11_set, Cond.selects RX11 yX11_set yX11_set, Cond.methodLink RL 30 yX10_copy, Cond.instanceMethod yX10_copy, Cond.selects RX10 yX10_copy yX10_copy, Cond.methodLink RL 34 yX11_copy, Cond.instanceMethod yX11_copy, Cond.selects RX11 yX11_copy yX11_copy, Cond.methodLink RL 35 yX10_drop, Cond.instanceMethod yX10_drop, Cond.selects RX10 yX10_drop yX10_drop, Cond.methodLink RL 39 yX11_drop, Cond.instanceMethod yX11_drop, Cond.selects RX11 yX11_drop yX11_drop, Cond.methodLink RL 40 yX10_hold, Cond.instanceMethod yX10_hold, Cond.methodLink RL 44 yX11_hold, Cond.instanceMethod yX11_hold, Cond.selects RX11 yX11_hold yX11_hold, Cond.methodLink RL 45 yX10_holds, Cond.instanceMethod yX10_holds, Cond.selects RX10 yX10_holds yX10_holds, Cond.methodLink RL 48 yX11_holds, Cond.instanceMethod yX11_holds]
def wsL_law_o3 : List Cond := [Cond.selects RX11 yX11_holds yX11_holds, Cond.methodLink RL 49 yX10_percent, Cond.instanceMethod yX10_percent, Cond.selects RX10 yX10_percent yX10_percent, Cond.methodLink RL 52 yX11_percent, Cond.instanceMethod yX11_percent, Cond.selects RX11 yX11_percent yX11_percent, Cond.methodLink RL 53 yX10_share, Cond.instanceMethod yX10_share, Cond.selects RX10 yX10_share yX10_share, Cond.methodLink RL 56 yX11_share, Cond.instanceMethod yX11_share, Cond.selects RX11 yX11_share yX11_share, Cond.methodLink RL 57 yX10_truly, Cond.instanceMethod yX10_truly, Cond.selects RX10 yX10_truly yX10_truly, Cond.methodLink RL 61 yX11_truly, Cond.instanceMethod yX11_truly, Cond.selects RX11 yX11_truly yX11_truly, Cond.methodLink RL 62 yX10_rings, Cond.instanceMethod yX10_rings, Cond.selects RX10 yX10_rings yX10_rings, Cond.methodLink RL 65 yX11_rings, Cond.instanceMethod yX11_rings]
def wsL_law_o4 : List Cond := [Cond.selects RX11 yX11_rings yX11_rings, Cond.methodLink RL 66 yX10_crate, Cond.instanceMethod yX10_crate, Cond.selects RX10 yX10_crate yX10_crate, Cond.methodLink RL 69 yX11_crate, Cond.instanceMethod yX11_crate, Cond.selects RX11 yX11_crate yX11_crate, Cond.methodLink RL 70 yX10_paper, Cond.instanceMethod yX10_paper, Cond.selects RX10 yX10_paper yX10_paper, Cond.methodLink RL 73 yX11_paper, Cond.instanceMethod yX11_paper, Cond.selects RX11 yX11_paper yX11_paper, Cond.methodLink RL 74 yX10_owner, Cond.instanceMethod yX10_owner, Cond.selects RX10 yX10_owner yX10_owner, Cond.methodLink RL 77 yX11_owner, Cond.instanceMethod yX11_owner, Cond.selects RX11 yX11_owner yX11_owner, Cond.methodLink RL 78 yX10_quarrels, Cond.instanceMethod yX10_quarrels, Cond.selects RX10 yX10_quarrels yX10_quarrels, Cond.methodLink RL 81 yX11_quarrels, Cond.instanceMethod yX11_quarrels]
def wsL_law_o5 : List Cond := [Cond.selects RX11 yX11_quarrels yX11_quarrels, Cond.methodLink RL 82 yX10_pledge, Cond.instanceMethod yX10_pledge, Cond.selects RX10 yX10_pledge yX10_pledge, Cond.methodLink RL 85 yX11_pledge, Cond.instanceMethod yX11_pledge, Cond.selects RX11 yX11_pledge yX11_pledge, Cond.methodLink RL 86 yX10_rank, Cond.instanceMethod yX10_rank, Cond.selects RX10 yX10_rank yX10_rank, Cond.methodLink RL 89 yX11_rank, Cond.instanceMethod yX11_rank, Cond.selects RX11 yX11_rank yX11_rank, Cond.methodLink RL 92 yX10_feed, Cond.instanceMethod yX10_feed, Cond.selects RX10 yX10_feed yX10_feed, Cond.methodLink RL 96 yX11_feed, Cond.instanceMethod yX11_feed, Cond.selects RX11 yX11_feed yX11_feed, Cond.methodLink RL 97 yX10_duties, Cond.instanceMethod yX10_duties, Cond.selects RX10 yX10_duties yX10_duties, Cond.methodLink RL 101 yX11_duties, Cond.instanceMethod yX11_duties]
def wsL_law_o6 : List Cond := [Cond.selects RX11 yX11_duties yX11_duties, Cond.methodLink RL 102 yX10_fault, Cond.instanceMethod yX10_fault, Cond.selects RX10 yX10_fault yX10_fault, Cond.methodLink RL 105 yX11_fault, Cond.instanceMethod yX11_fault, Cond.selects RX11 yX11_fault yX11_fault, Cond.methodLink RL 106 yX10_act, Cond.instanceMethod yX10_act, Cond.selects RX10 yX10_act yX10_act, Cond.methodLink RL 109 yX11_act, Cond.instanceMethod yX11_act, Cond.selects RX11 yX11_act yX11_act, Cond.methodLink RL 110 yX10_duty, Cond.instanceMethod yX10_duty, Cond.selects RX10 yX10_duty yX10_duty, Cond.methodLink RL 113 yX11_duty, Cond.instanceMethod yX11_duty, Cond.selects RX11 yX11_duty yX11_duty, Cond.methodLink RL 114 yX10_room, Cond.instanceMethod yX10_room, Cond.selects RX10 yX10_room yX10_room, Cond.methodLink RL 117 yX11_room, Cond.instanceMethod yX11_room]
def wsL_law_o7 : List Cond := [Cond.selects RX11 yX11_room yX11_room, Cond.methodLink RL 118 yX10_move, Cond.instanceMethod yX10_move, Cond.selects RX10 yX10_move yX10_move, Cond.methodLink RL 121 yX11_move, Cond.instanceMethod yX11_move, Cond.selects RX11 yX11_move yX11_move, Cond.methodLink RL 122 yX10_inside, Cond.instanceMethod yX10_inside, Cond.selects RX10 yX10_inside yX10_inside, Cond.methodLink RL 125 yX11_inside, Cond.instanceMethod yX11_inside, Cond.selects RX11 yX11_inside yX11_inside, Cond.methodLink RL 126 yX10_lot, Cond.instanceMethod yX10_lot, Cond.selects RX10 yX10_lot yX10_lot, Cond.methodLink RL 129 yX11_lot, Cond.instanceMethod yX11_lot, Cond.selects RX11 yX11_lot yX11_lot, Cond.methodLink RL 130 yX10_drawn, Cond.instanceMethod yX10_drawn, Cond.selects RX10 yX10_drawn yX10_drawn, Cond.methodLink RL 133 yX11_drawn, Cond.instanceMethod yX11_drawn]
def wsL_law_o8 : List Cond := [Cond.selects RX11 yX11_drawn yX11_drawn, Cond.methodLink RL 134 yX10_often, Cond.instanceMethod yX10_often, Cond.selects RX10 yX10_often yX10_often, Cond.methodLink RL 137 yX11_often, Cond.instanceMethod yX11_often, Cond.selects RX11 yX11_often yX11_often, Cond.methodLink RL 138 yX10_opened, Cond.instanceMethod yX10_opened, Cond.selects RX10 yX10_opened yX10_opened, Cond.methodLink RL 141 yX11_opened, Cond.instanceMethod yX11_opened, Cond.selects RX11 yX11_opened yX11_opened, Cond.methodLink RL 142 yX10_verdict, Cond.instanceMethod yX10_verdict, Cond.selects RX10 yX10_verdict yX10_verdict, Cond.methodLink RL 145 yX11_verdict, Cond.instanceMethod yX11_verdict, Cond.selects RX11 yX11_verdict yX11_verdict, Cond.methodLink RL 146 yX10_list, Cond.instanceMethod yX10_list, Cond.selects RX10 yX10_list yX10_list, Cond.methodLink RL 149 yX11_list, Cond.instanceMethod yX11_list]
def wsL_law_o9 : List Cond := [Cond.selects RX11 yX11_list yX11_list, Cond.methodLink RL 150 yX10_barred, Cond.instanceMethod yX10_barred, Cond.selects RX10 yX10_barred yX10_barred, Cond.methodLink RL 153 yX11_barred, Cond.instanceMethod yX11_barred, Cond.selects RX11 yX11_barred yX11_barred, Cond.methodLink RL 154 yX10_day, Cond.instanceMethod yX10_day, Cond.selects RX10 yX10_day yX10_day, Cond.methodLink RL 157 yX11_day, Cond.instanceMethod yX11_day, Cond.selects RX11 yX11_day yX11_day, Cond.methodLink RL 158 yX10_kind, Cond.instanceMethod yX10_kind, Cond.selects RX10 yX10_kind yX10_kind, Cond.methodLink RL 161 yX11_kind, Cond.instanceMethod yX11_kind, Cond.selects RX11 yX11_kind yX11_kind, Cond.methodLink RL 162 yX10_as, Cond.instanceMethod yX10_as, Cond.selects RX10 yX10_as yX10_as, Cond.methodLink RL 165 yX11_as, Cond.instanceMethod yX11_as]
def wsL_law_o10 : List Cond := [Cond.selects RX11 yX11_as yX11_as, Cond.methodLink RL 166 yX10_ask, Cond.instanceMethod yX10_ask, Cond.selects RX10 yX10_ask yX10_ask, Cond.methodLink RL 169 yX11_ask, Cond.instanceMethod yX11_ask, Cond.selects RX11 yX11_ask yX11_ask, Cond.methodLink RL 170 yX10_trace, Cond.instanceMethod yX10_trace, Cond.selects RX10 yX10_trace yX10_trace, Cond.methodLink RL 173 yX11_trace, Cond.instanceMethod yX11_trace, Cond.selects RX11 yX11_trace yX11_trace, Cond.methodLink RL 174 yX10_count, Cond.instanceMethod yX10_count, Cond.selects RX10 yX10_count yX10_count, Cond.methodLink RL 177 yX11_count, Cond.instanceMethod yX11_count, Cond.selects RX11 yX11_count yX11_count, Cond.methodLink RL 178 yX10_status, Cond.instanceMethod yX10_status, Cond.selects RX10 yX10_status yX10_status, Cond.methodLink RL 181 yX11_status, Cond.instanceMethod yX11_status]
def wsL_law_o11 : List Cond := [Cond.selects RX11 yX11_status yX11_status]
def wsL_law : List Cond := (((((wsL_law_o1 ++ wsL_law_o2) ++ wsL_law_o3) ++ ((wsL_law_o4 ++ wsL_law_o5) ++ wsL_law_o6)) ++ (((wsL_law_o7 ++ wsL_law_o8) ++ wsL_law_o9) ++ (wsL_law_o10 ++ wsL_law_o11))) ++ (((((((wsX100 ++ wsX110) ++ wsX90) ++ ((wsX30 ++ wsX10) ++ wsX70)) ++ (((wsX80 ++ wsX20) ++ wsX00) ++ ((wsX60 ++ wsX40) ++ wsX50))) ++ ((((wsL_cell ++ wsX10_init) ++ wsX11_init) ++ ((wsX10_sheet ++ wsX11_sheet) ++ wsX10_set)) ++ (((wsX11_set ++ wsX10_copy) ++ wsX11_copy) ++ (wsX10_drop ++ wsX11_drop)))) ++ (((((wsX10_hold ++ wsX11_hold) ++ wsX10_holds) ++ ((wsX11_holds ++ wsX10_percent) ++ wsX11_percent)) ++ (((wsX10_share ++ wsX11_share) ++ wsX10_truly) ++ ((wsX11_truly ++ wsX10_rings) ++ wsX11_rings))) ++ ((((wsX10_crate ++ wsX11_crate) ++ wsX10_paper) ++ ((wsX11_paper ++ wsX10_owner) ++ wsX11_owner)) ++ (((wsX10_quarrels ++ wsX11_quarrels) ++ wsX10_pledge) ++ (wsX11_pledge ++ wsX10_rank))))) ++ ((((((wsX11_rank ++ wsX10_feed) ++ wsX11_feed) ++ ((wsX10_duties ++ wsX11_duties) ++ wsX10_fault)) ++ (((wsX11_fault ++ wsX10_act) ++ wsX11_act) ++ ((wsX10_duty ++ wsX11_duty) ++ wsX10_room))) ++ ((((wsX11_room ++ wsX10_move) ++ wsX11_move) ++ ((wsX10_inside ++ wsX11_inside) ++ wsX10_lot)) ++ (((wsX11_lot ++ wsX10_drawn) ++ wsX11_drawn) ++ (wsX10_often ++ wsX11_often)))) ++ (((((wsX10_opened ++ wsX11_opened) ++ wsX10_verdict) ++ ((wsX11_verdict ++ wsX10_list) ++ wsX11_list)) ++ (((wsX10_barred ++ wsX11_barred) ++ wsX10_day) ++ (wsX11_day ++ wsX10_kind))) ++ ((((wsX11_kind ++ wsX10_as) ++ wsX11_as) ++ ((wsX10_ask ++ wsX11_ask) ++ wsX10_trace)) ++ (((wsX11_trace ++ wsX10_count) ++ wsX11_count) ++ (wsX10_status ++ wsX11_status)))))))
set_option maxRecDepth 20000 in
theorem it_L_cell : inT wsL_cell := it_cons (lw_mem [Cond.code yL_cell cL_cell 2 (some .int)] [(4, 197, 1)] rfl) (lw_mem [] [] rfl)
set_option maxRecDepth 20000 in
theorem wsL_law_in : ∀ w ∈ wsL_law, w ∈ lw_tbl := (it_app (it_app (it_app (it_app (it_app (lw_mem wsL_law_o1 [(1, 21, 2), (1, 1, 1), (4, 198, 2), (1, 13, 1), (7, 8, 1), (4, 195, 2), (1, 0, 1), (1, 23, 2), (4, 200, 2), (2, 123, 3), (5, 159, 3), (2, 144, 3), (5, 177, 1)] rfl) (lw_mem wsL_law_o2 [(5, 178, 2), (2, 160, 3), (5, 181, 3), (2, 167, 3), (5, 185, 3), (2, 175, 2), (5, 189, 3), (2, 199, 3), (5, 211, 2)] rfl)) (lw_mem wsL_law_o3 [(5, 213, 1), (2, 204, 3), (5, 216, 3), (2, 232, 3), (5, 224, 3), (3, 13, 3), (6, 7, 3), (3, 18, 3), (6, 11, 2)] rfl)) (it_app (it_app (lw_mem wsL_law_o4 [(6, 13, 1), (3, 23, 3), (6, 15, 3), (3, 32, 3), (6, 20, 3), (3, 51, 3), (6, 28, 3), (3, 63, 3), (6, 36, 2)] rfl) (lw_mem wsL_law_o5 [(6, 38, 1), (3, 71, 3), (6, 40, 3), (3, 79, 3), (6, 44, 3), (3, 106, 3), (6, 53, 3), (3, 114, 3), (6, 59, 2)] rfl)) (lw_mem wsL_law_o6 [(6, 61, 1), (3, 199, 3), (6, 103, 3), (3, 203, 3), (6, 107, 3), (3, 211, 3), (6, 112, 3), (3, 224, 3), (6, 120, 2)] rfl))) (it_app (it_app (it_app (lw_mem wsL_law_o7 [(6, 122, 1), (3, 229, 3), (6, 129, 3), (4, 13, 3), (6, 138, 3), (4, 20, 3), (6, 142, 3), (4, 33, 3), (6, 156, 2)] rfl) (lw_mem wsL_law_o8 [(6, 158, 1), (4, 51, 3), (6, 164, 3), (4, 55, 3), (6, 168, 3), (4, 63, 3), (6, 172, 3), (4, 86, 3), (6, 179, 2)] rfl)) (lw_mem wsL_law_o9 [(6, 181, 1), (4, 94, 3), (6, 183, 3), (4, 107, 3), (6, 192, 3), (4, 111, 3), (6, 196, 3), (4, 123, 3), (6, 208, 2)] rfl)) (it_app (lw_mem wsL_law_o10 [(6, 210, 1), (4, 130, 3), (6, 216, 3), (4, 178, 3), (6, 236, 3), (4, 182, 3), (7, 0, 3), (4, 191, 3), (7, 4, 2)] rfl) (lw_mem wsL_law_o11 [(7, 6, 1)] rfl)))) (it_app (it_app (it_app (it_app (it_app (it_app (it_app it_X100 it_X110) it_X90) (it_app (it_app it_X30 it_X10) it_X70)) (it_app (it_app (it_app it_X80 it_X20) it_X00) (it_app (it_app it_X60 it_X40) it_X50))) (it_app (it_app (it_app (it_app it_L_cell it_X10_init) it_X11_init) (it_app (it_app it_X10_sheet it_X11_sheet) it_X10_set)) (it_app (it_app (it_app it_X11_set it_X10_copy) it_X11_copy) (it_app it_X10_drop it_X11_drop)))) (it_app (it_app (it_app (it_app (it_app it_X10_hold it_X11_hold) it_X10_holds) (it_app (it_app it_X11_holds it_X10_percent) it_X11_percent)) (it_app (it_app (it_app it_X10_share it_X11_share) it_X10_truly) (it_app (it_app it_X11_truly it_X10_rings) it_X11_rings))) (it_app (it_app (it_app (it_app it_X10_crate it_X11_crate) it_X10_paper) (it_app (it_app it_X11_paper it_X10_owner) it_X11_owner)) (it_app (it_app (it_app it_X10_quarrels it_X11_quarrels) it_X10_pledge) (it_app it_X11_pledge it_X10_rank))))) (it_app (it_app (it_app (it_app (it_app (it_app it_X11_rank it_X10_feed) it_X11_feed) (it_app (it_app it_X10_duties it_X11_duties) it_X10_fault)) (it_app (it_app (it_app it_X11_fault it_X10_act) it_X11_act) (it_app (it_app it_X10_duty it_X11_duty) it_X10_room))) (it_app (it_app (it_app (it_app it_X11_room it_X10_move) it_X11_move) (it_app (it_app it_X10_inside it_X11_inside) it_X10_lot)) (it_app (it_app (it_app it_X11_lot it_X10_drawn) it_X11_drawn) (it_app it_X10_often it_X11_often)))) (it_app (it_app (it_app (it_app (it_app it_X10_opened it_X11_opened) it_X10_verdict) (it_app (it_app it_X11_verdict it_X10_list) it_X11_list)) (it_app (it_app (it_app it_X10_barred it_X11_barred) it_X10_day) (it_app it_X11_day it_X10_kind))) (it_app (it_app (it_app (it_app it_X11_kind it_X10_as) it_X11_as) (it_app (it_app it_X10_ask it_X11_ask) it_X10_trace)) (it_app (it_app (it_app it_X11_trace it_X10_count) it_X11_count) (it_app it_X10_status it_X11_status)))))))
-- wsL_law_in
end

section
theorem inX0_init_X0 : ∀ w ∈ u_ws RX0 TX0 5, w ∈ wsX0_init := fun _ h => (List.mem_cons_of_mem _ (List.mem_append_right _ h))
theorem inX1_init_X1 : ∀ w ∈ u_ws RX1 TX1 6, w ∈ wsX1_init := fun _ h => (List.mem_cons_of_mem _ (List.mem_append_right _ (List.mem_append_left _ h)))
theorem inX2_init_X2 : ∀ w ∈ u_ws RX2 TX2 15, w ∈ wsX2_init := fun _ h => (List.mem_cons_of_mem _ (List.mem_append_right _ h))
theorem inX3_init_X3 : ∀ w ∈ u_ws RX3 TX3 9, w ∈ wsX3_init := fun _ h => (List.mem_cons_of_mem _ (List.mem_append_right _ h))
theorem inX4_init_X4 : ∀ w ∈ u_ws RX4 TX4 4, w ∈ wsX4_init := fun _ h => (List.mem_cons_of_mem _ (List.mem_append_right _ h))
theorem inX5_init_X5 : ∀ w ∈ u_ws RX5 TX5 2, w ∈ wsX5_init := fun _ h => (List.mem_cons_of_mem _ (List.mem_append_right _ h))
theorem inX6_init_X6 : ∀ w ∈ u_ws RX6 TX6 5, w ∈ wsX6_init := fun _ h => (List.mem_cons_of_mem _ (List.mem_append_right _ h))
theorem inX7_init_X7 : ∀ w ∈ u_ws RX7 TX7 7, w ∈ wsX7_init := fun _ h => (List.mem_cons_of_mem _ (List.mem_append_right _ h))
theorem inX8_init_X8 : ∀ w ∈ u_ws RX8 TX8 6, w ∈ wsX8_init := fun _ h => (List.mem_cons_of_mem _ (List.mem_append_right _ h))
theorem inX9_init_X9 : ∀ w ∈ u_ws RX9 TX9 3, w ∈ wsX9_init := fun _ h => (List.mem_cons_of_mem _ (List.mem_append_right _ (List.mem_append_left _ h)))
theorem dX0_init_all0 : decode cX0_init 0 = .ok (.aload_n 0, 1) ∧ decode cX0_init 1 = .ok (.invokespecial 3, 3) ∧ decode cX0_init 4 = .ok (.aload_n 0, 1) ∧ decode cX0_init 5 = .ok (.bipush 60, 2) ∧ decode cX0_init 7 = .ok (.newarray .int, 2) ∧ decode cX0_init 9 = .ok (.putfield 9, 3) ∧ decode cX0_init 12 = .ok (.aload_n 0, 1) ∧ decode cX0_init 13 = .ok (.bipush 60, 2) ∧ decode cX0_init 15 = .ok (.newarray .int, 2) ∧ decode cX0_init 17 = .ok (.putfield 15, 3) ∧ decode cX0_init 20 = .ok (.aload_n 0, 1) ∧ decode cX0_init 21 = .ok (.bipush 60, 2) := by decide +kernel
theorem dX0_init_0 : decode cX0_init 0 = .ok (.aload_n 0, 1) := dX0_init_all0.1
theorem dX0_init_1 : decode cX0_init 1 = .ok (.invokespecial 3, 3) := dX0_init_all0.2.1
theorem dX0_init_4 : decode cX0_init 4 = .ok (.aload_n 0, 1) := dX0_init_all0.2.2.1
theorem dX0_init_5 : decode cX0_init 5 = .ok (.bipush 60, 2) := dX0_init_all0.2.2.2.1
theorem dX0_init_7 : decode cX0_init 7 = .ok (.newarray .int, 2) := dX0_init_all0.2.2.2.2.1
theorem dX0_init_9 : decode cX0_init 9 = .ok (.putfield 9, 3) := dX0_init_all0.2.2.2.2.2.1
theorem dX0_init_12 : decode cX0_init 12 = .ok (.aload_n 0, 1) := dX0_init_all0.2.2.2.2.2.2.1
theorem dX0_init_13 : decode cX0_init 13 = .ok (.bipush 60, 2) := dX0_init_all0.2.2.2.2.2.2.2.1
theorem dX0_init_15 : decode cX0_init 15 = .ok (.newarray .int, 2) := dX0_init_all0.2.2.2.2.2.2.2.2.1
theorem dX0_init_17 : decode cX0_init 17 = .ok (.putfield 15, 3) := dX0_init_all0.2.2.2.2.2.2.2.2.2.1
theorem dX0_init_20 : decode cX0_init 20 = .ok (.aload_n 0, 1) := dX0_init_all0.2.2.2.2.2.2.2.2.2.2.1
theorem dX0_init_21 : decode cX0_init 21 = .ok (.bipush 60, 2) := dX0_init_all0.2.2.2.2.2.2.2.2.2.2.2
theorem dX0_init_all1 : decode cX0_init 23 = .ok (.newarray .int, 2) ∧ decode cX0_init 25 = .ok (.putfield 18, 3) ∧ decode cX0_init 28 = .ok (.aload_n 0, 1) ∧ decode cX0_init 29 = .ok (.bipush 60, 2) ∧ decode cX0_init 31 = .ok (.newarray .int, 2) ∧ decode cX0_init 33 = .ok (.putfield 21, 3) ∧ decode cX0_init 36 = .ok (.return_, 1) := by decide +kernel
theorem dX0_init_23 : decode cX0_init 23 = .ok (.newarray .int, 2) := dX0_init_all1.1
theorem dX0_init_25 : decode cX0_init 25 = .ok (.putfield 18, 3) := dX0_init_all1.2.1
theorem dX0_init_28 : decode cX0_init 28 = .ok (.aload_n 0, 1) := dX0_init_all1.2.2.1
theorem dX0_init_29 : decode cX0_init 29 = .ok (.bipush 60, 2) := dX0_init_all1.2.2.2.1
theorem dX0_init_31 : decode cX0_init 31 = .ok (.newarray .int, 2) := dX0_init_all1.2.2.2.2.1
theorem dX0_init_33 : decode cX0_init 33 = .ok (.putfield 21, 3) := dX0_init_all1.2.2.2.2.2.1
theorem dX0_init_36 : decode cX0_init 36 = .ok (.return_, 1) := dX0_init_all1.2.2.2.2.2.2
theorem ggX1_init_J7_fill_53178 : GoodIn wsX1_init wsJ7_fill_53178 := goodIn_s (fun _ h => wm_t (wm_r (wm_r h))) Gd_J7_fill_53178
theorem gX1_init_J7_fill_53178 : GoodIn wsX1_init (va_wsS RX1 28 yJ7_fill_53178 wsJ7_fill_53178) := goodIn_S (own := RX1) (idx := 28) (y := yJ7_fill_53178) (wm_t (wm_l (wm_i 11 rfl))) (wm_t (wm_l (wm_i 12 rfl))) (wm_t (wm_l (wm_i 13 rfl))) ggX1_init_J7_fill_53178
theorem dX1_init_all0 : decode cX1_init 0 = .ok (.aload_n 0, 1) ∧ decode cX1_init 1 = .ok (.invokespecial 3, 3) ∧ decode cX1_init 4 = .ok (.aload_n 0, 1) ∧ decode cX1_init 5 = .ok (.bipush 12, 2) ∧ decode cX1_init 7 = .ok (.newarray .int, 2) ∧ decode cX1_init 9 = .ok (.putfield 9, 3) ∧ decode cX1_init 12 = .ok (.aload_n 0, 1) ∧ decode cX1_init 13 = .ok (.bipush 12, 2) ∧ decode cX1_init 15 = .ok (.newarray .int, 2) ∧ decode cX1_init 17 = .ok (.putfield 15, 3) ∧ decode cX1_init 20 = .ok (.aload_n 0, 1) ∧ decode cX1_init 21 = .ok (.bipush 12, 2) := by decide +kernel
theorem dX1_init_0 : decode cX1_init 0 = .ok (.aload_n 0, 1) := dX1_init_all0.1
theorem dX1_init_1 : decode cX1_init 1 = .ok (.invokespecial 3, 3) := dX1_init_all0.2.1
theorem dX1_init_4 : decode cX1_init 4 = .ok (.aload_n 0, 1) := dX1_init_all0.2.2.1
theorem dX1_init_5 : decode cX1_init 5 = .ok (.bipush 12, 2) := dX1_init_all0.2.2.2.1
theorem dX1_init_7 : decode cX1_init 7 = .ok (.newarray .int, 2) := dX1_init_all0.2.2.2.2.1
theorem dX1_init_9 : decode cX1_init 9 = .ok (.putfield 9, 3) := dX1_init_all0.2.2.2.2.2.1
theorem dX1_init_12 : decode cX1_init 12 = .ok (.aload_n 0, 1) := dX1_init_all0.2.2.2.2.2.2.1
theorem dX1_init_13 : decode cX1_init 13 = .ok (.bipush 12, 2) := dX1_init_all0.2.2.2.2.2.2.2.1
theorem dX1_init_15 : decode cX1_init 15 = .ok (.newarray .int, 2) := dX1_init_all0.2.2.2.2.2.2.2.2.1
theorem dX1_init_17 : decode cX1_init 17 = .ok (.putfield 15, 3) := dX1_init_all0.2.2.2.2.2.2.2.2.2.1
theorem dX1_init_20 : decode cX1_init 20 = .ok (.aload_n 0, 1) := dX1_init_all0.2.2.2.2.2.2.2.2.2.2.1
theorem dX1_init_21 : decode cX1_init 21 = .ok (.bipush 12, 2) := dX1_init_all0.2.2.2.2.2.2.2.2.2.2.2
theorem dX1_init_all1 : decode cX1_init 23 = .ok (.newarray .int, 2) ∧ decode cX1_init 25 = .ok (.putfield 18, 3) ∧ decode cX1_init 28 = .ok (.aload_n 0, 1) ∧ decode cX1_init 29 = .ok (.bipush 6, 2) ∧ decode cX1_init 31 = .ok (.newarray .int, 2) ∧ decode cX1_init 33 = .ok (.putfield 21, 3) ∧ decode cX1_init 36 = .ok (.aload_n 0, 1) ∧ decode cX1_init 37 = .ok (.bipush 6, 2) ∧ decode cX1_init 39 = .ok (.newarray .int, 2) ∧ decode cX1_init 41 = .ok (.putfield 24, 3) ∧ decode cX1_init 44 = .ok (.aload_n 0, 1) ∧ decode cX1_init 45 = .ok (.getfield 18, 3) := by decide +kernel
theorem dX1_init_23 : decode cX1_init 23 = .ok (.newarray .int, 2) := dX1_init_all1.1
theorem dX1_init_25 : decode cX1_init 25 = .ok (.putfield 18, 3) := dX1_init_all1.2.1
theorem dX1_init_28 : decode cX1_init 28 = .ok (.aload_n 0, 1) := dX1_init_all1.2.2.1
theorem dX1_init_29 : decode cX1_init 29 = .ok (.bipush 6, 2) := dX1_init_all1.2.2.2.1
theorem dX1_init_31 : decode cX1_init 31 = .ok (.newarray .int, 2) := dX1_init_all1.2.2.2.2.1
theorem dX1_init_33 : decode cX1_init 33 = .ok (.putfield 21, 3) := dX1_init_all1.2.2.2.2.2.1
theorem dX1_init_36 : decode cX1_init 36 = .ok (.aload_n 0, 1) := dX1_init_all1.2.2.2.2.2.2.1
theorem dX1_init_37 : decode cX1_init 37 = .ok (.bipush 6, 2) := dX1_init_all1.2.2.2.2.2.2.2.1
theorem dX1_init_39 : decode cX1_init 39 = .ok (.newarray .int, 2) := dX1_init_all1.2.2.2.2.2.2.2.2.1
theorem dX1_init_41 : decode cX1_init 41 = .ok (.putfield 24, 3) := dX1_init_all1.2.2.2.2.2.2.2.2.2.1
theorem dX1_init_44 : decode cX1_init 44 = .ok (.aload_n 0, 1) := dX1_init_all1.2.2.2.2.2.2.2.2.2.2.1
theorem dX1_init_45 : decode cX1_init 45 = .ok (.getfield 18, 3) := dX1_init_all1.2.2.2.2.2.2.2.2.2.2.2
theorem dX1_init_all2 : decode cX1_init 48 = .ok (.ldc 27, 2) ∧ decode cX1_init 50 = .ok (.invokestatic 28, 3) ∧ decode cX1_init 53 = .ok (.aload_n 0, 1) ∧ decode cX1_init 54 = .ok (.getfield 21, 3) ∧ decode cX1_init 57 = .ok (.iconst 4, 1) ∧ decode cX1_init 58 = .ok (.invokestatic 28, 3) ∧ decode cX1_init 61 = .ok (.aload_n 0, 1) ∧ decode cX1_init 62 = .ok (.getfield 24, 3) ∧ decode cX1_init 65 = .ok (.ldc 34, 2) ∧ decode cX1_init 67 = .ok (.invokestatic 28, 3) ∧ decode cX1_init 70 = .ok (.return_, 1) := by decide +kernel
theorem dX1_init_48 : decode cX1_init 48 = .ok (.ldc 27, 2) := dX1_init_all2.1
theorem dX1_init_50 : decode cX1_init 50 = .ok (.invokestatic 28, 3) := dX1_init_all2.2.1
theorem dX1_init_53 : decode cX1_init 53 = .ok (.aload_n 0, 1) := dX1_init_all2.2.2.1
theorem dX1_init_54 : decode cX1_init 54 = .ok (.getfield 21, 3) := dX1_init_all2.2.2.2.1
theorem dX1_init_57 : decode cX1_init 57 = .ok (.iconst 4, 1) := dX1_init_all2.2.2.2.2.1
theorem dX1_init_58 : decode cX1_init 58 = .ok (.invokestatic 28, 3) := dX1_init_all2.2.2.2.2.2.1
theorem dX1_init_61 : decode cX1_init 61 = .ok (.aload_n 0, 1) := dX1_init_all2.2.2.2.2.2.2.1
theorem dX1_init_62 : decode cX1_init 62 = .ok (.getfield 24, 3) := dX1_init_all2.2.2.2.2.2.2.2.1
theorem dX1_init_65 : decode cX1_init 65 = .ok (.ldc 34, 2) := dX1_init_all2.2.2.2.2.2.2.2.2.1
theorem dX1_init_67 : decode cX1_init 67 = .ok (.invokestatic 28, 3) := dX1_init_all2.2.2.2.2.2.2.2.2.2.1
theorem dX1_init_70 : decode cX1_init 70 = .ok (.return_, 1) := dX1_init_all2.2.2.2.2.2.2.2.2.2.2
theorem dX2_init_all0 : decode cX2_init 0 = .ok (.aload_n 0, 1) ∧ decode cX2_init 1 = .ok (.invokespecial 3, 3) ∧ decode cX2_init 4 = .ok (.aload_n 0, 1) ∧ decode cX2_init 5 = .ok (.sipush 300, 3) ∧ decode cX2_init 8 = .ok (.newarray .byte, 2) ∧ decode cX2_init 10 = .ok (.putfield 11, 3) ∧ decode cX2_init 13 = .ok (.aload_n 0, 1) ∧ decode cX2_init 14 = .ok (.bipush 12, 2) ∧ decode cX2_init 16 = .ok (.newarray .int, 2) ∧ decode cX2_init 18 = .ok (.putfield 15, 3) ∧ decode cX2_init 21 = .ok (.aload_n 0, 1) ∧ decode cX2_init 22 = .ok (.bipush 12, 2) := by decide +kernel
theorem dX2_init_0 : decode cX2_init 0 = .ok (.aload_n 0, 1) := dX2_init_all0.1
theorem dX2_init_1 : decode cX2_init 1 = .ok (.invokespecial 3, 3) := dX2_init_all0.2.1
theorem dX2_init_4 : decode cX2_init 4 = .ok (.aload_n 0, 1) := dX2_init_all0.2.2.1
theorem dX2_init_5 : decode cX2_init 5 = .ok (.sipush 300, 3) := dX2_init_all0.2.2.2.1
theorem dX2_init_8 : decode cX2_init 8 = .ok (.newarray .byte, 2) := dX2_init_all0.2.2.2.2.1
theorem dX2_init_10 : decode cX2_init 10 = .ok (.putfield 11, 3) := dX2_init_all0.2.2.2.2.2.1
theorem dX2_init_13 : decode cX2_init 13 = .ok (.aload_n 0, 1) := dX2_init_all0.2.2.2.2.2.2.1
theorem dX2_init_14 : decode cX2_init 14 = .ok (.bipush 12, 2) := dX2_init_all0.2.2.2.2.2.2.2.1
theorem dX2_init_16 : decode cX2_init 16 = .ok (.newarray .int, 2) := dX2_init_all0.2.2.2.2.2.2.2.2.1
theorem dX2_init_18 : decode cX2_init 18 = .ok (.putfield 15, 3) := dX2_init_all0.2.2.2.2.2.2.2.2.2.1
theorem dX2_init_21 : decode cX2_init 21 = .ok (.aload_n 0, 1) := dX2_init_all0.2.2.2.2.2.2.2.2.2.2.1
theorem dX2_init_22 : decode cX2_init 22 = .ok (.bipush 12, 2) := dX2_init_all0.2.2.2.2.2.2.2.2.2.2.2
theorem dX2_init_all1 : decode cX2_init 24 = .ok (.newarray .int, 2) ∧ decode cX2_init 26 = .ok (.putfield 19, 3) ∧ decode cX2_init 29 = .ok (.aload_n 0, 1) ∧ decode cX2_init 30 = .ok (.bipush 12, 2) ∧ decode cX2_init 32 = .ok (.newarray .int, 2) ∧ decode cX2_init 34 = .ok (.putfield 22, 3) ∧ decode cX2_init 37 = .ok (.aload_n 0, 1) ∧ decode cX2_init 38 = .ok (.bipush 12, 2) ∧ decode cX2_init 40 = .ok (.newarray .int, 2) ∧ decode cX2_init 42 = .ok (.putfield 25, 3) ∧ decode cX2_init 45 = .ok (.aload_n 0, 1) ∧ decode cX2_init 46 = .ok (.bipush 12, 2) := by decide +kernel
theorem dX2_init_24 : decode cX2_init 24 = .ok (.newarray .int, 2) := dX2_init_all1.1
theorem dX2_init_26 : decode cX2_init 26 = .ok (.putfield 19, 3) := dX2_init_all1.2.1
theorem dX2_init_29 : decode cX2_init 29 = .ok (.aload_n 0, 1) := dX2_init_all1.2.2.1
theorem dX2_init_30 : decode cX2_init 30 = .ok (.bipush 12, 2) := dX2_init_all1.2.2.2.1
theorem dX2_init_32 : decode cX2_init 32 = .ok (.newarray .int, 2) := dX2_init_all1.2.2.2.2.1
theorem dX2_init_34 : decode cX2_init 34 = .ok (.putfield 22, 3) := dX2_init_all1.2.2.2.2.2.1
theorem dX2_init_37 : decode cX2_init 37 = .ok (.aload_n 0, 1) := dX2_init_all1.2.2.2.2.2.2.1
theorem dX2_init_38 : decode cX2_init 38 = .ok (.bipush 12, 2) := dX2_init_all1.2.2.2.2.2.2.2.1
theorem dX2_init_40 : decode cX2_init 40 = .ok (.newarray .int, 2) := dX2_init_all1.2.2.2.2.2.2.2.2.1
theorem dX2_init_42 : decode cX2_init 42 = .ok (.putfield 25, 3) := dX2_init_all1.2.2.2.2.2.2.2.2.2.1
theorem dX2_init_45 : decode cX2_init 45 = .ok (.aload_n 0, 1) := dX2_init_all1.2.2.2.2.2.2.2.2.2.2.1
theorem dX2_init_46 : decode cX2_init 46 = .ok (.bipush 12, 2) := dX2_init_all1.2.2.2.2.2.2.2.2.2.2.2
theorem dX2_init_all2 : decode cX2_init 48 = .ok (.newarray .int, 2) ∧ decode cX2_init 50 = .ok (.putfield 28, 3) ∧ decode cX2_init 53 = .ok (.aload_n 0, 1) ∧ decode cX2_init 54 = .ok (.bipush 12, 2) ∧ decode cX2_init 56 = .ok (.newarray .int, 2) ∧ decode cX2_init 58 = .ok (.putfield 31, 3) ∧ decode cX2_init 61 = .ok (.return_, 1) := by decide +kernel
theorem dX2_init_48 : decode cX2_init 48 = .ok (.newarray .int, 2) := dX2_init_all2.1
theorem dX2_init_50 : decode cX2_init 50 = .ok (.putfield 28, 3) := dX2_init_all2.2.1
theorem dX2_init_53 : decode cX2_init 53 = .ok (.aload_n 0, 1) := dX2_init_all2.2.2.1
theorem dX2_init_54 : decode cX2_init 54 = .ok (.bipush 12, 2) := dX2_init_all2.2.2.2.1
theorem dX2_init_56 : decode cX2_init 56 = .ok (.newarray .int, 2) := dX2_init_all2.2.2.2.2.1
theorem dX2_init_58 : decode cX2_init 58 = .ok (.putfield 31, 3) := dX2_init_all2.2.2.2.2.2.1
theorem dX2_init_61 : decode cX2_init 61 = .ok (.return_, 1) := dX2_init_all2.2.2.2.2.2.2
theorem dX3_init_all0 : decode cX3_init 0 = .ok (.aload_n 0, 1) ∧ decode cX3_init 1 = .ok (.invokespecial 3, 3) ∧ decode cX3_init 4 = .ok (.aload_n 0, 1) ∧ decode cX3_init 5 = .ok (.bipush 40, 2) ∧ decode cX3_init 7 = .ok (.newarray .int, 2) ∧ decode cX3_init 9 = .ok (.putfield 9, 3) ∧ decode cX3_init 12 = .ok (.aload_n 0, 1) ∧ decode cX3_init 13 = .ok (.bipush 40, 2) ∧ decode cX3_init 15 = .ok (.newarray .int, 2) ∧ decode cX3_init 17 = .ok (.putfield 15, 3) ∧ decode cX3_init 20 = .ok (.aload_n 0, 1) ∧ decode cX3_init 21 = .ok (.bipush 40, 2) := by decide +kernel
theorem dX3_init_0 : decode cX3_init 0 = .ok (.aload_n 0, 1) := dX3_init_all0.1
theorem dX3_init_1 : decode cX3_init 1 = .ok (.invokespecial 3, 3) := dX3_init_all0.2.1
theorem dX3_init_4 : decode cX3_init 4 = .ok (.aload_n 0, 1) := dX3_init_all0.2.2.1
theorem dX3_init_5 : decode cX3_init 5 = .ok (.bipush 40, 2) := dX3_init_all0.2.2.2.1
theorem dX3_init_7 : decode cX3_init 7 = .ok (.newarray .int, 2) := dX3_init_all0.2.2.2.2.1
theorem dX3_init_9 : decode cX3_init 9 = .ok (.putfield 9, 3) := dX3_init_all0.2.2.2.2.2.1
theorem dX3_init_12 : decode cX3_init 12 = .ok (.aload_n 0, 1) := dX3_init_all0.2.2.2.2.2.2.1
theorem dX3_init_13 : decode cX3_init 13 = .ok (.bipush 40, 2) := dX3_init_all0.2.2.2.2.2.2.2.1
theorem dX3_init_15 : decode cX3_init 15 = .ok (.newarray .int, 2) := dX3_init_all0.2.2.2.2.2.2.2.2.1
theorem dX3_init_17 : decode cX3_init 17 = .ok (.putfield 15, 3) := dX3_init_all0.2.2.2.2.2.2.2.2.2.1
theorem dX3_init_20 : decode cX3_init 20 = .ok (.aload_n 0, 1) := dX3_init_all0.2.2.2.2.2.2.2.2.2.2.1
theorem dX3_init_21 : decode cX3_init 21 = .ok (.bipush 40, 2) := dX3_init_all0.2.2.2.2.2.2.2.2.2.2.2
theorem dX3_init_all1 : decode cX3_init 23 = .ok (.newarray .int, 2) ∧ decode cX3_init 25 = .ok (.putfield 18, 3) ∧ decode cX3_init 28 = .ok (.aload_n 0, 1) ∧ decode cX3_init 29 = .ok (.bipush 40, 2) ∧ decode cX3_init 31 = .ok (.newarray .int, 2) ∧ decode cX3_init 33 = .ok (.putfield 21, 3) ∧ decode cX3_init 36 = .ok (.aload_n 0, 1) ∧ decode cX3_init 37 = .ok (.sipush 200, 3) ∧ decode cX3_init 40 = .ok (.newarray .int, 2) ∧ decode cX3_init 42 = .ok (.putfield 24, 3) ∧ decode cX3_init 45 = .ok (.aload_n 0, 1) ∧ decode cX3_init 46 = .ok (.sipush 200, 3) := by decide +kernel
theorem dX3_init_23 : decode cX3_init 23 = .ok (.newarray .int, 2) := dX3_init_all1.1
theorem dX3_init_25 : decode cX3_init 25 = .ok (.putfield 18, 3) := dX3_init_all1.2.1
theorem dX3_init_28 : decode cX3_init 28 = .ok (.aload_n 0, 1) := dX3_init_all1.2.2.1
theorem dX3_init_29 : decode cX3_init 29 = .ok (.bipush 40, 2) := dX3_init_all1.2.2.2.1
theorem dX3_init_31 : decode cX3_init 31 = .ok (.newarray .int, 2) := dX3_init_all1.2.2.2.2.1
theorem dX3_init_33 : decode cX3_init 33 = .ok (.putfield 21, 3) := dX3_init_all1.2.2.2.2.2.1
theorem dX3_init_36 : decode cX3_init 36 = .ok (.aload_n 0, 1) := dX3_init_all1.2.2.2.2.2.2.1
theorem dX3_init_37 : decode cX3_init 37 = .ok (.sipush 200, 3) := dX3_init_all1.2.2.2.2.2.2.2.1
theorem dX3_init_40 : decode cX3_init 40 = .ok (.newarray .int, 2) := dX3_init_all1.2.2.2.2.2.2.2.2.1
theorem dX3_init_42 : decode cX3_init 42 = .ok (.putfield 24, 3) := dX3_init_all1.2.2.2.2.2.2.2.2.2.1
theorem dX3_init_45 : decode cX3_init 45 = .ok (.aload_n 0, 1) := dX3_init_all1.2.2.2.2.2.2.2.2.2.2.1
theorem dX3_init_46 : decode cX3_init 46 = .ok (.sipush 200, 3) := dX3_init_all1.2.2.2.2.2.2.2.2.2.2.2
theorem dX3_init_all2 : decode cX3_init 49 = .ok (.newarray .int, 2) ∧ decode cX3_init 51 = .ok (.putfield 27, 3) ∧ decode cX3_init 54 = .ok (.aload_n 0, 1) ∧ decode cX3_init 55 = .ok (.bipush 20, 2) ∧ decode cX3_init 57 = .ok (.newarray .int, 2) ∧ decode cX3_init 59 = .ok (.putfield 30, 3) ∧ decode cX3_init 62 = .ok (.aload_n 0, 1) ∧ decode cX3_init 63 = .ok (.bipush 10, 2) ∧ decode cX3_init 65 = .ok (.newarray .int, 2) ∧ decode cX3_init 67 = .ok (.putfield 33, 3) ∧ decode cX3_init 70 = .ok (.return_, 1) := by decide +kernel
theorem dX3_init_49 : decode cX3_init 49 = .ok (.newarray .int, 2) := dX3_init_all2.1
theorem dX3_init_51 : decode cX3_init 51 = .ok (.putfield 27, 3) := dX3_init_all2.2.1
theorem dX3_init_54 : decode cX3_init 54 = .ok (.aload_n 0, 1) := dX3_init_all2.2.2.1
theorem dX3_init_55 : decode cX3_init 55 = .ok (.bipush 20, 2) := dX3_init_all2.2.2.2.1
theorem dX3_init_57 : decode cX3_init 57 = .ok (.newarray .int, 2) := dX3_init_all2.2.2.2.2.1
theorem dX3_init_59 : decode cX3_init 59 = .ok (.putfield 30, 3) := dX3_init_all2.2.2.2.2.2.1
theorem dX3_init_62 : decode cX3_init 62 = .ok (.aload_n 0, 1) := dX3_init_all2.2.2.2.2.2.2.1
theorem dX3_init_63 : decode cX3_init 63 = .ok (.bipush 10, 2) := dX3_init_all2.2.2.2.2.2.2.2.1
theorem dX3_init_65 : decode cX3_init 65 = .ok (.newarray .int, 2) := dX3_init_all2.2.2.2.2.2.2.2.2.1
theorem dX3_init_67 : decode cX3_init 67 = .ok (.putfield 33, 3) := dX3_init_all2.2.2.2.2.2.2.2.2.2.1
theorem dX3_init_70 : decode cX3_init 70 = .ok (.return_, 1) := dX3_init_all2.2.2.2.2.2.2.2.2.2.2
theorem dX4_init_all0 : decode cX4_init 0 = .ok (.aload_n 0, 1) ∧ decode cX4_init 1 = .ok (.invokespecial 3, 3) ∧ decode cX4_init 4 = .ok (.aload_n 0, 1) ∧ decode cX4_init 5 = .ok (.bipush 20, 2) ∧ decode cX4_init 7 = .ok (.newarray .int, 2) ∧ decode cX4_init 9 = .ok (.putfield 9, 3) ∧ decode cX4_init 12 = .ok (.aload_n 0, 1) ∧ decode cX4_init 13 = .ok (.bipush 20, 2) ∧ decode cX4_init 15 = .ok (.newarray .int, 2) ∧ decode cX4_init 17 = .ok (.putfield 15, 3) ∧ decode cX4_init 20 = .ok (.aload_n 0, 1) ∧ decode cX4_init 21 = .ok (.bipush 20, 2) := by decide +kernel
theorem dX4_init_0 : decode cX4_init 0 = .ok (.aload_n 0, 1) := dX4_init_all0.1
theorem dX4_init_1 : decode cX4_init 1 = .ok (.invokespecial 3, 3) := dX4_init_all0.2.1
theorem dX4_init_4 : decode cX4_init 4 = .ok (.aload_n 0, 1) := dX4_init_all0.2.2.1
theorem dX4_init_5 : decode cX4_init 5 = .ok (.bipush 20, 2) := dX4_init_all0.2.2.2.1
theorem dX4_init_7 : decode cX4_init 7 = .ok (.newarray .int, 2) := dX4_init_all0.2.2.2.2.1
theorem dX4_init_9 : decode cX4_init 9 = .ok (.putfield 9, 3) := dX4_init_all0.2.2.2.2.2.1
theorem dX4_init_12 : decode cX4_init 12 = .ok (.aload_n 0, 1) := dX4_init_all0.2.2.2.2.2.2.1
theorem dX4_init_13 : decode cX4_init 13 = .ok (.bipush 20, 2) := dX4_init_all0.2.2.2.2.2.2.2.1
theorem dX4_init_15 : decode cX4_init 15 = .ok (.newarray .int, 2) := dX4_init_all0.2.2.2.2.2.2.2.2.1
theorem dX4_init_17 : decode cX4_init 17 = .ok (.putfield 15, 3) := dX4_init_all0.2.2.2.2.2.2.2.2.2.1
theorem dX4_init_20 : decode cX4_init 20 = .ok (.aload_n 0, 1) := dX4_init_all0.2.2.2.2.2.2.2.2.2.2.1
theorem dX4_init_21 : decode cX4_init 21 = .ok (.bipush 20, 2) := dX4_init_all0.2.2.2.2.2.2.2.2.2.2.2
theorem dX4_init_all1 : decode cX4_init 23 = .ok (.newarray .int, 2) ∧ decode cX4_init 25 = .ok (.putfield 18, 3) ∧ decode cX4_init 28 = .ok (.return_, 1) := by decide +kernel
theorem dX4_init_23 : decode cX4_init 23 = .ok (.newarray .int, 2) := dX4_init_all1.1
theorem dX4_init_25 : decode cX4_init 25 = .ok (.putfield 18, 3) := dX4_init_all1.2.1
theorem dX4_init_28 : decode cX4_init 28 = .ok (.return_, 1) := dX4_init_all1.2.2
theorem dX5_init_all0 : decode cX5_init 0 = .ok (.aload_n 0, 1) ∧ decode cX5_init 1 = .ok (.invokespecial 3, 3) ∧ decode cX5_init 4 = .ok (.aload_n 0, 1) ∧ decode cX5_init 5 = .ok (.bipush 12, 2) ∧ decode cX5_init 7 = .ok (.newarray .long, 2) ∧ decode cX5_init 9 = .ok (.putfield 9, 3) ∧ decode cX5_init 12 = .ok (.aload_n 0, 1) ∧ decode cX5_init 13 = .ok (.iload_n 1, 1) ∧ decode cX5_init 14 = .ok (.putfield 15, 3) ∧ decode cX5_init 17 = .ok (.return_, 1) := by decide +kernel
theorem dX5_init_0 : decode cX5_init 0 = .ok (.aload_n 0, 1) := dX5_init_all0.1
theorem dX5_init_1 : decode cX5_init 1 = .ok (.invokespecial 3, 3) := dX5_init_all0.2.1
theorem dX5_init_4 : decode cX5_init 4 = .ok (.aload_n 0, 1) := dX5_init_all0.2.2.1
theorem dX5_init_5 : decode cX5_init 5 = .ok (.bipush 12, 2) := dX5_init_all0.2.2.2.1
theorem dX5_init_7 : decode cX5_init 7 = .ok (.newarray .long, 2) := dX5_init_all0.2.2.2.2.1
theorem dX5_init_9 : decode cX5_init 9 = .ok (.putfield 9, 3) := dX5_init_all0.2.2.2.2.2.1
theorem dX5_init_12 : decode cX5_init 12 = .ok (.aload_n 0, 1) := dX5_init_all0.2.2.2.2.2.2.1
theorem dX5_init_13 : decode cX5_init 13 = .ok (.iload_n 1, 1) := dX5_init_all0.2.2.2.2.2.2.2.1
theorem dX5_init_14 : decode cX5_init 14 = .ok (.putfield 15, 3) := dX5_init_all0.2.2.2.2.2.2.2.2.1
theorem dX5_init_17 : decode cX5_init 17 = .ok (.return_, 1) := dX5_init_all0.2.2.2.2.2.2.2.2.2
theorem dX6_init_all0 : decode cX6_init 0 = .ok (.aload_n 0, 1) ∧ decode cX6_init 1 = .ok (.invokespecial 3, 3) ∧ decode cX6_init 4 = .ok (.aload_n 0, 1) ∧ decode cX6_init 5 = .ok (.bipush 60, 2) ∧ decode cX6_init 7 = .ok (.newarray .int, 2) ∧ decode cX6_init 9 = .ok (.putfield 9, 3) ∧ decode cX6_init 12 = .ok (.aload_n 0, 1) ∧ decode cX6_init 13 = .ok (.bipush 60, 2) ∧ decode cX6_init 15 = .ok (.newarray .int, 2) ∧ decode cX6_init 17 = .ok (.putfield 15, 3) ∧ decode cX6_init 20 = .ok (.aload_n 0, 1) ∧ decode cX6_init 21 = .ok (.bipush 60, 2) := by decide +kernel
theorem dX6_init_0 : decode cX6_init 0 = .ok (.aload_n 0, 1) := dX6_init_all0.1
theorem dX6_init_1 : decode cX6_init 1 = .ok (.invokespecial 3, 3) := dX6_init_all0.2.1
theorem dX6_init_4 : decode cX6_init 4 = .ok (.aload_n 0, 1) := dX6_init_all0.2.2.1
theorem dX6_init_5 : decode cX6_init 5 = .ok (.bipush 60, 2) := dX6_init_all0.2.2.2.1
theorem dX6_init_7 : decode cX6_init 7 = .ok (.newarray .int, 2) := dX6_init_all0.2.2.2.2.1
theorem dX6_init_9 : decode cX6_init 9 = .ok (.putfield 9, 3) := dX6_init_all0.2.2.2.2.2.1
theorem dX6_init_12 : decode cX6_init 12 = .ok (.aload_n 0, 1) := dX6_init_all0.2.2.2.2.2.2.1
theorem dX6_init_13 : decode cX6_init 13 = .ok (.bipush 60, 2) := dX6_init_all0.2.2.2.2.2.2.2.1
theorem dX6_init_15 : decode cX6_init 15 = .ok (.newarray .int, 2) := dX6_init_all0.2.2.2.2.2.2.2.2.1
theorem dX6_init_17 : decode cX6_init 17 = .ok (.putfield 15, 3) := dX6_init_all0.2.2.2.2.2.2.2.2.2.1
theorem dX6_init_20 : decode cX6_init 20 = .ok (.aload_n 0, 1) := dX6_init_all0.2.2.2.2.2.2.2.2.2.2.1
theorem dX6_init_21 : decode cX6_init 21 = .ok (.bipush 60, 2) := dX6_init_all0.2.2.2.2.2.2.2.2.2.2.2
theorem dX6_init_all1 : decode cX6_init 23 = .ok (.newarray .int, 2) ∧ decode cX6_init 25 = .ok (.putfield 18, 3) ∧ decode cX6_init 28 = .ok (.aload_n 0, 1) ∧ decode cX6_init 29 = .ok (.bipush 60, 2) ∧ decode cX6_init 31 = .ok (.newarray .int, 2) ∧ decode cX6_init 33 = .ok (.putfield 21, 3) ∧ decode cX6_init 36 = .ok (.return_, 1) := by decide +kernel
theorem dX6_init_23 : decode cX6_init 23 = .ok (.newarray .int, 2) := dX6_init_all1.1
theorem dX6_init_25 : decode cX6_init 25 = .ok (.putfield 18, 3) := dX6_init_all1.2.1
theorem dX6_init_28 : decode cX6_init 28 = .ok (.aload_n 0, 1) := dX6_init_all1.2.2.1
theorem dX6_init_29 : decode cX6_init 29 = .ok (.bipush 60, 2) := dX6_init_all1.2.2.2.1
theorem dX6_init_31 : decode cX6_init 31 = .ok (.newarray .int, 2) := dX6_init_all1.2.2.2.2.1
theorem dX6_init_33 : decode cX6_init 33 = .ok (.putfield 21, 3) := dX6_init_all1.2.2.2.2.2.1
theorem dX6_init_36 : decode cX6_init 36 = .ok (.return_, 1) := dX6_init_all1.2.2.2.2.2.2
theorem dX7_init_all0 : decode cX7_init 0 = .ok (.aload_n 0, 1) ∧ decode cX7_init 1 = .ok (.invokespecial 3, 3) ∧ decode cX7_init 4 = .ok (.aload_n 0, 1) ∧ decode cX7_init 5 = .ok (.bipush 40, 2) ∧ decode cX7_init 7 = .ok (.newarray .int, 2) ∧ decode cX7_init 9 = .ok (.putfield 9, 3) ∧ decode cX7_init 12 = .ok (.aload_n 0, 1) ∧ decode cX7_init 13 = .ok (.bipush 40, 2) ∧ decode cX7_init 15 = .ok (.newarray .int, 2) ∧ decode cX7_init 17 = .ok (.putfield 15, 3) ∧ decode cX7_init 20 = .ok (.aload_n 0, 1) ∧ decode cX7_init 21 = .ok (.bipush 40, 2) := by decide +kernel
theorem dX7_init_0 : decode cX7_init 0 = .ok (.aload_n 0, 1) := dX7_init_all0.1
theorem dX7_init_1 : decode cX7_init 1 = .ok (.invokespecial 3, 3) := dX7_init_all0.2.1
theorem dX7_init_4 : decode cX7_init 4 = .ok (.aload_n 0, 1) := dX7_init_all0.2.2.1
theorem dX7_init_5 : decode cX7_init 5 = .ok (.bipush 40, 2) := dX7_init_all0.2.2.2.1
theorem dX7_init_7 : decode cX7_init 7 = .ok (.newarray .int, 2) := dX7_init_all0.2.2.2.2.1
theorem dX7_init_9 : decode cX7_init 9 = .ok (.putfield 9, 3) := dX7_init_all0.2.2.2.2.2.1
theorem dX7_init_12 : decode cX7_init 12 = .ok (.aload_n 0, 1) := dX7_init_all0.2.2.2.2.2.2.1
theorem dX7_init_13 : decode cX7_init 13 = .ok (.bipush 40, 2) := dX7_init_all0.2.2.2.2.2.2.2.1
theorem dX7_init_15 : decode cX7_init 15 = .ok (.newarray .int, 2) := dX7_init_all0.2.2.2.2.2.2.2.2.1
theorem dX7_init_17 : decode cX7_init 17 = .ok (.putfield 15, 3) := dX7_init_all0.2.2.2.2.2.2.2.2.2.1
theorem dX7_init_20 : decode cX7_init 20 = .ok (.aload_n 0, 1) := dX7_init_all0.2.2.2.2.2.2.2.2.2.2.1
theorem dX7_init_21 : decode cX7_init 21 = .ok (.bipush 40, 2) := dX7_init_all0.2.2.2.2.2.2.2.2.2.2.2
theorem dX7_init_all1 : decode cX7_init 23 = .ok (.newarray .int, 2) ∧ decode cX7_init 25 = .ok (.putfield 18, 3) ∧ decode cX7_init 28 = .ok (.aload_n 0, 1) ∧ decode cX7_init 29 = .ok (.bipush 40, 2) ∧ decode cX7_init 31 = .ok (.newarray .int, 2) ∧ decode cX7_init 33 = .ok (.putfield 21, 3) ∧ decode cX7_init 36 = .ok (.aload_n 0, 1) ∧ decode cX7_init 37 = .ok (.bipush 40, 2) ∧ decode cX7_init 39 = .ok (.newarray .int, 2) ∧ decode cX7_init 41 = .ok (.putfield 24, 3) ∧ decode cX7_init 44 = .ok (.aload_n 0, 1) ∧ decode cX7_init 45 = .ok (.bipush 40, 2) := by decide +kernel
theorem dX7_init_23 : decode cX7_init 23 = .ok (.newarray .int, 2) := dX7_init_all1.1
theorem dX7_init_25 : decode cX7_init 25 = .ok (.putfield 18, 3) := dX7_init_all1.2.1
theorem dX7_init_28 : decode cX7_init 28 = .ok (.aload_n 0, 1) := dX7_init_all1.2.2.1
theorem dX7_init_29 : decode cX7_init 29 = .ok (.bipush 40, 2) := dX7_init_all1.2.2.2.1
theorem dX7_init_31 : decode cX7_init 31 = .ok (.newarray .int, 2) := dX7_init_all1.2.2.2.2.1
theorem dX7_init_33 : decode cX7_init 33 = .ok (.putfield 21, 3) := dX7_init_all1.2.2.2.2.2.1
theorem dX7_init_36 : decode cX7_init 36 = .ok (.aload_n 0, 1) := dX7_init_all1.2.2.2.2.2.2.1
theorem dX7_init_37 : decode cX7_init 37 = .ok (.bipush 40, 2) := dX7_init_all1.2.2.2.2.2.2.2.1
theorem dX7_init_39 : decode cX7_init 39 = .ok (.newarray .int, 2) := dX7_init_all1.2.2.2.2.2.2.2.2.1
theorem dX7_init_41 : decode cX7_init 41 = .ok (.putfield 24, 3) := dX7_init_all1.2.2.2.2.2.2.2.2.2.1
theorem dX7_init_44 : decode cX7_init 44 = .ok (.aload_n 0, 1) := dX7_init_all1.2.2.2.2.2.2.2.2.2.2.1
theorem dX7_init_45 : decode cX7_init 45 = .ok (.bipush 40, 2) := dX7_init_all1.2.2.2.2.2.2.2.2.2.2.2
theorem dX7_init_all2 : decode cX7_init 47 = .ok (.newarray .int, 2) ∧ decode cX7_init 49 = .ok (.putfield 27, 3) ∧ decode cX7_init 52 = .ok (.return_, 1) := by decide +kernel
theorem dX7_init_47 : decode cX7_init 47 = .ok (.newarray .int, 2) := dX7_init_all2.1
theorem dX7_init_49 : decode cX7_init 49 = .ok (.putfield 27, 3) := dX7_init_all2.2.1
theorem dX7_init_52 : decode cX7_init 52 = .ok (.return_, 1) := dX7_init_all2.2.2
theorem dX8_init_all0 : decode cX8_init 0 = .ok (.aload_n 0, 1) ∧ decode cX8_init 1 = .ok (.invokespecial 3, 3) ∧ decode cX8_init 4 = .ok (.aload_n 0, 1) ∧ decode cX8_init 5 = .ok (.bipush 40, 2) ∧ decode cX8_init 7 = .ok (.newarray .int, 2) ∧ decode cX8_init 9 = .ok (.putfield 9, 3) ∧ decode cX8_init 12 = .ok (.aload_n 0, 1) ∧ decode cX8_init 13 = .ok (.bipush 40, 2) ∧ decode cX8_init 15 = .ok (.newarray .int, 2) ∧ decode cX8_init 17 = .ok (.putfield 15, 3) ∧ decode cX8_init 20 = .ok (.aload_n 0, 1) ∧ decode cX8_init 21 = .ok (.bipush 40, 2) := by decide +kernel
theorem dX8_init_0 : decode cX8_init 0 = .ok (.aload_n 0, 1) := dX8_init_all0.1
theorem dX8_init_1 : decode cX8_init 1 = .ok (.invokespecial 3, 3) := dX8_init_all0.2.1
theorem dX8_init_4 : decode cX8_init 4 = .ok (.aload_n 0, 1) := dX8_init_all0.2.2.1
theorem dX8_init_5 : decode cX8_init 5 = .ok (.bipush 40, 2) := dX8_init_all0.2.2.2.1
theorem dX8_init_7 : decode cX8_init 7 = .ok (.newarray .int, 2) := dX8_init_all0.2.2.2.2.1
theorem dX8_init_9 : decode cX8_init 9 = .ok (.putfield 9, 3) := dX8_init_all0.2.2.2.2.2.1
theorem dX8_init_12 : decode cX8_init 12 = .ok (.aload_n 0, 1) := dX8_init_all0.2.2.2.2.2.2.1
theorem dX8_init_13 : decode cX8_init 13 = .ok (.bipush 40, 2) := dX8_init_all0.2.2.2.2.2.2.2.1
theorem dX8_init_15 : decode cX8_init 15 = .ok (.newarray .int, 2) := dX8_init_all0.2.2.2.2.2.2.2.2.1
theorem dX8_init_17 : decode cX8_init 17 = .ok (.putfield 15, 3) := dX8_init_all0.2.2.2.2.2.2.2.2.2.1
theorem dX8_init_20 : decode cX8_init 20 = .ok (.aload_n 0, 1) := dX8_init_all0.2.2.2.2.2.2.2.2.2.2.1
theorem dX8_init_21 : decode cX8_init 21 = .ok (.bipush 40, 2) := dX8_init_all0.2.2.2.2.2.2.2.2.2.2.2
theorem dX8_init_all1 : decode cX8_init 23 = .ok (.newarray .int, 2) ∧ decode cX8_init 25 = .ok (.putfield 18, 3) ∧ decode cX8_init 28 = .ok (.aload_n 0, 1) ∧ decode cX8_init 29 = .ok (.bipush 40, 2) ∧ decode cX8_init 31 = .ok (.newarray .int, 2) ∧ decode cX8_init 33 = .ok (.putfield 21, 3) ∧ decode cX8_init 36 = .ok (.aload_n 0, 1) ∧ decode cX8_init 37 = .ok (.bipush 40, 2) ∧ decode cX8_init 39 = .ok (.newarray .int, 2) ∧ decode cX8_init 41 = .ok (.putfield 24, 3) ∧ decode cX8_init 44 = .ok (.return_, 1) := by decide +kernel
theorem dX8_init_23 : decode cX8_init 23 = .ok (.newarray .int, 2) := dX8_init_all1.1
theorem dX8_init_25 : decode cX8_init 25 = .ok (.putfield 18, 3) := dX8_init_all1.2.1
theorem dX8_init_28 : decode cX8_init 28 = .ok (.aload_n 0, 1) := dX8_init_all1.2.2.1
theorem dX8_init_29 : decode cX8_init 29 = .ok (.bipush 40, 2) := dX8_init_all1.2.2.2.1
theorem dX8_init_31 : decode cX8_init 31 = .ok (.newarray .int, 2) := dX8_init_all1.2.2.2.2.1
theorem dX8_init_33 : decode cX8_init 33 = .ok (.putfield 21, 3) := dX8_init_all1.2.2.2.2.2.1
theorem dX8_init_36 : decode cX8_init 36 = .ok (.aload_n 0, 1) := dX8_init_all1.2.2.2.2.2.2.1
theorem dX8_init_37 : decode cX8_init 37 = .ok (.bipush 40, 2) := dX8_init_all1.2.2.2.2.2.2.2.1
theorem dX8_init_39 : decode cX8_init 39 = .ok (.newarray .int, 2) := dX8_init_all1.2.2.2.2.2.2.2.2.1
theorem dX8_init_41 : decode cX8_init 41 = .ok (.putfield 24, 3) := dX8_init_all1.2.2.2.2.2.2.2.2.2.1
theorem dX8_init_44 : decode cX8_init 44 = .ok (.return_, 1) := dX8_init_all1.2.2.2.2.2.2.2.2.2.2
theorem ggX9_init_J7_fill_53178 : GoodIn wsX9_init wsJ7_fill_53178 := goodIn_s (fun _ h => wm_t (wm_r (wm_r h))) Gd_J7_fill_53178
theorem gX9_init_J7_fill_53178 : GoodIn wsX9_init (va_wsS RX9 23 yJ7_fill_53178 wsJ7_fill_53178) := goodIn_S (own := RX9) (idx := 23) (y := yJ7_fill_53178) (wm_t (wm_l (wm_i 8 rfl))) (wm_t (wm_l (wm_i 9 rfl))) (wm_t (wm_l (wm_i 10 rfl))) ggX9_init_J7_fill_53178
theorem dX9_init_all0 : decode cX9_init 0 = .ok (.aload_n 0, 1) ∧ decode cX9_init 1 = .ok (.invokespecial 3, 3) ∧ decode cX9_init 4 = .ok (.aload_n 0, 1) ∧ decode cX9_init 5 = .ok (.bipush 8, 2) ∧ decode cX9_init 7 = .ok (.bipush 60, 2) ∧ decode cX9_init 9 = .ok (.multianewarray 9 2, 4) ∧ decode cX9_init 13 = .ok (.putfield 11, 3) ∧ decode cX9_init 16 = .ok (.aload_n 0, 1) ∧ decode cX9_init 17 = .ok (.bipush 8, 2) ∧ decode cX9_init 19 = .ok (.newarray .int, 2) ∧ decode cX9_init 21 = .ok (.putfield 16, 3) ∧ decode cX9_init 24 = .ok (.aload_n 0, 1) := by decide +kernel
theorem dX9_init_0 : decode cX9_init 0 = .ok (.aload_n 0, 1) := dX9_init_all0.1
theorem dX9_init_1 : decode cX9_init 1 = .ok (.invokespecial 3, 3) := dX9_init_all0.2.1
theorem dX9_init_4 : decode cX9_init 4 = .ok (.aload_n 0, 1) := dX9_init_all0.2.2.1
theorem dX9_init_5 : decode cX9_init 5 = .ok (.bipush 8, 2) := dX9_init_all0.2.2.2.1
theorem dX9_init_7 : decode cX9_init 7 = .ok (.bipush 60, 2) := dX9_init_all0.2.2.2.2.1
theorem dX9_init_9 : decode cX9_init 9 = .ok (.multianewarray 9 2, 4) := dX9_init_all0.2.2.2.2.2.1
theorem dX9_init_13 : decode cX9_init 13 = .ok (.putfield 11, 3) := dX9_init_all0.2.2.2.2.2.2.1
theorem dX9_init_16 : decode cX9_init 16 = .ok (.aload_n 0, 1) := dX9_init_all0.2.2.2.2.2.2.2.1
theorem dX9_init_17 : decode cX9_init 17 = .ok (.bipush 8, 2) := dX9_init_all0.2.2.2.2.2.2.2.2.1
theorem dX9_init_19 : decode cX9_init 19 = .ok (.newarray .int, 2) := dX9_init_all0.2.2.2.2.2.2.2.2.2.1
theorem dX9_init_21 : decode cX9_init 21 = .ok (.putfield 16, 3) := dX9_init_all0.2.2.2.2.2.2.2.2.2.2.1
theorem dX9_init_24 : decode cX9_init 24 = .ok (.aload_n 0, 1) := dX9_init_all0.2.2.2.2.2.2.2.2.2.2.2
theorem dX9_init_all1 : decode cX9_init 25 = .ok (.bipush 8, 2) ∧ decode cX9_init 27 = .ok (.newarray .int, 2) ∧ decode cX9_init 29 = .ok (.putfield 20, 3) ∧ decode cX9_init 32 = .ok (.aload_n 0, 1) ∧ decode cX9_init 33 = .ok (.getfield 20, 3) ∧ decode cX9_init 36 = .ok (.iconst (-1), 1) ∧ decode cX9_init 37 = .ok (.invokestatic 23, 3) ∧ decode cX9_init 40 = .ok (.return_, 1) := by decide +kernel
theorem dX9_init_25 : decode cX9_init 25 = .ok (.bipush 8, 2) := dX9_init_all1.1
theorem dX9_init_27 : decode cX9_init 27 = .ok (.newarray .int, 2) := dX9_init_all1.2.1
theorem dX9_init_29 : decode cX9_init 29 = .ok (.putfield 20, 3) := dX9_init_all1.2.2.1
theorem dX9_init_32 : decode cX9_init 32 = .ok (.aload_n 0, 1) := dX9_init_all1.2.2.2.1
theorem dX9_init_33 : decode cX9_init 33 = .ok (.getfield 20, 3) := dX9_init_all1.2.2.2.2.1
theorem dX9_init_36 : decode cX9_init 36 = .ok (.iconst (-1), 1) := dX9_init_all1.2.2.2.2.2.1
theorem dX9_init_37 : decode cX9_init 37 = .ok (.invokestatic 23, 3) := dX9_init_all1.2.2.2.2.2.2.1
theorem dX9_init_40 : decode cX9_init 40 = .ok (.return_, 1) := dX9_init_all1.2.2.2.2.2.2.2
set_option maxHeartbeats 4000000 in
set_option maxRecDepth 100000 in
theorem ct_X3_init (l : Launch) (D : va_G) (cI cY cJ cQ : ClassId) (sz : Nat) (h0 : Nat)   : Met l yX3_init wsX3_init ({ frames := 1, cells := 8, slots := 590, locals := 12 }) (cPre D (ty4 cI cY cJ cQ) [(h0, .inr (3, [.null, .null, .null, .null, .int 0, .null, .null, .null, .null]))] sz [.ref h0]) (va_Qv (fun (u : Nat → Nat) => True) (cB D (ty4 cI cY cJ cQ) (fun (u : Nat → Nat) => [(h0, .inr (3, [.ref (u 0), .ref (u 1), .ref (u 2), .ref (u 3), .int 0, .ref (u 5), .ref (u 6), .ref (u 7), .ref (u 8)])), (aI cI (u 0) 40 (fun _ => 0)), (aI cI (u 1) 40 (fun _ => 0)), (aI cI (u 2) 40 (fun _ => 0)), (aI cI (u 3) 40 (fun _ => 0)), (aI cI (u 5) 200 (fun _ => 0)), (aI cI (u 6) 200 (fun _ => 0)), (aI cI (u 7) 20 (fun _ => 0)), (aI cI (u 8) 10 (fun _ => 0))]) (va_A [(h0, .inr (3, [.null, .null, .null, .null, .int 0, .null, .null, .null, .null]))] sz)) (va_A [(h0, .inr (3, [.null, .null, .null, .null, .int 0, .null, .null, .null, .null]))] sz)) 8 590 (va_A [(h0, .inr (3, [.null, .null, .null, .null, .int 0, .null, .null, .null, .null]))] sz) := by
  refine Met.ofW (cc := cX3_init) (maxL := 1) (ret := none) (by decide) rfl ?_
  intro p e s m args below meth c s₁ B hml hv
  obtain ⟨rfl, hsz, hP, hK, hD0, hN⟩ := hv
  have hx := B.exec
  have hb := B.bytes
  have hr := B.returns
  have hts := atoms_spec (ws := wsX3_init) B.pre
  have hown : s.vm.findClass RX3 = some m.cls := findClass_of_methodNamed B.named
  have hlocks := B.notSynchronized
  have hin : meth.name = "<init>" := (name_of_methodNamed B.named B.method).1
  subst hsz
  have hD := hD0.self (sz := s.heap.size)
  generalize hAe : va_A [(h0, .inr (3, [.null, .null, .null, .null, .int 0, .null, .null, .null, .null]))] s.heap.size = A at hD ⊢
  have hA : ∀ q : Nat, s.heap.size ≤ q → A q := fun q h => by rw [← hAe]; exact Or.inr h
  have hS : va_S A s.heap s.heap [] := va_S.rf
  have hP : va_P D vwCl [(h0, .inr (3, [.null, .null, .null, .null, .int 0, .null, .null, .null, .null]))] s.heap := hP
  have hl := lv_entry ([.ref h0]) (n := 1) (Nat.le_of_ble_eq_true rfl)
  rw [lg_entry_eq]
  generalize (lg_sl ([.ref h0]) ++ List.replicate (1 - (lg_sl ([.ref h0])).length) Slot.unset).toArray = ls at hl ⊢
  have hl : lv_has ls 1 [(0, .ref h0)] := hl
  refine lv_aload_n hx hb dX3_init_0 rfl (lv_at hl 0 rfl) ?_
  refine W.objInit hx hb hown (hts (Cond.methodLink RX3 3 objectInit) (wm_t (wm_l (wm_i 0 rfl)))) (hts (Cond.instanceMethod objectInit) (wm_t (wm_l (wm_i 1 rfl)))) (hts _ (by decide +kernel)) rfl (by rw [hml]; exact hl.1) rfl dX3_init_1 (Nat.le_of_ble_eq_true rfl) (Nat.le_of_ble_eq_true rfl) ?_
  refine W.eq (g2 := F0 m 4 ls []) rfl ?_
  refine lv_aload_n hx hb dX3_init_4 rfl (lv_at hl 0 rfl) ?_
  refine lv_bipush (v := 40) hx hb dX3_init_5 (by decide) ?_
  refine va_newa (atype := .int) (ty := .int) (a0 := (40, .inl (fun _ => 0))) hx hb (hts (Cond.arrayClass .int) (wm_t (wm_l (wm_i 3 rfl)))) rfl hK hP hD hS hA (fun _ => rfl) (by decide) (by decide) (by decide) (Nat.le_of_ble_eq_true rfl) (Nat.le_of_ble_eq_true rfl) dX3_init_7 (fun q1 cA2 H => ?_)
  clear hK hP hD hS
  intro hK hP hD hS
  have ecA2 : cI = cA2 := cls_eq hK 0 4 rfl rfl
  subst ecA2
  replace hK : va_K D vwCl (ty4 cI cY cJ cQ) s := hK.sub (tys' := ty4 cI cY cJ cQ) [0, 1, 2, 3] rfl
  replace hP : va_P D vwCl [(h0, .inr (3, [.null, .null, .null, .null, .int 0, .null, .null, .null, .null])), (aI cI q1 40 (fun _ => 0))] H := hP
  replace hD : va_D A [(h0, .inr (3, [.null, .null, .null, .null, .int 0, .null, .null, .null, .null])), (aI cI q1 40 (fun _ => 0))] := hD
  refine W.widen (k := 1) (n := 40) (by first | exact Nat.le_of_ble_eq_true rfl | omega) (by first | exact Nat.le_of_ble_eq_true rfl | omega) ?_
  refine va_putF (D := D) (ci := 3) (v := .ref q1) (ty := (.array .int)) (C := RX3) (T := TX3) (N := 9) hx hb hts inX3_init_X3 tyX3 tyX3_ok nmX3 hown hK hP hD hS 0 rfl rfl 0 (by decide) (hts (Cond.fieldLink RX3 9 "PortRooms$Holdings" "owner" "[I") (wm_t (wm_l (wm_i 4 rfl)))) (fun _ h9 => h9) rfl hin rfl (tyX3_ok 0 (by decide)) rfl rfl (Nat.le_of_ble_eq_true rfl) dX3_init_9 (fun H locs => ?_)
  clear hP hD hS
  intro hP hD hS
  replace hP : va_P D vwCl [(h0, .inr (3, [.ref q1, .null, .null, .null, .int 0, .null, .null, .null, .null])), (aI cI q1 40 (fun _ => 0))] H := hP
  replace hD : va_D A [(h0, .inr (3, [.ref q1, .null, .null, .null, .int 0, .null, .null, .null, .null])), (aI cI q1 40 (fun _ => 0))] := hD
  refine lv_aload_n hx hb dX3_init_12 rfl (lv_at hl 0 rfl) ?_
  refine lv_bipush (v := 40) hx hb dX3_init_13 (by decide) ?_
  refine va_newa (atype := .int) (ty := .int) (a0 := (40, .inl (fun _ => 0))) hx hb (hts (Cond.arrayClass .int) (wm_t (wm_l (wm_i 3 rfl)))) rfl hK hP hD hS hA (fun _ => rfl) (by decide) (by decide) (by decide) (Nat.le_of_ble_eq_true rfl) (Nat.le_of_ble_eq_true rfl) dX3_init_15 (fun q3 cA4 H => ?_)
  clear hK hP hD hS
  intro hK hP hD hS
  have ecA4 : cI = cA4 := cls_eq hK 0 4 rfl rfl
  subst ecA4
  replace hK : va_K D vwCl (ty4 cI cY cJ cQ) s := hK.sub (tys' := ty4 cI cY cJ cQ) [0, 1, 2, 3] rfl
  replace hP : va_P D vwCl [(h0, .inr (3, [.ref q1, .null, .null, .null, .int 0, .null, .null, .null, .null])), (aI cI q1 40 (fun _ => 0)), (aI cI q3 40 (fun _ => 0))] H := hP
  replace hD : va_D A [(h0, .inr (3, [.ref q1, .null, .null, .null, .int 0, .null, .null, .null, .null])), (aI cI q1 40 (fun _ => 0)), (aI cI q3 40 (fun _ => 0))] := hD
  refine W.widen (k := 2) (n := 80) (by first | exact Nat.le_of_ble_eq_true rfl | omega) (by first | exact Nat.le_of_ble_eq_true rfl | omega) ?_
  refine va_putF (D := D) (ci := 3) (v := .ref q3) (ty := (.array .int)) (C := RX3) (T := TX3) (N := 9) hx hb hts inX3_init_X3 tyX3 tyX3_ok nmX3 hown hK hP hD hS 0 rfl rfl 1 (by decide) (hts (Cond.fieldLink RX3 15 "PortRooms$Holdings" "company" "[I") (wm_t (wm_l (wm_i 5 rfl)))) (fun _ h9 => h9) rfl hin rfl (tyX3_ok 1 (by decide)) rfl rfl (Nat.le_of_ble_eq_true rfl) dX3_init_17 (fun H locs => ?_)
  clear hP hD hS
  intro hP hD hS
  replace hP : va_P D vwCl [(h0, .inr (3, [.ref q1, .ref q3, .null, .null, .int 0, .null, .null, .null, .null])), (aI cI q1 40 (fun _ => 0)), (aI cI q3 40 (fun _ => 0))] H := hP
  replace hD : va_D A [(h0, .inr (3, [.ref q1, .ref q3, .null, .null, .int 0, .null, .null, .null, .null])), (aI cI q1 40 (fun _ => 0)), (aI cI q3 40 (fun _ => 0))] := hD
  refine lv_aload_n hx hb dX3_init_20 rfl (lv_at hl 0 rfl) ?_
  refine lv_bipush (v := 40) hx hb dX3_init_21 (by decide) ?_
  refine va_newa (atype := .int) (ty := .int) (a0 := (40, .inl (fun _ => 0))) hx hb (hts (Cond.arrayClass .int) (wm_t (wm_l (wm_i 3 rfl)))) rfl hK hP hD hS hA (fun _ => rfl) (by decide) (by decide) (by decide) (Nat.le_of_ble_eq_true rfl) (Nat.le_of_ble_eq_true rfl) dX3_init_23 (fun q5 cA6 H => ?_)
  clear hK hP hD hS
  intro hK hP hD hS
  have ecA6 : cI = cA6 := cls_eq hK 0 4 rfl rfl
  subst ecA6
  replace hK : va_K D vwCl (ty4 cI cY cJ cQ) s := hK.sub (tys' := ty4 cI cY cJ cQ) [0, 1, 2, 3] rfl
  replace hP : va_P D vwCl [(h0, .inr (3, [.ref q1, .ref q3, .null, .null, .int 0, .null, .null, .null, .null])), (aI cI q1 40 (fun _ => 0)), (aI cI q3 40 (fun _ => 0)), (aI cI q5 40 (fun _ => 0))] H := hP
  replace hD : va_D A [(h0, .inr (3, [.ref q1, .ref q3, .null, .null, .int 0, .null, .null, .null, .null])), (aI cI q1 40 (fun _ => 0)), (aI cI q3 40 (fun _ => 0)), (aI cI q5 40 (fun _ => 0))] := hD
  refine W.widen (k := 3) (n := 120) (by first | exact Nat.le_of_ble_eq_true rfl | omega) (by first | exact Nat.le_of_ble_eq_true rfl | omega) ?_
  refine va_putF (D := D) (ci := 3) (v := .ref q5) (ty := (.array .int)) (C := RX3) (T := TX3) (N := 9) hx hb hts inX3_init_X3 tyX3 tyX3_ok nmX3 hown hK hP hD hS 0 rfl rfl 2 (by decide) (hts (Cond.fieldLink RX3 18 "PortRooms$Holdings" "percentage" "[I") (wm_t (wm_l (wm_i 6 rfl)))) (fun _ h9 => h9) rfl hin rfl (tyX3_ok 2 (by decide)) rfl rfl (Nat.le_of_ble_eq_true rfl) dX3_init_25 (fun H locs => ?_)
  clear hP hD hS
  intro hP hD hS
  replace hP : va_P D vwCl [(h0, .inr (3, [.ref q1, .ref q3, .ref q5, .null, .int 0, .null, .null, .null, .null])), (aI cI q1 40 (fun _ => 0)), (aI cI q3 40 (fun _ => 0)), (aI cI q5 40 (fun _ => 0))] H := hP
  replace hD : va_D A [(h0, .inr (3, [.ref q1, .ref q3, .ref q5, .null, .int 0, .null, .null, .null, .null])), (aI cI q1 40 (fun _ => 0)), (aI cI q3 40 (fun _ => 0)), (aI cI q5 40 (fun _ => 0))] := hD
  refine lv_aload_n hx hb dX3_init_28 rfl (lv_at hl 0 rfl) ?_
  refine lv_bipush (v := 40) hx hb dX3_init_29 (by decide) ?_
  refine va_newa (atype := .int) (ty := .int) (a0 := (40, .inl (fun _ => 0))) hx hb (hts (Cond.arrayClass .int) (wm_t (wm_l (wm_i 3 rfl)))) rfl hK hP hD hS hA (fun _ => rfl) (by decide) (by decide) (by decide) (Nat.le_of_ble_eq_true rfl) (Nat.le_of_ble_eq_true rfl) dX3_init_31 (fun q7 cA8 H => ?_)
  clear hK hP hD hS
  intro hK hP hD hS
  have ecA8 : cI = cA8 := cls_eq hK 0 4 rfl rfl
  subst ecA8
  replace hK : va_K D vwCl (ty4 cI cY cJ cQ) s := hK.sub (tys' := ty4 cI cY cJ cQ) [0, 1, 2, 3] rfl
  replace hP : va_P D vwCl [(h0, .inr (3, [.ref q1, .ref q3, .ref q5, .null, .int 0, .null, .null, .null, .null])), (aI cI q1 40 (fun _ => 0)), (aI cI q3 40 (fun _ => 0)), (aI cI q5 40 (fun _ => 0)), (aI cI q7 40 (fun _ => 0))] H := hP
  replace hD : va_D A [(h0, .inr (3, [.ref q1, .ref q3, .ref q5, .null, .int 0, .null, .null, .null, .null])), (aI cI q1 40 (fun _ => 0)), (aI cI q3 40 (fun _ => 0)), (aI cI q5 40 (fun _ => 0)), (aI cI q7 40 (fun _ => 0))] := hD
  refine W.widen (k := 4) (n := 160) (by first | exact Nat.le_of_ble_eq_true rfl | omega) (by first | exact Nat.le_of_ble_eq_true rfl | omega) ?_
  refine va_putF (D := D) (ci := 3) (v := .ref q7) (ty := (.array .int)) (C := RX3) (T := TX3) (N := 9) hx hb hts inX3_init_X3 tyX3 tyX3_ok nmX3 hown hK hP hD hS 0 rfl rfl 3 (by decide) (hts (Cond.fieldLink RX3 21 "PortRooms$Holdings" "since" "[I") (wm_t (wm_l (wm_i 7 rfl)))) (fun _ h9 => h9) rfl hin rfl (tyX3_ok 3 (by decide)) rfl rfl (Nat.le_of_ble_eq_true rfl) dX3_init_33 (fun H locs => ?_)
  clear hP hD hS
  intro hP hD hS
  replace hP : va_P D vwCl [(h0, .inr (3, [.ref q1, .ref q3, .ref q5, .ref q7, .int 0, .null, .null, .null, .null])), (aI cI q1 40 (fun _ => 0)), (aI cI q3 40 (fun _ => 0)), (aI cI q5 40 (fun _ => 0)), (aI cI q7 40 (fun _ => 0))] H := hP
  replace hD : va_D A [(h0, .inr (3, [.ref q1, .ref q3, .ref q5, .ref q7, .int 0, .null, .null, .null, .null])), (aI cI q1 40 (fun _ => 0)), (aI cI q3 40 (fun _ => 0)), (aI cI q5 40 (fun _ => 0)), (aI cI q7 40 (fun _ => 0))] := hD
  refine lv_aload_n hx hb dX3_init_36 rfl (lv_at hl 0 rfl) ?_
  refine lv_sipush (v := 200) hx hb dX3_init_37 (by decide) ?_
  refine va_newa (atype := .int) (ty := .int) (a0 := (200, .inl (fun _ => 0))) hx hb (hts (Cond.arrayClass .int) (wm_t (wm_l (wm_i 3 rfl)))) rfl hK hP hD hS hA (fun _ => rfl) (by decide) (by decide) (by decide) (Nat.le_of_ble_eq_true rfl) (Nat.le_of_ble_eq_true rfl) dX3_init_40 (fun q9 cA10 H => ?_)
  clear hK hP hD hS
  intro hK hP hD hS
  have ecA10 : cI = cA10 := cls_eq hK 0 4 rfl rfl
  subst ecA10
  replace hK : va_K D vwCl (ty4 cI cY cJ cQ) s := hK.sub (tys' := ty4 cI cY cJ cQ) [0, 1, 2, 3] rfl
  replace hP : va_P D vwCl [(h0, .inr (3, [.ref q1, .ref q3, .ref q5, .ref q7, .int 0, .null, .null, .null, .null])), (aI cI q1 40 (fun _ => 0)), (aI cI q3 40 (fun _ => 0)), (aI cI q5 40 (fun _ => 0)), (aI cI q7 40 (fun _ => 0)), (aI cI q9 200 (fun _ => 0))] H := hP
  replace hD : va_D A [(h0, .inr (3, [.ref q1, .ref q3, .ref q5, .ref q7, .int 0, .null, .null, .null, .null])), (aI cI q1 40 (fun _ => 0)), (aI cI q3 40 (fun _ => 0)), (aI cI q5 40 (fun _ => 0)), (aI cI q7 40 (fun _ => 0)), (aI cI q9 200 (fun _ => 0))] := hD
  refine W.widen (k := 5) (n := 360) (by first | exact Nat.le_of_ble_eq_true rfl | omega) (by first | exact Nat.le_of_ble_eq_true rfl | omega) ?_
  refine va_putF (D := D) (ci := 3) (v := .ref q9) (ty := (.array .int)) (C := RX3) (T := TX3) (N := 9) hx hb hts inX3_init_X3 tyX3 tyX3_ok nmX3 hown hK hP hD hS 0 rfl rfl 5 (by decide) (hts (Cond.fieldLink RX3 24 "PortRooms$Holdings" "part" "[I") (wm_t (wm_l (wm_i 8 rfl)))) (fun _ h9 => h9) rfl hin rfl (tyX3_ok 5 (by decide)) rfl rfl (Nat.le_of_ble_eq_true rfl) dX3_init_42 (fun H locs => ?_)
  clear hP hD hS
  intro hP hD hS
  replace hP : va_P D vwCl [(h0, .inr (3, [.ref q1, .ref q3, .ref q5, .ref q7, .int 0, .ref q9, .null, .null, .null])), (aI cI q1 40 (fun _ => 0)), (aI cI q3 40 (fun _ => 0)), (aI cI q5 40 (fun _ => 0)), (aI cI q7 40 (fun _ => 0)), (aI cI q9 200 (fun _ => 0))] H := hP
  replace hD : va_D A [(h0, .inr (3, [.ref q1, .ref q3, .ref q5, .ref q7, .int 0, .ref q9, .null, .null, .null])), (aI cI q1 40 (fun _ => 0)), (aI cI q3 40 (fun _ => 0)), (aI cI q5 40 (fun _ => 0)), (aI cI q7 40 (fun _ => 0)), (aI cI q9 200 (fun _ => 0))] := hD
  refine lv_aload_n hx hb dX3_init_45 rfl (lv_at hl 0 rfl) ?_
  refine lv_sipush (v := 200) hx hb dX3_init_46 (by decide) ?_
  refine va_newa (atype := .int) (ty := .int) (a0 := (200, .inl (fun _ => 0))) hx hb (hts (Cond.arrayClass .int) (wm_t (wm_l (wm_i 3 rfl)))) rfl hK hP hD hS hA (fun _ => rfl) (by decide) (by decide) (by decide) (Nat.le_of_ble_eq_true rfl) (Nat.le_of_ble_eq_true rfl) dX3_init_49 (fun q11 cA12 H => ?_)
  clear hK hP hD hS
  intro hK hP hD hS
  have ecA12 : cI = cA12 := cls_eq hK 0 4 rfl rfl
  subst ecA12
  replace hK : va_K D vwCl (ty4 cI cY cJ cQ) s := hK.sub (tys' := ty4 cI cY cJ cQ) [0, 1, 2, 3] rfl
  replace hP : va_P D vwCl [(h0, .inr (3, [.ref q1, .ref q3, .ref q5, .ref q7, .int 0, .ref q9, .null, .null, .null])), (aI cI q1 40 (fun _ => 0)), (aI cI q3 40 (fun _ => 0)), (aI cI q5 40 (fun _ => 0)), (aI cI q7 40 (fun _ => 0)), (aI cI q9 200 (fun _ => 0)), (aI cI q11 200 (fun _ => 0))] H := hP
  replace hD : va_D A [(h0, .inr (3, [.ref q1, .ref q3, .ref q5, .ref q7, .int 0, .ref q9, .null, .null, .null])), (aI cI q1 40 (fun _ => 0)), (aI cI q3 40 (fun _ => 0)), (aI cI q5 40 (fun _ => 0)), (aI cI q7 40 (fun _ => 0)), (aI cI q9 200 (fun _ => 0)), (aI cI q11 200 (fun _ => 0))] := hD
  refine W.widen (k := 6) (n := 560) (by first | exact Nat.le_of_ble_eq_true rfl | omega) (by first | exact Nat.le_of_ble_eq_true rfl | omega) ?_
  refine va_putF (D := D) (ci := 3) (v := .ref q11) (ty := (.array .int)) (C := RX3) (T := TX3) (N := 9) hx hb hts inX3_init_X3 tyX3 tyX3_ok nmX3 hown hK hP hD hS 0 rfl rfl 6 (by decide) (hts (Cond.fieldLink RX3 27 "PortRooms$Holdings" "partSince" "[I") (wm_t (wm_l (wm_i 9 rfl)))) (fun _ h9 => h9) rfl hin rfl (tyX3_ok 6 (by decide)) rfl rfl (Nat.le_of_ble_eq_true rfl) dX3_init_51 (fun H locs => ?_)
  clear hP hD hS
  intro hP hD hS
  replace hP : va_P D vwCl [(h0, .inr (3, [.ref q1, .ref q3, .ref q5, .ref q7, .int 0, .ref q9, .ref q11, .null, .null])), (aI cI q1 40 (fun _ => 0)), (aI cI q3 40 (fun _ => 0)), (aI cI q5 40 (fun _ => 0)), (aI cI q7 40 (fun _ => 0)), (aI cI q9 200 (fun _ => 0)), (aI cI q11 200 (fun _ => 0))] H := hP
  replace hD : va_D A [(h0, .inr (3, [.ref q1, .ref q3, .ref q5, .ref q7, .int 0, .ref q9, .ref q11, .null, .null])), (aI cI q1 40 (fun _ => 0)), (aI cI q3 40 (fun _ => 0)), (aI cI q5 40 (fun _ => 0)), (aI cI q7 40 (fun _ => 0)), (aI cI q9 200 (fun _ => 0)), (aI cI q11 200 (fun _ => 0))] := hD
  refine lv_aload_n hx hb dX3_init_54 rfl (lv_at hl 0 rfl) ?_
  refine lv_bipush (v := 20) hx hb dX3_init_55 (by decide) ?_
  refine va_newa (atype := .int) (ty := .int) (a0 := (20, .inl (fun _ => 0))) hx hb (hts (Cond.arrayClass .int) (wm_t (wm_l (wm_i 3 rfl)))) rfl hK hP hD hS hA (fun _ => rfl) (by decide) (by decide) (by decide) (Nat.le_of_ble_eq_true rfl) (Nat.le_of_ble_eq_true rfl) dX3_init_57 (fun q13 cA14 H => ?_)
  clear hK hP hD hS
  intro hK hP hD hS
  have ecA14 : cI = cA14 := cls_eq hK 0 4 rfl rfl
  subst ecA14
  replace hK : va_K D vwCl (ty4 cI cY cJ cQ) s := hK.sub (tys' := ty4 cI cY cJ cQ) [0, 1, 2, 3] rfl
  replace hP : va_P D vwCl [(h0, .inr (3, [.ref q1, .ref q3, .ref q5, .ref q7, .int 0, .ref q9, .ref q11, .null, .null])), (aI cI q1 40 (fun _ => 0)), (aI cI q3 40 (fun _ => 0)), (aI cI q5 40 (fun _ => 0)), (aI cI q7 40 (fun _ => 0)), (aI cI q9 200 (fun _ => 0)), (aI cI q11 200 (fun _ => 0)), (aI cI q13 20 (fun _ => 0))] H := hP
  replace hD : va_D A [(h0, .inr (3, [.ref q1, .ref q3, .ref q5, .ref q7, .int 0, .ref q9, .ref q11, .null, .null])), (aI cI q1 40 (fun _ => 0)), (aI cI q3 40 (fun _ => 0)), (aI cI q5 40 (fun _ => 0)), (aI cI q7 40 (fun _ => 0)), (aI cI q9 200 (fun _ => 0)), (aI cI q11 200 (fun _ => 0)), (aI cI q13 20 (fun _ => 0))] := hD
  refine W.widen (k := 7) (n := 580) (by first | exact Nat.le_of_ble_eq_true rfl | omega) (by first | exact Nat.le_of_ble_eq_true rfl | omega) ?_
  refine va_putF (D := D) (ci := 3) (v := .ref q13) (ty := (.array .int)) (C := RX3) (T := TX3) (N := 9) hx hb hts inX3_init_X3 tyX3 tyX3_ok nmX3 hown hK hP hD hS 0 rfl rfl 7 (by decide) (hts (Cond.fieldLink RX3 30 "PortRooms$Holdings" "has" "[I") (wm_t (wm_l (wm_i 10 rfl)))) (fun _ h9 => h9) rfl hin rfl (tyX3_ok 7 (by decide)) rfl rfl (Nat.le_of_ble_eq_true rfl) dX3_init_59 (fun H locs => ?_)
  clear hP hD hS
  intro hP hD hS
  replace hP : va_P D vwCl [(h0, .inr (3, [.ref q1, .ref q3, .ref q5, .ref q7, .int 0, .ref q9, .ref q11, .ref q13, .null])), (aI cI q1 40 (fun _ => 0)), (aI cI q3 40 (fun _ => 0)), (aI cI q5 40 (fun _ => 0)), (aI cI q7 40 (fun _ => 0)), (aI cI q9 200 (fun _ => 0)), (aI cI q11 200 (fun _ => 0)), (aI cI q13 20 (fun _ => 0))] H := hP
  replace hD : va_D A [(h0, .inr (3, [.ref q1, .ref q3, .ref q5, .ref q7, .int 0, .ref q9, .ref q11, .ref q13, .null])), (aI cI q1 40 (fun _ => 0)), (aI cI q3 40 (fun _ => 0)), (aI cI q5 40 (fun _ => 0)), (aI cI q7 40 (fun _ => 0)), (aI cI q9 200 (fun _ => 0)), (aI cI q11 200 (fun _ => 0)), (aI cI q13 20 (fun _ => 0))] := hD
  refine lv_aload_n hx hb dX3_init_62 rfl (lv_at hl 0 rfl) ?_
  refine lv_bipush (v := 10) hx hb dX3_init_63 (by decide) ?_
  refine va_newa (atype := .int) (ty := .int) (a0 := (10, .inl (fun _ => 0))) hx hb (hts (Cond.arrayClass .int) (wm_t (wm_l (wm_i 3 rfl)))) rfl hK hP hD hS hA (fun _ => rfl) (by decide) (by decide) (by decide) (Nat.le_of_ble_eq_true rfl) (Nat.le_of_ble_eq_true rfl) dX3_init_65 (fun q15 cA16 H => ?_)
  clear hK hP hD hS
  intro hK hP hD hS
  have ecA16 : cI = cA16 := cls_eq hK 0 4 rfl rfl
  subst ecA16
  replace hK : va_K D vwCl (ty4 cI cY cJ cQ) s := hK.sub (tys' := ty4 cI cY cJ cQ) [0, 1, 2, 3] rfl
  replace hP : va_P D vwCl [(h0, .inr (3, [.ref q1, .ref q3, .ref q5, .ref q7, .int 0, .ref q9, .ref q11, .ref q13, .null])), (aI cI q1 40 (fun _ => 0)), (aI cI q3 40 (fun _ => 0)), (aI cI q5 40 (fun _ => 0)), (aI cI q7 40 (fun _ => 0)), (aI cI q9 200 (fun _ => 0)), (aI cI q11 200 (fun _ => 0)), (aI cI q13 20 (fun _ => 0)), (aI cI q15 10 (fun _ => 0))] H := hP
  replace hD : va_D A [(h0, .inr (3, [.ref q1, .ref q3, .ref q5, .ref q7, .int 0, .ref q9, .ref q11, .ref q13, .null])), (aI cI q1 40 (fun _ => 0)), (aI cI q3 40 (fun _ => 0)), (aI cI q5 40 (fun _ => 0)), (aI cI q7 40 (fun _ => 0)), (aI cI q9 200 (fun _ => 0)), (aI cI q11 200 (fun _ => 0)), (aI cI q13 20 (fun _ => 0)), (aI cI q15 10 (fun _ => 0))] := hD
  refine W.widen (k := 8) (n := 590) (by first | exact Nat.le_of_ble_eq_true rfl | omega) (by first | exact Nat.le_of_ble_eq_true rfl | omega) ?_
  refine va_putF (D := D) (ci := 3) (v := .ref q15) (ty := (.array .int)) (C := RX3) (T := TX3) (N := 9) hx hb hts inX3_init_X3 tyX3 tyX3_ok nmX3 hown hK hP hD hS 0 rfl rfl 8 (by decide) (hts (Cond.fieldLink RX3 33 "PortRooms$Holdings" "reach" "[I") (wm_t (wm_l (wm_i 11 rfl)))) (fun _ h9 => h9) rfl hin rfl (tyX3_ok 8 (by decide)) rfl rfl (Nat.le_of_ble_eq_true rfl) dX3_init_67 (fun H locs => ?_)
  clear hP hD hS
  intro hP hD hS
  replace hP : va_P D vwCl [(h0, .inr (3, [.ref q1, .ref q3, .ref q5, .ref q7, .int 0, .ref q9, .ref q11, .ref q13, .ref q15])), (aI cI q1 40 (fun _ => 0)), (aI cI q3 40 (fun _ => 0)), (aI cI q5 40 (fun _ => 0)), (aI cI q7 40 (fun _ => 0)), (aI cI q9 200 (fun _ => 0)), (aI cI q11 200 (fun _ => 0)), (aI cI q13 20 (fun _ => 0)), (aI cI q15 10 (fun _ => 0))] H := hP
  replace hD : va_D A [(h0, .inr (3, [.ref q1, .ref q3, .ref q5, .ref q7, .int 0, .ref q9, .ref q11, .ref q13, .ref q15])), (aI cI q1 40 (fun _ => 0)), (aI cI q3 40 (fun _ => 0)), (aI cI q5 40 (fun _ => 0)), (aI cI q7 40 (fun _ => 0)), (aI cI q9 200 (fun _ => 0)), (aI cI q11 200 (fun _ => 0)), (aI cI q13 20 (fun _ => 0)), (aI cI q15 10 (fun _ => 0))] := hD
  have hP9 := hP.sub (ws' := [(h0, .inr (3, [.ref q1, .ref q3, .ref q5, .ref q7, .int 0, .ref q9, .ref q11, .ref q13, .ref q15])), (aI cI q1 40 (fun _ => 0)), (aI cI q3 40 (fun _ => 0)), (aI cI q5 40 (fun _ => 0)), (aI cI q7 40 (fun _ => 0)), (aI cI q9 200 (fun _ => 0)), (aI cI q11 200 (fun _ => 0)), (aI cI q13 20 (fun _ => 0)), (aI cI q15 10 (fun _ => 0))]) [0, 1, 2, 3, 4, 5, 6, 7, 8] rfl
  have hD9 := hD.sub (ws' := [(h0, .inr (3, [.ref q1, .ref q3, .ref q5, .ref q7, .int 0, .ref q9, .ref q11, .ref q13, .ref q15])), (aI cI q1 40 (fun _ => 0)), (aI cI q3 40 (fun _ => 0)), (aI cI q5 40 (fun _ => 0)), (aI cI q7 40 (fun _ => 0)), (aI cI q9 200 (fun _ => 0)), (aI cI q11 200 (fun _ => 0)), (aI cI q13 20 (fun _ => 0)), (aI cI q15 10 (fun _ => 0))]) [0, 1, 2, 3, 4, 5, 6, 7, 8] (by decide +kernel) rfl
  exact W.vret hx hb hr (fun t ht hW => ⟨⟨(fun k => ([q1, q3, q5, q7, 0, q9, q11, q13, q15] : List Nat).getD k 0), rfl, trivial, by rw [ht]; exact hP9, va_K.moved hW.alike hK, hD9⟩, hS.F ht⟩) hS.2.2 dX3_init_70

set_option maxHeartbeats 4000000 in
set_option maxRecDepth 100000 in
theorem ct_X1_init (l : Launch) (D : va_G) (cI cY cJ cQ : ClassId) (sz : Nat) (h0 : Nat)   : Met l yX1_init wsX1_init ({ frames := 1, cells := 5, slots := 48, locals := 23 }) (cPre D (ty4 cI cY cJ cQ) [(h0, .inr (1, [.null, .null, .null, .int 0, .null, .null]))] sz [.ref h0]) (va_Qv (fun (u : Nat → Nat) => True) (cB D (ty4 cI cY cJ cQ) (fun (u : Nat → Nat) => [(h0, .inr (1, [.ref (u 0), .ref (u 1), .ref (u 2), .int 0, .ref (u 4), .ref (u 5)])), (aI cI (u 0) 12 (fun _ => 0)), (aI cI (u 1) 12 (fun _ => 0)), (aI cI (u 2) 12 (fun _ => (-1000000))), (aI cI (u 4) 6 (fun _ => 4)), (aI cI (u 5) 6 (fun _ => 100000))]) (va_A [(h0, .inr (1, [.null, .null, .null, .int 0, .null, .null]))] sz)) (va_A [(h0, .inr (1, [.null, .null, .null, .int 0, .null, .null]))] sz)) 5 48 (va_A [(h0, .inr (1, [.null, .null, .null, .int 0, .null, .null]))] sz) := by
  refine Met.ofW (cc := cX1_init) (maxL := 1) (ret := none) (by decide) rfl ?_
  intro p e s m args below meth c s₁ B hml hv
  obtain ⟨rfl, hsz, hP, hK, hD0, hN⟩ := hv
  have hx := B.exec
  have hb := B.bytes
  have hr := B.returns
  have hts := atoms_spec (ws := wsX1_init) B.pre
  have hown : s.vm.findClass RX1 = some m.cls := findClass_of_methodNamed B.named
  have hlocks := B.notSynchronized
  have hin : meth.name = "<init>" := (name_of_methodNamed B.named B.method).1
  subst hsz
  have hD := hD0.self (sz := s.heap.size)
  generalize hAe : va_A [(h0, .inr (1, [.null, .null, .null, .int 0, .null, .null]))] s.heap.size = A at hD ⊢
  have hA : ∀ q : Nat, s.heap.size ≤ q → A q := fun q h => by rw [← hAe]; exact Or.inr h
  have hS : va_S A s.heap s.heap [] := va_S.rf
  have hP : va_P D vwCl [(h0, .inr (1, [.null, .null, .null, .int 0, .null, .null]))] s.heap := hP
  have hl := lv_entry ([.ref h0]) (n := 1) (Nat.le_of_ble_eq_true rfl)
  rw [lg_entry_eq]
  generalize (lg_sl ([.ref h0]) ++ List.replicate (1 - (lg_sl ([.ref h0])).length) Slot.unset).toArray = ls at hl ⊢
  have hl : lv_has ls 1 [(0, .ref h0)] := hl
  have km1000000 : (-1000000 : Int32).toInt = -1000000 := by decide
  have k4 : (4 : Int32).toInt = 4 := by decide
  have k100000 : (100000 : Int32).toInt = 100000 := by decide
  refine lv_aload_n hx hb dX1_init_0 rfl (lv_at hl 0 rfl) ?_
  refine W.objInit hx hb hown (hts (Cond.methodLink RX1 3 objectInit) (wm_t (wm_l (wm_i 0 rfl)))) (hts (Cond.instanceMethod objectInit) (wm_t (wm_l (wm_i 1 rfl)))) (hts _ (by decide +kernel)) rfl (by rw [hml]; exact hl.1) rfl dX1_init_1 (Nat.le_of_ble_eq_true rfl) (Nat.le_of_ble_eq_true rfl) ?_
  refine W.eq (g2 := F0 m 4 ls []) rfl ?_
  refine lv_aload_n hx hb dX1_init_4 rfl (lv_at hl 0 rfl) ?_
  refine lv_bipush (v := 12) hx hb dX1_init_5 (by decide) ?_
  refine va_newa (atype := .int) (ty := .int) (a0 := (12, .inl (fun _ => 0))) hx hb (hts (Cond.arrayClass .int) (wm_t (wm_l (wm_i 3 rfl)))) rfl hK hP hD hS hA (fun _ => rfl) (by decide) (by decide) (by decide) (Nat.le_of_ble_eq_true rfl) (Nat.le_of_ble_eq_true rfl) dX1_init_7 (fun q1 cA2 H => ?_)
  clear hK hP hD hS
  intro hK hP hD hS
  have ecA2 : cI = cA2 := cls_eq hK 0 4 rfl rfl
  subst ecA2
  replace hK : va_K D vwCl (ty4 cI cY cJ cQ) s := hK.sub (tys' := ty4 cI cY cJ cQ) [0, 1, 2, 3] rfl
  replace hP : va_P D vwCl [(h0, .inr (1, [.null, .null, .null, .int 0, .null, .null])), (aI cI q1 12 (fun _ => 0))] H := hP
  replace hD : va_D A [(h0, .inr (1, [.null, .null, .null, .int 0, .null, .null])), (aI cI q1 12 (fun _ => 0))] := hD
  refine W.widen (k := 1) (n := 12) (by first | exact Nat.le_of_ble_eq_true rfl | omega) (by first | exact Nat.le_of_ble_eq_true rfl | omega) ?_
  refine va_putF (D := D) (ci := 1) (v := .ref q1) (ty := (.array .int)) (C := RX1) (T := TX1) (N := 6) hx hb hts inX1_init_X1 tyX1 tyX1_ok nmX1 hown hK hP hD hS 0 rfl rfl 0 (by decide) (hts (Cond.fieldLink RX1 9 "PortRooms$Crates" "firstOwner" "[I") (wm_t (wm_l (wm_i 4 rfl)))) (fun _ h9 => h9) rfl hin rfl (tyX1_ok 0 (by decide)) rfl rfl (Nat.le_of_ble_eq_true rfl) dX1_init_9 (fun H locs => ?_)
  clear hP hD hS
  intro hP hD hS
  replace hP : va_P D vwCl [(h0, .inr (1, [.ref q1, .null, .null, .int 0, .null, .null])), (aI cI q1 12 (fun _ => 0))] H := hP
  replace hD : va_D A [(h0, .inr (1, [.ref q1, .null, .null, .int 0, .null, .null])), (aI cI q1 12 (fun _ => 0))] := hD
  refine lv_aload_n hx hb dX1_init_12 rfl (lv_at hl 0 rfl) ?_
  refine lv_bipush (v := 12) hx hb dX1_init_13 (by decide) ?_
  refine va_newa (atype := .int) (ty := .int) (a0 := (12, .inl (fun _ => 0))) hx hb (hts (Cond.arrayClass .int) (wm_t (wm_l (wm_i 3 rfl)))) rfl hK hP hD hS hA (fun _ => rfl) (by decide) (by decide) (by decide) (Nat.le_of_ble_eq_true rfl) (Nat.le_of_ble_eq_true rfl) dX1_init_15 (fun q3 cA4 H => ?_)
  clear hK hP hD hS
  intro hK hP hD hS
  have ecA4 : cI = cA4 := cls_eq hK 0 4 rfl rfl
  subst ecA4
  replace hK : va_K D vwCl (ty4 cI cY cJ cQ) s := hK.sub (tys' := ty4 cI cY cJ cQ) [0, 1, 2, 3] rfl
  replace hP : va_P D vwCl [(h0, .inr (1, [.ref q1, .null, .null, .int 0, .null, .null])), (aI cI q1 12 (fun _ => 0)), (aI cI q3 12 (fun _ => 0))] H := hP
  replace hD : va_D A [(h0, .inr (1, [.ref q1, .null, .null, .int 0, .null, .null])), (aI cI q1 12 (fun _ => 0)), (aI cI q3 12 (fun _ => 0))] := hD
  refine W.widen (k := 2) (n := 24) (by first | exact Nat.le_of_ble_eq_true rfl | omega) (by first | exact Nat.le_of_ble_eq_true rfl | omega) ?_
  refine va_putF (D := D) (ci := 1) (v := .ref q3) (ty := (.array .int)) (C := RX1) (T := TX1) (N := 6) hx hb hts inX1_init_X1 tyX1 tyX1_ok nmX1 hown hK hP hD hS 0 rfl rfl 1 (by decide) (hts (Cond.fieldLink RX1 15 "PortRooms$Crates" "worth" "[I") (wm_t (wm_l (wm_i 5 rfl)))) (fun _ h9 => h9) rfl hin rfl (tyX1_ok 1 (by decide)) rfl rfl (Nat.le_of_ble_eq_true rfl) dX1_init_17 (fun H locs => ?_)
  clear hP hD hS
  intro hP hD hS
  replace hP : va_P D vwCl [(h0, .inr (1, [.ref q1, .ref q3, .null, .int 0, .null, .null])), (aI cI q1 12 (fun _ => 0)), (aI cI q3 12 (fun _ => 0))] H := hP
  replace hD : va_D A [(h0, .inr (1, [.ref q1, .ref q3, .null, .int 0, .null, .null])), (aI cI q1 12 (fun _ => 0)), (aI cI q3 12 (fun _ => 0))] := hD
  refine lv_aload_n hx hb dX1_init_20 rfl (lv_at hl 0 rfl) ?_
  refine lv_bipush (v := 12) hx hb dX1_init_21 (by decide) ?_
  refine va_newa (atype := .int) (ty := .int) (a0 := (12, .inl (fun _ => 0))) hx hb (hts (Cond.arrayClass .int) (wm_t (wm_l (wm_i 3 rfl)))) rfl hK hP hD hS hA (fun _ => rfl) (by decide) (by decide) (by decide) (Nat.le_of_ble_eq_true rfl) (Nat.le_of_ble_eq_true rfl) dX1_init_23 (fun q5 cA6 H => ?_)
  clear hK hP hD hS
  intro hK hP hD hS
  have ecA6 : cI = cA6 := cls_eq hK 0 4 rfl rfl
  subst ecA6
  replace hK : va_K D vwCl (ty4 cI cY cJ cQ) s := hK.sub (tys' := ty4 cI cY cJ cQ) [0, 1, 2, 3] rfl
  replace hP : va_P D vwCl [(h0, .inr (1, [.ref q1, .ref q3, .null, .int 0, .null, .null])), (aI cI q1 12 (fun _ => 0)), (aI cI q3 12 (fun _ => 0)), (aI cI q5 12 (fun _ => 0))] H := hP
  replace hD : va_D A [(h0, .inr (1, [.ref q1, .ref q3, .null, .int 0, .null, .null])), (aI cI q1 12 (fun _ => 0)), (aI cI q3 12 (fun _ => 0)), (aI cI q5 12 (fun _ => 0))] := hD
  refine W.widen (k := 3) (n := 36) (by first | exact Nat.le_of_ble_eq_true rfl | omega) (by first | exact Nat.le_of_ble_eq_true rfl | omega) ?_
  refine va_putF (D := D) (ci := 1) (v := .ref q5) (ty := (.array .int)) (C := RX1) (T := TX1) (N := 6) hx hb hts inX1_init_X1 tyX1 tyX1_ok nmX1 hown hK hP hD hS 0 rfl rfl 2 (by decide) (hts (Cond.fieldLink RX1 18 "PortRooms$Crates" "room" "[I") (wm_t (wm_l (wm_i 6 rfl)))) (fun _ h9 => h9) rfl hin rfl (tyX1_ok 2 (by decide)) rfl rfl (Nat.le_of_ble_eq_true rfl) dX1_init_25 (fun H locs => ?_)
  clear hP hD hS
  intro hP hD hS
  replace hP : va_P D vwCl [(h0, .inr (1, [.ref q1, .ref q3, .ref q5, .int 0, .null, .null])), (aI cI q1 12 (fun _ => 0)), (aI cI q3 12 (fun _ => 0)), (aI cI q5 12 (fun _ => 0))] H := hP
  replace hD : va_D A [(h0, .inr (1, [.ref q1, .ref q3, .ref q5, .int 0, .null, .null])), (aI cI q1 12 (fun _ => 0)), (aI cI q3 12 (fun _ => 0)), (aI cI q5 12 (fun _ => 0))] := hD
  refine lv_aload_n hx hb dX1_init_28 rfl (lv_at hl 0 rfl) ?_
  refine lv_bipush (v := 6) hx hb dX1_init_29 (by decide) ?_
  refine va_newa (atype := .int) (ty := .int) (a0 := (6, .inl (fun _ => 0))) hx hb (hts (Cond.arrayClass .int) (wm_t (wm_l (wm_i 3 rfl)))) rfl hK hP hD hS hA (fun _ => rfl) (by decide) (by decide) (by decide) (Nat.le_of_ble_eq_true rfl) (Nat.le_of_ble_eq_true rfl) dX1_init_31 (fun q7 cA8 H => ?_)
  clear hK hP hD hS
  intro hK hP hD hS
  have ecA8 : cI = cA8 := cls_eq hK 0 4 rfl rfl
  subst ecA8
  replace hK : va_K D vwCl (ty4 cI cY cJ cQ) s := hK.sub (tys' := ty4 cI cY cJ cQ) [0, 1, 2, 3] rfl
  replace hP : va_P D vwCl [(h0, .inr (1, [.ref q1, .ref q3, .ref q5, .int 0, .null, .null])), (aI cI q1 12 (fun _ => 0)), (aI cI q3 12 (fun _ => 0)), (aI cI q5 12 (fun _ => 0)), (aI cI q7 6 (fun _ => 0))] H := hP
  replace hD : va_D A [(h0, .inr (1, [.ref q1, .ref q3, .ref q5, .int 0, .null, .null])), (aI cI q1 12 (fun _ => 0)), (aI cI q3 12 (fun _ => 0)), (aI cI q5 12 (fun _ => 0)), (aI cI q7 6 (fun _ => 0))] := hD
  refine W.widen (k := 4) (n := 42) (by first | exact Nat.le_of_ble_eq_true rfl | omega) (by first | exact Nat.le_of_ble_eq_true rfl | omega) ?_
  refine va_putF (D := D) (ci := 1) (v := .ref q7) (ty := (.array .int)) (C := RX1) (T := TX1) (N := 6) hx hb hts inX1_init_X1 tyX1 tyX1_ok nmX1 hown hK hP hD hS 0 rfl rfl 4 (by decide) (hts (Cond.fieldLink RX1 21 "PortRooms$Crates" "air" "[I") (wm_t (wm_l (wm_i 7 rfl)))) (fun _ h9 => h9) rfl hin rfl (tyX1_ok 4 (by decide)) rfl rfl (Nat.le_of_ble_eq_true rfl) dX1_init_33 (fun H locs => ?_)
  clear hP hD hS
  intro hP hD hS
  replace hP : va_P D vwCl [(h0, .inr (1, [.ref q1, .ref q3, .ref q5, .int 0, .ref q7, .null])), (aI cI q1 12 (fun _ => 0)), (aI cI q3 12 (fun _ => 0)), (aI cI q5 12 (fun _ => 0)), (aI cI q7 6 (fun _ => 0))] H := hP
  replace hD : va_D A [(h0, .inr (1, [.ref q1, .ref q3, .ref q5, .int 0, .ref q7, .null])), (aI cI q1 12 (fun _ => 0)), (aI cI q3 12 (fun _ => 0)), (aI cI q5 12 (fun _ => 0)), (aI cI q7 6 (fun _ => 0))] := hD
  refine lv_aload_n hx hb dX1_init_36 rfl (lv_at hl 0 rfl) ?_
  refine lv_bipush (v := 6) hx hb dX1_init_37 (by decide) ?_
  refine va_newa (atype := .int) (ty := .int) (a0 := (6, .inl (fun _ => 0))) hx hb (hts (Cond.arrayClass .int) (wm_t (wm_l (wm_i 3 rfl)))) rfl hK hP hD hS hA (fun _ => rfl) (by decide) (by decide) (by decide) (Nat.le_of_ble_eq_true rfl) (Nat.le_of_ble_eq_true rfl) dX1_init_39 (fun q9 cA10 H => ?_)
  clear hK hP hD hS
  intro hK hP hD hS
  have ecA10 : cI = cA10 := cls_eq hK 0 4 rfl rfl
  subst ecA10
  replace hK : va_K D vwCl (ty4 cI cY cJ cQ) s := hK.sub (tys' := ty4 cI cY cJ cQ) [0, 1, 2, 3] rfl
  replace hP : va_P D vwCl [(h0, .inr (1, [.ref q1, .ref q3, .ref q5, .int 0, .ref q7, .null])), (aI cI q1 12 (fun _ => 0)), (aI cI q3 12 (fun _ => 0)), (aI cI q5 12 (fun _ => 0)), (aI cI q7 6 (fun _ => 0)), (aI cI q9 6 (fun _ => 0))] H := hP
  replace hD : va_D A [(h0, .inr (1, [.ref q1, .ref q3, .ref q5, .int 0, .ref q7, .null])), (aI cI q1 12 (fun _ => 0)), (aI cI q3 12 (fun _ => 0)), (aI cI q5 12 (fun _ => 0)), (aI cI q7 6 (fun _ => 0)), (aI cI q9 6 (fun _ => 0))] := hD
  refine W.widen (k := 5) (n := 48) (by first | exact Nat.le_of_ble_eq_true rfl | omega) (by first | exact Nat.le_of_ble_eq_true rfl | omega) ?_
  refine va_putF (D := D) (ci := 1) (v := .ref q9) (ty := (.array .int)) (C := RX1) (T := TX1) (N := 6) hx hb hts inX1_init_X1 tyX1 tyX1_ok nmX1 hown hK hP hD hS 0 rfl rfl 5 (by decide) (hts (Cond.fieldLink RX1 24 "PortRooms$Crates" "insured" "[I") (wm_t (wm_l (wm_i 8 rfl)))) (fun _ h9 => h9) rfl hin rfl (tyX1_ok 5 (by decide)) rfl rfl (Nat.le_of_ble_eq_true rfl) dX1_init_41 (fun H locs => ?_)
  clear hP hD hS
  intro hP hD hS
  replace hP : va_P D vwCl [(h0, .inr (1, [.ref q1, .ref q3, .ref q5, .int 0, .ref q7, .ref q9])), (aI cI q1 12 (fun _ => 0)), (aI cI q3 12 (fun _ => 0)), (aI cI q5 12 (fun _ => 0)), (aI cI q7 6 (fun _ => 0)), (aI cI q9 6 (fun _ => 0))] H := hP
  replace hD : va_D A [(h0, .inr (1, [.ref q1, .ref q3, .ref q5, .int 0, .ref q7, .ref q9])), (aI cI q1 12 (fun _ => 0)), (aI cI q3 12 (fun _ => 0)), (aI cI q5 12 (fun _ => 0)), (aI cI q7 6 (fun _ => 0)), (aI cI q9 6 (fun _ => 0))] := hD
  refine lv_aload_n hx hb dX1_init_44 rfl (lv_at hl 0 rfl) ?_
  refine va_get (D := D) (ci := 1) (v := .ref q5) (C := RX1) (T := TX1) (N := 6) hx hb hts inX1_init_X1 hown hK hP 0 rfl rfl 2 (by decide) (hts (Cond.fieldLink RX1 18 "PortRooms$Crates" "room" "[I") (wm_t (wm_l (wm_i 6 rfl)))) (fun _ h9 => h9) rfl dX1_init_45 ?_
  refine lv_ldc hx hb hown (hts (Cond.constant RX1 27 (-1000000)) (wm_t (wm_l (wm_i 9 rfl)))) dX1_init_48 ?_
  refine st_v (wr := [(h0, .inr (1, [.ref q1, .ref q3, .ref q5, .int 0, .ref q7, .ref q9])), (aI cI q1 12 (fun _ => 0)), (aI cI q3 12 (fun _ => 0)), (aI cI q7 6 (fun _ => 0)), (aI cI q9 6 (fun _ => 0))]) (va_runS (As := [.ref q5, .int (-1000000)]) (rest := []) ⟨hx, hb, hml, hown, hts⟩ (cFill l D cI cY cJ cQ _ q5 12 (fun _ => 0) ((-1000000) : Int32) (by decide)) (va_cwS 2 hts gX1_init_J7_fill_53178 rfl rfl rfl cdJ7_fill_53178 ⟨Nat.le_of_ble_eq_true rfl, Nat.le_of_ble_eq_true rfl⟩) (cPreS (hP.sub [3] rfl) hK (hD.sub [3] (by decide +kernel) rfl) hN) rfl rfl hl.1 rfl (lv_room (Nat.le_of_ble_eq_true rfl)) dX1_init_50 ⟨Nat.le_of_ble_eq_true rfl, Nat.le_of_ble_eq_true rfl⟩) hP hD hS hA [3] [0, 1, 2, 4, 5] rfl rfl (by decide +kernel) (by decide +kernel) (fun u11 H locs hw12 => ?_)
  clear hP hD hS
  intro hP hD hS
  replace hP : va_P D vwCl [(h0, .inr (1, [.ref q1, .ref q3, .ref q5, .int 0, .ref q7, .ref q9])), (aI cI q1 12 (fun _ => 0)), (aI cI q3 12 (fun _ => 0)), (aI cI q7 6 (fun _ => 0)), (aI cI q9 6 (fun _ => 0)), (aI cI q5 12 (fun _ => (-1000000)))] H := hP
  replace hD : va_D A [(h0, .inr (1, [.ref q1, .ref q3, .ref q5, .int 0, .ref q7, .ref q9])), (aI cI q1 12 (fun _ => 0)), (aI cI q3 12 (fun _ => 0)), (aI cI q7 6 (fun _ => 0)), (aI cI q9 6 (fun _ => 0)), (aI cI q5 12 (fun _ => (-1000000)))] := hD
  refine lv_aload_n hx hb dX1_init_53 rfl (lv_at hl 0 rfl) ?_
  refine va_get (D := D) (ci := 1) (v := .ref q7) (C := RX1) (T := TX1) (N := 6) hx hb hts inX1_init_X1 hown hK hP 0 rfl rfl 4 (by decide) (hts (Cond.fieldLink RX1 21 "PortRooms$Crates" "air" "[I") (wm_t (wm_l (wm_i 7 rfl)))) (fun _ h9 => h9) rfl dX1_init_54 ?_
  refine lv_iconst (v := 4) hx hb dX1_init_57 (by decide) ?_
  refine st_v (wr := [(h0, .inr (1, [.ref q1, .ref q3, .ref q5, .int 0, .ref q7, .ref q9])), (aI cI q1 12 (fun _ => 0)), (aI cI q3 12 (fun _ => 0)), (aI cI q9 6 (fun _ => 0)), (aI cI q5 12 (fun _ => (-1000000)))]) (va_runS (As := [.ref q7, .int 4]) (rest := []) ⟨hx, hb, hml, hown, hts⟩ (cFill l D cI cY cJ cQ _ q7 6 (fun _ => 0) (4 : Int32) (by decide)) (va_cwS 2 hts gX1_init_J7_fill_53178 rfl rfl rfl cdJ7_fill_53178 ⟨Nat.le_of_ble_eq_true rfl, Nat.le_of_ble_eq_true rfl⟩) (cPreS (hP.sub [3] rfl) hK (hD.sub [3] (by decide +kernel) rfl) hN) rfl rfl hl.1 rfl (lv_room (Nat.le_of_ble_eq_true rfl)) dX1_init_58 ⟨Nat.le_of_ble_eq_true rfl, Nat.le_of_ble_eq_true rfl⟩) hP hD hS hA [3] [0, 1, 2, 4, 5] rfl rfl (by decide +kernel) (by decide +kernel) (fun u14 H locs hw15 => ?_)
  clear hP hD hS
  intro hP hD hS
  replace hP : va_P D vwCl [(h0, .inr (1, [.ref q1, .ref q3, .ref q5, .int 0, .ref q7, .ref q9])), (aI cI q1 12 (fun _ => 0)), (aI cI q3 12 (fun _ => 0)), (aI cI q9 6 (fun _ => 0)), (aI cI q5 12 (fun _ => (-1000000))), (aI cI q7 6 (fun _ => 4))] H := hP
  replace hD : va_D A [(h0, .inr (1, [.ref q1, .ref q3, .ref q5, .int 0, .ref q7, .ref q9])), (aI cI q1 12 (fun _ => 0)), (aI cI q3 12 (fun _ => 0)), (aI cI q9 6 (fun _ => 0)), (aI cI q5 12 (fun _ => (-1000000))), (aI cI q7 6 (fun _ => 4))] := hD
  refine lv_aload_n hx hb dX1_init_61 rfl (lv_at hl 0 rfl) ?_
  refine va_get (D := D) (ci := 1) (v := .ref q9) (C := RX1) (T := TX1) (N := 6) hx hb hts inX1_init_X1 hown hK hP 0 rfl rfl 5 (by decide) (hts (Cond.fieldLink RX1 24 "PortRooms$Crates" "insured" "[I") (wm_t (wm_l (wm_i 8 rfl)))) (fun _ h9 => h9) rfl dX1_init_62 ?_
  refine lv_ldc hx hb hown (hts (Cond.constant RX1 34 (100000)) (wm_t (wm_l (wm_i 10 rfl)))) dX1_init_65 ?_
  refine st_v (wr := [(h0, .inr (1, [.ref q1, .ref q3, .ref q5, .int 0, .ref q7, .ref q9])), (aI cI q1 12 (fun _ => 0)), (aI cI q3 12 (fun _ => 0)), (aI cI q5 12 (fun _ => (-1000000))), (aI cI q7 6 (fun _ => 4))]) (va_runS (As := [.ref q9, .int 100000]) (rest := []) ⟨hx, hb, hml, hown, hts⟩ (cFill l D cI cY cJ cQ _ q9 6 (fun _ => 0) (100000 : Int32) (by decide)) (va_cwS 2 hts gX1_init_J7_fill_53178 rfl rfl rfl cdJ7_fill_53178 ⟨Nat.le_of_ble_eq_true rfl, Nat.le_of_ble_eq_true rfl⟩) (cPreS (hP.sub [3] rfl) hK (hD.sub [3] (by decide +kernel) rfl) hN) rfl rfl hl.1 rfl (lv_room (Nat.le_of_ble_eq_true rfl)) dX1_init_67 ⟨Nat.le_of_ble_eq_true rfl, Nat.le_of_ble_eq_true rfl⟩) hP hD hS hA [3] [0, 1, 2, 4, 5] rfl rfl (by decide +kernel) (by decide +kernel) (fun u17 H locs hw18 => ?_)
  clear hP hD hS
  intro hP hD hS
  replace hP : va_P D vwCl [(h0, .inr (1, [.ref q1, .ref q3, .ref q5, .int 0, .ref q7, .ref q9])), (aI cI q1 12 (fun _ => 0)), (aI cI q3 12 (fun _ => 0)), (aI cI q5 12 (fun _ => (-1000000))), (aI cI q7 6 (fun _ => 4)), (aI cI q9 6 (fun _ => 100000))] H := hP
  replace hD : va_D A [(h0, .inr (1, [.ref q1, .ref q3, .ref q5, .int 0, .ref q7, .ref q9])), (aI cI q1 12 (fun _ => 0)), (aI cI q3 12 (fun _ => 0)), (aI cI q5 12 (fun _ => (-1000000))), (aI cI q7 6 (fun _ => 4)), (aI cI q9 6 (fun _ => 100000))] := hD
  have hP9 := hP.sub (ws' := [(h0, .inr (1, [.ref q1, .ref q3, .ref q5, .int 0, .ref q7, .ref q9])), (aI cI q1 12 (fun _ => 0)), (aI cI q3 12 (fun _ => 0)), (aI cI q5 12 (fun _ => (-1000000))), (aI cI q7 6 (fun _ => 4)), (aI cI q9 6 (fun _ => 100000))]) [0, 1, 2, 3, 4, 5] rfl
  have hD9 := hD.sub (ws' := [(h0, .inr (1, [.ref q1, .ref q3, .ref q5, .int 0, .ref q7, .ref q9])), (aI cI q1 12 (fun _ => 0)), (aI cI q3 12 (fun _ => 0)), (aI cI q5 12 (fun _ => (-1000000))), (aI cI q7 6 (fun _ => 4)), (aI cI q9 6 (fun _ => 100000))]) [0, 1, 2, 3, 4, 5] (by decide +kernel) rfl
  exact W.vret hx hb hr (fun t ht hW => ⟨⟨(fun k => ([q1, q3, q5, 0, q7, q9] : List Nat).getD k 0), rfl, trivial, by rw [ht]; exact hP9, va_K.moved hW.alike hK, hD9⟩, hS.F ht⟩) hS.2.2 dX1_init_70

set_option maxHeartbeats 4000000 in
set_option maxRecDepth 100000 in
theorem ct_X7_init (l : Launch) (D : va_G) (cI cY cJ cQ : ClassId) (sz : Nat) (h0 : Nat)   : Met l yX7_init wsX7_init ({ frames := 1, cells := 6, slots := 240, locals := 12 }) (cPre D (ty4 cI cY cJ cQ) [(h0, .inr (7, [.null, .null, .null, .null, .null, .null, .int 0]))] sz [.ref h0]) (va_Qv (fun (u : Nat → Nat) => True) (cB D (ty4 cI cY cJ cQ) (fun (u : Nat → Nat) => [(h0, .inr (7, [.ref (u 0), .ref (u 1), .ref (u 2), .ref (u 3), .ref (u 4), .ref (u 5), .int 0])), (aI cI (u 0) 40 (fun _ => 0)), (aI cI (u 1) 40 (fun _ => 0)), (aI cI (u 2) 40 (fun _ => 0)), (aI cI (u 3) 40 (fun _ => 0)), (aI cI (u 4) 40 (fun _ => 0)), (aI cI (u 5) 40 (fun _ => 0))]) (va_A [(h0, .inr (7, [.null, .null, .null, .null, .null, .null, .int 0]))] sz)) (va_A [(h0, .inr (7, [.null, .null, .null, .null, .null, .null, .int 0]))] sz)) 6 240 (va_A [(h0, .inr (7, [.null, .null, .null, .null, .null, .null, .int 0]))] sz) := by
  refine Met.ofW (cc := cX7_init) (maxL := 1) (ret := none) (by decide) rfl ?_
  intro p e s m args below meth c s₁ B hml hv
  obtain ⟨rfl, hsz, hP, hK, hD0, hN⟩ := hv
  have hx := B.exec
  have hb := B.bytes
  have hr := B.returns
  have hts := atoms_spec (ws := wsX7_init) B.pre
  have hown : s.vm.findClass RX7 = some m.cls := findClass_of_methodNamed B.named
  have hlocks := B.notSynchronized
  have hin : meth.name = "<init>" := (name_of_methodNamed B.named B.method).1
  subst hsz
  have hD := hD0.self (sz := s.heap.size)
  generalize hAe : va_A [(h0, .inr (7, [.null, .null, .null, .null, .null, .null, .int 0]))] s.heap.size = A at hD ⊢
  have hA : ∀ q : Nat, s.heap.size ≤ q → A q := fun q h => by rw [← hAe]; exact Or.inr h
  have hS : va_S A s.heap s.heap [] := va_S.rf
  have hP : va_P D vwCl [(h0, .inr (7, [.null, .null, .null, .null, .null, .null, .int 0]))] s.heap := hP
  have hl := lv_entry ([.ref h0]) (n := 1) (Nat.le_of_ble_eq_true rfl)
  rw [lg_entry_eq]
  generalize (lg_sl ([.ref h0]) ++ List.replicate (1 - (lg_sl ([.ref h0])).length) Slot.unset).toArray = ls at hl ⊢
  have hl : lv_has ls 1 [(0, .ref h0)] := hl
  refine lv_aload_n hx hb dX7_init_0 rfl (lv_at hl 0 rfl) ?_
  refine W.objInit hx hb hown (hts (Cond.methodLink RX7 3 objectInit) (wm_t (wm_l (wm_i 0 rfl)))) (hts (Cond.instanceMethod objectInit) (wm_t (wm_l (wm_i 1 rfl)))) (hts _ (by decide +kernel)) rfl (by rw [hml]; exact hl.1) rfl dX7_init_1 (Nat.le_of_ble_eq_true rfl) (Nat.le_of_ble_eq_true rfl) ?_
  refine W.eq (g2 := F0 m 4 ls []) rfl ?_
  refine lv_aload_n hx hb dX7_init_4 rfl (lv_at hl 0 rfl) ?_
  refine lv_bipush (v := 40) hx hb dX7_init_5 (by decide) ?_
  refine va_newa (atype := .int) (ty := .int) (a0 := (40, .inl (fun _ => 0))) hx hb (hts (Cond.arrayClass .int) (wm_t (wm_l (wm_i 3 rfl)))) rfl hK hP hD hS hA (fun _ => rfl) (by decide) (by decide) (by decide) (Nat.le_of_ble_eq_true rfl) (Nat.le_of_ble_eq_true rfl) dX7_init_7 (fun q1 cA2 H => ?_)
  clear hK hP hD hS
  intro hK hP hD hS
  have ecA2 : cI = cA2 := cls_eq hK 0 4 rfl rfl
  subst ecA2
  replace hK : va_K D vwCl (ty4 cI cY cJ cQ) s := hK.sub (tys' := ty4 cI cY cJ cQ) [0, 1, 2, 3] rfl
  replace hP : va_P D vwCl [(h0, .inr (7, [.null, .null, .null, .null, .null, .null, .int 0])), (aI cI q1 40 (fun _ => 0))] H := hP
  replace hD : va_D A [(h0, .inr (7, [.null, .null, .null, .null, .null, .null, .int 0])), (aI cI q1 40 (fun _ => 0))] := hD
  refine W.widen (k := 1) (n := 40) (by first | exact Nat.le_of_ble_eq_true rfl | omega) (by first | exact Nat.le_of_ble_eq_true rfl | omega) ?_
  refine va_putF (D := D) (ci := 7) (v := .ref q1) (ty := (.array .int)) (C := RX7) (T := TX7) (N := 7) hx hb hts inX7_init_X7 tyX7 tyX7_ok nmX7 hown hK hP hD hS 0 rfl rfl 0 (by decide) (hts (Cond.fieldLink RX7 9 "PortRooms$Papers" "crate" "[I") (wm_t (wm_l (wm_i 4 rfl)))) (fun _ h9 => h9) rfl hin rfl (tyX7_ok 0 (by decide)) rfl rfl (Nat.le_of_ble_eq_true rfl) dX7_init_9 (fun H locs => ?_)
  clear hP hD hS
  intro hP hD hS
  replace hP : va_P D vwCl [(h0, .inr (7, [.ref q1, .null, .null, .null, .null, .null, .int 0])), (aI cI q1 40 (fun _ => 0))] H := hP
  replace hD : va_D A [(h0, .inr (7, [.ref q1, .null, .null, .null, .null, .null, .int 0])), (aI cI q1 40 (fun _ => 0))] := hD
  refine lv_aload_n hx hb dX7_init_12 rfl (lv_at hl 0 rfl) ?_
  refine lv_bipush (v := 40) hx hb dX7_init_13 (by decide) ?_
  refine va_newa (atype := .int) (ty := .int) (a0 := (40, .inl (fun _ => 0))) hx hb (hts (Cond.arrayClass .int) (wm_t (wm_l (wm_i 3 rfl)))) rfl hK hP hD hS hA (fun _ => rfl) (by decide) (by decide) (by decide) (Nat.le_of_ble_eq_true rfl) (Nat.le_of_ble_eq_true rfl) dX7_init_15 (fun q3 cA4 H => ?_)
  clear hK hP hD hS
  intro hK hP hD hS
  have ecA4 : cI = cA4 := cls_eq hK 0 4 rfl rfl
  subst ecA4
  replace hK : va_K D vwCl (ty4 cI cY cJ cQ) s := hK.sub (tys' := ty4 cI cY cJ cQ) [0, 1, 2, 3] rfl
  replace hP : va_P D vwCl [(h0, .inr (7, [.ref q1, .null, .null, .null, .null, .null, .int 0])), (aI cI q1 40 (fun _ => 0)), (aI cI q3 40 (fun _ => 0))] H := hP
  replace hD : va_D A [(h0, .inr (7, [.ref q1, .null, .null, .null, .null, .null, .int 0])), (aI cI q1 40 (fun _ => 0)), (aI cI q3 40 (fun _ => 0))] := hD
  refine W.widen (k := 2) (n := 80) (by first | exact Nat.le_of_ble_eq_true rfl | omega) (by first | exact Nat.le_of_ble_eq_true rfl | omega) ?_
  refine va_putF (D := D) (ci := 7) (v := .ref q3) (ty := (.array .int)) (C := RX7) (T := TX7) (N := 7) hx hb hts inX7_init_X7 tyX7 tyX7_ok nmX7 hown hK hP hD hS 0 rfl rfl 1 (by decide) (hts (Cond.fieldLink RX7 15 "PortRooms$Papers" "from" "[I") (wm_t (wm_l (wm_i 5 rfl)))) (fun _ h9 => h9) rfl hin rfl (tyX7_ok 1 (by decide)) rfl rfl (Nat.le_of_ble_eq_true rfl) dX7_init_17 (fun H locs => ?_)
  clear hP hD hS
  intro hP hD hS
  replace hP : va_P D vwCl [(h0, .inr (7, [.ref q1, .ref q3, .null, .null, .null, .null, .int 0])), (aI cI q1 40 (fun _ => 0)), (aI cI q3 40 (fun _ => 0))] H := hP
  replace hD : va_D A [(h0, .inr (7, [.ref q1, .ref q3, .null, .null, .null, .null, .int 0])), (aI cI q1 40 (fun _ => 0)), (aI cI q3 40 (fun _ => 0))] := hD
  refine lv_aload_n hx hb dX7_init_20 rfl (lv_at hl 0 rfl) ?_
  refine lv_bipush (v := 40) hx hb dX7_init_21 (by decide) ?_
  refine va_newa (atype := .int) (ty := .int) (a0 := (40, .inl (fun _ => 0))) hx hb (hts (Cond.arrayClass .int) (wm_t (wm_l (wm_i 3 rfl)))) rfl hK hP hD hS hA (fun _ => rfl) (by decide) (by decide) (by decide) (Nat.le_of_ble_eq_true rfl) (Nat.le_of_ble_eq_true rfl) dX7_init_23 (fun q5 cA6 H => ?_)
  clear hK hP hD hS
  intro hK hP hD hS
  have ecA6 : cI = cA6 := cls_eq hK 0 4 rfl rfl
  subst ecA6
  replace hK : va_K D vwCl (ty4 cI cY cJ cQ) s := hK.sub (tys' := ty4 cI cY cJ cQ) [0, 1, 2, 3] rfl
  replace hP : va_P D vwCl [(h0, .inr (7, [.ref q1, .ref q3, .null, .null, .null, .null, .int 0])), (aI cI q1 40 (fun _ => 0)), (aI cI q3 40 (fun _ => 0)), (aI cI q5 40 (fun _ => 0))] H := hP
  replace hD : va_D A [(h0, .inr (7, [.ref q1, .ref q3, .null, .null, .null, .null, .int 0])), (aI cI q1 40 (fun _ => 0)), (aI cI q3 40 (fun _ => 0)), (aI cI q5 40 (fun _ => 0))] := hD
  refine W.widen (k := 3) (n := 120) (by first | exact Nat.le_of_ble_eq_true rfl | omega) (by first | exact Nat.le_of_ble_eq_true rfl | omega) ?_
  refine va_putF (D := D) (ci := 7) (v := .ref q5) (ty := (.array .int)) (C := RX7) (T := TX7) (N := 7) hx hb hts inX7_init_X7 tyX7 tyX7_ok nmX7 hown hK hP hD hS 0 rfl rfl 2 (by decide) (hts (Cond.fieldLink RX7 18 "PortRooms$Papers" "to" "[I") (wm_t (wm_l (wm_i 6 rfl)))) (fun _ h9 => h9) rfl hin rfl (tyX7_ok 2 (by decide)) rfl rfl (Nat.le_of_ble_eq_true rfl) dX7_init_25 (fun H locs => ?_)
  clear hP hD hS
  intro hP hD hS
  replace hP : va_P D vwCl [(h0, .inr (7, [.ref q1, .ref q3, .ref q5, .null, .null, .null, .int 0])), (aI cI q1 40 (fun _ => 0)), (aI cI q3 40 (fun _ => 0)), (aI cI q5 40 (fun _ => 0))] H := hP
  replace hD : va_D A [(h0, .inr (7, [.ref q1, .ref q3, .ref q5, .null, .null, .null, .int 0])), (aI cI q1 40 (fun _ => 0)), (aI cI q3 40 (fun _ => 0)), (aI cI q5 40 (fun _ => 0))] := hD
  refine lv_aload_n hx hb dX7_init_28 rfl (lv_at hl 0 rfl) ?_
  refine lv_bipush (v := 40) hx hb dX7_init_29 (by decide) ?_
  refine va_newa (atype := .int) (ty := .int) (a0 := (40, .inl (fun _ => 0))) hx hb (hts (Cond.arrayClass .int) (wm_t (wm_l (wm_i 3 rfl)))) rfl hK hP hD hS hA (fun _ => rfl) (by decide) (by decide) (by decide) (Nat.le_of_ble_eq_true rfl) (Nat.le_of_ble_eq_true rfl) dX7_init_31 (fun q7 cA8 H => ?_)
  clear hK hP hD hS
  intro hK hP hD hS
  have ecA8 : cI = cA8 := cls_eq hK 0 4 rfl rfl
  subst ecA8
  replace hK : va_K D vwCl (ty4 cI cY cJ cQ) s := hK.sub (tys' := ty4 cI cY cJ cQ) [0, 1, 2, 3] rfl
  replace hP : va_P D vwCl [(h0, .inr (7, [.ref q1, .ref q3, .ref q5, .null, .null, .null, .int 0])), (aI cI q1 40 (fun _ => 0)), (aI cI q3 40 (fun _ => 0)), (aI cI q5 40 (fun _ => 0)), (aI cI q7 40 (fun _ => 0))] H := hP
  replace hD : va_D A [(h0, .inr (7, [.ref q1, .ref q3, .ref q5, .null, .null, .null, .int 0])), (aI cI q1 40 (fun _ => 0)), (aI cI q3 40 (fun _ => 0)), (aI cI q5 40 (fun _ => 0)), (aI cI q7 40 (fun _ => 0))] := hD
  refine W.widen (k := 4) (n := 160) (by first | exact Nat.le_of_ble_eq_true rfl | omega) (by first | exact Nat.le_of_ble_eq_true rfl | omega) ?_
  refine va_putF (D := D) (ci := 7) (v := .ref q7) (ty := (.array .int)) (C := RX7) (T := TX7) (N := 7) hx hb hts inX7_init_X7 tyX7 tyX7_ok nmX7 hown hK hP hD hS 0 rfl rfl 3 (by decide) (hts (Cond.fieldLink RX7 21 "PortRooms$Papers" "said" "[I") (wm_t (wm_l (wm_i 7 rfl)))) (fun _ h9 => h9) rfl hin rfl (tyX7_ok 3 (by decide)) rfl rfl (Nat.le_of_ble_eq_true rfl) dX7_init_33 (fun H locs => ?_)
  clear hP hD hS
  intro hP hD hS
  replace hP : va_P D vwCl [(h0, .inr (7, [.ref q1, .ref q3, .ref q5, .ref q7, .null, .null, .int 0])), (aI cI q1 40 (fun _ => 0)), (aI cI q3 40 (fun _ => 0)), (aI cI q5 40 (fun _ => 0)), (aI cI q7 40 (fun _ => 0))] H := hP
  replace hD : va_D A [(h0, .inr (7, [.ref q1, .ref q3, .ref q5, .ref q7, .null, .null, .int 0])), (aI cI q1 40 (fun _ => 0)), (aI cI q3 40 (fun _ => 0)), (aI cI q5 40 (fun _ => 0)), (aI cI q7 40 (fun _ => 0))] := hD
  refine lv_aload_n hx hb dX7_init_36 rfl (lv_at hl 0 rfl) ?_
  refine lv_bipush (v := 40) hx hb dX7_init_37 (by decide) ?_
  refine va_newa (atype := .int) (ty := .int) (a0 := (40, .inl (fun _ => 0))) hx hb (hts (Cond.arrayClass .int) (wm_t (wm_l (wm_i 3 rfl)))) rfl hK hP hD hS hA (fun _ => rfl) (by decide) (by decide) (by decide) (Nat.le_of_ble_eq_true rfl) (Nat.le_of_ble_eq_true rfl) dX7_init_39 (fun q9 cA10 H => ?_)
  clear hK hP hD hS
  intro hK hP hD hS
  have ecA10 : cI = cA10 := cls_eq hK 0 4 rfl rfl
  subst ecA10
  replace hK : va_K D vwCl (ty4 cI cY cJ cQ) s := hK.sub (tys' := ty4 cI cY cJ cQ) [0, 1, 2, 3] rfl
  replace hP : va_P D vwCl [(h0, .inr (7, [.ref q1, .ref q3, .ref q5, .ref q7, .null, .null, .int 0])), (aI cI q1 40 (fun _ => 0)), (aI cI q3 40 (fun _ => 0)), (aI cI q5 40 (fun _ => 0)), (aI cI q7 40 (fun _ => 0)), (aI cI q9 40 (fun _ => 0))] H := hP
  replace hD : va_D A [(h0, .inr (7, [.ref q1, .ref q3, .ref q5, .ref q7, .null, .null, .int 0])), (aI cI q1 40 (fun _ => 0)), (aI cI q3 40 (fun _ => 0)), (aI cI q5 40 (fun _ => 0)), (aI cI q7 40 (fun _ => 0)), (aI cI q9 40 (fun _ => 0))] := hD
  refine W.widen (k := 5) (n := 200) (by first | exact Nat.le_of_ble_eq_true rfl | omega) (by first | exact Nat.le_of_ble_eq_true rfl | omega) ?_
  refine va_putF (D := D) (ci := 7) (v := .ref q9) (ty := (.array .int)) (C := RX7) (T := TX7) (N := 7) hx hb hts inX7_init_X7 tyX7 tyX7_ok nmX7 hown hK hP hD hS 0 rfl rfl 4 (by decide) (hts (Cond.fieldLink RX7 24 "PortRooms$Papers" "filed" "[I") (wm_t (wm_l (wm_i 8 rfl)))) (fun _ h9 => h9) rfl hin rfl (tyX7_ok 4 (by decide)) rfl rfl (Nat.le_of_ble_eq_true rfl) dX7_init_41 (fun H locs => ?_)
  clear hP hD hS
  intro hP hD hS
  replace hP : va_P D vwCl [(h0, .inr (7, [.ref q1, .ref q3, .ref q5, .ref q7, .ref q9, .null, .int 0])), (aI cI q1 40 (fun _ => 0)), (aI cI q3 40 (fun _ => 0)), (aI cI q5 40 (fun _ => 0)), (aI cI q7 40 (fun _ => 0)), (aI cI q9 40 (fun _ => 0))] H := hP
  replace hD : va_D A [(h0, .inr (7, [.ref q1, .ref q3, .ref q5, .ref q7, .ref q9, .null, .int 0])), (aI cI q1 40 (fun _ => 0)), (aI cI q3 40 (fun _ => 0)), (aI cI q5 40 (fun _ => 0)), (aI cI q7 40 (fun _ => 0)), (aI cI q9 40 (fun _ => 0))] := hD
  refine lv_aload_n hx hb dX7_init_44 rfl (lv_at hl 0 rfl) ?_
  refine lv_bipush (v := 40) hx hb dX7_init_45 (by decide) ?_
  refine va_newa (atype := .int) (ty := .int) (a0 := (40, .inl (fun _ => 0))) hx hb (hts (Cond.arrayClass .int) (wm_t (wm_l (wm_i 3 rfl)))) rfl hK hP hD hS hA (fun _ => rfl) (by decide) (by decide) (by decide) (Nat.le_of_ble_eq_true rfl) (Nat.le_of_ble_eq_true rfl) dX7_init_47 (fun q11 cA12 H => ?_)
  clear hK hP hD hS
  intro hK hP hD hS
  have ecA12 : cI = cA12 := cls_eq hK 0 4 rfl rfl
  subst ecA12
  replace hK : va_K D vwCl (ty4 cI cY cJ cQ) s := hK.sub (tys' := ty4 cI cY cJ cQ) [0, 1, 2, 3] rfl
  replace hP : va_P D vwCl [(h0, .inr (7, [.ref q1, .ref q3, .ref q5, .ref q7, .ref q9, .null, .int 0])), (aI cI q1 40 (fun _ => 0)), (aI cI q3 40 (fun _ => 0)), (aI cI q5 40 (fun _ => 0)), (aI cI q7 40 (fun _ => 0)), (aI cI q9 40 (fun _ => 0)), (aI cI q11 40 (fun _ => 0))] H := hP
  replace hD : va_D A [(h0, .inr (7, [.ref q1, .ref q3, .ref q5, .ref q7, .ref q9, .null, .int 0])), (aI cI q1 40 (fun _ => 0)), (aI cI q3 40 (fun _ => 0)), (aI cI q5 40 (fun _ => 0)), (aI cI q7 40 (fun _ => 0)), (aI cI q9 40 (fun _ => 0)), (aI cI q11 40 (fun _ => 0))] := hD
  refine W.widen (k := 6) (n := 240) (by first | exact Nat.le_of_ble_eq_true rfl | omega) (by first | exact Nat.le_of_ble_eq_true rfl | omega) ?_
  refine va_putF (D := D) (ci := 7) (v := .ref q11) (ty := (.array .int)) (C := RX7) (T := TX7) (N := 7) hx hb hts inX7_init_X7 tyX7 tyX7_ok nmX7 hown hK hP hD hS 0 rfl rfl 5 (by decide) (hts (Cond.fieldLink RX7 27 "PortRooms$Papers" "order" "[I") (wm_t (wm_l (wm_i 9 rfl)))) (fun _ h9 => h9) rfl hin rfl (tyX7_ok 5 (by decide)) rfl rfl (Nat.le_of_ble_eq_true rfl) dX7_init_49 (fun H locs => ?_)
  clear hP hD hS
  intro hP hD hS
  replace hP : va_P D vwCl [(h0, .inr (7, [.ref q1, .ref q3, .ref q5, .ref q7, .ref q9, .ref q11, .int 0])), (aI cI q1 40 (fun _ => 0)), (aI cI q3 40 (fun _ => 0)), (aI cI q5 40 (fun _ => 0)), (aI cI q7 40 (fun _ => 0)), (aI cI q9 40 (fun _ => 0)), (aI cI q11 40 (fun _ => 0))] H := hP
  replace hD : va_D A [(h0, .inr (7, [.ref q1, .ref q3, .ref q5, .ref q7, .ref q9, .ref q11, .int 0])), (aI cI q1 40 (fun _ => 0)), (aI cI q3 40 (fun _ => 0)), (aI cI q5 40 (fun _ => 0)), (aI cI q7 40 (fun _ => 0)), (aI cI q9 40 (fun _ => 0)), (aI cI q11 40 (fun _ => 0))] := hD
  have hP9 := hP.sub (ws' := [(h0, .inr (7, [.ref q1, .ref q3, .ref q5, .ref q7, .ref q9, .ref q11, .int 0])), (aI cI q1 40 (fun _ => 0)), (aI cI q3 40 (fun _ => 0)), (aI cI q5 40 (fun _ => 0)), (aI cI q7 40 (fun _ => 0)), (aI cI q9 40 (fun _ => 0)), (aI cI q11 40 (fun _ => 0))]) [0, 1, 2, 3, 4, 5, 6] rfl
  have hD9 := hD.sub (ws' := [(h0, .inr (7, [.ref q1, .ref q3, .ref q5, .ref q7, .ref q9, .ref q11, .int 0])), (aI cI q1 40 (fun _ => 0)), (aI cI q3 40 (fun _ => 0)), (aI cI q5 40 (fun _ => 0)), (aI cI q7 40 (fun _ => 0)), (aI cI q9 40 (fun _ => 0)), (aI cI q11 40 (fun _ => 0))]) [0, 1, 2, 3, 4, 5, 6] (by decide +kernel) rfl
  exact W.vret hx hb hr (fun t ht hW => ⟨⟨(fun k => ([q1, q3, q5, q7, q9, q11, 0] : List Nat).getD k 0), rfl, trivial, by rw [ht]; exact hP9, va_K.moved hW.alike hK, hD9⟩, hS.F ht⟩) hS.2.2 dX7_init_52

set_option maxHeartbeats 4000000 in
set_option maxRecDepth 100000 in
theorem ct_X8_init (l : Launch) (D : va_G) (cI cY cJ cQ : ClassId) (sz : Nat) (h0 : Nat)   : Met l yX8_init wsX8_init ({ frames := 1, cells := 5, slots := 200, locals := 12 }) (cPre D (ty4 cI cY cJ cQ) [(h0, .inr (8, [.null, .null, .null, .null, .int 0, .null]))] sz [.ref h0]) (va_Qv (fun (u : Nat → Nat) => True) (cB D (ty4 cI cY cJ cQ) (fun (u : Nat → Nat) => [(h0, .inr (8, [.ref (u 0), .ref (u 1), .ref (u 2), .ref (u 3), .int 0, .ref (u 5)])), (aI cI (u 0) 40 (fun _ => 0)), (aI cI (u 1) 40 (fun _ => 0)), (aI cI (u 2) 40 (fun _ => 0)), (aI cI (u 3) 40 (fun _ => 0)), (aI cI (u 5) 40 (fun _ => 0))]) (va_A [(h0, .inr (8, [.null, .null, .null, .null, .int 0, .null]))] sz)) (va_A [(h0, .inr (8, [.null, .null, .null, .null, .int 0, .null]))] sz)) 5 200 (va_A [(h0, .inr (8, [.null, .null, .null, .null, .int 0, .null]))] sz) := by
  refine Met.ofW (cc := cX8_init) (maxL := 1) (ret := none) (by decide) rfl ?_
  intro p e s m args below meth c s₁ B hml hv
  obtain ⟨rfl, hsz, hP, hK, hD0, hN⟩ := hv
  have hx := B.exec
  have hb := B.bytes
  have hr := B.returns
  have hts := atoms_spec (ws := wsX8_init) B.pre
  have hown : s.vm.findClass RX8 = some m.cls := findClass_of_methodNamed B.named
  have hlocks := B.notSynchronized
  have hin : meth.name = "<init>" := (name_of_methodNamed B.named B.method).1
  subst hsz
  have hD := hD0.self (sz := s.heap.size)
  generalize hAe : va_A [(h0, .inr (8, [.null, .null, .null, .null, .int 0, .null]))] s.heap.size = A at hD ⊢
  have hA : ∀ q : Nat, s.heap.size ≤ q → A q := fun q h => by rw [← hAe]; exact Or.inr h
  have hS : va_S A s.heap s.heap [] := va_S.rf
  have hP : va_P D vwCl [(h0, .inr (8, [.null, .null, .null, .null, .int 0, .null]))] s.heap := hP
  have hl := lv_entry ([.ref h0]) (n := 1) (Nat.le_of_ble_eq_true rfl)
  rw [lg_entry_eq]
  generalize (lg_sl ([.ref h0]) ++ List.replicate (1 - (lg_sl ([.ref h0])).length) Slot.unset).toArray = ls at hl ⊢
  have hl : lv_has ls 1 [(0, .ref h0)] := hl
  refine lv_aload_n hx hb dX8_init_0 rfl (lv_at hl 0 rfl) ?_
  refine W.objInit hx hb hown (hts (Cond.methodLink RX8 3 objectInit) (wm_t (wm_l (wm_i 0 rfl)))) (hts (Cond.instanceMethod objectInit) (wm_t (wm_l (wm_i 1 rfl)))) (hts _ (by decide +kernel)) rfl (by rw [hml]; exact hl.1) rfl dX8_init_1 (Nat.le_of_ble_eq_true rfl) (Nat.le_of_ble_eq_true rfl) ?_
  refine W.eq (g2 := F0 m 4 ls []) rfl ?_
  refine lv_aload_n hx hb dX8_init_4 rfl (lv_at hl 0 rfl) ?_
  refine lv_bipush (v := 40) hx hb dX8_init_5 (by decide) ?_
  refine va_newa (atype := .int) (ty := .int) (a0 := (40, .inl (fun _ => 0))) hx hb (hts (Cond.arrayClass .int) (wm_t (wm_l (wm_i 3 rfl)))) rfl hK hP hD hS hA (fun _ => rfl) (by decide) (by decide) (by decide) (Nat.le_of_ble_eq_true rfl) (Nat.le_of_ble_eq_true rfl) dX8_init_7 (fun q1 cA2 H => ?_)
  clear hK hP hD hS
  intro hK hP hD hS
  have ecA2 : cI = cA2 := cls_eq hK 0 4 rfl rfl
  subst ecA2
  replace hK : va_K D vwCl (ty4 cI cY cJ cQ) s := hK.sub (tys' := ty4 cI cY cJ cQ) [0, 1, 2, 3] rfl
  replace hP : va_P D vwCl [(h0, .inr (8, [.null, .null, .null, .null, .int 0, .null])), (aI cI q1 40 (fun _ => 0))] H := hP
  replace hD : va_D A [(h0, .inr (8, [.null, .null, .null, .null, .int 0, .null])), (aI cI q1 40 (fun _ => 0))] := hD
  refine W.widen (k := 1) (n := 40) (by first | exact Nat.le_of_ble_eq_true rfl | omega) (by first | exact Nat.le_of_ble_eq_true rfl | omega) ?_
  refine va_putF (D := D) (ci := 8) (v := .ref q1) (ty := (.array .int)) (C := RX8) (T := TX8) (N := 6) hx hb hts inX8_init_X8 tyX8 tyX8_ok nmX8 hown hK hP hD hS 0 rfl rfl 0 (by decide) (hts (Cond.fieldLink RX8 9 "PortRooms$Pledges" "crate" "[I") (wm_t (wm_l (wm_i 4 rfl)))) (fun _ h9 => h9) rfl hin rfl (tyX8_ok 0 (by decide)) rfl rfl (Nat.le_of_ble_eq_true rfl) dX8_init_9 (fun H locs => ?_)
  clear hP hD hS
  intro hP hD hS
  replace hP : va_P D vwCl [(h0, .inr (8, [.ref q1, .null, .null, .null, .int 0, .null])), (aI cI q1 40 (fun _ => 0))] H := hP
  replace hD : va_D A [(h0, .inr (8, [.ref q1, .null, .null, .null, .int 0, .null])), (aI cI q1 40 (fun _ => 0))] := hD
  refine lv_aload_n hx hb dX8_init_12 rfl (lv_at hl 0 rfl) ?_
  refine lv_bipush (v := 40) hx hb dX8_init_13 (by decide) ?_
  refine va_newa (atype := .int) (ty := .int) (a0 := (40, .inl (fun _ => 0))) hx hb (hts (Cond.arrayClass .int) (wm_t (wm_l (wm_i 3 rfl)))) rfl hK hP hD hS hA (fun _ => rfl) (by decide) (by decide) (by decide) (Nat.le_of_ble_eq_true rfl) (Nat.le_of_ble_eq_true rfl) dX8_init_15 (fun q3 cA4 H => ?_)
  clear hK hP hD hS
  intro hK hP hD hS
  have ecA4 : cI = cA4 := cls_eq hK 0 4 rfl rfl
  subst ecA4
  replace hK : va_K D vwCl (ty4 cI cY cJ cQ) s := hK.sub (tys' := ty4 cI cY cJ cQ) [0, 1, 2, 3] rfl
  replace hP : va_P D vwCl [(h0, .inr (8, [.ref q1, .null, .null, .null, .int 0, .null])), (aI cI q1 40 (fun _ => 0)), (aI cI q3 40 (fun _ => 0))] H := hP
  replace hD : va_D A [(h0, .inr (8, [.ref q1, .null, .null, .null, .int 0, .null])), (aI cI q1 40 (fun _ => 0)), (aI cI q3 40 (fun _ => 0))] := hD
  refine W.widen (k := 2) (n := 80) (by first | exact Nat.le_of_ble_eq_true rfl | omega) (by first | exact Nat.le_of_ble_eq_true rfl | omega) ?_
  refine va_putF (D := D) (ci := 8) (v := .ref q3) (ty := (.array .int)) (C := RX8) (T := TX8) (N := 6) hx hb hts inX8_init_X8 tyX8 tyX8_ok nmX8 hown hK hP hD hS 0 rfl rfl 1 (by decide) (hts (Cond.fieldLink RX8 15 "PortRooms$Pledges" "sum" "[I") (wm_t (wm_l (wm_i 5 rfl)))) (fun _ h9 => h9) rfl hin rfl (tyX8_ok 1 (by decide)) rfl rfl (Nat.le_of_ble_eq_true rfl) dX8_init_17 (fun H locs => ?_)
  clear hP hD hS
  intro hP hD hS
  replace hP : va_P D vwCl [(h0, .inr (8, [.ref q1, .ref q3, .null, .null, .int 0, .null])), (aI cI q1 40 (fun _ => 0)), (aI cI q3 40 (fun _ => 0))] H := hP
  replace hD : va_D A [(h0, .inr (8, [.ref q1, .ref q3, .null, .null, .int 0, .null])), (aI cI q1 40 (fun _ => 0)), (aI cI q3 40 (fun _ => 0))] := hD
  refine lv_aload_n hx hb dX8_init_20 rfl (lv_at hl 0 rfl) ?_
  refine lv_bipush (v := 40) hx hb dX8_init_21 (by decide) ?_
  refine va_newa (atype := .int) (ty := .int) (a0 := (40, .inl (fun _ => 0))) hx hb (hts (Cond.arrayClass .int) (wm_t (wm_l (wm_i 3 rfl)))) rfl hK hP hD hS hA (fun _ => rfl) (by decide) (by decide) (by decide) (Nat.le_of_ble_eq_true rfl) (Nat.le_of_ble_eq_true rfl) dX8_init_23 (fun q5 cA6 H => ?_)
  clear hK hP hD hS
  intro hK hP hD hS
  have ecA6 : cI = cA6 := cls_eq hK 0 4 rfl rfl
  subst ecA6
  replace hK : va_K D vwCl (ty4 cI cY cJ cQ) s := hK.sub (tys' := ty4 cI cY cJ cQ) [0, 1, 2, 3] rfl
  replace hP : va_P D vwCl [(h0, .inr (8, [.ref q1, .ref q3, .null, .null, .int 0, .null])), (aI cI q1 40 (fun _ => 0)), (aI cI q3 40 (fun _ => 0)), (aI cI q5 40 (fun _ => 0))] H := hP
  replace hD : va_D A [(h0, .inr (8, [.ref q1, .ref q3, .null, .null, .int 0, .null])), (aI cI q1 40 (fun _ => 0)), (aI cI q3 40 (fun _ => 0)), (aI cI q5 40 (fun _ => 0))] := hD
  refine W.widen (k := 3) (n := 120) (by first | exact Nat.le_of_ble_eq_true rfl | omega) (by first | exact Nat.le_of_ble_eq_true rfl | omega) ?_
  refine va_putF (D := D) (ci := 8) (v := .ref q5) (ty := (.array .int)) (C := RX8) (T := TX8) (N := 6) hx hb hts inX8_init_X8 tyX8 tyX8_ok nmX8 hown hK hP hD hS 0 rfl rfl 2 (by decide) (hts (Cond.fieldLink RX8 18 "PortRooms$Pledges" "said" "[I") (wm_t (wm_l (wm_i 6 rfl)))) (fun _ h9 => h9) rfl hin rfl (tyX8_ok 2 (by decide)) rfl rfl (Nat.le_of_ble_eq_true rfl) dX8_init_25 (fun H locs => ?_)
  clear hP hD hS
  intro hP hD hS
  replace hP : va_P D vwCl [(h0, .inr (8, [.ref q1, .ref q3, .ref q5, .null, .int 0, .null])), (aI cI q1 40 (fun _ => 0)), (aI cI q3 40 (fun _ => 0)), (aI cI q5 40 (fun _ => 0))] H := hP
  replace hD : va_D A [(h0, .inr (8, [.ref q1, .ref q3, .ref q5, .null, .int 0, .null])), (aI cI q1 40 (fun _ => 0)), (aI cI q3 40 (fun _ => 0)), (aI cI q5 40 (fun _ => 0))] := hD
  refine lv_aload_n hx hb dX8_init_28 rfl (lv_at hl 0 rfl) ?_
  refine lv_bipush (v := 40) hx hb dX8_init_29 (by decide) ?_
  refine va_newa (atype := .int) (ty := .int) (a0 := (40, .inl (fun _ => 0))) hx hb (hts (Cond.arrayClass .int) (wm_t (wm_l (wm_i 3 rfl)))) rfl hK hP hD hS hA (fun _ => rfl) (by decide) (by decide) (by decide) (Nat.le_of_ble_eq_true rfl) (Nat.le_of_ble_eq_true rfl) dX8_init_31 (fun q7 cA8 H => ?_)
  clear hK hP hD hS
  intro hK hP hD hS
  have ecA8 : cI = cA8 := cls_eq hK 0 4 rfl rfl
  subst ecA8
  replace hK : va_K D vwCl (ty4 cI cY cJ cQ) s := hK.sub (tys' := ty4 cI cY cJ cQ) [0, 1, 2, 3] rfl
  replace hP : va_P D vwCl [(h0, .inr (8, [.ref q1, .ref q3, .ref q5, .null, .int 0, .null])), (aI cI q1 40 (fun _ => 0)), (aI cI q3 40 (fun _ => 0)), (aI cI q5 40 (fun _ => 0)), (aI cI q7 40 (fun _ => 0))] H := hP
  replace hD : va_D A [(h0, .inr (8, [.ref q1, .ref q3, .ref q5, .null, .int 0, .null])), (aI cI q1 40 (fun _ => 0)), (aI cI q3 40 (fun _ => 0)), (aI cI q5 40 (fun _ => 0)), (aI cI q7 40 (fun _ => 0))] := hD
  refine W.widen (k := 4) (n := 160) (by first | exact Nat.le_of_ble_eq_true rfl | omega) (by first | exact Nat.le_of_ble_eq_true rfl | omega) ?_
  refine va_putF (D := D) (ci := 8) (v := .ref q7) (ty := (.array .int)) (C := RX8) (T := TX8) (N := 6) hx hb hts inX8_init_X8 tyX8 tyX8_ok nmX8 hown hK hP hD hS 0 rfl rfl 3 (by decide) (hts (Cond.fieldLink RX8 21 "PortRooms$Pledges" "filed" "[I") (wm_t (wm_l (wm_i 7 rfl)))) (fun _ h9 => h9) rfl hin rfl (tyX8_ok 3 (by decide)) rfl rfl (Nat.le_of_ble_eq_true rfl) dX8_init_33 (fun H locs => ?_)
  clear hP hD hS
  intro hP hD hS
  replace hP : va_P D vwCl [(h0, .inr (8, [.ref q1, .ref q3, .ref q5, .ref q7, .int 0, .null])), (aI cI q1 40 (fun _ => 0)), (aI cI q3 40 (fun _ => 0)), (aI cI q5 40 (fun _ => 0)), (aI cI q7 40 (fun _ => 0))] H := hP
  replace hD : va_D A [(h0, .inr (8, [.ref q1, .ref q3, .ref q5, .ref q7, .int 0, .null])), (aI cI q1 40 (fun _ => 0)), (aI cI q3 40 (fun _ => 0)), (aI cI q5 40 (fun _ => 0)), (aI cI q7 40 (fun _ => 0))] := hD
  refine lv_aload_n hx hb dX8_init_36 rfl (lv_at hl 0 rfl) ?_
  refine lv_bipush (v := 40) hx hb dX8_init_37 (by decide) ?_
  refine va_newa (atype := .int) (ty := .int) (a0 := (40, .inl (fun _ => 0))) hx hb (hts (Cond.arrayClass .int) (wm_t (wm_l (wm_i 3 rfl)))) rfl hK hP hD hS hA (fun _ => rfl) (by decide) (by decide) (by decide) (Nat.le_of_ble_eq_true rfl) (Nat.le_of_ble_eq_true rfl) dX8_init_39 (fun q9 cA10 H => ?_)
  clear hK hP hD hS
  intro hK hP hD hS
  have ecA10 : cI = cA10 := cls_eq hK 0 4 rfl rfl
  subst ecA10
  replace hK : va_K D vwCl (ty4 cI cY cJ cQ) s := hK.sub (tys' := ty4 cI cY cJ cQ) [0, 1, 2, 3] rfl
  replace hP : va_P D vwCl [(h0, .inr (8, [.ref q1, .ref q3, .ref q5, .ref q7, .int 0, .null])), (aI cI q1 40 (fun _ => 0)), (aI cI q3 40 (fun _ => 0)), (aI cI q5 40 (fun _ => 0)), (aI cI q7 40 (fun _ => 0)), (aI cI q9 40 (fun _ => 0))] H := hP
  replace hD : va_D A [(h0, .inr (8, [.ref q1, .ref q3, .ref q5, .ref q7, .int 0, .null])), (aI cI q1 40 (fun _ => 0)), (aI cI q3 40 (fun _ => 0)), (aI cI q5 40 (fun _ => 0)), (aI cI q7 40 (fun _ => 0)), (aI cI q9 40 (fun _ => 0))] := hD
  refine W.widen (k := 5) (n := 200) (by first | exact Nat.le_of_ble_eq_true rfl | omega) (by first | exact Nat.le_of_ble_eq_true rfl | omega) ?_
  refine va_putF (D := D) (ci := 8) (v := .ref q9) (ty := (.array .int)) (C := RX8) (T := TX8) (N := 6) hx hb hts inX8_init_X8 tyX8 tyX8_ok nmX8 hown hK hP hD hS 0 rfl rfl 5 (by decide) (hts (Cond.fieldLink RX8 24 "PortRooms$Pledges" "order" "[I") (wm_t (wm_l (wm_i 8 rfl)))) (fun _ h9 => h9) rfl hin rfl (tyX8_ok 5 (by decide)) rfl rfl (Nat.le_of_ble_eq_true rfl) dX8_init_41 (fun H locs => ?_)
  clear hP hD hS
  intro hP hD hS
  replace hP : va_P D vwCl [(h0, .inr (8, [.ref q1, .ref q3, .ref q5, .ref q7, .int 0, .ref q9])), (aI cI q1 40 (fun _ => 0)), (aI cI q3 40 (fun _ => 0)), (aI cI q5 40 (fun _ => 0)), (aI cI q7 40 (fun _ => 0)), (aI cI q9 40 (fun _ => 0))] H := hP
  replace hD : va_D A [(h0, .inr (8, [.ref q1, .ref q3, .ref q5, .ref q7, .int 0, .ref q9])), (aI cI q1 40 (fun _ => 0)), (aI cI q3 40 (fun _ => 0)), (aI cI q5 40 (fun _ => 0)), (aI cI q7 40 (fun _ => 0)), (aI cI q9 40 (fun _ => 0))] := hD
  have hP9 := hP.sub (ws' := [(h0, .inr (8, [.ref q1, .ref q3, .ref q5, .ref q7, .int 0, .ref q9])), (aI cI q1 40 (fun _ => 0)), (aI cI q3 40 (fun _ => 0)), (aI cI q5 40 (fun _ => 0)), (aI cI q7 40 (fun _ => 0)), (aI cI q9 40 (fun _ => 0))]) [0, 1, 2, 3, 4, 5] rfl
  have hD9 := hD.sub (ws' := [(h0, .inr (8, [.ref q1, .ref q3, .ref q5, .ref q7, .int 0, .ref q9])), (aI cI q1 40 (fun _ => 0)), (aI cI q3 40 (fun _ => 0)), (aI cI q5 40 (fun _ => 0)), (aI cI q7 40 (fun _ => 0)), (aI cI q9 40 (fun _ => 0))]) [0, 1, 2, 3, 4, 5] (by decide +kernel) rfl
  exact W.vret hx hb hr (fun t ht hW => ⟨⟨(fun k => ([q1, q3, q5, q7, 0, q9] : List Nat).getD k 0), rfl, trivial, by rw [ht]; exact hP9, va_K.moved hW.alike hK, hD9⟩, hS.F ht⟩) hS.2.2 dX8_init_44

set_option maxHeartbeats 4000000 in
set_option maxRecDepth 100000 in
theorem ct_X2_init (l : Launch) (D : va_G) (cI cY cJ cQ : ClassId) (sz : Nat) (h0 : Nat)   : Met l yX2_init wsX2_init ({ frames := 1, cells := 7, slots := 372, locals := 12 }) (cPre D (ty4 cI cY cJ cQ) [(h0, .inr (2, [.null, .int 0, .int 0, .null, .null, .null, .int 0, .null, .null, .null, .int 0, .int 0, .int 0, .int 0, .int 0]))] sz [.ref h0]) (va_Qv (fun (u : Nat → Nat) => True) (cB D (ty4 cI cY cJ cQ) (fun (u : Nat → Nat) => [(h0, .inr (2, [.ref (u 0), .int 0, .int 0, .ref (u 3), .ref (u 4), .ref (u 5), .int 0, .ref (u 7), .ref (u 8), .ref (u 9), .int 0, .int 0, .int 0, .int 0, .int 0])), (aI cY (u 0) 300 (fun _ => 0)), (aI cI (u 3) 12 (fun _ => 0)), (aI cI (u 4) 12 (fun _ => 0)), (aI cI (u 5) 12 (fun _ => 0)), (aI cI (u 7) 12 (fun _ => 0)), (aI cI (u 8) 12 (fun _ => 0)), (aI cI (u 9) 12 (fun _ => 0))]) (va_A [(h0, .inr (2, [.null, .int 0, .int 0, .null, .null, .null, .int 0, .null, .null, .null, .int 0, .int 0, .int 0, .int 0, .int 0]))] sz)) (va_A [(h0, .inr (2, [.null, .int 0, .int 0, .null, .null, .null, .int 0, .null, .null, .null, .int 0, .int 0, .int 0, .int 0, .int 0]))] sz)) 7 372 (va_A [(h0, .inr (2, [.null, .int 0, .int 0, .null, .null, .null, .int 0, .null, .null, .null, .int 0, .int 0, .int 0, .int 0, .int 0]))] sz) := by
  refine Met.ofW (cc := cX2_init) (maxL := 1) (ret := none) (by decide) rfl ?_
  intro p e s m args below meth c s₁ B hml hv
  obtain ⟨rfl, hsz, hP, hK, hD0, hN⟩ := hv
  have hx := B.exec
  have hb := B.bytes
  have hr := B.returns
  have hts := atoms_spec (ws := wsX2_init) B.pre
  have hown : s.vm.findClass RX2 = some m.cls := findClass_of_methodNamed B.named
  have hlocks := B.notSynchronized
  have hin : meth.name = "<init>" := (name_of_methodNamed B.named B.method).1
  subst hsz
  have hD := hD0.self (sz := s.heap.size)
  generalize hAe : va_A [(h0, .inr (2, [.null, .int 0, .int 0, .null, .null, .null, .int 0, .null, .null, .null, .int 0, .int 0, .int 0, .int 0, .int 0]))] s.heap.size = A at hD ⊢
  have hA : ∀ q : Nat, s.heap.size ≤ q → A q := fun q h => by rw [← hAe]; exact Or.inr h
  have hS : va_S A s.heap s.heap [] := va_S.rf
  have hP : va_P D vwCl [(h0, .inr (2, [.null, .int 0, .int 0, .null, .null, .null, .int 0, .null, .null, .null, .int 0, .int 0, .int 0, .int 0, .int 0]))] s.heap := hP
  have hl := lv_entry ([.ref h0]) (n := 1) (Nat.le_of_ble_eq_true rfl)
  rw [lg_entry_eq]
  generalize (lg_sl ([.ref h0]) ++ List.replicate (1 - (lg_sl ([.ref h0])).length) Slot.unset).toArray = ls at hl ⊢
  have hl : lv_has ls 1 [(0, .ref h0)] := hl
  refine lv_aload_n hx hb dX2_init_0 rfl (lv_at hl 0 rfl) ?_
  refine W.objInit hx hb hown (hts (Cond.methodLink RX2 3 objectInit) (wm_t (wm_l (wm_i 0 rfl)))) (hts (Cond.instanceMethod objectInit) (wm_t (wm_l (wm_i 1 rfl)))) (hts _ (by decide +kernel)) rfl (by rw [hml]; exact hl.1) rfl dX2_init_1 (Nat.le_of_ble_eq_true rfl) (Nat.le_of_ble_eq_true rfl) ?_
  refine W.eq (g2 := F0 m 4 ls []) rfl ?_
  refine lv_aload_n hx hb dX2_init_4 rfl (lv_at hl 0 rfl) ?_
  refine lv_sipush (v := 300) hx hb dX2_init_5 (by decide) ?_
  refine va_newa (atype := .byte) (ty := .byte) (a0 := (300, .inl (fun _ => 0))) hx hb (hts (Cond.arrayClass .byte) (wm_t (wm_l (wm_i 3 rfl)))) rfl hK hP hD hS hA (fun _ => rfl) (by decide) (by decide) (by decide) (Nat.le_of_ble_eq_true rfl) (Nat.le_of_ble_eq_true rfl) dX2_init_8 (fun q1 cA2 H => ?_)
  clear hK hP hD hS
  intro hK hP hD hS
  have ecA2 : cY = cA2 := cls_eq hK 1 4 rfl rfl
  subst ecA2
  replace hK : va_K D vwCl (ty4 cI cY cJ cQ) s := hK.sub (tys' := ty4 cI cY cJ cQ) [0, 1, 2, 3] rfl
  replace hP : va_P D vwCl [(h0, .inr (2, [.null, .int 0, .int 0, .null, .null, .null, .int 0, .null, .null, .null, .int 0, .int 0, .int 0, .int 0, .int 0])), (aI cY q1 300 (fun _ => 0))] H := hP
  replace hD : va_D A [(h0, .inr (2, [.null, .int 0, .int 0, .null, .null, .null, .int 0, .null, .null, .null, .int 0, .int 0, .int 0, .int 0, .int 0])), (aI cY q1 300 (fun _ => 0))] := hD
  refine W.widen (k := 1) (n := 300) (by first | exact Nat.le_of_ble_eq_true rfl | omega) (by first | exact Nat.le_of_ble_eq_true rfl | omega) ?_
  refine va_putF (D := D) (ci := 2) (v := .ref q1) (ty := (.array .byte)) (C := RX2) (T := TX2) (N := 15) hx hb hts inX2_init_X2 tyX2 tyX2_ok nmX2 hown hK hP hD hS 0 rfl rfl 0 (by decide) (hts (Cond.fieldLink RX2 11 "PortRooms$Duties" "tape" "[B") (wm_t (wm_l (wm_i 4 rfl)))) (fun _ h9 => h9) rfl hin rfl (tyX2_ok 0 (by decide)) rfl rfl (Nat.le_of_ble_eq_true rfl) dX2_init_10 (fun H locs => ?_)
  clear hP hD hS
  intro hP hD hS
  replace hP : va_P D vwCl [(h0, .inr (2, [.ref q1, .int 0, .int 0, .null, .null, .null, .int 0, .null, .null, .null, .int 0, .int 0, .int 0, .int 0, .int 0])), (aI cY q1 300 (fun _ => 0))] H := hP
  replace hD : va_D A [(h0, .inr (2, [.ref q1, .int 0, .int 0, .null, .null, .null, .int 0, .null, .null, .null, .int 0, .int 0, .int 0, .int 0, .int 0])), (aI cY q1 300 (fun _ => 0))] := hD
  refine lv_aload_n hx hb dX2_init_13 rfl (lv_at hl 0 rfl) ?_
  refine lv_bipush (v := 12) hx hb dX2_init_14 (by decide) ?_
  refine va_newa (atype := .int) (ty := .int) (a0 := (12, .inl (fun _ => 0))) hx hb (hts (Cond.arrayClass .int) (wm_t (wm_l (wm_i 5 rfl)))) rfl hK hP hD hS hA (fun _ => rfl) (by decide) (by decide) (by decide) (Nat.le_of_ble_eq_true rfl) (Nat.le_of_ble_eq_true rfl) dX2_init_16 (fun q3 cA4 H => ?_)
  clear hK hP hD hS
  intro hK hP hD hS
  have ecA4 : cI = cA4 := cls_eq hK 0 4 rfl rfl
  subst ecA4
  replace hK : va_K D vwCl (ty4 cI cY cJ cQ) s := hK.sub (tys' := ty4 cI cY cJ cQ) [0, 1, 2, 3] rfl
  replace hP : va_P D vwCl [(h0, .inr (2, [.ref q1, .int 0, .int 0, .null, .null, .null, .int 0, .null, .null, .null, .int 0, .int 0, .int 0, .int 0, .int 0])), (aI cY q1 300 (fun _ => 0)), (aI cI q3 12 (fun _ => 0))] H := hP
  replace hD : va_D A [(h0, .inr (2, [.ref q1, .int 0, .int 0, .null, .null, .null, .int 0, .null, .null, .null, .int 0, .int 0, .int 0, .int 0, .int 0])), (aI cY q1 300 (fun _ => 0)), (aI cI q3 12 (fun _ => 0))] := hD
  refine W.widen (k := 2) (n := 312) (by first | exact Nat.le_of_ble_eq_true rfl | omega) (by first | exact Nat.le_of_ble_eq_true rfl | omega) ?_
  refine va_putF (D := D) (ci := 2) (v := .ref q3) (ty := (.array .int)) (C := RX2) (T := TX2) (N := 15) hx hb hts inX2_init_X2 tyX2 tyX2_ok nmX2 hown hK hP hD hS 0 rfl rfl 3 (by decide) (hts (Cond.fieldLink RX2 15 "PortRooms$Duties" "what" "[I") (wm_t (wm_l (wm_i 6 rfl)))) (fun _ h9 => h9) rfl hin rfl (tyX2_ok 3 (by decide)) rfl rfl (Nat.le_of_ble_eq_true rfl) dX2_init_18 (fun H locs => ?_)
  clear hP hD hS
  intro hP hD hS
  replace hP : va_P D vwCl [(h0, .inr (2, [.ref q1, .int 0, .int 0, .ref q3, .null, .null, .int 0, .null, .null, .null, .int 0, .int 0, .int 0, .int 0, .int 0])), (aI cY q1 300 (fun _ => 0)), (aI cI q3 12 (fun _ => 0))] H := hP
  replace hD : va_D A [(h0, .inr (2, [.ref q1, .int 0, .int 0, .ref q3, .null, .null, .int 0, .null, .null, .null, .int 0, .int 0, .int 0, .int 0, .int 0])), (aI cY q1 300 (fun _ => 0)), (aI cI q3 12 (fun _ => 0))] := hD
  refine lv_aload_n hx hb dX2_init_21 rfl (lv_at hl 0 rfl) ?_
  refine lv_bipush (v := 12) hx hb dX2_init_22 (by decide) ?_
  refine va_newa (atype := .int) (ty := .int) (a0 := (12, .inl (fun _ => 0))) hx hb (hts (Cond.arrayClass .int) (wm_t (wm_l (wm_i 5 rfl)))) rfl hK hP hD hS hA (fun _ => rfl) (by decide) (by decide) (by decide) (Nat.le_of_ble_eq_true rfl) (Nat.le_of_ble_eq_true rfl) dX2_init_24 (fun q5 cA6 H => ?_)
  clear hK hP hD hS
  intro hK hP hD hS
  have ecA6 : cI = cA6 := cls_eq hK 0 4 rfl rfl
  subst ecA6
  replace hK : va_K D vwCl (ty4 cI cY cJ cQ) s := hK.sub (tys' := ty4 cI cY cJ cQ) [0, 1, 2, 3] rfl
  replace hP : va_P D vwCl [(h0, .inr (2, [.ref q1, .int 0, .int 0, .ref q3, .null, .null, .int 0, .null, .null, .null, .int 0, .int 0, .int 0, .int 0, .int 0])), (aI cY q1 300 (fun _ => 0)), (aI cI q3 12 (fun _ => 0)), (aI cI q5 12 (fun _ => 0))] H := hP
  replace hD : va_D A [(h0, .inr (2, [.ref q1, .int 0, .int 0, .ref q3, .null, .null, .int 0, .null, .null, .null, .int 0, .int 0, .int 0, .int 0, .int 0])), (aI cY q1 300 (fun _ => 0)), (aI cI q3 12 (fun _ => 0)), (aI cI q5 12 (fun _ => 0))] := hD
  refine W.widen (k := 3) (n := 324) (by first | exact Nat.le_of_ble_eq_true rfl | omega) (by first | exact Nat.le_of_ble_eq_true rfl | omega) ?_
  refine va_putF (D := D) (ci := 2) (v := .ref q5) (ty := (.array .int)) (C := RX2) (T := TX2) (N := 15) hx hb hts inX2_init_X2 tyX2 tyX2_ok nmX2 hown hK hP hD hS 0 rfl rfl 4 (by decide) (hts (Cond.fieldLink RX2 19 "PortRooms$Duties" "days" "[I") (wm_t (wm_l (wm_i 7 rfl)))) (fun _ h9 => h9) rfl hin rfl (tyX2_ok 4 (by decide)) rfl rfl (Nat.le_of_ble_eq_true rfl) dX2_init_26 (fun H locs => ?_)
  clear hP hD hS
  intro hP hD hS
  replace hP : va_P D vwCl [(h0, .inr (2, [.ref q1, .int 0, .int 0, .ref q3, .ref q5, .null, .int 0, .null, .null, .null, .int 0, .int 0, .int 0, .int 0, .int 0])), (aI cY q1 300 (fun _ => 0)), (aI cI q3 12 (fun _ => 0)), (aI cI q5 12 (fun _ => 0))] H := hP
  replace hD : va_D A [(h0, .inr (2, [.ref q1, .int 0, .int 0, .ref q3, .ref q5, .null, .int 0, .null, .null, .null, .int 0, .int 0, .int 0, .int 0, .int 0])), (aI cY q1 300 (fun _ => 0)), (aI cI q3 12 (fun _ => 0)), (aI cI q5 12 (fun _ => 0))] := hD
  refine lv_aload_n hx hb dX2_init_29 rfl (lv_at hl 0 rfl) ?_
  refine lv_bipush (v := 12) hx hb dX2_init_30 (by decide) ?_
  refine va_newa (atype := .int) (ty := .int) (a0 := (12, .inl (fun _ => 0))) hx hb (hts (Cond.arrayClass .int) (wm_t (wm_l (wm_i 5 rfl)))) rfl hK hP hD hS hA (fun _ => rfl) (by decide) (by decide) (by decide) (Nat.le_of_ble_eq_true rfl) (Nat.le_of_ble_eq_true rfl) dX2_init_32 (fun q7 cA8 H => ?_)
  clear hK hP hD hS
  intro hK hP hD hS
  have ecA8 : cI = cA8 := cls_eq hK 0 4 rfl rfl
  subst ecA8
  replace hK : va_K D vwCl (ty4 cI cY cJ cQ) s := hK.sub (tys' := ty4 cI cY cJ cQ) [0, 1, 2, 3] rfl
  replace hP : va_P D vwCl [(h0, .inr (2, [.ref q1, .int 0, .int 0, .ref q3, .ref q5, .null, .int 0, .null, .null, .null, .int 0, .int 0, .int 0, .int 0, .int 0])), (aI cY q1 300 (fun _ => 0)), (aI cI q3 12 (fun _ => 0)), (aI cI q5 12 (fun _ => 0)), (aI cI q7 12 (fun _ => 0))] H := hP
  replace hD : va_D A [(h0, .inr (2, [.ref q1, .int 0, .int 0, .ref q3, .ref q5, .null, .int 0, .null, .null, .null, .int 0, .int 0, .int 0, .int 0, .int 0])), (aI cY q1 300 (fun _ => 0)), (aI cI q3 12 (fun _ => 0)), (aI cI q5 12 (fun _ => 0)), (aI cI q7 12 (fun _ => 0))] := hD
  refine W.widen (k := 4) (n := 336) (by first | exact Nat.le_of_ble_eq_true rfl | omega) (by first | exact Nat.le_of_ble_eq_true rfl | omega) ?_
  refine va_putF (D := D) (ci := 2) (v := .ref q7) (ty := (.array .int)) (C := RX2) (T := TX2) (N := 15) hx hb hts inX2_init_X2 tyX2 tyX2_ok nmX2 hown hK hP hD hS 0 rfl rfl 5 (by decide) (hts (Cond.fieldLink RX2 22 "PortRooms$Duties" "part" "[I") (wm_t (wm_l (wm_i 8 rfl)))) (fun _ h9 => h9) rfl hin rfl (tyX2_ok 5 (by decide)) rfl rfl (Nat.le_of_ble_eq_true rfl) dX2_init_34 (fun H locs => ?_)
  clear hP hD hS
  intro hP hD hS
  replace hP : va_P D vwCl [(h0, .inr (2, [.ref q1, .int 0, .int 0, .ref q3, .ref q5, .ref q7, .int 0, .null, .null, .null, .int 0, .int 0, .int 0, .int 0, .int 0])), (aI cY q1 300 (fun _ => 0)), (aI cI q3 12 (fun _ => 0)), (aI cI q5 12 (fun _ => 0)), (aI cI q7 12 (fun _ => 0))] H := hP
  replace hD : va_D A [(h0, .inr (2, [.ref q1, .int 0, .int 0, .ref q3, .ref q5, .ref q7, .int 0, .null, .null, .null, .int 0, .int 0, .int 0, .int 0, .int 0])), (aI cY q1 300 (fun _ => 0)), (aI cI q3 12 (fun _ => 0)), (aI cI q5 12 (fun _ => 0)), (aI cI q7 12 (fun _ => 0))] := hD
  refine lv_aload_n hx hb dX2_init_37 rfl (lv_at hl 0 rfl) ?_
  refine lv_bipush (v := 12) hx hb dX2_init_38 (by decide) ?_
  refine va_newa (atype := .int) (ty := .int) (a0 := (12, .inl (fun _ => 0))) hx hb (hts (Cond.arrayClass .int) (wm_t (wm_l (wm_i 5 rfl)))) rfl hK hP hD hS hA (fun _ => rfl) (by decide) (by decide) (by decide) (Nat.le_of_ble_eq_true rfl) (Nat.le_of_ble_eq_true rfl) dX2_init_40 (fun q9 cA10 H => ?_)
  clear hK hP hD hS
  intro hK hP hD hS
  have ecA10 : cI = cA10 := cls_eq hK 0 4 rfl rfl
  subst ecA10
  replace hK : va_K D vwCl (ty4 cI cY cJ cQ) s := hK.sub (tys' := ty4 cI cY cJ cQ) [0, 1, 2, 3] rfl
  replace hP : va_P D vwCl [(h0, .inr (2, [.ref q1, .int 0, .int 0, .ref q3, .ref q5, .ref q7, .int 0, .null, .null, .null, .int 0, .int 0, .int 0, .int 0, .int 0])), (aI cY q1 300 (fun _ => 0)), (aI cI q3 12 (fun _ => 0)), (aI cI q5 12 (fun _ => 0)), (aI cI q7 12 (fun _ => 0)), (aI cI q9 12 (fun _ => 0))] H := hP
  replace hD : va_D A [(h0, .inr (2, [.ref q1, .int 0, .int 0, .ref q3, .ref q5, .ref q7, .int 0, .null, .null, .null, .int 0, .int 0, .int 0, .int 0, .int 0])), (aI cY q1 300 (fun _ => 0)), (aI cI q3 12 (fun _ => 0)), (aI cI q5 12 (fun _ => 0)), (aI cI q7 12 (fun _ => 0)), (aI cI q9 12 (fun _ => 0))] := hD
  refine W.widen (k := 5) (n := 348) (by first | exact Nat.le_of_ble_eq_true rfl | omega) (by first | exact Nat.le_of_ble_eq_true rfl | omega) ?_
  refine va_putF (D := D) (ci := 2) (v := .ref q9) (ty := (.array .int)) (C := RX2) (T := TX2) (N := 15) hx hb hts inX2_init_X2 tyX2 tyX2_ok nmX2 hown hK hP hD hS 0 rfl rfl 7 (by decide) (hts (Cond.fieldLink RX2 25 "PortRooms$Duties" "draftWhat" "[I") (wm_t (wm_l (wm_i 9 rfl)))) (fun _ h9 => h9) rfl hin rfl (tyX2_ok 7 (by decide)) rfl rfl (Nat.le_of_ble_eq_true rfl) dX2_init_42 (fun H locs => ?_)
  clear hP hD hS
  intro hP hD hS
  replace hP : va_P D vwCl [(h0, .inr (2, [.ref q1, .int 0, .int 0, .ref q3, .ref q5, .ref q7, .int 0, .ref q9, .null, .null, .int 0, .int 0, .int 0, .int 0, .int 0])), (aI cY q1 300 (fun _ => 0)), (aI cI q3 12 (fun _ => 0)), (aI cI q5 12 (fun _ => 0)), (aI cI q7 12 (fun _ => 0)), (aI cI q9 12 (fun _ => 0))] H := hP
  replace hD : va_D A [(h0, .inr (2, [.ref q1, .int 0, .int 0, .ref q3, .ref q5, .ref q7, .int 0, .ref q9, .null, .null, .int 0, .int 0, .int 0, .int 0, .int 0])), (aI cY q1 300 (fun _ => 0)), (aI cI q3 12 (fun _ => 0)), (aI cI q5 12 (fun _ => 0)), (aI cI q7 12 (fun _ => 0)), (aI cI q9 12 (fun _ => 0))] := hD
  refine lv_aload_n hx hb dX2_init_45 rfl (lv_at hl 0 rfl) ?_
  refine lv_bipush (v := 12) hx hb dX2_init_46 (by decide) ?_
  refine va_newa (atype := .int) (ty := .int) (a0 := (12, .inl (fun _ => 0))) hx hb (hts (Cond.arrayClass .int) (wm_t (wm_l (wm_i 5 rfl)))) rfl hK hP hD hS hA (fun _ => rfl) (by decide) (by decide) (by decide) (Nat.le_of_ble_eq_true rfl) (Nat.le_of_ble_eq_true rfl) dX2_init_48 (fun q11 cA12 H => ?_)
  clear hK hP hD hS
  intro hK hP hD hS
  have ecA12 : cI = cA12 := cls_eq hK 0 4 rfl rfl
  subst ecA12
  replace hK : va_K D vwCl (ty4 cI cY cJ cQ) s := hK.sub (tys' := ty4 cI cY cJ cQ) [0, 1, 2, 3] rfl
  replace hP : va_P D vwCl [(h0, .inr (2, [.ref q1, .int 0, .int 0, .ref q3, .ref q5, .ref q7, .int 0, .ref q9, .null, .null, .int 0, .int 0, .int 0, .int 0, .int 0])), (aI cY q1 300 (fun _ => 0)), (aI cI q3 12 (fun _ => 0)), (aI cI q5 12 (fun _ => 0)), (aI cI q7 12 (fun _ => 0)), (aI cI q9 12 (fun _ => 0)), (aI cI q11 12 (fun _ => 0))] H := hP
  replace hD : va_D A [(h0, .inr (2, [.ref q1, .int 0, .int 0, .ref q3, .ref q5, .ref q7, .int 0, .ref q9, .null, .null, .int 0, .int 0, .int 0, .int 0, .int 0])), (aI cY q1 300 (fun _ => 0)), (aI cI q3 12 (fun _ => 0)), (aI cI q5 12 (fun _ => 0)), (aI cI q7 12 (fun _ => 0)), (aI cI q9 12 (fun _ => 0)), (aI cI q11 12 (fun _ => 0))] := hD
  refine W.widen (k := 6) (n := 360) (by first | exact Nat.le_of_ble_eq_true rfl | omega) (by first | exact Nat.le_of_ble_eq_true rfl | omega) ?_
  refine va_putF (D := D) (ci := 2) (v := .ref q11) (ty := (.array .int)) (C := RX2) (T := TX2) (N := 15) hx hb hts inX2_init_X2 tyX2 tyX2_ok nmX2 hown hK hP hD hS 0 rfl rfl 8 (by decide) (hts (Cond.fieldLink RX2 28 "PortRooms$Duties" "draftDays" "[I") (wm_t (wm_l (wm_i 10 rfl)))) (fun _ h9 => h9) rfl hin rfl (tyX2_ok 8 (by decide)) rfl rfl (Nat.le_of_ble_eq_true rfl) dX2_init_50 (fun H locs => ?_)
  clear hP hD hS
  intro hP hD hS
  replace hP : va_P D vwCl [(h0, .inr (2, [.ref q1, .int 0, .int 0, .ref q3, .ref q5, .ref q7, .int 0, .ref q9, .ref q11, .null, .int 0, .int 0, .int 0, .int 0, .int 0])), (aI cY q1 300 (fun _ => 0)), (aI cI q3 12 (fun _ => 0)), (aI cI q5 12 (fun _ => 0)), (aI cI q7 12 (fun _ => 0)), (aI cI q9 12 (fun _ => 0)), (aI cI q11 12 (fun _ => 0))] H := hP
  replace hD : va_D A [(h0, .inr (2, [.ref q1, .int 0, .int 0, .ref q3, .ref q5, .ref q7, .int 0, .ref q9, .ref q11, .null, .int 0, .int 0, .int 0, .int 0, .int 0])), (aI cY q1 300 (fun _ => 0)), (aI cI q3 12 (fun _ => 0)), (aI cI q5 12 (fun _ => 0)), (aI cI q7 12 (fun _ => 0)), (aI cI q9 12 (fun _ => 0)), (aI cI q11 12 (fun _ => 0))] := hD
  refine lv_aload_n hx hb dX2_init_53 rfl (lv_at hl 0 rfl) ?_
  refine lv_bipush (v := 12) hx hb dX2_init_54 (by decide) ?_
  refine va_newa (atype := .int) (ty := .int) (a0 := (12, .inl (fun _ => 0))) hx hb (hts (Cond.arrayClass .int) (wm_t (wm_l (wm_i 5 rfl)))) rfl hK hP hD hS hA (fun _ => rfl) (by decide) (by decide) (by decide) (Nat.le_of_ble_eq_true rfl) (Nat.le_of_ble_eq_true rfl) dX2_init_56 (fun q13 cA14 H => ?_)
  clear hK hP hD hS
  intro hK hP hD hS
  have ecA14 : cI = cA14 := cls_eq hK 0 4 rfl rfl
  subst ecA14
  replace hK : va_K D vwCl (ty4 cI cY cJ cQ) s := hK.sub (tys' := ty4 cI cY cJ cQ) [0, 1, 2, 3] rfl
  replace hP : va_P D vwCl [(h0, .inr (2, [.ref q1, .int 0, .int 0, .ref q3, .ref q5, .ref q7, .int 0, .ref q9, .ref q11, .null, .int 0, .int 0, .int 0, .int 0, .int 0])), (aI cY q1 300 (fun _ => 0)), (aI cI q3 12 (fun _ => 0)), (aI cI q5 12 (fun _ => 0)), (aI cI q7 12 (fun _ => 0)), (aI cI q9 12 (fun _ => 0)), (aI cI q11 12 (fun _ => 0)), (aI cI q13 12 (fun _ => 0))] H := hP
  replace hD : va_D A [(h0, .inr (2, [.ref q1, .int 0, .int 0, .ref q3, .ref q5, .ref q7, .int 0, .ref q9, .ref q11, .null, .int 0, .int 0, .int 0, .int 0, .int 0])), (aI cY q1 300 (fun _ => 0)), (aI cI q3 12 (fun _ => 0)), (aI cI q5 12 (fun _ => 0)), (aI cI q7 12 (fun _ => 0)), (aI cI q9 12 (fun _ => 0)), (aI cI q11 12 (fun _ => 0)), (aI cI q13 12 (fun _ => 0))] := hD
  refine W.widen (k := 7) (n := 372) (by first | exact Nat.le_of_ble_eq_true rfl | omega) (by first | exact Nat.le_of_ble_eq_true rfl | omega) ?_
  refine va_putF (D := D) (ci := 2) (v := .ref q13) (ty := (.array .int)) (C := RX2) (T := TX2) (N := 15) hx hb hts inX2_init_X2 tyX2 tyX2_ok nmX2 hown hK hP hD hS 0 rfl rfl 9 (by decide) (hts (Cond.fieldLink RX2 31 "PortRooms$Duties" "draftPart" "[I") (wm_t (wm_l (wm_i 11 rfl)))) (fun _ h9 => h9) rfl hin rfl (tyX2_ok 9 (by decide)) rfl rfl (Nat.le_of_ble_eq_true rfl) dX2_init_58 (fun H locs => ?_)
  clear hP hD hS
  intro hP hD hS
  replace hP : va_P D vwCl [(h0, .inr (2, [.ref q1, .int 0, .int 0, .ref q3, .ref q5, .ref q7, .int 0, .ref q9, .ref q11, .ref q13, .int 0, .int 0, .int 0, .int 0, .int 0])), (aI cY q1 300 (fun _ => 0)), (aI cI q3 12 (fun _ => 0)), (aI cI q5 12 (fun _ => 0)), (aI cI q7 12 (fun _ => 0)), (aI cI q9 12 (fun _ => 0)), (aI cI q11 12 (fun _ => 0)), (aI cI q13 12 (fun _ => 0))] H := hP
  replace hD : va_D A [(h0, .inr (2, [.ref q1, .int 0, .int 0, .ref q3, .ref q5, .ref q7, .int 0, .ref q9, .ref q11, .ref q13, .int 0, .int 0, .int 0, .int 0, .int 0])), (aI cY q1 300 (fun _ => 0)), (aI cI q3 12 (fun _ => 0)), (aI cI q5 12 (fun _ => 0)), (aI cI q7 12 (fun _ => 0)), (aI cI q9 12 (fun _ => 0)), (aI cI q11 12 (fun _ => 0)), (aI cI q13 12 (fun _ => 0))] := hD
  have hP9 := hP.sub (ws' := [(h0, .inr (2, [.ref q1, .int 0, .int 0, .ref q3, .ref q5, .ref q7, .int 0, .ref q9, .ref q11, .ref q13, .int 0, .int 0, .int 0, .int 0, .int 0])), (aI cY q1 300 (fun _ => 0)), (aI cI q3 12 (fun _ => 0)), (aI cI q5 12 (fun _ => 0)), (aI cI q7 12 (fun _ => 0)), (aI cI q9 12 (fun _ => 0)), (aI cI q11 12 (fun _ => 0)), (aI cI q13 12 (fun _ => 0))]) [0, 1, 2, 3, 4, 5, 6, 7] rfl
  have hD9 := hD.sub (ws' := [(h0, .inr (2, [.ref q1, .int 0, .int 0, .ref q3, .ref q5, .ref q7, .int 0, .ref q9, .ref q11, .ref q13, .int 0, .int 0, .int 0, .int 0, .int 0])), (aI cY q1 300 (fun _ => 0)), (aI cI q3 12 (fun _ => 0)), (aI cI q5 12 (fun _ => 0)), (aI cI q7 12 (fun _ => 0)), (aI cI q9 12 (fun _ => 0)), (aI cI q11 12 (fun _ => 0)), (aI cI q13 12 (fun _ => 0))]) [0, 1, 2, 3, 4, 5, 6, 7] (by decide +kernel) rfl
  exact W.vret hx hb hr (fun t ht hW => ⟨⟨(fun k => ([q1, 0, 0, q3, q5, q7, 0, q9, q11, q13, 0, 0, 0, 0, 0] : List Nat).getD k 0), rfl, trivial, by rw [ht]; exact hP9, va_K.moved hW.alike hK, hD9⟩, hS.F ht⟩) hS.2.2 dX2_init_61

set_option maxHeartbeats 4000000 in
set_option maxRecDepth 100000 in
theorem ct_X0_init (l : Launch) (D : va_G) (cI cY cJ cQ : ClassId) (sz : Nat) (h0 : Nat)   : Met l yX0_init wsX0_init ({ frames := 1, cells := 4, slots := 240, locals := 12 }) (cPre D (ty4 cI cY cJ cQ) [(h0, .inr (0, [.null, .null, .null, .null, .int 0]))] sz [.ref h0]) (va_Qv (fun (u : Nat → Nat) => True) (cB D (ty4 cI cY cJ cQ) (fun (u : Nat → Nat) => [(h0, .inr (0, [.ref (u 0), .ref (u 1), .ref (u 2), .ref (u 3), .int 0])), (aI cI (u 0) 60 (fun _ => 0)), (aI cI (u 1) 60 (fun _ => 0)), (aI cI (u 2) 60 (fun _ => 0)), (aI cI (u 3) 60 (fun _ => 0))]) (va_A [(h0, .inr (0, [.null, .null, .null, .null, .int 0]))] sz)) (va_A [(h0, .inr (0, [.null, .null, .null, .null, .int 0]))] sz)) 4 240 (va_A [(h0, .inr (0, [.null, .null, .null, .null, .int 0]))] sz) := by
  refine Met.ofW (cc := cX0_init) (maxL := 1) (ret := none) (by decide) rfl ?_
  intro p e s m args below meth c s₁ B hml hv
  obtain ⟨rfl, hsz, hP, hK, hD0, hN⟩ := hv
  have hx := B.exec
  have hb := B.bytes
  have hr := B.returns
  have hts := atoms_spec (ws := wsX0_init) B.pre
  have hown : s.vm.findClass RX0 = some m.cls := findClass_of_methodNamed B.named
  have hlocks := B.notSynchronized
  have hin : meth.name = "<init>" := (name_of_methodNamed B.named B.method).1
  subst hsz
  have hD := hD0.self (sz := s.heap.size)
  generalize hAe : va_A [(h0, .inr (0, [.null, .null, .null, .null, .int 0]))] s.heap.size = A at hD ⊢
  have hA : ∀ q : Nat, s.heap.size ≤ q → A q := fun q h => by rw [← hAe]; exact Or.inr h
  have hS : va_S A s.heap s.heap [] := va_S.rf
  have hP : va_P D vwCl [(h0, .inr (0, [.null, .null, .null, .null, .int 0]))] s.heap := hP
  have hl := lv_entry ([.ref h0]) (n := 1) (Nat.le_of_ble_eq_true rfl)
  rw [lg_entry_eq]
  generalize (lg_sl ([.ref h0]) ++ List.replicate (1 - (lg_sl ([.ref h0])).length) Slot.unset).toArray = ls at hl ⊢
  have hl : lv_has ls 1 [(0, .ref h0)] := hl
  refine lv_aload_n hx hb dX0_init_0 rfl (lv_at hl 0 rfl) ?_
  refine W.objInit hx hb hown (hts (Cond.methodLink RX0 3 objectInit) (wm_t (wm_l (wm_i 0 rfl)))) (hts (Cond.instanceMethod objectInit) (wm_t (wm_l (wm_i 1 rfl)))) (hts _ (by decide +kernel)) rfl (by rw [hml]; exact hl.1) rfl dX0_init_1 (Nat.le_of_ble_eq_true rfl) (Nat.le_of_ble_eq_true rfl) ?_
  refine W.eq (g2 := F0 m 4 ls []) rfl ?_
  refine lv_aload_n hx hb dX0_init_4 rfl (lv_at hl 0 rfl) ?_
  refine lv_bipush (v := 60) hx hb dX0_init_5 (by decide) ?_
  refine va_newa (atype := .int) (ty := .int) (a0 := (60, .inl (fun _ => 0))) hx hb (hts (Cond.arrayClass .int) (wm_t (wm_l (wm_i 3 rfl)))) rfl hK hP hD hS hA (fun _ => rfl) (by decide) (by decide) (by decide) (Nat.le_of_ble_eq_true rfl) (Nat.le_of_ble_eq_true rfl) dX0_init_7 (fun q1 cA2 H => ?_)
  clear hK hP hD hS
  intro hK hP hD hS
  have ecA2 : cI = cA2 := cls_eq hK 0 4 rfl rfl
  subst ecA2
  replace hK : va_K D vwCl (ty4 cI cY cJ cQ) s := hK.sub (tys' := ty4 cI cY cJ cQ) [0, 1, 2, 3] rfl
  replace hP : va_P D vwCl [(h0, .inr (0, [.null, .null, .null, .null, .int 0])), (aI cI q1 60 (fun _ => 0))] H := hP
  replace hD : va_D A [(h0, .inr (0, [.null, .null, .null, .null, .int 0])), (aI cI q1 60 (fun _ => 0))] := hD
  refine W.widen (k := 1) (n := 60) (by first | exact Nat.le_of_ble_eq_true rfl | omega) (by first | exact Nat.le_of_ble_eq_true rfl | omega) ?_
  refine va_putF (D := D) (ci := 0) (v := .ref q1) (ty := (.array .int)) (C := RX0) (T := TX0) (N := 5) hx hb hts inX0_init_X0 tyX0 tyX0_ok nmX0 hown hK hP hD hS 0 rfl rfl 0 (by decide) (hts (Cond.fieldLink RX0 9 "PortRooms$Acts" "crate" "[I") (wm_t (wm_l (wm_i 4 rfl)))) (fun _ h9 => h9) rfl hin rfl (tyX0_ok 0 (by decide)) rfl rfl (Nat.le_of_ble_eq_true rfl) dX0_init_9 (fun H locs => ?_)
  clear hP hD hS
  intro hP hD hS
  replace hP : va_P D vwCl [(h0, .inr (0, [.ref q1, .null, .null, .null, .int 0])), (aI cI q1 60 (fun _ => 0))] H := hP
  replace hD : va_D A [(h0, .inr (0, [.ref q1, .null, .null, .null, .int 0])), (aI cI q1 60 (fun _ => 0))] := hD
  refine lv_aload_n hx hb dX0_init_12 rfl (lv_at hl 0 rfl) ?_
  refine lv_bipush (v := 60) hx hb dX0_init_13 (by decide) ?_
  refine va_newa (atype := .int) (ty := .int) (a0 := (60, .inl (fun _ => 0))) hx hb (hts (Cond.arrayClass .int) (wm_t (wm_l (wm_i 3 rfl)))) rfl hK hP hD hS hA (fun _ => rfl) (by decide) (by decide) (by decide) (Nat.le_of_ble_eq_true rfl) (Nat.le_of_ble_eq_true rfl) dX0_init_15 (fun q3 cA4 H => ?_)
  clear hK hP hD hS
  intro hK hP hD hS
  have ecA4 : cI = cA4 := cls_eq hK 0 4 rfl rfl
  subst ecA4
  replace hK : va_K D vwCl (ty4 cI cY cJ cQ) s := hK.sub (tys' := ty4 cI cY cJ cQ) [0, 1, 2, 3] rfl
  replace hP : va_P D vwCl [(h0, .inr (0, [.ref q1, .null, .null, .null, .int 0])), (aI cI q1 60 (fun _ => 0)), (aI cI q3 60 (fun _ => 0))] H := hP
  replace hD : va_D A [(h0, .inr (0, [.ref q1, .null, .null, .null, .int 0])), (aI cI q1 60 (fun _ => 0)), (aI cI q3 60 (fun _ => 0))] := hD
  refine W.widen (k := 2) (n := 120) (by first | exact Nat.le_of_ble_eq_true rfl | omega) (by first | exact Nat.le_of_ble_eq_true rfl | omega) ?_
  refine va_putF (D := D) (ci := 0) (v := .ref q3) (ty := (.array .int)) (C := RX0) (T := TX0) (N := 5) hx hb hts inX0_init_X0 tyX0 tyX0_ok nmX0 hown hK hP hD hS 0 rfl rfl 1 (by decide) (hts (Cond.fieldLink RX0 15 "PortRooms$Acts" "what" "[I") (wm_t (wm_l (wm_i 5 rfl)))) (fun _ h9 => h9) rfl hin rfl (tyX0_ok 1 (by decide)) rfl rfl (Nat.le_of_ble_eq_true rfl) dX0_init_17 (fun H locs => ?_)
  clear hP hD hS
  intro hP hD hS
  replace hP : va_P D vwCl [(h0, .inr (0, [.ref q1, .ref q3, .null, .null, .int 0])), (aI cI q1 60 (fun _ => 0)), (aI cI q3 60 (fun _ => 0))] H := hP
  replace hD : va_D A [(h0, .inr (0, [.ref q1, .ref q3, .null, .null, .int 0])), (aI cI q1 60 (fun _ => 0)), (aI cI q3 60 (fun _ => 0))] := hD
  refine lv_aload_n hx hb dX0_init_20 rfl (lv_at hl 0 rfl) ?_
  refine lv_bipush (v := 60) hx hb dX0_init_21 (by decide) ?_
  refine va_newa (atype := .int) (ty := .int) (a0 := (60, .inl (fun _ => 0))) hx hb (hts (Cond.arrayClass .int) (wm_t (wm_l (wm_i 3 rfl)))) rfl hK hP hD hS hA (fun _ => rfl) (by decide) (by decide) (by decide) (Nat.le_of_ble_eq_true rfl) (Nat.le_of_ble_eq_true rfl) dX0_init_23 (fun q5 cA6 H => ?_)
  clear hK hP hD hS
  intro hK hP hD hS
  have ecA6 : cI = cA6 := cls_eq hK 0 4 rfl rfl
  subst ecA6
  replace hK : va_K D vwCl (ty4 cI cY cJ cQ) s := hK.sub (tys' := ty4 cI cY cJ cQ) [0, 1, 2, 3] rfl
  replace hP : va_P D vwCl [(h0, .inr (0, [.ref q1, .ref q3, .null, .null, .int 0])), (aI cI q1 60 (fun _ => 0)), (aI cI q3 60 (fun _ => 0)), (aI cI q5 60 (fun _ => 0))] H := hP
  replace hD : va_D A [(h0, .inr (0, [.ref q1, .ref q3, .null, .null, .int 0])), (aI cI q1 60 (fun _ => 0)), (aI cI q3 60 (fun _ => 0)), (aI cI q5 60 (fun _ => 0))] := hD
  refine W.widen (k := 3) (n := 180) (by first | exact Nat.le_of_ble_eq_true rfl | omega) (by first | exact Nat.le_of_ble_eq_true rfl | omega) ?_
  refine va_putF (D := D) (ci := 0) (v := .ref q5) (ty := (.array .int)) (C := RX0) (T := TX0) (N := 5) hx hb hts inX0_init_X0 tyX0 tyX0_ok nmX0 hown hK hP hD hS 0 rfl rfl 2 (by decide) (hts (Cond.fieldLink RX0 18 "PortRooms$Acts" "day" "[I") (wm_t (wm_l (wm_i 6 rfl)))) (fun _ h9 => h9) rfl hin rfl (tyX0_ok 2 (by decide)) rfl rfl (Nat.le_of_ble_eq_true rfl) dX0_init_25 (fun H locs => ?_)
  clear hP hD hS
  intro hP hD hS
  replace hP : va_P D vwCl [(h0, .inr (0, [.ref q1, .ref q3, .ref q5, .null, .int 0])), (aI cI q1 60 (fun _ => 0)), (aI cI q3 60 (fun _ => 0)), (aI cI q5 60 (fun _ => 0))] H := hP
  replace hD : va_D A [(h0, .inr (0, [.ref q1, .ref q3, .ref q5, .null, .int 0])), (aI cI q1 60 (fun _ => 0)), (aI cI q3 60 (fun _ => 0)), (aI cI q5 60 (fun _ => 0))] := hD
  refine lv_aload_n hx hb dX0_init_28 rfl (lv_at hl 0 rfl) ?_
  refine lv_bipush (v := 60) hx hb dX0_init_29 (by decide) ?_
  refine va_newa (atype := .int) (ty := .int) (a0 := (60, .inl (fun _ => 0))) hx hb (hts (Cond.arrayClass .int) (wm_t (wm_l (wm_i 3 rfl)))) rfl hK hP hD hS hA (fun _ => rfl) (by decide) (by decide) (by decide) (Nat.le_of_ble_eq_true rfl) (Nat.le_of_ble_eq_true rfl) dX0_init_31 (fun q7 cA8 H => ?_)
  clear hK hP hD hS
  intro hK hP hD hS
  have ecA8 : cI = cA8 := cls_eq hK 0 4 rfl rfl
  subst ecA8
  replace hK : va_K D vwCl (ty4 cI cY cJ cQ) s := hK.sub (tys' := ty4 cI cY cJ cQ) [0, 1, 2, 3] rfl
  replace hP : va_P D vwCl [(h0, .inr (0, [.ref q1, .ref q3, .ref q5, .null, .int 0])), (aI cI q1 60 (fun _ => 0)), (aI cI q3 60 (fun _ => 0)), (aI cI q5 60 (fun _ => 0)), (aI cI q7 60 (fun _ => 0))] H := hP
  replace hD : va_D A [(h0, .inr (0, [.ref q1, .ref q3, .ref q5, .null, .int 0])), (aI cI q1 60 (fun _ => 0)), (aI cI q3 60 (fun _ => 0)), (aI cI q5 60 (fun _ => 0)), (aI cI q7 60 (fun _ => 0))] := hD
  refine W.widen (k := 4) (n := 240) (by first | exact Nat.le_of_ble_eq_true rfl | omega) (by first | exact Nat.le_of_ble_eq_true rfl | omega) ?_
  refine va_putF (D := D) (ci := 0) (v := .ref q7) (ty := (.array .int)) (C := RX0) (T := TX0) (N := 5) hx hb hts inX0_init_X0 tyX0 tyX0_ok nmX0 hown hK hP hD hS 0 rfl rfl 3 (by decide) (hts (Cond.fieldLink RX0 21 "PortRooms$Acts" "days" "[I") (wm_t (wm_l (wm_i 7 rfl)))) (fun _ h9 => h9) rfl hin rfl (tyX0_ok 3 (by decide)) rfl rfl (Nat.le_of_ble_eq_true rfl) dX0_init_33 (fun H locs => ?_)
  clear hP hD hS
  intro hP hD hS
  replace hP : va_P D vwCl [(h0, .inr (0, [.ref q1, .ref q3, .ref q5, .ref q7, .int 0])), (aI cI q1 60 (fun _ => 0)), (aI cI q3 60 (fun _ => 0)), (aI cI q5 60 (fun _ => 0)), (aI cI q7 60 (fun _ => 0))] H := hP
  replace hD : va_D A [(h0, .inr (0, [.ref q1, .ref q3, .ref q5, .ref q7, .int 0])), (aI cI q1 60 (fun _ => 0)), (aI cI q3 60 (fun _ => 0)), (aI cI q5 60 (fun _ => 0)), (aI cI q7 60 (fun _ => 0))] := hD
  have hP9 := hP.sub (ws' := [(h0, .inr (0, [.ref q1, .ref q3, .ref q5, .ref q7, .int 0])), (aI cI q1 60 (fun _ => 0)), (aI cI q3 60 (fun _ => 0)), (aI cI q5 60 (fun _ => 0)), (aI cI q7 60 (fun _ => 0))]) [0, 1, 2, 3, 4] rfl
  have hD9 := hD.sub (ws' := [(h0, .inr (0, [.ref q1, .ref q3, .ref q5, .ref q7, .int 0])), (aI cI q1 60 (fun _ => 0)), (aI cI q3 60 (fun _ => 0)), (aI cI q5 60 (fun _ => 0)), (aI cI q7 60 (fun _ => 0))]) [0, 1, 2, 3, 4] (by decide +kernel) rfl
  exact W.vret hx hb hr (fun t ht hW => ⟨⟨(fun k => ([q1, q3, q5, q7, 0] : List Nat).getD k 0), rfl, trivial, by rw [ht]; exact hP9, va_K.moved hW.alike hK, hD9⟩, hS.F ht⟩) hS.2.2 dX0_init_36

set_option maxHeartbeats 4000000 in
set_option maxRecDepth 100000 in
theorem ct_X6_init (l : Launch) (D : va_G) (cI cY cJ cQ : ClassId) (sz : Nat) (h0 : Nat)   : Met l yX6_init wsX6_init ({ frames := 1, cells := 4, slots := 240, locals := 12 }) (cPre D (ty4 cI cY cJ cQ) [(h0, .inr (6, [.null, .null, .null, .null, .int 0]))] sz [.ref h0]) (va_Qv (fun (u : Nat → Nat) => True) (cB D (ty4 cI cY cJ cQ) (fun (u : Nat → Nat) => [(h0, .inr (6, [.ref (u 0), .ref (u 1), .ref (u 2), .ref (u 3), .int 0])), (aI cI (u 0) 60 (fun _ => 0)), (aI cI (u 1) 60 (fun _ => 0)), (aI cI (u 2) 60 (fun _ => 0)), (aI cI (u 3) 60 (fun _ => 0))]) (va_A [(h0, .inr (6, [.null, .null, .null, .null, .int 0]))] sz)) (va_A [(h0, .inr (6, [.null, .null, .null, .null, .int 0]))] sz)) 4 240 (va_A [(h0, .inr (6, [.null, .null, .null, .null, .int 0]))] sz) := by
  refine Met.ofW (cc := cX6_init) (maxL := 1) (ret := none) (by decide) rfl ?_
  intro p e s m args below meth c s₁ B hml hv
  obtain ⟨rfl, hsz, hP, hK, hD0, hN⟩ := hv
  have hx := B.exec
  have hb := B.bytes
  have hr := B.returns
  have hts := atoms_spec (ws := wsX6_init) B.pre
  have hown : s.vm.findClass RX6 = some m.cls := findClass_of_methodNamed B.named
  have hlocks := B.notSynchronized
  have hin : meth.name = "<init>" := (name_of_methodNamed B.named B.method).1
  subst hsz
  have hD := hD0.self (sz := s.heap.size)
  generalize hAe : va_A [(h0, .inr (6, [.null, .null, .null, .null, .int 0]))] s.heap.size = A at hD ⊢
  have hA : ∀ q : Nat, s.heap.size ≤ q → A q := fun q h => by rw [← hAe]; exact Or.inr h
  have hS : va_S A s.heap s.heap [] := va_S.rf
  have hP : va_P D vwCl [(h0, .inr (6, [.null, .null, .null, .null, .int 0]))] s.heap := hP
  have hl := lv_entry ([.ref h0]) (n := 1) (Nat.le_of_ble_eq_true rfl)
  rw [lg_entry_eq]
  generalize (lg_sl ([.ref h0]) ++ List.replicate (1 - (lg_sl ([.ref h0])).length) Slot.unset).toArray = ls at hl ⊢
  have hl : lv_has ls 1 [(0, .ref h0)] := hl
  refine lv_aload_n hx hb dX6_init_0 rfl (lv_at hl 0 rfl) ?_
  refine W.objInit hx hb hown (hts (Cond.methodLink RX6 3 objectInit) (wm_t (wm_l (wm_i 0 rfl)))) (hts (Cond.instanceMethod objectInit) (wm_t (wm_l (wm_i 1 rfl)))) (hts _ (by decide +kernel)) rfl (by rw [hml]; exact hl.1) rfl dX6_init_1 (Nat.le_of_ble_eq_true rfl) (Nat.le_of_ble_eq_true rfl) ?_
  refine W.eq (g2 := F0 m 4 ls []) rfl ?_
  refine lv_aload_n hx hb dX6_init_4 rfl (lv_at hl 0 rfl) ?_
  refine lv_bipush (v := 60) hx hb dX6_init_5 (by decide) ?_
  refine va_newa (atype := .int) (ty := .int) (a0 := (60, .inl (fun _ => 0))) hx hb (hts (Cond.arrayClass .int) (wm_t (wm_l (wm_i 3 rfl)))) rfl hK hP hD hS hA (fun _ => rfl) (by decide) (by decide) (by decide) (Nat.le_of_ble_eq_true rfl) (Nat.le_of_ble_eq_true rfl) dX6_init_7 (fun q1 cA2 H => ?_)
  clear hK hP hD hS
  intro hK hP hD hS
  have ecA2 : cI = cA2 := cls_eq hK 0 4 rfl rfl
  subst ecA2
  replace hK : va_K D vwCl (ty4 cI cY cJ cQ) s := hK.sub (tys' := ty4 cI cY cJ cQ) [0, 1, 2, 3] rfl
  replace hP : va_P D vwCl [(h0, .inr (6, [.null, .null, .null, .null, .int 0])), (aI cI q1 60 (fun _ => 0))] H := hP
  replace hD : va_D A [(h0, .inr (6, [.null, .null, .null, .null, .int 0])), (aI cI q1 60 (fun _ => 0))] := hD
  refine W.widen (k := 1) (n := 60) (by first | exact Nat.le_of_ble_eq_true rfl | omega) (by first | exact Nat.le_of_ble_eq_true rfl | omega) ?_
  refine va_putF (D := D) (ci := 6) (v := .ref q1) (ty := (.array .int)) (C := RX6) (T := TX6) (N := 5) hx hb hts inX6_init_X6 tyX6 tyX6_ok nmX6 hown hK hP hD hS 0 rfl rfl 0 (by decide) (hts (Cond.fieldLink RX6 9 "PortRooms$Openings" "crate" "[I") (wm_t (wm_l (wm_i 4 rfl)))) (fun _ h9 => h9) rfl hin rfl (tyX6_ok 0 (by decide)) rfl rfl (Nat.le_of_ble_eq_true rfl) dX6_init_9 (fun H locs => ?_)
  clear hP hD hS
  intro hP hD hS
  replace hP : va_P D vwCl [(h0, .inr (6, [.ref q1, .null, .null, .null, .int 0])), (aI cI q1 60 (fun _ => 0))] H := hP
  replace hD : va_D A [(h0, .inr (6, [.ref q1, .null, .null, .null, .int 0])), (aI cI q1 60 (fun _ => 0))] := hD
  refine lv_aload_n hx hb dX6_init_12 rfl (lv_at hl 0 rfl) ?_
  refine lv_bipush (v := 60) hx hb dX6_init_13 (by decide) ?_
  refine va_newa (atype := .int) (ty := .int) (a0 := (60, .inl (fun _ => 0))) hx hb (hts (Cond.arrayClass .int) (wm_t (wm_l (wm_i 3 rfl)))) rfl hK hP hD hS hA (fun _ => rfl) (by decide) (by decide) (by decide) (Nat.le_of_ble_eq_true rfl) (Nat.le_of_ble_eq_true rfl) dX6_init_15 (fun q3 cA4 H => ?_)
  clear hK hP hD hS
  intro hK hP hD hS
  have ecA4 : cI = cA4 := cls_eq hK 0 4 rfl rfl
  subst ecA4
  replace hK : va_K D vwCl (ty4 cI cY cJ cQ) s := hK.sub (tys' := ty4 cI cY cJ cQ) [0, 1, 2, 3] rfl
  replace hP : va_P D vwCl [(h0, .inr (6, [.ref q1, .null, .null, .null, .int 0])), (aI cI q1 60 (fun _ => 0)), (aI cI q3 60 (fun _ => 0))] H := hP
  replace hD : va_D A [(h0, .inr (6, [.ref q1, .null, .null, .null, .int 0])), (aI cI q1 60 (fun _ => 0)), (aI cI q3 60 (fun _ => 0))] := hD
  refine W.widen (k := 2) (n := 120) (by first | exact Nat.le_of_ble_eq_true rfl | omega) (by first | exact Nat.le_of_ble_eq_true rfl | omega) ?_
  refine va_putF (D := D) (ci := 6) (v := .ref q3) (ty := (.array .int)) (C := RX6) (T := TX6) (N := 5) hx hb hts inX6_init_X6 tyX6 tyX6_ok nmX6 hown hK hP hD hS 0 rfl rfl 1 (by decide) (hts (Cond.fieldLink RX6 15 "PortRooms$Openings" "day" "[I") (wm_t (wm_l (wm_i 5 rfl)))) (fun _ h9 => h9) rfl hin rfl (tyX6_ok 1 (by decide)) rfl rfl (Nat.le_of_ble_eq_true rfl) dX6_init_17 (fun H locs => ?_)
  clear hP hD hS
  intro hP hD hS
  replace hP : va_P D vwCl [(h0, .inr (6, [.ref q1, .ref q3, .null, .null, .int 0])), (aI cI q1 60 (fun _ => 0)), (aI cI q3 60 (fun _ => 0))] H := hP
  replace hD : va_D A [(h0, .inr (6, [.ref q1, .ref q3, .null, .null, .int 0])), (aI cI q1 60 (fun _ => 0)), (aI cI q3 60 (fun _ => 0))] := hD
  refine lv_aload_n hx hb dX6_init_20 rfl (lv_at hl 0 rfl) ?_
  refine lv_bipush (v := 60) hx hb dX6_init_21 (by decide) ?_
  refine va_newa (atype := .int) (ty := .int) (a0 := (60, .inl (fun _ => 0))) hx hb (hts (Cond.arrayClass .int) (wm_t (wm_l (wm_i 3 rfl)))) rfl hK hP hD hS hA (fun _ => rfl) (by decide) (by decide) (by decide) (Nat.le_of_ble_eq_true rfl) (Nat.le_of_ble_eq_true rfl) dX6_init_23 (fun q5 cA6 H => ?_)
  clear hK hP hD hS
  intro hK hP hD hS
  have ecA6 : cI = cA6 := cls_eq hK 0 4 rfl rfl
  subst ecA6
  replace hK : va_K D vwCl (ty4 cI cY cJ cQ) s := hK.sub (tys' := ty4 cI cY cJ cQ) [0, 1, 2, 3] rfl
  replace hP : va_P D vwCl [(h0, .inr (6, [.ref q1, .ref q3, .null, .null, .int 0])), (aI cI q1 60 (fun _ => 0)), (aI cI q3 60 (fun _ => 0)), (aI cI q5 60 (fun _ => 0))] H := hP
  replace hD : va_D A [(h0, .inr (6, [.ref q1, .ref q3, .null, .null, .int 0])), (aI cI q1 60 (fun _ => 0)), (aI cI q3 60 (fun _ => 0)), (aI cI q5 60 (fun _ => 0))] := hD
  refine W.widen (k := 3) (n := 180) (by first | exact Nat.le_of_ble_eq_true rfl | omega) (by first | exact Nat.le_of_ble_eq_true rfl | omega) ?_
  refine va_putF (D := D) (ci := 6) (v := .ref q5) (ty := (.array .int)) (C := RX6) (T := TX6) (N := 5) hx hb hts inX6_init_X6 tyX6 tyX6_ok nmX6 hown hK hP hD hS 0 rfl rfl 2 (by decide) (hts (Cond.fieldLink RX6 18 "PortRooms$Openings" "weight" "[I") (wm_t (wm_l (wm_i 6 rfl)))) (fun _ h9 => h9) rfl hin rfl (tyX6_ok 2 (by decide)) rfl rfl (Nat.le_of_ble_eq_true rfl) dX6_init_25 (fun H locs => ?_)
  clear hP hD hS
  intro hP hD hS
  replace hP : va_P D vwCl [(h0, .inr (6, [.ref q1, .ref q3, .ref q5, .null, .int 0])), (aI cI q1 60 (fun _ => 0)), (aI cI q3 60 (fun _ => 0)), (aI cI q5 60 (fun _ => 0))] H := hP
  replace hD : va_D A [(h0, .inr (6, [.ref q1, .ref q3, .ref q5, .null, .int 0])), (aI cI q1 60 (fun _ => 0)), (aI cI q3 60 (fun _ => 0)), (aI cI q5 60 (fun _ => 0))] := hD
  refine lv_aload_n hx hb dX6_init_28 rfl (lv_at hl 0 rfl) ?_
  refine lv_bipush (v := 60) hx hb dX6_init_29 (by decide) ?_
  refine va_newa (atype := .int) (ty := .int) (a0 := (60, .inl (fun _ => 0))) hx hb (hts (Cond.arrayClass .int) (wm_t (wm_l (wm_i 3 rfl)))) rfl hK hP hD hS hA (fun _ => rfl) (by decide) (by decide) (by decide) (Nat.le_of_ble_eq_true rfl) (Nat.le_of_ble_eq_true rfl) dX6_init_31 (fun q7 cA8 H => ?_)
  clear hK hP hD hS
  intro hK hP hD hS
  have ecA8 : cI = cA8 := cls_eq hK 0 4 rfl rfl
  subst ecA8
  replace hK : va_K D vwCl (ty4 cI cY cJ cQ) s := hK.sub (tys' := ty4 cI cY cJ cQ) [0, 1, 2, 3] rfl
  replace hP : va_P D vwCl [(h0, .inr (6, [.ref q1, .ref q3, .ref q5, .null, .int 0])), (aI cI q1 60 (fun _ => 0)), (aI cI q3 60 (fun _ => 0)), (aI cI q5 60 (fun _ => 0)), (aI cI q7 60 (fun _ => 0))] H := hP
  replace hD : va_D A [(h0, .inr (6, [.ref q1, .ref q3, .ref q5, .null, .int 0])), (aI cI q1 60 (fun _ => 0)), (aI cI q3 60 (fun _ => 0)), (aI cI q5 60 (fun _ => 0)), (aI cI q7 60 (fun _ => 0))] := hD
  refine W.widen (k := 4) (n := 240) (by first | exact Nat.le_of_ble_eq_true rfl | omega) (by first | exact Nat.le_of_ble_eq_true rfl | omega) ?_
  refine va_putF (D := D) (ci := 6) (v := .ref q7) (ty := (.array .int)) (C := RX6) (T := TX6) (N := 5) hx hb hts inX6_init_X6 tyX6 tyX6_ok nmX6 hown hK hP hD hS 0 rfl rfl 3 (by decide) (hts (Cond.fieldLink RX6 21 "PortRooms$Openings" "marks" "[I") (wm_t (wm_l (wm_i 7 rfl)))) (fun _ h9 => h9) rfl hin rfl (tyX6_ok 3 (by decide)) rfl rfl (Nat.le_of_ble_eq_true rfl) dX6_init_33 (fun H locs => ?_)
  clear hP hD hS
  intro hP hD hS
  replace hP : va_P D vwCl [(h0, .inr (6, [.ref q1, .ref q3, .ref q5, .ref q7, .int 0])), (aI cI q1 60 (fun _ => 0)), (aI cI q3 60 (fun _ => 0)), (aI cI q5 60 (fun _ => 0)), (aI cI q7 60 (fun _ => 0))] H := hP
  replace hD : va_D A [(h0, .inr (6, [.ref q1, .ref q3, .ref q5, .ref q7, .int 0])), (aI cI q1 60 (fun _ => 0)), (aI cI q3 60 (fun _ => 0)), (aI cI q5 60 (fun _ => 0)), (aI cI q7 60 (fun _ => 0))] := hD
  have hP9 := hP.sub (ws' := [(h0, .inr (6, [.ref q1, .ref q3, .ref q5, .ref q7, .int 0])), (aI cI q1 60 (fun _ => 0)), (aI cI q3 60 (fun _ => 0)), (aI cI q5 60 (fun _ => 0)), (aI cI q7 60 (fun _ => 0))]) [0, 1, 2, 3, 4] rfl
  have hD9 := hD.sub (ws' := [(h0, .inr (6, [.ref q1, .ref q3, .ref q5, .ref q7, .int 0])), (aI cI q1 60 (fun _ => 0)), (aI cI q3 60 (fun _ => 0)), (aI cI q5 60 (fun _ => 0)), (aI cI q7 60 (fun _ => 0))]) [0, 1, 2, 3, 4] (by decide +kernel) rfl
  exact W.vret hx hb hr (fun t ht hW => ⟨⟨(fun k => ([q1, q3, q5, q7, 0] : List Nat).getD k 0), rfl, trivial, by rw [ht]; exact hP9, va_K.moved hW.alike hK, hD9⟩, hS.F ht⟩) hS.2.2 dX6_init_36

set_option maxHeartbeats 4000000 in
set_option maxRecDepth 100000 in
theorem ct_X4_init (l : Launch) (D : va_G) (cI cY cJ cQ : ClassId) (sz : Nat) (h0 : Nat)   : Met l yX4_init wsX4_init ({ frames := 1, cells := 3, slots := 60, locals := 12 }) (cPre D (ty4 cI cY cJ cQ) [(h0, .inr (4, [.null, .null, .null, .int 0]))] sz [.ref h0]) (va_Qv (fun (u : Nat → Nat) => True) (cB D (ty4 cI cY cJ cQ) (fun (u : Nat → Nat) => [(h0, .inr (4, [.ref (u 0), .ref (u 1), .ref (u 2), .int 0])), (aI cI (u 0) 20 (fun _ => 0)), (aI cI (u 1) 20 (fun _ => 0)), (aI cI (u 2) 20 (fun _ => 0))]) (va_A [(h0, .inr (4, [.null, .null, .null, .int 0]))] sz)) (va_A [(h0, .inr (4, [.null, .null, .null, .int 0]))] sz)) 3 60 (va_A [(h0, .inr (4, [.null, .null, .null, .int 0]))] sz) := by
  refine Met.ofW (cc := cX4_init) (maxL := 1) (ret := none) (by decide) rfl ?_
  intro p e s m args below meth c s₁ B hml hv
  obtain ⟨rfl, hsz, hP, hK, hD0, hN⟩ := hv
  have hx := B.exec
  have hb := B.bytes
  have hr := B.returns
  have hts := atoms_spec (ws := wsX4_init) B.pre
  have hown : s.vm.findClass RX4 = some m.cls := findClass_of_methodNamed B.named
  have hlocks := B.notSynchronized
  have hin : meth.name = "<init>" := (name_of_methodNamed B.named B.method).1
  subst hsz
  have hD := hD0.self (sz := s.heap.size)
  generalize hAe : va_A [(h0, .inr (4, [.null, .null, .null, .int 0]))] s.heap.size = A at hD ⊢
  have hA : ∀ q : Nat, s.heap.size ≤ q → A q := fun q h => by rw [← hAe]; exact Or.inr h
  have hS : va_S A s.heap s.heap [] := va_S.rf
  have hP : va_P D vwCl [(h0, .inr (4, [.null, .null, .null, .int 0]))] s.heap := hP
  have hl := lv_entry ([.ref h0]) (n := 1) (Nat.le_of_ble_eq_true rfl)
  rw [lg_entry_eq]
  generalize (lg_sl ([.ref h0]) ++ List.replicate (1 - (lg_sl ([.ref h0])).length) Slot.unset).toArray = ls at hl ⊢
  have hl : lv_has ls 1 [(0, .ref h0)] := hl
  refine lv_aload_n hx hb dX4_init_0 rfl (lv_at hl 0 rfl) ?_
  refine W.objInit hx hb hown (hts (Cond.methodLink RX4 3 objectInit) (wm_t (wm_l (wm_i 0 rfl)))) (hts (Cond.instanceMethod objectInit) (wm_t (wm_l (wm_i 1 rfl)))) (hts _ (by decide +kernel)) rfl (by rw [hml]; exact hl.1) rfl dX4_init_1 (Nat.le_of_ble_eq_true rfl) (Nat.le_of_ble_eq_true rfl) ?_
  refine W.eq (g2 := F0 m 4 ls []) rfl ?_
  refine lv_aload_n hx hb dX4_init_4 rfl (lv_at hl 0 rfl) ?_
  refine lv_bipush (v := 20) hx hb dX4_init_5 (by decide) ?_
  refine va_newa (atype := .int) (ty := .int) (a0 := (20, .inl (fun _ => 0))) hx hb (hts (Cond.arrayClass .int) (wm_t (wm_l (wm_i 3 rfl)))) rfl hK hP hD hS hA (fun _ => rfl) (by decide) (by decide) (by decide) (Nat.le_of_ble_eq_true rfl) (Nat.le_of_ble_eq_true rfl) dX4_init_7 (fun q1 cA2 H => ?_)
  clear hK hP hD hS
  intro hK hP hD hS
  have ecA2 : cI = cA2 := cls_eq hK 0 4 rfl rfl
  subst ecA2
  replace hK : va_K D vwCl (ty4 cI cY cJ cQ) s := hK.sub (tys' := ty4 cI cY cJ cQ) [0, 1, 2, 3] rfl
  replace hP : va_P D vwCl [(h0, .inr (4, [.null, .null, .null, .int 0])), (aI cI q1 20 (fun _ => 0))] H := hP
  replace hD : va_D A [(h0, .inr (4, [.null, .null, .null, .int 0])), (aI cI q1 20 (fun _ => 0))] := hD
  refine W.widen (k := 1) (n := 20) (by first | exact Nat.le_of_ble_eq_true rfl | omega) (by first | exact Nat.le_of_ble_eq_true rfl | omega) ?_
  refine va_putF (D := D) (ci := 4) (v := .ref q1) (ty := (.array .int)) (C := RX4) (T := TX4) (N := 4) hx hb hts inX4_init_X4 tyX4 tyX4_ok nmX4 hown hK hP hD hS 0 rfl rfl 0 (by decide) (hts (Cond.fieldLink RX4 9 "PortRooms$Lists" "person" "[I") (wm_t (wm_l (wm_i 4 rfl)))) (fun _ h9 => h9) rfl hin rfl (tyX4_ok 0 (by decide)) rfl rfl (Nat.le_of_ble_eq_true rfl) dX4_init_9 (fun H locs => ?_)
  clear hP hD hS
  intro hP hD hS
  replace hP : va_P D vwCl [(h0, .inr (4, [.ref q1, .null, .null, .int 0])), (aI cI q1 20 (fun _ => 0))] H := hP
  replace hD : va_D A [(h0, .inr (4, [.ref q1, .null, .null, .int 0])), (aI cI q1 20 (fun _ => 0))] := hD
  refine lv_aload_n hx hb dX4_init_12 rfl (lv_at hl 0 rfl) ?_
  refine lv_bipush (v := 20) hx hb dX4_init_13 (by decide) ?_
  refine va_newa (atype := .int) (ty := .int) (a0 := (20, .inl (fun _ => 0))) hx hb (hts (Cond.arrayClass .int) (wm_t (wm_l (wm_i 3 rfl)))) rfl hK hP hD hS hA (fun _ => rfl) (by decide) (by decide) (by decide) (Nat.le_of_ble_eq_true rfl) (Nat.le_of_ble_eq_true rfl) dX4_init_15 (fun q3 cA4 H => ?_)
  clear hK hP hD hS
  intro hK hP hD hS
  have ecA4 : cI = cA4 := cls_eq hK 0 4 rfl rfl
  subst ecA4
  replace hK : va_K D vwCl (ty4 cI cY cJ cQ) s := hK.sub (tys' := ty4 cI cY cJ cQ) [0, 1, 2, 3] rfl
  replace hP : va_P D vwCl [(h0, .inr (4, [.ref q1, .null, .null, .int 0])), (aI cI q1 20 (fun _ => 0)), (aI cI q3 20 (fun _ => 0))] H := hP
  replace hD : va_D A [(h0, .inr (4, [.ref q1, .null, .null, .int 0])), (aI cI q1 20 (fun _ => 0)), (aI cI q3 20 (fun _ => 0))] := hD
  refine W.widen (k := 2) (n := 40) (by first | exact Nat.le_of_ble_eq_true rfl | omega) (by first | exact Nat.le_of_ble_eq_true rfl | omega) ?_
  refine va_putF (D := D) (ci := 4) (v := .ref q3) (ty := (.array .int)) (C := RX4) (T := TX4) (N := 4) hx hb hts inX4_init_X4 tyX4 tyX4_ok nmX4 hown hK hP hD hS 0 rfl rfl 1 (by decide) (hts (Cond.fieldLink RX4 15 "PortRooms$Lists" "from" "[I") (wm_t (wm_l (wm_i 5 rfl)))) (fun _ h9 => h9) rfl hin rfl (tyX4_ok 1 (by decide)) rfl rfl (Nat.le_of_ble_eq_true rfl) dX4_init_17 (fun H locs => ?_)
  clear hP hD hS
  intro hP hD hS
  replace hP : va_P D vwCl [(h0, .inr (4, [.ref q1, .ref q3, .null, .int 0])), (aI cI q1 20 (fun _ => 0)), (aI cI q3 20 (fun _ => 0))] H := hP
  replace hD : va_D A [(h0, .inr (4, [.ref q1, .ref q3, .null, .int 0])), (aI cI q1 20 (fun _ => 0)), (aI cI q3 20 (fun _ => 0))] := hD
  refine lv_aload_n hx hb dX4_init_20 rfl (lv_at hl 0 rfl) ?_
  refine lv_bipush (v := 20) hx hb dX4_init_21 (by decide) ?_
  refine va_newa (atype := .int) (ty := .int) (a0 := (20, .inl (fun _ => 0))) hx hb (hts (Cond.arrayClass .int) (wm_t (wm_l (wm_i 3 rfl)))) rfl hK hP hD hS hA (fun _ => rfl) (by decide) (by decide) (by decide) (Nat.le_of_ble_eq_true rfl) (Nat.le_of_ble_eq_true rfl) dX4_init_23 (fun q5 cA6 H => ?_)
  clear hK hP hD hS
  intro hK hP hD hS
  have ecA6 : cI = cA6 := cls_eq hK 0 4 rfl rfl
  subst ecA6
  replace hK : va_K D vwCl (ty4 cI cY cJ cQ) s := hK.sub (tys' := ty4 cI cY cJ cQ) [0, 1, 2, 3] rfl
  replace hP : va_P D vwCl [(h0, .inr (4, [.ref q1, .ref q3, .null, .int 0])), (aI cI q1 20 (fun _ => 0)), (aI cI q3 20 (fun _ => 0)), (aI cI q5 20 (fun _ => 0))] H := hP
  replace hD : va_D A [(h0, .inr (4, [.ref q1, .ref q3, .null, .int 0])), (aI cI q1 20 (fun _ => 0)), (aI cI q3 20 (fun _ => 0)), (aI cI q5 20 (fun _ => 0))] := hD
  refine W.widen (k := 3) (n := 60) (by first | exact Nat.le_of_ble_eq_true rfl | omega) (by first | exact Nat.le_of_ble_eq_true rfl | omega) ?_
  refine va_putF (D := D) (ci := 4) (v := .ref q5) (ty := (.array .int)) (C := RX4) (T := TX4) (N := 4) hx hb hts inX4_init_X4 tyX4 tyX4_ok nmX4 hown hK hP hD hS 0 rfl rfl 2 (by decide) (hts (Cond.fieldLink RX4 18 "PortRooms$Lists" "to" "[I") (wm_t (wm_l (wm_i 6 rfl)))) (fun _ h9 => h9) rfl hin rfl (tyX4_ok 2 (by decide)) rfl rfl (Nat.le_of_ble_eq_true rfl) dX4_init_25 (fun H locs => ?_)
  clear hP hD hS
  intro hP hD hS
  replace hP : va_P D vwCl [(h0, .inr (4, [.ref q1, .ref q3, .ref q5, .int 0])), (aI cI q1 20 (fun _ => 0)), (aI cI q3 20 (fun _ => 0)), (aI cI q5 20 (fun _ => 0))] H := hP
  replace hD : va_D A [(h0, .inr (4, [.ref q1, .ref q3, .ref q5, .int 0])), (aI cI q1 20 (fun _ => 0)), (aI cI q3 20 (fun _ => 0)), (aI cI q5 20 (fun _ => 0))] := hD
  have hP9 := hP.sub (ws' := [(h0, .inr (4, [.ref q1, .ref q3, .ref q5, .int 0])), (aI cI q1 20 (fun _ => 0)), (aI cI q3 20 (fun _ => 0)), (aI cI q5 20 (fun _ => 0))]) [0, 1, 2, 3] rfl
  have hD9 := hD.sub (ws' := [(h0, .inr (4, [.ref q1, .ref q3, .ref q5, .int 0])), (aI cI q1 20 (fun _ => 0)), (aI cI q3 20 (fun _ => 0)), (aI cI q5 20 (fun _ => 0))]) [0, 1, 2, 3] (by decide +kernel) rfl
  exact W.vret hx hb hr (fun t ht hW => ⟨⟨(fun k => ([q1, q3, q5, 0] : List Nat).getD k 0), rfl, trivial, by rw [ht]; exact hP9, va_K.moved hW.alike hK, hD9⟩, hS.F ht⟩) hS.2.2 dX4_init_28

set_option maxHeartbeats 4000000 in
set_option maxRecDepth 100000 in
theorem ct_X5_init (l : Launch) (D : va_G) (cI cY cJ cQ : ClassId) (sz : Nat) (h0 : Nat) (itsd : Int32)  : Met l yX5_init wsX5_init ({ frames := 1, cells := 1, slots := 12, locals := 12 }) (cPre D (ty4 cI cY cJ cQ) [(h0, .inr (5, [.int 0, .null]))] sz [.ref h0, .int itsd]) (va_Qv (fun (u : Nat → Nat) => True) (cB D (ty4 cI cY cJ cQ) (fun (u : Nat → Nat) => [(h0, .inr (5, [.int itsd, .ref (u 1)])), (aJ cJ (u 1) 12 (fun _ => 0))]) (va_A [(h0, .inr (5, [.int 0, .null]))] sz)) (va_A [(h0, .inr (5, [.int 0, .null]))] sz)) 1 12 (va_A [(h0, .inr (5, [.int 0, .null]))] sz) := by
  refine Met.ofW (cc := cX5_init) (maxL := 2) (ret := none) (by decide) rfl ?_
  intro p e s m args below meth c s₁ B hml hv
  obtain ⟨rfl, hsz, hP, hK, hD0, hN⟩ := hv
  have hx := B.exec
  have hb := B.bytes
  have hr := B.returns
  have hts := atoms_spec (ws := wsX5_init) B.pre
  have hown : s.vm.findClass RX5 = some m.cls := findClass_of_methodNamed B.named
  have hlocks := B.notSynchronized
  have hin : meth.name = "<init>" := (name_of_methodNamed B.named B.method).1
  subst hsz
  have hD := hD0.self (sz := s.heap.size)
  generalize hAe : va_A [(h0, .inr (5, [.int 0, .null]))] s.heap.size = A at hD ⊢
  have hA : ∀ q : Nat, s.heap.size ≤ q → A q := fun q h => by rw [← hAe]; exact Or.inr h
  have hS : va_S A s.heap s.heap [] := va_S.rf
  have hP : va_P D vwCl [(h0, .inr (5, [.int 0, .null]))] s.heap := hP
  have hl := lv_entry ([.ref h0, .int itsd]) (n := 2) (Nat.le_of_ble_eq_true rfl)
  rw [lg_entry_eq]
  generalize (lg_sl ([.ref h0, .int itsd]) ++ List.replicate (2 - (lg_sl ([.ref h0, .int itsd])).length) Slot.unset).toArray = ls at hl ⊢
  have hl : lv_has ls 2 [(0, .ref h0), (1, .int itsd)] := hl
  refine lv_aload_n hx hb dX5_init_0 rfl (lv_at hl 0 rfl) ?_
  refine W.objInit hx hb hown (hts (Cond.methodLink RX5 3 objectInit) (wm_t (wm_l (wm_i 0 rfl)))) (hts (Cond.instanceMethod objectInit) (wm_t (wm_l (wm_i 1 rfl)))) (hts _ (by decide +kernel)) rfl (by rw [hml]; exact hl.1) rfl dX5_init_1 (Nat.le_of_ble_eq_true rfl) (Nat.le_of_ble_eq_true rfl) ?_
  refine W.eq (g2 := F0 m 4 ls []) rfl ?_
  refine lv_aload_n hx hb dX5_init_4 rfl (lv_at hl 0 rfl) ?_
  refine lv_bipush (v := 12) hx hb dX5_init_5 (by decide) ?_
  refine va_newa (atype := .long) (ty := .long) (a0 := (12, .inr (.inl (fun _ => 0)))) hx hb (hts (Cond.arrayClass .long) (wm_t (wm_l (wm_i 3 rfl)))) rfl hK hP hD hS hA (fun _ => rfl) (by decide) (by decide) (by decide) (Nat.le_of_ble_eq_true rfl) (Nat.le_of_ble_eq_true rfl) dX5_init_7 (fun q1 cA2 H => ?_)
  clear hK hP hD hS
  intro hK hP hD hS
  have ecA2 : cJ = cA2 := cls_eq hK 2 4 rfl rfl
  subst ecA2
  replace hK : va_K D vwCl (ty4 cI cY cJ cQ) s := hK.sub (tys' := ty4 cI cY cJ cQ) [0, 1, 2, 3] rfl
  replace hP : va_P D vwCl [(h0, .inr (5, [.int 0, .null])), (aJ cJ q1 12 (fun _ => 0))] H := hP
  replace hD : va_D A [(h0, .inr (5, [.int 0, .null])), (aJ cJ q1 12 (fun _ => 0))] := hD
  refine W.widen (k := 1) (n := 12) (by first | exact Nat.le_of_ble_eq_true rfl | omega) (by first | exact Nat.le_of_ble_eq_true rfl | omega) ?_
  refine va_putF (D := D) (ci := 5) (v := .ref q1) (ty := (.array .long)) (C := RX5) (T := TX5) (N := 2) hx hb hts inX5_init_X5 tyX5 tyX5_ok nmX5 hown hK hP hD hS 0 rfl rfl 1 (by decide) (hts (Cond.fieldLink RX5 9 "PortRooms$Looks" "lots" "[J") (wm_t (wm_l (wm_i 4 rfl)))) (fun _ h9 => h9) rfl hin rfl (tyX5_ok 1 (by decide)) rfl rfl (Nat.le_of_ble_eq_true rfl) dX5_init_9 (fun H locs => ?_)
  clear hP hD hS
  intro hP hD hS
  replace hP : va_P D vwCl [(h0, .inr (5, [.int 0, .ref q1])), (aJ cJ q1 12 (fun _ => 0))] H := hP
  replace hD : va_D A [(h0, .inr (5, [.int 0, .ref q1])), (aJ cJ q1 12 (fun _ => 0))] := hD
  refine lv_aload_n hx hb dX5_init_12 rfl (lv_at hl 0 rfl) ?_
  refine lv_iload_n hx hb dX5_init_13 rfl (lv_at hl 1 rfl) ?_
  refine va_putF (D := D) (ci := 5) (v := .int itsd) (ty := .int) (C := RX5) (T := TX5) (N := 2) hx hb hts inX5_init_X5 tyX5 tyX5_ok nmX5 hown hK hP hD hS 0 rfl rfl 0 (by decide) (hts (Cond.fieldLink RX5 15 "PortRooms$Looks" "seed" "I") (wm_t (wm_l (wm_i 5 rfl)))) (fun _ h9 => h9) rfl hin rfl (tyX5_ok 0 (by decide)) rfl rfl (Nat.le_of_ble_eq_true rfl) dX5_init_14 (fun H locs => ?_)
  clear hP hD hS
  intro hP hD hS
  replace hP : va_P D vwCl [(h0, .inr (5, [.int itsd, .ref q1])), (aJ cJ q1 12 (fun _ => 0))] H := hP
  replace hD : va_D A [(h0, .inr (5, [.int itsd, .ref q1])), (aJ cJ q1 12 (fun _ => 0))] := hD
  have hP9 := hP.sub (ws' := [(h0, .inr (5, [.int itsd, .ref q1])), (aJ cJ q1 12 (fun _ => 0))]) [0, 1] rfl
  have hD9 := hD.sub (ws' := [(h0, .inr (5, [.int itsd, .ref q1])), (aJ cJ q1 12 (fun _ => 0))]) [0, 1] (by decide +kernel) rfl
  exact W.vret hx hb hr (fun t ht hW => ⟨⟨(fun k => ([0, q1] : List Nat).getD k 0), rfl, trivial, by rw [ht]; exact hP9, va_K.moved hW.alike hK, hD9⟩, hS.F ht⟩) hS.2.2 dX5_init_17

set_option maxHeartbeats 4000000 in
set_option maxRecDepth 100000 in
theorem ct_X9_init (l : Launch) (D : va_G) (cI cY cJ cQ : ClassId) (sz : Nat) (h0 : Nat)   : Met l yX9_init wsX9_init ({ frames := 1, cells := 11, slots := 504, locals := 23 }) (cPre D (ty4 cI cY cJ cQ) [(h0, .inr (9, [.null, .null, .null]))] sz [.ref h0]) (va_Qv (fun (u : (Nat → Nat) × (Nat → Nat)) => True) (cB D (ty4 cI cY cJ cQ) (fun (u : (Nat → Nat) × (Nat → Nat)) => [(h0, .inr (9, [.ref (u.1 0), .ref (u.1 1), .ref (u.1 2)])), ((u.1 0), .inl (cQ, 8, .inr (.inr (.inr (.inr (fun i => if i < 8 then some (u.2 i) else none)))))), (aI cI (u.2 0) 60 (fun _ => 0)), (aI cI (u.2 1) 60 (fun _ => 0)), (aI cI (u.2 2) 60 (fun _ => 0)), (aI cI (u.2 3) 60 (fun _ => 0)), (aI cI (u.2 4) 60 (fun _ => 0)), (aI cI (u.2 5) 60 (fun _ => 0)), (aI cI (u.2 6) 60 (fun _ => 0)), (aI cI (u.2 7) 60 (fun _ => 0)), (aI cI (u.1 1) 8 (fun _ => 0)), (aI cI (u.1 2) 8 (fun _ => (-1)))]) (va_A [(h0, .inr (9, [.null, .null, .null]))] sz)) (va_A [(h0, .inr (9, [.null, .null, .null]))] sz)) 11 504 (va_A [(h0, .inr (9, [.null, .null, .null]))] sz) := by
  refine Met.ofW (cc := cX9_init) (maxL := 1) (ret := none) (by decide) rfl ?_
  intro p e s m args below meth c s₁ B hml hv
  obtain ⟨rfl, hsz, hP, hK, hD0, hN⟩ := hv
  have hx := B.exec
  have hb := B.bytes
  have hr := B.returns
  have hts := atoms_spec (ws := wsX9_init) B.pre
  have hown : s.vm.findClass RX9 = some m.cls := findClass_of_methodNamed B.named
  have hlocks := B.notSynchronized
  have hin : meth.name = "<init>" := (name_of_methodNamed B.named B.method).1
  subst hsz
  have hD := hD0.self (sz := s.heap.size)
  generalize hAe : va_A [(h0, .inr (9, [.null, .null, .null]))] s.heap.size = A at hD ⊢
  have hA : ∀ q : Nat, s.heap.size ≤ q → A q := fun q h => by rw [← hAe]; exact Or.inr h
  have hS : va_S A s.heap s.heap [] := va_S.rf
  have hP : va_P D vwCl [(h0, .inr (9, [.null, .null, .null]))] s.heap := hP
  have hl := lv_entry ([.ref h0]) (n := 1) (Nat.le_of_ble_eq_true rfl)
  rw [lg_entry_eq]
  generalize (lg_sl ([.ref h0]) ++ List.replicate (1 - (lg_sl ([.ref h0])).length) Slot.unset).toArray = ls at hl ⊢
  have hl : lv_has ls 1 [(0, .ref h0)] := hl
  have km1 : (-1 : Int32).toInt = -1 := by decide
  refine lv_aload_n hx hb dX9_init_0 rfl (lv_at hl 0 rfl) ?_
  refine W.objInit hx hb hown (hts (Cond.methodLink RX9 3 objectInit) (wm_t (wm_l (wm_i 0 rfl)))) (hts (Cond.instanceMethod objectInit) (wm_t (wm_l (wm_i 1 rfl)))) (hts _ (by decide +kernel)) rfl (by rw [hml]; exact hl.1) rfl dX9_init_1 (Nat.le_of_ble_eq_true rfl) (Nat.le_of_ble_eq_true rfl) ?_
  refine W.eq (g2 := F0 m 4 ls []) rfl ?_
  refine lv_aload_n hx hb dX9_init_4 rfl (lv_at hl 0 rfl) ?_
  refine lv_bipush (v := 8) hx hb dX9_init_5 (by decide) ?_
  refine lv_bipush (v := 60) hx hb dX9_init_7 (by decide) ?_
  refine va_mna (X := [(h0, .inr (9, [.null, .null, .null]))]) (L := []) (f := fun _ => .inr (0, [])) (ty := .int) (cy := cI) (z := (60, .inl (fun _ => 0))) (N' := 8) (K' := 60) hx hb hown (hts (Cond.classLink RX9 9 "[[I") (wm_t (wm_l (wm_i 3 rfl)))) hN.2 (hts (Cond.arrayClass .int) (wm_t (wm_l (wm_i 4 rfl)))) (by have h9 := (hK.2 0 _ rfl).2; exact h9) hK hP hD hS hA (by decide) (by decide) (by decide) (by decide) (by decide) (by decide) (by decide) rfl rfl (Nat.le_of_ble_eq_true rfl) (Nat.le_of_ble_eq_true rfl) (fun _ => arrV_new _ _ _) dX9_init_9 (fun q1 rw2 cA3 H h_inj h_new => ?_)
  clear hK hP hD hS
  intro hK hP hD hS
  rw [List.nil_append, pl_up] at hP hD
  have ecA3 : cQ = cA3 := cls_eq hK 3 4 rfl rfl
  subst ecA3
  replace hK : va_K D vwCl (ty4 cI cY cJ cQ) s := hK.sub (tys' := ty4 cI cY cJ cQ) [0, 1, 2, 3] rfl
  replace hP : va_P D vwCl [(h0, .inr (9, [.null, .null, .null])), (q1, .inl (cQ, 8, .inr (.inr (.inr (.inr (fun i => if i < 8 then some (rw2 i) else none)))))), (aI cI (rw2 0) 60 (fun _ => 0)), (aI cI (rw2 1) 60 (fun _ => 0)), (aI cI (rw2 2) 60 (fun _ => 0)), (aI cI (rw2 3) 60 (fun _ => 0)), (aI cI (rw2 4) 60 (fun _ => 0)), (aI cI (rw2 5) 60 (fun _ => 0)), (aI cI (rw2 6) 60 (fun _ => 0)), (aI cI (rw2 7) 60 (fun _ => 0))] H := hP
  replace hD : va_D A [(h0, .inr (9, [.null, .null, .null])), (q1, .inl (cQ, 8, .inr (.inr (.inr (.inr (fun i => if i < 8 then some (rw2 i) else none)))))), (aI cI (rw2 0) 60 (fun _ => 0)), (aI cI (rw2 1) 60 (fun _ => 0)), (aI cI (rw2 2) 60 (fun _ => 0)), (aI cI (rw2 3) 60 (fun _ => 0)), (aI cI (rw2 4) 60 (fun _ => 0)), (aI cI (rw2 5) 60 (fun _ => 0)), (aI cI (rw2 6) 60 (fun _ => 0)), (aI cI (rw2 7) 60 (fun _ => 0))] := hD
  refine W.widen (k := 9) (n := 488) (by first | exact Nat.le_of_ble_eq_true rfl | omega) (by first | exact Nat.le_of_ble_eq_true rfl | omega) ?_
  refine va_putF (D := D) (ci := 9) (v := .ref q1) (ty := (.array (.array .int))) (C := RX9) (T := TX9) (N := 3) hx hb hts inX9_init_X9 tyX9 tyX9_ok nmX9 hown hK hP hD hS 0 rfl rfl 0 (by decide) (hts (Cond.fieldLink RX9 11 "PortRooms$Sheets" "items" "[[I") (wm_t (wm_l (wm_i 5 rfl)))) (fun _ h9 => h9) rfl hin rfl (tyX9_ok 0 (by decide)) rfl rfl (Nat.le_of_ble_eq_true rfl) dX9_init_13 (fun H locs => ?_)
  clear hP hD hS
  intro hP hD hS
  replace hP : va_P D vwCl [(h0, .inr (9, [.ref q1, .null, .null])), (q1, .inl (cQ, 8, .inr (.inr (.inr (.inr (fun i => if i < 8 then some (rw2 i) else none)))))), (aI cI (rw2 0) 60 (fun _ => 0)), (aI cI (rw2 1) 60 (fun _ => 0)), (aI cI (rw2 2) 60 (fun _ => 0)), (aI cI (rw2 3) 60 (fun _ => 0)), (aI cI (rw2 4) 60 (fun _ => 0)), (aI cI (rw2 5) 60 (fun _ => 0)), (aI cI (rw2 6) 60 (fun _ => 0)), (aI cI (rw2 7) 60 (fun _ => 0))] H := hP
  replace hD : va_D A [(h0, .inr (9, [.ref q1, .null, .null])), (q1, .inl (cQ, 8, .inr (.inr (.inr (.inr (fun i => if i < 8 then some (rw2 i) else none)))))), (aI cI (rw2 0) 60 (fun _ => 0)), (aI cI (rw2 1) 60 (fun _ => 0)), (aI cI (rw2 2) 60 (fun _ => 0)), (aI cI (rw2 3) 60 (fun _ => 0)), (aI cI (rw2 4) 60 (fun _ => 0)), (aI cI (rw2 5) 60 (fun _ => 0)), (aI cI (rw2 6) 60 (fun _ => 0)), (aI cI (rw2 7) 60 (fun _ => 0))] := hD
  refine lv_aload_n hx hb dX9_init_16 rfl (lv_at hl 0 rfl) ?_
  refine lv_bipush (v := 8) hx hb dX9_init_17 (by decide) ?_
  refine va_newa (atype := .int) (ty := .int) (a0 := (8, .inl (fun _ => 0))) hx hb (hts (Cond.arrayClass .int) (wm_t (wm_l (wm_i 4 rfl)))) rfl hK hP hD hS hA (fun _ => rfl) (by decide) (by decide) (by decide) (Nat.le_of_ble_eq_true rfl) (Nat.le_of_ble_eq_true rfl) dX9_init_19 (fun q4 cA5 H => ?_)
  clear hK hP hD hS
  intro hK hP hD hS
  have ecA5 : cI = cA5 := cls_eq hK 0 4 rfl rfl
  subst ecA5
  replace hK : va_K D vwCl (ty4 cI cY cJ cQ) s := hK.sub (tys' := ty4 cI cY cJ cQ) [0, 1, 2, 3] rfl
  replace hP : va_P D vwCl [(h0, .inr (9, [.ref q1, .null, .null])), (q1, .inl (cQ, 8, .inr (.inr (.inr (.inr (fun i => if i < 8 then some (rw2 i) else none)))))), (aI cI (rw2 0) 60 (fun _ => 0)), (aI cI (rw2 1) 60 (fun _ => 0)), (aI cI (rw2 2) 60 (fun _ => 0)), (aI cI (rw2 3) 60 (fun _ => 0)), (aI cI (rw2 4) 60 (fun _ => 0)), (aI cI (rw2 5) 60 (fun _ => 0)), (aI cI (rw2 6) 60 (fun _ => 0)), (aI cI (rw2 7) 60 (fun _ => 0)), (aI cI q4 8 (fun _ => 0))] H := hP
  replace hD : va_D A [(h0, .inr (9, [.ref q1, .null, .null])), (q1, .inl (cQ, 8, .inr (.inr (.inr (.inr (fun i => if i < 8 then some (rw2 i) else none)))))), (aI cI (rw2 0) 60 (fun _ => 0)), (aI cI (rw2 1) 60 (fun _ => 0)), (aI cI (rw2 2) 60 (fun _ => 0)), (aI cI (rw2 3) 60 (fun _ => 0)), (aI cI (rw2 4) 60 (fun _ => 0)), (aI cI (rw2 5) 60 (fun _ => 0)), (aI cI (rw2 6) 60 (fun _ => 0)), (aI cI (rw2 7) 60 (fun _ => 0)), (aI cI q4 8 (fun _ => 0))] := hD
  refine W.widen (k := 10) (n := 496) (by first | exact Nat.le_of_ble_eq_true rfl | omega) (by first | exact Nat.le_of_ble_eq_true rfl | omega) ?_
  refine va_putF (D := D) (ci := 9) (v := .ref q4) (ty := (.array .int)) (C := RX9) (T := TX9) (N := 3) hx hb hts inX9_init_X9 tyX9 tyX9_ok nmX9 hown hK hP hD hS 0 rfl rfl 1 (by decide) (hts (Cond.fieldLink RX9 16 "PortRooms$Sheets" "lane" "[I") (wm_t (wm_l (wm_i 6 rfl)))) (fun _ h9 => h9) rfl hin rfl (tyX9_ok 1 (by decide)) rfl rfl (Nat.le_of_ble_eq_true rfl) dX9_init_21 (fun H locs => ?_)
  clear hP hD hS
  intro hP hD hS
  replace hP : va_P D vwCl [(h0, .inr (9, [.ref q1, .ref q4, .null])), (q1, .inl (cQ, 8, .inr (.inr (.inr (.inr (fun i => if i < 8 then some (rw2 i) else none)))))), (aI cI (rw2 0) 60 (fun _ => 0)), (aI cI (rw2 1) 60 (fun _ => 0)), (aI cI (rw2 2) 60 (fun _ => 0)), (aI cI (rw2 3) 60 (fun _ => 0)), (aI cI (rw2 4) 60 (fun _ => 0)), (aI cI (rw2 5) 60 (fun _ => 0)), (aI cI (rw2 6) 60 (fun _ => 0)), (aI cI (rw2 7) 60 (fun _ => 0)), (aI cI q4 8 (fun _ => 0))] H := hP
  replace hD : va_D A [(h0, .inr (9, [.ref q1, .ref q4, .null])), (q1, .inl (cQ, 8, .inr (.inr (.inr (.inr (fun i => if i < 8 then some (rw2 i) else none)))))), (aI cI (rw2 0) 60 (fun _ => 0)), (aI cI (rw2 1) 60 (fun _ => 0)), (aI cI (rw2 2) 60 (fun _ => 0)), (aI cI (rw2 3) 60 (fun _ => 0)), (aI cI (rw2 4) 60 (fun _ => 0)), (aI cI (rw2 5) 60 (fun _ => 0)), (aI cI (rw2 6) 60 (fun _ => 0)), (aI cI (rw2 7) 60 (fun _ => 0)), (aI cI q4 8 (fun _ => 0))] := hD
  refine lv_aload_n hx hb dX9_init_24 rfl (lv_at hl 0 rfl) ?_
  refine lv_bipush (v := 8) hx hb dX9_init_25 (by decide) ?_
  refine va_newa (atype := .int) (ty := .int) (a0 := (8, .inl (fun _ => 0))) hx hb (hts (Cond.arrayClass .int) (wm_t (wm_l (wm_i 4 rfl)))) rfl hK hP hD hS hA (fun _ => rfl) (by decide) (by decide) (by decide) (Nat.le_of_ble_eq_true rfl) (Nat.le_of_ble_eq_true rfl) dX9_init_27 (fun q6 cA7 H => ?_)
  clear hK hP hD hS
  intro hK hP hD hS
  have ecA7 : cI = cA7 := cls_eq hK 0 4 rfl rfl
  subst ecA7
  replace hK : va_K D vwCl (ty4 cI cY cJ cQ) s := hK.sub (tys' := ty4 cI cY cJ cQ) [0, 1, 2, 3] rfl
  replace hP : va_P D vwCl [(h0, .inr (9, [.ref q1, .ref q4, .null])), (q1, .inl (cQ, 8, .inr (.inr (.inr (.inr (fun i => if i < 8 then some (rw2 i) else none)))))), (aI cI (rw2 0) 60 (fun _ => 0)), (aI cI (rw2 1) 60 (fun _ => 0)), (aI cI (rw2 2) 60 (fun _ => 0)), (aI cI (rw2 3) 60 (fun _ => 0)), (aI cI (rw2 4) 60 (fun _ => 0)), (aI cI (rw2 5) 60 (fun _ => 0)), (aI cI (rw2 6) 60 (fun _ => 0)), (aI cI (rw2 7) 60 (fun _ => 0)), (aI cI q4 8 (fun _ => 0)), (aI cI q6 8 (fun _ => 0))] H := hP
  replace hD : va_D A [(h0, .inr (9, [.ref q1, .ref q4, .null])), (q1, .inl (cQ, 8, .inr (.inr (.inr (.inr (fun i => if i < 8 then some (rw2 i) else none)))))), (aI cI (rw2 0) 60 (fun _ => 0)), (aI cI (rw2 1) 60 (fun _ => 0)), (aI cI (rw2 2) 60 (fun _ => 0)), (aI cI (rw2 3) 60 (fun _ => 0)), (aI cI (rw2 4) 60 (fun _ => 0)), (aI cI (rw2 5) 60 (fun _ => 0)), (aI cI (rw2 6) 60 (fun _ => 0)), (aI cI (rw2 7) 60 (fun _ => 0)), (aI cI q4 8 (fun _ => 0)), (aI cI q6 8 (fun _ => 0))] := hD
  refine W.widen (k := 11) (n := 504) (by first | exact Nat.le_of_ble_eq_true rfl | omega) (by first | exact Nat.le_of_ble_eq_true rfl | omega) ?_
  refine va_putF (D := D) (ci := 9) (v := .ref q6) (ty := (.array .int)) (C := RX9) (T := TX9) (N := 3) hx hb hts inX9_init_X9 tyX9 tyX9_ok nmX9 hown hK hP hD hS 0 rfl rfl 2 (by decide) (hts (Cond.fieldLink RX9 20 "PortRooms$Sheets" "size" "[I") (wm_t (wm_l (wm_i 7 rfl)))) (fun _ h9 => h9) rfl hin rfl (tyX9_ok 2 (by decide)) rfl rfl (Nat.le_of_ble_eq_true rfl) dX9_init_29 (fun H locs => ?_)
  clear hP hD hS
  intro hP hD hS
  replace hP : va_P D vwCl [(h0, .inr (9, [.ref q1, .ref q4, .ref q6])), (q1, .inl (cQ, 8, .inr (.inr (.inr (.inr (fun i => if i < 8 then some (rw2 i) else none)))))), (aI cI (rw2 0) 60 (fun _ => 0)), (aI cI (rw2 1) 60 (fun _ => 0)), (aI cI (rw2 2) 60 (fun _ => 0)), (aI cI (rw2 3) 60 (fun _ => 0)), (aI cI (rw2 4) 60 (fun _ => 0)), (aI cI (rw2 5) 60 (fun _ => 0)), (aI cI (rw2 6) 60 (fun _ => 0)), (aI cI (rw2 7) 60 (fun _ => 0)), (aI cI q4 8 (fun _ => 0)), (aI cI q6 8 (fun _ => 0))] H := hP
  replace hD : va_D A [(h0, .inr (9, [.ref q1, .ref q4, .ref q6])), (q1, .inl (cQ, 8, .inr (.inr (.inr (.inr (fun i => if i < 8 then some (rw2 i) else none)))))), (aI cI (rw2 0) 60 (fun _ => 0)), (aI cI (rw2 1) 60 (fun _ => 0)), (aI cI (rw2 2) 60 (fun _ => 0)), (aI cI (rw2 3) 60 (fun _ => 0)), (aI cI (rw2 4) 60 (fun _ => 0)), (aI cI (rw2 5) 60 (fun _ => 0)), (aI cI (rw2 6) 60 (fun _ => 0)), (aI cI (rw2 7) 60 (fun _ => 0)), (aI cI q4 8 (fun _ => 0)), (aI cI q6 8 (fun _ => 0))] := hD
  refine lv_aload_n hx hb dX9_init_32 rfl (lv_at hl 0 rfl) ?_
  refine va_get (D := D) (ci := 9) (v := .ref q6) (C := RX9) (T := TX9) (N := 3) hx hb hts inX9_init_X9 hown hK hP 0 rfl rfl 2 (by decide) (hts (Cond.fieldLink RX9 20 "PortRooms$Sheets" "size" "[I") (wm_t (wm_l (wm_i 7 rfl)))) (fun _ h9 => h9) rfl dX9_init_33 ?_
  refine lv_iconst (v := (-1)) hx hb dX9_init_36 (by decide) ?_
  refine st_v (wr := [(h0, .inr (9, [.ref q1, .ref q4, .ref q6])), (q1, .inl (cQ, 8, .inr (.inr (.inr (.inr (fun i => if i < 8 then some (rw2 i) else none)))))), (aI cI (rw2 0) 60 (fun _ => 0)), (aI cI (rw2 1) 60 (fun _ => 0)), (aI cI (rw2 2) 60 (fun _ => 0)), (aI cI (rw2 3) 60 (fun _ => 0)), (aI cI (rw2 4) 60 (fun _ => 0)), (aI cI (rw2 5) 60 (fun _ => 0)), (aI cI (rw2 6) 60 (fun _ => 0)), (aI cI (rw2 7) 60 (fun _ => 0)), (aI cI q4 8 (fun _ => 0))]) (va_runS (As := [.ref q6, .int (-1)]) (rest := []) ⟨hx, hb, hml, hown, hts⟩ (cFill l D cI cY cJ cQ _ q6 8 (fun _ => 0) ((-1) : Int32) (by decide)) (va_cwS 2 hts gX9_init_J7_fill_53178 rfl rfl rfl cdJ7_fill_53178 ⟨Nat.le_of_ble_eq_true rfl, Nat.le_of_ble_eq_true rfl⟩) (cPreS (hP.sub [11] rfl) hK (hD.sub [11] (by decide +kernel) rfl) hN) rfl rfl hl.1 rfl (lv_room (Nat.le_of_ble_eq_true rfl)) dX9_init_37 ⟨Nat.le_of_ble_eq_true rfl, Nat.le_of_ble_eq_true rfl⟩) hP hD hS hA [11] [0, 1, 2, 3, 4, 5, 6, 7, 8, 9, 10] rfl rfl (by decide +kernel) (by decide +kernel) (fun u8 H locs hw9 => ?_)
  clear hP hD hS
  intro hP hD hS
  replace hP : va_P D vwCl [(h0, .inr (9, [.ref q1, .ref q4, .ref q6])), (q1, .inl (cQ, 8, .inr (.inr (.inr (.inr (fun i => if i < 8 then some (rw2 i) else none)))))), (aI cI (rw2 0) 60 (fun _ => 0)), (aI cI (rw2 1) 60 (fun _ => 0)), (aI cI (rw2 2) 60 (fun _ => 0)), (aI cI (rw2 3) 60 (fun _ => 0)), (aI cI (rw2 4) 60 (fun _ => 0)), (aI cI (rw2 5) 60 (fun _ => 0)), (aI cI (rw2 6) 60 (fun _ => 0)), (aI cI (rw2 7) 60 (fun _ => 0)), (aI cI q4 8 (fun _ => 0)), (aI cI q6 8 (fun _ => (-1)))] H := hP
  replace hD : va_D A [(h0, .inr (9, [.ref q1, .ref q4, .ref q6])), (q1, .inl (cQ, 8, .inr (.inr (.inr (.inr (fun i => if i < 8 then some (rw2 i) else none)))))), (aI cI (rw2 0) 60 (fun _ => 0)), (aI cI (rw2 1) 60 (fun _ => 0)), (aI cI (rw2 2) 60 (fun _ => 0)), (aI cI (rw2 3) 60 (fun _ => 0)), (aI cI (rw2 4) 60 (fun _ => 0)), (aI cI (rw2 5) 60 (fun _ => 0)), (aI cI (rw2 6) 60 (fun _ => 0)), (aI cI (rw2 7) 60 (fun _ => 0)), (aI cI q4 8 (fun _ => 0)), (aI cI q6 8 (fun _ => (-1)))] := hD
  have hP9 := hP.sub (ws' := [(h0, .inr (9, [.ref q1, .ref q4, .ref q6])), (q1, .inl (cQ, 8, .inr (.inr (.inr (.inr (fun i => if i < 8 then some (rw2 i) else none)))))), (aI cI (rw2 0) 60 (fun _ => 0)), (aI cI (rw2 1) 60 (fun _ => 0)), (aI cI (rw2 2) 60 (fun _ => 0)), (aI cI (rw2 3) 60 (fun _ => 0)), (aI cI (rw2 4) 60 (fun _ => 0)), (aI cI (rw2 5) 60 (fun _ => 0)), (aI cI (rw2 6) 60 (fun _ => 0)), (aI cI (rw2 7) 60 (fun _ => 0)), (aI cI q4 8 (fun _ => 0)), (aI cI q6 8 (fun _ => (-1)))]) [0, 1, 2, 3, 4, 5, 6, 7, 8, 9, 10, 11] rfl
  have hD9 := hD.sub (ws' := [(h0, .inr (9, [.ref q1, .ref q4, .ref q6])), (q1, .inl (cQ, 8, .inr (.inr (.inr (.inr (fun i => if i < 8 then some (rw2 i) else none)))))), (aI cI (rw2 0) 60 (fun _ => 0)), (aI cI (rw2 1) 60 (fun _ => 0)), (aI cI (rw2 2) 60 (fun _ => 0)), (aI cI (rw2 3) 60 (fun _ => 0)), (aI cI (rw2 4) 60 (fun _ => 0)), (aI cI (rw2 5) 60 (fun _ => 0)), (aI cI (rw2 6) 60 (fun _ => 0)), (aI cI (rw2 7) 60 (fun _ => 0)), (aI cI q4 8 (fun _ => 0)), (aI cI q6 8 (fun _ => (-1)))]) [0, 1, 2, 3, 4, 5, 6, 7, 8, 9, 10, 11] (by decide +kernel) rfl
  exact W.vret hx hb hr (fun t ht hW => ⟨⟨((fun k => ([q1, q4, q6] : List Nat).getD k 0), rw2), rfl, trivial, by rw [ht]; exact hP9, va_K.moved hW.alike hK, hD9⟩, hS.F ht⟩) hS.2.2 dX9_init_40
end
