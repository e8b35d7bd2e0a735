def lw_ch : List (List Cond) := [k2_sels lw_privs, tables_1_1, tables_1_2, tables_1_3, tables_1_4, tables_1_5, tables_1_6, tables_1_7]
theorem lw_flat : lw_tbl = lw_ch.flatten := by simp only [lw_tbl, tables_1, lw_ch, List.flatten_cons, List.flatten_nil, List.append_nil]
theorem lw_mem (ws : List Cond) (rs : List (Nat × Nat × Nat)) (h : ws = rs.flatMap (fun q => ((lw_ch[q.1]?.getD []).drop q.2.1).take q.2.2)) : ∀ w ∈ ws, w ∈ lw_tbl := by
  intro w hw
  rw [h] at hw
  obtain ⟨q, -, hq⟩ := List.mem_flatMap.mp hw
  have hm := List.mem_of_mem_drop (List.mem_of_mem_take hq)
  rw [lw_flat]
  cases hc : lw_ch[q.1]? with
  | none => rw [hc] at hm; exact absurd hm (by simp)
  | some c => rw [hc] at hm; exact List.mem_flatten.mpr ⟨c, List.mem_of_getElem? hc, hm⟩
def inT (ws : List Cond) : Prop := ∀ w ∈ ws, w ∈ lw_tbl
theorem it_cons {c : Cond} {ws : List Cond} (h : inT [c]) (g : inT ws) : inT (c :: ws) := fun w h1 => (List.mem_cons.mp h1).elim (fun e => by rw [e]; exact h c List.mem_cons_self) (g w)
theorem it_app {a b : List Cond} (ga : inT a) (gb : inT b) : inT (a ++ b) := fun w h1 => (List.mem_append.mp h1).elim (ga w) (gb w)
set_option maxRecDepth 20000 in
theorem it_X40 : inT wsX40 := lw_mem _ [(2, 57, 1), (2, 59, 1), (2, 61, 1), (2, 63, 1)] rfl
set_option maxRecDepth 20000 in
theorem it_X50 : inT wsX50 := lw_mem _ [(2, 74, 1), (2, 76, 1)] rfl
set_option maxRecDepth 20000 in
theorem it_X30 : inT wsX30 := lw_mem _ [(1, 71, 1), (1, 73, 1), (1, 75, 1), (1, 77, 1), (1, 79, 1), (1, 81, 1), (1, 83, 1), (1, 85, 1), (1, 87, 1)] rfl
set_option maxRecDepth 20000 in
theorem it_X80 : inT wsX80 := lw_mem _ [(1, 167, 1), (1, 169, 1), (1, 171, 1), (1, 173, 1), (1, 175, 1), (1, 177, 1)] rfl
set_option maxRecDepth 20000 in
theorem it_X00 : inT wsX00 := lw_mem _ [(2, 12, 1), (2, 14, 1), (2, 16, 1), (2, 18, 1), (2, 20, 1)] rfl
set_option maxRecDepth 20000 in
theorem it_X20 : inT wsX20 := lw_mem _ [(1, 205, 1), (1, 207, 1), (1, 209, 1), (1, 211, 1), (1, 213, 1), (1, 215, 1), (1, 217, 1), (1, 219, 1), (1, 221, 1), (1, 223, 1), (1, 225, 1), (1, 227, 1), (1, 229, 1), (1, 231, 1), (1, 233, 1)] rfl
set_option maxRecDepth 20000 in
theorem it_X70 : inT wsX70 := lw_mem _ [(1, 138, 1), (1, 140, 1), (1, 142, 1), (1, 144, 1), (1, 146, 1), (1, 148, 1), (1, 150, 1)] rfl
set_option maxRecDepth 20000 in
theorem it_X60 : inT wsX60 := lw_mem _ [(2, 35, 1), (2, 37, 1), (2, 39, 1), (2, 41, 1), (2, 43, 1)] rfl
set_option maxRecDepth 20000 in
theorem it_X90 : inT wsX90 := lw_mem _ [(1, 46, 1), (1, 48, 1), (1, 50, 1)] rfl
set_option maxRecDepth 20000 in
theorem it_X10 : inT wsX10 := lw_mem _ [(1, 111, 1), (1, 113, 1), (1, 115, 1), (1, 117, 1), (1, 119, 1), (1, 121, 1)] rfl
set_option maxRecDepth 20000 in
theorem it_X0_init : inT wsX0_init := it_cons (lw_mem [Cond.code yX0_init cX0_init 1 none] [(2, 1, 1)] rfl) (it_app (lw_mem wsX0_init_o1 [(2, 2, 1), (1, 27, 2), (1, 53, 1), (2, 3, 2), (2, 6, 1), (2, 8, 1)] rfl) it_X00)
set_option maxRecDepth 20000 in
theorem it_X0_tell : inT wsX0_tell := it_cons (lw_mem [Cond.code yX0_tell cX0_tell 5 (some .int)] [(3, 210, 1)] rfl) (it_app (lw_mem wsX0_tell_o1 [(2, 3, 1), (2, 10, 1), (2, 4, 1), (2, 6, 1), (2, 8, 1)] rfl) it_X00)
set_option maxRecDepth 20000 in
theorem it_X2_lineFor : inT wsX2_lineFor := it_cons (lw_mem [Cond.code yX2_lineFor cX2_lineFor 4 (some .int)] [(3, 222, 1)] rfl) (it_app (lw_mem wsX2_lineFor_o1 [(1, 195, 1), (1, 191, 2)] rfl) it_X20)
set_option maxRecDepth 20000 in
theorem it_X0_firstWaking : inT wsX0_firstWaking := it_cons (lw_mem [Cond.code yX0_firstWaking cX0_firstWaking 6 (some .int)] [(3, 218, 1)] rfl) (it_app (lw_mem wsX0_firstWaking_o1 [(2, 10, 1), (2, 6, 1), (2, 3, 2), (2, 8, 1), (3, 219, 3), (1, 8, 1)] rfl) (it_app (it_app it_X00 it_X20) it_X2_lineFor))
set_option maxRecDepth 20000 in
theorem it_J7_fill_53178 : inT wsJ7_fill_53178 := it_cons (lw_mem [Cond.code yJ7_fill_53178 cJ7_fill_53178 4 none] [(1, 39, 1)] rfl) (lw_mem [] [] rfl)
set_option maxRecDepth 20000 in
theorem it_X1_init : inT wsX1_init := it_cons (lw_mem [Cond.code yX1_init cX1_init 1 none] [(1, 94, 1)] rfl) (it_app (lw_mem wsX1_init_o1 [(1, 95, 1), (1, 27, 2), (1, 53, 1), (1, 99, 1), (1, 101, 1), (1, 103, 1), (1, 107, 1), (1, 109, 1), (1, 96, 1), (1, 98, 1), (1, 97, 1), (1, 38, 1), (1, 3, 1)] rfl) (it_app it_X10 it_J7_fill_53178))
set_option maxRecDepth 20000 in
theorem it_X1_tell : inT wsX1_tell := it_cons (lw_mem [Cond.code yX1_tell cX1_tell 3 (some .int)] [(3, 31, 1)] rfl) (it_app (lw_mem wsX1_tell_o1 [(1, 99, 1), (1, 105, 1), (1, 101, 1)] rfl) it_X10)
set_option maxRecDepth 20000 in
theorem it_X1_setIn : inT wsX1_setIn := it_cons (lw_mem [Cond.code yX1_setIn cX1_setIn 4 (some .int)] [(4, 1, 1)] rfl) (it_app (lw_mem wsX1_setIn_o1 [(1, 105, 1), (1, 103, 1)] rfl) it_X10)
set_option maxRecDepth 20000 in
theorem it_X1_setInRooms : inT wsX1_setInRooms := it_cons (lw_mem [Cond.code yX1_setInRooms cX1_setInRooms 2 (some .int)] [(4, 40, 1)] rfl) (it_app (lw_mem wsX1_setInRooms_o1 [(1, 105, 1), (1, 96, 1), (3, 238, 2), (4, 0, 1), (1, 5, 1)] rfl) (it_app it_X10 it_X1_setIn))
set_option maxRecDepth 20000 in
theorem it_X10_hasBit : inT wsX10_hasBit := it_cons (lw_mem [Cond.code yX10_hasBit cX10_hasBit 2 (some .boolean)] [(2, 227, 1)] rfl) (lw_mem [] [] rfl)
set_option maxRecDepth 20000 in
theorem it_X1_worthsOf : inT wsX1_worthsOf := it_cons (lw_mem [Cond.code yX1_worthsOf cX1_worthsOf 4 (some .int)] [(4, 11, 1)] rfl) (it_app (lw_mem wsX1_worthsOf_o1 [(1, 105, 1), (1, 101, 1), (2, 226, 1), (1, 1, 1)] rfl) (it_app it_X10 it_X10_hasBit))
set_option maxRecDepth 20000 in
theorem it_J6_bitCount_0f7a4 : inT wsJ6_bitCount_0f7a4 := it_cons (lw_mem [Cond.code yJ6_bitCount_0f7a4 cJ6_bitCount_0f7a4 1 (some .int)] [(4, 4, 1)] rfl) (lw_mem wsJ6_bitCount_0f7a4_o1 [(4, 5, 3)] rfl)
set_option maxRecDepth 20000 in
theorem it_X1_fits : inT wsX1_fits := it_cons (lw_mem [Cond.code yX1_fits cX1_fits 4 (some .boolean)] [(3, 237, 1)] rfl) (it_app (lw_mem wsX1_fits_o1 [(1, 107, 1), (1, 101, 1), (1, 109, 1), (3, 238, 2), (4, 0, 1), (1, 5, 1), (4, 2, 2), (1, 20, 1), (4, 8, 3)] rfl) (it_app (it_app it_X10 it_X1_setIn) (it_app it_J6_bitCount_0f7a4 it_X1_worthsOf)))
set_option maxRecDepth 20000 in
theorem it_X2_init : inT wsX2_init := it_cons (lw_mem [Cond.code yX2_init cX2_init 1 none] [(1, 184, 1)] rfl) (it_app (lw_mem wsX2_init_o1 [(1, 185, 1), (1, 27, 2), (1, 236, 1), (1, 186, 1), (1, 53, 1), (1, 191, 3), (1, 197, 3)] rfl) it_X20)
set_option maxRecDepth 20000 in
theorem it_X2_take : inT wsX2_take := it_cons (lw_mem [Cond.code yX2_take cX2_take 2 none] [(3, 113, 1)] rfl) (it_app (lw_mem wsX2_take_o1 [(1, 187, 1), (1, 186, 1)] rfl) it_X20)
set_option maxRecDepth 20000 in
theorem it_X2_isLetter : inT wsX2_isLetter := it_cons (lw_mem [Cond.code yX2_isLetter cX2_isLetter 1 (some .boolean)] [(3, 128, 1)] rfl) (lw_mem [] [] rfl)
set_option maxRecDepth 20000 in
theorem it_J0_isLatin1_aae02 : inT wsJ0_isLatin1_aae02 := it_cons (lw_mem [Cond.code yJ0_isLatin1_aae02 cJ0_isLatin1_aae02 1 (some .boolean)] [(3, 145, 1)] rfl) (lw_mem wsJ0_isLatin1_aae02_o1 [(3, 146, 1), (7, 9, 1)] rfl)
set_option maxRecDepth 20000 in
theorem it_J3_checkIndex_8e157 : inT wsJ3_checkIndex_8e157 := it_cons (lw_mem [Cond.code yJ3_checkIndex_8e157 cJ3_checkIndex_8e157 3 (some .int)] [(3, 158, 1)] rfl) (lw_mem [] [] rfl)
set_option maxRecDepth 20000 in
theorem it_J0_checkIndex_df160 : inT wsJ0_checkIndex_df160 := it_cons (lw_mem [Cond.code yJ0_checkIndex_df160 cJ0_checkIndex_df160 2 none] [(3, 153, 1)] rfl) (it_app (lw_mem wsJ0_checkIndex_df160_o1 [(3, 154, 1), (3, 156, 2), (1, 18, 1)] rfl) it_J3_checkIndex_8e157)
set_option maxRecDepth 20000 in
theorem it_J1_charAt_3b067 : inT wsJ1_charAt_3b067 := it_cons (lw_mem [Cond.code yJ1_charAt_3b067 cJ1_charAt_3b067 2 (some .char)] [(3, 150, 1)] rfl) (it_app (lw_mem wsJ1_charAt_3b067_o1 [(3, 151, 2), (1, 16, 1)] rfl) it_J0_checkIndex_df160)
set_option maxRecDepth 20000 in
theorem it_J2_length_9d52b : inT wsJ2_length_9d52b := it_cons (lw_mem [Cond.code yJ2_length_9d52b cJ2_length_9d52b 1 (some .int)] [(3, 167, 1)] rfl) (lw_mem [] [] rfl)
set_option maxRecDepth 20000 in
theorem it_J2_checkIndex_2214a : inT wsJ2_checkIndex_2214a := it_cons (lw_mem [Cond.code yJ2_checkIndex_2214a cJ2_checkIndex_2214a 2 none] [(3, 164, 1)] rfl) (it_app (lw_mem wsJ2_checkIndex_2214a_o1 [(3, 165, 2), (1, 19, 1), (3, 168, 1), (3, 152, 1), (1, 16, 1)] rfl) (it_app it_J2_length_9d52b it_J0_checkIndex_df160))
set_option maxRecDepth 20000 in
theorem it_J2_getChar_3b067 : inT wsJ2_getChar_3b067 := it_cons (lw_mem [Cond.code yJ2_getChar_3b067 cJ2_getChar_3b067 2 (some .char)] [(3, 171, 1)] rfl) (it_app (lw_mem wsJ2_getChar_3b067_o1 [(3, 172, 1), (3, 174, 1), (3, 176, 1), (3, 165, 2), (1, 19, 1)] rfl) it_J2_length_9d52b)
set_option maxRecDepth 20000 in
theorem it_J2_charAt_3b067 : inT wsJ2_charAt_3b067 := it_cons (lw_mem [Cond.code yJ2_charAt_3b067 cJ2_charAt_3b067 2 (some .char)] [(3, 161, 1)] rfl) (it_app (lw_mem wsJ2_charAt_3b067_o1 [(3, 162, 2), (1, 19, 1), (3, 169, 2)] rfl) (it_app it_J2_checkIndex_2214a it_J2_getChar_3b067))
set_option maxRecDepth 20000 in
theorem it_J0_charAt_5068e : inT wsJ0_charAt_5068e := it_cons (lw_mem [Cond.code yJ0_charAt_5068e cJ0_charAt_5068e 2 (some .char)] [(3, 141, 1)] rfl) (it_app (lw_mem wsJ0_charAt_5068e_o1 [(7, 10, 1), (3, 142, 3), (1, 16, 1), (3, 148, 2), (1, 17, 1), (3, 159, 2), (1, 19, 1)] rfl) (it_app (it_app it_J0_isLatin1_aae02 it_J1_charAt_3b067) it_J2_charAt_3b067))
set_option maxRecDepth 20000 in
theorem it_X2_isWord : inT wsX2_isWord := it_cons (lw_mem [Cond.code yX2_isWord cX2_isWord 4 (some .boolean)] [(3, 136, 1)] rfl) (it_app (lw_mem wsX2_isWord_o1 [(1, 201, 2), (1, 186, 1), (3, 138, 3), (1, 16, 1)] rfl) (it_app it_X20 it_J0_charAt_5068e))
set_option maxRecDepth 20000 in
theorem it_X2_readName : inT wsX2_readName := it_cons (lw_mem [Cond.code yX2_readName cX2_readName 2 none] [(3, 132, 1)] rfl) (it_app (lw_mem wsX2_readName_o1 [(1, 202, 1), (1, 187, 1), (1, 186, 1), (1, 203, 1), (1, 201, 1), (3, 126, 2), (1, 8, 1), (3, 133, 1), (3, 135, 1), (0, 13, 1)] rfl) (it_app (it_app it_X20 it_X2_isLetter) it_X2_isWord))
set_option maxRecDepth 20000 in
theorem it_X2_isFigure : inT wsX2_isFigure := it_cons (lw_mem [Cond.code yX2_isFigure cX2_isFigure 1 (some .boolean)] [(3, 180, 1)] rfl) (lw_mem [] [] rfl)
set_option maxRecDepth 20000 in
theorem it_X2_readNumber : inT wsX2_readNumber := it_cons (lw_mem [Cond.code yX2_readNumber cX2_readNumber 1 none] [(3, 184, 1)] rfl) (it_app (lw_mem wsX2_readNumber_o1 [(1, 204, 1), (1, 202, 1), (1, 187, 1), (1, 186, 1), (1, 201, 1), (1, 203, 1), (3, 178, 2), (1, 8, 1)] rfl) (it_app it_X20 it_X2_isFigure))
set_option maxRecDepth 20000 in
theorem it_X2_next : inT wsX2_next := it_cons (lw_mem [Cond.code yX2_next cX2_next 1 none] [(3, 125, 1)] rfl) (it_app (lw_mem wsX2_next_o1 [(1, 202, 1), (1, 201, 1), (1, 187, 1), (1, 186, 1), (1, 203, 1), (3, 126, 2), (1, 8, 1), (3, 129, 1), (3, 131, 1), (0, 12, 1), (3, 178, 2), (3, 181, 1), (3, 183, 1), (0, 14, 1)] rfl) (it_app (it_app (it_app it_X20 it_X2_isLetter) it_X2_readName) (it_app it_X2_isFigure it_X2_readNumber)))
set_option maxRecDepth 20000 in
theorem it_X2_readAct : inT wsX2_readAct := it_cons (lw_mem [Cond.code yX2_readAct cX2_readAct 1 (some .int)] [(3, 188, 1)] rfl) (it_app (lw_mem wsX2_readAct_o1 [(1, 203, 1), (1, 200, 1), (1, 197, 2), (1, 204, 1), (3, 122, 1), (3, 124, 1), (0, 11, 1), (1, 8, 1), (1, 187, 1)] rfl) (it_app it_X20 it_X2_next))
set_option maxRecDepth 20000 in
theorem it_X2_readPart : inT wsX2_readPart := it_cons (lw_mem [Cond.code yX2_readPart cX2_readPart 1 (some .int)] [(3, 192, 1)] rfl) (it_app (lw_mem wsX2_readPart_o1 [(1, 203, 2), (1, 199, 2), (3, 122, 1), (3, 124, 1), (0, 11, 1), (1, 8, 1)] rfl) (it_app it_X20 it_X2_next))
set_option maxRecDepth 20000 in
theorem it_X2_keepDraft : inT wsX2_keepDraft := it_cons (lw_mem [Cond.code yX2_keepDraft cX2_keepDraft 1 none] [(3, 197, 1)] rfl) (it_app (lw_mem wsX2_keepDraft_o1 [(1, 197, 1), (1, 191, 1), (1, 200, 1), (3, 198, 1), (2, 166, 1), (2, 165, 1), (1, 14, 1), (1, 198, 1), (1, 192, 1), (1, 199, 1), (1, 193, 1), (1, 195, 1)] rfl) it_X20)
set_option maxRecDepth 20000 in
theorem it_X2_read : inT wsX2_read := it_cons (lw_mem [Cond.code yX2_read cX2_read 3 (some .int)] [(3, 121, 1)] rfl) (it_app (lw_mem wsX2_read_o1 [(1, 202, 1), (1, 200, 1), (1, 203, 1), (1, 187, 1), (1, 189, 1), (3, 193, 1), (1, 201, 1), (1, 195, 1), (3, 122, 1), (3, 124, 1), (1, 8, 1), (3, 185, 1), (3, 187, 1), (0, 15, 1), (3, 189, 1), (3, 191, 1), (0, 16, 1), (3, 194, 1), (3, 196, 1), (0, 17, 1)] rfl) (it_app (it_app (it_app it_X20 it_X2_next) it_X2_readAct) (it_app it_X2_readPart it_X2_keepDraft)))
set_option maxRecDepth 20000 in
theorem it_X3_init : inT wsX3_init := it_cons (lw_mem [Cond.code yX3_init cX3_init 1 none] [(1, 58, 1)] rfl) (it_app (lw_mem wsX3_init_o1 [(1, 59, 1), (1, 27, 2), (1, 53, 1), (1, 60, 4), (1, 66, 4)] rfl) it_X30)
set_option maxRecDepth 20000 in
theorem it_X3_tell : inT wsX3_tell := it_cons (lw_mem [Cond.code yX3_tell cX3_tell 5 (some .int)] [(2, 198, 1)] rfl) (it_app (lw_mem wsX3_tell_o1 [(1, 60, 1), (1, 64, 1), (1, 61, 3)] rfl) it_X30)
set_option maxRecDepth 20000 in
theorem it_X3_place : inT wsX3_place := it_cons (lw_mem [Cond.code yX3_place cX3_place 2 (some .int)] [(2, 215, 1)] rfl) (lw_mem [] [] rfl)
set_option maxRecDepth 20000 in
theorem it_X3_gatherWhoHas : inT wsX3_gatherWhoHas := it_cons (lw_mem [Cond.code yX3_gatherWhoHas cX3_gatherWhoHas 2 none] [(2, 219, 1)] rfl) (it_app (lw_mem wsX3_gatherWhoHas_o1 [(1, 68, 1), (1, 64, 1), (1, 66, 1), (1, 60, 2), (2, 212, 1), (1, 38, 1), (1, 3, 1), (2, 213, 2), (1, 4, 1)] rfl) (it_app (it_app it_X30 it_J7_fill_53178) it_X3_place))
set_option maxRecDepth 20000 in
theorem it_X3_closeReach : inT wsX3_closeReach := it_cons (lw_mem [Cond.code yX3_closeReach cX3_closeReach 3 none] [(2, 223, 1)] rfl) (it_app (lw_mem wsX3_closeReach_o1 [(1, 68, 2), (2, 224, 1), (2, 166, 1), (2, 165, 1), (1, 14, 1), (2, 226, 1), (1, 1, 1)] rfl) (it_app it_X30 it_X10_hasBit))
set_option maxRecDepth 20000 in
theorem it_X3_lookAt : inT wsX3_lookAt := it_cons (lw_mem [Cond.code yX3_lookAt cX3_lookAt 4 none] [(2, 211, 1)] rfl) (it_app (lw_mem wsX3_lookAt_o1 [(1, 66, 2), (1, 64, 1), (1, 60, 2), (1, 63, 1), (1, 62, 1), (2, 212, 1), (1, 38, 1), (1, 3, 1), (2, 213, 2), (1, 4, 1), (2, 216, 1), (2, 218, 1), (0, 2, 1), (2, 220, 1), (2, 222, 1), (0, 3, 1)] rfl) (it_app (it_app (it_app it_X30 it_J7_fill_53178) it_X3_place) (it_app it_X3_gatherWhoHas it_X3_closeReach)))
set_option maxRecDepth 20000 in
theorem it_X3_partOf : inT wsX3_partOf := it_cons (lw_mem [Cond.code yX3_partOf cX3_partOf 3 (some .int)] [(2, 231, 1)] rfl) (it_app (lw_mem wsX3_partOf_o1 [(1, 66, 1), (2, 213, 2), (1, 4, 1)] rfl) (it_app it_X30 it_X3_place))
set_option maxRecDepth 20000 in
theorem it_X3_leadingTo : inT wsX3_leadingTo := it_cons (lw_mem [Cond.code yX3_leadingTo cX3_leadingTo 4 (some .int)] [(3, 4, 1)] rfl) (it_app (lw_mem wsX3_leadingTo_o1 [(1, 69, 1), (2, 226, 1), (1, 1, 1)] rfl) (it_app it_X30 it_X10_hasBit))
set_option maxRecDepth 20000 in
theorem it_X3_along : inT wsX3_along := it_cons (lw_mem [Cond.code yX3_along cX3_along 11 (some .long)] [(3, 7, 1)] rfl) (it_app (lw_mem wsX3_along_o1 [(1, 68, 1), (2, 226, 1), (1, 1, 1), (3, 8, 1), (2, 229, 2), (1, 4, 1), (3, 5, 2)] rfl) (it_app (it_app it_X30 it_X10_hasBit) it_X3_partOf))
set_option maxRecDepth 20000 in
theorem it_X3_shareOf : inT wsX3_shareOf := it_cons (lw_mem [Cond.code yX3_shareOf cX3_shareOf 6 (some .int)] [(2, 239, 1)] rfl) (it_app (lw_mem wsX3_shareOf_o1 [(3, 0, 1), (3, 9, 3), (1, 15, 1), (3, 12, 1), (3, 1, 1), (3, 3, 1), (0, 4, 1), (1, 4, 1), (3, 5, 2)] rfl) (it_app (it_app it_X30 it_X3_leadingTo) it_X3_along))
set_option maxRecDepth 20000 in
theorem it_X4_init : inT wsX4_init := it_cons (lw_mem [Cond.code yX4_init cX4_init 1 none] [(2, 50, 1)] rfl) (it_app (lw_mem wsX4_init_o1 [(2, 51, 1), (1, 27, 2), (1, 53, 1), (2, 52, 3)] rfl) it_X40)
set_option maxRecDepth 20000 in
theorem it_X4_tell : inT wsX4_tell := it_cons (lw_mem [Cond.code yX4_tell cX4_tell 4 (some .int)] [(4, 93, 1)] rfl) (it_app (lw_mem wsX4_tell_o1 [(2, 52, 1), (2, 55, 1), (2, 53, 2)] rfl) it_X40)
set_option maxRecDepth 20000 in
theorem it_X4_peopleOn : inT wsX4_peopleOn := it_cons (lw_mem [Cond.code yX4_peopleOn cX4_peopleOn 4 (some .int)] [(4, 105, 1)] rfl) (it_app (lw_mem wsX4_peopleOn_o1 [(2, 55, 1), (2, 53, 2), (2, 52, 1)] rfl) it_X40)
set_option maxRecDepth 20000 in
theorem it_X5_init : inT wsX5_init := it_cons (lw_mem [Cond.code yX5_init cX5_init 2 none] [(2, 70, 1)] rfl) (it_app (lw_mem wsX5_init_o1 [(2, 71, 1), (1, 27, 2), (2, 79, 1), (2, 73, 1), (2, 72, 1)] rfl) it_X50)
set_option maxRecDepth 20000 in
theorem it_X5_lotOf : inT wsX5_lotOf := it_cons (lw_mem [Cond.code yX5_lotOf cX5_lotOf 5 (some .long)] [(4, 27, 1)] rfl) (it_app (lw_mem wsX5_lotOf_o1 [(2, 72, 1), (4, 28, 5)] rfl) it_X50)
set_option maxRecDepth 20000 in
theorem it_X5_drawLots : inT wsX5_drawLots := it_cons (lw_mem [Cond.code yX5_drawLots cX5_drawLots 4 none] [(4, 44, 1)] rfl) (it_app (lw_mem wsX5_drawLots_o1 [(2, 73, 1), (2, 226, 1), (1, 1, 1), (4, 46, 1), (4, 25, 2), (1, 12, 1), (2, 72, 1)] rfl) (it_app (it_app it_X50 it_X10_hasBit) it_X5_lotOf))
set_option maxRecDepth 20000 in
theorem it_X5_howManyAhead : inT wsX5_howManyAhead := it_cons (lw_mem [Cond.code yX5_howManyAhead cX5_howManyAhead 5 (some .int)] [(4, 50, 1)] rfl) (it_app (lw_mem wsX5_howManyAhead_o1 [(2, 73, 1), (2, 226, 1), (1, 1, 1)] rfl) (it_app it_X50 it_X10_hasBit))
set_option maxRecDepth 20000 in
theorem it_X6_init : inT wsX6_init := it_cons (lw_mem [Cond.code yX6_init cX6_init 1 none] [(2, 27, 1)] rfl) (it_app (lw_mem wsX6_init_o1 [(2, 28, 1), (1, 27, 2), (1, 53, 1), (2, 29, 4)] rfl) it_X60)
set_option maxRecDepth 20000 in
theorem it_X6_tell : inT wsX6_tell := it_cons (lw_mem [Cond.code yX6_tell cX6_tell 5 (some .int)] [(4, 62, 1)] rfl) (it_app (lw_mem wsX6_tell_o1 [(2, 29, 1), (2, 33, 1), (2, 30, 3)] rfl) it_X60)
set_option maxRecDepth 20000 in
theorem it_X6_firstOf : inT wsX6_firstOf := it_cons (lw_mem [Cond.code yX6_firstOf cX6_firstOf 4 (some .int)] [(4, 74, 1)] rfl) (it_app (lw_mem wsX6_firstOf_o1 [(2, 33, 1), (2, 29, 2)] rfl) it_X60)
set_option maxRecDepth 20000 in
theorem it_X6_compared : inT wsX6_compared := it_cons (lw_mem [Cond.code yX6_compared cX6_compared 5 (some .int)] [(4, 78, 1)] rfl) (it_app (lw_mem wsX6_compared_o1 [(2, 31, 1), (4, 79, 2), (1, 15, 1), (4, 81, 1), (2, 32, 1), (4, 82, 1), (4, 3, 1), (1, 20, 1)] rfl) (it_app it_X60 it_J6_bitCount_0f7a4))
set_option maxRecDepth 20000 in
theorem it_X6_worstOf : inT wsX6_worstOf := it_cons (lw_mem [Cond.code yX6_worstOf cX6_worstOf 5 (some .int)] [(4, 70, 1)] rfl) (it_app (lw_mem wsX6_worstOf_o1 [(2, 33, 1), (2, 29, 1), (4, 83, 3), (4, 71, 1), (4, 73, 1), (0, 18, 1), (1, 10, 1), (2, 30, 1), (4, 75, 1), (4, 77, 1), (0, 19, 1)] rfl) (it_app (it_app it_X60 it_X6_firstOf) it_X6_compared))
set_option maxRecDepth 20000 in
theorem it_X7_init : inT wsX7_init := it_cons (lw_mem [Cond.code yX7_init cX7_init 1 none] [(1, 128, 1)] rfl) (it_app (lw_mem wsX7_init_o1 [(1, 129, 1), (1, 27, 2), (1, 53, 1), (1, 130, 6)] rfl) it_X70)
set_option maxRecDepth 20000 in
theorem it_X7_isAhead : inT wsX7_isAhead := it_cons (lw_mem [Cond.code yX7_isAhead cX7_isAhead 3 (some .boolean)] [(3, 50, 1)] rfl) (it_app (lw_mem wsX7_isAhead_o1 [(1, 133, 2)] rfl) it_X70)
set_option maxRecDepth 20000 in
theorem it_X7_tell : inT wsX7_tell := it_cons (lw_mem [Cond.code yX7_tell cX7_tell 7 (some .int)] [(3, 46, 1)] rfl) (it_app (lw_mem wsX7_tell_o1 [(1, 130, 1), (1, 136, 1), (1, 131, 5), (3, 47, 1), (3, 49, 1), (0, 6, 1), (1, 6, 1)] rfl) (it_app it_X70 it_X7_isAhead))
set_option maxRecDepth 20000 in
theorem it_X7_isKnown : inT wsX7_isKnown := it_cons (lw_mem [Cond.code yX7_isKnown cX7_isKnown 4 (some .boolean)] [(3, 62, 1)] rfl) (it_app (lw_mem wsX7_isKnown_o1 [(1, 130, 1), (1, 134, 1)] rfl) it_X70)
set_option maxRecDepth 20000 in
theorem it_X7_ownerOf : inT wsX7_ownerOf := it_cons (lw_mem [Cond.code yX7_ownerOf cX7_ownerOf 8 (some .int)] [(3, 58, 1)] rfl) (it_app (lw_mem wsX7_ownerOf_o1 [(1, 136, 1), (1, 135, 1), (1, 133, 1), (1, 131, 2), (3, 59, 1), (3, 61, 1), (0, 7, 1), (1, 6, 1), (1, 134, 1)] rfl) (it_app it_X70 it_X7_isKnown))
set_option maxRecDepth 20000 in
theorem it_X7_notGood : inT wsX7_notGood := it_cons (lw_mem [Cond.code yX7_notGood cX7_notGood 8 (some .int)] [(3, 70, 1)] rfl) (it_app (lw_mem wsX7_notGood_o1 [(1, 136, 1), (1, 135, 1), (1, 131, 2), (3, 59, 1), (3, 61, 1), (0, 7, 1), (1, 6, 1)] rfl) (it_app it_X70 it_X7_isKnown))
set_option maxRecDepth 20000 in
theorem it_X8_init : inT wsX8_init := it_cons (lw_mem [Cond.code yX8_init cX8_init 1 none] [(1, 157, 1)] rfl) (it_app (lw_mem wsX8_init_o1 [(1, 158, 1), (1, 27, 2), (1, 53, 1), (1, 159, 4), (1, 165, 1)] rfl) it_X80)
set_option maxRecDepth 20000 in
theorem it_X8_tell : inT wsX8_tell := it_cons (lw_mem [Cond.code yX8_tell cX8_tell 5 (some .int)] [(3, 78, 1)] rfl) (it_app (lw_mem wsX8_tell_o1 [(1, 159, 1), (1, 163, 1), (1, 160, 3)] rfl) it_X80)
set_option maxRecDepth 20000 in
theorem it_X8_isKnown : inT wsX8_isKnown := it_cons (lw_mem [Cond.code yX8_isKnown cX8_isKnown 4 (some .boolean)] [(3, 90, 1)] rfl) (it_app (lw_mem wsX8_isKnown_o1 [(1, 159, 1), (1, 162, 1)] rfl) it_X80)
set_option maxRecDepth 20000 in
theorem it_X8_sumsOn : inT wsX8_sumsOn := it_cons (lw_mem [Cond.code yX8_sumsOn cX8_sumsOn 5 (some .int)] [(4, 122, 1)] rfl) (it_app (lw_mem wsX8_sumsOn_o1 [(1, 163, 1), (1, 160, 1), (3, 87, 1), (3, 89, 1), (0, 8, 1), (1, 7, 1)] rfl) (it_app it_X80 it_X8_isKnown))
set_option maxRecDepth 20000 in
theorem it_X8_isAhead : inT wsX8_isAhead := it_cons (lw_mem [Cond.code yX8_isAhead cX8_isAhead 4 (some .boolean)] [(3, 98, 1)] rfl) (it_app (lw_mem wsX8_isAhead_o1 [(1, 162, 1), (1, 161, 1), (1, 160, 1)] rfl) it_X80)
set_option maxRecDepth 20000 in
theorem it_X8_putBehind : inT wsX8_putBehind := it_cons (lw_mem [Cond.code yX8_putBehind cX8_putBehind 5 none] [(3, 94, 1)] rfl) (it_app (lw_mem wsX8_putBehind_o1 [(1, 165, 1), (3, 95, 1), (3, 97, 1), (0, 10, 1), (1, 7, 1)] rfl) (it_app it_X80 it_X8_isAhead))
set_option maxRecDepth 20000 in
theorem it_X8_putInOrder : inT wsX8_putInOrder := it_cons (lw_mem [Cond.code yX8_putInOrder cX8_putInOrder 6 (some .int)] [(3, 86, 1)] rfl) (it_app (lw_mem wsX8_putInOrder_o1 [(1, 163, 1), (3, 87, 1), (3, 89, 1), (0, 8, 1), (1, 7, 1), (3, 91, 1), (3, 93, 1), (0, 9, 1), (1, 160, 1)] rfl) (it_app (it_app it_X80 it_X8_isKnown) it_X8_putBehind))
set_option maxRecDepth 20000 in
theorem it_X8_paidTo : inT wsX8_paidTo := it_cons (lw_mem [Cond.code yX8_paidTo cX8_paidTo 5 (some .int)] [(3, 102, 1)] rfl) (it_app (lw_mem wsX8_paidTo_o1 [(1, 160, 1), (1, 165, 1), (3, 103, 2), (1, 15, 1), (3, 105, 1)] rfl) it_X80)
set_option maxRecDepth 20000 in
theorem it_X9_init : inT wsX9_init := it_cons (lw_mem [Cond.code yX9_init cX9_init 1 none] [(1, 33, 1)] rfl) (it_app (lw_mem wsX9_init_o1 [(1, 34, 1), (1, 27, 2), (1, 35, 1), (1, 53, 1), (1, 40, 1), (1, 42, 1), (1, 44, 1), (1, 37, 2), (1, 3, 1)] rfl) (it_app it_X90 it_J7_fill_53178))
set_option maxRecDepth 20000 in
theorem it_X9_isMissing : inT wsX9_isMissing := it_cons (lw_mem [Cond.code yX9_isMissing cX9_isMissing 2 (some .boolean)] [(2, 151, 1)] rfl) (it_app (lw_mem wsX9_isMissing_o1 [(1, 44, 1)] rfl) it_X90)
set_option maxRecDepth 20000 in
theorem it_X9_hasPlaces : inT wsX9_hasPlaces := it_cons (lw_mem [Cond.code yX9_hasPlaces cX9_hasPlaces 4 (some .boolean)] [(2, 155, 1)] rfl) (it_app (lw_mem wsX9_hasPlaces_o1 [(1, 44, 1)] rfl) it_X90)
set_option maxRecDepth 20000 in
theorem it_X9_lay : inT wsX9_lay := it_cons (lw_mem [Cond.code yX9_lay cX9_lay 4 none] [(2, 139, 1)] rfl) (it_app (lw_mem wsX9_lay_o1 [(1, 40, 1), (1, 42, 1), (1, 44, 1), (1, 37, 2), (1, 3, 1)] rfl) (it_app it_X90 it_J7_fill_53178))
set_option maxRecDepth 20000 in
theorem it_X9_put : inT wsX9_put := it_cons (lw_mem [Cond.code yX9_put cX9_put 5 (some .int)] [(2, 159, 1)] rfl) (it_app (lw_mem wsX9_put_o1 [(1, 42, 1), (1, 40, 1)] rfl) it_X90)
set_option maxRecDepth 20000 in
theorem it_X9_takeAway : inT wsX9_takeAway := it_cons (lw_mem [Cond.code yX9_takeAway cX9_takeAway 2 none] [(2, 174, 1)] rfl) (it_app (lw_mem wsX9_takeAway_o1 [(1, 44, 1)] rfl) it_X90)
set_option maxRecDepth 20000 in
theorem it_X9_howMany : inT wsX9_howMany := it_cons (lw_mem [Cond.code yX9_howMany cX9_howMany 3 (some .int)] [(4, 189, 1)] rfl) (it_app (lw_mem wsX9_howMany_o1 [(4, 190, 1), (2, 149, 2), (1, 2, 1), (1, 44, 1)] rfl) (it_app it_X90 it_X9_isMissing))
set_option maxRecDepth 20000 in
theorem it_J9_abs_0f7a4 : inT wsJ9_abs_0f7a4 := it_cons (lw_mem [Cond.code yJ9_abs_0f7a4 cJ9_abs_0f7a4 1 (some .int)] [(4, 81, 1)] rfl) (lw_mem [] [] rfl)
set_option maxRecDepth 20000 in
theorem it_J9_max_7cf53 : inT wsJ9_max_7cf53 := it_cons (lw_mem [Cond.code yJ9_max_7cf53 cJ9_max_7cf53 2 (some .int)] [(4, 85, 1)] rfl) (lw_mem [] [] rfl)
set_option maxRecDepth 20000 in
theorem it_J9_min_7cf53 : inT wsJ9_min_7cf53 := it_cons (lw_mem [Cond.code yJ9_min_7cf53 cJ9_min_7cf53 2 (some .int)] [(3, 105, 1)] rfl) (lw_mem [] [] rfl)
set_option maxRecDepth 20000 in
theorem it_J9_min_f86c9 : inT wsJ9_min_f86c9 := it_cons (lw_mem [Cond.code yJ9_min_f86c9 cJ9_min_f86c9 4 (some .long)] [(3, 12, 1)] rfl) (lw_mem [] [] rfl)
-- it_X0_init it_X0_tell it_X2_lineFor it_X0_firstWaking it_J7_fill_53178 it_X1_init it_X1_tell it_X1_setIn it_X1_setInRooms it_X1_worthsOf it_J6_bitCount_0f7a4 it_X1_fits it_X2_init it_X2_take it_X2_isLetter it_J0_isLatin1_aae02 it_J3_checkIndex_8e157 it_J0_checkIndex_df160 it_J1_charAt_3b067 it_J2_length_9d52b it_J2_checkIndex_2214a it_J2_getChar_3b067 it_J2_charAt_3b067 it_J0_charAt_5068e it_X2_isWord it_X2_readName it_X2_isFigure it_X2_readNumber it_X2_next it_X2_readAct it_X2_readPart it_X2_keepDraft it_X2_read it_X3_init it_X3_tell it_X3_place it_X3_gatherWhoHas it_X3_closeReach it_X3_lookAt it_X3_partOf it_X3_leadingTo it_X3_along it_X3_shareOf it_X4_init it_X4_tell it_X4_peopleOn it_X5_init it_X5_lotOf it_X5_drawLots it_X5_howManyAhead it_X6_init it_X6_tell it_X6_firstOf it_X6_compared it_X6_worstOf it_X7_init it_X7_isAhead it_X7_tell it_X7_isKnown it_X7_ownerOf it_X7_notGood it_X8_init it_X8_tell it_X8_isKnown it_X8_sumsOn it_X8_isAhead it_X8_putBehind it_X8_putInOrder it_X8_paidTo it_X9_init it_X9_isMissing it_X9_hasPlaces it_X9_lay it_X9_put it_X9_takeAway it_X9_howMany it_J9_abs_0f7a4 it_J9_max_7cf53 it_J9_min_7cf53 it_J9_min_f86c9