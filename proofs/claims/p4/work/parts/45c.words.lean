set_option maxRecDepth 20000 in
theorem it_X110 : inT wsX110 := lw_mem _ [(5, 30, 1), (5, 32, 1), (5, 34, 1), (5, 36, 1), (5, 38, 1), (5, 40, 1), (5, 42, 1), (5, 44, 1), (5, 46, 1), (5, 48, 1), (5, 50, 1), (5, 52, 1), (5, 54, 1), (5, 56, 1), (5, 58, 1), (5, 60, 1), (5, 62, 1), (5, 64, 1), (5, 66, 1), (5, 68, 1), (5, 70, 1), (5, 72, 1), (5, 74, 1), (5, 76, 1), (5, 78, 1), (5, 80, 1), (5, 82, 1), (5, 84, 1), (5, 86, 1), (5, 88, 1), (5, 90, 1), (5, 92, 1), (5, 94, 1), (5, 96, 1), (5, 98, 1), (5, 100, 1), (5, 102, 1), (5, 104, 1), (5, 106, 1), (5, 108, 1), (5, 110, 1), (5, 112, 1), (5, 114, 1), (5, 116, 1), (5, 118, 1), (5, 120, 1), (5, 122, 1), (5, 124, 1), (5, 126, 1), (5, 128, 1), (5, 130, 1), (5, 132, 1), (5, 134, 1), (5, 136, 1), (5, 138, 1), (5, 140, 1), (5, 142, 1), (5, 144, 1), (5, 146, 1), (5, 148, 1), (5, 150, 1), (5, 152, 1), (5, 154, 1), (5, 156, 1)] rfl
set_option maxRecDepth 20000 in
theorem it_X11_in : inT wsX11_in := it_cons (lw_mem [Cond.code yX11_in cX11_in 6 (some .boolean)] [(5, 169, 1)] rfl) (lw_mem [] [] rfl)
set_option maxRecDepth 20000 in
theorem it_X11_init : inT wsX11_init := it_cons (lw_mem [Cond.code yX11_init cX11_init 3 none] [(4, 202, 1)] rfl) (it_app (it_app (lw_mem wsX11_init_o1 [(4, 203, 1), (1, 27, 2), (1, 53, 1), (4, 209, 3), (4, 213, 7), (2, 79, 1), (4, 220, 1), (4, 222, 2), (4, 225, 5), (4, 232, 1)] rfl) (lw_mem wsX11_init_o2 [(4, 233, 3), (4, 237, 1), (4, 239, 1), (5, 0, 1), (5, 11, 7), (5, 19, 4), (5, 24, 3), (5, 28, 1), (4, 207, 1), (4, 204, 2)] rfl)) it_X110)
set_option maxRecDepth 20000 in
theorem it_X11_found : inT wsX11_found := it_cons (lw_mem [Cond.code yX11_found cX11_found 2 (some .int)] [(5, 175, 1)] rfl) (it_app (lw_mem wsX11_found_o1 [(4, 208, 1), (5, 176, 1)] rfl) it_X110)
set_option maxRecDepth 20000 in
theorem it_X11_isSheet : inT wsX11_isSheet := it_cons (lw_mem [Cond.code yX11_isSheet cX11_isSheet 1 (some .boolean)] [(5, 165, 1)] rfl) (it_app (lw_mem wsX11_isSheet_o1 [(5, 166, 3), (1, 13, 1)] rfl) it_X11_in)
set_option maxRecDepth 20000 in
theorem it_X11_sheet : inT wsX11_sheet := it_cons (lw_mem [Cond.code yX11_sheet cX11_sheet 5 (some .int)] [(5, 162, 1)] rfl) (it_app (lw_mem wsX11_sheet_o1 [(4, 206, 1), (5, 170, 2), (4, 208, 4), (5, 163, 2), (1, 13, 1), (5, 167, 2), (5, 172, 1), (5, 174, 1), (0, 33, 1)] rfl) (it_app (it_app it_X110 it_X11_isSheet) (it_app it_X11_in it_X11_found)))
set_option maxRecDepth 20000 in
theorem it_X11_set : inT wsX11_set := it_cons (lw_mem [Cond.code yX11_set cX11_set 4 (some .int)] [(5, 180, 1)] rfl) (it_app (lw_mem wsX11_set_o1 [(4, 206, 1), (5, 171, 1), (4, 208, 4), (5, 163, 2), (1, 13, 1), (5, 167, 2), (5, 172, 1), (5, 174, 1), (0, 33, 1)] rfl) (it_app (it_app it_X110 it_X11_isSheet) (it_app it_X11_found it_X11_in)))
set_option maxRecDepth 20000 in
theorem it_X11_copy : inT wsX11_copy := it_cons (lw_mem [Cond.code yX11_copy cX11_copy 9 (some .int)] [(5, 184, 1)] rfl) (it_app (lw_mem wsX11_copy_o1 [(4, 206, 1), (5, 171, 1), (4, 208, 4), (5, 163, 2), (1, 13, 1), (5, 172, 1), (5, 174, 1), (0, 33, 1)] rfl) (it_app (it_app it_X110 it_X11_isSheet) it_X11_found))
set_option maxRecDepth 20000 in
theorem it_X11_drop : inT wsX11_drop := it_cons (lw_mem [Cond.code yX11_drop cX11_drop 2 (some .int)] [(5, 188, 1)] rfl) (it_app (lw_mem wsX11_drop_o1 [(4, 206, 1), (5, 171, 1), (4, 208, 3), (5, 163, 2), (1, 13, 1), (5, 172, 1), (5, 174, 1), (0, 33, 1)] rfl) (it_app (it_app it_X110 it_X11_isSheet) it_X11_found))
set_option maxRecDepth 20000 in
theorem it_X11_isOwner : inT wsX11_isOwner := it_cons (lw_mem [Cond.code yX11_isOwner cX11_isOwner 1 (some .boolean)] [(5, 199, 1)] rfl) (it_app (lw_mem wsX11_isOwner_o1 [(5, 200, 1), (5, 167, 2), (1, 13, 1)] rfl) it_X11_in)
set_option maxRecDepth 20000 in
theorem it_X11_isPerson : inT wsX11_isPerson := it_cons (lw_mem [Cond.code yX11_isPerson cX11_isPerson 1 (some .boolean)] [(5, 230, 1)] rfl) (it_app (lw_mem wsX11_isPerson_o1 [(5, 231, 1), (5, 167, 2), (1, 13, 1)] rfl) it_X11_in)
set_option maxRecDepth 20000 in
theorem it_X11_isCompany : inT wsX11_isCompany := it_cons (lw_mem [Cond.code yX11_isCompany cX11_isCompany 1 (some .boolean)] [(5, 203, 1)] rfl) (it_app (lw_mem wsX11_isCompany_o1 [(5, 204, 1), (5, 200, 1), (5, 167, 2), (1, 13, 1)] rfl) it_X11_in)
set_option maxRecDepth 20000 in
theorem it_X11_isDay : inT wsX11_isDay := it_cons (lw_mem [Cond.code yX11_isDay cX11_isDay 1 (some .boolean)] [(5, 208, 1)] rfl) (it_app (lw_mem wsX11_isDay_o1 [(5, 209, 1), (5, 167, 2), (1, 13, 1)] rfl) it_X11_in)
set_option maxRecDepth 20000 in
theorem it_X11_holding : inT wsX11_holding := it_cons (lw_mem [Cond.code yX11_holding cX11_holding 5 (some .int)] [(5, 196, 1)] rfl) (it_app (lw_mem wsX11_holding_o1 [(5, 205, 1), (5, 171, 1), (4, 212, 1), (5, 210, 1), (4, 213, 4), (5, 197, 2), (1, 13, 1), (5, 167, 2), (5, 201, 2), (5, 206, 2)] rfl) (it_app (it_app (it_app it_X110 it_X11_isOwner) it_X11_isCompany) (it_app it_X11_in it_X11_isDay)))
set_option maxRecDepth 20000 in
theorem it_X11_hold : inT wsX11_hold := it_cons (lw_mem [Cond.code yX11_hold cX11_hold 5 (some .int)] [(5, 192, 1)] rfl) (it_app (lw_mem wsX11_hold_o1 [(4, 206, 1), (5, 193, 1), (5, 195, 1), (0, 34, 1), (1, 13, 1)] rfl) (it_app it_X110 it_X11_holding))
set_option maxRecDepth 20000 in
theorem it_X11_holds : inT wsX11_holds := it_cons (lw_mem [Cond.code yX11_holds cX11_holds 7 (some .int)] [(5, 214, 1)] rfl) (it_app (lw_mem wsX11_holds_o1 [(4, 206, 1), (5, 215, 1), (5, 171, 1), (4, 208, 4), (5, 163, 2), (1, 13, 1), (5, 167, 2), (5, 172, 1), (5, 174, 1), (0, 33, 1), (5, 193, 1), (5, 195, 1), (0, 34, 1)] rfl) (it_app (it_app (it_app it_X110 it_X11_isSheet) it_X11_in) (it_app it_X11_found it_X11_holding)))
set_option maxRecDepth 20000 in
theorem it_X11_percentOf : inT wsX11_percentOf := it_cons (lw_mem [Cond.code yX11_percentOf cX11_percentOf 6 (some .int)] [(5, 223, 1)] rfl) (it_app (lw_mem wsX11_percentOf_o1 [(4, 204, 1), (4, 212, 3), (4, 216, 1), (4, 215, 1)] rfl) it_X110)
set_option maxRecDepth 20000 in
theorem it_X11_percent : inT wsX11_percent := it_cons (lw_mem [Cond.code yX11_percent cX11_percent 4 (some .int)] [(5, 219, 1)] rfl) (it_app (lw_mem wsX11_percent_o1 [(4, 206, 1), (5, 171, 1), (5, 197, 2), (1, 13, 1), (5, 201, 2), (5, 206, 2), (5, 220, 1), (5, 222, 1), (0, 35, 1)] rfl) (it_app (it_app (it_app it_X110 it_X11_isOwner) it_X11_isCompany) (it_app it_X11_isDay it_X11_percentOf)))
set_option maxRecDepth 20000 in
theorem it_X11_findHas : inT wsX11_findHas := it_cons (lw_mem [Cond.code yX11_findHas cX11_findHas 4 none] [(6, 0, 1)] rfl) (it_app (lw_mem wsX11_findHas_o1 [(4, 217, 1), (5, 220, 1), (5, 222, 1), (0, 35, 1), (1, 13, 1)] rfl) (it_app it_X110 it_X11_percentOf))
set_option maxRecDepth 20000 in
theorem it_X11_rowsTo : inT wsX11_rowsTo := it_cons (lw_mem [Cond.code yX11_rowsTo cX11_rowsTo 11 (some .long)] [(6, 4, 1)] rfl) (it_app (lw_mem wsX11_rowsTo_o1 [(4, 218, 1), (4, 220, 1), (6, 5, 1), (4, 219, 1), (4, 217, 1), (5, 205, 1), (6, 6, 1)] rfl) it_X110)
set_option maxRecDepth 20000 in
theorem it_X11_shareOf : inT wsX11_shareOf := it_cons (lw_mem [Cond.code yX11_shareOf cX11_shareOf 4 (some .int)] [(5, 235, 1)] rfl) (it_app (lw_mem wsX11_shareOf_o1 [(5, 236, 2), (5, 239, 1), (0, 37, 1), (1, 13, 1), (6, 1, 1), (6, 3, 1), (0, 38, 1)] rfl) (it_app (it_app it_X110 it_X11_findHas) it_X11_rowsTo))
set_option maxRecDepth 20000 in
theorem it_X11_share : inT wsX11_share := it_cons (lw_mem [Cond.code yX11_share cX11_share 4 (some .int)] [(5, 227, 1)] rfl) (it_app (lw_mem wsX11_share_o1 [(4, 206, 1), (5, 171, 1), (5, 228, 2), (1, 13, 1), (5, 197, 2), (5, 206, 2), (5, 232, 1), (5, 234, 1), (0, 36, 1)] rfl) (it_app (it_app (it_app it_X110 it_X11_isPerson) it_X11_isOwner) (it_app it_X11_isDay it_X11_shareOf)))
set_option maxRecDepth 20000 in
theorem it_X11_truly : inT wsX11_truly := it_cons (lw_mem [Cond.code yX11_truly cX11_truly 7 (some .int)] [(6, 10, 1)] rfl) (it_app (lw_mem wsX11_truly_o1 [(4, 206, 1), (5, 171, 1), (4, 204, 1), (5, 197, 2), (1, 13, 1), (5, 206, 2), (5, 232, 1), (5, 234, 1), (0, 36, 1)] rfl) (it_app (it_app it_X110 it_X11_isOwner) (it_app it_X11_isDay it_X11_shareOf)))
set_option maxRecDepth 20000 in
theorem it_X11_rings : inT wsX11_rings := it_cons (lw_mem [Cond.code yX11_rings cX11_rings 10 (some .int)] [(6, 14, 1)] rfl) (it_app (lw_mem wsX11_rings_o1 [(4, 206, 1), (5, 171, 1), (4, 217, 1), (5, 206, 2), (1, 13, 1), (5, 237, 1), (5, 239, 1), (0, 37, 1), (4, 204, 1)] rfl) (it_app (it_app it_X110 it_X11_isDay) it_X11_findHas))
set_option maxRecDepth 20000 in
theorem it_X11_isCrate : inT wsX11_isCrate := it_cons (lw_mem [Cond.code yX11_isCrate cX11_isCrate 2 (some .boolean)] [(6, 27, 1)] rfl) (it_app (lw_mem wsX11_isCrate_o1 [(4, 221, 1), (5, 167, 2), (1, 13, 1)] rfl) (it_app it_X110 it_X11_in))
set_option maxRecDepth 20000 in
theorem it_X11_crate : inT wsX11_crate := it_cons (lw_mem [Cond.code yX11_crate cX11_crate 3 (some .int)] [(6, 18, 1)] rfl) (it_app (lw_mem wsX11_crate_o1 [(4, 206, 1), (6, 19, 1), (5, 171, 1), (4, 221, 1), (5, 210, 1), (4, 222, 2), (5, 197, 2), (1, 13, 1), (5, 167, 2)] rfl) (it_app (it_app it_X110 it_X11_isOwner) it_X11_in))
set_option maxRecDepth 20000 in
theorem it_X11_paper : inT wsX11_paper := it_cons (lw_mem [Cond.code yX11_paper cX11_paper 6 (some .int)] [(6, 23, 1)] rfl) (it_app (lw_mem wsX11_paper_o1 [(4, 206, 1), (5, 209, 1), (5, 171, 1), (4, 224, 1), (5, 210, 1), (4, 225, 5), (6, 24, 1), (6, 26, 1), (0, 39, 1), (1, 13, 1), (5, 167, 2), (5, 197, 2), (5, 206, 2)] rfl) (it_app (it_app (it_app it_X110 it_X11_isCrate) it_X11_isOwner) (it_app it_X11_isDay it_X11_in)))
set_option maxRecDepth 20000 in
theorem it_X11_ownerOf : inT wsX11_ownerOf := it_cons (lw_mem [Cond.code yX11_ownerOf cX11_ownerOf 12 (some .int)] [(6, 35, 1)] rfl) (it_app (lw_mem wsX11_ownerOf_o1 [(4, 222, 1), (4, 230, 1), (4, 204, 1), (4, 224, 2), (4, 229, 1), (4, 228, 1), (4, 226, 2)] rfl) it_X110)
set_option maxRecDepth 20000 in
theorem it_X11_owner : inT wsX11_owner := it_cons (lw_mem [Cond.code yX11_owner cX11_owner 4 (some .int)] [(6, 31, 1)] rfl) (it_app (lw_mem wsX11_owner_o1 [(4, 206, 1), (5, 171, 1), (6, 24, 1), (6, 26, 1), (0, 39, 1), (1, 13, 1), (5, 206, 2), (6, 32, 1), (6, 34, 1), (0, 40, 1)] rfl) (it_app (it_app it_X110 it_X11_isCrate) (it_app it_X11_isDay it_X11_ownerOf)))
set_option maxRecDepth 20000 in
theorem it_X11_quarrels : inT wsX11_quarrels := it_cons (lw_mem [Cond.code yX11_quarrels cX11_quarrels 4 (some .int)] [(6, 39, 1)] rfl) (it_app (lw_mem wsX11_quarrels_o1 [(4, 206, 1), (5, 171, 1), (4, 230, 1), (6, 24, 1), (6, 26, 1), (0, 39, 1), (1, 13, 1), (5, 206, 2), (6, 32, 1), (6, 34, 1), (0, 40, 1)] rfl) (it_app (it_app it_X110 it_X11_isCrate) (it_app it_X11_isDay it_X11_ownerOf)))
set_option maxRecDepth 20000 in
theorem it_X11_pledge : inT wsX11_pledge := it_cons (lw_mem [Cond.code yX11_pledge cX11_pledge 6 (some .int)] [(6, 43, 1)] rfl) (it_app (lw_mem wsX11_pledge_o1 [(4, 206, 1), (6, 19, 1), (5, 209, 1), (5, 171, 1), (4, 231, 1), (5, 210, 1), (4, 232, 4), (6, 24, 1), (6, 26, 1), (0, 39, 1), (1, 13, 1), (5, 167, 2), (5, 228, 2), (5, 206, 2)] rfl) (it_app (it_app (it_app it_X110 it_X11_isCrate) it_X11_isPerson) (it_app it_X11_in it_X11_isDay)))
set_option maxRecDepth 20000 in
theorem it_X11_keyOf : inT wsX11_keyOf := it_cons (lw_mem [Cond.code yX11_keyOf cX11_keyOf 3 (some .int)] [(6, 52, 1)] rfl) (it_app (lw_mem wsX11_keyOf_o1 [(4, 235, 1), (4, 234, 1), (4, 233, 1)] rfl) it_X110)
set_option maxRecDepth 20000 in
theorem it_X11_rank : inT wsX11_rank := it_cons (lw_mem [Cond.code yX11_rank cX11_rank 13 (some .int)] [(6, 47, 1)] rfl) (it_app (lw_mem wsX11_rank_o1 [(4, 206, 1), (6, 48, 1), (5, 171, 1), (4, 223, 1), (4, 204, 1), (4, 231, 2), (4, 235, 1), (4, 233, 1), (6, 24, 1), (6, 26, 1), (0, 39, 1), (1, 13, 1), (5, 167, 2), (5, 206, 2), (6, 49, 1), (6, 51, 1), (0, 41, 1)] rfl) (it_app (it_app (it_app it_X110 it_X11_isCrate) it_X11_isDay) (it_app it_X11_in it_X11_keyOf)))
set_option maxRecDepth 20000 in
theorem it_X11_feed : inT wsX11_feed := it_cons (lw_mem [Cond.code yX11_feed cX11_feed 5 (some .int)] [(6, 56, 1)] rfl) (it_app (lw_mem wsX11_feed_o1 [(4, 206, 1), (6, 57, 1), (5, 171, 1), (5, 1, 1), (5, 210, 1), (5, 0, 1), (6, 58, 1), (5, 167, 2), (1, 13, 1)] rfl) (it_app it_X110 it_X11_in))
set_option maxRecDepth 20000 in
theorem it_X11_byteAt : inT wsX11_byteAt := it_cons (lw_mem [Cond.code yX11_byteAt cX11_byteAt 2 (some .int)] [(6, 70, 1)] rfl) (it_app (lw_mem wsX11_byteAt_o1 [(5, 3, 1), (5, 0, 1), (4, 204, 1)] rfl) it_X110)
set_option maxRecDepth 20000 in
theorem it_X11_isLetter : inT wsX11_isLetter := it_cons (lw_mem [Cond.code yX11_isLetter cX11_isLetter 1 (some .boolean)] [(6, 73, 1)] rfl) (lw_mem [] [] rfl)
set_option maxRecDepth 20000 in
theorem it_X11_isFigure : inT wsX11_isFigure := it_cons (lw_mem [Cond.code yX11_isFigure cX11_isFigure 1 (some .boolean)] [(6, 76, 1)] rfl) (lw_mem [] [] rfl)
set_option maxRecDepth 20000 in
theorem it_X11_step : inT wsX11_step := it_cons (lw_mem [Cond.code yX11_step cX11_step 2 none] [(6, 66, 1)] rfl) (it_app (lw_mem wsX11_step_o1 [(5, 4, 1), (5, 6, 1), (4, 204, 1), (5, 5, 1), (5, 7, 1), (6, 67, 1), (6, 69, 1), (0, 43, 1), (1, 13, 1), (6, 71, 2), (6, 74, 2)] rfl) (it_app (it_app it_X110 it_X11_byteAt) (it_app it_X11_isLetter it_X11_isFigure)))
set_option maxRecDepth 20000 in
theorem it_X11_bad : inT wsX11_bad := it_cons (lw_mem [Cond.code yX11_bad cX11_bad 2 none] [(6, 88, 1)] rfl) (it_app (lw_mem wsX11_bad_o1 [(5, 8, 1), (5, 6, 1), (5, 9, 1)] rfl) it_X110)
set_option maxRecDepth 20000 in
theorem it_X11_need : inT wsX11_need := it_cons (lw_mem [Cond.code yX11_need cX11_need 2 none] [(6, 92, 1)] rfl) (it_app (lw_mem wsX11_need_o1 [(5, 8, 1), (6, 85, 1), (6, 87, 1), (0, 45, 1), (1, 13, 1), (6, 63, 1), (6, 65, 1), (0, 42, 1)] rfl) (it_app (it_app it_X110 it_X11_bad) it_X11_step))
set_option maxRecDepth 20000 in
theorem it_X11_is : inT wsX11_is := it_cons (lw_mem [Cond.code yX11_is cX11_is 2 (some .boolean)] [(6, 96, 1)] rfl) (it_app (lw_mem wsX11_is_o1 [(5, 5, 1), (5, 0, 1), (5, 6, 1)] rfl) it_X110)
set_option maxRecDepth 20000 in
theorem it_X11_word : inT wsX11_word := it_cons (lw_mem [Cond.code yX11_word cX11_word 4 (some .long)] [(6, 80, 1)] rfl) (it_app (lw_mem wsX11_word_o1 [(5, 6, 2), (5, 5, 1), (5, 0, 1)] rfl) it_X110)
set_option maxRecDepth 20000 in
theorem it_X11_numberUpTo : inT wsX11_numberUpTo := it_cons (lw_mem [Cond.code yX11_numberUpTo cX11_numberUpTo 4 (some .int)] [(6, 100, 1)] rfl) (it_app (lw_mem wsX11_numberUpTo_o1 [(5, 6, 2), (5, 5, 1), (5, 0, 1), (6, 85, 1), (6, 87, 1), (1, 13, 1), (6, 89, 1), (6, 91, 1), (0, 46, 1)] rfl) (it_app (it_app it_X110 it_X11_bad) it_X11_need))
set_option maxRecDepth 20000 in
theorem it_X11_duties : inT wsX11_duties := it_cons (lw_mem [Cond.code yX11_duties cX11_duties 6 (some .int)] [(6, 62, 1)] rfl) (it_app (it_app (lw_mem wsX11_duties_o1 [(4, 206, 1), (5, 1, 1), (5, 3, 2), (5, 8, 1), (4, 238, 1), (5, 5, 1), (6, 81, 4), (4, 204, 1), (6, 101, 1), (4, 239, 1), (5, 2, 1), (6, 102, 1), (5, 9, 1), (4, 236, 2), (6, 63, 1), (6, 65, 1), (1, 13, 1), (6, 77, 1), (6, 79, 1)] rfl) (lw_mem wsX11_duties_o2 [(0, 44, 1), (6, 85, 1), (6, 87, 1), (6, 89, 1), (6, 91, 1), (6, 93, 1), (6, 95, 1), (0, 47, 1), (6, 97, 1), (6, 99, 1), (0, 48, 1)] rfl)) (it_app (it_app (it_app it_X110 it_X11_step) (it_app it_X11_word it_X11_bad)) (it_app (it_app it_X11_need it_X11_is) it_X11_numberUpTo)))
set_option maxRecDepth 20000 in
theorem it_X11_fault : inT wsX11_fault := it_cons (lw_mem [Cond.code yX11_fault cX11_fault 1 (some .int)] [(6, 106, 1)] rfl) (it_app (lw_mem wsX11_fault_o1 [(4, 206, 1), (5, 2, 1)] rfl) it_X110)
set_option maxRecDepth 20000 in
theorem it_X11_act : inT wsX11_act := it_cons (lw_mem [Cond.code yX11_act cX11_act 5 (some .int)] [(6, 110, 1)] rfl) (it_app (lw_mem wsX11_act_o1 [(4, 206, 1), (6, 48, 1), (6, 111, 1), (5, 171, 1), (5, 10, 1), (5, 210, 1), (5, 11, 4), (6, 24, 1), (6, 26, 1), (0, 39, 1), (1, 13, 1), (5, 167, 2), (5, 206, 2)] rfl) (it_app (it_app it_X110 it_X11_isCrate) (it_app it_X11_in it_X11_isDay)))
set_option maxRecDepth 20000 in
theorem it_X11_wakes : inT wsX11_wakes := it_cons (lw_mem [Cond.code yX11_wakes cX11_wakes 3 (some .int)] [(6, 119, 1)] rfl) (it_app (lw_mem wsX11_wakes_o1 [(4, 236, 2), (5, 12, 1), (5, 14, 1), (4, 204, 1)] rfl) it_X110)
set_option maxRecDepth 20000 in
theorem it_X11_duty : inT wsX11_duty := it_cons (lw_mem [Cond.code yX11_duty cX11_duty 6 (some .int)] [(6, 115, 1)] rfl) (it_app (lw_mem wsX11_duty_o1 [(4, 206, 1), (5, 170, 2), (4, 204, 1), (5, 10, 2), (5, 13, 1), (4, 223, 1), (4, 237, 1), (6, 24, 1), (6, 26, 1), (0, 39, 1), (1, 13, 1), (5, 167, 2), (6, 116, 1), (6, 118, 1), (0, 49, 1)] rfl) (it_app (it_app it_X110 it_X11_isCrate) (it_app it_X11_in it_X11_wakes)))
set_option maxRecDepth 20000 in
theorem it_X11_isRoom : inT wsX11_isRoom := it_cons (lw_mem [Cond.code yX11_isRoom cX11_isRoom 1 (some .boolean)] [(6, 126, 1)] rfl) (it_app (lw_mem wsX11_isRoom_o1 [(6, 127, 1), (5, 167, 2), (1, 13, 1)] rfl) it_X11_in)
set_option maxRecDepth 20000 in
theorem it_X11_room : inT wsX11_room := it_cons (lw_mem [Cond.code yX11_room cX11_room 5 (some .int)] [(6, 123, 1)] rfl) (it_app (lw_mem wsX11_room_o1 [(4, 206, 1), (6, 128, 1), (6, 5, 1), (5, 171, 1), (5, 15, 2), (6, 124, 2), (1, 13, 1), (5, 167, 2)] rfl) (it_app (it_app it_X110 it_X11_isRoom) it_X11_in))
set_option maxRecDepth 20000 in
theorem it_X11_insideOf : inT wsX11_insideOf := it_cons (lw_mem [Cond.code yX11_insideOf cX11_insideOf 5 (some .int)] [(6, 137, 1)] rfl) (it_app (lw_mem wsX11_insideOf_o1 [(4, 221, 1), (5, 17, 1), (4, 223, 1)] rfl) it_X110)
set_option maxRecDepth 20000 in
theorem it_X11_move : inT wsX11_move := it_cons (lw_mem [Cond.code yX11_move cX11_move 4 (some .int)] [(6, 132, 1)] rfl) (it_app (lw_mem wsX11_move_o1 [(4, 206, 1), (4, 204, 1), (5, 171, 1), (5, 17, 1), (6, 133, 1), (5, 15, 1), (4, 223, 1), (5, 16, 1), (5, 210, 1), (6, 24, 1), (6, 26, 1), (0, 39, 1), (1, 13, 1), (6, 124, 2), (6, 134, 1), (6, 136, 1), (0, 50, 1)] rfl) (it_app (it_app it_X110 it_X11_isCrate) (it_app it_X11_isRoom it_X11_insideOf)))
set_option maxRecDepth 20000 in
theorem it_X11_inside : inT wsX11_inside := it_cons (lw_mem [Cond.code yX11_inside cX11_inside 3 (some .int)] [(6, 141, 1)] rfl) (it_app (lw_mem wsX11_inside_o1 [(4, 206, 1), (5, 170, 2), (6, 124, 2), (1, 13, 1), (5, 167, 2), (6, 134, 1), (6, 136, 1), (0, 50, 1)] rfl) (it_app (it_app it_X110 it_X11_isRoom) (it_app it_X11_in it_X11_insideOf)))
set_option maxRecDepth 20000 in
theorem it_X11_lotOf : inT wsX11_lotOf := it_cons (lw_mem [Cond.code yX11_lotOf cX11_lotOf 5 (some .long)] [(6, 150, 1)] rfl) (it_app (lw_mem wsX11_lotOf_o1 [(4, 207, 1), (6, 151, 5)] rfl) it_X110)
set_option maxRecDepth 20000 in
theorem it_X11_lot : inT wsX11_lot := it_cons (lw_mem [Cond.code yX11_lot cX11_lot 4 (some .int)] [(6, 145, 1)] rfl) (it_app (lw_mem wsX11_lot_o1 [(4, 206, 1), (6, 146, 1), (6, 5, 1), (5, 171, 1), (5, 167, 2), (1, 13, 1), (5, 206, 2), (6, 147, 1), (6, 149, 1), (0, 51, 1)] rfl) (it_app (it_app it_X110 it_X11_in) (it_app it_X11_isDay it_X11_lotOf)))
set_option maxRecDepth 20000 in
theorem it_X11_drawnOn : inT wsX11_drawnOn := it_cons (lw_mem [Cond.code yX11_drawnOn cX11_drawnOn 8 (some .int)] [(6, 163, 1)] rfl) (it_app (lw_mem wsX11_drawnOn_o1 [(4, 204, 1), (4, 221, 1), (5, 17, 1), (6, 147, 1), (6, 149, 1), (0, 51, 1), (1, 13, 1)] rfl) (it_app it_X110 it_X11_lotOf))
set_option maxRecDepth 20000 in
theorem it_X11_drawn : inT wsX11_drawn := it_cons (lw_mem [Cond.code yX11_drawn cX11_drawn 3 (some .int)] [(6, 159, 1)] rfl) (it_app (lw_mem wsX11_drawn_o1 [(4, 206, 1), (6, 128, 1), (5, 171, 1), (5, 206, 2), (1, 13, 1), (5, 167, 2), (6, 160, 1), (6, 162, 1), (0, 52, 1)] rfl) (it_app (it_app it_X110 it_X11_isDay) (it_app it_X11_in it_X11_drawnOn)))
set_option maxRecDepth 20000 in
theorem it_X11_often : inT wsX11_often := it_cons (lw_mem [Cond.code yX11_often cX11_often 7 (some .int)] [(6, 167, 1)] rfl) (it_app (lw_mem wsX11_often_o1 [(4, 206, 1), (6, 128, 1), (5, 171, 1), (6, 24, 1), (6, 26, 1), (0, 39, 1), (1, 13, 1), (5, 167, 2), (5, 206, 2), (6, 160, 1), (6, 162, 1), (0, 52, 1)] rfl) (it_app (it_app (it_app it_X110 it_X11_isCrate) it_X11_isDay) (it_app it_X11_in it_X11_drawnOn)))
set_option maxRecDepth 20000 in
theorem it_X11_opened : inT wsX11_opened := it_cons (lw_mem [Cond.code yX11_opened cX11_opened 5 (some .int)] [(6, 171, 1)] rfl) (it_app (lw_mem wsX11_opened_o1 [(4, 206, 1), (6, 19, 1), (6, 58, 1), (5, 171, 1), (5, 18, 1), (5, 210, 1), (5, 19, 4), (6, 24, 1), (6, 26, 1), (0, 39, 1), (1, 13, 1), (5, 167, 2), (5, 206, 2)] rfl) (it_app (it_app it_X110 it_X11_isCrate) (it_app it_X11_isDay it_X11_in)))
set_option maxRecDepth 20000 in
theorem it_X11_bits : inT wsX11_bits := it_cons (lw_mem [Cond.code yX11_bits cX11_bits 3 (some .int)] [(6, 178, 1)] rfl) (lw_mem [] [] rfl)
set_option maxRecDepth 20000 in
theorem it_X11_verdict : inT wsX11_verdict := it_cons (lw_mem [Cond.code yX11_verdict cX11_verdict 8 (some .int)] [(6, 175, 1)] rfl) (it_app (lw_mem wsX11_verdict_o1 [(4, 206, 1), (5, 171, 1), (4, 204, 1), (5, 18, 5), (6, 24, 1), (6, 26, 1), (0, 39, 1), (1, 13, 1), (6, 176, 2)] rfl) (it_app (it_app it_X110 it_X11_isCrate) it_X11_bits))
set_option maxRecDepth 20000 in
theorem it_X11_list : inT wsX11_list := it_cons (lw_mem [Cond.code yX11_list cX11_list 4 (some .int)] [(6, 182, 1)] rfl) (it_app (lw_mem wsX11_list_o1 [(4, 206, 1), (5, 209, 1), (5, 171, 1), (5, 23, 1), (5, 210, 1), (5, 24, 3), (5, 228, 2), (1, 13, 1), (5, 167, 2), (5, 206, 2)] rfl) (it_app (it_app it_X110 it_X11_isPerson) (it_app it_X11_isDay it_X11_in)))
set_option maxRecDepth 20000 in
theorem it_X11_isBarred : inT wsX11_isBarred := it_cons (lw_mem [Cond.code yX11_isBarred cX11_isBarred 8 (some .boolean)] [(6, 190, 1)] rfl) (it_app (lw_mem wsX11_isBarred_o1 [(5, 23, 1), (5, 25, 2), (5, 24, 1), (6, 191, 1), (6, 32, 1), (6, 34, 1), (0, 40, 1), (1, 13, 1), (5, 232, 1), (5, 234, 1), (0, 36, 1), (4, 214, 1), (4, 218, 1)] rfl) (it_app (it_app it_X110 it_X11_ownerOf) it_X11_shareOf))
set_option maxRecDepth 20000 in
theorem it_X11_barred : inT wsX11_barred := it_cons (lw_mem [Cond.code yX11_barred cX11_barred 3 (some .int)] [(6, 186, 1)] rfl) (it_app (lw_mem wsX11_barred_o1 [(4, 206, 1), (5, 171, 1), (6, 24, 1), (6, 26, 1), (0, 39, 1), (1, 13, 1), (5, 206, 2), (6, 187, 1), (6, 189, 1), (0, 53, 1)] rfl) (it_app (it_app it_X110 it_X11_isCrate) (it_app it_X11_isDay it_X11_isBarred)))
set_option maxRecDepth 20000 in
theorem it_X11_day : inT wsX11_day := it_cons (lw_mem [Cond.code yX11_day cX11_day 3 (some .int)] [(6, 195, 1)] rfl) (it_app (lw_mem wsX11_day_o1 [(4, 206, 1), (5, 171, 1), (5, 27, 1), (5, 206, 2), (1, 13, 1)] rfl) (it_app it_X110 it_X11_isDay))
set_option maxRecDepth 20000 in
theorem it_X11_owes : inT wsX11_owes := it_cons (lw_mem [Cond.code yX11_owes cX11_owes 4 (some .int)] [(6, 207, 1)] rfl) (it_app (lw_mem wsX11_owes_o1 [(4, 231, 2), (4, 235, 1), (5, 27, 1), (4, 233, 1)] rfl) it_X110)
set_option maxRecDepth 20000 in
theorem it_X11_kindOf : inT wsX11_kindOf := it_cons (lw_mem [Cond.code yX11_kindOf cX11_kindOf 3 (some .int)] [(6, 203, 1)] rfl) (it_app (lw_mem wsX11_kindOf_o1 [(5, 27, 1), (4, 223, 1), (6, 204, 1), (6, 206, 1), (0, 55, 1), (1, 13, 1), (6, 187, 1), (6, 189, 1), (0, 53, 1), (4, 214, 1)] rfl) (it_app (it_app it_X110 it_X11_owes) it_X11_isBarred))
set_option maxRecDepth 20000 in
theorem it_X11_isOf : inT wsX11_isOf := it_cons (lw_mem [Cond.code yX11_isOf cX11_isOf 2 (some .boolean)] [(6, 215, 1)] rfl) (lw_mem [] [] rfl)
set_option maxRecDepth 20000 in
theorem it_X11_kind : inT wsX11_kind := it_cons (lw_mem [Cond.code yX11_kind cX11_kind 2 (some .int)] [(6, 199, 1)] rfl) (it_app (lw_mem wsX11_kind_o1 [(4, 206, 1), (5, 171, 1), (6, 24, 1), (6, 26, 1), (0, 39, 1), (1, 13, 1), (6, 200, 1), (6, 202, 1), (0, 54, 1)] rfl) (it_app (it_app it_X110 it_X11_isCrate) it_X11_kindOf))
set_option maxRecDepth 20000 in
theorem it_X11_as : inT wsX11_as := it_cons (lw_mem [Cond.code yX11_as cX11_as 3 (some .int)] [(6, 211, 1)] rfl) (it_app (lw_mem wsX11_as_o1 [(4, 206, 1), (6, 212, 1), (5, 171, 1), (4, 208, 1), (4, 223, 1), (6, 24, 1), (6, 26, 1), (0, 39, 1), (1, 13, 1), (5, 167, 2), (6, 200, 1), (6, 202, 1), (0, 54, 1), (6, 213, 2), (5, 172, 1), (5, 174, 1), (0, 33, 1)] rfl) (it_app (it_app (it_app it_X110 it_X11_isCrate) it_X11_in) (it_app (it_app it_X11_kindOf it_X11_isOf) it_X11_found)))
set_option maxRecDepth 20000 in
theorem it_X11_began : inT wsX11_began := it_cons (lw_mem [Cond.code yX11_began cX11_began 2 none] [(6, 227, 1)] rfl) (it_app (lw_mem wsX11_began_o1 [(5, 29, 1), (5, 28, 1)] rfl) it_X110)
set_option maxRecDepth 20000 in
theorem it_X11_plainSize : inT wsX11_plainSize := it_cons (lw_mem [Cond.code yX11_plainSize cX11_plainSize 2 (some .int)] [(6, 235, 1)] rfl) (it_app (lw_mem wsX11_plainSize_o1 [(4, 223, 1), (6, 224, 1), (6, 226, 1), (0, 57, 1), (1, 13, 1)] rfl) (it_app it_X110 it_X11_began))
set_option maxRecDepth 20000 in
theorem it_X11_markOf : inT wsX11_markOf := it_cons (lw_mem [Cond.code yX11_markOf cX11_markOf 3 (some .int)] [(6, 231, 1)] rfl) (it_app (lw_mem wsX11_markOf_o1 [(5, 27, 1), (6, 213, 2), (1, 13, 1), (6, 224, 1), (6, 226, 1), (6, 32, 1), (6, 34, 1), (0, 40, 1), (6, 232, 1), (6, 234, 1), (0, 59, 1)] rfl) (it_app (it_app (it_app it_X110 it_X11_isOf) it_X11_began) (it_app it_X11_ownerOf it_X11_plainSize)))
set_option maxRecDepth 20000 in
theorem it_X11_sizeOf : inT wsX11_sizeOf := it_cons (lw_mem [Cond.code yX11_sizeOf cX11_sizeOf 4 (some .int)] [(6, 223, 1)] rfl) (it_app (lw_mem wsX11_sizeOf_o1 [(6, 224, 1), (6, 226, 1), (1, 13, 1), (6, 228, 1), (6, 230, 1), (0, 58, 1), (6, 213, 2), (6, 232, 1), (6, 234, 1), (6, 204, 1), (6, 206, 1), (0, 55, 1)] rfl) (it_app (it_app (it_app it_X110 it_X11_began) it_X11_markOf) (it_app (it_app it_X11_isOf it_X11_plainSize) it_X11_owes)))
set_option maxRecDepth 20000 in
theorem it_X11_ask : inT wsX11_ask := it_cons (lw_mem [Cond.code yX11_ask cX11_ask 3 (some .int)] [(6, 219, 1)] rfl) (it_app (lw_mem wsX11_ask_o1 [(4, 206, 1), (5, 171, 1), (5, 29, 1), (6, 24, 1), (6, 26, 1), (0, 39, 1), (1, 13, 1), (5, 167, 2), (6, 200, 1), (6, 202, 1), (0, 54, 1), (6, 220, 1), (6, 222, 1), (0, 56, 1), (6, 228, 1), (6, 230, 1)] rfl) (it_app (it_app (it_app it_X110 it_X11_isCrate) it_X11_in) (it_app (it_app it_X11_kindOf it_X11_sizeOf) it_X11_markOf)))
set_option maxRecDepth 20000 in
theorem it_X11_trace : inT wsX11_trace := it_cons (lw_mem [Cond.code yX11_trace cX11_trace 2 (some .int)] [(6, 239, 1)] rfl) (it_app (lw_mem wsX11_trace_o1 [(4, 206, 1), (5, 29, 1), (5, 28, 1), (4, 204, 1), (5, 167, 2), (1, 13, 1)] rfl) (it_app it_X110 it_X11_in))
set_option maxRecDepth 20000 in
theorem it_X11_count : inT wsX11_count := it_cons (lw_mem [Cond.code yX11_count cX11_count 4 (some .int)] [(7, 3, 1)] rfl) (it_app (lw_mem wsX11_count_o1 [(4, 206, 1), (4, 209, 1), (4, 212, 1), (4, 221, 1), (4, 224, 1), (4, 231, 1), (4, 236, 1), (5, 10, 1), (5, 18, 1), (5, 23, 1), (5, 1, 1), (5, 171, 1)] rfl) it_X110)
set_option maxRecDepth 20000 in
theorem it_X11_status : inT wsX11_status := it_cons (lw_mem [Cond.code yX11_status cX11_status 1 (some .int)] [(7, 7, 1)] rfl) (it_app (lw_mem wsX11_status_o1 [(4, 206, 1), (4, 208, 1)] rfl) it_X110)
-- it_X11_in it_X11_init it_X11_found it_X11_isSheet it_X11_sheet it_X11_set it_X11_copy it_X11_drop it_X11_isOwner it_X11_isPerson it_X11_isCompany it_X11_isDay it_X11_holding it_X11_hold it_X11_holds it_X11_percentOf it_X11_percent it_X11_findHas it_X11_rowsTo it_X11_shareOf it_X11_share it_X11_truly it_X11_rings it_X11_isCrate it_X11_crate it_X11_paper it_X11_ownerOf it_X11_owner it_X11_quarrels it_X11_pledge it_X11_keyOf it_X11_rank it_X11_feed it_X11_byteAt it_X11_isLetter it_X11_isFigure it_X11_step it_X11_bad it_X11_need it_X11_is it_X11_word it_X11_numberUpTo it_X11_duties it_X11_fault it_X11_act it_X11_wakes it_X11_duty it_X11_isRoom it_X11_room it_X11_insideOf it_X11_move it_X11_inside it_X11_lotOf it_X11_lot it_X11_drawnOn it_X11_drawn it_X11_often it_X11_opened it_X11_bits it_X11_verdict it_X11_list it_X11_isBarred it_X11_barred it_X11_day it_X11_owes it_X11_kindOf it_X11_isOf it_X11_kind it_X11_as it_X11_began it_X11_plainSize it_X11_markOf it_X11_sizeOf it_X11_ask it_X11_trace it_X11_count it_X11_status