theorem dX1_tell_0 : decode cX1_tell 0 = .ok (.aload_n 0, 1) := by decide +kernel
theorem dX1_tell_1 : decode cX1_tell 1 = .ok (.getfield 9, 3) := by decide +kernel
theorem dX1_tell_4 : decode cX1_tell 4 = .ok (.aload_n 0, 1) := by decide +kernel
theorem dX1_tell_5 : decode cX1_tell 5 = .ok (.getfield 35, 3) := by decide +kernel
theorem dX1_tell_8 : decode cX1_tell 8 = .ok (.iload_n 1, 1) := by decide +kernel
theorem dX1_tell_9 : decode cX1_tell 9 = .ok (.iastore, 1) := by decide +kernel
theorem dX1_tell_10 : decode cX1_tell 10 = .ok (.aload_n 0, 1) := by decide +kernel
theorem dX1_tell_11 : decode cX1_tell 11 = .ok (.getfield 15, 3) := by decide +kernel
theorem dX1_tell_14 : decode cX1_tell 14 = .ok (.aload_n 0, 1) := by decide +kernel
theorem dX1_tell_15 : decode cX1_tell 15 = .ok (.getfield 35, 3) := by decide +kernel
theorem dX1_tell_18 : decode cX1_tell 18 = .ok (.iload_n 2, 1) := by decide +kernel
theorem dX1_tell_19 : decode cX1_tell 19 = .ok (.iastore, 1) := by decide +kernel
theorem dX1_tell_20 : decode cX1_tell 20 = .ok (.aload_n 0, 1) := by decide +kernel
theorem dX1_tell_21 : decode cX1_tell 21 = .ok (.dup, 1) := by decide +kernel
theorem dX1_tell_22 : decode cX1_tell 22 = .ok (.getfield 35, 3) := by decide +kernel
theorem dX1_tell_25 : decode cX1_tell 25 = .ok (.iconst 1, 1) := by decide +kernel
theorem dX1_tell_26 : decode cX1_tell 26 = .ok (.iadd, 1) := by decide +kernel
theorem dX1_tell_27 : decode cX1_tell 27 = .ok (.putfield 35, 3) := by decide +kernel
theorem dX1_tell_30 : decode cX1_tell 30 = .ok (.aload_n 0, 1) := by decide +kernel
theorem dX1_tell_31 : decode cX1_tell 31 = .ok (.getfield 35, 3) := by decide +kernel
theorem dX1_tell_34 : decode cX1_tell 34 = .ok (.iconst 1, 1) := by decide +kernel
theorem dX1_tell_35 : decode cX1_tell 35 = .ok (.isub, 1) := by decide +kernel
theorem dX1_tell_36 : decode cX1_tell 36 = .ok (.ireturn, 1) := by decide +kernel
theorem dX1_setIn_0 : decode cX1_setIn 0 = .ok (.iconst 0, 1) := by decide +kernel
theorem dX1_setIn_1 : decode cX1_setIn 1 = .ok (.istore_n 2, 1) := by decide +kernel
theorem dX1_setIn_2 : decode cX1_setIn 2 = .ok (.iconst 0, 1) := by decide +kernel
theorem dX1_setIn_3 : decode cX1_setIn 3 = .ok (.istore_n 3, 1) := by decide +kernel
theorem dX1_setIn_4 : decode cX1_setIn 4 = .ok (.iload_n 3, 1) := by decide +kernel
theorem dX1_setIn_5 : decode cX1_setIn 5 = .ok (.aload_n 0, 1) := by decide +kernel
theorem dX1_setIn_6 : decode cX1_setIn 6 = .ok (.getfield 35, 3) := by decide +kernel
theorem dX1_setIn_9 : decode cX1_setIn 9 = .ok (.if_icmp .ge 25, 3) := by decide +kernel
theorem dX1_setIn_34 : decode cX1_setIn 34 = .ok (.iload_n 2, 1) := by decide +kernel
theorem dX1_setIn_35 : decode cX1_setIn 35 = .ok (.ireturn, 1) := by decide +kernel
set_option maxRecDepth 20000 in
theorem ggX1_setInRooms_X1_setIn : GoodIn wsX1_setInRooms wsX1_setIn := goodIn_r _ [7, 1, 8, 9, 10, 11, 12, 13, 14] (by decide +kernel) (by decide +kernel)
set_option maxRecDepth 20000 in
theorem gX1_setInRooms_X1_setIn : GoodIn wsX1_setInRooms (wsV RX1 39 RX1 yX1_setIn wsX1_setIn) := goodIn_app (goodIn_of _ (by decide +kernel)) ggX1_setInRooms_X1_setIn
theorem dX1_setInRooms_0 : decode cX1_setInRooms 0 = .ok (.iconst 1, 1) := by decide +kernel
theorem dX1_setInRooms_1 : decode cX1_setInRooms 1 = .ok (.aload_n 0, 1) := by decide +kernel
theorem dX1_setInRooms_2 : decode cX1_setInRooms 2 = .ok (.getfield 35, 3) := by decide +kernel
theorem dX1_setInRooms_5 : decode cX1_setInRooms 5 = .ok (.ishl, 1) := by decide +kernel
theorem dX1_setInRooms_6 : decode cX1_setInRooms 6 = .ok (.iconst 1, 1) := by decide +kernel
theorem dX1_setInRooms_7 : decode cX1_setInRooms 7 = .ok (.isub, 1) := by decide +kernel
theorem dX1_setInRooms_8 : decode cX1_setInRooms 8 = .ok (.istore_n 1, 1) := by decide +kernel
theorem dX1_setInRooms_9 : decode cX1_setInRooms 9 = .ok (.iload_n 1, 1) := by decide +kernel
theorem dX1_setInRooms_10 : decode cX1_setInRooms 10 = .ok (.aload_n 0, 1) := by decide +kernel
theorem dX1_setInRooms_11 : decode cX1_setInRooms 11 = .ok (.ldc 27, 2) := by decide +kernel
theorem dX1_setInRooms_13 : decode cX1_setInRooms 13 = .ok (.invokevirtual 39, 3) := by decide +kernel
theorem dX1_setInRooms_16 : decode cX1_setInRooms 16 = .ok (.iconst (-1), 1) := by decide +kernel
theorem dX1_setInRooms_17 : decode cX1_setInRooms 17 = .ok (.ixor, 1) := by decide +kernel
theorem dX1_setInRooms_18 : decode cX1_setInRooms 18 = .ok (.iand, 1) := by decide +kernel
theorem dX1_setInRooms_19 : decode cX1_setInRooms 19 = .ok (.ireturn, 1) := by decide +kernel
theorem dX1_worthsOf_0 : decode cX1_worthsOf 0 = .ok (.iconst 0, 1) := by decide +kernel
theorem dX1_worthsOf_1 : decode cX1_worthsOf 1 = .ok (.istore_n 2, 1) := by decide +kernel
theorem dX1_worthsOf_2 : decode cX1_worthsOf 2 = .ok (.iconst 0, 1) := by decide +kernel
theorem dX1_worthsOf_3 : decode cX1_worthsOf 3 = .ok (.istore_n 3, 1) := by decide +kernel
theorem dX1_worthsOf_4 : decode cX1_worthsOf 4 = .ok (.iload_n 3, 1) := by decide +kernel
theorem dX1_worthsOf_5 : decode cX1_worthsOf 5 = .ok (.aload_n 0, 1) := by decide +kernel
theorem dX1_worthsOf_6 : decode cX1_worthsOf 6 = .ok (.getfield 35, 3) := by decide +kernel
theorem dX1_worthsOf_9 : decode cX1_worthsOf 9 = .ok (.if_icmp .ge 26, 3) := by decide +kernel
theorem dX1_worthsOf_35 : decode cX1_worthsOf 35 = .ok (.iload_n 2, 1) := by decide +kernel
theorem dX1_worthsOf_36 : decode cX1_worthsOf 36 = .ok (.ireturn, 1) := by decide +kernel
theorem dX4_tell_0 : decode cX4_tell 0 = .ok (.aload_n 0, 1) := by decide +kernel
theorem dX4_tell_1 : decode cX4_tell 1 = .ok (.getfield 9, 3) := by decide +kernel
theorem dX4_tell_4 : decode cX4_tell 4 = .ok (.aload_n 0, 1) := by decide +kernel
theorem dX4_tell_5 : decode cX4_tell 5 = .ok (.getfield 21, 3) := by decide +kernel
theorem dX4_tell_8 : decode cX4_tell 8 = .ok (.iload_n 1, 1) := by decide +kernel
theorem dX4_tell_9 : decode cX4_tell 9 = .ok (.iastore, 1) := by decide +kernel
theorem dX4_tell_10 : decode cX4_tell 10 = .ok (.aload_n 0, 1) := by decide +kernel
theorem dX4_tell_11 : decode cX4_tell 11 = .ok (.getfield 15, 3) := by decide +kernel
theorem dX4_tell_14 : decode cX4_tell 14 = .ok (.aload_n 0, 1) := by decide +kernel
theorem dX4_tell_15 : decode cX4_tell 15 = .ok (.getfield 21, 3) := by decide +kernel
theorem dX4_tell_18 : decode cX4_tell 18 = .ok (.iload_n 2, 1) := by decide +kernel
theorem dX4_tell_19 : decode cX4_tell 19 = .ok (.iastore, 1) := by decide +kernel
theorem dX4_tell_20 : decode cX4_tell 20 = .ok (.aload_n 0, 1) := by decide +kernel
theorem dX4_tell_21 : decode cX4_tell 21 = .ok (.getfield 18, 3) := by decide +kernel
theorem dX4_tell_24 : decode cX4_tell 24 = .ok (.aload_n 0, 1) := by decide +kernel
theorem dX4_tell_25 : decode cX4_tell 25 = .ok (.getfield 21, 3) := by decide +kernel
theorem dX4_tell_28 : decode cX4_tell 28 = .ok (.iload_n 3, 1) := by decide +kernel
theorem dX4_tell_29 : decode cX4_tell 29 = .ok (.iastore, 1) := by decide +kernel
theorem dX4_tell_30 : decode cX4_tell 30 = .ok (.aload_n 0, 1) := by decide +kernel
theorem dX4_tell_31 : decode cX4_tell 31 = .ok (.dup, 1) := by decide +kernel
theorem dX4_tell_32 : decode cX4_tell 32 = .ok (.getfield 21, 3) := by decide +kernel
theorem dX4_tell_35 : decode cX4_tell 35 = .ok (.iconst 1, 1) := by decide +kernel
theorem dX4_tell_36 : decode cX4_tell 36 = .ok (.iadd, 1) := by decide +kernel
theorem dX4_tell_37 : decode cX4_tell 37 = .ok (.putfield 21, 3) := by decide +kernel
theorem dX4_tell_40 : decode cX4_tell 40 = .ok (.aload_n 0, 1) := by decide +kernel
theorem dX4_tell_41 : decode cX4_tell 41 = .ok (.getfield 21, 3) := by decide +kernel
theorem dX4_tell_44 : decode cX4_tell 44 = .ok (.ireturn, 1) := by decide +kernel
set_option maxRecDepth 20000 in
theorem ggX5_drawLots_X10_hasBit : GoodIn wsX5_drawLots wsX10_hasBit := goodIn_r _ [4] (by decide +kernel) (by decide +kernel)
set_option maxRecDepth 20000 in
theorem gX5_drawLots_X10_hasBit_n29 : GoodIn wsX5_drawLots (wsX10_hasBit) := ggX5_drawLots_X10_hasBit
theorem dX5_drawLots_0 : decode cX5_drawLots 0 = .ok (.iconst 0, 1) := by decide +kernel
theorem dX5_drawLots_1 : decode cX5_drawLots 1 = .ok (.istore_n 3, 1) := by decide +kernel
theorem dX5_drawLots_2 : decode cX5_drawLots 2 = .ok (.iload_n 3, 1) := by decide +kernel
theorem dX5_drawLots_3 : decode cX5_drawLots 3 = .ok (.bipush 12, 2) := by decide +kernel
theorem dX5_drawLots_5 : decode cX5_drawLots 5 = .ok (.if_icmp .ge 29, 3) := by decide +kernel
theorem dX5_drawLots_8 : decode cX5_drawLots 8 = .ok (.iload_n 1, 1) := by decide +kernel
theorem dX5_drawLots_9 : decode cX5_drawLots 9 = .ok (.iload_n 3, 1) := by decide +kernel
theorem dX5_drawLots_10 : decode cX5_drawLots 10 = .ok (.invokestatic 29, 3) := by decide +kernel
theorem dX5_drawLots_13 : decode cX5_drawLots 13 = .ok (.ifCond .eq 15, 3) := by decide +kernel
theorem dX5_drawLots_28 : decode cX5_drawLots 28 = .ok (.iinc 3 1, 3) := by decide +kernel
theorem dX5_drawLots_31 : decode cX5_drawLots 31 = .ok (.goto (-29), 3) := by decide +kernel
theorem dX5_drawLots_34 : decode cX5_drawLots 34 = .ok (.return_, 1) := by decide +kernel
set_option maxRecDepth 20000 in
theorem ggX10_crate_X10_isOwner : GoodIn wsX10_crate wsX10_isOwner := goodIn_r _ [9, 10, 11, 8, 12] (by decide +kernel) (by decide +kernel)
set_option maxRecDepth 20000 in
theorem gX10_crate_X10_isOwner : GoodIn wsX10_crate (va_wsS RX10 163 yX10_isOwner wsX10_isOwner) := goodIn_app (goodIn_of _ (by decide +kernel)) ggX10_crate_X10_isOwner
set_option maxRecDepth 20000 in
theorem ggX10_crate_X10_isFrom : GoodIn wsX10_crate wsX10_isFrom := goodIn_r _ [15] (by decide +kernel) (by decide +kernel)
set_option maxRecDepth 20000 in
theorem gX10_crate_X10_isFrom : GoodIn wsX10_crate (va_wsS RX10 135 yX10_isFrom wsX10_isFrom) := goodIn_app (goodIn_of _ (by decide +kernel)) ggX10_crate_X10_isFrom
set_option maxRecDepth 20000 in
theorem ggX10_crate_X1_tell : GoodIn wsX10_crate wsX1_tell := goodIn_r _ [20, 21, 22, 23, 38, 39, 40, 41, 42, 43] (by decide +kernel) (by decide +kernel)
set_option maxRecDepth 20000 in
theorem gX10_crate_X1_tell : GoodIn wsX10_crate (wsV RX10 178 RX1 yX1_tell wsX1_tell) := goodIn_app (goodIn_of _ (by decide +kernel)) ggX10_crate_X1_tell
theorem dX10_crate_0 : decode cX10_crate 0 = .ok (.iload_n 1, 1) := by decide +kernel
theorem dX10_crate_1 : decode cX10_crate 1 = .ok (.invokestatic 163, 3) := by decide +kernel
theorem dX10_crate_4 : decode cX10_crate 4 = .ok (.ifCond .eq 13, 3) := by decide +kernel
theorem dX10_crate_7 : decode cX10_crate 7 = .ok (.iload_n 2, 1) := by decide +kernel
theorem dX10_crate_8 : decode cX10_crate 8 = .ok (.iconst 1, 1) := by decide +kernel
theorem dX10_crate_9 : decode cX10_crate 9 = .ok (.ldc 176, 2) := by decide +kernel
theorem dX10_crate_11 : decode cX10_crate 11 = .ok (.invokestatic 135, 3) := by decide +kernel
theorem dX10_crate_14 : decode cX10_crate 14 = .ok (.ifCond .ne 6, 3) := by decide +kernel
theorem dX10_crate_17 : decode cX10_crate 17 = .ok (.ldc 89, 2) := by decide +kernel
theorem dX10_crate_19 : decode cX10_crate 19 = .ok (.ireturn, 1) := by decide +kernel
theorem dX10_crate_20 : decode cX10_crate 20 = .ok (.aload_n 0, 1) := by decide +kernel
theorem dX10_crate_21 : decode cX10_crate 21 = .ok (.getfield 26, 3) := by decide +kernel
theorem dX10_crate_24 : decode cX10_crate 24 = .ok (.getfield 177, 3) := by decide +kernel
theorem dX10_crate_27 : decode cX10_crate 27 = .ok (.bipush 12, 2) := by decide +kernel
theorem dX10_crate_29 : decode cX10_crate 29 = .ok (.if_icmp .lt 6, 3) := by decide +kernel
theorem dX10_crate_35 : decode cX10_crate 35 = .ok (.aload_n 0, 1) := by decide +kernel
theorem dX10_crate_36 : decode cX10_crate 36 = .ok (.getfield 26, 3) := by decide +kernel
theorem dX10_crate_39 : decode cX10_crate 39 = .ok (.iload_n 1, 1) := by decide +kernel
theorem dX10_crate_40 : decode cX10_crate 40 = .ok (.iload_n 2, 1) := by decide +kernel
theorem dX10_crate_41 : decode cX10_crate 41 = .ok (.invokevirtual 178, 3) := by decide +kernel
theorem dX10_crate_44 : decode cX10_crate 44 = .ok (.ireturn, 1) := by decide +kernel
set_option maxRecDepth 20000 in
theorem ggX10_room_X10_isBelow : GoodIn wsX10_room wsX10_isBelow := goodIn_r _ [9] (by decide +kernel) (by decide +kernel)
set_option maxRecDepth 20000 in
theorem gX10_room_X10_isBelow : GoodIn wsX10_room (va_wsS RX10 85 yX10_isBelow wsX10_isBelow) := goodIn_app (goodIn_of _ (by decide +kernel)) ggX10_room_X10_isBelow
set_option maxRecDepth 20000 in
theorem ggX10_room_X10_isFrom : GoodIn wsX10_room wsX10_isFrom := goodIn_r _ [12] (by decide +kernel) (by decide +kernel)
set_option maxRecDepth 20000 in
theorem gX10_room_X10_isFrom : GoodIn wsX10_room (va_wsS RX10 135 yX10_isFrom wsX10_isFrom) := goodIn_app (goodIn_of _ (by decide +kernel)) ggX10_room_X10_isFrom
theorem dX10_room_0 : decode cX10_room 0 = .ok (.iload_n 1, 1) := by decide +kernel
theorem dX10_room_1 : decode cX10_room 1 = .ok (.bipush 6, 2) := by decide +kernel
theorem dX10_room_3 : decode cX10_room 3 = .ok (.invokestatic 85, 3) := by decide +kernel
theorem dX10_room_6 : decode cX10_room 6 = .ok (.ifCond .eq 30, 3) := by decide +kernel
theorem dX10_room_9 : decode cX10_room 9 = .ok (.iload_n 2, 1) := by decide +kernel
theorem dX10_room_10 : decode cX10_room 10 = .ok (.iconst 2, 1) := by decide +kernel
theorem dX10_room_11 : decode cX10_room 11 = .ok (.invokestatic 85, 3) := by decide +kernel
theorem dX10_room_14 : decode cX10_room 14 = .ok (.ifCond .eq 22, 3) := by decide +kernel
theorem dX10_room_17 : decode cX10_room 17 = .ok (.iload_n 3, 1) := by decide +kernel
theorem dX10_room_18 : decode cX10_room 18 = .ok (.iconst 0, 1) := by decide +kernel
theorem dX10_room_19 : decode cX10_room 19 = .ok (.iload_n 2, 1) := by decide +kernel
theorem dX10_room_20 : decode cX10_room 20 = .ok (.ifCond .ne 8, 3) := by decide +kernel
theorem dX10_room_23 : decode cX10_room 23 = .ok (.bipush 12, 2) := by decide +kernel
theorem dX10_room_25 : decode cX10_room 25 = .ok (.goto 5, 3) := by decide +kernel
theorem dX10_room_28 : decode cX10_room 28 = .ok (.ldc 248, 2) := by decide +kernel
theorem dX10_room_30 : decode cX10_room 30 = .ok (.invokestatic 135, 3) := by decide +kernel
theorem dX10_room_33 : decode cX10_room 33 = .ok (.ifCond .ne 6, 3) := by decide +kernel
theorem dX10_room_36 : decode cX10_room 36 = .ok (.ldc 89, 2) := by decide +kernel
theorem dX10_room_38 : decode cX10_room 38 = .ok (.ireturn, 1) := by decide +kernel
theorem dX10_room_39 : decode cX10_room 39 = .ok (.iload_n 2, 1) := by decide +kernel
theorem dX10_room_40 : decode cX10_room 40 = .ok (.ifCond .ne 13, 3) := by decide +kernel
theorem dX10_room_43 : decode cX10_room 43 = .ok (.aload_n 0, 1) := by decide +kernel
theorem dX10_room_44 : decode cX10_room 44 = .ok (.getfield 26, 3) := by decide +kernel
theorem dX10_room_47 : decode cX10_room 47 = .ok (.getfield 249, 3) := by decide +kernel
theorem dX10_room_50 : decode cX10_room 50 = .ok (.goto 10, 3) := by decide +kernel
theorem dX10_room_53 : decode cX10_room 53 = .ok (.aload_n 0, 1) := by decide +kernel
theorem dX10_room_54 : decode cX10_room 54 = .ok (.getfield 26, 3) := by decide +kernel
theorem dX10_room_57 : decode cX10_room 57 = .ok (.getfield 252, 3) := by decide +kernel
theorem dX10_room_60 : decode cX10_room 60 = .ok (.astore 4, 2) := by decide +kernel
theorem dX10_room_62 : decode cX10_room 62 = .ok (.aload 4, 2) := by decide +kernel
theorem dX10_room_64 : decode cX10_room 64 = .ok (.iload_n 1, 1) := by decide +kernel
theorem dX10_room_65 : decode cX10_room 65 = .ok (.iaload, 1) := by decide +kernel
theorem dX10_room_66 : decode cX10_room 66 = .ok (.istore 5, 2) := by decide +kernel
theorem dX10_room_68 : decode cX10_room 68 = .ok (.aload 4, 2) := by decide +kernel
theorem dX10_room_70 : decode cX10_room 70 = .ok (.iload_n 1, 1) := by decide +kernel
theorem dX10_room_71 : decode cX10_room 71 = .ok (.iload_n 3, 1) := by decide +kernel
theorem dX10_room_72 : decode cX10_room 72 = .ok (.iastore, 1) := by decide +kernel
theorem dX10_room_73 : decode cX10_room 73 = .ok (.iload 5, 2) := by decide +kernel
theorem dX10_room_75 : decode cX10_room 75 = .ok (.ireturn, 1) := by decide +kernel
set_option maxRecDepth 20000 in
theorem ggX10_inside_X10_isBelow : GoodIn wsX10_inside wsX10_isBelow := goodIn_r _ [6] (by decide +kernel) (by decide +kernel)
set_option maxRecDepth 20000 in
theorem gX10_inside_X10_isBelow : GoodIn wsX10_inside (va_wsS RX10 85 yX10_isBelow wsX10_isBelow) := goodIn_app (goodIn_of _ (by decide +kernel)) ggX10_inside_X10_isBelow
set_option maxRecDepth 20000 in
theorem ggX10_inside_X1_setIn : GoodIn wsX10_inside wsX1_setIn := goodIn_r _ [11, 12, 13, 42, 43, 44, 45, 46, 47] (by decide +kernel) (by decide +kernel)
set_option maxRecDepth 20000 in
theorem gX10_inside_X1_setIn : GoodIn wsX10_inside (wsV RX10 262 RX1 yX1_setIn wsX1_setIn) := goodIn_app (goodIn_of _ (by decide +kernel)) ggX10_inside_X1_setIn
set_option maxRecDepth 20000 in
theorem ggX10_inside_J6_bitCount_0f7a4 : GoodIn wsX10_inside wsJ6_bitCount_0f7a4 := goodIn_r _ [17, 18, 19, 20] (by decide +kernel) (by decide +kernel)
set_option maxRecDepth 20000 in
theorem gX10_inside_J6_bitCount_0f7a4 : GoodIn wsX10_inside (va_wsS RX10 265 yJ6_bitCount_0f7a4 wsJ6_bitCount_0f7a4) := goodIn_app (goodIn_of _ (by decide +kernel)) ggX10_inside_J6_bitCount_0f7a4
set_option maxRecDepth 20000 in
theorem ggX10_inside_X1_worthsOf : GoodIn wsX10_inside wsX1_worthsOf := goodIn_r _ [24, 12, 25, 26, 5, 27, 42, 43, 44, 45, 46, 47] (by decide +kernel) (by decide +kernel)
set_option maxRecDepth 20000 in
theorem gX10_inside_X1_worthsOf : GoodIn wsX10_inside (wsV RX10 270 RX1 yX1_worthsOf wsX1_worthsOf) := goodIn_app (goodIn_of _ (by decide +kernel)) ggX10_inside_X1_worthsOf
theorem dX10_inside_0 : decode cX10_inside 0 = .ok (.iload_n 1, 1) := by decide +kernel
theorem dX10_inside_1 : decode cX10_inside 1 = .ok (.bipush 6, 2) := by decide +kernel
theorem dX10_inside_3 : decode cX10_inside 3 = .ok (.invokestatic 85, 3) := by decide +kernel
theorem dX10_inside_6 : decode cX10_inside 6 = .ok (.ifCond .eq 11, 3) := by decide +kernel
theorem dX10_inside_9 : decode cX10_inside 9 = .ok (.iload_n 2, 1) := by decide +kernel
theorem dX10_inside_10 : decode cX10_inside 10 = .ok (.iconst 3, 1) := by decide +kernel
theorem dX10_inside_11 : decode cX10_inside 11 = .ok (.invokestatic 85, 3) := by decide +kernel
theorem dX10_inside_14 : decode cX10_inside 14 = .ok (.ifCond .ne 6, 3) := by decide +kernel
theorem dX10_inside_17 : decode cX10_inside 17 = .ok (.ldc 89, 2) := by decide +kernel
theorem dX10_inside_19 : decode cX10_inside 19 = .ok (.ireturn, 1) := by decide +kernel
theorem dX10_inside_20 : decode cX10_inside 20 = .ok (.aload_n 0, 1) := by decide +kernel
theorem dX10_inside_21 : decode cX10_inside 21 = .ok (.getfield 26, 3) := by decide +kernel
theorem dX10_inside_24 : decode cX10_inside 24 = .ok (.iload_n 1, 1) := by decide +kernel
theorem dX10_inside_25 : decode cX10_inside 25 = .ok (.invokevirtual 262, 3) := by decide +kernel
theorem dX10_inside_28 : decode cX10_inside 28 = .ok (.istore_n 3, 1) := by decide +kernel
theorem dX10_inside_29 : decode cX10_inside 29 = .ok (.iload_n 2, 1) := by decide +kernel
theorem dX10_inside_30 : decode cX10_inside 30 = .ok (.ifCond .ne 8, 3) := by decide +kernel
theorem dX10_inside_33 : decode cX10_inside 33 = .ok (.iload_n 3, 1) := by decide +kernel
theorem dX10_inside_34 : decode cX10_inside 34 = .ok (.invokestatic 265, 3) := by decide +kernel
theorem dX10_inside_37 : decode cX10_inside 37 = .ok (.ireturn, 1) := by decide +kernel
theorem dX10_inside_38 : decode cX10_inside 38 = .ok (.iload_n 2, 1) := by decide +kernel
theorem dX10_inside_39 : decode cX10_inside 39 = .ok (.iconst 1, 1) := by decide +kernel
theorem dX10_inside_40 : decode cX10_inside 40 = .ok (.if_icmp .ne 14, 3) := by decide +kernel
theorem dX10_inside_43 : decode cX10_inside 43 = .ok (.aload_n 0, 1) := by decide +kernel
theorem dX10_inside_44 : decode cX10_inside 44 = .ok (.getfield 26, 3) := by decide +kernel
theorem dX10_inside_47 : decode cX10_inside 47 = .ok (.iload_n 3, 1) := by decide +kernel
theorem dX10_inside_48 : decode cX10_inside 48 = .ok (.invokevirtual 270, 3) := by decide +kernel
theorem dX10_inside_51 : decode cX10_inside 51 = .ok (.goto 4, 3) := by decide +kernel
theorem dX10_inside_54 : decode cX10_inside 54 = .ok (.iload_n 3, 1) := by decide +kernel
theorem dX10_inside_55 : decode cX10_inside 55 = .ok (.ireturn, 1) := by decide +kernel
set_option maxRecDepth 20000 in
theorem ggX10_drawn_X10_isDay : GoodIn wsX10_drawn wsX10_isDay := goodIn_r _ [7, 8, 9, 6, 10] (by decide +kernel) (by decide +kernel)
set_option maxRecDepth 20000 in
theorem gX10_drawn_X10_isDay : GoodIn wsX10_drawn (va_wsS RX10 138 yX10_isDay wsX10_isDay) := goodIn_app (goodIn_of _ (by decide +kernel)) ggX10_drawn_X10_isDay
set_option maxRecDepth 20000 in
theorem ggX10_drawn_X10_isFrom : GoodIn wsX10_drawn wsX10_isFrom := goodIn_r _ [13] (by decide +kernel) (by decide +kernel)
set_option maxRecDepth 20000 in
theorem gX10_drawn_X10_isFrom : GoodIn wsX10_drawn (va_wsS RX10 135 yX10_isFrom wsX10_isFrom) := goodIn_app (goodIn_of _ (by decide +kernel)) ggX10_drawn_X10_isFrom
set_option maxRecDepth 20000 in
theorem ggX10_drawn_X1_setInRooms : GoodIn wsX10_drawn wsX1_setInRooms := goodIn_r _ [18, 19, 20, 21, 22, 23, 17, 24, 25, 63, 64, 65, 66, 67, 68] (by decide +kernel) (by decide +kernel)
set_option maxRecDepth 20000 in
theorem gX10_drawn_X1_setInRooms : GoodIn wsX10_drawn (wsV RX10 277 RX1 yX1_setInRooms wsX1_setInRooms) := goodIn_app (goodIn_of _ (by decide +kernel)) ggX10_drawn_X1_setInRooms
set_option maxRecDepth 20000 in
theorem ggX10_drawn_X5_drawLots : GoodIn wsX10_drawn wsX5_drawLots := goodIn_r _ [30, 31, 32, 6, 33, 34, 35, 36, 29, 37, 38, 39, 40, 41, 42, 43, 69, 70] (by decide +kernel) (by decide +kernel)
set_option maxRecDepth 20000 in
theorem gX10_drawn_X5_drawLots : GoodIn wsX10_drawn (wsV RX10 280 RX5 yX5_drawLots wsX5_drawLots) := goodIn_app (goodIn_of _ (by decide +kernel)) ggX10_drawn_X5_drawLots
set_option maxRecDepth 20000 in
theorem ggX10_drawn_X10_hasBit : GoodIn wsX10_drawn wsX10_hasBit := goodIn_r _ [33] (by decide +kernel) (by decide +kernel)
set_option maxRecDepth 20000 in
theorem gX10_drawn_X10_hasBit : GoodIn wsX10_drawn (va_wsS RX10 173 yX10_hasBit wsX10_hasBit) := goodIn_app (goodIn_of _ (by decide +kernel)) ggX10_drawn_X10_hasBit
theorem dX10_drawn_0 : decode cX10_drawn 0 = .ok (.iload_n 1, 1) := by decide +kernel
theorem dX10_drawn_1 : decode cX10_drawn 1 = .ok (.invokestatic 138, 3) := by decide +kernel
theorem dX10_drawn_4 : decode cX10_drawn 4 = .ok (.ifCond .eq 13, 3) := by decide +kernel
theorem dX10_drawn_7 : decode cX10_drawn 7 = .ok (.iload_n 2, 1) := by decide +kernel
theorem dX10_drawn_8 : decode cX10_drawn 8 = .ok (.iconst 0, 1) := by decide +kernel
theorem dX10_drawn_9 : decode cX10_drawn 9 = .ok (.bipush 12, 2) := by decide +kernel
theorem dX10_drawn_11 : decode cX10_drawn 11 = .ok (.invokestatic 135, 3) := by decide +kernel
theorem dX10_drawn_14 : decode cX10_drawn 14 = .ok (.ifCond .ne 6, 3) := by decide +kernel
theorem dX10_drawn_17 : decode cX10_drawn 17 = .ok (.ldc 89, 2) := by decide +kernel
theorem dX10_drawn_19 : decode cX10_drawn 19 = .ok (.ireturn, 1) := by decide +kernel
theorem dX10_drawn_20 : decode cX10_drawn 20 = .ok (.aload_n 0, 1) := by decide +kernel
theorem dX10_drawn_21 : decode cX10_drawn 21 = .ok (.getfield 26, 3) := by decide +kernel
theorem dX10_drawn_24 : decode cX10_drawn 24 = .ok (.invokevirtual 277, 3) := by decide +kernel
theorem dX10_drawn_27 : decode cX10_drawn 27 = .ok (.istore_n 3, 1) := by decide +kernel
theorem dX10_drawn_28 : decode cX10_drawn 28 = .ok (.aload_n 0, 1) := by decide +kernel
theorem dX10_drawn_29 : decode cX10_drawn 29 = .ok (.getfield 81, 3) := by decide +kernel
theorem dX10_drawn_32 : decode cX10_drawn 32 = .ok (.iload_n 3, 1) := by decide +kernel
theorem dX10_drawn_33 : decode cX10_drawn 33 = .ok (.iload_n 1, 1) := by decide +kernel
theorem dX10_drawn_34 : decode cX10_drawn 34 = .ok (.invokevirtual 280, 3) := by decide +kernel
theorem dX10_drawn_37 : decode cX10_drawn 37 = .ok (.iconst 0, 1) := by decide +kernel
theorem dX10_drawn_38 : decode cX10_drawn 38 = .ok (.istore 4, 2) := by decide +kernel
theorem dX10_drawn_40 : decode cX10_drawn 40 = .ok (.iconst 0, 1) := by decide +kernel
theorem dX10_drawn_41 : decode cX10_drawn 41 = .ok (.istore 5, 2) := by decide +kernel
theorem dX10_drawn_43 : decode cX10_drawn 43 = .ok (.iload 5, 2) := by decide +kernel
theorem dX10_drawn_45 : decode cX10_drawn 45 = .ok (.bipush 12, 2) := by decide +kernel
theorem dX10_drawn_47 : decode cX10_drawn 47 = .ok (.if_icmp .ge 41, 3) := by decide +kernel
theorem dX10_drawn_50 : decode cX10_drawn 50 = .ok (.iload_n 3, 1) := by decide +kernel
theorem dX10_drawn_51 : decode cX10_drawn 51 = .ok (.iload 5, 2) := by decide +kernel
theorem dX10_drawn_53 : decode cX10_drawn 53 = .ok (.invokestatic 173, 3) := by decide +kernel
theorem dX10_drawn_56 : decode cX10_drawn 56 = .ok (.ifCond .eq 26, 3) := by decide +kernel
theorem dX10_drawn_82 : decode cX10_drawn 82 = .ok (.iinc 5 1, 3) := by decide +kernel
theorem dX10_drawn_85 : decode cX10_drawn 85 = .ok (.goto (-42), 3) := by decide +kernel
theorem dX10_drawn_88 : decode cX10_drawn 88 = .ok (.iload 4, 2) := by decide +kernel
theorem dX10_drawn_90 : decode cX10_drawn 90 = .ok (.ireturn, 1) := by decide +kernel
set_option maxRecDepth 20000 in
theorem ggX10_list_X10_isPerson : GoodIn wsX10_list wsX10_isPerson := goodIn_r _ [8, 9, 10, 7, 11] (by decide +kernel) (by decide +kernel)
set_option maxRecDepth 20000 in
theorem gX10_list_X10_isPerson : GoodIn wsX10_list (va_wsS RX10 160 yX10_isPerson wsX10_isPerson) := goodIn_app (goodIn_of _ (by decide +kernel)) ggX10_list_X10_isPerson
set_option maxRecDepth 20000 in
theorem ggX10_list_X10_areDays : GoodIn wsX10_list wsX10_areDays := goodIn_r _ [14, 15, 16, 7, 17, 9, 10, 11] (by decide +kernel) (by decide +kernel)
set_option maxRecDepth 20000 in
theorem gX10_list_X10_areDays : GoodIn wsX10_list (va_wsS RX10 183 yX10_areDays wsX10_areDays) := goodIn_app (goodIn_of _ (by decide +kernel)) ggX10_list_X10_areDays
set_option maxRecDepth 20000 in
theorem ggX10_list_X4_tell : GoodIn wsX10_list wsX4_tell := goodIn_r _ [22, 23, 24, 25, 26, 41, 42, 43, 44] (by decide +kernel) (by decide +kernel)
set_option maxRecDepth 20000 in
theorem gX10_list_X4_tell : GoodIn wsX10_list (wsV RX10 293 RX4 yX4_tell wsX4_tell) := goodIn_app (goodIn_of _ (by decide +kernel)) ggX10_list_X4_tell
theorem dX10_list_0 : decode cX10_list 0 = .ok (.iload_n 1, 1) := by decide +kernel
theorem dX10_list_1 : decode cX10_list 1 = .ok (.invokestatic 160, 3) := by decide +kernel
theorem dX10_list_4 : decode cX10_list 4 = .ok (.ifCond .eq 11, 3) := by decide +kernel
theorem dX10_list_7 : decode cX10_list 7 = .ok (.iload_n 2, 1) := by decide +kernel
theorem dX10_list_8 : decode cX10_list 8 = .ok (.iload_n 3, 1) := by decide +kernel
theorem dX10_list_9 : decode cX10_list 9 = .ok (.invokestatic 183, 3) := by decide +kernel
theorem dX10_list_12 : decode cX10_list 12 = .ok (.ifCond .ne 6, 3) := by decide +kernel
theorem dX10_list_15 : decode cX10_list 15 = .ok (.ldc 89, 2) := by decide +kernel
theorem dX10_list_17 : decode cX10_list 17 = .ok (.ireturn, 1) := by decide +kernel
theorem dX10_list_18 : decode cX10_list 18 = .ok (.aload_n 0, 1) := by decide +kernel
theorem dX10_list_19 : decode cX10_list 19 = .ok (.getfield 68, 3) := by decide +kernel
theorem dX10_list_22 : decode cX10_list 22 = .ok (.getfield 292, 3) := by decide +kernel
theorem dX10_list_25 : decode cX10_list 25 = .ok (.bipush 20, 2) := by decide +kernel
theorem dX10_list_27 : decode cX10_list 27 = .ok (.if_icmp .lt 6, 3) := by decide +kernel
theorem dX10_list_33 : decode cX10_list 33 = .ok (.aload_n 0, 1) := by decide +kernel
theorem dX10_list_34 : decode cX10_list 34 = .ok (.getfield 68, 3) := by decide +kernel
theorem dX10_list_37 : decode cX10_list 37 = .ok (.iload_n 1, 1) := by decide +kernel
theorem dX10_list_38 : decode cX10_list 38 = .ok (.iload_n 2, 1) := by decide +kernel
theorem dX10_list_39 : decode cX10_list 39 = .ok (.iload_n 3, 1) := by decide +kernel
theorem dX10_list_40 : decode cX10_list 40 = .ok (.invokevirtual 293, 3) := by decide +kernel
theorem dX10_list_43 : decode cX10_list 43 = .ok (.ireturn, 1) := by decide +kernel
set_option maxRecDepth 20000 in
theorem ggX10_trace_X10_isBelow : GoodIn wsX10_trace wsX10_isBelow := goodIn_r _ [7] (by decide +kernel) (by decide +kernel)
set_option maxRecDepth 20000 in
theorem gX10_trace_X10_isBelow : GoodIn wsX10_trace (va_wsS RX10 85 yX10_isBelow wsX10_isBelow) := goodIn_app (goodIn_of _ (by decide +kernel)) ggX10_trace_X10_isBelow
theorem dX10_trace_0 : decode cX10_trace 0 = .ok (.iload_n 1, 1) := by decide +kernel
theorem dX10_trace_1 : decode cX10_trace 1 = .ok (.aload_n 0, 1) := by decide +kernel
theorem dX10_trace_2 : decode cX10_trace 2 = .ok (.getfield 307, 3) := by decide +kernel
theorem dX10_trace_5 : decode cX10_trace 5 = .ok (.invokestatic 85, 3) := by decide +kernel
theorem dX10_trace_8 : decode cX10_trace 8 = .ok (.ifCond .eq 12, 3) := by decide +kernel
theorem dX10_trace_20 : decode cX10_trace 20 = .ok (.ldc 169, 2) := by decide +kernel
theorem dX10_trace_22 : decode cX10_trace 22 = .ok (.ireturn, 1) := by decide +kernel
theorem dJ6_bitCount_0f7a4_0 : decode cJ6_bitCount_0f7a4 0 = .ok (.iload_n 0, 1) := by decide +kernel
theorem dJ6_bitCount_0f7a4_1 : decode cJ6_bitCount_0f7a4 1 = .ok (.iload_n 0, 1) := by decide +kernel
theorem dJ6_bitCount_0f7a4_2 : decode cJ6_bitCount_0f7a4 2 = .ok (.iconst 1, 1) := by decide +kernel
theorem dJ6_bitCount_0f7a4_3 : decode cJ6_bitCount_0f7a4 3 = .ok (.iushr, 1) := by decide +kernel
theorem dJ6_bitCount_0f7a4_4 : decode cJ6_bitCount_0f7a4 4 = .ok (.ldc_w 265, 3) := by decide +kernel
theorem dJ6_bitCount_0f7a4_7 : decode cJ6_bitCount_0f7a4 7 = .ok (.iand, 1) := by decide +kernel
theorem dJ6_bitCount_0f7a4_8 : decode cJ6_bitCount_0f7a4 8 = .ok (.isub, 1) := by decide +kernel
theorem dJ6_bitCount_0f7a4_9 : decode cJ6_bitCount_0f7a4 9 = .ok (.istore_n 0, 1) := by decide +kernel
theorem dJ6_bitCount_0f7a4_10 : decode cJ6_bitCount_0f7a4 10 = .ok (.iload_n 0, 1) := by decide +kernel
theorem dJ6_bitCount_0f7a4_11 : decode cJ6_bitCount_0f7a4 11 = .ok (.ldc_w 266, 3) := by decide +kernel
theorem dJ6_bitCount_0f7a4_14 : decode cJ6_bitCount_0f7a4 14 = .ok (.iand, 1) := by decide +kernel
theorem dJ6_bitCount_0f7a4_15 : decode cJ6_bitCount_0f7a4 15 = .ok (.iload_n 0, 1) := by decide +kernel
theorem dJ6_bitCount_0f7a4_16 : decode cJ6_bitCount_0f7a4 16 = .ok (.iconst 2, 1) := by decide +kernel
theorem dJ6_bitCount_0f7a4_17 : decode cJ6_bitCount_0f7a4 17 = .ok (.iushr, 1) := by decide +kernel
theorem dJ6_bitCount_0f7a4_18 : decode cJ6_bitCount_0f7a4 18 = .ok (.ldc_w 266, 3) := by decide +kernel
theorem dJ6_bitCount_0f7a4_21 : decode cJ6_bitCount_0f7a4 21 = .ok (.iand, 1) := by decide +kernel
theorem dJ6_bitCount_0f7a4_22 : decode cJ6_bitCount_0f7a4 22 = .ok (.iadd, 1) := by decide +kernel
theorem dJ6_bitCount_0f7a4_23 : decode cJ6_bitCount_0f7a4 23 = .ok (.istore_n 0, 1) := by decide +kernel
theorem dJ6_bitCount_0f7a4_24 : decode cJ6_bitCount_0f7a4 24 = .ok (.iload_n 0, 1) := by decide +kernel
theorem dJ6_bitCount_0f7a4_25 : decode cJ6_bitCount_0f7a4 25 = .ok (.iload_n 0, 1) := by decide +kernel
theorem dJ6_bitCount_0f7a4_26 : decode cJ6_bitCount_0f7a4 26 = .ok (.iconst 4, 1) := by decide +kernel
theorem dJ6_bitCount_0f7a4_27 : decode cJ6_bitCount_0f7a4 27 = .ok (.iushr, 1) := by decide +kernel
theorem dJ6_bitCount_0f7a4_28 : decode cJ6_bitCount_0f7a4 28 = .ok (.iadd, 1) := by decide +kernel
theorem dJ6_bitCount_0f7a4_29 : decode cJ6_bitCount_0f7a4 29 = .ok (.ldc_w 267, 3) := by decide +kernel
theorem dJ6_bitCount_0f7a4_32 : decode cJ6_bitCount_0f7a4 32 = .ok (.iand, 1) := by decide +kernel
theorem dJ6_bitCount_0f7a4_33 : decode cJ6_bitCount_0f7a4 33 = .ok (.istore_n 0, 1) := by decide +kernel
theorem dJ6_bitCount_0f7a4_34 : decode cJ6_bitCount_0f7a4 34 = .ok (.iload_n 0, 1) := by decide +kernel
theorem dJ6_bitCount_0f7a4_35 : decode cJ6_bitCount_0f7a4 35 = .ok (.iload_n 0, 1) := by decide +kernel
theorem dJ6_bitCount_0f7a4_36 : decode cJ6_bitCount_0f7a4 36 = .ok (.bipush 8, 2) := by decide +kernel
theorem dJ6_bitCount_0f7a4_38 : decode cJ6_bitCount_0f7a4 38 = .ok (.iushr, 1) := by decide +kernel
theorem dJ6_bitCount_0f7a4_39 : decode cJ6_bitCount_0f7a4 39 = .ok (.iadd, 1) := by decide +kernel
theorem dJ6_bitCount_0f7a4_40 : decode cJ6_bitCount_0f7a4 40 = .ok (.istore_n 0, 1) := by decide +kernel
theorem dJ6_bitCount_0f7a4_41 : decode cJ6_bitCount_0f7a4 41 = .ok (.iload_n 0, 1) := by decide +kernel
theorem dJ6_bitCount_0f7a4_42 : decode cJ6_bitCount_0f7a4 42 = .ok (.iload_n 0, 1) := by decide +kernel
theorem dJ6_bitCount_0f7a4_43 : decode cJ6_bitCount_0f7a4 43 = .ok (.bipush 16, 2) := by decide +kernel
theorem dJ6_bitCount_0f7a4_45 : decode cJ6_bitCount_0f7a4 45 = .ok (.iushr, 1) := by decide +kernel
theorem dJ6_bitCount_0f7a4_46 : decode cJ6_bitCount_0f7a4 46 = .ok (.iadd, 1) := by decide +kernel
theorem dJ6_bitCount_0f7a4_47 : decode cJ6_bitCount_0f7a4 47 = .ok (.istore_n 0, 1) := by decide +kernel
theorem dJ6_bitCount_0f7a4_48 : decode cJ6_bitCount_0f7a4 48 = .ok (.iload_n 0, 1) := by decide +kernel
theorem dJ6_bitCount_0f7a4_49 : decode cJ6_bitCount_0f7a4 49 = .ok (.bipush 63, 2) := by decide +kernel
theorem dJ6_bitCount_0f7a4_51 : decode cJ6_bitCount_0f7a4 51 = .ok (.iand, 1) := by decide +kernel
theorem dJ6_bitCount_0f7a4_52 : decode cJ6_bitCount_0f7a4 52 = .ok (.ireturn, 1) := by decide +kernel
set_option maxHeartbeats 4000000 in
set_option maxRecDepth 100000 in
theorem ct_X1_tell (l : Launch) (D : va_G) (cI cY cJ cQ : ClassId) (sz : Nat) (ad : Nat → Nat) (o w : Int32)   : Met l yX1_tell wsX1_tell ({ frames := 0, cells := 0, slots := 0, locals := 0 }) (cPre D (ty4 cI cY cJ cQ) [((ad 3), .inr (1, [.ref (ad 31), .ref (ad 32), .ref (ad 33), .int 0, .ref (ad 34), .ref (ad 35)])), ((ad 31), .inl (cI, 12, .inl (fun _ => 0))), ((ad 32), .inl (cI, 12, .inl (fun _ => 0)))] sz [.ref (ad 3), .int o, .int w]) (va_Qi (fun (r : Int32) (u : Unit) => r = 0) (cB D (ty4 cI cY cJ cQ) (fun (u : Unit) => []) (va_A [((ad 3), .inr (1, [.ref (ad 31), .ref (ad 32), .ref (ad 33), .int 0, .ref (ad 34), .ref (ad 35)])), ((ad 31), .inl (cI, 12, .inl (fun _ => 0))), ((ad 32), .inl (cI, 12, .inl (fun _ => 0)))] sz)) (va_A [((ad 3), .inr (1, [.ref (ad 31), .ref (ad 32), .ref (ad 33), .int 0, .ref (ad 34), .ref (ad 35)])), ((ad 31), .inl (cI, 12, .inl (fun _ => 0))), ((ad 32), .inl (cI, 12, .inl (fun _ => 0)))] sz)) 0 0 (va_A [((ad 3), .inr (1, [.ref (ad 31), .ref (ad 32), .ref (ad 33), .int 0, .ref (ad 34), .ref (ad 35)])), ((ad 31), .inl (cI, 12, .inl (fun _ => 0))), ((ad 32), .inl (cI, 12, .inl (fun _ => 0)))] sz) := by
  refine Met.ofW (cc := cX1_tell) (maxL := 3) (ret := (some .int)) (by decide) rfl ?_
  intro p e s m args below meth c s₁ B hml hv
  obtain ⟨rfl, hsz, hP, hK, hD0, hN⟩ := hv
  have hx := B.exec
  have hb := B.bytes
  have hr := B.returns
  have hts := atoms_spec (ws := wsX1_tell) B.pre
  have hown : s.vm.findClass RX1 = some m.cls := findClass_of_methodNamed B.named
  have hlocks := B.notSynchronized
  subst hsz
  have hD := hD0.self (sz := s.heap.size)
  generalize hAe : va_A [((ad 3), .inr (1, [.ref (ad 31), .ref (ad 32), .ref (ad 33), .int 0, .ref (ad 34), .ref (ad 35)])), ((ad 31), .inl (cI, 12, .inl (fun _ => 0))), ((ad 32), .inl (cI, 12, .inl (fun _ => 0)))] s.heap.size = A at hD ⊢
  have hA : ∀ q : Nat, s.heap.size ≤ q → A q := fun q h => by rw [← hAe]; exact Or.inr h
  have hS : va_S A s.heap s.heap [] := va_S.rf
  have hP : va_P D vwCl [((ad 3), .inr (1, [.ref (ad 31), .ref (ad 32), .ref (ad 33), .int 0, .ref (ad 34), .ref (ad 35)])), ((ad 31), .inl (cI, 12, .inl (fun _ => 0))), ((ad 32), .inl (cI, 12, .inl (fun _ => 0)))] s.heap := hP
  have hl := lv_entry ([.ref (ad 3), .int o, .int w]) (n := 3) (Nat.le_of_ble_eq_true rfl)
  rw [lg_entry_eq]
  generalize (lg_sl ([.ref (ad 3), .int o, .int w]) ++ List.replicate (3 - (lg_sl ([.ref (ad 3), .int o, .int w])).length) Slot.unset).toArray = ls at hl ⊢
  have hl : lv_has ls 3 [(0, .ref (ad 3)), (1, .int o), (2, .int w)] := hl
  have k0 : (0 : Int32).toInt = 0 := by decide
  refine lv_aload_n hx hb dX1_tell_0 rfl (lv_at hl 0 rfl) ?_
  refine va_get (D := D) (ci := 1) (v := .ref (ad 31)) (C := RX1) (T := TX1) (N := 6) hx hb hts (by decide +kernel) hown hK hP 0 rfl rfl 0 (by decide) (hts (.fieldLink RX1 9 "PortRooms$Crates" "firstOwner" "[I") (by decide +kernel)) (fun _ h9 => h9) rfl dX1_tell_1 ?_
  refine lv_aload_n hx hb dX1_tell_4 rfl (lv_at hl 0 rfl) ?_
  refine va_get (D := D) (ci := 1) (v := .int 0) (C := RX1) (T := TX1) (N := 6) hx hb hts (by decide +kernel) hown hK hP 0 rfl rfl 3 (by decide) (hts (.fieldLink RX1 35 "PortRooms$Crates" "count" "I") (by decide +kernel)) (fun _ h9 => h9) rfl dX1_tell_5 ?_
  refine lv_iload_n hx hb dX1_tell_8 rfl (lv_at hl 1 rfl) ?_
  refine va_iast hx hb hK hP hD hS 1 0 rfl rfl (i_in (by decide) (by decide)) dX1_tell_9 (fun H locs hP hD hS => ?_)
  replace hP : va_P D vwCl [((ad 3), .inr (1, [.ref (ad 31), .ref (ad 32), .ref (ad 33), .int 0, .ref (ad 34), .ref (ad 35)])), ((ad 31), .inl (cI, 12, .inl (upd (fun _ => 0) ((0 : Int32).toNatClampNeg) o))), ((ad 32), .inl (cI, 12, .inl (fun _ => 0)))] H := hP
  replace hD : va_D A [((ad 3), .inr (1, [.ref (ad 31), .ref (ad 32), .ref (ad 33), .int 0, .ref (ad 34), .ref (ad 35)])), ((ad 31), .inl (cI, 12, .inl (upd (fun _ => 0) ((0 : Int32).toNatClampNeg) o))), ((ad 32), .inl (cI, 12, .inl (fun _ => 0)))] := hD
  refine lv_aload_n hx hb dX1_tell_10 rfl (lv_at hl 0 rfl) ?_
  refine va_get (D := D) (ci := 1) (v := .ref (ad 32)) (C := RX1) (T := TX1) (N := 6) hx hb hts (by decide +kernel) hown hK hP 0 rfl rfl 1 (by decide) (hts (.fieldLink RX1 15 "PortRooms$Crates" "worth" "[I") (by decide +kernel)) (fun _ h9 => h9) rfl dX1_tell_11 ?_
  refine lv_aload_n hx hb dX1_tell_14 rfl (lv_at hl 0 rfl) ?_
  refine va_get (D := D) (ci := 1) (v := .int 0) (C := RX1) (T := TX1) (N := 6) hx hb hts (by decide +kernel) hown hK hP 0 rfl rfl 3 (by decide) (hts (.fieldLink RX1 35 "PortRooms$Crates" "count" "I") (by decide +kernel)) (fun _ h9 => h9) rfl dX1_tell_15 ?_
  refine lv_iload_n hx hb dX1_tell_18 rfl (lv_at hl 2 rfl) ?_
  refine va_iast hx hb hK hP hD hS 2 0 rfl rfl (i_in (by decide) (by decide)) dX1_tell_19 (fun H locs hP hD hS => ?_)
  replace hP : va_P D vwCl [((ad 3), .inr (1, [.ref (ad 31), .ref (ad 32), .ref (ad 33), .int 0, .ref (ad 34), .ref (ad 35)])), ((ad 31), .inl (cI, 12, .inl (upd (fun _ => 0) ((0 : Int32).toNatClampNeg) o))), ((ad 32), .inl (cI, 12, .inl (upd (fun _ => 0) ((0 : Int32).toNatClampNeg) w)))] H := hP
  replace hD : va_D A [((ad 3), .inr (1, [.ref (ad 31), .ref (ad 32), .ref (ad 33), .int 0, .ref (ad 34), .ref (ad 35)])), ((ad 31), .inl (cI, 12, .inl (upd (fun _ => 0) ((0 : Int32).toNatClampNeg) o))), ((ad 32), .inl (cI, 12, .inl (upd (fun _ => 0) ((0 : Int32).toNatClampNeg) w)))] := hD
  refine lv_aload_n hx hb dX1_tell_20 rfl (lv_at hl 0 rfl) ?_
  refine lv_dup hx hb dX1_tell_21 rfl ?_
  refine va_get (D := D) (ci := 1) (v := .int 0) (C := RX1) (T := TX1) (N := 6) hx hb hts (by decide +kernel) hown hK hP 0 rfl rfl 3 (by decide) (hts (.fieldLink RX1 35 "PortRooms$Crates" "count" "I") (by decide +kernel)) (fun _ h9 => h9) rfl dX1_tell_22 ?_
  refine lv_iconst (v := 1) hx hb dX1_tell_25 (by decide) ?_
  refine lv_iadd hx hb dX1_tell_26 ?_
  refine lv_topi (fun v1 ev1 => ?_)
  replace ev1 : v1 = 1 := ev1.trans (by decide)
  subst ev1
  refine va_put (D := D) (ci := 1) (v := .int 1) (ty := .int) (C := RX1) (T := TX1) (N := 6) hx hb hts (by decide +kernel) tyX1 tyX1_ok nmX1 hown hK hP hD hS 0 rfl rfl 3 (by decide) (hts (.fieldLink RX1 35 "PortRooms$Crates" "count" "I") (by decide +kernel)) (fun _ h9 => h9) rfl (by decide +kernel) rfl rfl (Nat.le_of_ble_eq_true rfl) dX1_tell_27 (fun H locs hP hD hS => ?_)
  replace hP : va_P D vwCl [((ad 3), .inr (1, [.ref (ad 31), .ref (ad 32), .ref (ad 33), .int 1, .ref (ad 34), .ref (ad 35)])), ((ad 31), .inl (cI, 12, .inl (upd (fun _ => 0) ((0 : Int32).toNatClampNeg) o))), ((ad 32), .inl (cI, 12, .inl (upd (fun _ => 0) ((0 : Int32).toNatClampNeg) w)))] H := hP
  replace hD : va_D A [((ad 3), .inr (1, [.ref (ad 31), .ref (ad 32), .ref (ad 33), .int 1, .ref (ad 34), .ref (ad 35)])), ((ad 31), .inl (cI, 12, .inl (upd (fun _ => 0) ((0 : Int32).toNatClampNeg) o))), ((ad 32), .inl (cI, 12, .inl (upd (fun _ => 0) ((0 : Int32).toNatClampNeg) w)))] := hD
  refine lv_aload_n hx hb dX1_tell_30 rfl (lv_at hl 0 rfl) ?_
  refine va_get (D := D) (ci := 1) (v := .int 1) (C := RX1) (T := TX1) (N := 6) hx hb hts (by decide +kernel) hown hK hP 0 rfl rfl 3 (by decide) (hts (.fieldLink RX1 35 "PortRooms$Crates" "count" "I") (by decide +kernel)) (fun _ h9 => h9) rfl dX1_tell_31 ?_
  refine lv_iconst (v := 1) hx hb dX1_tell_34 (by decide) ?_
  refine lv_isub hx hb dX1_tell_35 ?_
  refine lv_topi (fun v2 ev2 => ?_)
  replace ev2 : v2 = 0 := ev2.trans (by decide)
  subst ev2
  have hP9 := hP.sub (ws' := []) [] rfl
  have hD9 := hD.sub (ws' := []) [] (by decide) rfl
  exact W.iret (v := 0) hx hb hr (fun t ht hW => ⟨⟨0, (), rfl, rfl, by rw [ht]; exact hP9, va_K.moved hW.alike hK, hD9⟩, hS.F ht⟩) hS.2.2 dX1_tell_36

set_option maxHeartbeats 4000000 in
set_option maxRecDepth 100000 in
theorem ct_X10_crate (l : Launch) (D : va_G) (cI cY cJ cQ : ClassId) (sz : Nat) (ad : Nat → Nat) (o w : Int32)   : Met l yX10_crate wsX10_crate ({ frames := 2, cells := 0, slots := 0, locals := 41 }) (cPre D (ty4 cI cY cJ cQ) [((ad 0), .inr (10, [.ref (ad 1), .ref (ad 2), .ref (ad 3), .ref (ad 4), .ref (ad 5), .ref (ad 6), .ref (ad 7), .ref (ad 8), .ref (ad 9), .ref (ad 10), .ref (ad 11), .int 0, .int 0, .int 0])), ((ad 3), .inr (1, [.ref (ad 31), .ref (ad 32), .ref (ad 33), .int 0, .ref (ad 34), .ref (ad 35)])), ((ad 31), .inl (cI, 12, .inl (fun _ => 0))), ((ad 32), .inl (cI, 12, .inl (fun _ => 0)))] sz [.ref (ad 0), .int o, .int w]) (va_Qi (fun (r : Int32) (u : Unit) => r = an_crate o w) (cB D (ty4 cI cY cJ cQ) (fun (u : Unit) => []) (va_A [((ad 0), .inr (10, [.ref (ad 1), .ref (ad 2), .ref (ad 3), .ref (ad 4), .ref (ad 5), .ref (ad 6), .ref (ad 7), .ref (ad 8), .ref (ad 9), .ref (ad 10), .ref (ad 11), .int 0, .int 0, .int 0])), ((ad 3), .inr (1, [.ref (ad 31), .ref (ad 32), .ref (ad 33), .int 0, .ref (ad 34), .ref (ad 35)])), ((ad 31), .inl (cI, 12, .inl (fun _ => 0))), ((ad 32), .inl (cI, 12, .inl (fun _ => 0)))] sz)) (va_A [((ad 0), .inr (10, [.ref (ad 1), .ref (ad 2), .ref (ad 3), .ref (ad 4), .ref (ad 5), .ref (ad 6), .ref (ad 7), .ref (ad 8), .ref (ad 9), .ref (ad 10), .ref (ad 11), .int 0, .int 0, .int 0])), ((ad 3), .inr (1, [.ref (ad 31), .ref (ad 32), .ref (ad 33), .int 0, .ref (ad 34), .ref (ad 35)])), ((ad 31), .inl (cI, 12, .inl (fun _ => 0))), ((ad 32), .inl (cI, 12, .inl (fun _ => 0)))] sz)) 0 0 (va_A [((ad 0), .inr (10, [.ref (ad 1), .ref (ad 2), .ref (ad 3), .ref (ad 4), .ref (ad 5), .ref (ad 6), .ref (ad 7), .ref (ad 8), .ref (ad 9), .ref (ad 10), .ref (ad 11), .int 0, .int 0, .int 0])), ((ad 3), .inr (1, [.ref (ad 31), .ref (ad 32), .ref (ad 33), .int 0, .ref (ad 34), .ref (ad 35)])), ((ad 31), .inl (cI, 12, .inl (fun _ => 0))), ((ad 32), .inl (cI, 12, .inl (fun _ => 0)))] sz) := by
  refine Met.ofW (cc := cX10_crate) (maxL := 3) (ret := (some .int)) (by decide) rfl ?_
  intro p e s m args below meth c s₁ B hml hv
  obtain ⟨rfl, hsz, hP, hK, hD0, hN⟩ := hv
  have hx := B.exec
  have hb := B.bytes
  have hr := B.returns
  have hts := atoms_spec (ws := wsX10_crate) B.pre
  have hown : s.vm.findClass RX10 = some m.cls := findClass_of_methodNamed B.named
  have hlocks := B.notSynchronized
  subst hsz
  have hD := hD0.self (sz := s.heap.size)
  generalize hAe : va_A [((ad 0), .inr (10, [.ref (ad 1), .ref (ad 2), .ref (ad 3), .ref (ad 4), .ref (ad 5), .ref (ad 6), .ref (ad 7), .ref (ad 8), .ref (ad 9), .ref (ad 10), .ref (ad 11), .int 0, .int 0, .int 0])), ((ad 3), .inr (1, [.ref (ad 31), .ref (ad 32), .ref (ad 33), .int 0, .ref (ad 34), .ref (ad 35)])), ((ad 31), .inl (cI, 12, .inl (fun _ => 0))), ((ad 32), .inl (cI, 12, .inl (fun _ => 0)))] s.heap.size = A at hD ⊢
  have hA : ∀ q : Nat, s.heap.size ≤ q → A q := fun q h => by rw [← hAe]; exact Or.inr h
  have hS : va_S A s.heap s.heap [] := va_S.rf
  have hP : va_P D vwCl [((ad 0), .inr (10, [.ref (ad 1), .ref (ad 2), .ref (ad 3), .ref (ad 4), .ref (ad 5), .ref (ad 6), .ref (ad 7), .ref (ad 8), .ref (ad 9), .ref (ad 10), .ref (ad 11), .int 0, .int 0, .int 0])), ((ad 3), .inr (1, [.ref (ad 31), .ref (ad 32), .ref (ad 33), .int 0, .ref (ad 34), .ref (ad 35)])), ((ad 31), .inl (cI, 12, .inl (fun _ => 0))), ((ad 32), .inl (cI, 12, .inl (fun _ => 0)))] s.heap := hP
  have hl := lv_entry ([.ref (ad 0), .int o, .int w]) (n := 3) (Nat.le_of_ble_eq_true rfl)
  rw [lg_entry_eq]
  generalize (lg_sl ([.ref (ad 0), .int o, .int w]) ++ List.replicate (3 - (lg_sl ([.ref (ad 0), .int o, .int w])).length) Slot.unset).toArray = ls at hl ⊢
  have hl : lv_has ls 3 [(0, .ref (ad 0)), (1, .int o), (2, .int w)] := hl
  have k0 : (0 : Int32).toInt = 0 := by decide
  have k1 : (1 : Int32).toInt = 1 := by decide
  have k100000 : (100000 : Int32).toInt = 100000 := by decide
  refine lv_iload_n hx hb dX10_crate_0 rfl (lv_at hl 1 rfl) ?_
  refine st_i (wr := [((ad 0), .inr (10, [.ref (ad 1), .ref (ad 2), .ref (ad 3), .ref (ad 4), .ref (ad 5), .ref (ad 6), .ref (ad 7), .ref (ad 8), .ref (ad 9), .ref (ad 10), .ref (ad 11), .int 0, .int 0, .int 0])), ((ad 3), .inr (1, [.ref (ad 31), .ref (ad 32), .ref (ad 33), .int 0, .ref (ad 34), .ref (ad 35)])), ((ad 31), .inl (cI, 12, .inl (fun _ => 0))), ((ad 32), .inl (cI, 12, .inl (fun _ => 0)))]) (va_runS (As := [.int o]) (rest := []) ⟨hx, hb, hml, hown, hts⟩ (ct_X10_isOwner l D cI cY cJ cQ _ o) (va_cwS 1 hts gX10_crate_X10_isOwner rfl rfl rfl (by decide +kernel) ⟨Nat.le_of_ble_eq_true rfl, Nat.le_of_ble_eq_true rfl⟩) (cPreS (hP.sub [] rfl) hK (hD.sub [] (by decide) rfl) hN) rfl rfl hl.1 rfl (lv_room (Nat.le_of_ble_eq_true rfl)) dX10_crate_1 ⟨Nat.le_of_ble_eq_true rfl, Nat.le_of_ble_eq_true rfl⟩) hP hD hS hA [] [0, 1, 2, 3] rfl rfl (by decide) (by decide) (fun r3 u1 H locs hw2 hP hD hS => ?_)
  replace hP : va_P D vwCl [((ad 0), .inr (10, [.ref (ad 1), .ref (ad 2), .ref (ad 3), .ref (ad 4), .ref (ad 5), .ref (ad 6), .ref (ad 7), .ref (ad 8), .ref (ad 9), .ref (ad 10), .ref (ad 11), .int 0, .int 0, .int 0])), ((ad 3), .inr (1, [.ref (ad 31), .ref (ad 32), .ref (ad 33), .int 0, .ref (ad 34), .ref (ad 35)])), ((ad 31), .inl (cI, 12, .inl (fun _ => 0))), ((ad 32), .inl (cI, 12, .inl (fun _ => 0)))] H := hP
  replace hD : va_D A [((ad 0), .inr (10, [.ref (ad 1), .ref (ad 2), .ref (ad 3), .ref (ad 4), .ref (ad 5), .ref (ad 6), .ref (ad 7), .ref (ad 8), .ref (ad 9), .ref (ad 10), .ref (ad 11), .int 0, .int 0, .int 0])), ((ad 3), .inr (1, [.ref (ad 31), .ref (ad 32), .ref (ad 33), .int 0, .ref (ad 34), .ref (ad 35)])), ((ad 31), .inl (cI, 12, .inl (fun _ => 0))), ((ad 32), .inl (cI, 12, .inl (fun _ => 0)))] := hD
  refine lv_if_eq (tgt := 17) hx hb dX10_crate_4 (by decide) (fun c4 => ?_) (fun c4 => ?_)
  · skip
    have f5 := bo_f hw2 c4
    refine lv_ldc hx hb hown (hts (.constant RX10 89 (-1000001)) (by decide +kernel)) dX10_crate_17 ?_
    have hP9 := hP.sub (ws' := []) [] rfl
    have hD9 := hD.sub (ws' := []) [] (by decide) rfl
    exact W.iret (v := (-1000001)) hx hb hr (fun t ht hW => ⟨⟨(-1000001), (), rfl, (by unfold an_crate; (repeat' split) <;> first | rfl | (exfalso; omega)), by rw [ht]; exact hP9, va_K.moved hW.alike hK, hD9⟩, hS.F ht⟩) hS.2.2 dX10_crate_19
  · skip
    have f6 := bo_t hw2 c4
    refine lv_iload_n hx hb dX10_crate_7 rfl (lv_at hl 2 rfl) ?_
    refine lv_iconst (v := 1) hx hb dX10_crate_8 (by decide) ?_
    refine lv_ldc hx hb hown (hts (.constant RX10 176 (100000)) (by decide +kernel)) dX10_crate_9 ?_
    refine st_i (wr := [((ad 0), .inr (10, [.ref (ad 1), .ref (ad 2), .ref (ad 3), .ref (ad 4), .ref (ad 5), .ref (ad 6), .ref (ad 7), .ref (ad 8), .ref (ad 9), .ref (ad 10), .ref (ad 11), .int 0, .int 0, .int 0])), ((ad 3), .inr (1, [.ref (ad 31), .ref (ad 32), .ref (ad 33), .int 0, .ref (ad 34), .ref (ad 35)])), ((ad 31), .inl (cI, 12, .inl (fun _ => 0))), ((ad 32), .inl (cI, 12, .inl (fun _ => 0)))]) (va_runS (As := [.int w, .int 1, .int 100000]) (rest := []) ⟨hx, hb, hml, hown, hts⟩ (ct_X10_isFrom l D cI cY cJ cQ _ w (1) (100000)) (va_cwS 3 hts gX10_crate_X10_isFrom rfl rfl rfl (by decide +kernel) ⟨Nat.le_of_ble_eq_true rfl, Nat.le_of_ble_eq_true rfl⟩) (cPreS (hP.sub [] rfl) hK (hD.sub [] (by decide) rfl) hN) rfl rfl hl.1 rfl (lv_room (Nat.le_of_ble_eq_true rfl)) dX10_crate_11 ⟨Nat.le_of_ble_eq_true rfl, Nat.le_of_ble_eq_true rfl⟩) hP hD hS hA [] [0, 1, 2, 3] rfl rfl (by decide) (by decide) (fun r9 u7 H locs hw8 hP hD hS => ?_)
    replace hP : va_P D vwCl [((ad 0), .inr (10, [.ref (ad 1), .ref (ad 2), .ref (ad 3), .ref (ad 4), .ref (ad 5), .ref (ad 6), .ref (ad 7), .ref (ad 8), .ref (ad 9), .ref (ad 10), .ref (ad 11), .int 0, .int 0, .int 0])), ((ad 3), .inr (1, [.ref (ad 31), .ref (ad 32), .ref (ad 33), .int 0, .ref (ad 34), .ref (ad 35)])), ((ad 31), .inl (cI, 12, .inl (fun _ => 0))), ((ad 32), .inl (cI, 12, .inl (fun _ => 0)))] H := hP
    replace hD : va_D A [((ad 0), .inr (10, [.ref (ad 1), .ref (ad 2), .ref (ad 3), .ref (ad 4), .ref (ad 5), .ref (ad 6), .ref (ad 7), .ref (ad 8), .ref (ad 9), .ref (ad 10), .ref (ad 11), .int 0, .int 0, .int 0])), ((ad 3), .inr (1, [.ref (ad 31), .ref (ad 32), .ref (ad 33), .int 0, .ref (ad 34), .ref (ad 35)])), ((ad 31), .inl (cI, 12, .inl (fun _ => 0))), ((ad 32), .inl (cI, 12, .inl (fun _ => 0)))] := hD
    refine lv_if_ne (tgt := 20) hx hb dX10_crate_14 (by decide) (fun c10 => ?_) (fun c10 => ?_)
    · skip
      have f11 := bo_t hw8 c10
      refine lv_aload_n hx hb dX10_crate_20 rfl (lv_at hl 0 rfl) ?_
      refine va_get (D := D) (ci := 10) (v := .ref (ad 3)) (C := RX10) (T := TX10) (N := 14) hx hb hts (by decide +kernel) hown hK hP 0 rfl rfl 2 (by decide) (hts (.fieldLink RX10 26 "PortRooms" "crates" "LPortRooms$Crates;") (by decide +kernel)) (fun _ h9 => h9) rfl dX10_crate_21 ?_
      refine va_get (D := D) (ci := 1) (v := .int 0) (C := RX1) (T := TX1) (N := 6) hx hb hts (by decide +kernel) hown hK hP 1 rfl rfl 3 (by decide) (hts (.fieldLink RX10 177 "PortRooms$Crates" "count" "I") (by decide +kernel)) (fun _ h9 => h9) rfl dX10_crate_24 ?_
      refine lv_bipush (v := 12) hx hb dX10_crate_27 (by decide) ?_
      refine lv_icmp_lt (tgt := 35) hx hb dX10_crate_29 (by decide) (fun _ => ?_) (fun c => absurd (by decide) c)
      refine lv_aload_n hx hb dX10_crate_35 rfl (lv_at hl 0 rfl) ?_
      refine va_get (D := D) (ci := 10) (v := .ref (ad 3)) (C := RX10) (T := TX10) (N := 14) hx hb hts (by decide +kernel) hown hK hP 0 rfl rfl 2 (by decide) (hts (.fieldLink RX10 26 "PortRooms" "crates" "LPortRooms$Crates;") (by decide +kernel)) (fun _ h9 => h9) rfl dX10_crate_36 ?_
      refine lv_iload_n hx hb dX10_crate_39 rfl (lv_at hl 1 rfl) ?_
      refine lv_iload_n hx hb dX10_crate_40 rfl (lv_at hl 2 rfl) ?_
      refine st_i (wr := [((ad 0), .inr (10, [.ref (ad 1), .ref (ad 2), .ref (ad 3), .ref (ad 4), .ref (ad 5), .ref (ad 6), .ref (ad 7), .ref (ad 8), .ref (ad 9), .ref (ad 10), .ref (ad 11), .int 0, .int 0, .int 0]))]) (va_runV (C := RX1) (As := [.int o, .int w]) (rest := []) ⟨hx, hb, hml, hown, hts⟩ (ct_X1_tell l D cI cY cJ cQ _ ad o w) (cwV 2 hts gX10_crate_X1_tell rfl rfl rfl (by decide +kernel) ⟨Nat.le_of_ble_eq_true rfl, Nat.le_of_ble_eq_true rfl⟩) (cPreV (hP.sub [1, 2, 3] rfl) hK (hD.sub [1, 2, 3] (by decide) rfl) hN (ci := 1) (q0 := 0) rfl rfl) rfl rfl hl.1 rfl (lv_room (Nat.le_of_ble_eq_true rfl)) dX10_crate_41 ⟨Nat.le_of_ble_eq_true rfl, Nat.le_of_ble_eq_true rfl⟩) hP hD hS hA [1, 2, 3] [0] rfl rfl (by decide) (by decide) (fun r14 u12 H locs hw13 hP hD hS => ?_)
      replace hP : va_P D vwCl [((ad 0), .inr (10, [.ref (ad 1), .ref (ad 2), .ref (ad 3), .ref (ad 4), .ref (ad 5), .ref (ad 6), .ref (ad 7), .ref (ad 8), .ref (ad 9), .ref (ad 10), .ref (ad 11), .int 0, .int 0, .int 0]))] H := hP
      replace hD : va_D A [((ad 0), .inr (10, [.ref (ad 1), .ref (ad 2), .ref (ad 3), .ref (ad 4), .ref (ad 5), .ref (ad 6), .ref (ad 7), .ref (ad 8), .ref (ad 9), .ref (ad 10), .ref (ad 11), .int 0, .int 0, .int 0]))] := hD
      subst hw13
      have hP9 := hP.sub (ws' := []) [] rfl
      have hD9 := hD.sub (ws' := []) [] (by decide) rfl
      exact W.iret (v := 0) hx hb hr (fun t ht hW => ⟨⟨0, (), rfl, (by unfold an_crate; (repeat' split) <;> first | rfl | (exfalso; omega)), by rw [ht]; exact hP9, va_K.moved hW.alike hK, hD9⟩, hS.F ht⟩) hS.2.2 dX10_crate_44
    · skip
      have f15 := bo_f hw8 c10
      refine lv_ldc hx hb hown (hts (.constant RX10 89 (-1000001)) (by decide +kernel)) dX10_crate_17 ?_
      have hP9 := hP.sub (ws' := []) [] rfl
      have hD9 := hD.sub (ws' := []) [] (by decide) rfl
      exact W.iret (v := (-1000001)) hx hb hr (fun t ht hW => ⟨⟨(-1000001), (), rfl, (by unfold an_crate; (repeat' split) <;> first | rfl | (exfalso; omega)), by rw [ht]; exact hP9, va_K.moved hW.alike hK, hD9⟩, hS.F ht⟩) hS.2.2 dX10_crate_19

set_option maxHeartbeats 4000000 in
set_option maxRecDepth 100000 in
theorem ct_X4_tell (l : Launch) (D : va_G) (cI cY cJ cQ : ClassId) (sz : Nat) (ad : Nat → Nat) (q a b : Int32)   : Met l yX4_tell wsX4_tell ({ frames := 0, cells := 0, slots := 0, locals := 0 }) (cPre D (ty4 cI cY cJ cQ) [((ad 10), .inr (4, [.ref (ad 63), .ref (ad 64), .ref (ad 65), .int 0])), ((ad 63), .inl (cI, 20, .inl (fun _ => 0))), ((ad 64), .inl (cI, 20, .inl (fun _ => 0))), ((ad 65), .inl (cI, 20, .inl (fun _ => 0)))] sz [.ref (ad 10), .int q, .int a, .int b]) (va_Qi (fun (r : Int32) (u : Unit) => r = 1) (cB D (ty4 cI cY cJ cQ) (fun (u : Unit) => []) (va_A [((ad 10), .inr (4, [.ref (ad 63), .ref (ad 64), .ref (ad 65), .int 0])), ((ad 63), .inl (cI, 20, .inl (fun _ => 0))), ((ad 64), .inl (cI, 20, .inl (fun _ => 0))), ((ad 65), .inl (cI, 20, .inl (fun _ => 0)))] sz)) (va_A [((ad 10), .inr (4, [.ref (ad 63), .ref (ad 64), .ref (ad 65), .int 0])), ((ad 63), .inl (cI, 20, .inl (fun _ => 0))), ((ad 64), .inl (cI, 20, .inl (fun _ => 0))), ((ad 65), .inl (cI, 20, .inl (fun _ => 0)))] sz)) 0 0 (va_A [((ad 10), .inr (4, [.ref (ad 63), .ref (ad 64), .ref (ad 65), .int 0])), ((ad 63), .inl (cI, 20, .inl (fun _ => 0))), ((ad 64), .inl (cI, 20, .inl (fun _ => 0))), ((ad 65), .inl (cI, 20, .inl (fun _ => 0)))] sz) := by
  refine Met.ofW (cc := cX4_tell) (maxL := 4) (ret := (some .int)) (by decide) rfl ?_
  intro p e s m args below meth c s₁ B hml hv
  obtain ⟨rfl, hsz, hP, hK, hD0, hN⟩ := hv
  have hx := B.exec
  have hb := B.bytes
  have hr := B.returns
  have hts := atoms_spec (ws := wsX4_tell) B.pre
  have hown : s.vm.findClass RX4 = some m.cls := findClass_of_methodNamed B.named
  have hlocks := B.notSynchronized
  subst hsz
  have hD := hD0.self (sz := s.heap.size)
  generalize hAe : va_A [((ad 10), .inr (4, [.ref (ad 63), .ref (ad 64), .ref (ad 65), .int 0])), ((ad 63), .inl (cI, 20, .inl (fun _ => 0))), ((ad 64), .inl (cI, 20, .inl (fun _ => 0))), ((ad 65), .inl (cI, 20, .inl (fun _ => 0)))] s.heap.size = A at hD ⊢
  have hA : ∀ q : Nat, s.heap.size ≤ q → A q := fun q h => by rw [← hAe]; exact Or.inr h
  have hS : va_S A s.heap s.heap [] := va_S.rf
  have hP : va_P D vwCl [((ad 10), .inr (4, [.ref (ad 63), .ref (ad 64), .ref (ad 65), .int 0])), ((ad 63), .inl (cI, 20, .inl (fun _ => 0))), ((ad 64), .inl (cI, 20, .inl (fun _ => 0))), ((ad 65), .inl (cI, 20, .inl (fun _ => 0)))] s.heap := hP
  have hl := lv_entry ([.ref (ad 10), .int q, .int a, .int b]) (n := 4) (Nat.le_of_ble_eq_true rfl)
  rw [lg_entry_eq]
  generalize (lg_sl ([.ref (ad 10), .int q, .int a, .int b]) ++ List.replicate (4 - (lg_sl ([.ref (ad 10), .int q, .int a, .int b])).length) Slot.unset).toArray = ls at hl ⊢
  have hl : lv_has ls 4 [(0, .ref (ad 10)), (1, .int q), (2, .int a), (3, .int b)] := hl
  have k0 : (0 : Int32).toInt = 0 := by decide
  refine lv_aload_n hx hb dX4_tell_0 rfl (lv_at hl 0 rfl) ?_
  refine va_get (D := D) (ci := 4) (v := .ref (ad 63)) (C := RX4) (T := TX4) (N := 4) hx hb hts (by decide +kernel) hown hK hP 0 rfl rfl 0 (by decide) (hts (.fieldLink RX4 9 "PortRooms$Lists" "person" "[I") (by decide +kernel)) (fun _ h9 => h9) rfl dX4_tell_1 ?_
  refine lv_aload_n hx hb dX4_tell_4 rfl (lv_at hl 0 rfl) ?_
  refine va_get (D := D) (ci := 4) (v := .int 0) (C := RX4) (T := TX4) (N := 4) hx hb hts (by decide +kernel) hown hK hP 0 rfl rfl 3 (by decide) (hts (.fieldLink RX4 21 "PortRooms$Lists" "count" "I") (by decide +kernel)) (fun _ h9 => h9) rfl dX4_tell_5 ?_
  refine lv_iload_n hx hb dX4_tell_8 rfl (lv_at hl 1 rfl) ?_
  refine va_iast hx hb hK hP hD hS 1 0 rfl rfl (i_in (by decide) (by decide)) dX4_tell_9 (fun H locs hP hD hS => ?_)
  replace hP : va_P D vwCl [((ad 10), .inr (4, [.ref (ad 63), .ref (ad 64), .ref (ad 65), .int 0])), ((ad 63), .inl (cI, 20, .inl (upd (fun _ => 0) ((0 : Int32).toNatClampNeg) q))), ((ad 64), .inl (cI, 20, .inl (fun _ => 0))), ((ad 65), .inl (cI, 20, .inl (fun _ => 0)))] H := hP
  replace hD : va_D A [((ad 10), .inr (4, [.ref (ad 63), .ref (ad 64), .ref (ad 65), .int 0])), ((ad 63), .inl (cI, 20, .inl (upd (fun _ => 0) ((0 : Int32).toNatClampNeg) q))), ((ad 64), .inl (cI, 20, .inl (fun _ => 0))), ((ad 65), .inl (cI, 20, .inl (fun _ => 0)))] := hD
  refine lv_aload_n hx hb dX4_tell_10 rfl (lv_at hl 0 rfl) ?_
  refine va_get (D := D) (ci := 4) (v := .ref (ad 64)) (C := RX4) (T := TX4) (N := 4) hx hb hts (by decide +kernel) hown hK hP 0 rfl rfl 1 (by decide) (hts (.fieldLink RX4 15 "PortRooms$Lists" "from" "[I") (by decide +kernel)) (fun _ h9 => h9) rfl dX4_tell_11 ?_
  refine lv_aload_n hx hb dX4_tell_14 rfl (lv_at hl 0 rfl) ?_
  refine va_get (D := D) (ci := 4) (v := .int 0) (C := RX4) (T := TX4) (N := 4) hx hb hts (by decide +kernel) hown hK hP 0 rfl rfl 3 (by decide) (hts (.fieldLink RX4 21 "PortRooms$Lists" "count" "I") (by decide +kernel)) (fun _ h9 => h9) rfl dX4_tell_15 ?_
  refine lv_iload_n hx hb dX4_tell_18 rfl (lv_at hl 2 rfl) ?_
  refine va_iast hx hb hK hP hD hS 2 0 rfl rfl (i_in (by decide) (by decide)) dX4_tell_19 (fun H locs hP hD hS => ?_)
  replace hP : va_P D vwCl [((ad 10), .inr (4, [.ref (ad 63), .ref (ad 64), .ref (ad 65), .int 0])), ((ad 63), .inl (cI, 20, .inl (upd (fun _ => 0) ((0 : Int32).toNatClampNeg) q))), ((ad 64), .inl (cI, 20, .inl (upd (fun _ => 0) ((0 : Int32).toNatClampNeg) a))), ((ad 65), .inl (cI, 20, .inl (fun _ => 0)))] H := hP
  replace hD : va_D A [((ad 10), .inr (4, [.ref (ad 63), .ref (ad 64), .ref (ad 65), .int 0])), ((ad 63), .inl (cI, 20, .inl (upd (fun _ => 0) ((0 : Int32).toNatClampNeg) q))), ((ad 64), .inl (cI, 20, .inl (upd (fun _ => 0) ((0 : Int32).toNatClampNeg) a))), ((ad 65), .inl (cI, 20, .inl (fun _ => 0)))] := hD
  refine lv_aload_n hx hb dX4_tell_20 rfl (lv_at hl 0 rfl) ?_
  refine va_get (D := D) (ci := 4) (v := .ref (ad 65)) (C := RX4) (T := TX4) (N := 4) hx hb hts (by decide +kernel) hown hK hP 0 rfl rfl 2 (by decide) (hts (.fieldLink RX4 18 "PortRooms$Lists" "to" "[I") (by decide +kernel)) (fun _ h9 => h9) rfl dX4_tell_21 ?_
  refine lv_aload_n hx hb dX4_tell_24 rfl (lv_at hl 0 rfl) ?_
  refine va_get (D := D) (ci := 4) (v := .int 0) (C := RX4) (T := TX4) (N := 4) hx hb hts (by decide +kernel) hown hK hP 0 rfl rfl 3 (by decide) (hts (.fieldLink RX4 21 "PortRooms$Lists" "count" "I") (by decide +kernel)) (fun _ h9 => h9) rfl dX4_tell_25 ?_
  refine lv_iload_n hx hb dX4_tell_28 rfl (lv_at hl 3 rfl) ?_
  refine va_iast hx hb hK hP hD hS 3 0 rfl rfl (i_in (by decide) (by decide)) dX4_tell_29 (fun H locs hP hD hS => ?_)
  replace hP : va_P D vwCl [((ad 10), .inr (4, [.ref (ad 63), .ref (ad 64), .ref (ad 65), .int 0])), ((ad 63), .inl (cI, 20, .inl (upd (fun _ => 0) ((0 : Int32).toNatClampNeg) q))), ((ad 64), .inl (cI, 20, .inl (upd (fun _ => 0) ((0 : Int32).toNatClampNeg) a))), ((ad 65), .inl (cI, 20, .inl (upd (fun _ => 0) ((0 : Int32).toNatClampNeg) b)))] H := hP
  replace hD : va_D A [((ad 10), .inr (4, [.ref (ad 63), .ref (ad 64), .ref (ad 65), .int 0])), ((ad 63), .inl (cI, 20, .inl (upd (fun _ => 0) ((0 : Int32).toNatClampNeg) q))), ((ad 64), .inl (cI, 20, .inl (upd (fun _ => 0) ((0 : Int32).toNatClampNeg) a))), ((ad 65), .inl (cI, 20, .inl (upd (fun _ => 0) ((0 : Int32).toNatClampNeg) b)))] := hD
  refine lv_aload_n hx hb dX4_tell_30 rfl (lv_at hl 0 rfl) ?_
  refine lv_dup hx hb dX4_tell_31 rfl ?_
  refine va_get (D := D) (ci := 4) (v := .int 0) (C := RX4) (T := TX4) (N := 4) hx hb hts (by decide +kernel) hown hK hP 0 rfl rfl 3 (by decide) (hts (.fieldLink RX4 21 "PortRooms$Lists" "count" "I") (by decide +kernel)) (fun _ h9 => h9) rfl dX4_tell_32 ?_
  refine lv_iconst (v := 1) hx hb dX4_tell_35 (by decide) ?_
  refine lv_iadd hx hb dX4_tell_36 ?_
  refine lv_topi (fun v1 ev1 => ?_)
  replace ev1 : v1 = 1 := ev1.trans (by decide)
  subst ev1
  refine va_put (D := D) (ci := 4) (v := .int 1) (ty := .int) (C := RX4) (T := TX4) (N := 4) hx hb hts (by decide +kernel) tyX4 tyX4_ok nmX4 hown hK hP hD hS 0 rfl rfl 3 (by decide) (hts (.fieldLink RX4 21 "PortRooms$Lists" "count" "I") (by decide +kernel)) (fun _ h9 => h9) rfl (by decide +kernel) rfl rfl (Nat.le_of_ble_eq_true rfl) dX4_tell_37 (fun H locs hP hD hS => ?_)
  replace hP : va_P D vwCl [((ad 10), .inr (4, [.ref (ad 63), .ref (ad 64), .ref (ad 65), .int 1])), ((ad 63), .inl (cI, 20, .inl (upd (fun _ => 0) ((0 : Int32).toNatClampNeg) q))), ((ad 64), .inl (cI, 20, .inl (upd (fun _ => 0) ((0 : Int32).toNatClampNeg) a))), ((ad 65), .inl (cI, 20, .inl (upd (fun _ => 0) ((0 : Int32).toNatClampNeg) b)))] H := hP
  replace hD : va_D A [((ad 10), .inr (4, [.ref (ad 63), .ref (ad 64), .ref (ad 65), .int 1])), ((ad 63), .inl (cI, 20, .inl (upd (fun _ => 0) ((0 : Int32).toNatClampNeg) q))), ((ad 64), .inl (cI, 20, .inl (upd (fun _ => 0) ((0 : Int32).toNatClampNeg) a))), ((ad 65), .inl (cI, 20, .inl (upd (fun _ => 0) ((0 : Int32).toNatClampNeg) b)))] := hD
  refine lv_aload_n hx hb dX4_tell_40 rfl (lv_at hl 0 rfl) ?_
  refine va_get (D := D) (ci := 4) (v := .int 1) (C := RX4) (T := TX4) (N := 4) hx hb hts (by decide +kernel) hown hK hP 0 rfl rfl 3 (by decide) (hts (.fieldLink RX4 21 "PortRooms$Lists" "count" "I") (by decide +kernel)) (fun _ h9 => h9) rfl dX4_tell_41 ?_
  have hP9 := hP.sub (ws' := []) [] rfl
  have hD9 := hD.sub (ws' := []) [] (by decide) rfl
  exact W.iret (v := 1) hx hb hr (fun t ht hW => ⟨⟨1, (), rfl, rfl, by rw [ht]; exact hP9, va_K.moved hW.alike hK, hD9⟩, hS.F ht⟩) hS.2.2 dX4_tell_44

set_option maxHeartbeats 4000000 in
set_option maxRecDepth 100000 in
theorem ct_X10_list (l : Launch) (D : va_G) (cI cY cJ cQ : ClassId) (sz : Nat) (ad : Nat → Nat) (q a b : Int32)   : Met l yX10_list wsX10_list ({ frames := 3, cells := 0, slots := 0, locals := 62 }) (cPre D (ty4 cI cY cJ cQ) [((ad 0), .inr (10, [.ref (ad 1), .ref (ad 2), .ref (ad 3), .ref (ad 4), .ref (ad 5), .ref (ad 6), .ref (ad 7), .ref (ad 8), .ref (ad 9), .ref (ad 10), .ref (ad 11), .int 0, .int 0, .int 0])), ((ad 10), .inr (4, [.ref (ad 63), .ref (ad 64), .ref (ad 65), .int 0])), ((ad 63), .inl (cI, 20, .inl (fun _ => 0))), ((ad 64), .inl (cI, 20, .inl (fun _ => 0))), ((ad 65), .inl (cI, 20, .inl (fun _ => 0)))] sz [.ref (ad 0), .int q, .int a, .int b]) (va_Qi (fun (r : Int32) (u : Unit) => r = an_list q a b) (cB D (ty4 cI cY cJ cQ) (fun (u : Unit) => []) (va_A [((ad 0), .inr (10, [.ref (ad 1), .ref (ad 2), .ref (ad 3), .ref (ad 4), .ref (ad 5), .ref (ad 6), .ref (ad 7), .ref (ad 8), .ref (ad 9), .ref (ad 10), .ref (ad 11), .int 0, .int 0, .int 0])), ((ad 10), .inr (4, [.ref (ad 63), .ref (ad 64), .ref (ad 65), .int 0])), ((ad 63), .inl (cI, 20, .inl (fun _ => 0))), ((ad 64), .inl (cI, 20, .inl (fun _ => 0))), ((ad 65), .inl (cI, 20, .inl (fun _ => 0)))] sz)) (va_A [((ad 0), .inr (10, [.ref (ad 1), .ref (ad 2), .ref (ad 3), .ref (ad 4), .ref (ad 5), .ref (ad 6), .ref (ad 7), .ref (ad 8), .ref (ad 9), .ref (ad 10), .ref (ad 11), .int 0, .int 0, .int 0])), ((ad 10), .inr (4, [.ref (ad 63), .ref (ad 64), .ref (ad 65), .int 0])), ((ad 63), .inl (cI, 20, .inl (fun _ => 0))), ((ad 64), .inl (cI, 20, .inl (fun _ => 0))), ((ad 65), .inl (cI, 20, .inl (fun _ => 0)))] sz)) 0 0 (va_A [((ad 0), .inr (10, [.ref (ad 1), .ref (ad 2), .ref (ad 3), .ref (ad 4), .ref (ad 5), .ref (ad 6), .ref (ad 7), .ref (ad 8), .ref (ad 9), .ref (ad 10), .ref (ad 11), .int 0, .int 0, .int 0])), ((ad 10), .inr (4, [.ref (ad 63), .ref (ad 64), .ref (ad 65), .int 0])), ((ad 63), .inl (cI, 20, .inl (fun _ => 0))), ((ad 64), .inl (cI, 20, .inl (fun _ => 0))), ((ad 65), .inl (cI, 20, .inl (fun _ => 0)))] sz) := by
  refine Met.ofW (cc := cX10_list) (maxL := 4) (ret := (some .int)) (by decide) rfl ?_
  intro p e s m args below meth c s₁ B hml hv
  obtain ⟨rfl, hsz, hP, hK, hD0, hN⟩ := hv
  have hx := B.exec
  have hb := B.bytes
  have hr := B.returns
  have hts := atoms_spec (ws := wsX10_list) B.pre
  have hown : s.vm.findClass RX10 = some m.cls := findClass_of_methodNamed B.named
  have hlocks := B.notSynchronized
  subst hsz
  have hD := hD0.self (sz := s.heap.size)
  generalize hAe : va_A [((ad 0), .inr (10, [.ref (ad 1), .ref (ad 2), .ref (ad 3), .ref (ad 4), .ref (ad 5), .ref (ad 6), .ref (ad 7), .ref (ad 8), .ref (ad 9), .ref (ad 10), .ref (ad 11), .int 0, .int 0, .int 0])), ((ad 10), .inr (4, [.ref (ad 63), .ref (ad 64), .ref (ad 65), .int 0])), ((ad 63), .inl (cI, 20, .inl (fun _ => 0))), ((ad 64), .inl (cI, 20, .inl (fun _ => 0))), ((ad 65), .inl (cI, 20, .inl (fun _ => 0)))] s.heap.size = A at hD ⊢
  have hA : ∀ q : Nat, s.heap.size ≤ q → A q := fun q h => by rw [← hAe]; exact Or.inr h
  have hS : va_S A s.heap s.heap [] := va_S.rf
  have hP : va_P D vwCl [((ad 0), .inr (10, [.ref (ad 1), .ref (ad 2), .ref (ad 3), .ref (ad 4), .ref (ad 5), .ref (ad 6), .ref (ad 7), .ref (ad 8), .ref (ad 9), .ref (ad 10), .ref (ad 11), .int 0, .int 0, .int 0])), ((ad 10), .inr (4, [.ref (ad 63), .ref (ad 64), .ref (ad 65), .int 0])), ((ad 63), .inl (cI, 20, .inl (fun _ => 0))), ((ad 64), .inl (cI, 20, .inl (fun _ => 0))), ((ad 65), .inl (cI, 20, .inl (fun _ => 0)))] s.heap := hP
  have hl := lv_entry ([.ref (ad 0), .int q, .int a, .int b]) (n := 4) (Nat.le_of_ble_eq_true rfl)
  rw [lg_entry_eq]
  generalize (lg_sl ([.ref (ad 0), .int q, .int a, .int b]) ++ List.replicate (4 - (lg_sl ([.ref (ad 0), .int q, .int a, .int b])).length) Slot.unset).toArray = ls at hl ⊢
  have hl : lv_has ls 4 [(0, .ref (ad 0)), (1, .int q), (2, .int a), (3, .int b)] := hl
  have k0 : (0 : Int32).toInt = 0 := by decide
  refine lv_iload_n hx hb dX10_list_0 rfl (lv_at hl 1 rfl) ?_
  refine st_i (wr := [((ad 0), .inr (10, [.ref (ad 1), .ref (ad 2), .ref (ad 3), .ref (ad 4), .ref (ad 5), .ref (ad 6), .ref (ad 7), .ref (ad 8), .ref (ad 9), .ref (ad 10), .ref (ad 11), .int 0, .int 0, .int 0])), ((ad 10), .inr (4, [.ref (ad 63), .ref (ad 64), .ref (ad 65), .int 0])), ((ad 63), .inl (cI, 20, .inl (fun _ => 0))), ((ad 64), .inl (cI, 20, .inl (fun _ => 0))), ((ad 65), .inl (cI, 20, .inl (fun _ => 0)))]) (va_runS (As := [.int q]) (rest := []) ⟨hx, hb, hml, hown, hts⟩ (ct_X10_isPerson l D cI cY cJ cQ _ q) (va_cwS 1 hts gX10_list_X10_isPerson rfl rfl rfl (by decide +kernel) ⟨Nat.le_of_ble_eq_true rfl, Nat.le_of_ble_eq_true rfl⟩) (cPreS (hP.sub [] rfl) hK (hD.sub [] (by decide) rfl) hN) rfl rfl hl.1 rfl (lv_room (Nat.le_of_ble_eq_true rfl)) dX10_list_1 ⟨Nat.le_of_ble_eq_true rfl, Nat.le_of_ble_eq_true rfl⟩) hP hD hS hA [] [0, 1, 2, 3, 4] rfl rfl (by decide) (by decide) (fun r3 u1 H locs hw2 hP hD hS => ?_)
  replace hP : va_P D vwCl [((ad 0), .inr (10, [.ref (ad 1), .ref (ad 2), .ref (ad 3), .ref (ad 4), .ref (ad 5), .ref (ad 6), .ref (ad 7), .ref (ad 8), .ref (ad 9), .ref (ad 10), .ref (ad 11), .int 0, .int 0, .int 0])), ((ad 10), .inr (4, [.ref (ad 63), .ref (ad 64), .ref (ad 65), .int 0])), ((ad 63), .inl (cI, 20, .inl (fun _ => 0))), ((ad 64), .inl (cI, 20, .inl (fun _ => 0))), ((ad 65), .inl (cI, 20, .inl (fun _ => 0)))] H := hP
  replace hD : va_D A [((ad 0), .inr (10, [.ref (ad 1), .ref (ad 2), .ref (ad 3), .ref (ad 4), .ref (ad 5), .ref (ad 6), .ref (ad 7), .ref (ad 8), .ref (ad 9), .ref (ad 10), .ref (ad 11), .int 0, .int 0, .int 0])), ((ad 10), .inr (4, [.ref (ad 63), .ref (ad 64), .ref (ad 65), .int 0])), ((ad 63), .inl (cI, 20, .inl (fun _ => 0))), ((ad 64), .inl (cI, 20, .inl (fun _ => 0))), ((ad 65), .inl (cI, 20, .inl (fun _ => 0)))] := hD
  refine lv_if_eq (tgt := 15) hx hb dX10_list_4 (by decide) (fun c4 => ?_) (fun c4 => ?_)
  · skip
    have f5 := bo_f hw2 c4
    refine lv_ldc hx hb hown (hts (.constant RX10 89 (-1000001)) (by decide +kernel)) dX10_list_15 ?_
    have hP9 := hP.sub (ws' := []) [] rfl
    have hD9 := hD.sub (ws' := []) [] (by decide) rfl
    exact W.iret (v := (-1000001)) hx hb hr (fun t ht hW => ⟨⟨(-1000001), (), rfl, (by unfold an_list; (repeat' split) <;> first | rfl | (exfalso; omega)), by rw [ht]; exact hP9, va_K.moved hW.alike hK, hD9⟩, hS.F ht⟩) hS.2.2 dX10_list_17
  · skip
    have f6 := bo_t hw2 c4
    refine lv_iload_n hx hb dX10_list_7 rfl (lv_at hl 2 rfl) ?_
    refine lv_iload_n hx hb dX10_list_8 rfl (lv_at hl 3 rfl) ?_
    refine st_i (wr := [((ad 0), .inr (10, [.ref (ad 1), .ref (ad 2), .ref (ad 3), .ref (ad 4), .ref (ad 5), .ref (ad 6), .ref (ad 7), .ref (ad 8), .ref (ad 9), .ref (ad 10), .ref (ad 11), .int 0, .int 0, .int 0])), ((ad 10), .inr (4, [.ref (ad 63), .ref (ad 64), .ref (ad 65), .int 0])), ((ad 63), .inl (cI, 20, .inl (fun _ => 0))), ((ad 64), .inl (cI, 20, .inl (fun _ => 0))), ((ad 65), .inl (cI, 20, .inl (fun _ => 0)))]) (va_runS (As := [.int a, .int b]) (rest := []) ⟨hx, hb, hml, hown, hts⟩ (ct_X10_areDays l D cI cY cJ cQ _ a b) (va_cwS 2 hts gX10_list_X10_areDays rfl rfl rfl (by decide +kernel) ⟨Nat.le_of_ble_eq_true rfl, Nat.le_of_ble_eq_true rfl⟩) (cPreS (hP.sub [] rfl) hK (hD.sub [] (by decide) rfl) hN) rfl rfl hl.1 rfl (lv_room (Nat.le_of_ble_eq_true rfl)) dX10_list_9 ⟨Nat.le_of_ble_eq_true rfl, Nat.le_of_ble_eq_true rfl⟩) hP hD hS hA [] [0, 1, 2, 3, 4] rfl rfl (by decide) (by decide) (fun r9 u7 H locs hw8 hP hD hS => ?_)
    replace hP : va_P D vwCl [((ad 0), .inr (10, [.ref (ad 1), .ref (ad 2), .ref (ad 3), .ref (ad 4), .ref (ad 5), .ref (ad 6), .ref (ad 7), .ref (ad 8), .ref (ad 9), .ref (ad 10), .ref (ad 11), .int 0, .int 0, .int 0])), ((ad 10), .inr (4, [.ref (ad 63), .ref (ad 64), .ref (ad 65), .int 0])), ((ad 63), .inl (cI, 20, .inl (fun _ => 0))), ((ad 64), .inl (cI, 20, .inl (fun _ => 0))), ((ad 65), .inl (cI, 20, .inl (fun _ => 0)))] H := hP
    replace hD : va_D A [((ad 0), .inr (10, [.ref (ad 1), .ref (ad 2), .ref (ad 3), .ref (ad 4), .ref (ad 5), .ref (ad 6), .ref (ad 7), .ref (ad 8), .ref (ad 9), .ref (ad 10), .ref (ad 11), .int 0, .int 0, .int 0])), ((ad 10), .inr (4, [.ref (ad 63), .ref (ad 64), .ref (ad 65), .int 0])), ((ad 63), .inl (cI, 20, .inl (fun _ => 0))), ((ad 64), .inl (cI, 20, .inl (fun _ => 0))), ((ad 65), .inl (cI, 20, .inl (fun _ => 0)))] := hD
    refine lv_if_ne (tgt := 18) hx hb dX10_list_12 (by decide) (fun c10 => ?_) (fun c10 => ?_)
    · skip
      have f11 := bo_t hw8 c10
      refine lv_aload_n hx hb dX10_list_18 rfl (lv_at hl 0 rfl) ?_
      refine va_get (D := D) (ci := 10) (v := .ref (ad 10)) (C := RX10) (T := TX10) (N := 14) hx hb hts (by decide +kernel) hown hK hP 0 rfl rfl 9 (by decide) (hts (.fieldLink RX10 68 "PortRooms" "lists" "LPortRooms$Lists;") (by decide +kernel)) (fun _ h9 => h9) rfl dX10_list_19 ?_
      refine va_get (D := D) (ci := 4) (v := .int 0) (C := RX4) (T := TX4) (N := 4) hx hb hts (by decide +kernel) hown hK hP 1 rfl rfl 3 (by decide) (hts (.fieldLink RX10 292 "PortRooms$Lists" "count" "I") (by decide +kernel)) (fun _ h9 => h9) rfl dX10_list_22 ?_
      refine lv_bipush (v := 20) hx hb dX10_list_25 (by decide) ?_
      refine lv_icmp_lt (tgt := 33) hx hb dX10_list_27 (by decide) (fun _ => ?_) (fun c => absurd (by decide) c)
      refine lv_aload_n hx hb dX10_list_33 rfl (lv_at hl 0 rfl) ?_
      refine va_get (D := D) (ci := 10) (v := .ref (ad 10)) (C := RX10) (T := TX10) (N := 14) hx hb hts (by decide +kernel) hown hK hP 0 rfl rfl 9 (by decide) (hts (.fieldLink RX10 68 "PortRooms" "lists" "LPortRooms$Lists;") (by decide +kernel)) (fun _ h9 => h9) rfl dX10_list_34 ?_
      refine lv_iload_n hx hb dX10_list_37 rfl (lv_at hl 1 rfl) ?_
      refine lv_iload_n hx hb dX10_list_38 rfl (lv_at hl 2 rfl) ?_
      refine lv_iload_n hx hb dX10_list_39 rfl (lv_at hl 3 rfl) ?_
      refine st_i (wr := [((ad 0), .inr (10, [.ref (ad 1), .ref (ad 2), .ref (ad 3), .ref (ad 4), .ref (ad 5), .ref (ad 6), .ref (ad 7), .ref (ad 8), .ref (ad 9), .ref (ad 10), .ref (ad 11), .int 0, .int 0, .int 0]))]) (va_runV (C := RX4) (As := [.int q, .int a, .int b]) (rest := []) ⟨hx, hb, hml, hown, hts⟩ (ct_X4_tell l D cI cY cJ cQ _ ad q a b) (cwV 3 hts gX10_list_X4_tell rfl rfl rfl (by decide +kernel) ⟨Nat.le_of_ble_eq_true rfl, Nat.le_of_ble_eq_true rfl⟩) (cPreV (hP.sub [1, 2, 3, 4] rfl) hK (hD.sub [1, 2, 3, 4] (by decide) rfl) hN (ci := 4) (q0 := 0) rfl rfl) rfl rfl hl.1 rfl (lv_room (Nat.le_of_ble_eq_true rfl)) dX10_list_40 ⟨Nat.le_of_ble_eq_true rfl, Nat.le_of_ble_eq_true rfl⟩) hP hD hS hA [1, 2, 3, 4] [0] rfl rfl (by decide) (by decide) (fun r14 u12 H locs hw13 hP hD hS => ?_)
      replace hP : va_P D vwCl [((ad 0), .inr (10, [.ref (ad 1), .ref (ad 2), .ref (ad 3), .ref (ad 4), .ref (ad 5), .ref (ad 6), .ref (ad 7), .ref (ad 8), .ref (ad 9), .ref (ad 10), .ref (ad 11), .int 0, .int 0, .int 0]))] H := hP
      replace hD : va_D A [((ad 0), .inr (10, [.ref (ad 1), .ref (ad 2), .ref (ad 3), .ref (ad 4), .ref (ad 5), .ref (ad 6), .ref (ad 7), .ref (ad 8), .ref (ad 9), .ref (ad 10), .ref (ad 11), .int 0, .int 0, .int 0]))] := hD
      subst hw13
      have hP9 := hP.sub (ws' := []) [] rfl
      have hD9 := hD.sub (ws' := []) [] (by decide) rfl
      exact W.iret (v := 1) hx hb hr (fun t ht hW => ⟨⟨1, (), rfl, (by unfold an_list; (repeat' split) <;> first | rfl | (exfalso; omega)), by rw [ht]; exact hP9, va_K.moved hW.alike hK, hD9⟩, hS.F ht⟩) hS.2.2 dX10_list_43
    · skip
      have f15 := bo_f hw8 c10
      refine lv_ldc hx hb hown (hts (.constant RX10 89 (-1000001)) (by decide +kernel)) dX10_list_15 ?_
      have hP9 := hP.sub (ws' := []) [] rfl
      have hD9 := hD.sub (ws' := []) [] (by decide) rfl
      exact W.iret (v := (-1000001)) hx hb hr (fun t ht hW => ⟨⟨(-1000001), (), rfl, (by unfold an_list; (repeat' split) <;> first | rfl | (exfalso; omega)), by rw [ht]; exact hP9, va_K.moved hW.alike hK, hD9⟩, hS.F ht⟩) hS.2.2 dX10_list_17

set_option maxHeartbeats 4000000 in
set_option maxRecDepth 100000 in
theorem ct_X10_trace (l : Launch) (D : va_G) (cI cY cJ cQ : ClassId) (sz : Nat) (ad : Nat → Nat) (i : Int32)   : Met l yX10_trace wsX10_trace ({ frames := 1, cells := 0, slots := 0, locals := 21 }) (cPre D (ty4 cI cY cJ cQ) [((ad 0), .inr (10, [.ref (ad 1), .ref (ad 2), .ref (ad 3), .ref (ad 4), .ref (ad 5), .ref (ad 6), .ref (ad 7), .ref (ad 8), .ref (ad 9), .ref (ad 10), .ref (ad 11), .int 0, .int 0, .int 0]))] sz [.ref (ad 0), .int i]) (va_Qi (fun (r : Int32) (u : Unit) => r = -1000000) (cB D (ty4 cI cY cJ cQ) (fun (u : Unit) => []) (va_A [((ad 0), .inr (10, [.ref (ad 1), .ref (ad 2), .ref (ad 3), .ref (ad 4), .ref (ad 5), .ref (ad 6), .ref (ad 7), .ref (ad 8), .ref (ad 9), .ref (ad 10), .ref (ad 11), .int 0, .int 0, .int 0]))] sz)) (va_A [((ad 0), .inr (10, [.ref (ad 1), .ref (ad 2), .ref (ad 3), .ref (ad 4), .ref (ad 5), .ref (ad 6), .ref (ad 7), .ref (ad 8), .ref (ad 9), .ref (ad 10), .ref (ad 11), .int 0, .int 0, .int 0]))] sz)) 0 0 (va_A [((ad 0), .inr (10, [.ref (ad 1), .ref (ad 2), .ref (ad 3), .ref (ad 4), .ref (ad 5), .ref (ad 6), .ref (ad 7), .ref (ad 8), .ref (ad 9), .ref (ad 10), .ref (ad 11), .int 0, .int 0, .int 0]))] sz) := by
  refine Met.ofW (cc := cX10_trace) (maxL := 2) (ret := (some .int)) (by decide) rfl ?_
  intro p e s m args below meth c s₁ B hml hv
  obtain ⟨rfl, hsz, hP, hK, hD0, hN⟩ := hv
  have hx := B.exec
  have hb := B.bytes
  have hr := B.returns
  have hts := atoms_spec (ws := wsX10_trace) B.pre
  have hown : s.vm.findClass RX10 = some m.cls := findClass_of_methodNamed B.named
  have hlocks := B.notSynchronized
  subst hsz
  have hD := hD0.self (sz := s.heap.size)
  generalize hAe : va_A [((ad 0), .inr (10, [.ref (ad 1), .ref (ad 2), .ref (ad 3), .ref (ad 4), .ref (ad 5), .ref (ad 6), .ref (ad 7), .ref (ad 8), .ref (ad 9), .ref (ad 10), .ref (ad 11), .int 0, .int 0, .int 0]))] s.heap.size = A at hD ⊢
  have hA : ∀ q : Nat, s.heap.size ≤ q → A q := fun q h => by rw [← hAe]; exact Or.inr h
  have hS : va_S A s.heap s.heap [] := va_S.rf
  have hP : va_P D vwCl [((ad 0), .inr (10, [.ref (ad 1), .ref (ad 2), .ref (ad 3), .ref (ad 4), .ref (ad 5), .ref (ad 6), .ref (ad 7), .ref (ad 8), .ref (ad 9), .ref (ad 10), .ref (ad 11), .int 0, .int 0, .int 0]))] s.heap := hP
  have hl := lv_entry ([.ref (ad 0), .int i]) (n := 2) (Nat.le_of_ble_eq_true rfl)
  rw [lg_entry_eq]
  generalize (lg_sl ([.ref (ad 0), .int i]) ++ List.replicate (2 - (lg_sl ([.ref (ad 0), .int i])).length) Slot.unset).toArray = ls at hl ⊢
  have hl : lv_has ls 2 [(0, .ref (ad 0)), (1, .int i)] := hl
  have k0 : (0 : Int32).toInt = 0 := by decide
  refine lv_iload_n hx hb dX10_trace_0 rfl (lv_at hl 1 rfl) ?_
  refine lv_aload_n hx hb dX10_trace_1 rfl (lv_at hl 0 rfl) ?_
  refine va_get (D := D) (ci := 10) (v := .int 0) (C := RX10) (T := TX10) (N := 14) hx hb hts (by decide +kernel) hown hK hP 0 rfl rfl 11 (by decide) (hts (.fieldLink RX10 307 "PortRooms" "traced" "I") (by decide +kernel)) (fun _ h9 => h9) rfl dX10_trace_2 ?_
  refine st_i (wr := [((ad 0), .inr (10, [.ref (ad 1), .ref (ad 2), .ref (ad 3), .ref (ad 4), .ref (ad 5), .ref (ad 6), .ref (ad 7), .ref (ad 8), .ref (ad 9), .ref (ad 10), .ref (ad 11), .int 0, .int 0, .int 0]))]) (va_runS (As := [.int i, .int 0]) (rest := []) ⟨hx, hb, hml, hown, hts⟩ (ct_X10_isBelow l D cI cY cJ cQ _ i (0)) (va_cwS 2 hts gX10_trace_X10_isBelow rfl rfl rfl (by decide +kernel) ⟨Nat.le_of_ble_eq_true rfl, Nat.le_of_ble_eq_true rfl⟩) (cPreS (hP.sub [] rfl) hK (hD.sub [] (by decide) rfl) hN) rfl rfl hl.1 rfl (lv_room (Nat.le_of_ble_eq_true rfl)) dX10_trace_5 ⟨Nat.le_of_ble_eq_true rfl, Nat.le_of_ble_eq_true rfl⟩) hP hD hS hA [] [0] rfl rfl (by decide) (by decide) (fun r3 u1 H locs hw2 hP hD hS => ?_)
  replace hP : va_P D vwCl [((ad 0), .inr (10, [.ref (ad 1), .ref (ad 2), .ref (ad 3), .ref (ad 4), .ref (ad 5), .ref (ad 6), .ref (ad 7), .ref (ad 8), .ref (ad 9), .ref (ad 10), .ref (ad 11), .int 0, .int 0, .int 0]))] H := hP
  replace hD : va_D A [((ad 0), .inr (10, [.ref (ad 1), .ref (ad 2), .ref (ad 3), .ref (ad 4), .ref (ad 5), .ref (ad 6), .ref (ad 7), .ref (ad 8), .ref (ad 9), .ref (ad 10), .ref (ad 11), .int 0, .int 0, .int 0]))] := hD
  refine lv_if_eq (tgt := 20) hx hb dX10_trace_8 (by decide) (fun _ => ?_) (fun c4 => by exfalso; have := bo_t hw2 c4; omega)
  refine lv_ldc hx hb hown (hts (.constant RX10 169 (-1000000)) (by decide +kernel)) dX10_trace_20 ?_
  have hP9 := hP.sub (ws' := []) [] rfl
  have hD9 := hD.sub (ws' := []) [] (by decide) rfl
  exact W.iret (v := (-1000000)) hx hb hr (fun t ht hW => ⟨⟨(-1000000), (), rfl, rfl, by rw [ht]; exact hP9, va_K.moved hW.alike hK, hD9⟩, hS.F ht⟩) hS.2.2 dX10_trace_22

set_option maxHeartbeats 4000000 in
set_option maxRecDepth 100000 in
theorem ct_X10_room (l : Launch) (D : va_G) (cI cY cJ cQ : ClassId) (sz : Nat) (ad : Nat → Nat) (q w v : Int32)   : Met l yX10_room wsX10_room ({ frames := 1, cells := 0, slots := 0, locals := 22 }) (cPre D (ty4 cI cY cJ cQ) [((ad 0), .inr (10, [.ref (ad 1), .ref (ad 2), .ref (ad 3), .ref (ad 4), .ref (ad 5), .ref (ad 6), .ref (ad 7), .ref (ad 8), .ref (ad 9), .ref (ad 10), .ref (ad 11), .int 0, .int 0, .int 0])), ((ad 3), .inr (1, [.ref (ad 31), .ref (ad 32), .ref (ad 33), .int 0, .ref (ad 34), .ref (ad 35)])), ((ad 34), .inl (cI, 6, .inl (fun _ => 4))), ((ad 35), .inl (cI, 6, .inl (fun _ => 100000)))] sz [.ref (ad 0), .int q, .int w, .int v]) (va_Qi (fun (r : Int32) (u : Unit) => r = an_room q w v) (cB D (ty4 cI cY cJ cQ) (fun (u : Unit) => []) (va_A [((ad 0), .inr (10, [.ref (ad 1), .ref (ad 2), .ref (ad 3), .ref (ad 4), .ref (ad 5), .ref (ad 6), .ref (ad 7), .ref (ad 8), .ref (ad 9), .ref (ad 10), .ref (ad 11), .int 0, .int 0, .int 0])), ((ad 3), .inr (1, [.ref (ad 31), .ref (ad 32), .ref (ad 33), .int 0, .ref (ad 34), .ref (ad 35)])), ((ad 34), .inl (cI, 6, .inl (fun _ => 4))), ((ad 35), .inl (cI, 6, .inl (fun _ => 100000)))] sz)) (va_A [((ad 0), .inr (10, [.ref (ad 1), .ref (ad 2), .ref (ad 3), .ref (ad 4), .ref (ad 5), .ref (ad 6), .ref (ad 7), .ref (ad 8), .ref (ad 9), .ref (ad 10), .ref (ad 11), .int 0, .int 0, .int 0])), ((ad 3), .inr (1, [.ref (ad 31), .ref (ad 32), .ref (ad 33), .int 0, .ref (ad 34), .ref (ad 35)])), ((ad 34), .inl (cI, 6, .inl (fun _ => 4))), ((ad 35), .inl (cI, 6, .inl (fun _ => 100000)))] sz)) 0 0 (va_A [((ad 0), .inr (10, [.ref (ad 1), .ref (ad 2), .ref (ad 3), .ref (ad 4), .ref (ad 5), .ref (ad 6), .ref (ad 7), .ref (ad 8), .ref (ad 9), .ref (ad 10), .ref (ad 11), .int 0, .int 0, .int 0])), ((ad 3), .inr (1, [.ref (ad 31), .ref (ad 32), .ref (ad 33), .int 0, .ref (ad 34), .ref (ad 35)])), ((ad 34), .inl (cI, 6, .inl (fun _ => 4))), ((ad 35), .inl (cI, 6, .inl (fun _ => 100000)))] sz) := by
  refine Met.ofW (cc := cX10_room) (maxL := 6) (ret := (some .int)) (by decide) rfl ?_
  intro p e s m args below meth c s₁ B hml hv
  obtain ⟨rfl, hsz, hP, hK, hD0, hN⟩ := hv
  have hx := B.exec
  have hb := B.bytes
  have hr := B.returns
  have hts := atoms_spec (ws := wsX10_room) B.pre
  have hown : s.vm.findClass RX10 = some m.cls := findClass_of_methodNamed B.named
  have hlocks := B.notSynchronized
  subst hsz
  have hD := hD0.self (sz := s.heap.size)
  generalize hAe : va_A [((ad 0), .inr (10, [.ref (ad 1), .ref (ad 2), .ref (ad 3), .ref (ad 4), .ref (ad 5), .ref (ad 6), .ref (ad 7), .ref (ad 8), .ref (ad 9), .ref (ad 10), .ref (ad 11), .int 0, .int 0, .int 0])), ((ad 3), .inr (1, [.ref (ad 31), .ref (ad 32), .ref (ad 33), .int 0, .ref (ad 34), .ref (ad 35)])), ((ad 34), .inl (cI, 6, .inl (fun _ => 4))), ((ad 35), .inl (cI, 6, .inl (fun _ => 100000)))] s.heap.size = A at hD ⊢
  have hA : ∀ q : Nat, s.heap.size ≤ q → A q := fun q h => by rw [← hAe]; exact Or.inr h
  have hS : va_S A s.heap s.heap [] := va_S.rf
  have hP : va_P D vwCl [((ad 0), .inr (10, [.ref (ad 1), .ref (ad 2), .ref (ad 3), .ref (ad 4), .ref (ad 5), .ref (ad 6), .ref (ad 7), .ref (ad 8), .ref (ad 9), .ref (ad 10), .ref (ad 11), .int 0, .int 0, .int 0])), ((ad 3), .inr (1, [.ref (ad 31), .ref (ad 32), .ref (ad 33), .int 0, .ref (ad 34), .ref (ad 35)])), ((ad 34), .inl (cI, 6, .inl (fun _ => 4))), ((ad 35), .inl (cI, 6, .inl (fun _ => 100000)))] s.heap := hP
  have hl := lv_entry ([.ref (ad 0), .int q, .int w, .int v]) (n := 6) (Nat.le_of_ble_eq_true rfl)
  rw [lg_entry_eq]
  generalize (lg_sl ([.ref (ad 0), .int q, .int w, .int v]) ++ List.replicate (6 - (lg_sl ([.ref (ad 0), .int q, .int w, .int v])).length) Slot.unset).toArray = ls at hl ⊢
  have hl : lv_has ls 6 [(0, .ref (ad 0)), (1, .int q), (2, .int w), (3, .int v)] := hl
  have k0 : (0 : Int32).toInt = 0 := by decide
  have k2 : (2 : Int32).toInt = 2 := by decide
  have k6 : (6 : Int32).toInt = 6 := by decide
  have k12 : (12 : Int32).toInt = 12 := by decide
  have k1000000 : (1000000 : Int32).toInt = 1000000 := by decide
  refine lv_iload_n hx hb dX10_room_0 rfl (lv_at hl 1 rfl) ?_
  refine lv_bipush (v := 6) hx hb dX10_room_1 (by decide) ?_
  refine st_i (wr := [((ad 0), .inr (10, [.ref (ad 1), .ref (ad 2), .ref (ad 3), .ref (ad 4), .ref (ad 5), .ref (ad 6), .ref (ad 7), .ref (ad 8), .ref (ad 9), .ref (ad 10), .ref (ad 11), .int 0, .int 0, .int 0])), ((ad 3), .inr (1, [.ref (ad 31), .ref (ad 32), .ref (ad 33), .int 0, .ref (ad 34), .ref (ad 35)])), ((ad 34), .inl (cI, 6, .inl (fun _ => 4))), ((ad 35), .inl (cI, 6, .inl (fun _ => 100000)))]) (va_runS (As := [.int q, .int 6]) (rest := []) ⟨hx, hb, hml, hown, hts⟩ (ct_X10_isBelow l D cI cY cJ cQ _ q (6)) (va_cwS 2 hts gX10_room_X10_isBelow rfl rfl rfl (by decide +kernel) ⟨Nat.le_of_ble_eq_true rfl, Nat.le_of_ble_eq_true rfl⟩) (cPreS (hP.sub [] rfl) hK (hD.sub [] (by decide) rfl) hN) rfl rfl hl.1 rfl (lv_room (Nat.le_of_ble_eq_true rfl)) dX10_room_3 ⟨Nat.le_of_ble_eq_true rfl, Nat.le_of_ble_eq_true rfl⟩) hP hD hS hA [] [0, 1, 2, 3] rfl rfl (by decide) (by decide) (fun r3 u1 H locs hw2 hP hD hS => ?_)
  replace hP : va_P D vwCl [((ad 0), .inr (10, [.ref (ad 1), .ref (ad 2), .ref (ad 3), .ref (ad 4), .ref (ad 5), .ref (ad 6), .ref (ad 7), .ref (ad 8), .ref (ad 9), .ref (ad 10), .ref (ad 11), .int 0, .int 0, .int 0])), ((ad 3), .inr (1, [.ref (ad 31), .ref (ad 32), .ref (ad 33), .int 0, .ref (ad 34), .ref (ad 35)])), ((ad 34), .inl (cI, 6, .inl (fun _ => 4))), ((ad 35), .inl (cI, 6, .inl (fun _ => 100000)))] H := hP
  replace hD : va_D A [((ad 0), .inr (10, [.ref (ad 1), .ref (ad 2), .ref (ad 3), .ref (ad 4), .ref (ad 5), .ref (ad 6), .ref (ad 7), .ref (ad 8), .ref (ad 9), .ref (ad 10), .ref (ad 11), .int 0, .int 0, .int 0])), ((ad 3), .inr (1, [.ref (ad 31), .ref (ad 32), .ref (ad 33), .int 0, .ref (ad 34), .ref (ad 35)])), ((ad 34), .inl (cI, 6, .inl (fun _ => 4))), ((ad 35), .inl (cI, 6, .inl (fun _ => 100000)))] := hD
  refine lv_if_eq (tgt := 36) hx hb dX10_room_6 (by decide) (fun c4 => ?_) (fun c4 => ?_)
  · skip
    have f5 := bo_f hw2 c4
    refine lv_ldc hx hb hown (hts (.constant RX10 89 (-1000001)) (by decide +kernel)) dX10_room_36 ?_
    have hP9 := hP.sub (ws' := []) [] rfl
    have hD9 := hD.sub (ws' := []) [] (by decide) rfl
    exact W.iret (v := (-1000001)) hx hb hr (fun t ht hW => ⟨⟨(-1000001), (), rfl, (by unfold an_room; (repeat' split) <;> first | rfl | (exfalso; omega)), by rw [ht]; exact hP9, va_K.moved hW.alike hK, hD9⟩, hS.F ht⟩) hS.2.2 dX10_room_38
  · skip
    have f6 := bo_t hw2 c4
    refine lv_iload_n hx hb dX10_room_9 rfl (lv_at hl 2 rfl) ?_
    refine lv_iconst (v := 2) hx hb dX10_room_10 (by decide) ?_
    refine st_i (wr := [((ad 0), .inr (10, [.ref (ad 1), .ref (ad 2), .ref (ad 3), .ref (ad 4), .ref (ad 5), .ref (ad 6), .ref (ad 7), .ref (ad 8), .ref (ad 9), .ref (ad 10), .ref (ad 11), .int 0, .int 0, .int 0])), ((ad 3), .inr (1, [.ref (ad 31), .ref (ad 32), .ref (ad 33), .int 0, .ref (ad 34), .ref (ad 35)])), ((ad 34), .inl (cI, 6, .inl (fun _ => 4))), ((ad 35), .inl (cI, 6, .inl (fun _ => 100000)))]) (va_runS (As := [.int w, .int 2]) (rest := []) ⟨hx, hb, hml, hown, hts⟩ (ct_X10_isBelow l D cI cY cJ cQ _ w (2)) (va_cwS 2 hts gX10_room_X10_isBelow rfl rfl rfl (by decide +kernel) ⟨Nat.le_of_ble_eq_true rfl, Nat.le_of_ble_eq_true rfl⟩) (cPreS (hP.sub [] rfl) hK (hD.sub [] (by decide) rfl) hN) rfl rfl hl.1 rfl (lv_room (Nat.le_of_ble_eq_true rfl)) dX10_room_11 ⟨Nat.le_of_ble_eq_true rfl, Nat.le_of_ble_eq_true rfl⟩) hP hD hS hA [] [0, 1, 2, 3] rfl rfl (by decide) (by decide) (fun r9 u7 H locs hw8 hP hD hS => ?_)
    replace hP : va_P D vwCl [((ad 0), .inr (10, [.ref (ad 1), .ref (ad 2), .ref (ad 3), .ref (ad 4), .ref (ad 5), .ref (ad 6), .ref (ad 7), .ref (ad 8), .ref (ad 9), .ref (ad 10), .ref (ad 11), .int 0, .int 0, .int 0])), ((ad 3), .inr (1, [.ref (ad 31), .ref (ad 32), .ref (ad 33), .int 0, .ref (ad 34), .ref (ad 35)])), ((ad 34), .inl (cI, 6, .inl (fun _ => 4))), ((ad 35), .inl (cI, 6, .inl (fun _ => 100000)))] H := hP
    replace hD : va_D A [((ad 0), .inr (10, [.ref (ad 1), .ref (ad 2), .ref (ad 3), .ref (ad 4), .ref (ad 5), .ref (ad 6), .ref (ad 7), .ref (ad 8), .ref (ad 9), .ref (ad 10), .ref (ad 11), .int 0, .int 0, .int 0])), ((ad 3), .inr (1, [.ref (ad 31), .ref (ad 32), .ref (ad 33), .int 0, .ref (ad 34), .ref (ad 35)])), ((ad 34), .inl (cI, 6, .inl (fun _ => 4))), ((ad 35), .inl (cI, 6, .inl (fun _ => 100000)))] := hD
    refine lv_if_eq (tgt := 36) hx hb dX10_room_14 (by decide) (fun c10 => ?_) (fun c10 => ?_)
    · skip
      have f11 := bo_f hw8 c10
      refine lv_ldc hx hb hown (hts (.constant RX10 89 (-1000001)) (by decide +kernel)) dX10_room_36 ?_
      have hP9 := hP.sub (ws' := []) [] rfl
      have hD9 := hD.sub (ws' := []) [] (by decide) rfl
      exact W.iret (v := (-1000001)) hx hb hr (fun t ht hW => ⟨⟨(-1000001), (), rfl, (by unfold an_room; (repeat' split) <;> first | rfl | (exfalso; omega)), by rw [ht]; exact hP9, va_K.moved hW.alike hK, hD9⟩, hS.F ht⟩) hS.2.2 dX10_room_38
    · skip
      have f12 := bo_t hw8 c10
      refine lv_iload_n hx hb dX10_room_17 rfl (lv_at hl 3 rfl) ?_
      refine lv_iconst (v := 0) hx hb dX10_room_18 (by decide) ?_
      refine lv_iload_n hx hb dX10_room_19 rfl (lv_at hl 2 rfl) ?_
      refine lv_if_ne (tgt := 28) hx hb dX10_room_20 (by decide) (fun c13 => ?_) (fun c13 => ?_)
      · skip
        have f14 := i_ne c13
        refine lv_ldc hx hb hown (hts (.constant RX10 248 (1000000)) (by decide +kernel)) dX10_room_28 ?_
        refine st_i (wr := [((ad 0), .inr (10, [.ref (ad 1), .ref (ad 2), .ref (ad 3), .ref (ad 4), .ref (ad 5), .ref (ad 6), .ref (ad 7), .ref (ad 8), .ref (ad 9), .ref (ad 10), .ref (ad 11), .int 0, .int 0, .int 0])), ((ad 3), .inr (1, [.ref (ad 31), .ref (ad 32), .ref (ad 33), .int 0, .ref (ad 34), .ref (ad 35)])), ((ad 34), .inl (cI, 6, .inl (fun _ => 4))), ((ad 35), .inl (cI, 6, .inl (fun _ => 100000)))]) (va_runS (As := [.int v, .int 0, .int 1000000]) (rest := []) ⟨hx, hb, hml, hown, hts⟩ (ct_X10_isFrom l D cI cY cJ cQ _ v (0) (1000000)) (va_cwS 3 hts gX10_room_X10_isFrom rfl rfl rfl (by decide +kernel) ⟨Nat.le_of_ble_eq_true rfl, Nat.le_of_ble_eq_true rfl⟩) (cPreS (hP.sub [] rfl) hK (hD.sub [] (by decide) rfl) hN) rfl rfl hl.1 rfl (lv_room (Nat.le_of_ble_eq_true rfl)) dX10_room_30 ⟨Nat.le_of_ble_eq_true rfl, Nat.le_of_ble_eq_true rfl⟩) hP hD hS hA [] [0, 1, 2, 3] rfl rfl (by decide) (by decide) (fun r17 u15 H locs hw16 hP hD hS => ?_)
        replace hP : va_P D vwCl [((ad 0), .inr (10, [.ref (ad 1), .ref (ad 2), .ref (ad 3), .ref (ad 4), .ref (ad 5), .ref (ad 6), .ref (ad 7), .ref (ad 8), .ref (ad 9), .ref (ad 10), .ref (ad 11), .int 0, .int 0, .int 0])), ((ad 3), .inr (1, [.ref (ad 31), .ref (ad 32), .ref (ad 33), .int 0, .ref (ad 34), .ref (ad 35)])), ((ad 34), .inl (cI, 6, .inl (fun _ => 4))), ((ad 35), .inl (cI, 6, .inl (fun _ => 100000)))] H := hP
        replace hD : va_D A [((ad 0), .inr (10, [.ref (ad 1), .ref (ad 2), .ref (ad 3), .ref (ad 4), .ref (ad 5), .ref (ad 6), .ref (ad 7), .ref (ad 8), .ref (ad 9), .ref (ad 10), .ref (ad 11), .int 0, .int 0, .int 0])), ((ad 3), .inr (1, [.ref (ad 31), .ref (ad 32), .ref (ad 33), .int 0, .ref (ad 34), .ref (ad 35)])), ((ad 34), .inl (cI, 6, .inl (fun _ => 4))), ((ad 35), .inl (cI, 6, .inl (fun _ => 100000)))] := hD
        refine lv_if_ne (tgt := 39) hx hb dX10_room_33 (by decide) (fun c18 => ?_) (fun c18 => ?_)
        · skip
          have f19 := bo_t hw16 c18
          refine lv_iload_n hx hb dX10_room_39 rfl (lv_at hl 2 rfl) ?_
          refine lv_if_ne (tgt := 53) hx hb dX10_room_40 (by decide) (fun c20 => ?_) (fun c20 => ?_)
          · skip
            have f21 := i_ne c20
            refine lv_aload_n hx hb dX10_room_53 rfl (lv_at hl 0 rfl) ?_
            refine va_get (D := D) (ci := 10) (v := .ref (ad 3)) (C := RX10) (T := TX10) (N := 14) hx hb hts (by decide +kernel) hown hK hP 0 rfl rfl 2 (by decide) (hts (.fieldLink RX10 26 "PortRooms" "crates" "LPortRooms$Crates;") (by decide +kernel)) (fun _ h9 => h9) rfl dX10_room_54 ?_
            refine va_get (D := D) (ci := 1) (v := .ref (ad 35)) (C := RX1) (T := TX1) (N := 6) hx hb hts (by decide +kernel) hown hK hP 1 rfl rfl 5 (by decide) (hts (.fieldLink RX10 252 "PortRooms$Crates" "insured" "[I") (by decide +kernel)) (fun _ h9 => h9) rfl dX10_room_57 ?_
            refine lv_astore (lv' := [(4, .ref (ad 35)), (0, .ref (ad 0)), (1, .int q), (2, .int w), (3, .int v)]) hx hb dX10_room_60 hl (by decide) rfl (fun ls hl => ?_)
            refine lv_aload hx hb dX10_room_62 (lv_at hl 0 rfl) ?_
            refine lv_iload_n hx hb dX10_room_64 rfl (lv_at hl 2 rfl) ?_
            refine va_iald hx hb hK hP 3 0 rfl rfl (i_in (by omega) (by omega)) dX10_room_65 ?_
            refine lv_topi (fun v22 ev22 => ?_)
            have ev22 : v22 = 100000 := ev22
            subst ev22
            refine lv_istore (lv' := [(5, .int 100000), (4, .ref (ad 35)), (0, .ref (ad 0)), (1, .int q), (2, .int w), (3, .int v)]) hx hb dX10_room_66 hl (by decide) rfl (fun ls hl => ?_)
            refine lv_aload hx hb dX10_room_68 (lv_at hl 1 rfl) ?_
            refine lv_iload_n hx hb dX10_room_70 rfl (lv_at hl 3 rfl) ?_
            refine lv_iload_n hx hb dX10_room_71 rfl (lv_at hl 5 rfl) ?_
            refine va_iast hx hb hK hP hD hS 3 0 rfl rfl (i_in (by omega) (by omega)) dX10_room_72 (fun H locs hP hD hS => ?_)
            replace hP : va_P D vwCl [((ad 0), .inr (10, [.ref (ad 1), .ref (ad 2), .ref (ad 3), .ref (ad 4), .ref (ad 5), .ref (ad 6), .ref (ad 7), .ref (ad 8), .ref (ad 9), .ref (ad 10), .ref (ad 11), .int 0, .int 0, .int 0])), ((ad 3), .inr (1, [.ref (ad 31), .ref (ad 32), .ref (ad 33), .int 0, .ref (ad 34), .ref (ad 35)])), ((ad 34), .inl (cI, 6, .inl (fun _ => 4))), ((ad 35), .inl (cI, 6, .inl (upd (fun _ => 100000) q.toNatClampNeg v)))] H := hP
            replace hD : va_D A [((ad 0), .inr (10, [.ref (ad 1), .ref (ad 2), .ref (ad 3), .ref (ad 4), .ref (ad 5), .ref (ad 6), .ref (ad 7), .ref (ad 8), .ref (ad 9), .ref (ad 10), .ref (ad 11), .int 0, .int 0, .int 0])), ((ad 3), .inr (1, [.ref (ad 31), .ref (ad 32), .ref (ad 33), .int 0, .ref (ad 34), .ref (ad 35)])), ((ad 34), .inl (cI, 6, .inl (fun _ => 4))), ((ad 35), .inl (cI, 6, .inl (upd (fun _ => 100000) q.toNatClampNeg v)))] := hD
            refine lv_iload hx hb dX10_room_73 (lv_at hl 0 rfl) ?_
            have hP9 := hP.sub (ws' := []) [] rfl
            have hD9 := hD.sub (ws' := []) [] (by decide) rfl
            exact W.iret (v := 100000) hx hb hr (fun t ht hW => ⟨⟨100000, (), rfl, (by unfold an_room; (repeat' split) <;> first | rfl | (exfalso; omega)), by rw [ht]; exact hP9, va_K.moved hW.alike hK, hD9⟩, hS.F ht⟩) hS.2.2 dX10_room_75
          · skip
            have f23 := i_eq c20
            refine lv_aload_n hx hb dX10_room_43 rfl (lv_at hl 0 rfl) ?_
            refine va_get (D := D) (ci := 10) (v := .ref (ad 3)) (C := RX10) (T := TX10) (N := 14) hx hb hts (by decide +kernel) hown hK hP 0 rfl rfl 2 (by decide) (hts (.fieldLink RX10 26 "PortRooms" "crates" "LPortRooms$Crates;") (by decide +kernel)) (fun _ h9 => h9) rfl dX10_room_44 ?_
            refine va_get (D := D) (ci := 1) (v := .ref (ad 34)) (C := RX1) (T := TX1) (N := 6) hx hb hts (by decide +kernel) hown hK hP 1 rfl rfl 4 (by decide) (hts (.fieldLink RX10 249 "PortRooms$Crates" "air" "[I") (by decide +kernel)) (fun _ h9 => h9) rfl dX10_room_47 ?_
            refine lv_goto (tgt := 60) hx hb dX10_room_50 (by decide) ?_
            refine lv_astore (lv' := [(4, .ref (ad 34)), (0, .ref (ad 0)), (1, .int q), (2, .int w), (3, .int v)]) hx hb dX10_room_60 hl (by decide) rfl (fun ls hl => ?_)
            refine lv_aload hx hb dX10_room_62 (lv_at hl 0 rfl) ?_
            refine lv_iload_n hx hb dX10_room_64 rfl (lv_at hl 2 rfl) ?_
            refine va_iald hx hb hK hP 2 0 rfl rfl (i_in (by omega) (by omega)) dX10_room_65 ?_
            refine lv_topi (fun v24 ev24 => ?_)
            have ev24 : v24 = 4 := ev24
            subst ev24
            refine lv_istore (lv' := [(5, .int 4), (4, .ref (ad 34)), (0, .ref (ad 0)), (1, .int q), (2, .int w), (3, .int v)]) hx hb dX10_room_66 hl (by decide) rfl (fun ls hl => ?_)
            refine lv_aload hx hb dX10_room_68 (lv_at hl 1 rfl) ?_
            refine lv_iload_n hx hb dX10_room_70 rfl (lv_at hl 3 rfl) ?_
            refine lv_iload_n hx hb dX10_room_71 rfl (lv_at hl 5 rfl) ?_
            refine va_iast hx hb hK hP hD hS 2 0 rfl rfl (i_in (by omega) (by omega)) dX10_room_72 (fun H locs hP hD hS => ?_)
            replace hP : va_P D vwCl [((ad 0), .inr (10, [.ref (ad 1), .ref (ad 2), .ref (ad 3), .ref (ad 4), .ref (ad 5), .ref (ad 6), .ref (ad 7), .ref (ad 8), .ref (ad 9), .ref (ad 10), .ref (ad 11), .int 0, .int 0, .int 0])), ((ad 3), .inr (1, [.ref (ad 31), .ref (ad 32), .ref (ad 33), .int 0, .ref (ad 34), .ref (ad 35)])), ((ad 34), .inl (cI, 6, .inl (upd (fun _ => 4) q.toNatClampNeg v))), ((ad 35), .inl (cI, 6, .inl (fun _ => 100000)))] H := hP
            replace hD : va_D A [((ad 0), .inr (10, [.ref (ad 1), .ref (ad 2), .ref (ad 3), .ref (ad 4), .ref (ad 5), .ref (ad 6), .ref (ad 7), .ref (ad 8), .ref (ad 9), .ref (ad 10), .ref (ad 11), .int 0, .int 0, .int 0])), ((ad 3), .inr (1, [.ref (ad 31), .ref (ad 32), .ref (ad 33), .int 0, .ref (ad 34), .ref (ad 35)])), ((ad 34), .inl (cI, 6, .inl (upd (fun _ => 4) q.toNatClampNeg v))), ((ad 35), .inl (cI, 6, .inl (fun _ => 100000)))] := hD
            refine lv_iload hx hb dX10_room_73 (lv_at hl 0 rfl) ?_
            have hP9 := hP.sub (ws' := []) [] rfl
            have hD9 := hD.sub (ws' := []) [] (by decide) rfl
            exact W.iret (v := 4) hx hb hr (fun t ht hW => ⟨⟨4, (), rfl, (by unfold an_room; (repeat' split) <;> first | rfl | (exfalso; omega)), by rw [ht]; exact hP9, va_K.moved hW.alike hK, hD9⟩, hS.F ht⟩) hS.2.2 dX10_room_75
        · skip
          have f25 := bo_f hw16 c18
          refine lv_ldc hx hb hown (hts (.constant RX10 89 (-1000001)) (by decide +kernel)) dX10_room_36 ?_
          have hP9 := hP.sub (ws' := []) [] rfl
          have hD9 := hD.sub (ws' := []) [] (by decide) rfl
          exact W.iret (v := (-1000001)) hx hb hr (fun t ht hW => ⟨⟨(-1000001), (), rfl, (by unfold an_room; (repeat' split) <;> first | rfl | (exfalso; omega)), by rw [ht]; exact hP9, va_K.moved hW.alike hK, hD9⟩, hS.F ht⟩) hS.2.2 dX10_room_38
      · skip
        have f26 := i_eq c13
        refine lv_bipush (v := 12) hx hb dX10_room_23 (by decide) ?_
        refine lv_goto (tgt := 30) hx hb dX10_room_25 (by decide) ?_
        refine st_i (wr := [((ad 0), .inr (10, [.ref (ad 1), .ref (ad 2), .ref (ad 3), .ref (ad 4), .ref (ad 5), .ref (ad 6), .ref (ad 7), .ref (ad 8), .ref (ad 9), .ref (ad 10), .ref (ad 11), .int 0, .int 0, .int 0])), ((ad 3), .inr (1, [.ref (ad 31), .ref (ad 32), .ref (ad 33), .int 0, .ref (ad 34), .ref (ad 35)])), ((ad 34), .inl (cI, 6, .inl (fun _ => 4))), ((ad 35), .inl (cI, 6, .inl (fun _ => 100000)))]) (va_runS (As := [.int v, .int 0, .int 12]) (rest := []) ⟨hx, hb, hml, hown, hts⟩ (ct_X10_isFrom l D cI cY cJ cQ _ v (0) (12)) (va_cwS 3 hts gX10_room_X10_isFrom rfl rfl rfl (by decide +kernel) ⟨Nat.le_of_ble_eq_true rfl, Nat.le_of_ble_eq_true rfl⟩) (cPreS (hP.sub [] rfl) hK (hD.sub [] (by decide) rfl) hN) rfl rfl hl.1 rfl (lv_room (Nat.le_of_ble_eq_true rfl)) dX10_room_30 ⟨Nat.le_of_ble_eq_true rfl, Nat.le_of_ble_eq_true rfl⟩) hP hD hS hA [] [0, 1, 2, 3] rfl rfl (by decide) (by decide) (fun r29 u27 H locs hw28 hP hD hS => ?_)
        replace hP : va_P D vwCl [((ad 0), .inr (10, [.ref (ad 1), .ref (ad 2), .ref (ad 3), .ref (ad 4), .ref (ad 5), .ref (ad 6), .ref (ad 7), .ref (ad 8), .ref (ad 9), .ref (ad 10), .ref (ad 11), .int 0, .int 0, .int 0])), ((ad 3), .inr (1, [.ref (ad 31), .ref (ad 32), .ref (ad 33), .int 0, .ref (ad 34), .ref (ad 35)])), ((ad 34), .inl (cI, 6, .inl (fun _ => 4))), ((ad 35), .inl (cI, 6, .inl (fun _ => 100000)))] H := hP
        replace hD : va_D A [((ad 0), .inr (10, [.ref (ad 1), .ref (ad 2), .ref (ad 3), .ref (ad 4), .ref (ad 5), .ref (ad 6), .ref (ad 7), .ref (ad 8), .ref (ad 9), .ref (ad 10), .ref (ad 11), .int 0, .int 0, .int 0])), ((ad 3), .inr (1, [.ref (ad 31), .ref (ad 32), .ref (ad 33), .int 0, .ref (ad 34), .ref (ad 35)])), ((ad 34), .inl (cI, 6, .inl (fun _ => 4))), ((ad 35), .inl (cI, 6, .inl (fun _ => 100000)))] := hD
        refine lv_if_ne (tgt := 39) hx hb dX10_room_33 (by decide) (fun c30 => ?_) (fun c30 => ?_)
        · skip
          have f31 := bo_t hw28 c30
          refine lv_iload_n hx hb dX10_room_39 rfl (lv_at hl 2 rfl) ?_
          refine lv_if_ne (tgt := 53) hx hb dX10_room_40 (by decide) (fun c32 => ?_) (fun c32 => ?_)
          · skip
            have f33 := i_ne c32
            refine lv_aload_n hx hb dX10_room_53 rfl (lv_at hl 0 rfl) ?_
            refine va_get (D := D) (ci := 10) (v := .ref (ad 3)) (C := RX10) (T := TX10) (N := 14) hx hb hts (by decide +kernel) hown hK hP 0 rfl rfl 2 (by decide) (hts (.fieldLink RX10 26 "PortRooms" "crates" "LPortRooms$Crates;") (by decide +kernel)) (fun _ h9 => h9) rfl dX10_room_54 ?_
            refine va_get (D := D) (ci := 1) (v := .ref (ad 35)) (C := RX1) (T := TX1) (N := 6) hx hb hts (by decide +kernel) hown hK hP 1 rfl rfl 5 (by decide) (hts (.fieldLink RX10 252 "PortRooms$Crates" "insured" "[I") (by decide +kernel)) (fun _ h9 => h9) rfl dX10_room_57 ?_
            refine lv_astore (lv' := [(4, .ref (ad 35)), (0, .ref (ad 0)), (1, .int q), (2, .int w), (3, .int v)]) hx hb dX10_room_60 hl (by decide) rfl (fun ls hl => ?_)
            refine lv_aload hx hb dX10_room_62 (lv_at hl 0 rfl) ?_
            refine lv_iload_n hx hb dX10_room_64 rfl (lv_at hl 2 rfl) ?_
            refine va_iald hx hb hK hP 3 0 rfl rfl (i_in (by omega) (by omega)) dX10_room_65 ?_
            refine lv_topi (fun v34 ev34 => ?_)
            have ev34 : v34 = 100000 := ev34
            subst ev34
            refine lv_istore (lv' := [(5, .int 100000), (4, .ref (ad 35)), (0, .ref (ad 0)), (1, .int q), (2, .int w), (3, .int v)]) hx hb dX10_room_66 hl (by decide) rfl (fun ls hl => ?_)
            refine lv_aload hx hb dX10_room_68 (lv_at hl 1 rfl) ?_
            refine lv_iload_n hx hb dX10_room_70 rfl (lv_at hl 3 rfl) ?_
            refine lv_iload_n hx hb dX10_room_71 rfl (lv_at hl 5 rfl) ?_
            refine va_iast hx hb hK hP hD hS 3 0 rfl rfl (i_in (by omega) (by omega)) dX10_room_72 (fun H locs hP hD hS => ?_)
            replace hP : va_P D vwCl [((ad 0), .inr (10, [.ref (ad 1), .ref (ad 2), .ref (ad 3), .ref (ad 4), .ref (ad 5), .ref (ad 6), .ref (ad 7), .ref (ad 8), .ref (ad 9), .ref (ad 10), .ref (ad 11), .int 0, .int 0, .int 0])), ((ad 3), .inr (1, [.ref (ad 31), .ref (ad 32), .ref (ad 33), .int 0, .ref (ad 34), .ref (ad 35)])), ((ad 34), .inl (cI, 6, .inl (fun _ => 4))), ((ad 35), .inl (cI, 6, .inl (upd (fun _ => 100000) q.toNatClampNeg v)))] H := hP
            replace hD : va_D A [((ad 0), .inr (10, [.ref (ad 1), .ref (ad 2), .ref (ad 3), .ref (ad 4), .ref (ad 5), .ref (ad 6), .ref (ad 7), .ref (ad 8), .ref (ad 9), .ref (ad 10), .ref (ad 11), .int 0, .int 0, .int 0])), ((ad 3), .inr (1, [.ref (ad 31), .ref (ad 32), .ref (ad 33), .int 0, .ref (ad 34), .ref (ad 35)])), ((ad 34), .inl (cI, 6, .inl (fun _ => 4))), ((ad 35), .inl (cI, 6, .inl (upd (fun _ => 100000) q.toNatClampNeg v)))] := hD
            refine lv_iload hx hb dX10_room_73 (lv_at hl 0 rfl) ?_
            have hP9 := hP.sub (ws' := []) [] rfl
            have hD9 := hD.sub (ws' := []) [] (by decide) rfl
            exact W.iret (v := 100000) hx hb hr (fun t ht hW => ⟨⟨100000, (), rfl, (by unfold an_room; (repeat' split) <;> first | rfl | (exfalso; omega)), by rw [ht]; exact hP9, va_K.moved hW.alike hK, hD9⟩, hS.F ht⟩) hS.2.2 dX10_room_75
          · skip
            have f35 := i_eq c32
            refine lv_aload_n hx hb dX10_room_43 rfl (lv_at hl 0 rfl) ?_
            refine va_get (D := D) (ci := 10) (v := .ref (ad 3)) (C := RX10) (T := TX10) (N := 14) hx hb hts (by decide +kernel) hown hK hP 0 rfl rfl 2 (by decide) (hts (.fieldLink RX10 26 "PortRooms" "crates" "LPortRooms$Crates;") (by decide +kernel)) (fun _ h9 => h9) rfl dX10_room_44 ?_
            refine va_get (D := D) (ci := 1) (v := .ref (ad 34)) (C := RX1) (T := TX1) (N := 6) hx hb hts (by decide +kernel) hown hK hP 1 rfl rfl 4 (by decide) (hts (.fieldLink RX10 249 "PortRooms$Crates" "air" "[I") (by decide +kernel)) (fun _ h9 => h9) rfl dX10_room_47 ?_
            refine lv_goto (tgt := 60) hx hb dX10_room_50 (by decide) ?_
            refine lv_astore (lv' := [(4, .ref (ad 34)), (0, .ref (ad 0)), (1, .int q), (2, .int w), (3, .int v)]) hx hb dX10_room_60 hl (by decide) rfl (fun ls hl => ?_)
            refine lv_aload hx hb dX10_room_62 (lv_at hl 0 rfl) ?_
            refine lv_iload_n hx hb dX10_room_64 rfl (lv_at hl 2 rfl) ?_
            refine va_iald hx hb hK hP 2 0 rfl rfl (i_in (by omega) (by omega)) dX10_room_65 ?_
            refine lv_topi (fun v36 ev36 => ?_)
            have ev36 : v36 = 4 := ev36
            subst ev36
            refine lv_istore (lv' := [(5, .int 4), (4, .ref (ad 34)), (0, .ref (ad 0)), (1, .int q), (2, .int w), (3, .int v)]) hx hb dX10_room_66 hl (by decide) rfl (fun ls hl => ?_)
            refine lv_aload hx hb dX10_room_68 (lv_at hl 1 rfl) ?_
            refine lv_iload_n hx hb dX10_room_70 rfl (lv_at hl 3 rfl) ?_
            refine lv_iload_n hx hb dX10_room_71 rfl (lv_at hl 5 rfl) ?_
            refine va_iast hx hb hK hP hD hS 2 0 rfl rfl (i_in (by omega) (by omega)) dX10_room_72 (fun H locs hP hD hS => ?_)
            replace hP : va_P D vwCl [((ad 0), .inr (10, [.ref (ad 1), .ref (ad 2), .ref (ad 3), .ref (ad 4), .ref (ad 5), .ref (ad 6), .ref (ad 7), .ref (ad 8), .ref (ad 9), .ref (ad 10), .ref (ad 11), .int 0, .int 0, .int 0])), ((ad 3), .inr (1, [.ref (ad 31), .ref (ad 32), .ref (ad 33), .int 0, .ref (ad 34), .ref (ad 35)])), ((ad 34), .inl (cI, 6, .inl (upd (fun _ => 4) q.toNatClampNeg v))), ((ad 35), .inl (cI, 6, .inl (fun _ => 100000)))] H := hP
            replace hD : va_D A [((ad 0), .inr (10, [.ref (ad 1), .ref (ad 2), .ref (ad 3), .ref (ad 4), .ref (ad 5), .ref (ad 6), .ref (ad 7), .ref (ad 8), .ref (ad 9), .ref (ad 10), .ref (ad 11), .int 0, .int 0, .int 0])), ((ad 3), .inr (1, [.ref (ad 31), .ref (ad 32), .ref (ad 33), .int 0, .ref (ad 34), .ref (ad 35)])), ((ad 34), .inl (cI, 6, .inl (upd (fun _ => 4) q.toNatClampNeg v))), ((ad 35), .inl (cI, 6, .inl (fun _ => 100000)))] := hD
            refine lv_iload hx hb dX10_room_73 (lv_at hl 0 rfl) ?_
            have hP9 := hP.sub (ws' := []) [] rfl
            have hD9 := hD.sub (ws' := []) [] (by decide) rfl
            exact W.iret (v := 4) hx hb hr (fun t ht hW => ⟨⟨4, (), rfl, (by unfold an_room; (repeat' split) <;> first | rfl | (exfalso; omega)), by rw [ht]; exact hP9, va_K.moved hW.alike hK, hD9⟩, hS.F ht⟩) hS.2.2 dX10_room_75
        · skip
          have f37 := bo_f hw28 c30
          refine lv_ldc hx hb hown (hts (.constant RX10 89 (-1000001)) (by decide +kernel)) dX10_room_36 ?_
          have hP9 := hP.sub (ws' := []) [] rfl
          have hD9 := hD.sub (ws' := []) [] (by decide) rfl
          exact W.iret (v := (-1000001)) hx hb hr (fun t ht hW => ⟨⟨(-1000001), (), rfl, (by unfold an_room; (repeat' split) <;> first | rfl | (exfalso; omega)), by rw [ht]; exact hP9, va_K.moved hW.alike hK, hD9⟩, hS.F ht⟩) hS.2.2 dX10_room_38

set_option maxHeartbeats 4000000 in
set_option maxRecDepth 100000 in
theorem ct_X1_setIn (l : Launch) (D : va_G) (cI cY cJ cQ : ClassId) (sz : Nat) (ad : Nat → Nat) (a : Int32)   : Met l yX1_setIn wsX1_setIn ({ frames := 0, cells := 0, slots := 0, locals := 0 }) (cPre D (ty4 cI cY cJ cQ) [((ad 3), .inr (1, [.ref (ad 31), .ref (ad 32), .ref (ad 33), .int 0, .ref (ad 34), .ref (ad 35)]))] sz [.ref (ad 3), .int a]) (va_Qi (fun (r : Int32) (u : Unit) => r = 0) (cB D (ty4 cI cY cJ cQ) (fun (u : Unit) => [((ad 3), .inr (1, [.ref (ad 31), .ref (ad 32), .ref (ad 33), .int 0, .ref (ad 34), .ref (ad 35)]))]) (va_A [((ad 3), .inr (1, [.ref (ad 31), .ref (ad 32), .ref (ad 33), .int 0, .ref (ad 34), .ref (ad 35)]))] sz)) (va_A [((ad 3), .inr (1, [.ref (ad 31), .ref (ad 32), .ref (ad 33), .int 0, .ref (ad 34), .ref (ad 35)]))] sz)) 0 0 (va_A [((ad 3), .inr (1, [.ref (ad 31), .ref (ad 32), .ref (ad 33), .int 0, .ref (ad 34), .ref (ad 35)]))] sz) := by
  refine Met.ofW (cc := cX1_setIn) (maxL := 4) (ret := (some .int)) (by decide) rfl ?_
  intro p e s m args below meth c s₁ B hml hv
  obtain ⟨rfl, hsz, hP, hK, hD0, hN⟩ := hv
  have hx := B.exec
  have hb := B.bytes
  have hr := B.returns
  have hts := atoms_spec (ws := wsX1_setIn) B.pre
  have hown : s.vm.findClass RX1 = some m.cls := findClass_of_methodNamed B.named
  have hlocks := B.notSynchronized
  subst hsz
  have hD := hD0.self (sz := s.heap.size)
  generalize hAe : va_A [((ad 3), .inr (1, [.ref (ad 31), .ref (ad 32), .ref (ad 33), .int 0, .ref (ad 34), .ref (ad 35)]))] s.heap.size = A at hD ⊢
  have hA : ∀ q : Nat, s.heap.size ≤ q → A q := fun q h => by rw [← hAe]; exact Or.inr h
  have hS : va_S A s.heap s.heap [] := va_S.rf
  have hP : va_P D vwCl [((ad 3), .inr (1, [.ref (ad 31), .ref (ad 32), .ref (ad 33), .int 0, .ref (ad 34), .ref (ad 35)]))] s.heap := hP
  have hl := lv_entry ([.ref (ad 3), .int a]) (n := 4) (Nat.le_of_ble_eq_true rfl)
  rw [lg_entry_eq]
  generalize (lg_sl ([.ref (ad 3), .int a]) ++ List.replicate (4 - (lg_sl ([.ref (ad 3), .int a])).length) Slot.unset).toArray = ls at hl ⊢
  have hl : lv_has ls 4 [(0, .ref (ad 3)), (1, .int a)] := hl
  refine lv_iconst (v := 0) hx hb dX1_setIn_0 (by decide) ?_
  refine lv_istore_n (lv' := [(2, .int 0), (0, .ref (ad 3)), (1, .int a)]) hx hb dX1_setIn_1 rfl hl (by decide) rfl (fun ls hl => ?_)
  refine lv_iconst (v := 0) hx hb dX1_setIn_2 (by decide) ?_
  refine lv_istore_n (lv' := [(3, .int 0), (2, .int 0), (0, .ref (ad 3)), (1, .int a)]) hx hb dX1_setIn_3 rfl hl (by decide) rfl (fun ls hl => ?_)
  refine lv_iload_n hx hb dX1_setIn_4 rfl (lv_at hl 0 rfl) ?_
  refine lv_aload_n hx hb dX1_setIn_5 rfl (lv_at hl 2 rfl) ?_
  refine va_get (D := D) (ci := 1) (v := .int 0) (C := RX1) (T := TX1) (N := 6) hx hb hts (by decide +kernel) hown hK hP 0 rfl rfl 3 (by decide) (hts (.fieldLink RX1 35 "PortRooms$Crates" "count" "I") (by decide +kernel)) (fun _ h9 => h9) rfl dX1_setIn_6 ?_
  refine lv_icmp_ge (tgt := 34) hx hb dX1_setIn_9 (by decide) (fun _ => ?_) (fun c => absurd (by decide) c)
  refine lv_iload_n hx hb dX1_setIn_34 rfl (lv_at hl 1 rfl) ?_
  have hP9 := hP.sub (ws' := [((ad 3), .inr (1, [.ref (ad 31), .ref (ad 32), .ref (ad 33), .int 0, .ref (ad 34), .ref (ad 35)]))]) [0] rfl
  have hD9 := hD.sub (ws' := [((ad 3), .inr (1, [.ref (ad 31), .ref (ad 32), .ref (ad 33), .int 0, .ref (ad 34), .ref (ad 35)]))]) [0] (by decide) rfl
  exact W.iret (v := 0) hx hb hr (fun t ht hW => ⟨⟨0, (), rfl, rfl, by rw [ht]; exact hP9, va_K.moved hW.alike hK, hD9⟩, hS.F ht⟩) hS.2.2 dX1_setIn_35

set_option maxHeartbeats 4000000 in
set_option maxRecDepth 100000 in
theorem ct_X1_worthsOf (l : Launch) (D : va_G) (cI cY cJ cQ : ClassId) (sz : Nat) (ad : Nat → Nat) (a : Int32)   : Met l yX1_worthsOf wsX1_worthsOf ({ frames := 0, cells := 0, slots := 0, locals := 0 }) (cPre D (ty4 cI cY cJ cQ) [((ad 3), .inr (1, [.ref (ad 31), .ref (ad 32), .ref (ad 33), .int 0, .ref (ad 34), .ref (ad 35)]))] sz [.ref (ad 3), .int a]) (va_Qi (fun (r : Int32) (u : Unit) => r = 0) (cB D (ty4 cI cY cJ cQ) (fun (u : Unit) => [((ad 3), .inr (1, [.ref (ad 31), .ref (ad 32), .ref (ad 33), .int 0, .ref (ad 34), .ref (ad 35)]))]) (va_A [((ad 3), .inr (1, [.ref (ad 31), .ref (ad 32), .ref (ad 33), .int 0, .ref (ad 34), .ref (ad 35)]))] sz)) (va_A [((ad 3), .inr (1, [.ref (ad 31), .ref (ad 32), .ref (ad 33), .int 0, .ref (ad 34), .ref (ad 35)]))] sz)) 0 0 (va_A [((ad 3), .inr (1, [.ref (ad 31), .ref (ad 32), .ref (ad 33), .int 0, .ref (ad 34), .ref (ad 35)]))] sz) := by
  refine Met.ofW (cc := cX1_worthsOf) (maxL := 4) (ret := (some .int)) (by decide) rfl ?_
  intro p e s m args below meth c s₁ B hml hv
  obtain ⟨rfl, hsz, hP, hK, hD0, hN⟩ := hv
  have hx := B.exec
  have hb := B.bytes
  have hr := B.returns
  have hts := atoms_spec (ws := wsX1_worthsOf) B.pre
  have hown : s.vm.findClass RX1 = some m.cls := findClass_of_methodNamed B.named
  have hlocks := B.notSynchronized
  subst hsz
  have hD := hD0.self (sz := s.heap.size)
  generalize hAe : va_A [((ad 3), .inr (1, [.ref (ad 31), .ref (ad 32), .ref (ad 33), .int 0, .ref (ad 34), .ref (ad 35)]))] s.heap.size = A at hD ⊢
  have hA : ∀ q : Nat, s.heap.size ≤ q → A q := fun q h => by rw [← hAe]; exact Or.inr h
  have hS : va_S A s.heap s.heap [] := va_S.rf
  have hP : va_P D vwCl [((ad 3), .inr (1, [.ref (ad 31), .ref (ad 32), .ref (ad 33), .int 0, .ref (ad 34), .ref (ad 35)]))] s.heap := hP
  have hl := lv_entry ([.ref (ad 3), .int a]) (n := 4) (Nat.le_of_ble_eq_true rfl)
  rw [lg_entry_eq]
  generalize (lg_sl ([.ref (ad 3), .int a]) ++ List.replicate (4 - (lg_sl ([.ref (ad 3), .int a])).length) Slot.unset).toArray = ls at hl ⊢
  have hl : lv_has ls 4 [(0, .ref (ad 3)), (1, .int a)] := hl
  refine lv_iconst (v := 0) hx hb dX1_worthsOf_0 (by decide) ?_
  refine lv_istore_n (lv' := [(2, .int 0), (0, .ref (ad 3)), (1, .int a)]) hx hb dX1_worthsOf_1 rfl hl (by decide) rfl (fun ls hl => ?_)
  refine lv_iconst (v := 0) hx hb dX1_worthsOf_2 (by decide) ?_
  refine lv_istore_n (lv' := [(3, .int 0), (2, .int 0), (0, .ref (ad 3)), (1, .int a)]) hx hb dX1_worthsOf_3 rfl hl (by decide) rfl (fun ls hl => ?_)
  refine lv_iload_n hx hb dX1_worthsOf_4 rfl (lv_at hl 0 rfl) ?_
  refine lv_aload_n hx hb dX1_worthsOf_5 rfl (lv_at hl 2 rfl) ?_
  refine va_get (D := D) (ci := 1) (v := .int 0) (C := RX1) (T := TX1) (N := 6) hx hb hts (by decide +kernel) hown hK hP 0 rfl rfl 3 (by decide) (hts (.fieldLink RX1 35 "PortRooms$Crates" "count" "I") (by decide +kernel)) (fun _ h9 => h9) rfl dX1_worthsOf_6 ?_
  refine lv_icmp_ge (tgt := 35) hx hb dX1_worthsOf_9 (by decide) (fun _ => ?_) (fun c => absurd (by decide) c)
  refine lv_iload_n hx hb dX1_worthsOf_35 rfl (lv_at hl 1 rfl) ?_
  have hP9 := hP.sub (ws' := [((ad 3), .inr (1, [.ref (ad 31), .ref (ad 32), .ref (ad 33), .int 0, .ref (ad 34), .ref (ad 35)]))]) [0] rfl
  have hD9 := hD.sub (ws' := [((ad 3), .inr (1, [.ref (ad 31), .ref (ad 32), .ref (ad 33), .int 0, .ref (ad 34), .ref (ad 35)]))]) [0] (by decide) rfl
  exact W.iret (v := 0) hx hb hr (fun t ht hW => ⟨⟨0, (), rfl, rfl, by rw [ht]; exact hP9, va_K.moved hW.alike hK, hD9⟩, hS.F ht⟩) hS.2.2 dX1_worthsOf_36

set_option maxHeartbeats 4000000 in
set_option maxRecDepth 100000 in
theorem ct_bitCount0 (l : Launch) (D : va_G) (cI cY cJ cQ : ClassId) (sz : Nat)   : Met l yJ6_bitCount_0f7a4 wsJ6_bitCount_0f7a4 ({ frames := 0, cells := 0, slots := 0, locals := 0 }) (cPre D (ty4 cI cY cJ cQ) [] sz [.int 0]) (va_Qi (fun (r : Int32) (u : Unit) => r = 0) (cB D (ty4 cI cY cJ cQ) (fun (u : Unit) => []) (va_A [] sz)) (va_A [] sz)) 0 0 (va_A [] sz) := by
  refine Met.ofW (cc := cJ6_bitCount_0f7a4) (maxL := 1) (ret := (some .int)) (by decide) rfl ?_
  intro p e s m args below meth c s₁ B hml hv
  obtain ⟨rfl, hsz, hP, hK, hD0, hN⟩ := hv
  have hx := B.exec
  have hb := B.bytes
  have hr := B.returns
  have hts := atoms_spec (ws := wsJ6_bitCount_0f7a4) B.pre
  have hown : s.vm.findClass RJ6 = some m.cls := findClass_of_methodNamed B.named
  have hlocks := B.notSynchronized
  subst hsz
  have hD := hD0.self (sz := s.heap.size)
  generalize hAe : va_A [] s.heap.size = A at hD ⊢
  have hA : ∀ q : Nat, s.heap.size ≤ q → A q := fun q h => by rw [← hAe]; exact Or.inr h
  have hS : va_S A s.heap s.heap [] := va_S.rf
  have hP : va_P D vwCl [] s.heap := hP
  have hl := lv_entry ([.int 0]) (n := 1) (Nat.le_of_ble_eq_true rfl)
  rw [lg_entry_eq]
  generalize (lg_sl ([.int 0]) ++ List.replicate (1 - (lg_sl ([.int 0])).length) Slot.unset).toArray = ls at hl ⊢
  have hl : lv_has ls 1 [(0, .int 0)] := hl
  refine lv_iload_n hx hb dJ6_bitCount_0f7a4_0 rfl (lv_at hl 0 rfl) ?_
  refine lv_iload_n hx hb dJ6_bitCount_0f7a4_1 rfl (lv_at hl 0 rfl) ?_
  refine lv_iconst (v := 1) hx hb dJ6_bitCount_0f7a4_2 (by decide) ?_
  refine lv_iushr (v := 0) hx hb dJ6_bitCount_0f7a4_3 (by decide) ?_
  refine lv_ldcw hx hb hown (hts (.constant RJ6 265 (1431655765)) (by decide +kernel)) dJ6_bitCount_0f7a4_4 ?_
  refine lv_iand hx hb dJ6_bitCount_0f7a4_7 ?_
  refine lv_topi (fun v1 ev1 => ?_)
  replace ev1 : v1 = 0 := ev1.trans (by first | exact Int32.zero_and | exact Int32.and_zero)
  subst ev1
  refine lv_isub hx hb dJ6_bitCount_0f7a4_8 ?_
  refine lv_topi (fun v2 ev2 => ?_)
  replace ev2 : v2 = 0 := ev2.trans (by decide)
  subst ev2
  refine lv_istore_n (lv' := [(0, .int 0)]) hx hb dJ6_bitCount_0f7a4_9 rfl hl (by decide) rfl (fun ls hl => ?_)
  refine lv_iload_n hx hb dJ6_bitCount_0f7a4_10 rfl (lv_at hl 0 rfl) ?_
  refine lv_ldcw hx hb hown (hts (.constant RJ6 266 (858993459)) (by decide +kernel)) dJ6_bitCount_0f7a4_11 ?_
  refine lv_iand hx hb dJ6_bitCount_0f7a4_14 ?_
  refine lv_topi (fun v3 ev3 => ?_)
  replace ev3 : v3 = 0 := ev3.trans (by first | exact Int32.zero_and | exact Int32.and_zero)
  subst ev3
  refine lv_iload_n hx hb dJ6_bitCount_0f7a4_15 rfl (lv_at hl 0 rfl) ?_
  refine lv_iconst (v := 2) hx hb dJ6_bitCount_0f7a4_16 (by decide) ?_
  refine lv_iushr (v := 0) hx hb dJ6_bitCount_0f7a4_17 (by decide) ?_
  refine lv_ldcw hx hb hown (hts (.constant RJ6 266 (858993459)) (by decide +kernel)) dJ6_bitCount_0f7a4_18 ?_
  refine lv_iand hx hb dJ6_bitCount_0f7a4_21 ?_
  refine lv_topi (fun v4 ev4 => ?_)
  replace ev4 : v4 = 0 := ev4.trans (by first | exact Int32.zero_and | exact Int32.and_zero)
  subst ev4
  refine lv_iadd hx hb dJ6_bitCount_0f7a4_22 ?_
  refine lv_topi (fun v5 ev5 => ?_)
  replace ev5 : v5 = 0 := ev5.trans (by decide)
  subst ev5
  refine lv_istore_n (lv' := [(0, .int 0)]) hx hb dJ6_bitCount_0f7a4_23 rfl hl (by decide) rfl (fun ls hl => ?_)
  refine lv_iload_n hx hb dJ6_bitCount_0f7a4_24 rfl (lv_at hl 0 rfl) ?_
  refine lv_iload_n hx hb dJ6_bitCount_0f7a4_25 rfl (lv_at hl 0 rfl) ?_
  refine lv_iconst (v := 4) hx hb dJ6_bitCount_0f7a4_26 (by decide) ?_
  refine lv_iushr (v := 0) hx hb dJ6_bitCount_0f7a4_27 (by decide) ?_
  refine lv_iadd hx hb dJ6_bitCount_0f7a4_28 ?_
  refine lv_topi (fun v6 ev6 => ?_)
  replace ev6 : v6 = 0 := ev6.trans (by decide)
  subst ev6
  refine lv_ldcw hx hb hown (hts (.constant RJ6 267 (252645135)) (by decide +kernel)) dJ6_bitCount_0f7a4_29 ?_
  refine lv_iand hx hb dJ6_bitCount_0f7a4_32 ?_
  refine lv_topi (fun v7 ev7 => ?_)
  replace ev7 : v7 = 0 := ev7.trans (by first | exact Int32.zero_and | exact Int32.and_zero)
  subst ev7
  refine lv_istore_n (lv' := [(0, .int 0)]) hx hb dJ6_bitCount_0f7a4_33 rfl hl (by decide) rfl (fun ls hl => ?_)
  refine lv_iload_n hx hb dJ6_bitCount_0f7a4_34 rfl (lv_at hl 0 rfl) ?_
  refine lv_iload_n hx hb dJ6_bitCount_0f7a4_35 rfl (lv_at hl 0 rfl) ?_
  refine lv_bipush (v := 8) hx hb dJ6_bitCount_0f7a4_36 (by decide) ?_
  refine lv_iushr (v := 0) hx hb dJ6_bitCount_0f7a4_38 (by decide) ?_
  refine lv_iadd hx hb dJ6_bitCount_0f7a4_39 ?_
  refine lv_topi (fun v8 ev8 => ?_)
  replace ev8 : v8 = 0 := ev8.trans (by decide)
  subst ev8
  refine lv_istore_n (lv' := [(0, .int 0)]) hx hb dJ6_bitCount_0f7a4_40 rfl hl (by decide) rfl (fun ls hl => ?_)
  refine lv_iload_n hx hb dJ6_bitCount_0f7a4_41 rfl (lv_at hl 0 rfl) ?_
  refine lv_iload_n hx hb dJ6_bitCount_0f7a4_42 rfl (lv_at hl 0 rfl) ?_
  refine lv_bipush (v := 16) hx hb dJ6_bitCount_0f7a4_43 (by decide) ?_
  refine lv_iushr (v := 0) hx hb dJ6_bitCount_0f7a4_45 (by decide) ?_
  refine lv_iadd hx hb dJ6_bitCount_0f7a4_46 ?_
  refine lv_topi (fun v9 ev9 => ?_)
  replace ev9 : v9 = 0 := ev9.trans (by decide)
  subst ev9
  refine lv_istore_n (lv' := [(0, .int 0)]) hx hb dJ6_bitCount_0f7a4_47 rfl hl (by decide) rfl (fun ls hl => ?_)
  refine lv_iload_n hx hb dJ6_bitCount_0f7a4_48 rfl (lv_at hl 0 rfl) ?_
  refine lv_bipush (v := 63) hx hb dJ6_bitCount_0f7a4_49 (by decide) ?_
  refine lv_iand hx hb dJ6_bitCount_0f7a4_51 ?_
  refine lv_topi (fun v10 ev10 => ?_)
  replace ev10 : v10 = 0 := ev10.trans (by first | exact Int32.zero_and | exact Int32.and_zero)
  subst ev10
  have hP9 := hP.sub (ws' := []) [] rfl
  have hD9 := hD.sub (ws' := []) [] (by decide) rfl
  exact W.iret (v := 0) hx hb hr (fun t ht hW => ⟨⟨0, (), rfl, rfl, by rw [ht]; exact hP9, va_K.moved hW.alike hK, hD9⟩, hS.F ht⟩) hS.2.2 dJ6_bitCount_0f7a4_52

set_option maxHeartbeats 4000000 in
set_option maxRecDepth 100000 in
theorem ct_X10_inside (l : Launch) (D : va_G) (cI cY cJ cQ : ClassId) (sz : Nat) (ad : Nat → Nat) (q w : Int32)   : Met l yX10_inside wsX10_inside ({ frames := 1, cells := 0, slots := 0, locals := 23 }) (cPre D (ty4 cI cY cJ cQ) [((ad 0), .inr (10, [.ref (ad 1), .ref (ad 2), .ref (ad 3), .ref (ad 4), .ref (ad 5), .ref (ad 6), .ref (ad 7), .ref (ad 8), .ref (ad 9), .ref (ad 10), .ref (ad 11), .int 0, .int 0, .int 0])), ((ad 3), .inr (1, [.ref (ad 31), .ref (ad 32), .ref (ad 33), .int 0, .ref (ad 34), .ref (ad 35)]))] sz [.ref (ad 0), .int q, .int w]) (va_Qi (fun (r : Int32) (u : Unit) => r = an_inside q w) (cB D (ty4 cI cY cJ cQ) (fun (u : Unit) => []) (va_A [((ad 0), .inr (10, [.ref (ad 1), .ref (ad 2), .ref (ad 3), .ref (ad 4), .ref (ad 5), .ref (ad 6), .ref (ad 7), .ref (ad 8), .ref (ad 9), .ref (ad 10), .ref (ad 11), .int 0, .int 0, .int 0])), ((ad 3), .inr (1, [.ref (ad 31), .ref (ad 32), .ref (ad 33), .int 0, .ref (ad 34), .ref (ad 35)]))] sz)) (va_A [((ad 0), .inr (10, [.ref (ad 1), .ref (ad 2), .ref (ad 3), .ref (ad 4), .ref (ad 5), .ref (ad 6), .ref (ad 7), .ref (ad 8), .ref (ad 9), .ref (ad 10), .ref (ad 11), .int 0, .int 0, .int 0])), ((ad 3), .inr (1, [.ref (ad 31), .ref (ad 32), .ref (ad 33), .int 0, .ref (ad 34), .ref (ad 35)]))] sz)) 0 0 (va_A [((ad 0), .inr (10, [.ref (ad 1), .ref (ad 2), .ref (ad 3), .ref (ad 4), .ref (ad 5), .ref (ad 6), .ref (ad 7), .ref (ad 8), .ref (ad 9), .ref (ad 10), .ref (ad 11), .int 0, .int 0, .int 0])), ((ad 3), .inr (1, [.ref (ad 31), .ref (ad 32), .ref (ad 33), .int 0, .ref (ad 34), .ref (ad 35)]))] sz) := by
  refine Met.ofW (cc := cX10_inside) (maxL := 4) (ret := (some .int)) (by decide) rfl ?_
  intro p e s m args below meth c s₁ B hml hv
  obtain ⟨rfl, hsz, hP, hK, hD0, hN⟩ := hv
  have hx := B.exec
  have hb := B.bytes
  have hr := B.returns
  have hts := atoms_spec (ws := wsX10_inside) B.pre
  have hown : s.vm.findClass RX10 = some m.cls := findClass_of_methodNamed B.named
  have hlocks := B.notSynchronized
  subst hsz
  have hD := hD0.self (sz := s.heap.size)
  generalize hAe : va_A [((ad 0), .inr (10, [.ref (ad 1), .ref (ad 2), .ref (ad 3), .ref (ad 4), .ref (ad 5), .ref (ad 6), .ref (ad 7), .ref (ad 8), .ref (ad 9), .ref (ad 10), .ref (ad 11), .int 0, .int 0, .int 0])), ((ad 3), .inr (1, [.ref (ad 31), .ref (ad 32), .ref (ad 33), .int 0, .ref (ad 34), .ref (ad 35)]))] s.heap.size = A at hD ⊢
  have hA : ∀ q : Nat, s.heap.size ≤ q → A q := fun q h => by rw [← hAe]; exact Or.inr h
  have hS : va_S A s.heap s.heap [] := va_S.rf
  have hP : va_P D vwCl [((ad 0), .inr (10, [.ref (ad 1), .ref (ad 2), .ref (ad 3), .ref (ad 4), .ref (ad 5), .ref (ad 6), .ref (ad 7), .ref (ad 8), .ref (ad 9), .ref (ad 10), .ref (ad 11), .int 0, .int 0, .int 0])), ((ad 3), .inr (1, [.ref (ad 31), .ref (ad 32), .ref (ad 33), .int 0, .ref (ad 34), .ref (ad 35)]))] s.heap := hP
  have hl := lv_entry ([.ref (ad 0), .int q, .int w]) (n := 4) (Nat.le_of_ble_eq_true rfl)
  rw [lg_entry_eq]
  generalize (lg_sl ([.ref (ad 0), .int q, .int w]) ++ List.replicate (4 - (lg_sl ([.ref (ad 0), .int q, .int w])).length) Slot.unset).toArray = ls at hl ⊢
  have hl : lv_has ls 4 [(0, .ref (ad 0)), (1, .int q), (2, .int w)] := hl
  have k0 : (0 : Int32).toInt = 0 := by decide
  have k1 : (1 : Int32).toInt = 1 := by decide
  have k3 : (3 : Int32).toInt = 3 := by decide
  have k6 : (6 : Int32).toInt = 6 := by decide
  refine lv_iload_n hx hb dX10_inside_0 rfl (lv_at hl 1 rfl) ?_
  refine lv_bipush (v := 6) hx hb dX10_inside_1 (by decide) ?_
  refine st_i (wr := [((ad 0), .inr (10, [.ref (ad 1), .ref (ad 2), .ref (ad 3), .ref (ad 4), .ref (ad 5), .ref (ad 6), .ref (ad 7), .ref (ad 8), .ref (ad 9), .ref (ad 10), .ref (ad 11), .int 0, .int 0, .int 0])), ((ad 3), .inr (1, [.ref (ad 31), .ref (ad 32), .ref (ad 33), .int 0, .ref (ad 34), .ref (ad 35)]))]) (va_runS (As := [.int q, .int 6]) (rest := []) ⟨hx, hb, hml, hown, hts⟩ (ct_X10_isBelow l D cI cY cJ cQ _ q (6)) (va_cwS 2 hts gX10_inside_X10_isBelow rfl rfl rfl (by decide +kernel) ⟨Nat.le_of_ble_eq_true rfl, Nat.le_of_ble_eq_true rfl⟩) (cPreS (hP.sub [] rfl) hK (hD.sub [] (by decide) rfl) hN) rfl rfl hl.1 rfl (lv_room (Nat.le_of_ble_eq_true rfl)) dX10_inside_3 ⟨Nat.le_of_ble_eq_true rfl, Nat.le_of_ble_eq_true rfl⟩) hP hD hS hA [] [0, 1] rfl rfl (by decide) (by decide) (fun r3 u1 H locs hw2 hP hD hS => ?_)
  replace hP : va_P D vwCl [((ad 0), .inr (10, [.ref (ad 1), .ref (ad 2), .ref (ad 3), .ref (ad 4), .ref (ad 5), .ref (ad 6), .ref (ad 7), .ref (ad 8), .ref (ad 9), .ref (ad 10), .ref (ad 11), .int 0, .int 0, .int 0])), ((ad 3), .inr (1, [.ref (ad 31), .ref (ad 32), .ref (ad 33), .int 0, .ref (ad 34), .ref (ad 35)]))] H := hP
  replace hD : va_D A [((ad 0), .inr (10, [.ref (ad 1), .ref (ad 2), .ref (ad 3), .ref (ad 4), .ref (ad 5), .ref (ad 6), .ref (ad 7), .ref (ad 8), .ref (ad 9), .ref (ad 10), .ref (ad 11), .int 0, .int 0, .int 0])), ((ad 3), .inr (1, [.ref (ad 31), .ref (ad 32), .ref (ad 33), .int 0, .ref (ad 34), .ref (ad 35)]))] := hD
  refine lv_if_eq (tgt := 17) hx hb dX10_inside_6 (by decide) (fun c4 => ?_) (fun c4 => ?_)
  · skip
    have f5 := bo_f hw2 c4
    refine lv_ldc hx hb hown (hts (.constant RX10 89 (-1000001)) (by decide +kernel)) dX10_inside_17 ?_
    have hP9 := hP.sub (ws' := []) [] rfl
    have hD9 := hD.sub (ws' := []) [] (by decide) rfl
    exact W.iret (v := (-1000001)) hx hb hr (fun t ht hW => ⟨⟨(-1000001), (), rfl, (by unfold an_inside; (repeat' split) <;> first | rfl | (exfalso; omega)), by rw [ht]; exact hP9, va_K.moved hW.alike hK, hD9⟩, hS.F ht⟩) hS.2.2 dX10_inside_19
  · skip
    have f6 := bo_t hw2 c4
    refine lv_iload_n hx hb dX10_inside_9 rfl (lv_at hl 2 rfl) ?_
    refine lv_iconst (v := 3) hx hb dX10_inside_10 (by decide) ?_
    refine st_i (wr := [((ad 0), .inr (10, [.ref (ad 1), .ref (ad 2), .ref (ad 3), .ref (ad 4), .ref (ad 5), .ref (ad 6), .ref (ad 7), .ref (ad 8), .ref (ad 9), .ref (ad 10), .ref (ad 11), .int 0, .int 0, .int 0])), ((ad 3), .inr (1, [.ref (ad 31), .ref (ad 32), .ref (ad 33), .int 0, .ref (ad 34), .ref (ad 35)]))]) (va_runS (As := [.int w, .int 3]) (rest := []) ⟨hx, hb, hml, hown, hts⟩ (ct_X10_isBelow l D cI cY cJ cQ _ w (3)) (va_cwS 2 hts gX10_inside_X10_isBelow rfl rfl rfl (by decide +kernel) ⟨Nat.le_of_ble_eq_true rfl, Nat.le_of_ble_eq_true rfl⟩) (cPreS (hP.sub [] rfl) hK (hD.sub [] (by decide) rfl) hN) rfl rfl hl.1 rfl (lv_room (Nat.le_of_ble_eq_true rfl)) dX10_inside_11 ⟨Nat.le_of_ble_eq_true rfl, Nat.le_of_ble_eq_true rfl⟩) hP hD hS hA [] [0, 1] rfl rfl (by decide) (by decide) (fun r9 u7 H locs hw8 hP hD hS => ?_)
    replace hP : va_P D vwCl [((ad 0), .inr (10, [.ref (ad 1), .ref (ad 2), .ref (ad 3), .ref (ad 4), .ref (ad 5), .ref (ad 6), .ref (ad 7), .ref (ad 8), .ref (ad 9), .ref (ad 10), .ref (ad 11), .int 0, .int 0, .int 0])), ((ad 3), .inr (1, [.ref (ad 31), .ref (ad 32), .ref (ad 33), .int 0, .ref (ad 34), .ref (ad 35)]))] H := hP
    replace hD : va_D A [((ad 0), .inr (10, [.ref (ad 1), .ref (ad 2), .ref (ad 3), .ref (ad 4), .ref (ad 5), .ref (ad 6), .ref (ad 7), .ref (ad 8), .ref (ad 9), .ref (ad 10), .ref (ad 11), .int 0, .int 0, .int 0])), ((ad 3), .inr (1, [.ref (ad 31), .ref (ad 32), .ref (ad 33), .int 0, .ref (ad 34), .ref (ad 35)]))] := hD
    refine lv_if_ne (tgt := 20) hx hb dX10_inside_14 (by decide) (fun c10 => ?_) (fun c10 => ?_)
    · skip
      have f11 := bo_t hw8 c10
      refine lv_aload_n hx hb dX10_inside_20 rfl (lv_at hl 0 rfl) ?_
      refine va_get (D := D) (ci := 10) (v := .ref (ad 3)) (C := RX10) (T := TX10) (N := 14) hx hb hts (by decide +kernel) hown hK hP 0 rfl rfl 2 (by decide) (hts (.fieldLink RX10 26 "PortRooms" "crates" "LPortRooms$Crates;") (by decide +kernel)) (fun _ h9 => h9) rfl dX10_inside_21 ?_
      refine lv_iload_n hx hb dX10_inside_24 rfl (lv_at hl 1 rfl) ?_
      refine st_i (wr := [((ad 0), .inr (10, [.ref (ad 1), .ref (ad 2), .ref (ad 3), .ref (ad 4), .ref (ad 5), .ref (ad 6), .ref (ad 7), .ref (ad 8), .ref (ad 9), .ref (ad 10), .ref (ad 11), .int 0, .int 0, .int 0]))]) (va_runV (C := RX1) (As := [.int q]) (rest := []) ⟨hx, hb, hml, hown, hts⟩ (ct_X1_setIn l D cI cY cJ cQ _ ad q) (cwV 1 hts gX10_inside_X1_setIn rfl rfl rfl (by decide +kernel) ⟨Nat.le_of_ble_eq_true rfl, Nat.le_of_ble_eq_true rfl⟩) (cPreV (hP.sub [1] rfl) hK (hD.sub [1] (by decide) rfl) hN (ci := 1) (q0 := 0) rfl rfl) rfl rfl hl.1 rfl (lv_room (Nat.le_of_ble_eq_true rfl)) dX10_inside_25 ⟨Nat.le_of_ble_eq_true rfl, Nat.le_of_ble_eq_true rfl⟩) hP hD hS hA [1] [0] rfl rfl (by decide) (by decide) (fun r14 u12 H locs hw13 hP hD hS => ?_)
      replace hP : va_P D vwCl [((ad 0), .inr (10, [.ref (ad 1), .ref (ad 2), .ref (ad 3), .ref (ad 4), .ref (ad 5), .ref (ad 6), .ref (ad 7), .ref (ad 8), .ref (ad 9), .ref (ad 10), .ref (ad 11), .int 0, .int 0, .int 0])), ((ad 3), .inr (1, [.ref (ad 31), .ref (ad 32), .ref (ad 33), .int 0, .ref (ad 34), .ref (ad 35)]))] H := hP
      replace hD : va_D A [((ad 0), .inr (10, [.ref (ad 1), .ref (ad 2), .ref (ad 3), .ref (ad 4), .ref (ad 5), .ref (ad 6), .ref (ad 7), .ref (ad 8), .ref (ad 9), .ref (ad 10), .ref (ad 11), .int 0, .int 0, .int 0])), ((ad 3), .inr (1, [.ref (ad 31), .ref (ad 32), .ref (ad 33), .int 0, .ref (ad 34), .ref (ad 35)]))] := hD
      subst hw13
      refine lv_istore_n (lv' := [(3, .int 0), (0, .ref (ad 0)), (1, .int q), (2, .int w)]) hx hb dX10_inside_28 rfl hl (by decide) rfl (fun ls hl => ?_)
      refine lv_iload_n hx hb dX10_inside_29 rfl (lv_at hl 3 rfl) ?_
      refine lv_if_ne (tgt := 38) hx hb dX10_inside_30 (by decide) (fun c15 => ?_) (fun c15 => ?_)
      · skip
        have f16 := i_ne c15
        refine lv_iload_n hx hb dX10_inside_38 rfl (lv_at hl 3 rfl) ?_
        refine lv_iconst (v := 1) hx hb dX10_inside_39 (by decide) ?_
        refine lv_icmp_ne (tgt := 54) hx hb dX10_inside_40 (by decide) (fun c17 => ?_) (fun c17 => ?_)
        · skip
          have f18 := i_ne c17
          refine lv_iload_n hx hb dX10_inside_54 rfl (lv_at hl 0 rfl) ?_
          have hP9 := hP.sub (ws' := []) [] rfl
          have hD9 := hD.sub (ws' := []) [] (by decide) rfl
          exact W.iret (v := 0) hx hb hr (fun t ht hW => ⟨⟨0, (), rfl, (by unfold an_inside; (repeat' split) <;> first | rfl | (exfalso; omega)), by rw [ht]; exact hP9, va_K.moved hW.alike hK, hD9⟩, hS.F ht⟩) hS.2.2 dX10_inside_55
        · skip
          have f19 := i_eq c17
          refine lv_aload_n hx hb dX10_inside_43 rfl (lv_at hl 1 rfl) ?_
          refine va_get (D := D) (ci := 10) (v := .ref (ad 3)) (C := RX10) (T := TX10) (N := 14) hx hb hts (by decide +kernel) hown hK hP 0 rfl rfl 2 (by decide) (hts (.fieldLink RX10 26 "PortRooms" "crates" "LPortRooms$Crates;") (by decide +kernel)) (fun _ h9 => h9) rfl dX10_inside_44 ?_
          refine lv_iload_n hx hb dX10_inside_47 rfl (lv_at hl 0 rfl) ?_
          refine st_i (wr := [((ad 0), .inr (10, [.ref (ad 1), .ref (ad 2), .ref (ad 3), .ref (ad 4), .ref (ad 5), .ref (ad 6), .ref (ad 7), .ref (ad 8), .ref (ad 9), .ref (ad 10), .ref (ad 11), .int 0, .int 0, .int 0]))]) (va_runV (C := RX1) (As := [.int 0]) (rest := []) ⟨hx, hb, hml, hown, hts⟩ (ct_X1_worthsOf l D cI cY cJ cQ _ ad (0)) (cwV 1 hts gX10_inside_X1_worthsOf rfl rfl rfl (by decide +kernel) ⟨Nat.le_of_ble_eq_true rfl, Nat.le_of_ble_eq_true rfl⟩) (cPreV (hP.sub [1] rfl) hK (hD.sub [1] (by decide) rfl) hN (ci := 1) (q0 := 0) rfl rfl) rfl rfl hl.1 rfl (lv_room (Nat.le_of_ble_eq_true rfl)) dX10_inside_48 ⟨Nat.le_of_ble_eq_true rfl, Nat.le_of_ble_eq_true rfl⟩) hP hD hS hA [1] [0] rfl rfl (by decide) (by decide) (fun r22 u20 H locs hw21 hP hD hS => ?_)
          replace hP : va_P D vwCl [((ad 0), .inr (10, [.ref (ad 1), .ref (ad 2), .ref (ad 3), .ref (ad 4), .ref (ad 5), .ref (ad 6), .ref (ad 7), .ref (ad 8), .ref (ad 9), .ref (ad 10), .ref (ad 11), .int 0, .int 0, .int 0])), ((ad 3), .inr (1, [.ref (ad 31), .ref (ad 32), .ref (ad 33), .int 0, .ref (ad 34), .ref (ad 35)]))] H := hP
          replace hD : va_D A [((ad 0), .inr (10, [.ref (ad 1), .ref (ad 2), .ref (ad 3), .ref (ad 4), .ref (ad 5), .ref (ad 6), .ref (ad 7), .ref (ad 8), .ref (ad 9), .ref (ad 10), .ref (ad 11), .int 0, .int 0, .int 0])), ((ad 3), .inr (1, [.ref (ad 31), .ref (ad 32), .ref (ad 33), .int 0, .ref (ad 34), .ref (ad 35)]))] := hD
          subst hw21
          refine lv_goto (tgt := 55) hx hb dX10_inside_51 (by decide) ?_
          have hP9 := hP.sub (ws' := []) [] rfl
          have hD9 := hD.sub (ws' := []) [] (by decide) rfl
          exact W.iret (v := 0) hx hb hr (fun t ht hW => ⟨⟨0, (), rfl, (by unfold an_inside; (repeat' split) <;> first | rfl | (exfalso; omega)), by rw [ht]; exact hP9, va_K.moved hW.alike hK, hD9⟩, hS.F ht⟩) hS.2.2 dX10_inside_55
      · skip
        have f23 := i_eq c15
        refine lv_iload_n hx hb dX10_inside_33 rfl (lv_at hl 0 rfl) ?_
        refine st_i (wr := [((ad 0), .inr (10, [.ref (ad 1), .ref (ad 2), .ref (ad 3), .ref (ad 4), .ref (ad 5), .ref (ad 6), .ref (ad 7), .ref (ad 8), .ref (ad 9), .ref (ad 10), .ref (ad 11), .int 0, .int 0, .int 0])), ((ad 3), .inr (1, [.ref (ad 31), .ref (ad 32), .ref (ad 33), .int 0, .ref (ad 34), .ref (ad 35)]))]) (va_runS (As := [.int 0]) (rest := []) ⟨hx, hb, hml, hown, hts⟩ (ct_bitCount0 l D cI cY cJ cQ _) (va_cwS 1 hts gX10_inside_J6_bitCount_0f7a4 rfl rfl rfl (by decide +kernel) ⟨Nat.le_of_ble_eq_true rfl, Nat.le_of_ble_eq_true rfl⟩) (cPreS (hP.sub [] rfl) hK (hD.sub [] (by decide) rfl) hN) rfl rfl hl.1 rfl (lv_room (Nat.le_of_ble_eq_true rfl)) dX10_inside_34 ⟨Nat.le_of_ble_eq_true rfl, Nat.le_of_ble_eq_true rfl⟩) hP hD hS hA [] [0, 1] rfl rfl (by decide) (by decide) (fun r26 u24 H locs hw25 hP hD hS => ?_)
        replace hP : va_P D vwCl [((ad 0), .inr (10, [.ref (ad 1), .ref (ad 2), .ref (ad 3), .ref (ad 4), .ref (ad 5), .ref (ad 6), .ref (ad 7), .ref (ad 8), .ref (ad 9), .ref (ad 10), .ref (ad 11), .int 0, .int 0, .int 0])), ((ad 3), .inr (1, [.ref (ad 31), .ref (ad 32), .ref (ad 33), .int 0, .ref (ad 34), .ref (ad 35)]))] H := hP
        replace hD : va_D A [((ad 0), .inr (10, [.ref (ad 1), .ref (ad 2), .ref (ad 3), .ref (ad 4), .ref (ad 5), .ref (ad 6), .ref (ad 7), .ref (ad 8), .ref (ad 9), .ref (ad 10), .ref (ad 11), .int 0, .int 0, .int 0])), ((ad 3), .inr (1, [.ref (ad 31), .ref (ad 32), .ref (ad 33), .int 0, .ref (ad 34), .ref (ad 35)]))] := hD
        subst hw25
        have hP9 := hP.sub (ws' := []) [] rfl
        have hD9 := hD.sub (ws' := []) [] (by decide) rfl
        exact W.iret (v := 0) hx hb hr (fun t ht hW => ⟨⟨0, (), rfl, (by unfold an_inside; (repeat' split) <;> first | rfl | (exfalso; omega)), by rw [ht]; exact hP9, va_K.moved hW.alike hK, hD9⟩, hS.F ht⟩) hS.2.2 dX10_inside_37
    · skip
      have f27 := bo_f hw8 c10
      refine lv_ldc hx hb hown (hts (.constant RX10 89 (-1000001)) (by decide +kernel)) dX10_inside_17 ?_
      have hP9 := hP.sub (ws' := []) [] rfl
      have hD9 := hD.sub (ws' := []) [] (by decide) rfl
      exact W.iret (v := (-1000001)) hx hb hr (fun t ht hW => ⟨⟨(-1000001), (), rfl, (by unfold an_inside; (repeat' split) <;> first | rfl | (exfalso; omega)), by rw [ht]; exact hP9, va_K.moved hW.alike hK, hD9⟩, hS.F ht⟩) hS.2.2 dX10_inside_19

set_option maxHeartbeats 4000000 in
set_option maxRecDepth 100000 in
theorem ct_X1_setInRooms (l : Launch) (D : va_G) (cI cY cJ cQ : ClassId) (sz : Nat) (ad : Nat → Nat)   : Met l yX1_setInRooms wsX1_setInRooms ({ frames := 1, cells := 0, slots := 0, locals := 23 }) (cPre D (ty4 cI cY cJ cQ) [((ad 3), .inr (1, [.ref (ad 31), .ref (ad 32), .ref (ad 33), .int 0, .ref (ad 34), .ref (ad 35)]))] sz [.ref (ad 3)]) (va_Qi (fun (r : Int32) (u : Unit) => r = 0) (cB D (ty4 cI cY cJ cQ) (fun (u : Unit) => [((ad 3), .inr (1, [.ref (ad 31), .ref (ad 32), .ref (ad 33), .int 0, .ref (ad 34), .ref (ad 35)]))]) (va_A [((ad 3), .inr (1, [.ref (ad 31), .ref (ad 32), .ref (ad 33), .int 0, .ref (ad 34), .ref (ad 35)]))] sz)) (va_A [((ad 3), .inr (1, [.ref (ad 31), .ref (ad 32), .ref (ad 33), .int 0, .ref (ad 34), .ref (ad 35)]))] sz)) 0 0 (va_A [((ad 3), .inr (1, [.ref (ad 31), .ref (ad 32), .ref (ad 33), .int 0, .ref (ad 34), .ref (ad 35)]))] sz) := by
  refine Met.ofW (cc := cX1_setInRooms) (maxL := 2) (ret := (some .int)) (by decide) rfl ?_
  intro p e s m args below meth c s₁ B hml hv
  obtain ⟨rfl, hsz, hP, hK, hD0, hN⟩ := hv
  have hx := B.exec
  have hb := B.bytes
  have hr := B.returns
  have hts := atoms_spec (ws := wsX1_setInRooms) B.pre
  have hown : s.vm.findClass RX1 = some m.cls := findClass_of_methodNamed B.named
  have hlocks := B.notSynchronized
  subst hsz
  have hD := hD0.self (sz := s.heap.size)
  generalize hAe : va_A [((ad 3), .inr (1, [.ref (ad 31), .ref (ad 32), .ref (ad 33), .int 0, .ref (ad 34), .ref (ad 35)]))] s.heap.size = A at hD ⊢
  have hA : ∀ q : Nat, s.heap.size ≤ q → A q := fun q h => by rw [← hAe]; exact Or.inr h
  have hS : va_S A s.heap s.heap [] := va_S.rf
  have hP : va_P D vwCl [((ad 3), .inr (1, [.ref (ad 31), .ref (ad 32), .ref (ad 33), .int 0, .ref (ad 34), .ref (ad 35)]))] s.heap := hP
  have hl := lv_entry ([.ref (ad 3)]) (n := 2) (Nat.le_of_ble_eq_true rfl)
  rw [lg_entry_eq]
  generalize (lg_sl ([.ref (ad 3)]) ++ List.replicate (2 - (lg_sl ([.ref (ad 3)])).length) Slot.unset).toArray = ls at hl ⊢
  have hl : lv_has ls 2 [(0, .ref (ad 3))] := hl
  have km1000000 : (-1000000 : Int32).toInt = -1000000 := by decide
  refine lv_iconst (v := 1) hx hb dX1_setInRooms_0 (by decide) ?_
  refine lv_aload_n hx hb dX1_setInRooms_1 rfl (lv_at hl 0 rfl) ?_
  refine va_get (D := D) (ci := 1) (v := .int 0) (C := RX1) (T := TX1) (N := 6) hx hb hts (by decide +kernel) hown hK hP 0 rfl rfl 3 (by decide) (hts (.fieldLink RX1 35 "PortRooms$Crates" "count" "I") (by decide +kernel)) (fun _ h9 => h9) rfl dX1_setInRooms_2 ?_
  refine lv_ishl hx hb dX1_setInRooms_5 ?_
  refine lv_topi (fun v1 ev1 => ?_)
  replace ev1 : v1 = 1 := ev1.trans (by decide)
  subst ev1
  refine lv_iconst (v := 1) hx hb dX1_setInRooms_6 (by decide) ?_
  refine lv_isub hx hb dX1_setInRooms_7 ?_
  refine lv_topi (fun v2 ev2 => ?_)
  replace ev2 : v2 = 0 := ev2.trans (by decide)
  subst ev2
  refine lv_istore_n (lv' := [(1, .int 0), (0, .ref (ad 3))]) hx hb dX1_setInRooms_8 rfl hl (by decide) rfl (fun ls hl => ?_)
  refine lv_iload_n hx hb dX1_setInRooms_9 rfl (lv_at hl 0 rfl) ?_
  refine lv_aload_n hx hb dX1_setInRooms_10 rfl (lv_at hl 1 rfl) ?_
  refine lv_ldc hx hb hown (hts (.constant RX1 27 (-1000000)) (by decide +kernel)) dX1_setInRooms_11 ?_
  refine st_i (wr := []) (va_runV (C := RX1) (As := [.int (-1000000)]) (rest := [.int 0]) ⟨hx, hb, hml, hown, hts⟩ (ct_X1_setIn l D cI cY cJ cQ _ ad ((-1000000))) (cwV 1 hts gX1_setInRooms_X1_setIn rfl rfl rfl (by decide +kernel) ⟨Nat.le_of_ble_eq_true rfl, Nat.le_of_ble_eq_true rfl⟩) (cPreV (hP.sub [0] rfl) hK (hD.sub [0] (by decide) rfl) hN (ci := 1) (q0 := 0) rfl rfl) rfl rfl hl.1 rfl (lv_room (Nat.le_of_ble_eq_true rfl)) dX1_setInRooms_13 ⟨Nat.le_of_ble_eq_true rfl, Nat.le_of_ble_eq_true rfl⟩) hP hD hS hA [0] [] rfl rfl (by decide) (by decide) (fun r5 u3 H locs hw4 hP hD hS => ?_)
  replace hP : va_P D vwCl [((ad 3), .inr (1, [.ref (ad 31), .ref (ad 32), .ref (ad 33), .int 0, .ref (ad 34), .ref (ad 35)]))] H := hP
  replace hD : va_D A [((ad 3), .inr (1, [.ref (ad 31), .ref (ad 32), .ref (ad 33), .int 0, .ref (ad 34), .ref (ad 35)]))] := hD
  subst hw4
  refine lv_iconst (v := (-1)) hx hb dX1_setInRooms_16 (by decide) ?_
  refine lv_ixor hx hb dX1_setInRooms_17 ?_
  refine lv_topi (fun v6 ev6 => ?_)
  replace ev6 : v6 = (-1) := ev6.trans (by decide)
  subst ev6
  refine lv_iand hx hb dX1_setInRooms_18 ?_
  refine lv_topi (fun v7 ev7 => ?_)
  replace ev7 : v7 = 0 := ev7.trans (by first | exact Int32.zero_and | exact Int32.and_zero)
  subst ev7
  have hP9 := hP.sub (ws' := [((ad 3), .inr (1, [.ref (ad 31), .ref (ad 32), .ref (ad 33), .int 0, .ref (ad 34), .ref (ad 35)]))]) [0] rfl
  have hD9 := hD.sub (ws' := [((ad 3), .inr (1, [.ref (ad 31), .ref (ad 32), .ref (ad 33), .int 0, .ref (ad 34), .ref (ad 35)]))]) [0] (by decide) rfl
  exact W.iret (v := 0) hx hb hr (fun t ht hW => ⟨⟨0, (), rfl, rfl, by rw [ht]; exact hP9, va_K.moved hW.alike hK, hD9⟩, hS.F ht⟩) hS.2.2 dX1_setInRooms_19

set_option maxHeartbeats 4000000 in
set_option maxRecDepth 100000 in
theorem ct_drawLots0 (l : Launch) (D : va_G) (cI cY cJ cQ : ClassId) (sz : Nat) (ad : Nat → Nat) (sd d : Int32)  : Met l yX5_drawLots wsX5_drawLots ({ frames := 1, cells := 0, slots := 0, locals := 21 }) (cPre D (ty4 cI cY cJ cQ) [((ad 8), .inr (5, [.int sd, .ref (ad 58)]))] sz [.ref (ad 8), .int 0, .int d]) (va_Qv (fun (u : Unit) => True) (cB D (ty4 cI cY cJ cQ) (fun (u : Unit) => [((ad 8), .inr (5, [.int sd, .ref (ad 58)]))]) (va_A [((ad 8), .inr (5, [.int sd, .ref (ad 58)]))] sz)) (va_A [((ad 8), .inr (5, [.int sd, .ref (ad 58)]))] sz)) 0 0 (va_A [((ad 8), .inr (5, [.int sd, .ref (ad 58)]))] sz) := by
  refine Met.ofW (cc := cX5_drawLots) (maxL := 4) (ret := none) (by decide) rfl ?_
  intro p e s m args below meth c s₁ B hml hv
  obtain ⟨rfl, hsz, hP, hK, hD0, hN⟩ := hv
  have hx := B.exec
  have hb := B.bytes
  have hr := B.returns
  have hts := atoms_spec (ws := wsX5_drawLots) B.pre
  have hown : s.vm.findClass RX5 = some m.cls := findClass_of_methodNamed B.named
  have hlocks := B.notSynchronized
  subst hsz
  have hD := hD0.self (sz := s.heap.size)
  generalize hAe : va_A [((ad 8), .inr (5, [.int sd, .ref (ad 58)]))] s.heap.size = A at hD ⊢
  have hA : ∀ q : Nat, s.heap.size ≤ q → A q := fun q h => by rw [← hAe]; exact Or.inr h
  have hS : va_S A s.heap s.heap [] := va_S.rf
  have hP : va_P D vwCl [((ad 8), .inr (5, [.int sd, .ref (ad 58)]))] s.heap := hP
  have hl := lv_entry ([.ref (ad 8), .int 0, .int d]) (n := 4) (Nat.le_of_ble_eq_true rfl)
  rw [lg_entry_eq]
  generalize (lg_sl ([.ref (ad 8), .int 0, .int d]) ++ List.replicate (4 - (lg_sl ([.ref (ad 8), .int 0, .int d])).length) Slot.unset).toArray = ls at hl ⊢
  have hl : lv_has ls 4 [(0, .ref (ad 8)), (1, .int 0), (2, .int d)] := hl
  have k0 : (0 : Int32).toInt = 0 := by decide
  have k1 : (1 : Int32).toInt = 1 := by decide
  have k12 : (12 : Int32).toInt = 12 := by decide
  refine lv_iconst (v := 0) hx hb dX5_drawLots_0 (by decide) ?_
  refine lv_istore_n (lv' := [(3, .int 0), (0, .ref (ad 8)), (1, .int 0), (2, .int d)]) hx hb dX5_drawLots_1 rfl hl (by decide) rfl (fun ls hl => ?_)
  refine st_loop 2 (fun _ => []) (fun (k : Int32) (ls : Array Slot) (H : Heap) (locs : List Loc) => (0 ≤ k.toInt) ∧ (k.toInt ≤ 12) ∧ lv_has ls 4 [(0, .ref (ad 8)), (1, .int 0), (2, .int d), (3, .int k)] ∧ va_P D vwCl [((ad 8), .inr (5, [.int sd, .ref (ad 58)]))] H ∧ va_D A [((ad 8), .inr (5, [.int sd, .ref (ad 58)]))] ∧ va_S A s.heap H locs) (fun (k : Int32) => 12 - k.toInt) ?_ ?_ (0 : Int32) ⟨(by omega), (by omega), lv_sub hl [1, 2, 3, 0] rfl, hP, hD, hS⟩
  · rintro k ls H locs ⟨g1, g2, hl, hP, hD, hS⟩
    show (0 : Int) ≤ 12 - k.toInt
    omega
  · rintro n5 ih3 k ls H locs ⟨g1, g2, hl, hP, hD, hS⟩ hm4
    have hm4 : 12 - k.toInt < (n5 : Int) + 1 := hm4
    replace hl : lv_has ls 4 [(0, .ref (ad 8)), (1, .int 0), (2, .int d), (3, .int k)] := hl
    replace hP : va_P D vwCl [((ad 8), .inr (5, [.int sd, .ref (ad 58)]))] H := hP
    replace hD : va_D A [((ad 8), .inr (5, [.int sd, .ref (ad 58)]))] := hD
    show W _ _ _ _ _ _ _ _ _ _ _ _ _ _ _ (F0 m 2 ls [])
    refine lv_iload_n hx hb dX5_drawLots_2 rfl (lv_at hl 3 rfl) ?_
    refine lv_bipush (v := 12) hx hb dX5_drawLots_3 (by decide) ?_
    refine lv_icmp_ge (tgt := 34) hx hb dX5_drawLots_5 (by decide) (fun c6 => ?_) (fun c6 => ?_)
    · skip
      have f7 := i_le c6
      have hP9 := hP.sub (ws' := [((ad 8), .inr (5, [.int sd, .ref (ad 58)]))]) [0] rfl
      have hD9 := hD.sub (ws' := [((ad 8), .inr (5, [.int sd, .ref (ad 58)]))]) [0] (by decide) rfl
      exact W.vret hx hb hr (fun t ht hW => ⟨⟨(), rfl, trivial, by rw [ht]; exact hP9, va_K.moved hW.alike hK, hD9⟩, hS.F ht⟩) hS.2.2 dX5_drawLots_34
    · skip
      have f8 := i_nle c6
      refine lv_iload_n hx hb dX5_drawLots_8 rfl (lv_at hl 1 rfl) ?_
      refine lv_iload_n hx hb dX5_drawLots_9 rfl (lv_at hl 3 rfl) ?_
      refine st_i (wr := [((ad 8), .inr (5, [.int sd, .ref (ad 58)]))]) (va_runSN (As := [.int 0, .int k]) (rest := []) ⟨hx, hb, hml, hown, hts⟩ (ct_hasBit0 l D cI cY cJ cQ _ k) ⟨va_cnB 2 hts gX5_drawLots_X10_hasBit_n29 rfl rfl rfl (hN.1 (RX5, 29, yX10_hasBit, "PortRooms") (by decide +kernel)) (hts (.initialized RX10) (by decide +kernel)) (by decide +kernel) ⟨Nat.le_of_ble_eq_true rfl, Nat.le_of_ble_eq_true rfl⟩, (hts (.static yX10_hasBit) (by decide +kernel)), trivial⟩ (cPreS (hP.sub [] rfl) hK (hD.sub [] (by decide) rfl) hN) rfl rfl hl.1 rfl (lv_room (Nat.le_of_ble_eq_true rfl)) dX5_drawLots_10 ⟨Nat.le_of_ble_eq_true rfl, Nat.le_of_ble_eq_true rfl⟩) hP hD hS hA [] [0] rfl rfl (by decide) (by decide) (fun r11 u9 H locs hw10 hP hD hS => ?_)
      replace hP : va_P D vwCl [((ad 8), .inr (5, [.int sd, .ref (ad 58)]))] H := hP
      replace hD : va_D A [((ad 8), .inr (5, [.int sd, .ref (ad 58)]))] := hD
      subst hw10
      refine lv_if_eq (tgt := 28) hx hb dX5_drawLots_13 (by decide) (fun _ => ?_) (fun c => absurd (by decide) c)
      obtain ⟨v12, ev12⟩ : ∃ y : Int32, y = k + 1 := ⟨_, rfl⟩
      have tv12 : v12.toInt = k.toInt + 1 := by rw [ev12]; exact (i_add (x := k) (y := (1 : Int32)) (by rw [k1]; omega) (by rw [k1]; omega)).trans (by rw [k1])
      refine lv_iinc (v := v12) (lv' := [(3, .int v12), (0, .ref (ad 8)), (1, .int 0), (2, .int d)]) hx hb dX5_drawLots_28 hl (k := 3) rfl (by rw [ev12]; rfl) (by decide) rfl (fun ls hl => ?_)
      refine lv_goto (tgt := 2) hx hb dX5_drawLots_31 (by decide) ?_
      exact ih3 v12 ls H locs ⟨(by omega), (by omega), lv_sub hl [1, 2, 3, 0] rfl, hP.sub [0] rfl, hD.sub [0] (by decide) rfl, hS⟩ (by show 12 - v12.toInt < _; omega)

set_option maxHeartbeats 4000000 in
set_option maxRecDepth 100000 in
theorem ct_X10_drawn (l : Launch) (D : va_G) (cI cY cJ cQ : ClassId) (sz : Nat) (ad : Nat → Nat) (d n : Int32) (sd : Int32)  : Met l yX10_drawn wsX10_drawn ({ frames := 2, cells := 0, slots := 0, locals := 44 }) (cPre D (ty4 cI cY cJ cQ) [((ad 0), .inr (10, [.ref (ad 1), .ref (ad 2), .ref (ad 3), .ref (ad 4), .ref (ad 5), .ref (ad 6), .ref (ad 7), .ref (ad 8), .ref (ad 9), .ref (ad 10), .ref (ad 11), .int 0, .int 0, .int 0])), ((ad 3), .inr (1, [.ref (ad 31), .ref (ad 32), .ref (ad 33), .int 0, .ref (ad 34), .ref (ad 35)])), ((ad 8), .inr (5, [.int sd, .ref (ad 58)]))] sz [.ref (ad 0), .int d, .int n]) (va_Qi (fun (r : Int32) (u : Unit) => r = an_drawn d n) (cB D (ty4 cI cY cJ cQ) (fun (u : Unit) => []) (va_A [((ad 0), .inr (10, [.ref (ad 1), .ref (ad 2), .ref (ad 3), .ref (ad 4), .ref (ad 5), .ref (ad 6), .ref (ad 7), .ref (ad 8), .ref (ad 9), .ref (ad 10), .ref (ad 11), .int 0, .int 0, .int 0])), ((ad 3), .inr (1, [.ref (ad 31), .ref (ad 32), .ref (ad 33), .int 0, .ref (ad 34), .ref (ad 35)])), ((ad 8), .inr (5, [.int sd, .ref (ad 58)]))] sz)) (va_A [((ad 0), .inr (10, [.ref (ad 1), .ref (ad 2), .ref (ad 3), .ref (ad 4), .ref (ad 5), .ref (ad 6), .ref (ad 7), .ref (ad 8), .ref (ad 9), .ref (ad 10), .ref (ad 11), .int 0, .int 0, .int 0])), ((ad 3), .inr (1, [.ref (ad 31), .ref (ad 32), .ref (ad 33), .int 0, .ref (ad 34), .ref (ad 35)])), ((ad 8), .inr (5, [.int sd, .ref (ad 58)]))] sz)) 0 0 (va_A [((ad 0), .inr (10, [.ref (ad 1), .ref (ad 2), .ref (ad 3), .ref (ad 4), .ref (ad 5), .ref (ad 6), .ref (ad 7), .ref (ad 8), .ref (ad 9), .ref (ad 10), .ref (ad 11), .int 0, .int 0, .int 0])), ((ad 3), .inr (1, [.ref (ad 31), .ref (ad 32), .ref (ad 33), .int 0, .ref (ad 34), .ref (ad 35)])), ((ad 8), .inr (5, [.int sd, .ref (ad 58)]))] sz) := by
  refine Met.ofW (cc := cX10_drawn) (maxL := 6) (ret := (some .int)) (by decide) rfl ?_
  intro p e s m args below meth c s₁ B hml hv
  obtain ⟨rfl, hsz, hP, hK, hD0, hN⟩ := hv
  have hx := B.exec
  have hb := B.bytes
  have hr := B.returns
  have hts := atoms_spec (ws := wsX10_drawn) B.pre
  have hown : s.vm.findClass RX10 = some m.cls := findClass_of_methodNamed B.named
  have hlocks := B.notSynchronized
  subst hsz
  have hD := hD0.self (sz := s.heap.size)
  generalize hAe : va_A [((ad 0), .inr (10, [.ref (ad 1), .ref (ad 2), .ref (ad 3), .ref (ad 4), .ref (ad 5), .ref (ad 6), .ref (ad 7), .ref (ad 8), .ref (ad 9), .ref (ad 10), .ref (ad 11), .int 0, .int 0, .int 0])), ((ad 3), .inr (1, [.ref (ad 31), .ref (ad 32), .ref (ad 33), .int 0, .ref (ad 34), .ref (ad 35)])), ((ad 8), .inr (5, [.int sd, .ref (ad 58)]))] s.heap.size = A at hD ⊢
  have hA : ∀ q : Nat, s.heap.size ≤ q → A q := fun q h => by rw [← hAe]; exact Or.inr h
  have hS : va_S A s.heap s.heap [] := va_S.rf
  have hP : va_P D vwCl [((ad 0), .inr (10, [.ref (ad 1), .ref (ad 2), .ref (ad 3), .ref (ad 4), .ref (ad 5), .ref (ad 6), .ref (ad 7), .ref (ad 8), .ref (ad 9), .ref (ad 10), .ref (ad 11), .int 0, .int 0, .int 0])), ((ad 3), .inr (1, [.ref (ad 31), .ref (ad 32), .ref (ad 33), .int 0, .ref (ad 34), .ref (ad 35)])), ((ad 8), .inr (5, [.int sd, .ref (ad 58)]))] s.heap := hP
  have hl := lv_entry ([.ref (ad 0), .int d, .int n]) (n := 6) (Nat.le_of_ble_eq_true rfl)
  rw [lg_entry_eq]
  generalize (lg_sl ([.ref (ad 0), .int d, .int n]) ++ List.replicate (6 - (lg_sl ([.ref (ad 0), .int d, .int n])).length) Slot.unset).toArray = ls at hl ⊢
  have hl : lv_has ls 6 [(0, .ref (ad 0)), (1, .int d), (2, .int n)] := hl
  have k0 : (0 : Int32).toInt = 0 := by decide
  have k1 : (1 : Int32).toInt = 1 := by decide
  have k12 : (12 : Int32).toInt = 12 := by decide
  refine lv_iload_n hx hb dX10_drawn_0 rfl (lv_at hl 1 rfl) ?_
  refine st_i (wr := [((ad 0), .inr (10, [.ref (ad 1), .ref (ad 2), .ref (ad 3), .ref (ad 4), .ref (ad 5), .ref (ad 6), .ref (ad 7), .ref (ad 8), .ref (ad 9), .ref (ad 10), .ref (ad 11), .int 0, .int 0, .int 0])), ((ad 3), .inr (1, [.ref (ad 31), .ref (ad 32), .ref (ad 33), .int 0, .ref (ad 34), .ref (ad 35)])), ((ad 8), .inr (5, [.int sd, .ref (ad 58)]))]) (va_runS (As := [.int d]) (rest := []) ⟨hx, hb, hml, hown, hts⟩ (ct_X10_isDay l D cI cY cJ cQ _ d) (va_cwS 1 hts gX10_drawn_X10_isDay rfl rfl rfl (by decide +kernel) ⟨Nat.le_of_ble_eq_true rfl, Nat.le_of_ble_eq_true rfl⟩) (cPreS (hP.sub [] rfl) hK (hD.sub [] (by decide) rfl) hN) rfl rfl hl.1 rfl (lv_room (Nat.le_of_ble_eq_true rfl)) dX10_drawn_1 ⟨Nat.le_of_ble_eq_true rfl, Nat.le_of_ble_eq_true rfl⟩) hP hD hS hA [] [0, 1, 2] rfl rfl (by decide) (by decide) (fun r3 u1 H locs hw2 hP hD hS => ?_)
  replace hP : va_P D vwCl [((ad 0), .inr (10, [.ref (ad 1), .ref (ad 2), .ref (ad 3), .ref (ad 4), .ref (ad 5), .ref (ad 6), .ref (ad 7), .ref (ad 8), .ref (ad 9), .ref (ad 10), .ref (ad 11), .int 0, .int 0, .int 0])), ((ad 3), .inr (1, [.ref (ad 31), .ref (ad 32), .ref (ad 33), .int 0, .ref (ad 34), .ref (ad 35)])), ((ad 8), .inr (5, [.int sd, .ref (ad 58)]))] H := hP
  replace hD : va_D A [((ad 0), .inr (10, [.ref (ad 1), .ref (ad 2), .ref (ad 3), .ref (ad 4), .ref (ad 5), .ref (ad 6), .ref (ad 7), .ref (ad 8), .ref (ad 9), .ref (ad 10), .ref (ad 11), .int 0, .int 0, .int 0])), ((ad 3), .inr (1, [.ref (ad 31), .ref (ad 32), .ref (ad 33), .int 0, .ref (ad 34), .ref (ad 35)])), ((ad 8), .inr (5, [.int sd, .ref (ad 58)]))] := hD
  refine lv_if_eq (tgt := 17) hx hb dX10_drawn_4 (by decide) (fun c4 => ?_) (fun c4 => ?_)
  · skip
    have f5 := bo_f hw2 c4
    refine lv_ldc hx hb hown (hts (.constant RX10 89 (-1000001)) (by decide +kernel)) dX10_drawn_17 ?_
    have hP9 := hP.sub (ws' := []) [] rfl
    have hD9 := hD.sub (ws' := []) [] (by decide) rfl
    exact W.iret (v := (-1000001)) hx hb hr (fun t ht hW => ⟨⟨(-1000001), (), rfl, (by unfold an_drawn; (repeat' split) <;> first | rfl | (exfalso; omega)), by rw [ht]; exact hP9, va_K.moved hW.alike hK, hD9⟩, hS.F ht⟩) hS.2.2 dX10_drawn_19
  · skip
    have f6 := bo_t hw2 c4
    refine lv_iload_n hx hb dX10_drawn_7 rfl (lv_at hl 2 rfl) ?_
    refine lv_iconst (v := 0) hx hb dX10_drawn_8 (by decide) ?_
    refine lv_bipush (v := 12) hx hb dX10_drawn_9 (by decide) ?_
    refine st_i (wr := [((ad 0), .inr (10, [.ref (ad 1), .ref (ad 2), .ref (ad 3), .ref (ad 4), .ref (ad 5), .ref (ad 6), .ref (ad 7), .ref (ad 8), .ref (ad 9), .ref (ad 10), .ref (ad 11), .int 0, .int 0, .int 0])), ((ad 3), .inr (1, [.ref (ad 31), .ref (ad 32), .ref (ad 33), .int 0, .ref (ad 34), .ref (ad 35)])), ((ad 8), .inr (5, [.int sd, .ref (ad 58)]))]) (va_runS (As := [.int n, .int 0, .int 12]) (rest := []) ⟨hx, hb, hml, hown, hts⟩ (ct_X10_isFrom l D cI cY cJ cQ _ n (0) (12)) (va_cwS 3 hts gX10_drawn_X10_isFrom rfl rfl rfl (by decide +kernel) ⟨Nat.le_of_ble_eq_true rfl, Nat.le_of_ble_eq_true rfl⟩) (cPreS (hP.sub [] rfl) hK (hD.sub [] (by decide) rfl) hN) rfl rfl hl.1 rfl (lv_room (Nat.le_of_ble_eq_true rfl)) dX10_drawn_11 ⟨Nat.le_of_ble_eq_true rfl, Nat.le_of_ble_eq_true rfl⟩) hP hD hS hA [] [0, 1, 2] rfl rfl (by decide) (by decide) (fun r9 u7 H locs hw8 hP hD hS => ?_)
    replace hP : va_P D vwCl [((ad 0), .inr (10, [.ref (ad 1), .ref (ad 2), .ref (ad 3), .ref (ad 4), .ref (ad 5), .ref (ad 6), .ref (ad 7), .ref (ad 8), .ref (ad 9), .ref (ad 10), .ref (ad 11), .int 0, .int 0, .int 0])), ((ad 3), .inr (1, [.ref (ad 31), .ref (ad 32), .ref (ad 33), .int 0, .ref (ad 34), .ref (ad 35)])), ((ad 8), .inr (5, [.int sd, .ref (ad 58)]))] H := hP
    replace hD : va_D A [((ad 0), .inr (10, [.ref (ad 1), .ref (ad 2), .ref (ad 3), .ref (ad 4), .ref (ad 5), .ref (ad 6), .ref (ad 7), .ref (ad 8), .ref (ad 9), .ref (ad 10), .ref (ad 11), .int 0, .int 0, .int 0])), ((ad 3), .inr (1, [.ref (ad 31), .ref (ad 32), .ref (ad 33), .int 0, .ref (ad 34), .ref (ad 35)])), ((ad 8), .inr (5, [.int sd, .ref (ad 58)]))] := hD
    refine lv_if_ne (tgt := 20) hx hb dX10_drawn_14 (by decide) (fun c10 => ?_) (fun c10 => ?_)
    · skip
      have f11 := bo_t hw8 c10
      refine lv_aload_n hx hb dX10_drawn_20 rfl (lv_at hl 0 rfl) ?_
      refine va_get (D := D) (ci := 10) (v := .ref (ad 3)) (C := RX10) (T := TX10) (N := 14) hx hb hts (by decide +kernel) hown hK hP 0 rfl rfl 2 (by decide) (hts (.fieldLink RX10 26 "PortRooms" "crates" "LPortRooms$Crates;") (by decide +kernel)) (fun _ h9 => h9) rfl dX10_drawn_21 ?_
      refine st_i (wr := [((ad 0), .inr (10, [.ref (ad 1), .ref (ad 2), .ref (ad 3), .ref (ad 4), .ref (ad 5), .ref (ad 6), .ref (ad 7), .ref (ad 8), .ref (ad 9), .ref (ad 10), .ref (ad 11), .int 0, .int 0, .int 0])), ((ad 8), .inr (5, [.int sd, .ref (ad 58)]))]) (va_runV (C := RX1) (As := []) (rest := []) ⟨hx, hb, hml, hown, hts⟩ (ct_X1_setInRooms l D cI cY cJ cQ _ ad) (cwV 0 hts gX10_drawn_X1_setInRooms rfl rfl rfl (by decide +kernel) ⟨Nat.le_of_ble_eq_true rfl, Nat.le_of_ble_eq_true rfl⟩) (cPreV (hP.sub [1] rfl) hK (hD.sub [1] (by decide) rfl) hN (ci := 1) (q0 := 0) rfl rfl) rfl rfl hl.1 rfl (lv_room (Nat.le_of_ble_eq_true rfl)) dX10_drawn_24 ⟨Nat.le_of_ble_eq_true rfl, Nat.le_of_ble_eq_true rfl⟩) hP hD hS hA [1] [0, 2] rfl rfl (by decide) (by decide) (fun r14 u12 H locs hw13 hP hD hS => ?_)
      replace hP : va_P D vwCl [((ad 0), .inr (10, [.ref (ad 1), .ref (ad 2), .ref (ad 3), .ref (ad 4), .ref (ad 5), .ref (ad 6), .ref (ad 7), .ref (ad 8), .ref (ad 9), .ref (ad 10), .ref (ad 11), .int 0, .int 0, .int 0])), ((ad 8), .inr (5, [.int sd, .ref (ad 58)])), ((ad 3), .inr (1, [.ref (ad 31), .ref (ad 32), .ref (ad 33), .int 0, .ref (ad 34), .ref (ad 35)]))] H := hP
      replace hD : va_D A [((ad 0), .inr (10, [.ref (ad 1), .ref (ad 2), .ref (ad 3), .ref (ad 4), .ref (ad 5), .ref (ad 6), .ref (ad 7), .ref (ad 8), .ref (ad 9), .ref (ad 10), .ref (ad 11), .int 0, .int 0, .int 0])), ((ad 8), .inr (5, [.int sd, .ref (ad 58)])), ((ad 3), .inr (1, [.ref (ad 31), .ref (ad 32), .ref (ad 33), .int 0, .ref (ad 34), .ref (ad 35)]))] := hD
      subst hw13
      refine lv_istore_n (lv' := [(3, .int 0), (0, .ref (ad 0)), (1, .int d), (2, .int n)]) hx hb dX10_drawn_27 rfl hl (by decide) rfl (fun ls hl => ?_)
      refine lv_aload_n hx hb dX10_drawn_28 rfl (lv_at hl 1 rfl) ?_
      refine va_get (D := D) (ci := 10) (v := .ref (ad 8)) (C := RX10) (T := TX10) (N := 14) hx hb hts (by decide +kernel) hown hK hP 0 rfl rfl 7 (by decide) (hts (.fieldLink RX10 81 "PortRooms" "looks" "LPortRooms$Looks;") (by decide +kernel)) (fun _ h9 => h9) rfl dX10_drawn_29 ?_
      refine lv_iload_n hx hb dX10_drawn_32 rfl (lv_at hl 0 rfl) ?_
      refine lv_iload_n hx hb dX10_drawn_33 rfl (lv_at hl 2 rfl) ?_
      refine st_v (wr := [((ad 0), .inr (10, [.ref (ad 1), .ref (ad 2), .ref (ad 3), .ref (ad 4), .ref (ad 5), .ref (ad 6), .ref (ad 7), .ref (ad 8), .ref (ad 9), .ref (ad 10), .ref (ad 11), .int 0, .int 0, .int 0])), ((ad 3), .inr (1, [.ref (ad 31), .ref (ad 32), .ref (ad 33), .int 0, .ref (ad 34), .ref (ad 35)]))]) (va_runV (C := RX5) (As := [.int 0, .int d]) (rest := []) ⟨hx, hb, hml, hown, hts⟩ (ct_drawLots0 l D cI cY cJ cQ _ ad sd d) (cwV 2 hts gX10_drawn_X5_drawLots rfl rfl rfl (by decide +kernel) ⟨Nat.le_of_ble_eq_true rfl, Nat.le_of_ble_eq_true rfl⟩) (cPreV (hP.sub [1] rfl) hK (hD.sub [1] (by decide) rfl) hN (ci := 5) (q0 := 0) rfl rfl) rfl rfl hl.1 rfl (lv_room (Nat.le_of_ble_eq_true rfl)) dX10_drawn_34 ⟨Nat.le_of_ble_eq_true rfl, Nat.le_of_ble_eq_true rfl⟩) hP hD hS hA [1] [0, 2] rfl rfl (by decide) (by decide) (fun u15 H locs hw16 hP hD hS => ?_)
      replace hP : va_P D vwCl [((ad 0), .inr (10, [.ref (ad 1), .ref (ad 2), .ref (ad 3), .ref (ad 4), .ref (ad 5), .ref (ad 6), .ref (ad 7), .ref (ad 8), .ref (ad 9), .ref (ad 10), .ref (ad 11), .int 0, .int 0, .int 0])), ((ad 3), .inr (1, [.ref (ad 31), .ref (ad 32), .ref (ad 33), .int 0, .ref (ad 34), .ref (ad 35)])), ((ad 8), .inr (5, [.int sd, .ref (ad 58)]))] H := hP
      replace hD : va_D A [((ad 0), .inr (10, [.ref (ad 1), .ref (ad 2), .ref (ad 3), .ref (ad 4), .ref (ad 5), .ref (ad 6), .ref (ad 7), .ref (ad 8), .ref (ad 9), .ref (ad 10), .ref (ad 11), .int 0, .int 0, .int 0])), ((ad 3), .inr (1, [.ref (ad 31), .ref (ad 32), .ref (ad 33), .int 0, .ref (ad 34), .ref (ad 35)])), ((ad 8), .inr (5, [.int sd, .ref (ad 58)]))] := hD
      refine lv_iconst (v := 0) hx hb dX10_drawn_37 (by decide) ?_
      refine lv_istore (lv' := [(4, .int 0), (3, .int 0), (0, .ref (ad 0)), (1, .int d), (2, .int n)]) hx hb dX10_drawn_38 hl (by decide) rfl (fun ls hl => ?_)
      refine lv_iconst (v := 0) hx hb dX10_drawn_40 (by decide) ?_
      refine lv_istore (lv' := [(5, .int 0), (4, .int 0), (3, .int 0), (0, .ref (ad 0)), (1, .int d), (2, .int n)]) hx hb dX10_drawn_41 hl (by decide) rfl (fun ls hl => ?_)
      refine st_loop 43 (fun _ => []) (fun (k : Int32) (ls : Array Slot) (H : Heap) (locs : List Loc) => (0 ≤ k.toInt) ∧ (k.toInt ≤ 12) ∧ lv_has ls 6 [(0, .ref (ad 0)), (1, .int d), (2, .int n), (3, .int 0), (4, .int 0), (5, .int k)] ∧ va_P D vwCl [((ad 0), .inr (10, [.ref (ad 1), .ref (ad 2), .ref (ad 3), .ref (ad 4), .ref (ad 5), .ref (ad 6), .ref (ad 7), .ref (ad 8), .ref (ad 9), .ref (ad 10), .ref (ad 11), .int 0, .int 0, .int 0])), ((ad 3), .inr (1, [.ref (ad 31), .ref (ad 32), .ref (ad 33), .int 0, .ref (ad 34), .ref (ad 35)])), ((ad 8), .inr (5, [.int sd, .ref (ad 58)]))] H ∧ va_D A [((ad 0), .inr (10, [.ref (ad 1), .ref (ad 2), .ref (ad 3), .ref (ad 4), .ref (ad 5), .ref (ad 6), .ref (ad 7), .ref (ad 8), .ref (ad 9), .ref (ad 10), .ref (ad 11), .int 0, .int 0, .int 0])), ((ad 3), .inr (1, [.ref (ad 31), .ref (ad 32), .ref (ad 33), .int 0, .ref (ad 34), .ref (ad 35)])), ((ad 8), .inr (5, [.int sd, .ref (ad 58)]))] ∧ va_S A s.heap H locs) (fun (k : Int32) => 12 - k.toInt) ?_ ?_ (0 : Int32) ⟨(by omega), (by omega), lv_sub hl [3, 4, 5, 2, 1, 0] rfl, hP, hD, hS⟩
      · rintro k ls H locs ⟨g18, g19, hl, hP, hD, hS⟩
        show (0 : Int) ≤ 12 - k.toInt
        omega
      · rintro n22 ih20 k ls H locs ⟨g18, g19, hl, hP, hD, hS⟩ hm21
        have hm21 : 12 - k.toInt < (n22 : Int) + 1 := hm21
        replace hl : lv_has ls 6 [(0, .ref (ad 0)), (1, .int d), (2, .int n), (3, .int 0), (4, .int 0), (5, .int k)] := hl
        replace hP : va_P D vwCl [((ad 0), .inr (10, [.ref (ad 1), .ref (ad 2), .ref (ad 3), .ref (ad 4), .ref (ad 5), .ref (ad 6), .ref (ad 7), .ref (ad 8), .ref (ad 9), .ref (ad 10), .ref (ad 11), .int 0, .int 0, .int 0])), ((ad 3), .inr (1, [.ref (ad 31), .ref (ad 32), .ref (ad 33), .int 0, .ref (ad 34), .ref (ad 35)])), ((ad 8), .inr (5, [.int sd, .ref (ad 58)]))] H := hP
        replace hD : va_D A [((ad 0), .inr (10, [.ref (ad 1), .ref (ad 2), .ref (ad 3), .ref (ad 4), .ref (ad 5), .ref (ad 6), .ref (ad 7), .ref (ad 8), .ref (ad 9), .ref (ad 10), .ref (ad 11), .int 0, .int 0, .int 0])), ((ad 3), .inr (1, [.ref (ad 31), .ref (ad 32), .ref (ad 33), .int 0, .ref (ad 34), .ref (ad 35)])), ((ad 8), .inr (5, [.int sd, .ref (ad 58)]))] := hD
        show W _ _ _ _ _ _ _ _ _ _ _ _ _ _ _ (F0 m 43 ls [])
        refine lv_iload hx hb dX10_drawn_43 (lv_at hl 5 rfl) ?_
        refine lv_bipush (v := 12) hx hb dX10_drawn_45 (by decide) ?_
        refine lv_icmp_ge (tgt := 88) hx hb dX10_drawn_47 (by decide) (fun c23 => ?_) (fun c23 => ?_)
        · skip
          have f24 := i_le c23
          refine lv_iload hx hb dX10_drawn_88 (lv_at hl 4 rfl) ?_
          have hP9 := hP.sub (ws' := []) [] rfl
          have hD9 := hD.sub (ws' := []) [] (by decide) rfl
          exact W.iret (v := 0) hx hb hr (fun t ht hW => ⟨⟨0, (), rfl, (by unfold an_drawn; (repeat' split) <;> first | rfl | (exfalso; omega)), by rw [ht]; exact hP9, va_K.moved hW.alike hK, hD9⟩, hS.F ht⟩) hS.2.2 dX10_drawn_90
        · skip
          have f25 := i_nle c23
          refine lv_iload_n hx hb dX10_drawn_50 rfl (lv_at hl 3 rfl) ?_
          refine lv_iload hx hb dX10_drawn_51 (lv_at hl 5 rfl) ?_
          refine st_i (wr := [((ad 0), .inr (10, [.ref (ad 1), .ref (ad 2), .ref (ad 3), .ref (ad 4), .ref (ad 5), .ref (ad 6), .ref (ad 7), .ref (ad 8), .ref (ad 9), .ref (ad 10), .ref (ad 11), .int 0, .int 0, .int 0])), ((ad 3), .inr (1, [.ref (ad 31), .ref (ad 32), .ref (ad 33), .int 0, .ref (ad 34), .ref (ad 35)])), ((ad 8), .inr (5, [.int sd, .ref (ad 58)]))]) (va_runS (As := [.int 0, .int k]) (rest := []) ⟨hx, hb, hml, hown, hts⟩ (ct_hasBit0 l D cI cY cJ cQ _ k) (va_cwS 2 hts gX10_drawn_X10_hasBit rfl rfl rfl (by decide +kernel) ⟨Nat.le_of_ble_eq_true rfl, Nat.le_of_ble_eq_true rfl⟩) (cPreS (hP.sub [] rfl) hK (hD.sub [] (by decide) rfl) hN) rfl rfl hl.1 rfl (lv_room (Nat.le_of_ble_eq_true rfl)) dX10_drawn_53 ⟨Nat.le_of_ble_eq_true rfl, Nat.le_of_ble_eq_true rfl⟩) hP hD hS hA [] [0, 1, 2] rfl rfl (by decide) (by decide) (fun r28 u26 H locs hw27 hP hD hS => ?_)
          replace hP : va_P D vwCl [((ad 0), .inr (10, [.ref (ad 1), .ref (ad 2), .ref (ad 3), .ref (ad 4), .ref (ad 5), .ref (ad 6), .ref (ad 7), .ref (ad 8), .ref (ad 9), .ref (ad 10), .ref (ad 11), .int 0, .int 0, .int 0])), ((ad 3), .inr (1, [.ref (ad 31), .ref (ad 32), .ref (ad 33), .int 0, .ref (ad 34), .ref (ad 35)])), ((ad 8), .inr (5, [.int sd, .ref (ad 58)]))] H := hP
          replace hD : va_D A [((ad 0), .inr (10, [.ref (ad 1), .ref (ad 2), .ref (ad 3), .ref (ad 4), .ref (ad 5), .ref (ad 6), .ref (ad 7), .ref (ad 8), .ref (ad 9), .ref (ad 10), .ref (ad 11), .int 0, .int 0, .int 0])), ((ad 3), .inr (1, [.ref (ad 31), .ref (ad 32), .ref (ad 33), .int 0, .ref (ad 34), .ref (ad 35)])), ((ad 8), .inr (5, [.int sd, .ref (ad 58)]))] := hD
          subst hw27
          refine lv_if_eq (tgt := 82) hx hb dX10_drawn_56 (by decide) (fun _ => ?_) (fun c => absurd (by decide) c)
          obtain ⟨v29, ev29⟩ : ∃ y : Int32, y = k + 1 := ⟨_, rfl⟩
          have tv29 : v29.toInt = k.toInt + 1 := by rw [ev29]; exact (i_add (x := k) (y := (1 : Int32)) (by rw [k1]; omega) (by rw [k1]; omega)).trans (by rw [k1])
          refine lv_iinc (v := v29) (lv' := [(5, .int v29), (0, .ref (ad 0)), (1, .int d), (2, .int n), (3, .int 0), (4, .int 0)]) hx hb dX10_drawn_82 hl (k := 5) rfl (by rw [ev29]; rfl) (by decide) rfl (fun ls hl => ?_)
          refine lv_goto (tgt := 43) hx hb dX10_drawn_85 (by decide) ?_
          exact ih20 v29 ls H locs ⟨(by omega), (by omega), lv_sub hl [1, 2, 3, 4, 5, 0] rfl, hP.sub [0, 1, 2] rfl, hD.sub [0, 1, 2] (by decide) rfl, hS⟩ (by show 12 - v29.toInt < _; omega)
    · skip
      have f30 := bo_f hw8 c10
      refine lv_ldc hx hb hown (hts (.constant RX10 89 (-1000001)) (by decide +kernel)) dX10_drawn_17 ?_
      have hP9 := hP.sub (ws' := []) [] rfl
      have hD9 := hD.sub (ws' := []) [] (by decide) rfl
      exact W.iret (v := (-1000001)) hx hb hr (fun t ht hW => ⟨⟨(-1000001), (), rfl, (by unfold an_drawn; (repeat' split) <;> first | rfl | (exfalso; omega)), by rw [ht]; exact hP9, va_K.moved hW.alike hK, hD9⟩, hS.F ht⟩) hS.2.2 dX10_drawn_19
