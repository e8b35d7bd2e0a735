theorem dX2_take_0 : decode cX2_take 0 = .ok (.aload_n 0, 1) := by decide +kernel
theorem dX2_take_1 : decode cX2_take 1 = .ok (.getfield 34, 3) := by decide +kernel
theorem dX2_take_4 : decode cX2_take 4 = .ok (.sipush 300, 3) := by decide +kernel
theorem dX2_take_7 : decode cX2_take 7 = .ok (.if_icmp .ge 23, 3) := by decide +kernel
theorem dX2_take_10 : decode cX2_take 10 = .ok (.aload_n 0, 1) := by decide +kernel
theorem dX2_take_11 : decode cX2_take 11 = .ok (.getfield 11, 3) := by decide +kernel
theorem dX2_take_14 : decode cX2_take 14 = .ok (.aload_n 0, 1) := by decide +kernel
theorem dX2_take_15 : decode cX2_take 15 = .ok (.getfield 34, 3) := by decide +kernel
theorem dX2_take_18 : decode cX2_take 18 = .ok (.iload_n 1, 1) := by decide +kernel
theorem dX2_take_19 : decode cX2_take 19 = .ok (.bastore, 1) := by decide +kernel
theorem dX2_take_20 : decode cX2_take 20 = .ok (.aload_n 0, 1) := by decide +kernel
theorem dX2_take_21 : decode cX2_take 21 = .ok (.dup, 1) := by decide +kernel
theorem dX2_take_22 : decode cX2_take 22 = .ok (.getfield 34, 3) := by decide +kernel
theorem dX2_take_25 : decode cX2_take 25 = .ok (.iconst 1, 1) := by decide +kernel
theorem dX2_take_26 : decode cX2_take 26 = .ok (.iadd, 1) := by decide +kernel
theorem dX2_take_27 : decode cX2_take 27 = .ok (.putfield 34, 3) := by decide +kernel
theorem dX2_take_30 : decode cX2_take 30 = .ok (.return_, 1) := by decide +kernel
set_option maxRecDepth 20000 in
theorem ggX2_read_X2_next : GoodIn wsX2_read wsX2_next := goodIn_r _ [13, 1, 7, 4, 14, 3, 15, 16, 12, 17, 18, 19, 20, 21, 22, 23, 24, 25, 26, 27, 28, 29, 30, 31, 32, 33, 34, 35, 36, 37, 38, 39, 40, 41, 42, 43, 44, 45, 46, 47, 48, 49, 50, 51, 52, 53, 54, 55, 56, 57, 58, 59, 60, 61, 62, 63, 64, 65, 66, 67, 68, 69, 70, 71, 72, 73, 74, 97, 98, 99, 100, 101, 102, 103, 104, 105, 106, 107, 108, 109, 110, 111] (by decide +kernel) (by decide +kernel)
set_option maxRecDepth 20000 in
theorem gX2_read_X2_next : GoodIn wsX2_read (wsV RX2 44 RX2 yX2_next wsX2_next) := goodIn_app (goodIn_of _ (by decide +kernel)) ggX2_read_X2_next
set_option maxRecDepth 20000 in
theorem ggX2_read_X2_keepDraft : GoodIn wsX2_read wsX2_keepDraft := goodIn_r _ [89, 79, 90, 2, 91, 92, 93, 94, 80, 95, 85, 96, 8, 97, 98, 99, 100, 101, 102, 103, 104, 105, 106, 107, 108, 109, 110, 111] (by decide +kernel) (by decide +kernel)
set_option maxRecDepth 20000 in
theorem gX2_read_X2_keepDraft : GoodIn wsX2_read (wsV RX2 64 RX2 yX2_keepDraft wsX2_keepDraft) := goodIn_app (goodIn_of _ (by decide +kernel)) ggX2_read_X2_keepDraft
theorem dX2_read_0 : decode cX2_read 0 = .ok (.aload_n 0, 1) := by decide +kernel
theorem dX2_read_1 : decode cX2_read 1 = .ok (.iconst 0, 1) := by decide +kernel
theorem dX2_read_2 : decode cX2_read 2 = .ok (.putfield 38, 3) := by decide +kernel
theorem dX2_read_5 : decode cX2_read 5 = .ok (.aload_n 0, 1) := by decide +kernel
theorem dX2_read_6 : decode cX2_read 6 = .ok (.iconst 0, 1) := by decide +kernel
theorem dX2_read_7 : decode cX2_read 7 = .ok (.putfield 41, 3) := by decide +kernel
theorem dX2_read_10 : decode cX2_read 10 = .ok (.aload_n 0, 1) := by decide +kernel
theorem dX2_read_11 : decode cX2_read 11 = .ok (.invokevirtual 44, 3) := by decide +kernel
theorem dX2_read_14 : decode cX2_read 14 = .ok (.iconst 0, 1) := by decide +kernel
theorem dX2_read_15 : decode cX2_read 15 = .ok (.istore_n 1, 1) := by decide +kernel
theorem dX2_read_16 : decode cX2_read 16 = .ok (.iconst 0, 1) := by decide +kernel
theorem dX2_read_17 : decode cX2_read 17 = .ok (.istore_n 2, 1) := by decide +kernel
theorem dX2_read_18 : decode cX2_read 18 = .ok (.iload_n 2, 1) := by decide +kernel
theorem dX2_read_19 : decode cX2_read 19 = .ok (.bipush 12, 2) := by decide +kernel
theorem dX2_read_21 : decode cX2_read 21 = .ok (.if_icmp .gt 36, 3) := by decide +kernel
theorem dX2_read_24 : decode cX2_read 24 = .ok (.aload_n 0, 1) := by decide +kernel
theorem dX2_read_25 : decode cX2_read 25 = .ok (.getfield 47, 3) := by decide +kernel
theorem dX2_read_28 : decode cX2_read 28 = .ok (.bipush 8, 2) := by decide +kernel
theorem dX2_read_30 : decode cX2_read 30 = .ok (.if_icmp .eq 27, 3) := by decide +kernel
theorem dX2_read_57 : decode cX2_read 57 = .ok (.aload_n 0, 1) := by decide +kernel
theorem dX2_read_58 : decode cX2_read 58 = .ok (.iconst 0, 1) := by decide +kernel
theorem dX2_read_59 : decode cX2_read 59 = .ok (.putfield 34, 3) := by decide +kernel
theorem dX2_read_62 : decode cX2_read 62 = .ok (.iload_n 1, 1) := by decide +kernel
theorem dX2_read_63 : decode cX2_read 63 = .ok (.ifCond .eq 16, 3) := by decide +kernel
theorem dX2_read_79 : decode cX2_read 79 = .ok (.aload_n 0, 1) := by decide +kernel
theorem dX2_read_80 : decode cX2_read 80 = .ok (.invokevirtual 64, 3) := by decide +kernel
theorem dX2_read_83 : decode cX2_read 83 = .ok (.aload_n 0, 1) := by decide +kernel
theorem dX2_read_84 : decode cX2_read 84 = .ok (.getfield 67, 3) := by decide +kernel
theorem dX2_read_87 : decode cX2_read 87 = .ok (.ireturn, 1) := by decide +kernel
theorem dX2_keepDraft_0 : decode cX2_keepDraft 0 = .ok (.aload_n 0, 1) := by decide +kernel
theorem dX2_keepDraft_1 : decode cX2_keepDraft 1 = .ok (.getfield 25, 3) := by decide +kernel
theorem dX2_keepDraft_4 : decode cX2_keepDraft 4 = .ok (.iconst 0, 1) := by decide +kernel
theorem dX2_keepDraft_5 : decode cX2_keepDraft 5 = .ok (.aload_n 0, 1) := by decide +kernel
theorem dX2_keepDraft_6 : decode cX2_keepDraft 6 = .ok (.getfield 15, 3) := by decide +kernel
theorem dX2_keepDraft_9 : decode cX2_keepDraft 9 = .ok (.iconst 0, 1) := by decide +kernel
theorem dX2_keepDraft_10 : decode cX2_keepDraft 10 = .ok (.aload_n 0, 1) := by decide +kernel
theorem dX2_keepDraft_11 : decode cX2_keepDraft 11 = .ok (.getfield 41, 3) := by decide +kernel
theorem dX2_keepDraft_14 : decode cX2_keepDraft 14 = .ok (.invokestatic 70, 3) := by decide +kernel
theorem dX2_keepDraft_17 : decode cX2_keepDraft 17 = .ok (.aload_n 0, 1) := by decide +kernel
theorem dX2_keepDraft_18 : decode cX2_keepDraft 18 = .ok (.getfield 28, 3) := by decide +kernel
theorem dX2_keepDraft_21 : decode cX2_keepDraft 21 = .ok (.iconst 0, 1) := by decide +kernel
theorem dX2_keepDraft_22 : decode cX2_keepDraft 22 = .ok (.aload_n 0, 1) := by decide +kernel
theorem dX2_keepDraft_23 : decode cX2_keepDraft 23 = .ok (.getfield 19, 3) := by decide +kernel
theorem dX2_keepDraft_26 : decode cX2_keepDraft 26 = .ok (.iconst 0, 1) := by decide +kernel
theorem dX2_keepDraft_27 : decode cX2_keepDraft 27 = .ok (.aload_n 0, 1) := by decide +kernel
theorem dX2_keepDraft_28 : decode cX2_keepDraft 28 = .ok (.getfield 41, 3) := by decide +kernel
theorem dX2_keepDraft_31 : decode cX2_keepDraft 31 = .ok (.invokestatic 70, 3) := by decide +kernel
theorem dX2_keepDraft_34 : decode cX2_keepDraft 34 = .ok (.aload_n 0, 1) := by decide +kernel
theorem dX2_keepDraft_35 : decode cX2_keepDraft 35 = .ok (.getfield 31, 3) := by decide +kernel
theorem dX2_keepDraft_38 : decode cX2_keepDraft 38 = .ok (.iconst 0, 1) := by decide +kernel
theorem dX2_keepDraft_39 : decode cX2_keepDraft 39 = .ok (.aload_n 0, 1) := by decide +kernel
theorem dX2_keepDraft_40 : decode cX2_keepDraft 40 = .ok (.getfield 22, 3) := by decide +kernel
theorem dX2_keepDraft_43 : decode cX2_keepDraft 43 = .ok (.iconst 0, 1) := by decide +kernel
theorem dX2_keepDraft_44 : decode cX2_keepDraft 44 = .ok (.aload_n 0, 1) := by decide +kernel
theorem dX2_keepDraft_45 : decode cX2_keepDraft 45 = .ok (.getfield 41, 3) := by decide +kernel
theorem dX2_keepDraft_48 : decode cX2_keepDraft 48 = .ok (.invokestatic 70, 3) := by decide +kernel
theorem dX2_keepDraft_51 : decode cX2_keepDraft 51 = .ok (.aload_n 0, 1) := by decide +kernel
theorem dX2_keepDraft_52 : decode cX2_keepDraft 52 = .ok (.aload_n 0, 1) := by decide +kernel
theorem dX2_keepDraft_53 : decode cX2_keepDraft 53 = .ok (.getfield 41, 3) := by decide +kernel
theorem dX2_keepDraft_56 : decode cX2_keepDraft 56 = .ok (.putfield 67, 3) := by decide +kernel
theorem dX2_keepDraft_59 : decode cX2_keepDraft 59 = .ok (.return_, 1) := by decide +kernel
theorem dX2_next_0 : decode cX2_next 0 = .ok (.aload_n 0, 1) := by decide +kernel
theorem dX2_next_1 : decode cX2_next 1 = .ok (.aload_n 0, 1) := by decide +kernel
theorem dX2_next_2 : decode cX2_next 2 = .ok (.getfield 38, 3) := by decide +kernel
theorem dX2_next_5 : decode cX2_next 5 = .ok (.putfield 61, 3) := by decide +kernel
theorem dX2_next_8 : decode cX2_next 8 = .ok (.aload_n 0, 1) := by decide +kernel
theorem dX2_next_9 : decode cX2_next 9 = .ok (.getfield 61, 3) := by decide +kernel
theorem dX2_next_12 : decode cX2_next 12 = .ok (.aload_n 0, 1) := by decide +kernel
theorem dX2_next_13 : decode cX2_next 13 = .ok (.getfield 34, 3) := by decide +kernel
theorem dX2_next_16 : decode cX2_next 16 = .ok (.if_icmp .ge 44, 3) := by decide +kernel
theorem dX2_next_60 : decode cX2_next 60 = .ok (.aload_n 0, 1) := by decide +kernel
theorem dX2_next_61 : decode cX2_next 61 = .ok (.aload_n 0, 1) := by decide +kernel
theorem dX2_next_62 : decode cX2_next 62 = .ok (.getfield 61, 3) := by decide +kernel
theorem dX2_next_65 : decode cX2_next 65 = .ok (.putfield 38, 3) := by decide +kernel
theorem dX2_next_68 : decode cX2_next 68 = .ok (.aload_n 0, 1) := by decide +kernel
theorem dX2_next_69 : decode cX2_next 69 = .ok (.getfield 61, 3) := by decide +kernel
theorem dX2_next_72 : decode cX2_next 72 = .ok (.aload_n 0, 1) := by decide +kernel
theorem dX2_next_73 : decode cX2_next 73 = .ok (.getfield 34, 3) := by decide +kernel
theorem dX2_next_76 : decode cX2_next 76 = .ok (.if_icmp .lt 12, 3) := by decide +kernel
theorem dX2_next_79 : decode cX2_next 79 = .ok (.aload_n 0, 1) := by decide +kernel
theorem dX2_next_80 : decode cX2_next 80 = .ok (.bipush 8, 2) := by decide +kernel
theorem dX2_next_82 : decode cX2_next 82 = .ok (.putfield 47, 3) := by decide +kernel
theorem dX2_next_85 : decode cX2_next 85 = .ok (.goto 101, 3) := by decide +kernel
theorem dX2_next_186 : decode cX2_next 186 = .ok (.return_, 1) := by decide +kernel
theorem dX5_lotOf_0 : decode cX5_lotOf 0 = .ok (.aload_n 0, 1) := by decide +kernel
theorem dX5_lotOf_1 : decode cX5_lotOf 1 = .ok (.getfield 15, 3) := by decide +kernel
theorem dX5_lotOf_4 : decode cX5_lotOf 4 = .ok (.i2l, 1) := by decide +kernel
theorem dX5_lotOf_5 : decode cX5_lotOf 5 = .ok (.iload_n 1, 1) := by decide +kernel
theorem dX5_lotOf_6 : decode cX5_lotOf 6 = .ok (.i2l, 1) := by decide +kernel
theorem dX5_lotOf_7 : decode cX5_lotOf 7 = .ok (.ldc2_w 19, 3) := by decide +kernel
theorem dX5_lotOf_10 : decode cX5_lotOf 10 = .ok (.lmul, 1) := by decide +kernel
theorem dX5_lotOf_11 : decode cX5_lotOf 11 = .ok (.ladd, 1) := by decide +kernel
theorem dX5_lotOf_12 : decode cX5_lotOf 12 = .ok (.iload_n 2, 1) := by decide +kernel
theorem dX5_lotOf_13 : decode cX5_lotOf 13 = .ok (.i2l, 1) := by decide +kernel
theorem dX5_lotOf_14 : decode cX5_lotOf 14 = .ok (.ldc2_w 21, 3) := by decide +kernel
theorem dX5_lotOf_17 : decode cX5_lotOf 17 = .ok (.lmul, 1) := by decide +kernel
theorem dX5_lotOf_18 : decode cX5_lotOf 18 = .ok (.ladd, 1) := by decide +kernel
theorem dX5_lotOf_19 : decode cX5_lotOf 19 = .ok (.lstore_n 3, 1) := by decide +kernel
theorem dX5_lotOf_20 : decode cX5_lotOf 20 = .ok (.lload_n 3, 1) := by decide +kernel
theorem dX5_lotOf_21 : decode cX5_lotOf 21 = .ok (.ldc2_w 23, 3) := by decide +kernel
theorem dX5_lotOf_24 : decode cX5_lotOf 24 = .ok (.lmul, 1) := by decide +kernel
theorem dX5_lotOf_25 : decode cX5_lotOf 25 = .ok (.lstore_n 3, 1) := by decide +kernel
theorem dX5_lotOf_26 : decode cX5_lotOf 26 = .ok (.lload_n 3, 1) := by decide +kernel
theorem dX5_lotOf_27 : decode cX5_lotOf 27 = .ok (.lload_n 3, 1) := by decide +kernel
theorem dX5_lotOf_28 : decode cX5_lotOf 28 = .ok (.bipush 29, 2) := by decide +kernel
theorem dX5_lotOf_30 : decode cX5_lotOf 30 = .ok (.lushr, 1) := by decide +kernel
theorem dX5_lotOf_31 : decode cX5_lotOf 31 = .ok (.lxor, 1) := by decide +kernel
theorem dX5_lotOf_32 : decode cX5_lotOf 32 = .ok (.lstore_n 3, 1) := by decide +kernel
theorem dX5_lotOf_33 : decode cX5_lotOf 33 = .ok (.lload_n 3, 1) := by decide +kernel
theorem dX5_lotOf_34 : decode cX5_lotOf 34 = .ok (.ldc2_w 25, 3) := by decide +kernel
theorem dX5_lotOf_37 : decode cX5_lotOf 37 = .ok (.lmul, 1) := by decide +kernel
theorem dX5_lotOf_38 : decode cX5_lotOf 38 = .ok (.lstore_n 3, 1) := by decide +kernel
theorem dX5_lotOf_39 : decode cX5_lotOf 39 = .ok (.lload_n 3, 1) := by decide +kernel
theorem dX5_lotOf_40 : decode cX5_lotOf 40 = .ok (.lload_n 3, 1) := by decide +kernel
theorem dX5_lotOf_41 : decode cX5_lotOf 41 = .ok (.bipush 32, 2) := by decide +kernel
theorem dX5_lotOf_43 : decode cX5_lotOf 43 = .ok (.lushr, 1) := by decide +kernel
theorem dX5_lotOf_44 : decode cX5_lotOf 44 = .ok (.lxor, 1) := by decide +kernel
theorem dX5_lotOf_45 : decode cX5_lotOf 45 = .ok (.lstore_n 3, 1) := by decide +kernel
theorem dX5_lotOf_46 : decode cX5_lotOf 46 = .ok (.lload_n 3, 1) := by decide +kernel
theorem dX5_lotOf_47 : decode cX5_lotOf 47 = .ok (.ldc2_w 27, 3) := by decide +kernel
theorem dX5_lotOf_50 : decode cX5_lotOf 50 = .ok (.land, 1) := by decide +kernel
theorem dX5_lotOf_51 : decode cX5_lotOf 51 = .ok (.lreturn, 1) := by decide +kernel
set_option maxRecDepth 20000 in
theorem ggX10_feed_X10_isFrom : GoodIn wsX10_feed wsX10_isFrom := goodIn_r _ [8] (by decide +kernel) (by decide +kernel)
set_option maxRecDepth 20000 in
theorem gX10_feed_X10_isFrom : GoodIn wsX10_feed (va_wsS RX10 135 yX10_isFrom wsX10_isFrom) := goodIn_app (goodIn_of _ (by decide +kernel)) ggX10_feed_X10_isFrom
set_option maxRecDepth 20000 in
theorem ggX10_feed_X2_take : GoodIn wsX10_feed wsX2_take := goodIn_r _ [13, 14, 15, 30, 31, 32, 33, 34, 35, 36, 37, 38, 39, 40, 41, 42, 43, 44] (by decide +kernel) (by decide +kernel)
set_option maxRecDepth 20000 in
theorem gX10_feed_X2_take : GoodIn wsX10_feed (wsV RX10 216 RX2 yX2_take wsX2_take) := goodIn_app (goodIn_of _ (by decide +kernel)) ggX10_feed_X2_take
theorem dX10_feed_0 : decode cX10_feed 0 = .ok (.iload_n 3, 1) := by decide +kernel
theorem dX10_feed_1 : decode cX10_feed 1 = .ok (.iconst 1, 1) := by decide +kernel
theorem dX10_feed_2 : decode cX10_feed 2 = .ok (.bipush 8, 2) := by decide +kernel
theorem dX10_feed_4 : decode cX10_feed 4 = .ok (.invokestatic 135, 3) := by decide +kernel
theorem dX10_feed_7 : decode cX10_feed 7 = .ok (.ifCond .ne 6, 3) := by decide +kernel
theorem dX10_feed_10 : decode cX10_feed 10 = .ok (.ldc 89, 2) := by decide +kernel
theorem dX10_feed_12 : decode cX10_feed 12 = .ok (.ireturn, 1) := by decide +kernel
theorem dX10_feed_13 : decode cX10_feed 13 = .ok (.aload_n 0, 1) := by decide +kernel
theorem dX10_feed_14 : decode cX10_feed 14 = .ok (.getfield 47, 3) := by decide +kernel
theorem dX10_feed_17 : decode cX10_feed 17 = .ok (.getfield 213, 3) := by decide +kernel
theorem dX10_feed_20 : decode cX10_feed 20 = .ok (.iload_n 3, 1) := by decide +kernel
theorem dX10_feed_21 : decode cX10_feed 21 = .ok (.iadd, 1) := by decide +kernel
theorem dX10_feed_22 : decode cX10_feed 22 = .ok (.sipush 300, 3) := by decide +kernel
theorem dX10_feed_25 : decode cX10_feed 25 = .ok (.if_icmp .le 6, 3) := by decide +kernel
theorem dX10_feed_28 : decode cX10_feed 28 = .ok (.ldc 145, 2) := by decide +kernel
theorem dX10_feed_30 : decode cX10_feed 30 = .ok (.ireturn, 1) := by decide +kernel
theorem dX10_feed_31 : decode cX10_feed 31 = .ok (.iload_n 3, 1) := by decide +kernel
theorem dX10_feed_32 : decode cX10_feed 32 = .ok (.iconst 1, 1) := by decide +kernel
theorem dX10_feed_33 : decode cX10_feed 33 = .ok (.isub, 1) := by decide +kernel
theorem dX10_feed_34 : decode cX10_feed 34 = .ok (.istore 4, 2) := by decide +kernel
theorem dX10_feed_36 : decode cX10_feed 36 = .ok (.iload 4, 2) := by decide +kernel
theorem dX10_feed_38 : decode cX10_feed 38 = .ok (.ifCond .lt 25, 3) := by decide +kernel
theorem dX10_feed_41 : decode cX10_feed 41 = .ok (.aload_n 0, 1) := by decide +kernel
theorem dX10_feed_42 : decode cX10_feed 42 = .ok (.getfield 47, 3) := by decide +kernel
theorem dX10_feed_45 : decode cX10_feed 45 = .ok (.lload_n 1, 1) := by decide +kernel
theorem dX10_feed_46 : decode cX10_feed 46 = .ok (.bipush 8, 2) := by decide +kernel
theorem dX10_feed_48 : decode cX10_feed 48 = .ok (.iload 4, 2) := by decide +kernel
theorem dX10_feed_50 : decode cX10_feed 50 = .ok (.imul, 1) := by decide +kernel
theorem dX10_feed_51 : decode cX10_feed 51 = .ok (.lushr, 1) := by decide +kernel
theorem dX10_feed_52 : decode cX10_feed 52 = .ok (.l2i, 1) := by decide +kernel
theorem dX10_feed_53 : decode cX10_feed 53 = .ok (.i2b, 1) := by decide +kernel
theorem dX10_feed_54 : decode cX10_feed 54 = .ok (.invokevirtual 216, 3) := by decide +kernel
theorem dX10_feed_57 : decode cX10_feed 57 = .ok (.iinc 4 (-1), 3) := by decide +kernel
theorem dX10_feed_60 : decode cX10_feed 60 = .ok (.goto (-24), 3) := by decide +kernel
theorem dX10_feed_63 : decode cX10_feed 63 = .ok (.aload_n 0, 1) := by decide +kernel
theorem dX10_feed_64 : decode cX10_feed 64 = .ok (.getfield 47, 3) := by decide +kernel
theorem dX10_feed_67 : decode cX10_feed 67 = .ok (.getfield 213, 3) := by decide +kernel
theorem dX10_feed_70 : decode cX10_feed 70 = .ok (.ireturn, 1) := by decide +kernel
set_option maxRecDepth 20000 in
theorem ggX10_duties_X2_read : GoodIn wsX10_duties wsX2_read := goodIn_r _ [6, 7, 8, 9, 10, 11, 12, 13, 14, 15, 16, 17, 5, 18, 19, 20, 21, 22, 23, 24, 25, 26, 27, 28, 29, 30, 31, 32, 33, 34, 35, 36, 37, 38, 39, 40, 41, 42, 43, 44, 45, 46, 47, 48, 49, 50, 51, 52, 53, 54, 55, 56, 57, 58, 59, 60, 61, 62, 63, 64, 65, 66, 67, 68, 69, 70, 71, 72, 73, 74, 75, 76, 77, 78, 79, 80, 81, 82, 83, 84, 85, 86, 87, 88, 89, 90, 91, 92, 93, 94, 95, 96, 97, 98, 99, 100, 101, 116, 117, 118, 119, 120, 121, 122, 123, 124, 125, 126, 127, 128, 129, 130] (by decide +kernel) (by decide +kernel)
set_option maxRecDepth 20000 in
theorem gX10_duties_X2_read : GoodIn wsX10_duties (wsV RX10 220 RX2 yX2_read wsX2_read) := goodIn_app (goodIn_of _ (by decide +kernel)) ggX10_duties_X2_read
theorem dX10_duties_0 : decode cX10_duties 0 = .ok (.aload_n 0, 1) := by decide +kernel
theorem dX10_duties_1 : decode cX10_duties 1 = .ok (.getfield 47, 3) := by decide +kernel
theorem dX10_duties_4 : decode cX10_duties 4 = .ok (.invokevirtual 220, 3) := by decide +kernel
theorem dX10_duties_7 : decode cX10_duties 7 = .ok (.ireturn, 1) := by decide +kernel
set_option maxRecDepth 20000 in
theorem ggX10_lot_X10_isBelow : GoodIn wsX10_lot wsX10_isBelow := goodIn_r _ [7] (by decide +kernel) (by decide +kernel)
set_option maxRecDepth 20000 in
theorem gX10_lot_X10_isBelow : GoodIn wsX10_lot (va_wsS RX10 85 yX10_isBelow wsX10_isBelow) := goodIn_app (goodIn_of _ (by decide +kernel)) ggX10_lot_X10_isBelow
set_option maxRecDepth 20000 in
theorem ggX10_lot_X10_isDay : GoodIn wsX10_lot wsX10_isDay := goodIn_r _ [10, 4, 5, 6, 7] (by decide +kernel) (by decide +kernel)
set_option maxRecDepth 20000 in
theorem gX10_lot_X10_isDay : GoodIn wsX10_lot (va_wsS RX10 138 yX10_isDay wsX10_isDay) := goodIn_app (goodIn_of _ (by decide +kernel)) ggX10_lot_X10_isDay
set_option maxRecDepth 20000 in
theorem ggX10_lot_X10_isFrom : GoodIn wsX10_lot wsX10_isFrom := goodIn_r _ [13] (by decide +kernel) (by decide +kernel)
set_option maxRecDepth 20000 in
theorem gX10_lot_X10_isFrom : GoodIn wsX10_lot (va_wsS RX10 135 yX10_isFrom wsX10_isFrom) := goodIn_app (goodIn_of _ (by decide +kernel)) ggX10_lot_X10_isFrom
set_option maxRecDepth 20000 in
theorem ggX10_lot_X5_lotOf : GoodIn wsX10_lot wsX5_lotOf := goodIn_r _ [18, 19, 20, 21, 22, 23, 24, 39, 40] (by decide +kernel) (by decide +kernel)
set_option maxRecDepth 20000 in
theorem gX10_lot_X5_lotOf : GoodIn wsX10_lot (wsV RX10 273 RX5 yX5_lotOf wsX5_lotOf) := goodIn_app (goodIn_of _ (by decide +kernel)) ggX10_lot_X5_lotOf
theorem dX10_lot_0 : decode cX10_lot 0 = .ok (.iload_n 1, 1) := by decide +kernel
theorem dX10_lot_1 : decode cX10_lot 1 = .ok (.bipush 12, 2) := by decide +kernel
theorem dX10_lot_3 : decode cX10_lot 3 = .ok (.invokestatic 85, 3) := by decide +kernel
theorem dX10_lot_6 : decode cX10_lot 6 = .ok (.ifCond .eq 20, 3) := by decide +kernel
theorem dX10_lot_9 : decode cX10_lot 9 = .ok (.iload_n 2, 1) := by decide +kernel
theorem dX10_lot_10 : decode cX10_lot 10 = .ok (.invokestatic 138, 3) := by decide +kernel
theorem dX10_lot_13 : decode cX10_lot 13 = .ok (.ifCond .eq 13, 3) := by decide +kernel
theorem dX10_lot_16 : decode cX10_lot 16 = .ok (.iload_n 3, 1) := by decide +kernel
theorem dX10_lot_17 : decode cX10_lot 17 = .ok (.iconst 1, 1) := by decide +kernel
theorem dX10_lot_18 : decode cX10_lot 18 = .ok (.ldc 248, 2) := by decide +kernel
theorem dX10_lot_20 : decode cX10_lot 20 = .ok (.invokestatic 135, 3) := by decide +kernel
theorem dX10_lot_23 : decode cX10_lot 23 = .ok (.ifCond .ne 6, 3) := by decide +kernel
theorem dX10_lot_26 : decode cX10_lot 26 = .ok (.ldc 89, 2) := by decide +kernel
theorem dX10_lot_28 : decode cX10_lot 28 = .ok (.ireturn, 1) := by decide +kernel
theorem dX10_lot_29 : decode cX10_lot 29 = .ok (.aload_n 0, 1) := by decide +kernel
theorem dX10_lot_30 : decode cX10_lot 30 = .ok (.getfield 81, 3) := by decide +kernel
theorem dX10_lot_33 : decode cX10_lot 33 = .ok (.iload_n 1, 1) := by decide +kernel
theorem dX10_lot_34 : decode cX10_lot 34 = .ok (.iload_n 2, 1) := by decide +kernel
theorem dX10_lot_35 : decode cX10_lot 35 = .ok (.invokevirtual 273, 3) := by decide +kernel
theorem dX10_lot_38 : decode cX10_lot 38 = .ok (.iload_n 3, 1) := by decide +kernel
theorem dX10_lot_39 : decode cX10_lot 39 = .ok (.i2l, 1) := by decide +kernel
theorem dX10_lot_40 : decode cX10_lot 40 = .ok (.lrem, 1) := by decide +kernel
theorem dX10_lot_41 : decode cX10_lot 41 = .ok (.l2i, 1) := by decide +kernel
theorem dX10_lot_42 : decode cX10_lot 42 = .ok (.ireturn, 1) := by decide +kernel
set_option maxHeartbeats 4000000 in
set_option maxRecDepth 100000 in
theorem ct_X5_lotOf (l : Launch) (D : va_G) (cI cY cJ cQ : ClassId) (sz : Nat) (ad : Nat → Nat) (a d : Int32) (sd : Int32)  : Met l yX5_lotOf wsX5_lotOf ({ frames := 0, cells := 0, slots := 0, locals := 0 }) (cPre D (ty4 cI cY cJ cQ) [((ad 8), .inr (5, [.int sd, .ref (ad 58)]))] sz [.ref (ad 8), .int a, .int d]) (va_Ql (fun (r : Int64) (u : Unit) => r = an_lot sd a d) (cB D (ty4 cI cY cJ cQ) (fun (u : Unit) => []) (va_A [((ad 8), .inr (5, [.int sd, .ref (ad 58)]))] sz)) (va_A [((ad 8), .inr (5, [.int sd, .ref (ad 58)]))] sz)) 0 0 (va_A [((ad 8), .inr (5, [.int sd, .ref (ad 58)]))] sz) := by
  refine Met.ofW (cc := cX5_lotOf) (maxL := 5) (ret := (some .long)) (by decide) rfl ?_
  intro p e s m args below meth c s₁ B hml hv
  obtain ⟨rfl, hsz, hP, hK, hD0, hN⟩ := hv
  have hx := B.exec
  have hb := B.bytes
  have hr := B.returns
  have hts := atoms_spec (ws := wsX5_lotOf) B.pre
  have hown : s.vm.findClass RX5 = some m.cls := findClass_of_methodNamed B.named
  have hlocks := B.notSynchronized
  subst hsz
  have hD := hD0.self (sz := s.heap.size)
  generalize hAe : va_A [((ad 8), .inr (5, [.int sd, .ref (ad 58)]))] s.heap.size = A at hD ⊢
  have hA : ∀ q : Nat, s.heap.size ≤ q → A q := fun q h => by rw [← hAe]; exact Or.inr h
  have hS : va_S A s.heap s.heap [] := va_S.rf
  have hP : va_P D vwCl [((ad 8), .inr (5, [.int sd, .ref (ad 58)]))] s.heap := hP
  have hl := lv_entry ([.ref (ad 8), .int a, .int d]) (n := 5) (Nat.le_of_ble_eq_true rfl)
  rw [lg_entry_eq]
  generalize (lg_sl ([.ref (ad 8), .int a, .int d]) ++ List.replicate (5 - (lg_sl ([.ref (ad 8), .int a, .int d])).length) Slot.unset).toArray = ls at hl ⊢
  have hl : lv_has ls 5 [(0, .ref (ad 8)), (1, .int a), (2, .int d)] := hl
  refine lv_aload_n hx hb dX5_lotOf_0 rfl (lv_at hl 0 rfl) ?_
  refine va_get (D := D) (ci := 5) (v := .int sd) (C := RX5) (T := TX5) (N := 2) hx hb hts (by decide +kernel) hown hK hP 0 rfl rfl 0 (by decide) (hts (.fieldLink RX5 15 "PortRooms$Looks" "seed" "I") (by decide +kernel)) (fun _ h9 => h9) rfl dX5_lotOf_1 ?_
  refine lv_i2l hx hb dX5_lotOf_4 rfl ?_
  refine lv_iload_n hx hb dX5_lotOf_5 rfl (lv_at hl 1 rfl) ?_
  refine lv_i2l hx hb dX5_lotOf_6 rfl ?_
  refine lv_ldc2 hx hb hown (hts (.constantLong RX5 19 (1000003)) (by decide +kernel)) dX5_lotOf_7 ?_
  refine lv_lmul hx hb dX5_lotOf_10 ?_
  refine lv_topl (fun z1 ez1 => ?_)
  refine lv_ladd hx hb dX5_lotOf_11 ?_
  refine lv_topl (fun z2 ez2 => ?_)
  refine lv_iload_n hx hb dX5_lotOf_12 rfl (lv_at hl 2 rfl) ?_
  refine lv_i2l hx hb dX5_lotOf_13 rfl ?_
  refine lv_ldc2 hx hb hown (hts (.constantLong RX5 21 (8191)) (by decide +kernel)) dX5_lotOf_14 ?_
  refine lv_lmul hx hb dX5_lotOf_17 ?_
  refine lv_topl (fun z3 ez3 => ?_)
  refine lv_ladd hx hb dX5_lotOf_18 ?_
  refine lv_topl (fun z4 ez4 => ?_)
  refine lv_lstore_n (lv' := [(3, .long z4), (0, .ref (ad 8)), (1, .int a), (2, .int d)]) hx hb dX5_lotOf_19 rfl hl (by decide) rfl (fun ls hl => ?_)
  refine lv_lload_n hx hb dX5_lotOf_20 rfl (lv_at hl 0 rfl) ?_
  refine lv_ldc2 hx hb hown (hts (.constantLong RX5 23 (-7046029254386353131)) (by decide +kernel)) dX5_lotOf_21 ?_
  refine lv_lmul hx hb dX5_lotOf_24 ?_
  refine lv_topl (fun z5 ez5 => ?_)
  refine lv_lstore_n (lv' := [(3, .long z5), (0, .ref (ad 8)), (1, .int a), (2, .int d)]) hx hb dX5_lotOf_25 rfl hl (by decide) rfl (fun ls hl => ?_)
  refine lv_lload_n hx hb dX5_lotOf_26 rfl (lv_at hl 0 rfl) ?_
  refine lv_lload_n hx hb dX5_lotOf_27 rfl (lv_at hl 0 rfl) ?_
  refine lv_bipush (v := 29) hx hb dX5_lotOf_28 (by decide) ?_
  refine lv_lushr hx hb dX5_lotOf_30 rfl ?_
  refine lv_topl (fun z6 ez6 => ?_)
  refine lv_lxor hx hb dX5_lotOf_31 ?_
  refine lv_topl (fun z7 ez7 => ?_)
  refine lv_lstore_n (lv' := [(3, .long z7), (0, .ref (ad 8)), (1, .int a), (2, .int d)]) hx hb dX5_lotOf_32 rfl hl (by decide) rfl (fun ls hl => ?_)
  refine lv_lload_n hx hb dX5_lotOf_33 rfl (lv_at hl 0 rfl) ?_
  refine lv_ldc2 hx hb hown (hts (.constantLong RX5 25 (-4658895280553007687)) (by decide +kernel)) dX5_lotOf_34 ?_
  refine lv_lmul hx hb dX5_lotOf_37 ?_
  refine lv_topl (fun z8 ez8 => ?_)
  refine lv_lstore_n (lv' := [(3, .long z8), (0, .ref (ad 8)), (1, .int a), (2, .int d)]) hx hb dX5_lotOf_38 rfl hl (by decide) rfl (fun ls hl => ?_)
  refine lv_lload_n hx hb dX5_lotOf_39 rfl (lv_at hl 0 rfl) ?_
  refine lv_lload_n hx hb dX5_lotOf_40 rfl (lv_at hl 0 rfl) ?_
  refine lv_bipush (v := 32) hx hb dX5_lotOf_41 (by decide) ?_
  refine lv_lushr hx hb dX5_lotOf_43 rfl ?_
  refine lv_topl (fun z9 ez9 => ?_)
  refine lv_lxor hx hb dX5_lotOf_44 ?_
  refine lv_topl (fun z10 ez10 => ?_)
  refine lv_lstore_n (lv' := [(3, .long z10), (0, .ref (ad 8)), (1, .int a), (2, .int d)]) hx hb dX5_lotOf_45 rfl hl (by decide) rfl (fun ls hl => ?_)
  refine lv_lload_n hx hb dX5_lotOf_46 rfl (lv_at hl 0 rfl) ?_
  refine lv_ldc2 hx hb hown (hts (.constantLong RX5 27 (9223372036854775807)) (by decide +kernel)) dX5_lotOf_47 ?_
  refine lv_land hx hb dX5_lotOf_50 ?_
  refine lv_topl (fun z11 ez11 => ?_)
  have hP9 := hP.sub (ws' := []) [] rfl
  have hD9 := hD.sub (ws' := []) [] (by decide) rfl
  exact W.lret (v := z11) hx hb hr (fun t ht hW => ⟨⟨z11, (), rfl, (by subst_vars; rfl), by rw [ht]; exact hP9, va_K.moved hW.alike hK, hD9⟩, hS.F ht⟩) hS.2.2 dX5_lotOf_51

set_option maxHeartbeats 4000000 in
set_option maxRecDepth 100000 in
theorem ct_X10_lot (l : Launch) (D : va_G) (cI cY cJ cQ : ClassId) (sz : Nat) (ad : Nat → Nat) (a d n : Int32) (sd : Int32)  : Met l yX10_lot wsX10_lot ({ frames := 2, cells := 0, slots := 0, locals := 41 }) (cPre D (ty4 cI cY cJ cQ) [((ad 0), .inr (10, [.ref (ad 1), .ref (ad 2), .ref (ad 3), .ref (ad 4), .ref (ad 5), .ref (ad 6), .ref (ad 7), .ref (ad 8), .ref (ad 9), .ref (ad 10), .ref (ad 11), .int 0, .int 0, .int 0])), ((ad 8), .inr (5, [.int sd, .ref (ad 58)]))] sz [.ref (ad 0), .int a, .int d, .int n]) (va_Qi (fun (r : Int32) (u : Unit) => r = an_lotn sd a d n) (cB D (ty4 cI cY cJ cQ) (fun (u : Unit) => []) (va_A [((ad 0), .inr (10, [.ref (ad 1), .ref (ad 2), .ref (ad 3), .ref (ad 4), .ref (ad 5), .ref (ad 6), .ref (ad 7), .ref (ad 8), .ref (ad 9), .ref (ad 10), .ref (ad 11), .int 0, .int 0, .int 0])), ((ad 8), .inr (5, [.int sd, .ref (ad 58)]))] sz)) (va_A [((ad 0), .inr (10, [.ref (ad 1), .ref (ad 2), .ref (ad 3), .ref (ad 4), .ref (ad 5), .ref (ad 6), .ref (ad 7), .ref (ad 8), .ref (ad 9), .ref (ad 10), .ref (ad 11), .int 0, .int 0, .int 0])), ((ad 8), .inr (5, [.int sd, .ref (ad 58)]))] sz)) 0 0 (va_A [((ad 0), .inr (10, [.ref (ad 1), .ref (ad 2), .ref (ad 3), .ref (ad 4), .ref (ad 5), .ref (ad 6), .ref (ad 7), .ref (ad 8), .ref (ad 9), .ref (ad 10), .ref (ad 11), .int 0, .int 0, .int 0])), ((ad 8), .inr (5, [.int sd, .ref (ad 58)]))] sz) := by
  refine Met.ofW (cc := cX10_lot) (maxL := 4) (ret := (some .int)) (by decide) rfl ?_
  intro p e s m args below meth c s₁ B hml hv
  obtain ⟨rfl, hsz, hP, hK, hD0, hN⟩ := hv
  have hx := B.exec
  have hb := B.bytes
  have hr := B.returns
  have hts := atoms_spec (ws := wsX10_lot) B.pre
  have hown : s.vm.findClass RX10 = some m.cls := findClass_of_methodNamed B.named
  have hlocks := B.notSynchronized
  subst hsz
  have hD := hD0.self (sz := s.heap.size)
  generalize hAe : va_A [((ad 0), .inr (10, [.ref (ad 1), .ref (ad 2), .ref (ad 3), .ref (ad 4), .ref (ad 5), .ref (ad 6), .ref (ad 7), .ref (ad 8), .ref (ad 9), .ref (ad 10), .ref (ad 11), .int 0, .int 0, .int 0])), ((ad 8), .inr (5, [.int sd, .ref (ad 58)]))] s.heap.size = A at hD ⊢
  have hA : ∀ q : Nat, s.heap.size ≤ q → A q := fun q h => by rw [← hAe]; exact Or.inr h
  have hS : va_S A s.heap s.heap [] := va_S.rf
  have hP : va_P D vwCl [((ad 0), .inr (10, [.ref (ad 1), .ref (ad 2), .ref (ad 3), .ref (ad 4), .ref (ad 5), .ref (ad 6), .ref (ad 7), .ref (ad 8), .ref (ad 9), .ref (ad 10), .ref (ad 11), .int 0, .int 0, .int 0])), ((ad 8), .inr (5, [.int sd, .ref (ad 58)]))] s.heap := hP
  have hl := lv_entry ([.ref (ad 0), .int a, .int d, .int n]) (n := 4) (Nat.le_of_ble_eq_true rfl)
  rw [lg_entry_eq]
  generalize (lg_sl ([.ref (ad 0), .int a, .int d, .int n]) ++ List.replicate (4 - (lg_sl ([.ref (ad 0), .int a, .int d, .int n])).length) Slot.unset).toArray = ls at hl ⊢
  have hl : lv_has ls 4 [(0, .ref (ad 0)), (1, .int a), (2, .int d), (3, .int n)] := hl
  have k0 : (0 : Int32).toInt = 0 := by decide
  have k1 : (1 : Int32).toInt = 1 := by decide
  have k12 : (12 : Int32).toInt = 12 := by decide
  have k1000000 : (1000000 : Int32).toInt = 1000000 := by decide
  refine lv_iload_n hx hb dX10_lot_0 rfl (lv_at hl 1 rfl) ?_
  refine lv_bipush (v := 12) hx hb dX10_lot_1 (by decide) ?_
  refine st_i (wr := [((ad 0), .inr (10, [.ref (ad 1), .ref (ad 2), .ref (ad 3), .ref (ad 4), .ref (ad 5), .ref (ad 6), .ref (ad 7), .ref (ad 8), .ref (ad 9), .ref (ad 10), .ref (ad 11), .int 0, .int 0, .int 0])), ((ad 8), .inr (5, [.int sd, .ref (ad 58)]))]) (va_runS (As := [.int a, .int 12]) (rest := []) ⟨hx, hb, hml, hown, hts⟩ (ct_X10_isBelow l D cI cY cJ cQ _ a (12)) (va_cwS 2 hts gX10_lot_X10_isBelow rfl rfl rfl (by decide +kernel) ⟨Nat.le_of_ble_eq_true rfl, Nat.le_of_ble_eq_true rfl⟩) (cPreS (hP.sub [] rfl) hK (hD.sub [] (by decide) rfl) hN) rfl rfl hl.1 rfl (lv_room (Nat.le_of_ble_eq_true rfl)) dX10_lot_3 ⟨Nat.le_of_ble_eq_true rfl, Nat.le_of_ble_eq_true rfl⟩) hP hD hS hA [] [0, 1] rfl rfl (by decide) (by decide) (fun r3 u1 H locs hw2 hP hD hS => ?_)
  replace hP : va_P D vwCl [((ad 0), .inr (10, [.ref (ad 1), .ref (ad 2), .ref (ad 3), .ref (ad 4), .ref (ad 5), .ref (ad 6), .ref (ad 7), .ref (ad 8), .ref (ad 9), .ref (ad 10), .ref (ad 11), .int 0, .int 0, .int 0])), ((ad 8), .inr (5, [.int sd, .ref (ad 58)]))] H := hP
  replace hD : va_D A [((ad 0), .inr (10, [.ref (ad 1), .ref (ad 2), .ref (ad 3), .ref (ad 4), .ref (ad 5), .ref (ad 6), .ref (ad 7), .ref (ad 8), .ref (ad 9), .ref (ad 10), .ref (ad 11), .int 0, .int 0, .int 0])), ((ad 8), .inr (5, [.int sd, .ref (ad 58)]))] := hD
  refine lv_if_eq (tgt := 26) hx hb dX10_lot_6 (by decide) (fun c4 => ?_) (fun c4 => ?_)
  · skip
    have f5 := bo_f hw2 c4
    refine lv_ldc hx hb hown (hts (.constant RX10 89 (-1000001)) (by decide +kernel)) dX10_lot_26 ?_
    have hP9 := hP.sub (ws' := []) [] rfl
    have hD9 := hD.sub (ws' := []) [] (by decide) rfl
    exact W.iret (v := (-1000001)) hx hb hr (fun t ht hW => ⟨⟨(-1000001), (), rfl, (by unfold an_lotn; rw [if_neg (by omega)]), by rw [ht]; exact hP9, va_K.moved hW.alike hK, hD9⟩, hS.F ht⟩) hS.2.2 dX10_lot_28
  · skip
    have f6 := bo_t hw2 c4
    refine lv_iload_n hx hb dX10_lot_9 rfl (lv_at hl 2 rfl) ?_
    refine st_i (wr := [((ad 0), .inr (10, [.ref (ad 1), .ref (ad 2), .ref (ad 3), .ref (ad 4), .ref (ad 5), .ref (ad 6), .ref (ad 7), .ref (ad 8), .ref (ad 9), .ref (ad 10), .ref (ad 11), .int 0, .int 0, .int 0])), ((ad 8), .inr (5, [.int sd, .ref (ad 58)]))]) (va_runS (As := [.int d]) (rest := []) ⟨hx, hb, hml, hown, hts⟩ (ct_X10_isDay l D cI cY cJ cQ _ d) (va_cwS 1 hts gX10_lot_X10_isDay rfl rfl rfl (by decide +kernel) ⟨Nat.le_of_ble_eq_true rfl, Nat.le_of_ble_eq_true rfl⟩) (cPreS (hP.sub [] rfl) hK (hD.sub [] (by decide) rfl) hN) rfl rfl hl.1 rfl (lv_room (Nat.le_of_ble_eq_true rfl)) dX10_lot_10 ⟨Nat.le_of_ble_eq_true rfl, Nat.le_of_ble_eq_true rfl⟩) hP hD hS hA [] [0, 1] rfl rfl (by decide) (by decide) (fun r9 u7 H locs hw8 hP hD hS => ?_)
    replace hP : va_P D vwCl [((ad 0), .inr (10, [.ref (ad 1), .ref (ad 2), .ref (ad 3), .ref (ad 4), .ref (ad 5), .ref (ad 6), .ref (ad 7), .ref (ad 8), .ref (ad 9), .ref (ad 10), .ref (ad 11), .int 0, .int 0, .int 0])), ((ad 8), .inr (5, [.int sd, .ref (ad 58)]))] H := hP
    replace hD : va_D A [((ad 0), .inr (10, [.ref (ad 1), .ref (ad 2), .ref (ad 3), .ref (ad 4), .ref (ad 5), .ref (ad 6), .ref (ad 7), .ref (ad 8), .ref (ad 9), .ref (ad 10), .ref (ad 11), .int 0, .int 0, .int 0])), ((ad 8), .inr (5, [.int sd, .ref (ad 58)]))] := hD
    refine lv_if_eq (tgt := 26) hx hb dX10_lot_13 (by decide) (fun c10 => ?_) (fun c10 => ?_)
    · skip
      have f11 := bo_f hw8 c10
      refine lv_ldc hx hb hown (hts (.constant RX10 89 (-1000001)) (by decide +kernel)) dX10_lot_26 ?_
      have hP9 := hP.sub (ws' := []) [] rfl
      have hD9 := hD.sub (ws' := []) [] (by decide) rfl
      exact W.iret (v := (-1000001)) hx hb hr (fun t ht hW => ⟨⟨(-1000001), (), rfl, (by unfold an_lotn; rw [if_neg (by omega)]), by rw [ht]; exact hP9, va_K.moved hW.alike hK, hD9⟩, hS.F ht⟩) hS.2.2 dX10_lot_28
    · skip
      have f12 := bo_t hw8 c10
      refine lv_iload_n hx hb dX10_lot_16 rfl (lv_at hl 3 rfl) ?_
      refine lv_iconst (v := 1) hx hb dX10_lot_17 (by decide) ?_
      refine lv_ldc hx hb hown (hts (.constant RX10 248 (1000000)) (by decide +kernel)) dX10_lot_18 ?_
      refine st_i (wr := [((ad 0), .inr (10, [.ref (ad 1), .ref (ad 2), .ref (ad 3), .ref (ad 4), .ref (ad 5), .ref (ad 6), .ref (ad 7), .ref (ad 8), .ref (ad 9), .ref (ad 10), .ref (ad 11), .int 0, .int 0, .int 0])), ((ad 8), .inr (5, [.int sd, .ref (ad 58)]))]) (va_runS (As := [.int n, .int 1, .int 1000000]) (rest := []) ⟨hx, hb, hml, hown, hts⟩ (ct_X10_isFrom l D cI cY cJ cQ _ n (1) (1000000)) (va_cwS 3 hts gX10_lot_X10_isFrom rfl rfl rfl (by decide +kernel) ⟨Nat.le_of_ble_eq_true rfl, Nat.le_of_ble_eq_true rfl⟩) (cPreS (hP.sub [] rfl) hK (hD.sub [] (by decide) rfl) hN) rfl rfl hl.1 rfl (lv_room (Nat.le_of_ble_eq_true rfl)) dX10_lot_20 ⟨Nat.le_of_ble_eq_true rfl, Nat.le_of_ble_eq_true rfl⟩) hP hD hS hA [] [0, 1] rfl rfl (by decide) (by decide) (fun r15 u13 H locs hw14 hP hD hS => ?_)
      replace hP : va_P D vwCl [((ad 0), .inr (10, [.ref (ad 1), .ref (ad 2), .ref (ad 3), .ref (ad 4), .ref (ad 5), .ref (ad 6), .ref (ad 7), .ref (ad 8), .ref (ad 9), .ref (ad 10), .ref (ad 11), .int 0, .int 0, .int 0])), ((ad 8), .inr (5, [.int sd, .ref (ad 58)]))] H := hP
      replace hD : va_D A [((ad 0), .inr (10, [.ref (ad 1), .ref (ad 2), .ref (ad 3), .ref (ad 4), .ref (ad 5), .ref (ad 6), .ref (ad 7), .ref (ad 8), .ref (ad 9), .ref (ad 10), .ref (ad 11), .int 0, .int 0, .int 0])), ((ad 8), .inr (5, [.int sd, .ref (ad 58)]))] := hD
      refine lv_if_ne (tgt := 29) hx hb dX10_lot_23 (by decide) (fun c16 => ?_) (fun c16 => ?_)
      · skip
        have f17 := bo_t hw14 c16
        refine lv_aload_n hx hb dX10_lot_29 rfl (lv_at hl 0 rfl) ?_
        refine va_get (D := D) (ci := 10) (v := .ref (ad 8)) (C := RX10) (T := TX10) (N := 14) hx hb hts (by decide +kernel) hown hK hP 0 rfl rfl 7 (by decide) (hts (.fieldLink RX10 81 "PortRooms" "looks" "LPortRooms$Looks;") (by decide +kernel)) (fun _ h9 => h9) rfl dX10_lot_30 ?_
        refine lv_iload_n hx hb dX10_lot_33 rfl (lv_at hl 1 rfl) ?_
        refine lv_iload_n hx hb dX10_lot_34 rfl (lv_at hl 2 rfl) ?_
        refine st_l (wr := [((ad 0), .inr (10, [.ref (ad 1), .ref (ad 2), .ref (ad 3), .ref (ad 4), .ref (ad 5), .ref (ad 6), .ref (ad 7), .ref (ad 8), .ref (ad 9), .ref (ad 10), .ref (ad 11), .int 0, .int 0, .int 0]))]) (va_runV (C := RX5) (As := [.int a, .int d]) (rest := []) ⟨hx, hb, hml, hown, hts⟩ (ct_X5_lotOf l D cI cY cJ cQ _ ad a d sd) (cwV 2 hts gX10_lot_X5_lotOf rfl rfl rfl (by decide +kernel) ⟨Nat.le_of_ble_eq_true rfl, Nat.le_of_ble_eq_true rfl⟩) (cPreV (hP.sub [1] rfl) hK (hD.sub [1] (by decide) rfl) hN (ci := 5) (q0 := 0) rfl rfl) rfl rfl hl.1 rfl (lv_room (Nat.le_of_ble_eq_true rfl)) dX10_lot_35 ⟨Nat.le_of_ble_eq_true rfl, Nat.le_of_ble_eq_true rfl⟩) hP hD hS hA [1] [0] rfl rfl (by decide) (by decide) (fun r20 u18 H locs hw19 hP hD hS => ?_)
        replace hP : va_P D vwCl [((ad 0), .inr (10, [.ref (ad 1), .ref (ad 2), .ref (ad 3), .ref (ad 4), .ref (ad 5), .ref (ad 6), .ref (ad 7), .ref (ad 8), .ref (ad 9), .ref (ad 10), .ref (ad 11), .int 0, .int 0, .int 0]))] H := hP
        replace hD : va_D A [((ad 0), .inr (10, [.ref (ad 1), .ref (ad 2), .ref (ad 3), .ref (ad 4), .ref (ad 5), .ref (ad 6), .ref (ad 7), .ref (ad 8), .ref (ad 9), .ref (ad 10), .ref (ad 11), .int 0, .int 0, .int 0]))] := hD
        refine lv_iload_n hx hb dX10_lot_38 rfl (lv_at hl 3 rfl) ?_
        refine lv_i2l hx hb dX10_lot_39 rfl ?_
        refine lv_lrem hx hb dX10_lot_40 (fun h => by have := congrArg Int64.toInt h; rw [i_w] at this; have h0 : (0 : Int64).toInt = 0 := rfl; omega) ?_
        refine lv_topl (fun z21 ez21 => ?_)
        refine lv_l2i hx hb dX10_lot_41 rfl ?_
        refine lv_topi (fun v22 ev22 => ?_)
        have hP9 := hP.sub (ws' := []) [] rfl
        have hD9 := hD.sub (ws' := []) [] (by decide) rfl
        exact W.iret (v := v22) hx hb hr (fun t ht hW => ⟨⟨v22, (), rfl, (by unfold an_lotn; rw [if_pos (by omega)]; subst_vars; rfl), by rw [ht]; exact hP9, va_K.moved hW.alike hK, hD9⟩, hS.F ht⟩) hS.2.2 dX10_lot_42
      · skip
        have f23 := bo_f hw14 c16
        refine lv_ldc hx hb hown (hts (.constant RX10 89 (-1000001)) (by decide +kernel)) dX10_lot_26 ?_
        have hP9 := hP.sub (ws' := []) [] rfl
        have hD9 := hD.sub (ws' := []) [] (by decide) rfl
        exact W.iret (v := (-1000001)) hx hb hr (fun t ht hW => ⟨⟨(-1000001), (), rfl, (by unfold an_lotn; rw [if_neg (by omega)]), by rw [ht]; exact hP9, va_K.moved hW.alike hK, hD9⟩, hS.F ht⟩) hS.2.2 dX10_lot_28

set_option maxHeartbeats 4000000 in
set_option maxRecDepth 100000 in
theorem ct_X2_take (l : Launch) (D : va_G) (cI cY cJ cQ : ClassId) (sz : Nat) (ad : Nat → Nat) (len b : Int32) (tp : Nat → Int32) (h1 : 0 ≤ len.toInt) (h2 : len.toInt < 300) : Met l yX2_take wsX2_take ({ frames := 0, cells := 0, slots := 0, locals := 0 }) (cPre D (ty4 cI cY cJ cQ) [((ad 6), .inr (2, [.ref (ad 47), .int len, .int 0, .ref (ad 48), .ref (ad 49), .ref (ad 50), .int 0, .ref (ad 51), .ref (ad 52), .ref (ad 53), .int 0, .int 0, .int 0, .int 0, .int 0])), ((ad 47), .inl (cY, 300, .inl tp))] sz [.ref (ad 6), .int b]) (va_Qv (fun (u : Int32 × (Nat → Int32)) => u.1.toInt = len.toInt + 1) (cB D (ty4 cI cY cJ cQ) (fun (u : Int32 × (Nat → Int32)) => [((ad 6), .inr (2, [.ref (ad 47), .int (u.1), .int 0, .ref (ad 48), .ref (ad 49), .ref (ad 50), .int 0, .ref (ad 51), .ref (ad 52), .ref (ad 53), .int 0, .int 0, .int 0, .int 0, .int 0])), ((ad 47), .inl (cY, 300, .inl u.2))]) (va_A [((ad 6), .inr (2, [.ref (ad 47), .int len, .int 0, .ref (ad 48), .ref (ad 49), .ref (ad 50), .int 0, .ref (ad 51), .ref (ad 52), .ref (ad 53), .int 0, .int 0, .int 0, .int 0, .int 0])), ((ad 47), .inl (cY, 300, .inl tp))] sz)) (va_A [((ad 6), .inr (2, [.ref (ad 47), .int len, .int 0, .ref (ad 48), .ref (ad 49), .ref (ad 50), .int 0, .ref (ad 51), .ref (ad 52), .ref (ad 53), .int 0, .int 0, .int 0, .int 0, .int 0])), ((ad 47), .inl (cY, 300, .inl tp))] sz)) 0 0 (va_A [((ad 6), .inr (2, [.ref (ad 47), .int len, .int 0, .ref (ad 48), .ref (ad 49), .ref (ad 50), .int 0, .ref (ad 51), .ref (ad 52), .ref (ad 53), .int 0, .int 0, .int 0, .int 0, .int 0])), ((ad 47), .inl (cY, 300, .inl tp))] sz) := by
  refine Met.ofW (cc := cX2_take) (maxL := 2) (ret := none) (by decide) rfl ?_
  intro p e s m args below meth c s₁ B hml hv
  obtain ⟨rfl, hsz, hP, hK, hD0, hN⟩ := hv
  have hx := B.exec
  have hb := B.bytes
  have hr := B.returns
  have hts := atoms_spec (ws := wsX2_take) B.pre
  have hown : s.vm.findClass RX2 = some m.cls := findClass_of_methodNamed B.named
  have hlocks := B.notSynchronized
  subst hsz
  have hD := hD0.self (sz := s.heap.size)
  generalize hAe : va_A [((ad 6), .inr (2, [.ref (ad 47), .int len, .int 0, .ref (ad 48), .ref (ad 49), .ref (ad 50), .int 0, .ref (ad 51), .ref (ad 52), .ref (ad 53), .int 0, .int 0, .int 0, .int 0, .int 0])), ((ad 47), .inl (cY, 300, .inl tp))] s.heap.size = A at hD ⊢
  have hA : ∀ q : Nat, s.heap.size ≤ q → A q := fun q h => by rw [← hAe]; exact Or.inr h
  have hS : va_S A s.heap s.heap [] := va_S.rf
  have hP : va_P D vwCl [((ad 6), .inr (2, [.ref (ad 47), .int len, .int 0, .ref (ad 48), .ref (ad 49), .ref (ad 50), .int 0, .ref (ad 51), .ref (ad 52), .ref (ad 53), .int 0, .int 0, .int 0, .int 0, .int 0])), ((ad 47), .inl (cY, 300, .inl tp))] s.heap := hP
  have hl := lv_entry ([.ref (ad 6), .int b]) (n := 2) (Nat.le_of_ble_eq_true rfl)
  rw [lg_entry_eq]
  generalize (lg_sl ([.ref (ad 6), .int b]) ++ List.replicate (2 - (lg_sl ([.ref (ad 6), .int b])).length) Slot.unset).toArray = ls at hl ⊢
  have hl : lv_has ls 2 [(0, .ref (ad 6)), (1, .int b)] := hl
  have k1 : (1 : Int32).toInt = 1 := by decide
  have k300 : (300 : Int32).toInt = 300 := by decide
  refine lv_aload_n hx hb dX2_take_0 rfl (lv_at hl 0 rfl) ?_
  refine va_get (D := D) (ci := 2) (v := .int len) (C := RX2) (T := TX2) (N := 15) hx hb hts (by decide +kernel) hown hK hP 0 rfl rfl 1 (by decide) (hts (.fieldLink RX2 34 "PortRooms$Duties" "length" "I") (by decide +kernel)) (fun _ h9 => h9) rfl dX2_take_1 ?_
  refine lv_sipush (v := 300) hx hb dX2_take_4 (by decide) ?_
  refine lv_icmp_ge (tgt := 30) hx hb dX2_take_7 (by decide) (fun c1 => by exfalso; have := i_le c1; omega) (fun _ => ?_)
  refine lv_aload_n hx hb dX2_take_10 rfl (lv_at hl 0 rfl) ?_
  refine va_get (D := D) (ci := 2) (v := .ref (ad 47)) (C := RX2) (T := TX2) (N := 15) hx hb hts (by decide +kernel) hown hK hP 0 rfl rfl 0 (by decide) (hts (.fieldLink RX2 11 "PortRooms$Duties" "tape" "[B") (by decide +kernel)) (fun _ h9 => h9) rfl dX2_take_11 ?_
  refine lv_aload_n hx hb dX2_take_14 rfl (lv_at hl 0 rfl) ?_
  refine va_get (D := D) (ci := 2) (v := .int len) (C := RX2) (T := TX2) (N := 15) hx hb hts (by decide +kernel) hown hK hP 0 rfl rfl 1 (by decide) (hts (.fieldLink RX2 34 "PortRooms$Duties" "length" "I") (by decide +kernel)) (fun _ h9 => h9) rfl dX2_take_15 ?_
  refine lv_iload_n hx hb dX2_take_18 rfl (lv_at hl 1 rfl) ?_
  refine va_bast hx hb hK hP hD hS 1 1 rfl rfl (i_in (by omega) (by omega)) dX2_take_19 (fun H locs hP hD hS => ?_)
  replace hP : va_P D vwCl [((ad 6), .inr (2, [.ref (ad 47), .int len, .int 0, .ref (ad 48), .ref (ad 49), .ref (ad 50), .int 0, .ref (ad 51), .ref (ad 52), .ref (ad 53), .int 0, .int 0, .int 0, .int 0, .int 0])), ((ad 47), .inl (cY, 300, .inl (upd tp len.toNatClampNeg (vp_nar .byte b))))] H := hP
  replace hD : va_D A [((ad 6), .inr (2, [.ref (ad 47), .int len, .int 0, .ref (ad 48), .ref (ad 49), .ref (ad 50), .int 0, .ref (ad 51), .ref (ad 52), .ref (ad 53), .int 0, .int 0, .int 0, .int 0, .int 0])), ((ad 47), .inl (cY, 300, .inl (upd tp len.toNatClampNeg (vp_nar .byte b))))] := hD
  refine lv_aload_n hx hb dX2_take_20 rfl (lv_at hl 0 rfl) ?_
  refine lv_dup hx hb dX2_take_21 rfl ?_
  refine va_get (D := D) (ci := 2) (v := .int len) (C := RX2) (T := TX2) (N := 15) hx hb hts (by decide +kernel) hown hK hP 0 rfl rfl 1 (by decide) (hts (.fieldLink RX2 34 "PortRooms$Duties" "length" "I") (by decide +kernel)) (fun _ h9 => h9) rfl dX2_take_22 ?_
  refine lv_iconst (v := 1) hx hb dX2_take_25 (by decide) ?_
  refine lv_iadd hx hb dX2_take_26 ?_
  refine lv_topi (fun v2 ev2 => ?_)
  have tv2 : v2.toInt = len.toInt + 1 := by rw [ev2]; exact (i_add (x := len) (y := (1 : Int32)) (by rw [k1]; omega) (by rw [k1]; omega)).trans (by rw [k1])
  refine va_put (D := D) (ci := 2) (v := .int v2) (ty := .int) (C := RX2) (T := TX2) (N := 15) hx hb hts (by decide +kernel) tyX2 tyX2_ok nmX2 hown hK hP hD hS 0 rfl rfl 1 (by decide) (hts (.fieldLink RX2 34 "PortRooms$Duties" "length" "I") (by decide +kernel)) (fun _ h9 => h9) rfl (by decide +kernel) rfl rfl (Nat.le_of_ble_eq_true rfl) dX2_take_27 (fun H locs hP hD hS => ?_)
  replace hP : va_P D vwCl [((ad 6), .inr (2, [.ref (ad 47), .int v2, .int 0, .ref (ad 48), .ref (ad 49), .ref (ad 50), .int 0, .ref (ad 51), .ref (ad 52), .ref (ad 53), .int 0, .int 0, .int 0, .int 0, .int 0])), ((ad 47), .inl (cY, 300, .inl (upd tp len.toNatClampNeg (vp_nar .byte b))))] H := hP
  replace hD : va_D A [((ad 6), .inr (2, [.ref (ad 47), .int v2, .int 0, .ref (ad 48), .ref (ad 49), .ref (ad 50), .int 0, .ref (ad 51), .ref (ad 52), .ref (ad 53), .int 0, .int 0, .int 0, .int 0, .int 0])), ((ad 47), .inl (cY, 300, .inl (upd tp len.toNatClampNeg (vp_nar .byte b))))] := hD
  have hP9 := hP.sub (ws' := [((ad 6), .inr (2, [.ref (ad 47), .int v2, .int 0, .ref (ad 48), .ref (ad 49), .ref (ad 50), .int 0, .ref (ad 51), .ref (ad 52), .ref (ad 53), .int 0, .int 0, .int 0, .int 0, .int 0])), ((ad 47), .inl (cY, 300, .inl (upd tp len.toNatClampNeg (vp_nar .byte b))))]) [0, 1] rfl
  have hD9 := hD.sub (ws' := [((ad 6), .inr (2, [.ref (ad 47), .int v2, .int 0, .ref (ad 48), .ref (ad 49), .ref (ad 50), .int 0, .ref (ad 51), .ref (ad 52), .ref (ad 53), .int 0, .int 0, .int 0, .int 0, .int 0])), ((ad 47), .inl (cY, 300, .inl (upd tp len.toNatClampNeg (vp_nar .byte b))))]) [0, 1] (by decide) rfl
  exact W.vret hx hb hr (fun t ht hW => ⟨⟨(v2, upd tp len.toNatClampNeg (vp_nar .byte b)), rfl, (by show v2.toInt = _; omega), by rw [ht]; exact hP9, va_K.moved hW.alike hK, hD9⟩, hS.F ht⟩) hS.2.2 dX2_take_30

set_option maxHeartbeats 4000000 in
set_option maxRecDepth 100000 in
theorem ct_X10_feed (l : Launch) (D : va_G) (cI cY cJ cQ : ClassId) (sz : Nat) (ad : Nat → Nat) (n : Int32) (w : Int64) (tp : Nat → Int32)  : Met l yX10_feed wsX10_feed ({ frames := 1, cells := 0, slots := 0, locals := 22 }) (cPre D (ty4 cI cY cJ cQ) [((ad 0), .inr (10, [.ref (ad 1), .ref (ad 2), .ref (ad 3), .ref (ad 4), .ref (ad 5), .ref (ad 6), .ref (ad 7), .ref (ad 8), .ref (ad 9), .ref (ad 10), .ref (ad 11), .int 0, .int 0, .int 0])), ((ad 6), .inr (2, [.ref (ad 47), .int 0, .int 0, .ref (ad 48), .ref (ad 49), .ref (ad 50), .int 0, .ref (ad 51), .ref (ad 52), .ref (ad 53), .int 0, .int 0, .int 0, .int 0, .int 0])), ((ad 47), .inl (cY, 300, .inl tp))] sz [.ref (ad 0), .long w, .int n]) (va_Qi (fun (r : Int32) (u : Unit) => r = an_feed n) (cB D (ty4 cI cY cJ cQ) (fun (u : Unit) => []) (va_A [((ad 0), .inr (10, [.ref (ad 1), .ref (ad 2), .ref (ad 3), .ref (ad 4), .ref (ad 5), .ref (ad 6), .ref (ad 7), .ref (ad 8), .ref (ad 9), .ref (ad 10), .ref (ad 11), .int 0, .int 0, .int 0])), ((ad 6), .inr (2, [.ref (ad 47), .int 0, .int 0, .ref (ad 48), .ref (ad 49), .ref (ad 50), .int 0, .ref (ad 51), .ref (ad 52), .ref (ad 53), .int 0, .int 0, .int 0, .int 0, .int 0])), ((ad 47), .inl (cY, 300, .inl tp))] sz)) (va_A [((ad 0), .inr (10, [.ref (ad 1), .ref (ad 2), .ref (ad 3), .ref (ad 4), .ref (ad 5), .ref (ad 6), .ref (ad 7), .ref (ad 8), .ref (ad 9), .ref (ad 10), .ref (ad 11), .int 0, .int 0, .int 0])), ((ad 6), .inr (2, [.ref (ad 47), .int 0, .int 0, .ref (ad 48), .ref (ad 49), .ref (ad 50), .int 0, .ref (ad 51), .ref (ad 52), .ref (ad 53), .int 0, .int 0, .int 0, .int 0, .int 0])), ((ad 47), .inl (cY, 300, .inl tp))] sz)) 0 0 (va_A [((ad 0), .inr (10, [.ref (ad 1), .ref (ad 2), .ref (ad 3), .ref (ad 4), .ref (ad 5), .ref (ad 6), .ref (ad 7), .ref (ad 8), .ref (ad 9), .ref (ad 10), .ref (ad 11), .int 0, .int 0, .int 0])), ((ad 6), .inr (2, [.ref (ad 47), .int 0, .int 0, .ref (ad 48), .ref (ad 49), .ref (ad 50), .int 0, .ref (ad 51), .ref (ad 52), .ref (ad 53), .int 0, .int 0, .int 0, .int 0, .int 0])), ((ad 47), .inl (cY, 300, .inl tp))] sz) := by
  refine Met.ofW (cc := cX10_feed) (maxL := 5) (ret := (some .int)) (by decide) rfl ?_
  intro p e s m args below meth c s₁ B hml hv
  obtain ⟨rfl, hsz, hP, hK, hD0, hN⟩ := hv
  have hx := B.exec
  have hb := B.bytes
  have hr := B.returns
  have hts := atoms_spec (ws := wsX10_feed) B.pre
  have hown : s.vm.findClass RX10 = some m.cls := findClass_of_methodNamed B.named
  have hlocks := B.notSynchronized
  subst hsz
  have hD := hD0.self (sz := s.heap.size)
  generalize hAe : va_A [((ad 0), .inr (10, [.ref (ad 1), .ref (ad 2), .ref (ad 3), .ref (ad 4), .ref (ad 5), .ref (ad 6), .ref (ad 7), .ref (ad 8), .ref (ad 9), .ref (ad 10), .ref (ad 11), .int 0, .int 0, .int 0])), ((ad 6), .inr (2, [.ref (ad 47), .int 0, .int 0, .ref (ad 48), .ref (ad 49), .ref (ad 50), .int 0, .ref (ad 51), .ref (ad 52), .ref (ad 53), .int 0, .int 0, .int 0, .int 0, .int 0])), ((ad 47), .inl (cY, 300, .inl tp))] s.heap.size = A at hD ⊢
  have hA : ∀ q : Nat, s.heap.size ≤ q → A q := fun q h => by rw [← hAe]; exact Or.inr h
  have hS : va_S A s.heap s.heap [] := va_S.rf
  have hP : va_P D vwCl [((ad 0), .inr (10, [.ref (ad 1), .ref (ad 2), .ref (ad 3), .ref (ad 4), .ref (ad 5), .ref (ad 6), .ref (ad 7), .ref (ad 8), .ref (ad 9), .ref (ad 10), .ref (ad 11), .int 0, .int 0, .int 0])), ((ad 6), .inr (2, [.ref (ad 47), .int 0, .int 0, .ref (ad 48), .ref (ad 49), .ref (ad 50), .int 0, .ref (ad 51), .ref (ad 52), .ref (ad 53), .int 0, .int 0, .int 0, .int 0, .int 0])), ((ad 47), .inl (cY, 300, .inl tp))] s.heap := hP
  have hl := lv_entry ([.ref (ad 0), .long w, .int n]) (n := 5) (Nat.le_of_ble_eq_true rfl)
  rw [lg_entry_eq]
  generalize (lg_sl ([.ref (ad 0), .long w, .int n]) ++ List.replicate (5 - (lg_sl ([.ref (ad 0), .long w, .int n])).length) Slot.unset).toArray = ls at hl ⊢
  have hl : lv_has ls 5 [(0, .ref (ad 0)), (1, .long w), (3, .int n)] := hl
  have km1000003 : (-1000003 : Int32).toInt = -1000003 := by decide
  have km1000001 : (-1000001 : Int32).toInt = -1000001 := by decide
  have km1 : (-1 : Int32).toInt = -1 := by decide
  have k0 : (0 : Int32).toInt = 0 := by decide
  have k1 : (1 : Int32).toInt = 1 := by decide
  have k8 : (8 : Int32).toInt = 8 := by decide
  have k300 : (300 : Int32).toInt = 300 := by decide
  refine lv_iload_n hx hb dX10_feed_0 rfl (lv_at hl 2 rfl) ?_
  refine lv_iconst (v := 1) hx hb dX10_feed_1 (by decide) ?_
  refine lv_bipush (v := 8) hx hb dX10_feed_2 (by decide) ?_
  refine st_i (wr := [((ad 0), .inr (10, [.ref (ad 1), .ref (ad 2), .ref (ad 3), .ref (ad 4), .ref (ad 5), .ref (ad 6), .ref (ad 7), .ref (ad 8), .ref (ad 9), .ref (ad 10), .ref (ad 11), .int 0, .int 0, .int 0])), ((ad 6), .inr (2, [.ref (ad 47), .int 0, .int 0, .ref (ad 48), .ref (ad 49), .ref (ad 50), .int 0, .ref (ad 51), .ref (ad 52), .ref (ad 53), .int 0, .int 0, .int 0, .int 0, .int 0])), ((ad 47), .inl (cY, 300, .inl tp))]) (va_runS (As := [.int n, .int 1, .int 8]) (rest := []) ⟨hx, hb, hml, hown, hts⟩ (ct_X10_isFrom l D cI cY cJ cQ _ n (1) (8)) (va_cwS 3 hts gX10_feed_X10_isFrom rfl rfl rfl (by decide +kernel) ⟨Nat.le_of_ble_eq_true rfl, Nat.le_of_ble_eq_true rfl⟩) (cPreS (hP.sub [] rfl) hK (hD.sub [] (by decide) rfl) hN) rfl rfl hl.1 rfl (lv_room (Nat.le_of_ble_eq_true rfl)) dX10_feed_4 ⟨Nat.le_of_ble_eq_true rfl, Nat.le_of_ble_eq_true rfl⟩) hP hD hS hA [] [0, 1, 2] rfl rfl (by decide) (by decide) (fun r3 u1 H locs hw2 hP hD hS => ?_)
  replace hP : va_P D vwCl [((ad 0), .inr (10, [.ref (ad 1), .ref (ad 2), .ref (ad 3), .ref (ad 4), .ref (ad 5), .ref (ad 6), .ref (ad 7), .ref (ad 8), .ref (ad 9), .ref (ad 10), .ref (ad 11), .int 0, .int 0, .int 0])), ((ad 6), .inr (2, [.ref (ad 47), .int 0, .int 0, .ref (ad 48), .ref (ad 49), .ref (ad 50), .int 0, .ref (ad 51), .ref (ad 52), .ref (ad 53), .int 0, .int 0, .int 0, .int 0, .int 0])), ((ad 47), .inl (cY, 300, .inl tp))] H := hP
  replace hD : va_D A [((ad 0), .inr (10, [.ref (ad 1), .ref (ad 2), .ref (ad 3), .ref (ad 4), .ref (ad 5), .ref (ad 6), .ref (ad 7), .ref (ad 8), .ref (ad 9), .ref (ad 10), .ref (ad 11), .int 0, .int 0, .int 0])), ((ad 6), .inr (2, [.ref (ad 47), .int 0, .int 0, .ref (ad 48), .ref (ad 49), .ref (ad 50), .int 0, .ref (ad 51), .ref (ad 52), .ref (ad 53), .int 0, .int 0, .int 0, .int 0, .int 0])), ((ad 47), .inl (cY, 300, .inl tp))] := hD
  refine lv_if_ne (tgt := 13) hx hb dX10_feed_7 (by decide) (fun c4 => ?_) (fun c4 => ?_)
  · skip
    have f5 := bo_t hw2 c4
    refine lv_aload_n hx hb dX10_feed_13 rfl (lv_at hl 0 rfl) ?_
    refine va_get (D := D) (ci := 10) (v := .ref (ad 6)) (C := RX10) (T := TX10) (N := 14) hx hb hts (by decide +kernel) hown hK hP 0 rfl rfl 5 (by decide) (hts (.fieldLink RX10 47 "PortRooms" "duties" "LPortRooms$Duties;") (by decide +kernel)) (fun _ h9 => h9) rfl dX10_feed_14 ?_
    refine va_get (D := D) (ci := 2) (v := .int 0) (C := RX2) (T := TX2) (N := 15) hx hb hts (by decide +kernel) hown hK hP 1 rfl rfl 1 (by decide) (hts (.fieldLink RX10 213 "PortRooms$Duties" "length" "I") (by decide +kernel)) (fun _ h9 => h9) rfl dX10_feed_17 ?_
    refine lv_iload_n hx hb dX10_feed_20 rfl (lv_at hl 2 rfl) ?_
    refine lv_iadd hx hb dX10_feed_21 ?_
    refine lv_topi (fun v6 ev6 => ?_)
    have tv6 : v6.toInt = 0 + n.toInt := by rw [ev6]; exact (i_add (x := (0 : Int32)) (y := n) (by rw [k0]; omega) (by rw [k0]; omega)).trans (by rw [k0])
    refine lv_sipush (v := 300) hx hb dX10_feed_22 (by decide) ?_
    refine lv_icmp_le (tgt := 31) hx hb dX10_feed_25 (by decide) (fun c7 => ?_) (fun c7 => ?_)
    · skip
      have f8 := i_le c7
      refine lv_iload_n hx hb dX10_feed_31 rfl (lv_at hl 2 rfl) ?_
      refine lv_iconst (v := 1) hx hb dX10_feed_32 (by decide) ?_
      refine lv_isub hx hb dX10_feed_33 ?_
      refine lv_topi (fun v9 ev9 => ?_)
      have tv9 : v9.toInt = n.toInt - 1 := by rw [ev9]; exact (i_sub (x := n) (y := (1 : Int32)) (by rw [k1]; omega) (by rw [k1]; omega)).trans (by rw [k1])
      refine lv_istore (lv' := [(4, .int v9), (0, .ref (ad 0)), (1, .long w), (3, .int n)]) hx hb dX10_feed_34 hl (by decide) rfl (fun ls hl => ?_)
      refine st_loop 36 (fun _ => []) (fun (z : Int32 × (Nat → Int32) × Int32) (ls : Array Slot) (H : Heap) (locs : List Loc) => match z with | (k, tq, ln) => (-1 ≤ k.toInt) ∧ (k.toInt < n.toInt) ∧ (ln.toInt = n.toInt - 1 - k.toInt) ∧ lv_has ls 5 [(0, .ref (ad 0)), (1, .long w), (3, .int n), (4, .int k)] ∧ va_P D vwCl [((ad 0), .inr (10, [.ref (ad 1), .ref (ad 2), .ref (ad 3), .ref (ad 4), .ref (ad 5), .ref (ad 6), .ref (ad 7), .ref (ad 8), .ref (ad 9), .ref (ad 10), .ref (ad 11), .int 0, .int 0, .int 0])), ((ad 6), .inr (2, [.ref (ad 47), .int ln, .int 0, .ref (ad 48), .ref (ad 49), .ref (ad 50), .int 0, .ref (ad 51), .ref (ad 52), .ref (ad 53), .int 0, .int 0, .int 0, .int 0, .int 0])), ((ad 47), .inl (cY, 300, .inl tq))] H ∧ va_D A [((ad 0), .inr (10, [.ref (ad 1), .ref (ad 2), .ref (ad 3), .ref (ad 4), .ref (ad 5), .ref (ad 6), .ref (ad 7), .ref (ad 8), .ref (ad 9), .ref (ad 10), .ref (ad 11), .int 0, .int 0, .int 0])), ((ad 6), .inr (2, [.ref (ad 47), .int ln, .int 0, .ref (ad 48), .ref (ad 49), .ref (ad 50), .int 0, .ref (ad 51), .ref (ad 52), .ref (ad 53), .int 0, .int 0, .int 0, .int 0, .int 0])), ((ad 47), .inl (cY, 300, .inl tq))] ∧ va_S A s.heap H locs) (fun (z : Int32 × (Nat → Int32) × Int32) => match z with | (k, tq, ln) => k.toInt + 1) ?_ ?_ (v9, tp, (0 : Int32)) ⟨(by omega), (by omega), (by omega), lv_sub hl [1, 2, 3, 0] rfl, hP, hD, hS⟩
      · rintro ⟨k, tq, ln⟩ ls H locs ⟨g10, g11, g12, hl, hP, hD, hS⟩
        show (0 : Int) ≤ k.toInt + 1
        omega
      · rintro n15 ih13 ⟨k, tq, ln⟩ ls H locs ⟨g10, g11, g12, hl, hP, hD, hS⟩ hm14
        have hm14 : k.toInt + 1 < (n15 : Int) + 1 := hm14
        replace hl : lv_has ls 5 [(0, .ref (ad 0)), (1, .long w), (3, .int n), (4, .int k)] := hl
        replace hP : va_P D vwCl [((ad 0), .inr (10, [.ref (ad 1), .ref (ad 2), .ref (ad 3), .ref (ad 4), .ref (ad 5), .ref (ad 6), .ref (ad 7), .ref (ad 8), .ref (ad 9), .ref (ad 10), .ref (ad 11), .int 0, .int 0, .int 0])), ((ad 6), .inr (2, [.ref (ad 47), .int ln, .int 0, .ref (ad 48), .ref (ad 49), .ref (ad 50), .int 0, .ref (ad 51), .ref (ad 52), .ref (ad 53), .int 0, .int 0, .int 0, .int 0, .int 0])), ((ad 47), .inl (cY, 300, .inl tq))] H := hP
        replace hD : va_D A [((ad 0), .inr (10, [.ref (ad 1), .ref (ad 2), .ref (ad 3), .ref (ad 4), .ref (ad 5), .ref (ad 6), .ref (ad 7), .ref (ad 8), .ref (ad 9), .ref (ad 10), .ref (ad 11), .int 0, .int 0, .int 0])), ((ad 6), .inr (2, [.ref (ad 47), .int ln, .int 0, .ref (ad 48), .ref (ad 49), .ref (ad 50), .int 0, .ref (ad 51), .ref (ad 52), .ref (ad 53), .int 0, .int 0, .int 0, .int 0, .int 0])), ((ad 47), .inl (cY, 300, .inl tq))] := hD
        show W _ _ _ _ _ _ _ _ _ _ _ _ _ _ _ (F0 m 36 ls [])
        refine lv_iload hx hb dX10_feed_36 (lv_at hl 3 rfl) ?_
        refine lv_if_lt (tgt := 63) hx hb dX10_feed_38 (by decide) (fun c16 => ?_) (fun c16 => ?_)
        · skip
          have f17 := i_lt c16
          refine lv_aload_n hx hb dX10_feed_63 rfl (lv_at hl 0 rfl) ?_
          refine va_get (D := D) (ci := 10) (v := .ref (ad 6)) (C := RX10) (T := TX10) (N := 14) hx hb hts (by decide +kernel) hown hK hP 0 rfl rfl 5 (by decide) (hts (.fieldLink RX10 47 "PortRooms" "duties" "LPortRooms$Duties;") (by decide +kernel)) (fun _ h9 => h9) rfl dX10_feed_64 ?_
          refine va_get (D := D) (ci := 2) (v := .int ln) (C := RX2) (T := TX2) (N := 15) hx hb hts (by decide +kernel) hown hK hP 1 rfl rfl 1 (by decide) (hts (.fieldLink RX10 213 "PortRooms$Duties" "length" "I") (by decide +kernel)) (fun _ h9 => h9) rfl dX10_feed_67 ?_
          have hP9 := hP.sub (ws' := []) [] rfl
          have hD9 := hD.sub (ws' := []) [] (by decide) rfl
          exact W.iret (v := ln) hx hb hr (fun t ht hW => ⟨⟨ln, (), rfl, (i_of (by unfold an_feed; (repeat' split) <;> omega)), by rw [ht]; exact hP9, va_K.moved hW.alike hK, hD9⟩, hS.F ht⟩) hS.2.2 dX10_feed_70
        · skip
          have f18 := i_nlt c16
          refine lv_aload_n hx hb dX10_feed_41 rfl (lv_at hl 0 rfl) ?_
          refine va_get (D := D) (ci := 10) (v := .ref (ad 6)) (C := RX10) (T := TX10) (N := 14) hx hb hts (by decide +kernel) hown hK hP 0 rfl rfl 5 (by decide) (hts (.fieldLink RX10 47 "PortRooms" "duties" "LPortRooms$Duties;") (by decide +kernel)) (fun _ h9 => h9) rfl dX10_feed_42 ?_
          refine lv_lload_n hx hb dX10_feed_45 rfl (lv_at hl 1 rfl) ?_
          refine lv_bipush (v := 8) hx hb dX10_feed_46 (by decide) ?_
          refine lv_iload hx hb dX10_feed_48 (lv_at hl 3 rfl) ?_
          refine lv_imul hx hb dX10_feed_50 ?_
          refine lv_topi (fun v19 ev19 => ?_)
          refine lv_lushr hx hb dX10_feed_51 rfl ?_
          refine lv_topl (fun z20 ez20 => ?_)
          refine lv_l2i hx hb dX10_feed_52 rfl ?_
          refine lv_topi (fun v21 ev21 => ?_)
          refine lv_i2b hx hb dX10_feed_53 rfl ?_
          refine lv_topi (fun v22 ev22 => ?_)
          refine st_v (wr := [((ad 0), .inr (10, [.ref (ad 1), .ref (ad 2), .ref (ad 3), .ref (ad 4), .ref (ad 5), .ref (ad 6), .ref (ad 7), .ref (ad 8), .ref (ad 9), .ref (ad 10), .ref (ad 11), .int 0, .int 0, .int 0]))]) (va_runV (C := RX2) (As := [.int v22]) (rest := []) ⟨hx, hb, hml, hown, hts⟩ (ct_X2_take l D cI cY cJ cQ _ ad ln v22 tq (by omega) (by omega)) (cwV 1 hts gX10_feed_X2_take rfl rfl rfl (by decide +kernel) ⟨Nat.le_of_ble_eq_true rfl, Nat.le_of_ble_eq_true rfl⟩) (cPreV (hP.sub [1, 2] rfl) hK (hD.sub [1, 2] (by decide) rfl) hN (ci := 2) (q0 := 0) rfl rfl) rfl rfl hl.1 rfl (lv_room (Nat.le_of_ble_eq_true rfl)) dX10_feed_54 ⟨Nat.le_of_ble_eq_true rfl, Nat.le_of_ble_eq_true rfl⟩) hP hD hS hA [1, 2] [0] rfl rfl (by decide) (by decide) (fun u23 H locs hw24 hP hD hS => ?_)
          obtain ⟨len26, tp27⟩ := u23
          replace hw24 : len26.toInt = ln.toInt + 1 := hw24
          replace hP : va_P D vwCl [((ad 0), .inr (10, [.ref (ad 1), .ref (ad 2), .ref (ad 3), .ref (ad 4), .ref (ad 5), .ref (ad 6), .ref (ad 7), .ref (ad 8), .ref (ad 9), .ref (ad 10), .ref (ad 11), .int 0, .int 0, .int 0])), ((ad 6), .inr (2, [.ref (ad 47), .int len26, .int 0, .ref (ad 48), .ref (ad 49), .ref (ad 50), .int 0, .ref (ad 51), .ref (ad 52), .ref (ad 53), .int 0, .int 0, .int 0, .int 0, .int 0])), ((ad 47), .inl (cY, 300, .inl tp27))] H := hP
          replace hD : va_D A [((ad 0), .inr (10, [.ref (ad 1), .ref (ad 2), .ref (ad 3), .ref (ad 4), .ref (ad 5), .ref (ad 6), .ref (ad 7), .ref (ad 8), .ref (ad 9), .ref (ad 10), .ref (ad 11), .int 0, .int 0, .int 0])), ((ad 6), .inr (2, [.ref (ad 47), .int len26, .int 0, .ref (ad 48), .ref (ad 49), .ref (ad 50), .int 0, .ref (ad 51), .ref (ad 52), .ref (ad 53), .int 0, .int 0, .int 0, .int 0, .int 0])), ((ad 47), .inl (cY, 300, .inl tp27))] := hD
          obtain ⟨v28, ev28⟩ : ∃ y : Int32, y = k + (-1) := ⟨_, rfl⟩
          have tv28 : v28.toInt = k.toInt + (-1) := by rw [ev28]; exact (i_add (x := k) (y := ((-1) : Int32)) (by rw [km1]; omega) (by rw [km1]; omega)).trans (by rw [km1])
          refine lv_iinc (v := v28) (lv' := [(4, .int v28), (0, .ref (ad 0)), (1, .long w), (3, .int n)]) hx hb dX10_feed_57 hl (k := 3) rfl (by rw [ev28]; rfl) (by decide) rfl (fun ls hl => ?_)
          refine lv_goto (tgt := 36) hx hb dX10_feed_60 (by decide) ?_
          exact ih13 (v28, tp27, len26) ls H locs ⟨(by omega), (by omega), (by omega), lv_sub hl [1, 2, 3, 0] rfl, hP.sub [0, 1, 2] rfl, hD.sub [0, 1, 2] (by decide) rfl, hS⟩ (by show v28.toInt + 1 < _; omega)
    · skip
      have f29 := i_nle c7
      refine lv_ldc hx hb hown (hts (.constant RX10 145 (-1000003)) (by decide +kernel)) dX10_feed_28 ?_
      have hP9 := hP.sub (ws' := []) [] rfl
      have hD9 := hD.sub (ws' := []) [] (by decide) rfl
      exact W.iret (v := (-1000003)) hx hb hr (fun t ht hW => ⟨⟨(-1000003), (), rfl, (i_of (by unfold an_feed; (repeat' split) <;> omega)), by rw [ht]; exact hP9, va_K.moved hW.alike hK, hD9⟩, hS.F ht⟩) hS.2.2 dX10_feed_30
  · skip
    have f30 := bo_f hw2 c4
    refine lv_ldc hx hb hown (hts (.constant RX10 89 (-1000001)) (by decide +kernel)) dX10_feed_10 ?_
    have hP9 := hP.sub (ws' := []) [] rfl
    have hD9 := hD.sub (ws' := []) [] (by decide) rfl
    exact W.iret (v := (-1000001)) hx hb hr (fun t ht hW => ⟨⟨(-1000001), (), rfl, (i_of (by unfold an_feed; (repeat' split) <;> omega)), by rw [ht]; exact hP9, va_K.moved hW.alike hK, hD9⟩, hS.F ht⟩) hS.2.2 dX10_feed_12

set_option maxHeartbeats 4000000 in
set_option maxRecDepth 100000 in
theorem ct_X2_next (l : Launch) (D : va_G) (cI cY cJ cQ : ClassId) (sz : Nat) (ad : Nat → Nat)   : Met l yX2_next wsX2_next ({ frames := 0, cells := 0, slots := 0, locals := 0 }) (cPre D (ty4 cI cY cJ cQ) [((ad 6), .inr (2, [.ref (ad 47), .int 0, .int 0, .ref (ad 48), .ref (ad 49), .ref (ad 50), .int 0, .ref (ad 51), .ref (ad 52), .ref (ad 53), .int 0, .int 0, .int 0, .int 0, .int 0]))] sz [.ref (ad 6)]) (va_Qv (fun (u : Unit) => True) (cB D (ty4 cI cY cJ cQ) (fun (u : Unit) => [((ad 6), .inr (2, [.ref (ad 47), .int 0, .int 0, .ref (ad 48), .ref (ad 49), .ref (ad 50), .int 0, .ref (ad 51), .ref (ad 52), .ref (ad 53), .int 0, .int 0, .int 0, .int 8, .int 0]))]) (va_A [((ad 6), .inr (2, [.ref (ad 47), .int 0, .int 0, .ref (ad 48), .ref (ad 49), .ref (ad 50), .int 0, .ref (ad 51), .ref (ad 52), .ref (ad 53), .int 0, .int 0, .int 0, .int 0, .int 0]))] sz)) (va_A [((ad 6), .inr (2, [.ref (ad 47), .int 0, .int 0, .ref (ad 48), .ref (ad 49), .ref (ad 50), .int 0, .ref (ad 51), .ref (ad 52), .ref (ad 53), .int 0, .int 0, .int 0, .int 0, .int 0]))] sz)) 0 0 (va_A [((ad 6), .inr (2, [.ref (ad 47), .int 0, .int 0, .ref (ad 48), .ref (ad 49), .ref (ad 50), .int 0, .ref (ad 51), .ref (ad 52), .ref (ad 53), .int 0, .int 0, .int 0, .int 0, .int 0]))] sz) := by
  refine Met.ofW (cc := cX2_next) (maxL := 1) (ret := none) (by decide) rfl ?_
  intro p e s m args below meth c s₁ B hml hv
  obtain ⟨rfl, hsz, hP, hK, hD0, hN⟩ := hv
  have hx := B.exec
  have hb := B.bytes
  have hr := B.returns
  have hts := atoms_spec (ws := wsX2_next) B.pre
  have hown : s.vm.findClass RX2 = some m.cls := findClass_of_methodNamed B.named
  have hlocks := B.notSynchronized
  subst hsz
  have hD := hD0.self (sz := s.heap.size)
  generalize hAe : va_A [((ad 6), .inr (2, [.ref (ad 47), .int 0, .int 0, .ref (ad 48), .ref (ad 49), .ref (ad 50), .int 0, .ref (ad 51), .ref (ad 52), .ref (ad 53), .int 0, .int 0, .int 0, .int 0, .int 0]))] s.heap.size = A at hD ⊢
  have hA : ∀ q : Nat, s.heap.size ≤ q → A q := fun q h => by rw [← hAe]; exact Or.inr h
  have hS : va_S A s.heap s.heap [] := va_S.rf
  have hP : va_P D vwCl [((ad 6), .inr (2, [.ref (ad 47), .int 0, .int 0, .ref (ad 48), .ref (ad 49), .ref (ad 50), .int 0, .ref (ad 51), .ref (ad 52), .ref (ad 53), .int 0, .int 0, .int 0, .int 0, .int 0]))] s.heap := hP
  have hl := lv_entry ([.ref (ad 6)]) (n := 1) (Nat.le_of_ble_eq_true rfl)
  rw [lg_entry_eq]
  generalize (lg_sl ([.ref (ad 6)]) ++ List.replicate (1 - (lg_sl ([.ref (ad 6)])).length) Slot.unset).toArray = ls at hl ⊢
  have hl : lv_has ls 1 [(0, .ref (ad 6))] := hl
  refine lv_aload_n hx hb dX2_next_0 rfl (lv_at hl 0 rfl) ?_
  refine lv_aload_n hx hb dX2_next_1 rfl (lv_at hl 0 rfl) ?_
  refine va_get (D := D) (ci := 2) (v := .int 0) (C := RX2) (T := TX2) (N := 15) hx hb hts (by decide +kernel) hown hK hP 0 rfl rfl 12 (by decide) (hts (.fieldLink RX2 38 "PortRooms$Duties" "end" "I") (by decide +kernel)) (fun _ h9 => h9) rfl dX2_next_2 ?_
  refine va_put (D := D) (ci := 2) (v := .int 0) (ty := .int) (C := RX2) (T := TX2) (N := 15) hx hb hts (by decide +kernel) tyX2 tyX2_ok nmX2 hown hK hP hD hS 0 rfl rfl 11 (by decide) (hts (.fieldLink RX2 61 "PortRooms$Duties" "start" "I") (by decide +kernel)) (fun _ h9 => h9) rfl (by decide +kernel) rfl rfl (Nat.le_of_ble_eq_true rfl) dX2_next_5 (fun H locs hP hD hS => ?_)
  replace hP : va_P D vwCl [((ad 6), .inr (2, [.ref (ad 47), .int 0, .int 0, .ref (ad 48), .ref (ad 49), .ref (ad 50), .int 0, .ref (ad 51), .ref (ad 52), .ref (ad 53), .int 0, .int 0, .int 0, .int 0, .int 0]))] H := hP
  replace hD : va_D A [((ad 6), .inr (2, [.ref (ad 47), .int 0, .int 0, .ref (ad 48), .ref (ad 49), .ref (ad 50), .int 0, .ref (ad 51), .ref (ad 52), .ref (ad 53), .int 0, .int 0, .int 0, .int 0, .int 0]))] := hD
  refine lv_aload_n hx hb dX2_next_8 rfl (lv_at hl 0 rfl) ?_
  refine va_get (D := D) (ci := 2) (v := .int 0) (C := RX2) (T := TX2) (N := 15) hx hb hts (by decide +kernel) hown hK hP 0 rfl rfl 11 (by decide) (hts (.fieldLink RX2 61 "PortRooms$Duties" "start" "I") (by decide +kernel)) (fun _ h9 => h9) rfl dX2_next_9 ?_
  refine lv_aload_n hx hb dX2_next_12 rfl (lv_at hl 0 rfl) ?_
  refine va_get (D := D) (ci := 2) (v := .int 0) (C := RX2) (T := TX2) (N := 15) hx hb hts (by decide +kernel) hown hK hP 0 rfl rfl 1 (by decide) (hts (.fieldLink RX2 34 "PortRooms$Duties" "length" "I") (by decide +kernel)) (fun _ h9 => h9) rfl dX2_next_13 ?_
  refine lv_icmp_ge (tgt := 60) hx hb dX2_next_16 (by decide) (fun _ => ?_) (fun c => absurd (by decide) c)
  refine lv_aload_n hx hb dX2_next_60 rfl (lv_at hl 0 rfl) ?_
  refine lv_aload_n hx hb dX2_next_61 rfl (lv_at hl 0 rfl) ?_
  refine va_get (D := D) (ci := 2) (v := .int 0) (C := RX2) (T := TX2) (N := 15) hx hb hts (by decide +kernel) hown hK hP 0 rfl rfl 11 (by decide) (hts (.fieldLink RX2 61 "PortRooms$Duties" "start" "I") (by decide +kernel)) (fun _ h9 => h9) rfl dX2_next_62 ?_
  refine va_put (D := D) (ci := 2) (v := .int 0) (ty := .int) (C := RX2) (T := TX2) (N := 15) hx hb hts (by decide +kernel) tyX2 tyX2_ok nmX2 hown hK hP hD hS 0 rfl rfl 12 (by decide) (hts (.fieldLink RX2 38 "PortRooms$Duties" "end" "I") (by decide +kernel)) (fun _ h9 => h9) rfl (by decide +kernel) rfl rfl (Nat.le_of_ble_eq_true rfl) dX2_next_65 (fun H locs hP hD hS => ?_)
  replace hP : va_P D vwCl [((ad 6), .inr (2, [.ref (ad 47), .int 0, .int 0, .ref (ad 48), .ref (ad 49), .ref (ad 50), .int 0, .ref (ad 51), .ref (ad 52), .ref (ad 53), .int 0, .int 0, .int 0, .int 0, .int 0]))] H := hP
  replace hD : va_D A [((ad 6), .inr (2, [.ref (ad 47), .int 0, .int 0, .ref (ad 48), .ref (ad 49), .ref (ad 50), .int 0, .ref (ad 51), .ref (ad 52), .ref (ad 53), .int 0, .int 0, .int 0, .int 0, .int 0]))] := hD
  refine lv_aload_n hx hb dX2_next_68 rfl (lv_at hl 0 rfl) ?_
  refine va_get (D := D) (ci := 2) (v := .int 0) (C := RX2) (T := TX2) (N := 15) hx hb hts (by decide +kernel) hown hK hP 0 rfl rfl 11 (by decide) (hts (.fieldLink RX2 61 "PortRooms$Duties" "start" "I") (by decide +kernel)) (fun _ h9 => h9) rfl dX2_next_69 ?_
  refine lv_aload_n hx hb dX2_next_72 rfl (lv_at hl 0 rfl) ?_
  refine va_get (D := D) (ci := 2) (v := .int 0) (C := RX2) (T := TX2) (N := 15) hx hb hts (by decide +kernel) hown hK hP 0 rfl rfl 1 (by decide) (hts (.fieldLink RX2 34 "PortRooms$Duties" "length" "I") (by decide +kernel)) (fun _ h9 => h9) rfl dX2_next_73 ?_
  refine lv_icmp_lt (tgt := 88) hx hb dX2_next_76 (by decide) (fun c => absurd c (by decide)) (fun _ => ?_)
  refine lv_aload_n hx hb dX2_next_79 rfl (lv_at hl 0 rfl) ?_
  refine lv_bipush (v := 8) hx hb dX2_next_80 (by decide) ?_
  refine va_put (D := D) (ci := 2) (v := .int 8) (ty := .int) (C := RX2) (T := TX2) (N := 15) hx hb hts (by decide +kernel) tyX2 tyX2_ok nmX2 hown hK hP hD hS 0 rfl rfl 13 (by decide) (hts (.fieldLink RX2 47 "PortRooms$Duties" "token" "I") (by decide +kernel)) (fun _ h9 => h9) rfl (by decide +kernel) rfl rfl (Nat.le_of_ble_eq_true rfl) dX2_next_82 (fun H locs hP hD hS => ?_)
  replace hP : va_P D vwCl [((ad 6), .inr (2, [.ref (ad 47), .int 0, .int 0, .ref (ad 48), .ref (ad 49), .ref (ad 50), .int 0, .ref (ad 51), .ref (ad 52), .ref (ad 53), .int 0, .int 0, .int 0, .int 8, .int 0]))] H := hP
  replace hD : va_D A [((ad 6), .inr (2, [.ref (ad 47), .int 0, .int 0, .ref (ad 48), .ref (ad 49), .ref (ad 50), .int 0, .ref (ad 51), .ref (ad 52), .ref (ad 53), .int 0, .int 0, .int 0, .int 8, .int 0]))] := hD
  refine lv_goto (tgt := 186) hx hb dX2_next_85 (by decide) ?_
  have hP9 := hP.sub (ws' := [((ad 6), .inr (2, [.ref (ad 47), .int 0, .int 0, .ref (ad 48), .ref (ad 49), .ref (ad 50), .int 0, .ref (ad 51), .ref (ad 52), .ref (ad 53), .int 0, .int 0, .int 0, .int 8, .int 0]))]) [0] rfl
  have hD9 := hD.sub (ws' := [((ad 6), .inr (2, [.ref (ad 47), .int 0, .int 0, .ref (ad 48), .ref (ad 49), .ref (ad 50), .int 0, .ref (ad 51), .ref (ad 52), .ref (ad 53), .int 0, .int 0, .int 0, .int 8, .int 0]))]) [0] (by decide) rfl
  exact W.vret hx hb hr (fun t ht hW => ⟨⟨(), rfl, trivial, by rw [ht]; exact hP9, va_K.moved hW.alike hK, hD9⟩, hS.F ht⟩) hS.2.2 dX2_next_186

set_option maxHeartbeats 4000000 in
set_option maxRecDepth 100000 in
theorem ct_X2_keepDraft (l : Launch) (D : va_G) (cI cY cJ cQ : ClassId) (sz : Nat) (ad : Nat → Nat)   : Met l yX2_keepDraft wsX2_keepDraft ({ frames := 1, cells := 0, slots := 0, locals := 40 }) (cPre D (ty4 cI cY cJ cQ) [((ad 6), .inr (2, [.ref (ad 47), .int 0, .int 0, .ref (ad 48), .ref (ad 49), .ref (ad 50), .int 0, .ref (ad 51), .ref (ad 52), .ref (ad 53), .int 0, .int 0, .int 0, .int 8, .int 0])), ((ad 48), .inl (cI, 12, .inl (fun _ => 0))), ((ad 49), .inl (cI, 12, .inl (fun _ => 0))), ((ad 50), .inl (cI, 12, .inl (fun _ => 0))), ((ad 51), .inl (cI, 12, .inl (fun _ => 0))), ((ad 52), .inl (cI, 12, .inl (fun _ => 0))), ((ad 53), .inl (cI, 12, .inl (fun _ => 0)))] sz [.ref (ad 6)]) (va_Qv (fun (u : Unit) => True) (cB D (ty4 cI cY cJ cQ) (fun (u : Unit) => [((ad 6), .inr (2, [.ref (ad 47), .int 0, .int 0, .ref (ad 48), .ref (ad 49), .ref (ad 50), .int 0, .ref (ad 51), .ref (ad 52), .ref (ad 53), .int 0, .int 0, .int 0, .int 8, .int 0])), ((ad 48), .inl (cI, 12, .inl (fun _ => 0))), ((ad 49), .inl (cI, 12, .inl (fun _ => 0))), ((ad 50), .inl (cI, 12, .inl (fun _ => 0))), ((ad 51), .inl (cI, 12, .inl (fun _ => 0))), ((ad 52), .inl (cI, 12, .inl (fun _ => 0))), ((ad 53), .inl (cI, 12, .inl (fun _ => 0)))]) (va_A [((ad 6), .inr (2, [.ref (ad 47), .int 0, .int 0, .ref (ad 48), .ref (ad 49), .ref (ad 50), .int 0, .ref (ad 51), .ref (ad 52), .ref (ad 53), .int 0, .int 0, .int 0, .int 8, .int 0])), ((ad 48), .inl (cI, 12, .inl (fun _ => 0))), ((ad 49), .inl (cI, 12, .inl (fun _ => 0))), ((ad 50), .inl (cI, 12, .inl (fun _ => 0))), ((ad 51), .inl (cI, 12, .inl (fun _ => 0))), ((ad 52), .inl (cI, 12, .inl (fun _ => 0))), ((ad 53), .inl (cI, 12, .inl (fun _ => 0)))] sz)) (va_A [((ad 6), .inr (2, [.ref (ad 47), .int 0, .int 0, .ref (ad 48), .ref (ad 49), .ref (ad 50), .int 0, .ref (ad 51), .ref (ad 52), .ref (ad 53), .int 0, .int 0, .int 0, .int 8, .int 0])), ((ad 48), .inl (cI, 12, .inl (fun _ => 0))), ((ad 49), .inl (cI, 12, .inl (fun _ => 0))), ((ad 50), .inl (cI, 12, .inl (fun _ => 0))), ((ad 51), .inl (cI, 12, .inl (fun _ => 0))), ((ad 52), .inl (cI, 12, .inl (fun _ => 0))), ((ad 53), .inl (cI, 12, .inl (fun _ => 0)))] sz)) 0 0 (va_A [((ad 6), .inr (2, [.ref (ad 47), .int 0, .int 0, .ref (ad 48), .ref (ad 49), .ref (ad 50), .int 0, .ref (ad 51), .ref (ad 52), .ref (ad 53), .int 0, .int 0, .int 0, .int 8, .int 0])), ((ad 48), .inl (cI, 12, .inl (fun _ => 0))), ((ad 49), .inl (cI, 12, .inl (fun _ => 0))), ((ad 50), .inl (cI, 12, .inl (fun _ => 0))), ((ad 51), .inl (cI, 12, .inl (fun _ => 0))), ((ad 52), .inl (cI, 12, .inl (fun _ => 0))), ((ad 53), .inl (cI, 12, .inl (fun _ => 0)))] sz) := by
  refine Met.ofW (cc := cX2_keepDraft) (maxL := 1) (ret := none) (by decide) rfl ?_
  intro p e s m args below meth c s₁ B hml hv
  obtain ⟨rfl, hsz, hP, hK, hD0, hN⟩ := hv
  have hx := B.exec
  have hb := B.bytes
  have hr := B.returns
  have hts := atoms_spec (ws := wsX2_keepDraft) B.pre
  have hown : s.vm.findClass RX2 = some m.cls := findClass_of_methodNamed B.named
  have hlocks := B.notSynchronized
  subst hsz
  have hD := hD0.self (sz := s.heap.size)
  generalize hAe : va_A [((ad 6), .inr (2, [.ref (ad 47), .int 0, .int 0, .ref (ad 48), .ref (ad 49), .ref (ad 50), .int 0, .ref (ad 51), .ref (ad 52), .ref (ad 53), .int 0, .int 0, .int 0, .int 8, .int 0])), ((ad 48), .inl (cI, 12, .inl (fun _ => 0))), ((ad 49), .inl (cI, 12, .inl (fun _ => 0))), ((ad 50), .inl (cI, 12, .inl (fun _ => 0))), ((ad 51), .inl (cI, 12, .inl (fun _ => 0))), ((ad 52), .inl (cI, 12, .inl (fun _ => 0))), ((ad 53), .inl (cI, 12, .inl (fun _ => 0)))] s.heap.size = A at hD ⊢
  have hA : ∀ q : Nat, s.heap.size ≤ q → A q := fun q h => by rw [← hAe]; exact Or.inr h
  have hS : va_S A s.heap s.heap [] := va_S.rf
  have hP : va_P D vwCl [((ad 6), .inr (2, [.ref (ad 47), .int 0, .int 0, .ref (ad 48), .ref (ad 49), .ref (ad 50), .int 0, .ref (ad 51), .ref (ad 52), .ref (ad 53), .int 0, .int 0, .int 0, .int 8, .int 0])), ((ad 48), .inl (cI, 12, .inl (fun _ => 0))), ((ad 49), .inl (cI, 12, .inl (fun _ => 0))), ((ad 50), .inl (cI, 12, .inl (fun _ => 0))), ((ad 51), .inl (cI, 12, .inl (fun _ => 0))), ((ad 52), .inl (cI, 12, .inl (fun _ => 0))), ((ad 53), .inl (cI, 12, .inl (fun _ => 0)))] s.heap := hP
  have hl := lv_entry ([.ref (ad 6)]) (n := 1) (Nat.le_of_ble_eq_true rfl)
  rw [lg_entry_eq]
  generalize (lg_sl ([.ref (ad 6)]) ++ List.replicate (1 - (lg_sl ([.ref (ad 6)])).length) Slot.unset).toArray = ls at hl ⊢
  have hl : lv_has ls 1 [(0, .ref (ad 6))] := hl
  refine lv_aload_n hx hb dX2_keepDraft_0 rfl (lv_at hl 0 rfl) ?_
  refine va_get (D := D) (ci := 2) (v := .ref (ad 51)) (C := RX2) (T := TX2) (N := 15) hx hb hts (by decide +kernel) hown hK hP 0 rfl rfl 7 (by decide) (hts (.fieldLink RX2 25 "PortRooms$Duties" "draftWhat" "[I") (by decide +kernel)) (fun _ h9 => h9) rfl dX2_keepDraft_1 ?_
  refine lv_iconst (v := 0) hx hb dX2_keepDraft_4 (by decide) ?_
  refine lv_aload_n hx hb dX2_keepDraft_5 rfl (lv_at hl 0 rfl) ?_
  refine va_get (D := D) (ci := 2) (v := .ref (ad 48)) (C := RX2) (T := TX2) (N := 15) hx hb hts (by decide +kernel) hown hK hP 0 rfl rfl 3 (by decide) (hts (.fieldLink RX2 15 "PortRooms$Duties" "what" "[I") (by decide +kernel)) (fun _ h9 => h9) rfl dX2_keepDraft_6 ?_
  refine lv_iconst (v := 0) hx hb dX2_keepDraft_9 (by decide) ?_
  refine lv_aload_n hx hb dX2_keepDraft_10 rfl (lv_at hl 0 rfl) ?_
  refine va_get (D := D) (ci := 2) (v := .int 0) (C := RX2) (T := TX2) (N := 15) hx hb hts (by decide +kernel) hown hK hP 0 rfl rfl 10 (by decide) (hts (.fieldLink RX2 41 "PortRooms$Duties" "drafted" "I") (by decide +kernel)) (fun _ h9 => h9) rfl dX2_keepDraft_11 ?_
  refine va_copyi hx hb (hml.trans hl.1.symm) hown (hts (.methodLink RX2 70 arraycopyName) (by decide +kernel)) (hts (.native arraycopyName) (by decide +kernel)) (hts (.static arraycopyName) (by decide +kernel)) (hts (.initialized "java/lang/System") (by decide +kernel)) hK hP hD hS 4 1 0 0 rfl rfl rfl rfl rfl (by decide) (by decide) (by decide) (by decide) (by decide) (fun _ _ => rfl) (Nat.le_of_ble_eq_true rfl) (Nat.le_of_ble_eq_true rfl) dX2_keepDraft_14 (fun H locs hP hD hS => ?_)
  replace hP : va_P D vwCl [((ad 6), .inr (2, [.ref (ad 47), .int 0, .int 0, .ref (ad 48), .ref (ad 49), .ref (ad 50), .int 0, .ref (ad 51), .ref (ad 52), .ref (ad 53), .int 0, .int 0, .int 0, .int 8, .int 0])), ((ad 48), .inl (cI, 12, .inl (va_cpy (fun _ => 0) (fun _ => 0) ((0 : Int32).toNatClampNeg) ((0 : Int32).toNatClampNeg) ((0 : Int32).toNatClampNeg)))), ((ad 49), .inl (cI, 12, .inl (fun _ => 0))), ((ad 50), .inl (cI, 12, .inl (fun _ => 0))), ((ad 51), .inl (cI, 12, .inl (fun _ => 0))), ((ad 52), .inl (cI, 12, .inl (fun _ => 0))), ((ad 53), .inl (cI, 12, .inl (fun _ => 0)))] H := hP
  replace hD : va_D A [((ad 6), .inr (2, [.ref (ad 47), .int 0, .int 0, .ref (ad 48), .ref (ad 49), .ref (ad 50), .int 0, .ref (ad 51), .ref (ad 52), .ref (ad 53), .int 0, .int 0, .int 0, .int 8, .int 0])), ((ad 48), .inl (cI, 12, .inl (va_cpy (fun _ => 0) (fun _ => 0) ((0 : Int32).toNatClampNeg) ((0 : Int32).toNatClampNeg) ((0 : Int32).toNatClampNeg)))), ((ad 49), .inl (cI, 12, .inl (fun _ => 0))), ((ad 50), .inl (cI, 12, .inl (fun _ => 0))), ((ad 51), .inl (cI, 12, .inl (fun _ => 0))), ((ad 52), .inl (cI, 12, .inl (fun _ => 0))), ((ad 53), .inl (cI, 12, .inl (fun _ => 0)))] := hD
  have ec : (va_cpy (fun _ => 0) (fun _ => 0) ((0 : Int32).toNatClampNeg) ((0 : Int32).toNatClampNeg) ((0 : Int32).toNatClampNeg) : Nat → Int32) = (fun (_ : Nat) => (0 : Int32)) := cpy0 _ _ _
  rw [ec] at hP hD
  replace hP : va_P D vwCl [((ad 6), .inr (2, [.ref (ad 47), .int 0, .int 0, .ref (ad 48), .ref (ad 49), .ref (ad 50), .int 0, .ref (ad 51), .ref (ad 52), .ref (ad 53), .int 0, .int 0, .int 0, .int 8, .int 0])), ((ad 48), .inl (cI, 12, .inl (fun _ => 0))), ((ad 49), .inl (cI, 12, .inl (fun _ => 0))), ((ad 50), .inl (cI, 12, .inl (fun _ => 0))), ((ad 51), .inl (cI, 12, .inl (fun _ => 0))), ((ad 52), .inl (cI, 12, .inl (fun _ => 0))), ((ad 53), .inl (cI, 12, .inl (fun _ => 0)))] H := hP
  replace hD : va_D A [((ad 6), .inr (2, [.ref (ad 47), .int 0, .int 0, .ref (ad 48), .ref (ad 49), .ref (ad 50), .int 0, .ref (ad 51), .ref (ad 52), .ref (ad 53), .int 0, .int 0, .int 0, .int 8, .int 0])), ((ad 48), .inl (cI, 12, .inl (fun _ => 0))), ((ad 49), .inl (cI, 12, .inl (fun _ => 0))), ((ad 50), .inl (cI, 12, .inl (fun _ => 0))), ((ad 51), .inl (cI, 12, .inl (fun _ => 0))), ((ad 52), .inl (cI, 12, .inl (fun _ => 0))), ((ad 53), .inl (cI, 12, .inl (fun _ => 0)))] := hD
  refine lv_aload_n hx hb dX2_keepDraft_17 rfl (lv_at hl 0 rfl) ?_
  refine va_get (D := D) (ci := 2) (v := .ref (ad 52)) (C := RX2) (T := TX2) (N := 15) hx hb hts (by decide +kernel) hown hK hP 0 rfl rfl 8 (by decide) (hts (.fieldLink RX2 28 "PortRooms$Duties" "draftDays" "[I") (by decide +kernel)) (fun _ h9 => h9) rfl dX2_keepDraft_18 ?_
  refine lv_iconst (v := 0) hx hb dX2_keepDraft_21 (by decide) ?_
  refine lv_aload_n hx hb dX2_keepDraft_22 rfl (lv_at hl 0 rfl) ?_
  refine va_get (D := D) (ci := 2) (v := .ref (ad 49)) (C := RX2) (T := TX2) (N := 15) hx hb hts (by decide +kernel) hown hK hP 0 rfl rfl 4 (by decide) (hts (.fieldLink RX2 19 "PortRooms$Duties" "days" "[I") (by decide +kernel)) (fun _ h9 => h9) rfl dX2_keepDraft_23 ?_
  refine lv_iconst (v := 0) hx hb dX2_keepDraft_26 (by decide) ?_
  refine lv_aload_n hx hb dX2_keepDraft_27 rfl (lv_at hl 0 rfl) ?_
  refine va_get (D := D) (ci := 2) (v := .int 0) (C := RX2) (T := TX2) (N := 15) hx hb hts (by decide +kernel) hown hK hP 0 rfl rfl 10 (by decide) (hts (.fieldLink RX2 41 "PortRooms$Duties" "drafted" "I") (by decide +kernel)) (fun _ h9 => h9) rfl dX2_keepDraft_28 ?_
  refine va_copyi hx hb (hml.trans hl.1.symm) hown (hts (.methodLink RX2 70 arraycopyName) (by decide +kernel)) (hts (.native arraycopyName) (by decide +kernel)) (hts (.static arraycopyName) (by decide +kernel)) (hts (.initialized "java/lang/System") (by decide +kernel)) hK hP hD hS 5 2 0 0 rfl rfl rfl rfl rfl (by decide) (by decide) (by decide) (by decide) (by decide) (fun _ _ => rfl) (Nat.le_of_ble_eq_true rfl) (Nat.le_of_ble_eq_true rfl) dX2_keepDraft_31 (fun H locs hP hD hS => ?_)
  replace hP : va_P D vwCl [((ad 6), .inr (2, [.ref (ad 47), .int 0, .int 0, .ref (ad 48), .ref (ad 49), .ref (ad 50), .int 0, .ref (ad 51), .ref (ad 52), .ref (ad 53), .int 0, .int 0, .int 0, .int 8, .int 0])), ((ad 48), .inl (cI, 12, .inl (fun _ => 0))), ((ad 49), .inl (cI, 12, .inl (va_cpy (fun _ => 0) (fun _ => 0) ((0 : Int32).toNatClampNeg) ((0 : Int32).toNatClampNeg) ((0 : Int32).toNatClampNeg)))), ((ad 50), .inl (cI, 12, .inl (fun _ => 0))), ((ad 51), .inl (cI, 12, .inl (fun _ => 0))), ((ad 52), .inl (cI, 12, .inl (fun _ => 0))), ((ad 53), .inl (cI, 12, .inl (fun _ => 0)))] H := hP
  replace hD : va_D A [((ad 6), .inr (2, [.ref (ad 47), .int 0, .int 0, .ref (ad 48), .ref (ad 49), .ref (ad 50), .int 0, .ref (ad 51), .ref (ad 52), .ref (ad 53), .int 0, .int 0, .int 0, .int 8, .int 0])), ((ad 48), .inl (cI, 12, .inl (fun _ => 0))), ((ad 49), .inl (cI, 12, .inl (va_cpy (fun _ => 0) (fun _ => 0) ((0 : Int32).toNatClampNeg) ((0 : Int32).toNatClampNeg) ((0 : Int32).toNatClampNeg)))), ((ad 50), .inl (cI, 12, .inl (fun _ => 0))), ((ad 51), .inl (cI, 12, .inl (fun _ => 0))), ((ad 52), .inl (cI, 12, .inl (fun _ => 0))), ((ad 53), .inl (cI, 12, .inl (fun _ => 0)))] := hD
  have ec : (va_cpy (fun _ => 0) (fun _ => 0) ((0 : Int32).toNatClampNeg) ((0 : Int32).toNatClampNeg) ((0 : Int32).toNatClampNeg) : Nat → Int32) = (fun (_ : Nat) => (0 : Int32)) := cpy0 _ _ _
  rw [ec] at hP hD
  replace hP : va_P D vwCl [((ad 6), .inr (2, [.ref (ad 47), .int 0, .int 0, .ref (ad 48), .ref (ad 49), .ref (ad 50), .int 0, .ref (ad 51), .ref (ad 52), .ref (ad 53), .int 0, .int 0, .int 0, .int 8, .int 0])), ((ad 48), .inl (cI, 12, .inl (fun _ => 0))), ((ad 49), .inl (cI, 12, .inl (fun _ => 0))), ((ad 50), .inl (cI, 12, .inl (fun _ => 0))), ((ad 51), .inl (cI, 12, .inl (fun _ => 0))), ((ad 52), .inl (cI, 12, .inl (fun _ => 0))), ((ad 53), .inl (cI, 12, .inl (fun _ => 0)))] H := hP
  replace hD : va_D A [((ad 6), .inr (2, [.ref (ad 47), .int 0, .int 0, .ref (ad 48), .ref (ad 49), .ref (ad 50), .int 0, .ref (ad 51), .ref (ad 52), .ref (ad 53), .int 0, .int 0, .int 0, .int 8, .int 0])), ((ad 48), .inl (cI, 12, .inl (fun _ => 0))), ((ad 49), .inl (cI, 12, .inl (fun _ => 0))), ((ad 50), .inl (cI, 12, .inl (fun _ => 0))), ((ad 51), .inl (cI, 12, .inl (fun _ => 0))), ((ad 52), .inl (cI, 12, .inl (fun _ => 0))), ((ad 53), .inl (cI, 12, .inl (fun _ => 0)))] := hD
  refine lv_aload_n hx hb dX2_keepDraft_34 rfl (lv_at hl 0 rfl) ?_
  refine va_get (D := D) (ci := 2) (v := .ref (ad 53)) (C := RX2) (T := TX2) (N := 15) hx hb hts (by decide +kernel) hown hK hP 0 rfl rfl 9 (by decide) (hts (.fieldLink RX2 31 "PortRooms$Duties" "draftPart" "[I") (by decide +kernel)) (fun _ h9 => h9) rfl dX2_keepDraft_35 ?_
  refine lv_iconst (v := 0) hx hb dX2_keepDraft_38 (by decide) ?_
  refine lv_aload_n hx hb dX2_keepDraft_39 rfl (lv_at hl 0 rfl) ?_
  refine va_get (D := D) (ci := 2) (v := .ref (ad 50)) (C := RX2) (T := TX2) (N := 15) hx hb hts (by decide +kernel) hown hK hP 0 rfl rfl 5 (by decide) (hts (.fieldLink RX2 22 "PortRooms$Duties" "part" "[I") (by decide +kernel)) (fun _ h9 => h9) rfl dX2_keepDraft_40 ?_
  refine lv_iconst (v := 0) hx hb dX2_keepDraft_43 (by decide) ?_
  refine lv_aload_n hx hb dX2_keepDraft_44 rfl (lv_at hl 0 rfl) ?_
  refine va_get (D := D) (ci := 2) (v := .int 0) (C := RX2) (T := TX2) (N := 15) hx hb hts (by decide +kernel) hown hK hP 0 rfl rfl 10 (by decide) (hts (.fieldLink RX2 41 "PortRooms$Duties" "drafted" "I") (by decide +kernel)) (fun _ h9 => h9) rfl dX2_keepDraft_45 ?_
  refine va_copyi hx hb (hml.trans hl.1.symm) hown (hts (.methodLink RX2 70 arraycopyName) (by decide +kernel)) (hts (.native arraycopyName) (by decide +kernel)) (hts (.static arraycopyName) (by decide +kernel)) (hts (.initialized "java/lang/System") (by decide +kernel)) hK hP hD hS 6 3 0 0 rfl rfl rfl rfl rfl (by decide) (by decide) (by decide) (by decide) (by decide) (fun _ _ => rfl) (Nat.le_of_ble_eq_true rfl) (Nat.le_of_ble_eq_true rfl) dX2_keepDraft_48 (fun H locs hP hD hS => ?_)
  replace hP : va_P D vwCl [((ad 6), .inr (2, [.ref (ad 47), .int 0, .int 0, .ref (ad 48), .ref (ad 49), .ref (ad 50), .int 0, .ref (ad 51), .ref (ad 52), .ref (ad 53), .int 0, .int 0, .int 0, .int 8, .int 0])), ((ad 48), .inl (cI, 12, .inl (fun _ => 0))), ((ad 49), .inl (cI, 12, .inl (fun _ => 0))), ((ad 50), .inl (cI, 12, .inl (va_cpy (fun _ => 0) (fun _ => 0) ((0 : Int32).toNatClampNeg) ((0 : Int32).toNatClampNeg) ((0 : Int32).toNatClampNeg)))), ((ad 51), .inl (cI, 12, .inl (fun _ => 0))), ((ad 52), .inl (cI, 12, .inl (fun _ => 0))), ((ad 53), .inl (cI, 12, .inl (fun _ => 0)))] H := hP
  replace hD : va_D A [((ad 6), .inr (2, [.ref (ad 47), .int 0, .int 0, .ref (ad 48), .ref (ad 49), .ref (ad 50), .int 0, .ref (ad 51), .ref (ad 52), .ref (ad 53), .int 0, .int 0, .int 0, .int 8, .int 0])), ((ad 48), .inl (cI, 12, .inl (fun _ => 0))), ((ad 49), .inl (cI, 12, .inl (fun _ => 0))), ((ad 50), .inl (cI, 12, .inl (va_cpy (fun _ => 0) (fun _ => 0) ((0 : Int32).toNatClampNeg) ((0 : Int32).toNatClampNeg) ((0 : Int32).toNatClampNeg)))), ((ad 51), .inl (cI, 12, .inl (fun _ => 0))), ((ad 52), .inl (cI, 12, .inl (fun _ => 0))), ((ad 53), .inl (cI, 12, .inl (fun _ => 0)))] := hD
  have ec : (va_cpy (fun _ => 0) (fun _ => 0) ((0 : Int32).toNatClampNeg) ((0 : Int32).toNatClampNeg) ((0 : Int32).toNatClampNeg) : Nat → Int32) = (fun (_ : Nat) => (0 : Int32)) := cpy0 _ _ _
  rw [ec] at hP hD
  replace hP : va_P D vwCl [((ad 6), .inr (2, [.ref (ad 47), .int 0, .int 0, .ref (ad 48), .ref (ad 49), .ref (ad 50), .int 0, .ref (ad 51), .ref (ad 52), .ref (ad 53), .int 0, .int 0, .int 0, .int 8, .int 0])), ((ad 48), .inl (cI, 12, .inl (fun _ => 0))), ((ad 49), .inl (cI, 12, .inl (fun _ => 0))), ((ad 50), .inl (cI, 12, .inl (fun _ => 0))), ((ad 51), .inl (cI, 12, .inl (fun _ => 0))), ((ad 52), .inl (cI, 12, .inl (fun _ => 0))), ((ad 53), .inl (cI, 12, .inl (fun _ => 0)))] H := hP
  replace hD : va_D A [((ad 6), .inr (2, [.ref (ad 47), .int 0, .int 0, .ref (ad 48), .ref (ad 49), .ref (ad 50), .int 0, .ref (ad 51), .ref (ad 52), .ref (ad 53), .int 0, .int 0, .int 0, .int 8, .int 0])), ((ad 48), .inl (cI, 12, .inl (fun _ => 0))), ((ad 49), .inl (cI, 12, .inl (fun _ => 0))), ((ad 50), .inl (cI, 12, .inl (fun _ => 0))), ((ad 51), .inl (cI, 12, .inl (fun _ => 0))), ((ad 52), .inl (cI, 12, .inl (fun _ => 0))), ((ad 53), .inl (cI, 12, .inl (fun _ => 0)))] := hD
  refine lv_aload_n hx hb dX2_keepDraft_51 rfl (lv_at hl 0 rfl) ?_
  refine lv_aload_n hx hb dX2_keepDraft_52 rfl (lv_at hl 0 rfl) ?_
  refine va_get (D := D) (ci := 2) (v := .int 0) (C := RX2) (T := TX2) (N := 15) hx hb hts (by decide +kernel) hown hK hP 0 rfl rfl 10 (by decide) (hts (.fieldLink RX2 41 "PortRooms$Duties" "drafted" "I") (by decide +kernel)) (fun _ h9 => h9) rfl dX2_keepDraft_53 ?_
  refine va_put (D := D) (ci := 2) (v := .int 0) (ty := .int) (C := RX2) (T := TX2) (N := 15) hx hb hts (by decide +kernel) tyX2 tyX2_ok nmX2 hown hK hP hD hS 0 rfl rfl 6 (by decide) (hts (.fieldLink RX2 67 "PortRooms$Duties" "lines" "I") (by decide +kernel)) (fun _ h9 => h9) rfl (by decide +kernel) rfl rfl (Nat.le_of_ble_eq_true rfl) dX2_keepDraft_56 (fun H locs hP hD hS => ?_)
  replace hP : va_P D vwCl [((ad 6), .inr (2, [.ref (ad 47), .int 0, .int 0, .ref (ad 48), .ref (ad 49), .ref (ad 50), .int 0, .ref (ad 51), .ref (ad 52), .ref (ad 53), .int 0, .int 0, .int 0, .int 8, .int 0])), ((ad 48), .inl (cI, 12, .inl (fun _ => 0))), ((ad 49), .inl (cI, 12, .inl (fun _ => 0))), ((ad 50), .inl (cI, 12, .inl (fun _ => 0))), ((ad 51), .inl (cI, 12, .inl (fun _ => 0))), ((ad 52), .inl (cI, 12, .inl (fun _ => 0))), ((ad 53), .inl (cI, 12, .inl (fun _ => 0)))] H := hP
  replace hD : va_D A [((ad 6), .inr (2, [.ref (ad 47), .int 0, .int 0, .ref (ad 48), .ref (ad 49), .ref (ad 50), .int 0, .ref (ad 51), .ref (ad 52), .ref (ad 53), .int 0, .int 0, .int 0, .int 8, .int 0])), ((ad 48), .inl (cI, 12, .inl (fun _ => 0))), ((ad 49), .inl (cI, 12, .inl (fun _ => 0))), ((ad 50), .inl (cI, 12, .inl (fun _ => 0))), ((ad 51), .inl (cI, 12, .inl (fun _ => 0))), ((ad 52), .inl (cI, 12, .inl (fun _ => 0))), ((ad 53), .inl (cI, 12, .inl (fun _ => 0)))] := hD
  have hP9 := hP.sub (ws' := [((ad 6), .inr (2, [.ref (ad 47), .int 0, .int 0, .ref (ad 48), .ref (ad 49), .ref (ad 50), .int 0, .ref (ad 51), .ref (ad 52), .ref (ad 53), .int 0, .int 0, .int 0, .int 8, .int 0])), ((ad 48), .inl (cI, 12, .inl (fun _ => 0))), ((ad 49), .inl (cI, 12, .inl (fun _ => 0))), ((ad 50), .inl (cI, 12, .inl (fun _ => 0))), ((ad 51), .inl (cI, 12, .inl (fun _ => 0))), ((ad 52), .inl (cI, 12, .inl (fun _ => 0))), ((ad 53), .inl (cI, 12, .inl (fun _ => 0)))]) [0, 1, 2, 3, 4, 5, 6] rfl
  have hD9 := hD.sub (ws' := [((ad 6), .inr (2, [.ref (ad 47), .int 0, .int 0, .ref (ad 48), .ref (ad 49), .ref (ad 50), .int 0, .ref (ad 51), .ref (ad 52), .ref (ad 53), .int 0, .int 0, .int 0, .int 8, .int 0])), ((ad 48), .inl (cI, 12, .inl (fun _ => 0))), ((ad 49), .inl (cI, 12, .inl (fun _ => 0))), ((ad 50), .inl (cI, 12, .inl (fun _ => 0))), ((ad 51), .inl (cI, 12, .inl (fun _ => 0))), ((ad 52), .inl (cI, 12, .inl (fun _ => 0))), ((ad 53), .inl (cI, 12, .inl (fun _ => 0)))]) [0, 1, 2, 3, 4, 5, 6] (by decide) rfl
  exact W.vret hx hb hr (fun t ht hW => ⟨⟨(), rfl, trivial, by rw [ht]; exact hP9, va_K.moved hW.alike hK, hD9⟩, hS.F ht⟩) hS.2.2 dX2_keepDraft_59

set_option maxHeartbeats 4000000 in
set_option maxRecDepth 100000 in
theorem ct_X2_read (l : Launch) (D : va_G) (cI cY cJ cQ : ClassId) (sz : Nat) (ad : Nat → Nat)   : Met l yX2_read wsX2_read ({ frames := 2, cells := 0, slots := 0, locals := 60 }) (cPre D (ty4 cI cY cJ cQ) [((ad 6), .inr (2, [.ref (ad 47), .int 0, .int 0, .ref (ad 48), .ref (ad 49), .ref (ad 50), .int 0, .ref (ad 51), .ref (ad 52), .ref (ad 53), .int 0, .int 0, .int 0, .int 0, .int 0])), ((ad 48), .inl (cI, 12, .inl (fun _ => 0))), ((ad 49), .inl (cI, 12, .inl (fun _ => 0))), ((ad 50), .inl (cI, 12, .inl (fun _ => 0))), ((ad 51), .inl (cI, 12, .inl (fun _ => 0))), ((ad 52), .inl (cI, 12, .inl (fun _ => 0))), ((ad 53), .inl (cI, 12, .inl (fun _ => 0)))] sz [.ref (ad 6)]) (va_Qi (fun (r : Int32) (u : Unit) => r = 0) (cB D (ty4 cI cY cJ cQ) (fun (u : Unit) => []) (va_A [((ad 6), .inr (2, [.ref (ad 47), .int 0, .int 0, .ref (ad 48), .ref (ad 49), .ref (ad 50), .int 0, .ref (ad 51), .ref (ad 52), .ref (ad 53), .int 0, .int 0, .int 0, .int 0, .int 0])), ((ad 48), .inl (cI, 12, .inl (fun _ => 0))), ((ad 49), .inl (cI, 12, .inl (fun _ => 0))), ((ad 50), .inl (cI, 12, .inl (fun _ => 0))), ((ad 51), .inl (cI, 12, .inl (fun _ => 0))), ((ad 52), .inl (cI, 12, .inl (fun _ => 0))), ((ad 53), .inl (cI, 12, .inl (fun _ => 0)))] sz)) (va_A [((ad 6), .inr (2, [.ref (ad 47), .int 0, .int 0, .ref (ad 48), .ref (ad 49), .ref (ad 50), .int 0, .ref (ad 51), .ref (ad 52), .ref (ad 53), .int 0, .int 0, .int 0, .int 0, .int 0])), ((ad 48), .inl (cI, 12, .inl (fun _ => 0))), ((ad 49), .inl (cI, 12, .inl (fun _ => 0))), ((ad 50), .inl (cI, 12, .inl (fun _ => 0))), ((ad 51), .inl (cI, 12, .inl (fun _ => 0))), ((ad 52), .inl (cI, 12, .inl (fun _ => 0))), ((ad 53), .inl (cI, 12, .inl (fun _ => 0)))] sz)) 0 0 (va_A [((ad 6), .inr (2, [.ref (ad 47), .int 0, .int 0, .ref (ad 48), .ref (ad 49), .ref (ad 50), .int 0, .ref (ad 51), .ref (ad 52), .ref (ad 53), .int 0, .int 0, .int 0, .int 0, .int 0])), ((ad 48), .inl (cI, 12, .inl (fun _ => 0))), ((ad 49), .inl (cI, 12, .inl (fun _ => 0))), ((ad 50), .inl (cI, 12, .inl (fun _ => 0))), ((ad 51), .inl (cI, 12, .inl (fun _ => 0))), ((ad 52), .inl (cI, 12, .inl (fun _ => 0))), ((ad 53), .inl (cI, 12, .inl (fun _ => 0)))] sz) := by
  refine Met.ofW (cc := cX2_read) (maxL := 3) (ret := (some .int)) (by decide) rfl ?_
  intro p e s m args below meth c s₁ B hml hv
  obtain ⟨rfl, hsz, hP, hK, hD0, hN⟩ := hv
  have hx := B.exec
  have hb := B.bytes
  have hr := B.returns
  have hts := atoms_spec (ws := wsX2_read) B.pre
  have hown : s.vm.findClass RX2 = some m.cls := findClass_of_methodNamed B.named
  have hlocks := B.notSynchronized
  subst hsz
  have hD := hD0.self (sz := s.heap.size)
  generalize hAe : va_A [((ad 6), .inr (2, [.ref (ad 47), .int 0, .int 0, .ref (ad 48), .ref (ad 49), .ref (ad 50), .int 0, .ref (ad 51), .ref (ad 52), .ref (ad 53), .int 0, .int 0, .int 0, .int 0, .int 0])), ((ad 48), .inl (cI, 12, .inl (fun _ => 0))), ((ad 49), .inl (cI, 12, .inl (fun _ => 0))), ((ad 50), .inl (cI, 12, .inl (fun _ => 0))), ((ad 51), .inl (cI, 12, .inl (fun _ => 0))), ((ad 52), .inl (cI, 12, .inl (fun _ => 0))), ((ad 53), .inl (cI, 12, .inl (fun _ => 0)))] s.heap.size = A at hD ⊢
  have hA : ∀ q : Nat, s.heap.size ≤ q → A q := fun q h => by rw [← hAe]; exact Or.inr h
  have hS : va_S A s.heap s.heap [] := va_S.rf
  have hP : va_P D vwCl [((ad 6), .inr (2, [.ref (ad 47), .int 0, .int 0, .ref (ad 48), .ref (ad 49), .ref (ad 50), .int 0, .ref (ad 51), .ref (ad 52), .ref (ad 53), .int 0, .int 0, .int 0, .int 0, .int 0])), ((ad 48), .inl (cI, 12, .inl (fun _ => 0))), ((ad 49), .inl (cI, 12, .inl (fun _ => 0))), ((ad 50), .inl (cI, 12, .inl (fun _ => 0))), ((ad 51), .inl (cI, 12, .inl (fun _ => 0))), ((ad 52), .inl (cI, 12, .inl (fun _ => 0))), ((ad 53), .inl (cI, 12, .inl (fun _ => 0)))] s.heap := hP
  have hl := lv_entry ([.ref (ad 6)]) (n := 3) (Nat.le_of_ble_eq_true rfl)
  rw [lg_entry_eq]
  generalize (lg_sl ([.ref (ad 6)]) ++ List.replicate (3 - (lg_sl ([.ref (ad 6)])).length) Slot.unset).toArray = ls at hl ⊢
  have hl : lv_has ls 3 [(0, .ref (ad 6))] := hl
  refine lv_aload_n hx hb dX2_read_0 rfl (lv_at hl 0 rfl) ?_
  refine lv_iconst (v := 0) hx hb dX2_read_1 (by decide) ?_
  refine va_put (D := D) (ci := 2) (v := .int 0) (ty := .int) (C := RX2) (T := TX2) (N := 15) hx hb hts (by decide +kernel) tyX2 tyX2_ok nmX2 hown hK hP hD hS 0 rfl rfl 12 (by decide) (hts (.fieldLink RX2 38 "PortRooms$Duties" "end" "I") (by decide +kernel)) (fun _ h9 => h9) rfl (by decide +kernel) rfl rfl (Nat.le_of_ble_eq_true rfl) dX2_read_2 (fun H locs hP hD hS => ?_)
  replace hP : va_P D vwCl [((ad 6), .inr (2, [.ref (ad 47), .int 0, .int 0, .ref (ad 48), .ref (ad 49), .ref (ad 50), .int 0, .ref (ad 51), .ref (ad 52), .ref (ad 53), .int 0, .int 0, .int 0, .int 0, .int 0])), ((ad 48), .inl (cI, 12, .inl (fun _ => 0))), ((ad 49), .inl (cI, 12, .inl (fun _ => 0))), ((ad 50), .inl (cI, 12, .inl (fun _ => 0))), ((ad 51), .inl (cI, 12, .inl (fun _ => 0))), ((ad 52), .inl (cI, 12, .inl (fun _ => 0))), ((ad 53), .inl (cI, 12, .inl (fun _ => 0)))] H := hP
  replace hD : va_D A [((ad 6), .inr (2, [.ref (ad 47), .int 0, .int 0, .ref (ad 48), .ref (ad 49), .ref (ad 50), .int 0, .ref (ad 51), .ref (ad 52), .ref (ad 53), .int 0, .int 0, .int 0, .int 0, .int 0])), ((ad 48), .inl (cI, 12, .inl (fun _ => 0))), ((ad 49), .inl (cI, 12, .inl (fun _ => 0))), ((ad 50), .inl (cI, 12, .inl (fun _ => 0))), ((ad 51), .inl (cI, 12, .inl (fun _ => 0))), ((ad 52), .inl (cI, 12, .inl (fun _ => 0))), ((ad 53), .inl (cI, 12, .inl (fun _ => 0)))] := hD
  refine lv_aload_n hx hb dX2_read_5 rfl (lv_at hl 0 rfl) ?_
  refine lv_iconst (v := 0) hx hb dX2_read_6 (by decide) ?_
  refine va_put (D := D) (ci := 2) (v := .int 0) (ty := .int) (C := RX2) (T := TX2) (N := 15) hx hb hts (by decide +kernel) tyX2 tyX2_ok nmX2 hown hK hP hD hS 0 rfl rfl 10 (by decide) (hts (.fieldLink RX2 41 "PortRooms$Duties" "drafted" "I") (by decide +kernel)) (fun _ h9 => h9) rfl (by decide +kernel) rfl rfl (Nat.le_of_ble_eq_true rfl) dX2_read_7 (fun H locs hP hD hS => ?_)
  replace hP : va_P D vwCl [((ad 6), .inr (2, [.ref (ad 47), .int 0, .int 0, .ref (ad 48), .ref (ad 49), .ref (ad 50), .int 0, .ref (ad 51), .ref (ad 52), .ref (ad 53), .int 0, .int 0, .int 0, .int 0, .int 0])), ((ad 48), .inl (cI, 12, .inl (fun _ => 0))), ((ad 49), .inl (cI, 12, .inl (fun _ => 0))), ((ad 50), .inl (cI, 12, .inl (fun _ => 0))), ((ad 51), .inl (cI, 12, .inl (fun _ => 0))), ((ad 52), .inl (cI, 12, .inl (fun _ => 0))), ((ad 53), .inl (cI, 12, .inl (fun _ => 0)))] H := hP
  replace hD : va_D A [((ad 6), .inr (2, [.ref (ad 47), .int 0, .int 0, .ref (ad 48), .ref (ad 49), .ref (ad 50), .int 0, .ref (ad 51), .ref (ad 52), .ref (ad 53), .int 0, .int 0, .int 0, .int 0, .int 0])), ((ad 48), .inl (cI, 12, .inl (fun _ => 0))), ((ad 49), .inl (cI, 12, .inl (fun _ => 0))), ((ad 50), .inl (cI, 12, .inl (fun _ => 0))), ((ad 51), .inl (cI, 12, .inl (fun _ => 0))), ((ad 52), .inl (cI, 12, .inl (fun _ => 0))), ((ad 53), .inl (cI, 12, .inl (fun _ => 0)))] := hD
  refine lv_aload_n hx hb dX2_read_10 rfl (lv_at hl 0 rfl) ?_
  refine st_v (wr := [((ad 48), .inl (cI, 12, .inl (fun _ => 0))), ((ad 49), .inl (cI, 12, .inl (fun _ => 0))), ((ad 50), .inl (cI, 12, .inl (fun _ => 0))), ((ad 51), .inl (cI, 12, .inl (fun _ => 0))), ((ad 52), .inl (cI, 12, .inl (fun _ => 0))), ((ad 53), .inl (cI, 12, .inl (fun _ => 0)))]) (va_runV (C := RX2) (As := []) (rest := []) ⟨hx, hb, hml, hown, hts⟩ (ct_X2_next l D cI cY cJ cQ _ ad) (cwV 0 hts gX2_read_X2_next rfl rfl rfl (by decide +kernel) ⟨Nat.le_of_ble_eq_true rfl, Nat.le_of_ble_eq_true rfl⟩) (cPreV (hP.sub [0] rfl) hK (hD.sub [0] (by decide) rfl) hN (ci := 2) (q0 := 0) rfl rfl) rfl rfl hl.1 rfl (lv_room (Nat.le_of_ble_eq_true rfl)) dX2_read_11 ⟨Nat.le_of_ble_eq_true rfl, Nat.le_of_ble_eq_true rfl⟩) hP hD hS hA [0] [1, 2, 3, 4, 5, 6] rfl rfl (by decide) (by decide) (fun u1 H locs hw2 hP hD hS => ?_)
  replace hP : va_P D vwCl [((ad 48), .inl (cI, 12, .inl (fun _ => 0))), ((ad 49), .inl (cI, 12, .inl (fun _ => 0))), ((ad 50), .inl (cI, 12, .inl (fun _ => 0))), ((ad 51), .inl (cI, 12, .inl (fun _ => 0))), ((ad 52), .inl (cI, 12, .inl (fun _ => 0))), ((ad 53), .inl (cI, 12, .inl (fun _ => 0))), ((ad 6), .inr (2, [.ref (ad 47), .int 0, .int 0, .ref (ad 48), .ref (ad 49), .ref (ad 50), .int 0, .ref (ad 51), .ref (ad 52), .ref (ad 53), .int 0, .int 0, .int 0, .int 8, .int 0]))] H := hP
  replace hD : va_D A [((ad 48), .inl (cI, 12, .inl (fun _ => 0))), ((ad 49), .inl (cI, 12, .inl (fun _ => 0))), ((ad 50), .inl (cI, 12, .inl (fun _ => 0))), ((ad 51), .inl (cI, 12, .inl (fun _ => 0))), ((ad 52), .inl (cI, 12, .inl (fun _ => 0))), ((ad 53), .inl (cI, 12, .inl (fun _ => 0))), ((ad 6), .inr (2, [.ref (ad 47), .int 0, .int 0, .ref (ad 48), .ref (ad 49), .ref (ad 50), .int 0, .ref (ad 51), .ref (ad 52), .ref (ad 53), .int 0, .int 0, .int 0, .int 8, .int 0]))] := hD
  refine lv_iconst (v := 0) hx hb dX2_read_14 (by decide) ?_
  refine lv_istore_n (lv' := [(1, .int 0), (0, .ref (ad 6))]) hx hb dX2_read_15 rfl hl (by decide) rfl (fun ls hl => ?_)
  refine lv_iconst (v := 0) hx hb dX2_read_16 (by decide) ?_
  refine lv_istore_n (lv' := [(2, .int 0), (1, .int 0), (0, .ref (ad 6))]) hx hb dX2_read_17 rfl hl (by decide) rfl (fun ls hl => ?_)
  refine lv_iload_n hx hb dX2_read_18 rfl (lv_at hl 0 rfl) ?_
  refine lv_bipush (v := 12) hx hb dX2_read_19 (by decide) ?_
  refine lv_icmp_gt (tgt := 57) hx hb dX2_read_21 (by decide) (fun c => absurd c (by decide)) (fun _ => ?_)
  refine lv_aload_n hx hb dX2_read_24 rfl (lv_at hl 2 rfl) ?_
  refine va_get (D := D) (ci := 2) (v := .int 8) (C := RX2) (T := TX2) (N := 15) hx hb hts (by decide +kernel) hown hK hP 6 rfl rfl 13 (by decide) (hts (.fieldLink RX2 47 "PortRooms$Duties" "token" "I") (by decide +kernel)) (fun _ h9 => h9) rfl dX2_read_25 ?_
  refine lv_bipush (v := 8) hx hb dX2_read_28 (by decide) ?_
  refine lv_icmp_eq (tgt := 57) hx hb dX2_read_30 (by decide) (fun _ => ?_) (fun c => absurd (by decide) c)
  refine lv_aload_n hx hb dX2_read_57 rfl (lv_at hl 2 rfl) ?_
  refine lv_iconst (v := 0) hx hb dX2_read_58 (by decide) ?_
  refine va_put (D := D) (ci := 2) (v := .int 0) (ty := .int) (C := RX2) (T := TX2) (N := 15) hx hb hts (by decide +kernel) tyX2 tyX2_ok nmX2 hown hK hP hD hS 6 rfl rfl 1 (by decide) (hts (.fieldLink RX2 34 "PortRooms$Duties" "length" "I") (by decide +kernel)) (fun _ h9 => h9) rfl (by decide +kernel) rfl rfl (Nat.le_of_ble_eq_true rfl) dX2_read_59 (fun H locs hP hD hS => ?_)
  replace hP : va_P D vwCl [((ad 48), .inl (cI, 12, .inl (fun _ => 0))), ((ad 49), .inl (cI, 12, .inl (fun _ => 0))), ((ad 50), .inl (cI, 12, .inl (fun _ => 0))), ((ad 51), .inl (cI, 12, .inl (fun _ => 0))), ((ad 52), .inl (cI, 12, .inl (fun _ => 0))), ((ad 53), .inl (cI, 12, .inl (fun _ => 0))), ((ad 6), .inr (2, [.ref (ad 47), .int 0, .int 0, .ref (ad 48), .ref (ad 49), .ref (ad 50), .int 0, .ref (ad 51), .ref (ad 52), .ref (ad 53), .int 0, .int 0, .int 0, .int 8, .int 0]))] H := hP
  replace hD : va_D A [((ad 48), .inl (cI, 12, .inl (fun _ => 0))), ((ad 49), .inl (cI, 12, .inl (fun _ => 0))), ((ad 50), .inl (cI, 12, .inl (fun _ => 0))), ((ad 51), .inl (cI, 12, .inl (fun _ => 0))), ((ad 52), .inl (cI, 12, .inl (fun _ => 0))), ((ad 53), .inl (cI, 12, .inl (fun _ => 0))), ((ad 6), .inr (2, [.ref (ad 47), .int 0, .int 0, .ref (ad 48), .ref (ad 49), .ref (ad 50), .int 0, .ref (ad 51), .ref (ad 52), .ref (ad 53), .int 0, .int 0, .int 0, .int 8, .int 0]))] := hD
  refine lv_iload_n hx hb dX2_read_62 rfl (lv_at hl 1 rfl) ?_
  refine lv_if_eq (tgt := 79) hx hb dX2_read_63 (by decide) (fun _ => ?_) (fun c => absurd (by decide) c)
  refine lv_aload_n hx hb dX2_read_79 rfl (lv_at hl 2 rfl) ?_
  refine st_v (wr := []) (va_runV (C := RX2) (As := []) (rest := []) ⟨hx, hb, hml, hown, hts⟩ (ct_X2_keepDraft l D cI cY cJ cQ _ ad) (cwV 0 hts gX2_read_X2_keepDraft rfl rfl rfl (by decide +kernel) ⟨Nat.le_of_ble_eq_true rfl, Nat.le_of_ble_eq_true rfl⟩) (cPreV (hP.sub [6, 0, 1, 2, 3, 4, 5] rfl) hK (hD.sub [6, 0, 1, 2, 3, 4, 5] (by decide) rfl) hN (ci := 2) (q0 := 0) rfl rfl) rfl rfl hl.1 rfl (lv_room (Nat.le_of_ble_eq_true rfl)) dX2_read_80 ⟨Nat.le_of_ble_eq_true rfl, Nat.le_of_ble_eq_true rfl⟩) hP hD hS hA [6, 0, 1, 2, 3, 4, 5] [] rfl rfl (by decide) (by decide) (fun u4 H locs hw5 hP hD hS => ?_)
  replace hP : va_P D vwCl [((ad 6), .inr (2, [.ref (ad 47), .int 0, .int 0, .ref (ad 48), .ref (ad 49), .ref (ad 50), .int 0, .ref (ad 51), .ref (ad 52), .ref (ad 53), .int 0, .int 0, .int 0, .int 8, .int 0])), ((ad 48), .inl (cI, 12, .inl (fun _ => 0))), ((ad 49), .inl (cI, 12, .inl (fun _ => 0))), ((ad 50), .inl (cI, 12, .inl (fun _ => 0))), ((ad 51), .inl (cI, 12, .inl (fun _ => 0))), ((ad 52), .inl (cI, 12, .inl (fun _ => 0))), ((ad 53), .inl (cI, 12, .inl (fun _ => 0)))] H := hP
  replace hD : va_D A [((ad 6), .inr (2, [.ref (ad 47), .int 0, .int 0, .ref (ad 48), .ref (ad 49), .ref (ad 50), .int 0, .ref (ad 51), .ref (ad 52), .ref (ad 53), .int 0, .int 0, .int 0, .int 8, .int 0])), ((ad 48), .inl (cI, 12, .inl (fun _ => 0))), ((ad 49), .inl (cI, 12, .inl (fun _ => 0))), ((ad 50), .inl (cI, 12, .inl (fun _ => 0))), ((ad 51), .inl (cI, 12, .inl (fun _ => 0))), ((ad 52), .inl (cI, 12, .inl (fun _ => 0))), ((ad 53), .inl (cI, 12, .inl (fun _ => 0)))] := hD
  refine lv_aload_n hx hb dX2_read_83 rfl (lv_at hl 2 rfl) ?_
  refine va_get (D := D) (ci := 2) (v := .int 0) (C := RX2) (T := TX2) (N := 15) hx hb hts (by decide +kernel) hown hK hP 0 rfl rfl 6 (by decide) (hts (.fieldLink RX2 67 "PortRooms$Duties" "lines" "I") (by decide +kernel)) (fun _ h9 => h9) rfl dX2_read_84 ?_
  have hP9 := hP.sub (ws' := []) [] rfl
  have hD9 := hD.sub (ws' := []) [] (by decide) rfl
  exact W.iret (v := 0) hx hb hr (fun t ht hW => ⟨⟨0, (), rfl, rfl, by rw [ht]; exact hP9, va_K.moved hW.alike hK, hD9⟩, hS.F ht⟩) hS.2.2 dX2_read_87

set_option maxHeartbeats 4000000 in
set_option maxRecDepth 100000 in
theorem ct_X10_duties (l : Launch) (D : va_G) (cI cY cJ cQ : ClassId) (sz : Nat) (ad : Nat → Nat)   : Met l yX10_duties wsX10_duties ({ frames := 3, cells := 0, slots := 0, locals := 82 }) (cPre D (ty4 cI cY cJ cQ) [((ad 0), .inr (10, [.ref (ad 1), .ref (ad 2), .ref (ad 3), .ref (ad 4), .ref (ad 5), .ref (ad 6), .ref (ad 7), .ref (ad 8), .ref (ad 9), .ref (ad 10), .ref (ad 11), .int 0, .int 0, .int 0])), ((ad 6), .inr (2, [.ref (ad 47), .int 0, .int 0, .ref (ad 48), .ref (ad 49), .ref (ad 50), .int 0, .ref (ad 51), .ref (ad 52), .ref (ad 53), .int 0, .int 0, .int 0, .int 0, .int 0])), ((ad 48), .inl (cI, 12, .inl (fun _ => 0))), ((ad 49), .inl (cI, 12, .inl (fun _ => 0))), ((ad 50), .inl (cI, 12, .inl (fun _ => 0))), ((ad 51), .inl (cI, 12, .inl (fun _ => 0))), ((ad 52), .inl (cI, 12, .inl (fun _ => 0))), ((ad 53), .inl (cI, 12, .inl (fun _ => 0)))] sz [.ref (ad 0)]) (va_Qi (fun (r : Int32) (u : Unit) => r = 0) (cB D (ty4 cI cY cJ cQ) (fun (u : Unit) => []) (va_A [((ad 0), .inr (10, [.ref (ad 1), .ref (ad 2), .ref (ad 3), .ref (ad 4), .ref (ad 5), .ref (ad 6), .ref (ad 7), .ref (ad 8), .ref (ad 9), .ref (ad 10), .ref (ad 11), .int 0, .int 0, .int 0])), ((ad 6), .inr (2, [.ref (ad 47), .int 0, .int 0, .ref (ad 48), .ref (ad 49), .ref (ad 50), .int 0, .ref (ad 51), .ref (ad 52), .ref (ad 53), .int 0, .int 0, .int 0, .int 0, .int 0])), ((ad 48), .inl (cI, 12, .inl (fun _ => 0))), ((ad 49), .inl (cI, 12, .inl (fun _ => 0))), ((ad 50), .inl (cI, 12, .inl (fun _ => 0))), ((ad 51), .inl (cI, 12, .inl (fun _ => 0))), ((ad 52), .inl (cI, 12, .inl (fun _ => 0))), ((ad 53), .inl (cI, 12, .inl (fun _ => 0)))] sz)) (va_A [((ad 0), .inr (10, [.ref (ad 1), .ref (ad 2), .ref (ad 3), .ref (ad 4), .ref (ad 5), .ref (ad 6), .ref (ad 7), .ref (ad 8), .ref (ad 9), .ref (ad 10), .ref (ad 11), .int 0, .int 0, .int 0])), ((ad 6), .inr (2, [.ref (ad 47), .int 0, .int 0, .ref (ad 48), .ref (ad 49), .ref (ad 50), .int 0, .ref (ad 51), .ref (ad 52), .ref (ad 53), .int 0, .int 0, .int 0, .int 0, .int 0])), ((ad 48), .inl (cI, 12, .inl (fun _ => 0))), ((ad 49), .inl (cI, 12, .inl (fun _ => 0))), ((ad 50), .inl (cI, 12, .inl (fun _ => 0))), ((ad 51), .inl (cI, 12, .inl (fun _ => 0))), ((ad 52), .inl (cI, 12, .inl (fun _ => 0))), ((ad 53), .inl (cI, 12, .inl (fun _ => 0)))] sz)) 0 0 (va_A [((ad 0), .inr (10, [.ref (ad 1), .ref (ad 2), .ref (ad 3), .ref (ad 4), .ref (ad 5), .ref (ad 6), .ref (ad 7), .ref (ad 8), .ref (ad 9), .ref (ad 10), .ref (ad 11), .int 0, .int 0, .int 0])), ((ad 6), .inr (2, [.ref (ad 47), .int 0, .int 0, .ref (ad 48), .ref (ad 49), .ref (ad 50), .int 0, .ref (ad 51), .ref (ad 52), .ref (ad 53), .int 0, .int 0, .int 0, .int 0, .int 0])), ((ad 48), .inl (cI, 12, .inl (fun _ => 0))), ((ad 49), .inl (cI, 12, .inl (fun _ => 0))), ((ad 50), .inl (cI, 12, .inl (fun _ => 0))), ((ad 51), .inl (cI, 12, .inl (fun _ => 0))), ((ad 52), .inl (cI, 12, .inl (fun _ => 0))), ((ad 53), .inl (cI, 12, .inl (fun _ => 0)))] sz) := by
  refine Met.ofW (cc := cX10_duties) (maxL := 1) (ret := (some .int)) (by decide) rfl ?_
  intro p e s m args below meth c s₁ B hml hv
  obtain ⟨rfl, hsz, hP, hK, hD0, hN⟩ := hv
  have hx := B.exec
  have hb := B.bytes
  have hr := B.returns
  have hts := atoms_spec (ws := wsX10_duties) B.pre
  have hown : s.vm.findClass RX10 = some m.cls := findClass_of_methodNamed B.named
  have hlocks := B.notSynchronized
  subst hsz
  have hD := hD0.self (sz := s.heap.size)
  generalize hAe : va_A [((ad 0), .inr (10, [.ref (ad 1), .ref (ad 2), .ref (ad 3), .ref (ad 4), .ref (ad 5), .ref (ad 6), .ref (ad 7), .ref (ad 8), .ref (ad 9), .ref (ad 10), .ref (ad 11), .int 0, .int 0, .int 0])), ((ad 6), .inr (2, [.ref (ad 47), .int 0, .int 0, .ref (ad 48), .ref (ad 49), .ref (ad 50), .int 0, .ref (ad 51), .ref (ad 52), .ref (ad 53), .int 0, .int 0, .int 0, .int 0, .int 0])), ((ad 48), .inl (cI, 12, .inl (fun _ => 0))), ((ad 49), .inl (cI, 12, .inl (fun _ => 0))), ((ad 50), .inl (cI, 12, .inl (fun _ => 0))), ((ad 51), .inl (cI, 12, .inl (fun _ => 0))), ((ad 52), .inl (cI, 12, .inl (fun _ => 0))), ((ad 53), .inl (cI, 12, .inl (fun _ => 0)))] s.heap.size = A at hD ⊢
  have hA : ∀ q : Nat, s.heap.size ≤ q → A q := fun q h => by rw [← hAe]; exact Or.inr h
  have hS : va_S A s.heap s.heap [] := va_S.rf
  have hP : va_P D vwCl [((ad 0), .inr (10, [.ref (ad 1), .ref (ad 2), .ref (ad 3), .ref (ad 4), .ref (ad 5), .ref (ad 6), .ref (ad 7), .ref (ad 8), .ref (ad 9), .ref (ad 10), .ref (ad 11), .int 0, .int 0, .int 0])), ((ad 6), .inr (2, [.ref (ad 47), .int 0, .int 0, .ref (ad 48), .ref (ad 49), .ref (ad 50), .int 0, .ref (ad 51), .ref (ad 52), .ref (ad 53), .int 0, .int 0, .int 0, .int 0, .int 0])), ((ad 48), .inl (cI, 12, .inl (fun _ => 0))), ((ad 49), .inl (cI, 12, .inl (fun _ => 0))), ((ad 50), .inl (cI, 12, .inl (fun _ => 0))), ((ad 51), .inl (cI, 12, .inl (fun _ => 0))), ((ad 52), .inl (cI, 12, .inl (fun _ => 0))), ((ad 53), .inl (cI, 12, .inl (fun _ => 0)))] s.heap := hP
  have hl := lv_entry ([.ref (ad 0)]) (n := 1) (Nat.le_of_ble_eq_true rfl)
  rw [lg_entry_eq]
  generalize (lg_sl ([.ref (ad 0)]) ++ List.replicate (1 - (lg_sl ([.ref (ad 0)])).length) Slot.unset).toArray = ls at hl ⊢
  have hl : lv_has ls 1 [(0, .ref (ad 0))] := hl
  refine lv_aload_n hx hb dX10_duties_0 rfl (lv_at hl 0 rfl) ?_
  refine va_get (D := D) (ci := 10) (v := .ref (ad 6)) (C := RX10) (T := TX10) (N := 14) hx hb hts (by decide +kernel) hown hK hP 0 rfl rfl 5 (by decide) (hts (.fieldLink RX10 47 "PortRooms" "duties" "LPortRooms$Duties;") (by decide +kernel)) (fun _ h9 => h9) rfl dX10_duties_1 ?_
  refine st_i (wr := [((ad 0), .inr (10, [.ref (ad 1), .ref (ad 2), .ref (ad 3), .ref (ad 4), .ref (ad 5), .ref (ad 6), .ref (ad 7), .ref (ad 8), .ref (ad 9), .ref (ad 10), .ref (ad 11), .int 0, .int 0, .int 0]))]) (va_runV (C := RX2) (As := []) (rest := []) ⟨hx, hb, hml, hown, hts⟩ (ct_X2_read l D cI cY cJ cQ _ ad) (cwV 0 hts gX10_duties_X2_read rfl rfl rfl (by decide +kernel) ⟨Nat.le_of_ble_eq_true rfl, Nat.le_of_ble_eq_true rfl⟩) (cPreV (hP.sub [1, 2, 3, 4, 5, 6, 7] rfl) hK (hD.sub [1, 2, 3, 4, 5, 6, 7] (by decide) rfl) hN (ci := 2) (q0 := 0) rfl rfl) rfl rfl hl.1 rfl (lv_room (Nat.le_of_ble_eq_true rfl)) dX10_duties_4 ⟨Nat.le_of_ble_eq_true rfl, Nat.le_of_ble_eq_true rfl⟩) hP hD hS hA [1, 2, 3, 4, 5, 6, 7] [0] rfl rfl (by decide) (by decide) (fun r3 u1 H locs hw2 hP hD hS => ?_)
  replace hP : va_P D vwCl [((ad 0), .inr (10, [.ref (ad 1), .ref (ad 2), .ref (ad 3), .ref (ad 4), .ref (ad 5), .ref (ad 6), .ref (ad 7), .ref (ad 8), .ref (ad 9), .ref (ad 10), .ref (ad 11), .int 0, .int 0, .int 0]))] H := hP
  replace hD : va_D A [((ad 0), .inr (10, [.ref (ad 1), .ref (ad 2), .ref (ad 3), .ref (ad 4), .ref (ad 5), .ref (ad 6), .ref (ad 7), .ref (ad 8), .ref (ad 9), .ref (ad 10), .ref (ad 11), .int 0, .int 0, .int 0]))] := hD
  subst hw2
  have hP9 := hP.sub (ws' := []) [] rfl
  have hD9 := hD.sub (ws' := []) [] (by decide) rfl
  exact W.iret (v := 0) hx hb hr (fun t ht hW => ⟨⟨0, (), rfl, rfl, by rw [ht]; exact hP9, va_K.moved hW.alike hK, hD9⟩, hS.F ht⟩) hS.2.2 dX10_duties_7
