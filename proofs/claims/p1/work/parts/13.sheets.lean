theorem dX9_isMissing_0 : decode cX9_isMissing 0 = .ok (.aload_n 0, 1) := by decide +kernel
theorem dX9_isMissing_1 : decode cX9_isMissing 1 = .ok (.getfield 20, 3) := by decide +kernel
theorem dX9_isMissing_4 : decode cX9_isMissing 4 = .ok (.iload_n 1, 1) := by decide +kernel
theorem dX9_isMissing_5 : decode cX9_isMissing 5 = .ok (.iaload, 1) := by decide +kernel
theorem dX9_isMissing_6 : decode cX9_isMissing 6 = .ok (.iconst (-1), 1) := by decide +kernel
theorem dX9_isMissing_7 : decode cX9_isMissing 7 = .ok (.if_icmp .ne 7, 3) := by decide +kernel
theorem dX9_isMissing_10 : decode cX9_isMissing 10 = .ok (.iconst 1, 1) := by decide +kernel
theorem dX9_isMissing_11 : decode cX9_isMissing 11 = .ok (.goto 4, 3) := by decide +kernel
theorem dX9_isMissing_15 : decode cX9_isMissing 15 = .ok (.ireturn, 1) := by decide +kernel
set_option maxRecDepth 20000 in
theorem ggX9_howMany_X9_isMissing : GoodIn wsX9_howMany wsX9_isMissing := goodIn_r _ [5, 6, 7, 8, 9] (by decide +kernel) (by decide +kernel)
set_option maxRecDepth 20000 in
theorem gX9_howMany_X9_isMissing : GoodIn wsX9_howMany (wsV RX9 29 RX9 yX9_isMissing wsX9_isMissing) := goodIn_app (goodIn_of _ (by decide +kernel)) ggX9_howMany_X9_isMissing
theorem dX9_howMany_0 : decode cX9_howMany 0 = .ok (.iconst 0, 1) := by decide +kernel
theorem dX9_howMany_1 : decode cX9_howMany 1 = .ok (.istore_n 1, 1) := by decide +kernel
theorem dX9_howMany_2 : decode cX9_howMany 2 = .ok (.iconst 0, 1) := by decide +kernel
theorem dX9_howMany_3 : decode cX9_howMany 3 = .ok (.istore_n 2, 1) := by decide +kernel
theorem dX9_howMany_4 : decode cX9_howMany 4 = .ok (.iload_n 2, 1) := by decide +kernel
theorem dX9_howMany_5 : decode cX9_howMany 5 = .ok (.bipush 8, 2) := by decide +kernel
theorem dX9_howMany_7 : decode cX9_howMany 7 = .ok (.if_icmp .ge 20, 3) := by decide +kernel
theorem dX9_howMany_10 : decode cX9_howMany 10 = .ok (.aload_n 0, 1) := by decide +kernel
theorem dX9_howMany_11 : decode cX9_howMany 11 = .ok (.iload_n 2, 1) := by decide +kernel
theorem dX9_howMany_12 : decode cX9_howMany 12 = .ok (.invokevirtual 29, 3) := by decide +kernel
theorem dX9_howMany_15 : decode cX9_howMany 15 = .ok (.ifCond .ne 6, 3) := by decide +kernel
theorem dX9_howMany_21 : decode cX9_howMany 21 = .ok (.iinc 2 1, 3) := by decide +kernel
theorem dX9_howMany_24 : decode cX9_howMany 24 = .ok (.goto (-20), 3) := by decide +kernel
theorem dX9_howMany_27 : decode cX9_howMany 27 = .ok (.iload_n 1, 1) := by decide +kernel
theorem dX9_howMany_28 : decode cX9_howMany 28 = .ok (.ireturn, 1) := by decide +kernel
set_option maxRecDepth 20000 in
theorem ggX10_set_X10_isBelow : GoodIn wsX10_set wsX10_isBelow := goodIn_r _ [6] (by decide +kernel) (by decide +kernel)
set_option maxRecDepth 20000 in
theorem gX10_set_X10_isBelow : GoodIn wsX10_set (va_wsS RX10 85 yX10_isBelow wsX10_isBelow) := goodIn_app (goodIn_of _ (by decide +kernel)) ggX10_set_X10_isBelow
set_option maxRecDepth 20000 in
theorem ggX10_set_X9_isMissing : GoodIn wsX10_set wsX9_isMissing := goodIn_r _ [11, 12, 47, 48, 49] (by decide +kernel) (by decide +kernel)
set_option maxRecDepth 20000 in
theorem gX10_set_X9_isMissing : GoodIn wsX10_set (wsV RX10 101 RX9 yX9_isMissing wsX9_isMissing) := goodIn_app (goodIn_of _ (by decide +kernel)) ggX10_set_X9_isMissing
set_option maxRecDepth 20000 in
theorem ggX10_set_X10_finding : GoodIn wsX10_set wsX10_finding := goodIn_r _ [16, 17, 18, 33, 34, 35, 36, 37, 38, 39, 40, 41, 42, 43, 44, 45, 46] (by decide +kernel) (by decide +kernel)
set_option maxRecDepth 20000 in
theorem gX10_set_X10_finding : GoodIn wsX10_set (wsV RX10 90 RX10 yX10_finding wsX10_finding) := goodIn_app (goodIn_of _ (by decide +kernel)) ggX10_set_X10_finding
theorem dX10_set_0 : decode cX10_set 0 = .ok (.iload_n 1, 1) := by decide +kernel
theorem dX10_set_1 : decode cX10_set 1 = .ok (.bipush 8, 2) := by decide +kernel
theorem dX10_set_3 : decode cX10_set 3 = .ok (.invokestatic 85, 3) := by decide +kernel
theorem dX10_set_6 : decode cX10_set 6 = .ok (.ifCond .ne 6, 3) := by decide +kernel
theorem dX10_set_9 : decode cX10_set 9 = .ok (.ldc 89, 2) := by decide +kernel
theorem dX10_set_11 : decode cX10_set 11 = .ok (.ireturn, 1) := by decide +kernel
theorem dX10_set_12 : decode cX10_set 12 = .ok (.aload_n 0, 1) := by decide +kernel
theorem dX10_set_13 : decode cX10_set 13 = .ok (.getfield 10, 3) := by decide +kernel
theorem dX10_set_16 : decode cX10_set 16 = .ok (.iload_n 1, 1) := by decide +kernel
theorem dX10_set_17 : decode cX10_set 17 = .ok (.invokevirtual 101, 3) := by decide +kernel
theorem dX10_set_20 : decode cX10_set 20 = .ok (.ifCond .eq 9, 3) := by decide +kernel
theorem dX10_set_23 : decode cX10_set 23 = .ok (.aload_n 0, 1) := by decide +kernel
theorem dX10_set_24 : decode cX10_set 24 = .ok (.iconst 1, 1) := by decide +kernel
theorem dX10_set_25 : decode cX10_set 25 = .ok (.invokevirtual 90, 3) := by decide +kernel
theorem dX10_set_28 : decode cX10_set 28 = .ok (.ireturn, 1) := by decide +kernel
set_option maxRecDepth 20000 in
theorem ggX10_copy_X10_isBelow : GoodIn wsX10_copy wsX10_isBelow := goodIn_r _ [12] (by decide +kernel) (by decide +kernel)
set_option maxRecDepth 20000 in
theorem gX10_copy_X10_isBelow : GoodIn wsX10_copy (va_wsS RX10 85 yX10_isBelow wsX10_isBelow) := goodIn_app (goodIn_of _ (by decide +kernel)) ggX10_copy_X10_isBelow
set_option maxRecDepth 20000 in
theorem ggX10_copy_X9_isMissing : GoodIn wsX10_copy wsX9_isMissing := goodIn_r _ [17, 18, 47, 48, 49] (by decide +kernel) (by decide +kernel)
set_option maxRecDepth 20000 in
theorem gX10_copy_X9_isMissing : GoodIn wsX10_copy (wsV RX10 101 RX9 yX9_isMissing wsX9_isMissing) := goodIn_app (goodIn_of _ (by decide +kernel)) ggX10_copy_X9_isMissing
set_option maxRecDepth 20000 in
theorem ggX10_copy_X10_finding : GoodIn wsX10_copy wsX10_finding := goodIn_r _ [22, 23, 24, 33, 34, 35, 36, 37, 38, 39, 40, 41, 42, 43, 44, 45, 46] (by decide +kernel) (by decide +kernel)
set_option maxRecDepth 20000 in
theorem gX10_copy_X10_finding : GoodIn wsX10_copy (wsV RX10 90 RX10 yX10_finding wsX10_finding) := goodIn_app (goodIn_of _ (by decide +kernel)) ggX10_copy_X10_finding
theorem dX10_copy_0 : decode cX10_copy 0 = .ok (.iload_n 1, 1) := by decide +kernel
theorem dX10_copy_1 : decode cX10_copy 1 = .ok (.bipush 8, 2) := by decide +kernel
theorem dX10_copy_3 : decode cX10_copy 3 = .ok (.invokestatic 85, 3) := by decide +kernel
theorem dX10_copy_6 : decode cX10_copy 6 = .ok (.ifCond .eq 12, 3) := by decide +kernel
theorem dX10_copy_9 : decode cX10_copy 9 = .ok (.iload_n 3, 1) := by decide +kernel
theorem dX10_copy_10 : decode cX10_copy 10 = .ok (.bipush 8, 2) := by decide +kernel
theorem dX10_copy_12 : decode cX10_copy 12 = .ok (.invokestatic 85, 3) := by decide +kernel
theorem dX10_copy_15 : decode cX10_copy 15 = .ok (.ifCond .ne 6, 3) := by decide +kernel
theorem dX10_copy_18 : decode cX10_copy 18 = .ok (.ldc 89, 2) := by decide +kernel
theorem dX10_copy_20 : decode cX10_copy 20 = .ok (.ireturn, 1) := by decide +kernel
theorem dX10_copy_21 : decode cX10_copy 21 = .ok (.aload_n 0, 1) := by decide +kernel
theorem dX10_copy_22 : decode cX10_copy 22 = .ok (.getfield 10, 3) := by decide +kernel
theorem dX10_copy_25 : decode cX10_copy 25 = .ok (.iload_n 1, 1) := by decide +kernel
theorem dX10_copy_26 : decode cX10_copy 26 = .ok (.invokevirtual 101, 3) := by decide +kernel
theorem dX10_copy_29 : decode cX10_copy 29 = .ok (.ifCond .ne 14, 3) := by decide +kernel
theorem dX10_copy_43 : decode cX10_copy 43 = .ok (.aload_n 0, 1) := by decide +kernel
theorem dX10_copy_44 : decode cX10_copy 44 = .ok (.iconst 1, 1) := by decide +kernel
theorem dX10_copy_45 : decode cX10_copy 45 = .ok (.invokevirtual 90, 3) := by decide +kernel
theorem dX10_copy_48 : decode cX10_copy 48 = .ok (.ireturn, 1) := by decide +kernel
set_option maxRecDepth 20000 in
theorem ggX10_drop_X10_isBelow : GoodIn wsX10_drop wsX10_isBelow := goodIn_r _ [7] (by decide +kernel) (by decide +kernel)
set_option maxRecDepth 20000 in
theorem gX10_drop_X10_isBelow : GoodIn wsX10_drop (va_wsS RX10 85 yX10_isBelow wsX10_isBelow) := goodIn_app (goodIn_of _ (by decide +kernel)) ggX10_drop_X10_isBelow
set_option maxRecDepth 20000 in
theorem ggX10_drop_X9_isMissing : GoodIn wsX10_drop wsX9_isMissing := goodIn_r _ [12, 13, 42, 43, 44] (by decide +kernel) (by decide +kernel)
set_option maxRecDepth 20000 in
theorem gX10_drop_X9_isMissing : GoodIn wsX10_drop (wsV RX10 101 RX9 yX9_isMissing wsX9_isMissing) := goodIn_app (goodIn_of _ (by decide +kernel)) ggX10_drop_X9_isMissing
set_option maxRecDepth 20000 in
theorem ggX10_drop_X10_finding : GoodIn wsX10_drop wsX10_finding := goodIn_r _ [17, 18, 19, 28, 29, 30, 31, 32, 33, 34, 35, 36, 37, 38, 39, 40, 41] (by decide +kernel) (by decide +kernel)
set_option maxRecDepth 20000 in
theorem gX10_drop_X10_finding : GoodIn wsX10_drop (wsV RX10 90 RX10 yX10_finding wsX10_finding) := goodIn_app (goodIn_of _ (by decide +kernel)) ggX10_drop_X10_finding
theorem dX10_drop_0 : decode cX10_drop 0 = .ok (.iload_n 1, 1) := by decide +kernel
theorem dX10_drop_1 : decode cX10_drop 1 = .ok (.bipush 8, 2) := by decide +kernel
theorem dX10_drop_3 : decode cX10_drop 3 = .ok (.invokestatic 85, 3) := by decide +kernel
theorem dX10_drop_6 : decode cX10_drop 6 = .ok (.ifCond .ne 6, 3) := by decide +kernel
theorem dX10_drop_9 : decode cX10_drop 9 = .ok (.ldc 89, 2) := by decide +kernel
theorem dX10_drop_11 : decode cX10_drop 11 = .ok (.ireturn, 1) := by decide +kernel
theorem dX10_drop_12 : decode cX10_drop 12 = .ok (.aload_n 0, 1) := by decide +kernel
theorem dX10_drop_13 : decode cX10_drop 13 = .ok (.getfield 10, 3) := by decide +kernel
theorem dX10_drop_16 : decode cX10_drop 16 = .ok (.iload_n 1, 1) := by decide +kernel
theorem dX10_drop_17 : decode cX10_drop 17 = .ok (.invokevirtual 101, 3) := by decide +kernel
theorem dX10_drop_20 : decode cX10_drop 20 = .ok (.ifCond .eq 9, 3) := by decide +kernel
theorem dX10_drop_23 : decode cX10_drop 23 = .ok (.aload_n 0, 1) := by decide +kernel
theorem dX10_drop_24 : decode cX10_drop 24 = .ok (.iconst 1, 1) := by decide +kernel
theorem dX10_drop_25 : decode cX10_drop 25 = .ok (.invokevirtual 90, 3) := by decide +kernel
theorem dX10_drop_28 : decode cX10_drop 28 = .ok (.ireturn, 1) := by decide +kernel
set_option maxRecDepth 20000 in
theorem ggX10_holds_X10_isBelow : GoodIn wsX10_holds wsX10_isBelow := goodIn_r _ [7] (by decide +kernel) (by decide +kernel)
set_option maxRecDepth 20000 in
theorem gX10_holds_X10_isBelow : GoodIn wsX10_holds (va_wsS RX10 85 yX10_isBelow wsX10_isBelow) := goodIn_app (goodIn_of _ (by decide +kernel)) ggX10_holds_X10_isBelow
set_option maxRecDepth 20000 in
theorem ggX10_holds_X10_isFrom : GoodIn wsX10_holds wsX10_isFrom := goodIn_r _ [10] (by decide +kernel) (by decide +kernel)
set_option maxRecDepth 20000 in
theorem gX10_holds_X10_isFrom : GoodIn wsX10_holds (va_wsS RX10 135 yX10_isFrom wsX10_isFrom) := goodIn_app (goodIn_of _ (by decide +kernel)) ggX10_holds_X10_isFrom
set_option maxRecDepth 20000 in
theorem ggX10_holds_X9_isMissing : GoodIn wsX10_holds wsX9_isMissing := goodIn_r _ [15, 16, 74, 75, 76] (by decide +kernel) (by decide +kernel)
set_option maxRecDepth 20000 in
theorem gX10_holds_X9_isMissing : GoodIn wsX10_holds (wsV RX10 101 RX9 yX9_isMissing wsX9_isMissing) := goodIn_app (goodIn_of _ (by decide +kernel)) ggX10_holds_X9_isMissing
set_option maxRecDepth 20000 in
theorem ggX10_holds_X10_finding : GoodIn wsX10_holds wsX10_finding := goodIn_r _ [20, 21, 22, 60, 61, 62, 63, 64, 65, 66, 67, 68, 69, 70, 71, 72, 73] (by decide +kernel) (by decide +kernel)
set_option maxRecDepth 20000 in
theorem gX10_holds_X10_finding : GoodIn wsX10_holds (wsV RX10 90 RX10 yX10_finding wsX10_finding) := goodIn_app (goodIn_of _ (by decide +kernel)) ggX10_holds_X10_finding
theorem dX10_holds_0 : decode cX10_holds 0 = .ok (.iload_n 1, 1) := by decide +kernel
theorem dX10_holds_1 : decode cX10_holds 1 = .ok (.bipush 8, 2) := by decide +kernel
theorem dX10_holds_3 : decode cX10_holds 3 = .ok (.invokestatic 85, 3) := by decide +kernel
theorem dX10_holds_6 : decode cX10_holds 6 = .ok (.ifCond .eq 13, 3) := by decide +kernel
theorem dX10_holds_9 : decode cX10_holds 9 = .ok (.iload_n 3, 1) := by decide +kernel
theorem dX10_holds_10 : decode cX10_holds 10 = .ok (.iconst 1, 1) := by decide +kernel
theorem dX10_holds_11 : decode cX10_holds 11 = .ok (.bipush 15, 2) := by decide +kernel
theorem dX10_holds_13 : decode cX10_holds 13 = .ok (.invokestatic 135, 3) := by decide +kernel
theorem dX10_holds_16 : decode cX10_holds 16 = .ok (.ifCond .ne 6, 3) := by decide +kernel
theorem dX10_holds_19 : decode cX10_holds 19 = .ok (.ldc 89, 2) := by decide +kernel
theorem dX10_holds_21 : decode cX10_holds 21 = .ok (.ireturn, 1) := by decide +kernel
theorem dX10_holds_22 : decode cX10_holds 22 = .ok (.aload_n 0, 1) := by decide +kernel
theorem dX10_holds_23 : decode cX10_holds 23 = .ok (.getfield 10, 3) := by decide +kernel
theorem dX10_holds_26 : decode cX10_holds 26 = .ok (.iload_n 1, 1) := by decide +kernel
theorem dX10_holds_27 : decode cX10_holds 27 = .ok (.invokevirtual 101, 3) := by decide +kernel
theorem dX10_holds_30 : decode cX10_holds 30 = .ok (.ifCond .eq 9, 3) := by decide +kernel
theorem dX10_holds_33 : decode cX10_holds 33 = .ok (.aload_n 0, 1) := by decide +kernel
theorem dX10_holds_34 : decode cX10_holds 34 = .ok (.iconst 1, 1) := by decide +kernel
theorem dX10_holds_35 : decode cX10_holds 35 = .ok (.invokevirtual 90, 3) := by decide +kernel
theorem dX10_holds_38 : decode cX10_holds 38 = .ok (.ireturn, 1) := by decide +kernel
set_option maxRecDepth 20000 in
theorem ggX10_count_X9_howMany : GoodIn wsX10_count wsX9_howMany := goodIn_r _ [24, 25, 26, 27, 23, 28, 29, 101, 102, 103] (by decide +kernel) (by decide +kernel)
set_option maxRecDepth 20000 in
theorem gX10_count_X9_howMany : GoodIn wsX10_count (wsV RX10 316 RX9 yX9_howMany wsX9_howMany) := goodIn_app (goodIn_of _ (by decide +kernel)) ggX10_count_X9_howMany
theorem dX10_count_0 : decode cX10_count 0 = .ok (.iload_n 1, 1) := by decide +kernel
theorem dX10_count_1 : decode cX10_count 1 = .ok (.tableswitch 135 0 9 #[55, 63, 71, 79, 87, 95, 103, 111, 119, 127], 55) := by decide +kernel
theorem dX10_count_56 : decode cX10_count 56 = .ok (.aload_n 0, 1) := by decide +kernel
theorem dX10_count_57 : decode cX10_count 57 = .ok (.getfield 10, 3) := by decide +kernel
theorem dX10_count_60 : decode cX10_count 60 = .ok (.invokevirtual 316, 3) := by decide +kernel
theorem dX10_count_63 : decode cX10_count 63 = .ok (.ireturn, 1) := by decide +kernel
theorem dX10_count_64 : decode cX10_count 64 = .ok (.aload_n 0, 1) := by decide +kernel
theorem dX10_count_65 : decode cX10_count 65 = .ok (.getfield 19, 3) := by decide +kernel
theorem dX10_count_68 : decode cX10_count 68 = .ok (.getfield 141, 3) := by decide +kernel
theorem dX10_count_71 : decode cX10_count 71 = .ok (.ireturn, 1) := by decide +kernel
theorem dX10_count_72 : decode cX10_count 72 = .ok (.aload_n 0, 1) := by decide +kernel
theorem dX10_count_73 : decode cX10_count 73 = .ok (.getfield 26, 3) := by decide +kernel
theorem dX10_count_76 : decode cX10_count 76 = .ok (.getfield 177, 3) := by decide +kernel
theorem dX10_count_79 : decode cX10_count 79 = .ok (.ireturn, 1) := by decide +kernel
theorem dX10_count_80 : decode cX10_count 80 = .ok (.aload_n 0, 1) := by decide +kernel
theorem dX10_count_81 : decode cX10_count 81 = .ok (.getfield 33, 3) := by decide +kernel
theorem dX10_count_84 : decode cX10_count 84 = .ok (.getfield 186, 3) := by decide +kernel
theorem dX10_count_87 : decode cX10_count 87 = .ok (.ireturn, 1) := by decide +kernel
theorem dX10_count_88 : decode cX10_count 88 = .ok (.aload_n 0, 1) := by decide +kernel
theorem dX10_count_89 : decode cX10_count 89 = .ok (.getfield 40, 3) := by decide +kernel
theorem dX10_count_92 : decode cX10_count 92 = .ok (.getfield 199, 3) := by decide +kernel
theorem dX10_count_95 : decode cX10_count 95 = .ok (.ireturn, 1) := by decide +kernel
theorem dX10_count_96 : decode cX10_count 96 = .ok (.aload_n 0, 1) := by decide +kernel
theorem dX10_count_97 : decode cX10_count 97 = .ok (.getfield 47, 3) := by decide +kernel
theorem dX10_count_100 : decode cX10_count 100 = .ok (.getfield 319, 3) := by decide +kernel
theorem dX10_count_103 : decode cX10_count 103 = .ok (.ireturn, 1) := by decide +kernel
theorem dX10_count_104 : decode cX10_count 104 = .ok (.aload_n 0, 1) := by decide +kernel
theorem dX10_count_105 : decode cX10_count 105 = .ok (.getfield 54, 3) := by decide +kernel
theorem dX10_count_108 : decode cX10_count 108 = .ok (.getfield 227, 3) := by decide +kernel
theorem dX10_count_111 : decode cX10_count 111 = .ok (.ireturn, 1) := by decide +kernel
theorem dX10_count_112 : decode cX10_count 112 = .ok (.aload_n 0, 1) := by decide +kernel
theorem dX10_count_113 : decode cX10_count 113 = .ok (.getfield 61, 3) := by decide +kernel
theorem dX10_count_116 : decode cX10_count 116 = .ok (.getfield 287, 3) := by decide +kernel
theorem dX10_count_119 : decode cX10_count 119 = .ok (.ireturn, 1) := by decide +kernel
theorem dX10_count_120 : decode cX10_count 120 = .ok (.aload_n 0, 1) := by decide +kernel
theorem dX10_count_121 : decode cX10_count 121 = .ok (.getfield 68, 3) := by decide +kernel
theorem dX10_count_124 : decode cX10_count 124 = .ok (.getfield 292, 3) := by decide +kernel
theorem dX10_count_127 : decode cX10_count 127 = .ok (.ireturn, 1) := by decide +kernel
theorem dX10_count_128 : decode cX10_count 128 = .ok (.aload_n 0, 1) := by decide +kernel
theorem dX10_count_129 : decode cX10_count 129 = .ok (.getfield 47, 3) := by decide +kernel
theorem dX10_count_132 : decode cX10_count 132 = .ok (.getfield 213, 3) := by decide +kernel
theorem dX10_count_135 : decode cX10_count 135 = .ok (.ireturn, 1) := by decide +kernel
theorem dX10_count_136 : decode cX10_count 136 = .ok (.ldc 89, 2) := by decide +kernel
theorem dX10_count_138 : decode cX10_count 138 = .ok (.ireturn, 1) := by decide +kernel
theorem dX10_finding_0 : decode cX10_finding 0 = .ok (.aload_n 0, 1) := by decide +kernel
theorem dX10_finding_1 : decode cX10_finding 1 = .ok (.iload_n 1, 1) := by decide +kernel
theorem dX10_finding_2 : decode cX10_finding 2 = .ok (.putfield 322, 3) := by decide +kernel
theorem dX10_finding_5 : decode cX10_finding 5 = .ok (.ldc_w 325, 3) := by decide +kernel
theorem dX10_finding_8 : decode cX10_finding 8 = .ok (.iload_n 1, 1) := by decide +kernel
theorem dX10_finding_9 : decode cX10_finding 9 = .ok (.isub, 1) := by decide +kernel
theorem dX10_finding_10 : decode cX10_finding 10 = .ok (.ireturn, 1) := by decide +kernel
theorem dX10_passed_0 : decode cX10_passed 0 = .ok (.aload_n 0, 1) := by decide +kernel
theorem dX10_passed_1 : decode cX10_passed 1 = .ok (.iconst 0, 1) := by decide +kernel
theorem dX10_passed_2 : decode cX10_passed 2 = .ok (.putfield 322, 3) := by decide +kernel
theorem dX10_passed_5 : decode cX10_passed 5 = .ok (.iload_n 1, 1) := by decide +kernel
theorem dX10_passed_6 : decode cX10_passed 6 = .ok (.ireturn, 1) := by decide +kernel
set_option maxHeartbeats 4000000 in
set_option maxRecDepth 100000 in
theorem ct_X10_finding (l : Launch) (D : va_G) (cI cY cJ cQ : ClassId) (sz : Nat) (ad : Nat → Nat) (a : Int32)   : Met l yX10_finding wsX10_finding ({ frames := 0, cells := 0, slots := 0, locals := 0 }) (cPre D (ty4 cI cY cJ cQ) [((ad 0), .inr (10, [.ref (ad 1), .ref (ad 2), .ref (ad 3), .ref (ad 4), .ref (ad 5), .ref (ad 6), .ref (ad 7), .ref (ad 8), .ref (ad 9), .ref (ad 10), .ref (ad 11), .int 0, .int 0, .int 0]))] sz [.ref (ad 0), .int a]) (va_Qi (fun (r : Int32) (u : Unit) => r = (-1000010) - a) (cB D (ty4 cI cY cJ cQ) (fun (u : Unit) => []) (va_A [((ad 0), .inr (10, [.ref (ad 1), .ref (ad 2), .ref (ad 3), .ref (ad 4), .ref (ad 5), .ref (ad 6), .ref (ad 7), .ref (ad 8), .ref (ad 9), .ref (ad 10), .ref (ad 11), .int 0, .int 0, .int 0]))] sz)) (va_A [((ad 0), .inr (10, [.ref (ad 1), .ref (ad 2), .ref (ad 3), .ref (ad 4), .ref (ad 5), .ref (ad 6), .ref (ad 7), .ref (ad 8), .ref (ad 9), .ref (ad 10), .ref (ad 11), .int 0, .int 0, .int 0]))] sz)) 0 0 (va_A [((ad 0), .inr (10, [.ref (ad 1), .ref (ad 2), .ref (ad 3), .ref (ad 4), .ref (ad 5), .ref (ad 6), .ref (ad 7), .ref (ad 8), .ref (ad 9), .ref (ad 10), .ref (ad 11), .int 0, .int 0, .int 0]))] sz) := by
  refine Met.ofW (cc := cX10_finding) (maxL := 2) (ret := (some .int)) (by decide) rfl ?_
  intro p e s m args below meth c s₁ B hml hv
  obtain ⟨rfl, hsz, hP, hK, hD0, hN⟩ := hv
  have hx := B.exec
  have hb := B.bytes
  have hr := B.returns
  have hts := atoms_spec (ws := wsX10_finding) B.pre
  have hown : s.vm.findClass RX10 = some m.cls := findClass_of_methodNamed B.named
  have hlocks := B.notSynchronized
  subst hsz
  have hD := hD0.self (sz := s.heap.size)
  generalize hAe : va_A [((ad 0), .inr (10, [.ref (ad 1), .ref (ad 2), .ref (ad 3), .ref (ad 4), .ref (ad 5), .ref (ad 6), .ref (ad 7), .ref (ad 8), .ref (ad 9), .ref (ad 10), .ref (ad 11), .int 0, .int 0, .int 0]))] s.heap.size = A at hD ⊢
  have hA : ∀ q : Nat, s.heap.size ≤ q → A q := fun q h => by rw [← hAe]; exact Or.inr h
  have hS : va_S A s.heap s.heap [] := va_S.rf
  have hP : va_P D vwCl [((ad 0), .inr (10, [.ref (ad 1), .ref (ad 2), .ref (ad 3), .ref (ad 4), .ref (ad 5), .ref (ad 6), .ref (ad 7), .ref (ad 8), .ref (ad 9), .ref (ad 10), .ref (ad 11), .int 0, .int 0, .int 0]))] s.heap := hP
  have hl := lv_entry ([.ref (ad 0), .int a]) (n := 2) (Nat.le_of_ble_eq_true rfl)
  rw [lg_entry_eq]
  generalize (lg_sl ([.ref (ad 0), .int a]) ++ List.replicate (2 - (lg_sl ([.ref (ad 0), .int a])).length) Slot.unset).toArray = ls at hl ⊢
  have hl : lv_has ls 2 [(0, .ref (ad 0)), (1, .int a)] := hl
  have km1000010 : (-1000010 : Int32).toInt = -1000010 := by decide
  refine lv_aload_n hx hb dX10_finding_0 rfl (lv_at hl 0 rfl) ?_
  refine lv_iload_n hx hb dX10_finding_1 rfl (lv_at hl 1 rfl) ?_
  refine va_put (D := D) (ci := 10) (v := .int a) (ty := .int) (C := RX10) (T := TX10) (N := 14) hx hb hts (by decide +kernel) tyX10 tyX10_ok nmX10 hown hK hP hD hS 0 rfl rfl 13 (by decide) (hts (.fieldLink RX10 322 "PortRooms" "latestFinding" "I") (by decide +kernel)) (fun _ h9 => h9) rfl (by decide +kernel) rfl rfl (Nat.le_of_ble_eq_true rfl) dX10_finding_2 (fun H locs hP hD hS => ?_)
  replace hP : va_P D vwCl [((ad 0), .inr (10, [.ref (ad 1), .ref (ad 2), .ref (ad 3), .ref (ad 4), .ref (ad 5), .ref (ad 6), .ref (ad 7), .ref (ad 8), .ref (ad 9), .ref (ad 10), .ref (ad 11), .int 0, .int 0, .int a]))] H := hP
  replace hD : va_D A [((ad 0), .inr (10, [.ref (ad 1), .ref (ad 2), .ref (ad 3), .ref (ad 4), .ref (ad 5), .ref (ad 6), .ref (ad 7), .ref (ad 8), .ref (ad 9), .ref (ad 10), .ref (ad 11), .int 0, .int 0, .int a]))] := hD
  refine lv_ldcw hx hb hown (hts (.constant RX10 325 (-1000010)) (by decide +kernel)) dX10_finding_5 ?_
  refine lv_iload_n hx hb dX10_finding_8 rfl (lv_at hl 1 rfl) ?_
  refine lv_isub hx hb dX10_finding_9 ?_
  refine lv_topi (fun v1 ev1 => ?_)
  have hP9 := hP.sub (ws' := []) [] rfl
  have hD9 := hD.sub (ws' := []) [] (by decide) rfl
  exact W.iret (v := v1) hx hb hr (fun t ht hW => ⟨⟨v1, (), rfl, ev1, by rw [ht]; exact hP9, va_K.moved hW.alike hK, hD9⟩, hS.F ht⟩) hS.2.2 dX10_finding_10

set_option maxHeartbeats 4000000 in
set_option maxRecDepth 100000 in
theorem ct_X10_passed (l : Launch) (D : va_G) (cI cY cJ cQ : ClassId) (sz : Nat) (ad : Nat → Nat) (a : Int32)   : Met l yX10_passed wsX10_passed ({ frames := 0, cells := 0, slots := 0, locals := 0 }) (cPre D (ty4 cI cY cJ cQ) [((ad 0), .inr (10, [.ref (ad 1), .ref (ad 2), .ref (ad 3), .ref (ad 4), .ref (ad 5), .ref (ad 6), .ref (ad 7), .ref (ad 8), .ref (ad 9), .ref (ad 10), .ref (ad 11), .int 0, .int 0, .int 0]))] sz [.ref (ad 0), .int a]) (va_Qi (fun (r : Int32) (u : Unit) => r = a) (cB D (ty4 cI cY cJ cQ) (fun (u : Unit) => []) (va_A [((ad 0), .inr (10, [.ref (ad 1), .ref (ad 2), .ref (ad 3), .ref (ad 4), .ref (ad 5), .ref (ad 6), .ref (ad 7), .ref (ad 8), .ref (ad 9), .ref (ad 10), .ref (ad 11), .int 0, .int 0, .int 0]))] sz)) (va_A [((ad 0), .inr (10, [.ref (ad 1), .ref (ad 2), .ref (ad 3), .ref (ad 4), .ref (ad 5), .ref (ad 6), .ref (ad 7), .ref (ad 8), .ref (ad 9), .ref (ad 10), .ref (ad 11), .int 0, .int 0, .int 0]))] sz)) 0 0 (va_A [((ad 0), .inr (10, [.ref (ad 1), .ref (ad 2), .ref (ad 3), .ref (ad 4), .ref (ad 5), .ref (ad 6), .ref (ad 7), .ref (ad 8), .ref (ad 9), .ref (ad 10), .ref (ad 11), .int 0, .int 0, .int 0]))] sz) := by
  refine Met.ofW (cc := cX10_passed) (maxL := 2) (ret := (some .int)) (by decide) rfl ?_
  intro p e s m args below meth c s₁ B hml hv
  obtain ⟨rfl, hsz, hP, hK, hD0, hN⟩ := hv
  have hx := B.exec
  have hb := B.bytes
  have hr := B.returns
  have hts := atoms_spec (ws := wsX10_passed) B.pre
  have hown : s.vm.findClass RX10 = some m.cls := findClass_of_methodNamed B.named
  have hlocks := B.notSynchronized
  subst hsz
  have hD := hD0.self (sz := s.heap.size)
  generalize hAe : va_A [((ad 0), .inr (10, [.ref (ad 1), .ref (ad 2), .ref (ad 3), .ref (ad 4), .ref (ad 5), .ref (ad 6), .ref (ad 7), .ref (ad 8), .ref (ad 9), .ref (ad 10), .ref (ad 11), .int 0, .int 0, .int 0]))] s.heap.size = A at hD ⊢
  have hA : ∀ q : Nat, s.heap.size ≤ q → A q := fun q h => by rw [← hAe]; exact Or.inr h
  have hS : va_S A s.heap s.heap [] := va_S.rf
  have hP : va_P D vwCl [((ad 0), .inr (10, [.ref (ad 1), .ref (ad 2), .ref (ad 3), .ref (ad 4), .ref (ad 5), .ref (ad 6), .ref (ad 7), .ref (ad 8), .ref (ad 9), .ref (ad 10), .ref (ad 11), .int 0, .int 0, .int 0]))] s.heap := hP
  have hl := lv_entry ([.ref (ad 0), .int a]) (n := 2) (Nat.le_of_ble_eq_true rfl)
  rw [lg_entry_eq]
  generalize (lg_sl ([.ref (ad 0), .int a]) ++ List.replicate (2 - (lg_sl ([.ref (ad 0), .int a])).length) Slot.unset).toArray = ls at hl ⊢
  have hl : lv_has ls 2 [(0, .ref (ad 0)), (1, .int a)] := hl
  refine lv_aload_n hx hb dX10_passed_0 rfl (lv_at hl 0 rfl) ?_
  refine lv_iconst (v := 0) hx hb dX10_passed_1 (by decide) ?_
  refine va_put (D := D) (ci := 10) (v := .int 0) (ty := .int) (C := RX10) (T := TX10) (N := 14) hx hb hts (by decide +kernel) tyX10 tyX10_ok nmX10 hown hK hP hD hS 0 rfl rfl 13 (by decide) (hts (.fieldLink RX10 322 "PortRooms" "latestFinding" "I") (by decide +kernel)) (fun _ h9 => h9) rfl (by decide +kernel) rfl rfl (Nat.le_of_ble_eq_true rfl) dX10_passed_2 (fun H locs hP hD hS => ?_)
  replace hP : va_P D vwCl [((ad 0), .inr (10, [.ref (ad 1), .ref (ad 2), .ref (ad 3), .ref (ad 4), .ref (ad 5), .ref (ad 6), .ref (ad 7), .ref (ad 8), .ref (ad 9), .ref (ad 10), .ref (ad 11), .int 0, .int 0, .int 0]))] H := hP
  replace hD : va_D A [((ad 0), .inr (10, [.ref (ad 1), .ref (ad 2), .ref (ad 3), .ref (ad 4), .ref (ad 5), .ref (ad 6), .ref (ad 7), .ref (ad 8), .ref (ad 9), .ref (ad 10), .ref (ad 11), .int 0, .int 0, .int 0]))] := hD
  refine lv_iload_n hx hb dX10_passed_5 rfl (lv_at hl 1 rfl) ?_
  have hP9 := hP.sub (ws' := []) [] rfl
  have hD9 := hD.sub (ws' := []) [] (by decide) rfl
  exact W.iret (v := a) hx hb hr (fun t ht hW => ⟨⟨a, (), rfl, rfl, by rw [ht]; exact hP9, va_K.moved hW.alike hK, hD9⟩, hS.F ht⟩) hS.2.2 dX10_passed_6

set_option maxHeartbeats 4000000 in
set_option maxRecDepth 100000 in
theorem ct_X9_isMissing (l : Launch) (D : va_G) (cI cY cJ cQ : ClassId) (sz : Nat) (ad : Nat → Nat) (a : Int32)  (h1 : 0 ≤ a.toInt) (h2 : a.toInt < 8) : Met l yX9_isMissing wsX9_isMissing ({ frames := 0, cells := 0, slots := 0, locals := 0 }) (cPre D (ty4 cI cY cJ cQ) [((ad 1), .inr (9, [.ref (ad 12), .ref (ad 13), .ref (ad 14)])), ((ad 14), .inl (cI, 8, .inl (fun _ => (-1))))] sz [.ref (ad 1), .int a]) (va_Qi (fun (r : Int32) (u : Unit) => r = 1) (cB D (ty4 cI cY cJ cQ) (fun (u : Unit) => [((ad 1), .inr (9, [.ref (ad 12), .ref (ad 13), .ref (ad 14)])), ((ad 14), .inl (cI, 8, .inl (fun _ => (-1))))]) (va_A [((ad 1), .inr (9, [.ref (ad 12), .ref (ad 13), .ref (ad 14)])), ((ad 14), .inl (cI, 8, .inl (fun _ => (-1))))] sz)) (va_A [((ad 1), .inr (9, [.ref (ad 12), .ref (ad 13), .ref (ad 14)])), ((ad 14), .inl (cI, 8, .inl (fun _ => (-1))))] sz)) 0 0 (va_A [((ad 1), .inr (9, [.ref (ad 12), .ref (ad 13), .ref (ad 14)])), ((ad 14), .inl (cI, 8, .inl (fun _ => (-1))))] sz) := by
  refine Met.ofW (cc := cX9_isMissing) (maxL := 2) (ret := (some .boolean)) (by decide) rfl ?_
  intro p e s m args below meth c s₁ B hml hv
  obtain ⟨rfl, hsz, hP, hK, hD0, hN⟩ := hv
  have hx := B.exec
  have hb := B.bytes
  have hr := B.returns
  have hts := atoms_spec (ws := wsX9_isMissing) B.pre
  have hown : s.vm.findClass RX9 = some m.cls := findClass_of_methodNamed B.named
  have hlocks := B.notSynchronized
  subst hsz
  have hD := hD0.self (sz := s.heap.size)
  generalize hAe : va_A [((ad 1), .inr (9, [.ref (ad 12), .ref (ad 13), .ref (ad 14)])), ((ad 14), .inl (cI, 8, .inl (fun _ => (-1))))] s.heap.size = A at hD ⊢
  have hA : ∀ q : Nat, s.heap.size ≤ q → A q := fun q h => by rw [← hAe]; exact Or.inr h
  have hS : va_S A s.heap s.heap [] := va_S.rf
  have hP : va_P D vwCl [((ad 1), .inr (9, [.ref (ad 12), .ref (ad 13), .ref (ad 14)])), ((ad 14), .inl (cI, 8, .inl (fun _ => (-1))))] s.heap := hP
  have hl := lv_entry ([.ref (ad 1), .int a]) (n := 2) (Nat.le_of_ble_eq_true rfl)
  rw [lg_entry_eq]
  generalize (lg_sl ([.ref (ad 1), .int a]) ++ List.replicate (2 - (lg_sl ([.ref (ad 1), .int a])).length) Slot.unset).toArray = ls at hl ⊢
  have hl : lv_has ls 2 [(0, .ref (ad 1)), (1, .int a)] := hl
  refine lv_aload_n hx hb dX9_isMissing_0 rfl (lv_at hl 0 rfl) ?_
  refine va_get (D := D) (ci := 9) (v := .ref (ad 14)) (C := RX9) (T := TX9) (N := 3) hx hb hts (by decide +kernel) hown hK hP 0 rfl rfl 2 (by decide) (hts (.fieldLink RX9 20 "PortRooms$Sheets" "size" "[I") (by decide +kernel)) (fun _ h9 => h9) rfl dX9_isMissing_1 ?_
  refine lv_iload_n hx hb dX9_isMissing_4 rfl (lv_at hl 1 rfl) ?_
  refine va_iald hx hb hK hP 1 0 rfl rfl (i_in (by omega) (by omega)) dX9_isMissing_5 ?_
  refine lv_topi (fun v1 ev1 => ?_)
  have ev1 : v1 = (-1) := ev1
  subst ev1
  refine lv_iconst (v := (-1)) hx hb dX9_isMissing_6 (by decide) ?_
  refine lv_icmp_ne (tgt := 14) hx hb dX9_isMissing_7 (by decide) (fun c => absurd c (by decide)) (fun _ => ?_)
  refine lv_iconst (v := 1) hx hb dX9_isMissing_10 (by decide) ?_
  refine lv_goto (tgt := 15) hx hb dX9_isMissing_11 (by decide) ?_
  have hP9 := hP.sub (ws' := [((ad 1), .inr (9, [.ref (ad 12), .ref (ad 13), .ref (ad 14)])), ((ad 14), .inl (cI, 8, .inl (fun _ => (-1))))]) [0, 1] rfl
  have hD9 := hD.sub (ws' := [((ad 1), .inr (9, [.ref (ad 12), .ref (ad 13), .ref (ad 14)])), ((ad 14), .inl (cI, 8, .inl (fun _ => (-1))))]) [0, 1] (by decide) rfl
  exact W.zret (v := 1) hx hb hr rfl (fun t ht hW => ⟨⟨1, (), rfl, rfl, by rw [ht]; exact hP9, va_K.moved hW.alike hK, hD9⟩, hS.F ht⟩) hS.2.2 dX9_isMissing_15

set_option maxHeartbeats 4000000 in
set_option maxRecDepth 100000 in
theorem ct_X10_set (l : Launch) (D : va_G) (cI cY cJ cQ : ClassId) (sz : Nat) (ad : Nat → Nat) (a i v : Int32)   : Met l yX10_set wsX10_set ({ frames := 1, cells := 0, slots := 0, locals := 21 }) (cPre D (ty4 cI cY cJ cQ) [((ad 0), .inr (10, [.ref (ad 1), .ref (ad 2), .ref (ad 3), .ref (ad 4), .ref (ad 5), .ref (ad 6), .ref (ad 7), .ref (ad 8), .ref (ad 9), .ref (ad 10), .ref (ad 11), .int 0, .int 0, .int 0])), ((ad 1), .inr (9, [.ref (ad 12), .ref (ad 13), .ref (ad 14)])), ((ad 14), .inl (cI, 8, .inl (fun _ => (-1))))] sz [.ref (ad 0), .int a, .int i, .int v]) (va_Qi (fun (r : Int32) (u : Unit) => r = an_set a i v) (cB D (ty4 cI cY cJ cQ) (fun (u : Unit) => []) (va_A [((ad 0), .inr (10, [.ref (ad 1), .ref (ad 2), .ref (ad 3), .ref (ad 4), .ref (ad 5), .ref (ad 6), .ref (ad 7), .ref (ad 8), .ref (ad 9), .ref (ad 10), .ref (ad 11), .int 0, .int 0, .int 0])), ((ad 1), .inr (9, [.ref (ad 12), .ref (ad 13), .ref (ad 14)])), ((ad 14), .inl (cI, 8, .inl (fun _ => (-1))))] sz)) (va_A [((ad 0), .inr (10, [.ref (ad 1), .ref (ad 2), .ref (ad 3), .ref (ad 4), .ref (ad 5), .ref (ad 6), .ref (ad 7), .ref (ad 8), .ref (ad 9), .ref (ad 10), .ref (ad 11), .int 0, .int 0, .int 0])), ((ad 1), .inr (9, [.ref (ad 12), .ref (ad 13), .ref (ad 14)])), ((ad 14), .inl (cI, 8, .inl (fun _ => (-1))))] sz)) 0 0 (va_A [((ad 0), .inr (10, [.ref (ad 1), .ref (ad 2), .ref (ad 3), .ref (ad 4), .ref (ad 5), .ref (ad 6), .ref (ad 7), .ref (ad 8), .ref (ad 9), .ref (ad 10), .ref (ad 11), .int 0, .int 0, .int 0])), ((ad 1), .inr (9, [.ref (ad 12), .ref (ad 13), .ref (ad 14)])), ((ad 14), .inl (cI, 8, .inl (fun _ => (-1))))] sz) := by
  refine Met.ofW (cc := cX10_set) (maxL := 4) (ret := (some .int)) (by decide) rfl ?_
  intro p e s m args below meth c s₁ B hml hv
  obtain ⟨rfl, hsz, hP, hK, hD0, hN⟩ := hv
  have hx := B.exec
  have hb := B.bytes
  have hr := B.returns
  have hts := atoms_spec (ws := wsX10_set) B.pre
  have hown : s.vm.findClass RX10 = some m.cls := findClass_of_methodNamed B.named
  have hlocks := B.notSynchronized
  subst hsz
  have hD := hD0.self (sz := s.heap.size)
  generalize hAe : va_A [((ad 0), .inr (10, [.ref (ad 1), .ref (ad 2), .ref (ad 3), .ref (ad 4), .ref (ad 5), .ref (ad 6), .ref (ad 7), .ref (ad 8), .ref (ad 9), .ref (ad 10), .ref (ad 11), .int 0, .int 0, .int 0])), ((ad 1), .inr (9, [.ref (ad 12), .ref (ad 13), .ref (ad 14)])), ((ad 14), .inl (cI, 8, .inl (fun _ => (-1))))] s.heap.size = A at hD ⊢
  have hA : ∀ q : Nat, s.heap.size ≤ q → A q := fun q h => by rw [← hAe]; exact Or.inr h
  have hS : va_S A s.heap s.heap [] := va_S.rf
  have hP : va_P D vwCl [((ad 0), .inr (10, [.ref (ad 1), .ref (ad 2), .ref (ad 3), .ref (ad 4), .ref (ad 5), .ref (ad 6), .ref (ad 7), .ref (ad 8), .ref (ad 9), .ref (ad 10), .ref (ad 11), .int 0, .int 0, .int 0])), ((ad 1), .inr (9, [.ref (ad 12), .ref (ad 13), .ref (ad 14)])), ((ad 14), .inl (cI, 8, .inl (fun _ => (-1))))] s.heap := hP
  have hl := lv_entry ([.ref (ad 0), .int a, .int i, .int v]) (n := 4) (Nat.le_of_ble_eq_true rfl)
  rw [lg_entry_eq]
  generalize (lg_sl ([.ref (ad 0), .int a, .int i, .int v]) ++ List.replicate (4 - (lg_sl ([.ref (ad 0), .int a, .int i, .int v])).length) Slot.unset).toArray = ls at hl ⊢
  have hl : lv_has ls 4 [(0, .ref (ad 0)), (1, .int a), (2, .int i), (3, .int v)] := hl
  have k0 : (0 : Int32).toInt = 0 := by decide
  have k1 : (1 : Int32).toInt = 1 := by decide
  have k8 : (8 : Int32).toInt = 8 := by decide
  refine lv_iload_n hx hb dX10_set_0 rfl (lv_at hl 1 rfl) ?_
  refine lv_bipush (v := 8) hx hb dX10_set_1 (by decide) ?_
  refine st_i (wr := [((ad 0), .inr (10, [.ref (ad 1), .ref (ad 2), .ref (ad 3), .ref (ad 4), .ref (ad 5), .ref (ad 6), .ref (ad 7), .ref (ad 8), .ref (ad 9), .ref (ad 10), .ref (ad 11), .int 0, .int 0, .int 0])), ((ad 1), .inr (9, [.ref (ad 12), .ref (ad 13), .ref (ad 14)])), ((ad 14), .inl (cI, 8, .inl (fun _ => (-1))))]) (va_runS (As := [.int a, .int 8]) (rest := []) ⟨hx, hb, hml, hown, hts⟩ (ct_X10_isBelow l D cI cY cJ cQ _ a (8)) (va_cwS 2 hts gX10_set_X10_isBelow rfl rfl rfl (by decide +kernel) ⟨Nat.le_of_ble_eq_true rfl, Nat.le_of_ble_eq_true rfl⟩) (cPreS (hP.sub [] rfl) hK (hD.sub [] (by decide) rfl) hN) rfl rfl hl.1 rfl (lv_room (Nat.le_of_ble_eq_true rfl)) dX10_set_3 ⟨Nat.le_of_ble_eq_true rfl, Nat.le_of_ble_eq_true rfl⟩) hP hD hS hA [] [0, 1, 2] rfl rfl (by decide) (by decide) (fun r3 u1 H locs hw2 hP hD hS => ?_)
  replace hP : va_P D vwCl [((ad 0), .inr (10, [.ref (ad 1), .ref (ad 2), .ref (ad 3), .ref (ad 4), .ref (ad 5), .ref (ad 6), .ref (ad 7), .ref (ad 8), .ref (ad 9), .ref (ad 10), .ref (ad 11), .int 0, .int 0, .int 0])), ((ad 1), .inr (9, [.ref (ad 12), .ref (ad 13), .ref (ad 14)])), ((ad 14), .inl (cI, 8, .inl (fun _ => (-1))))] H := hP
  replace hD : va_D A [((ad 0), .inr (10, [.ref (ad 1), .ref (ad 2), .ref (ad 3), .ref (ad 4), .ref (ad 5), .ref (ad 6), .ref (ad 7), .ref (ad 8), .ref (ad 9), .ref (ad 10), .ref (ad 11), .int 0, .int 0, .int 0])), ((ad 1), .inr (9, [.ref (ad 12), .ref (ad 13), .ref (ad 14)])), ((ad 14), .inl (cI, 8, .inl (fun _ => (-1))))] := hD
  refine lv_if_ne (tgt := 12) hx hb dX10_set_6 (by decide) (fun c4 => ?_) (fun c4 => ?_)
  · skip
    have f5 := bo_t hw2 c4
    refine lv_aload_n hx hb dX10_set_12 rfl (lv_at hl 0 rfl) ?_
    refine va_get (D := D) (ci := 10) (v := .ref (ad 1)) (C := RX10) (T := TX10) (N := 14) hx hb hts (by decide +kernel) hown hK hP 0 rfl rfl 0 (by decide) (hts (.fieldLink RX10 10 "PortRooms" "sheets" "LPortRooms$Sheets;") (by decide +kernel)) (fun _ h9 => h9) rfl dX10_set_13 ?_
    refine lv_iload_n hx hb dX10_set_16 rfl (lv_at hl 1 rfl) ?_
    refine st_i (wr := [((ad 0), .inr (10, [.ref (ad 1), .ref (ad 2), .ref (ad 3), .ref (ad 4), .ref (ad 5), .ref (ad 6), .ref (ad 7), .ref (ad 8), .ref (ad 9), .ref (ad 10), .ref (ad 11), .int 0, .int 0, .int 0]))]) (va_runV (C := RX9) (As := [.int a]) (rest := []) ⟨hx, hb, hml, hown, hts⟩ (ct_X9_isMissing l D cI cY cJ cQ _ ad a (by omega) (by omega)) (cwV 1 hts gX10_set_X9_isMissing rfl rfl rfl (by decide +kernel) ⟨Nat.le_of_ble_eq_true rfl, Nat.le_of_ble_eq_true rfl⟩) (cPreV (hP.sub [1, 2] rfl) hK (hD.sub [1, 2] (by decide) rfl) hN (ci := 9) (q0 := 0) rfl rfl) rfl rfl hl.1 rfl (lv_room (Nat.le_of_ble_eq_true rfl)) dX10_set_17 ⟨Nat.le_of_ble_eq_true rfl, Nat.le_of_ble_eq_true rfl⟩) hP hD hS hA [1, 2] [0] rfl rfl (by decide) (by decide) (fun r8 u6 H locs hw7 hP hD hS => ?_)
    replace hP : va_P D vwCl [((ad 0), .inr (10, [.ref (ad 1), .ref (ad 2), .ref (ad 3), .ref (ad 4), .ref (ad 5), .ref (ad 6), .ref (ad 7), .ref (ad 8), .ref (ad 9), .ref (ad 10), .ref (ad 11), .int 0, .int 0, .int 0])), ((ad 1), .inr (9, [.ref (ad 12), .ref (ad 13), .ref (ad 14)])), ((ad 14), .inl (cI, 8, .inl (fun _ => (-1))))] H := hP
    replace hD : va_D A [((ad 0), .inr (10, [.ref (ad 1), .ref (ad 2), .ref (ad 3), .ref (ad 4), .ref (ad 5), .ref (ad 6), .ref (ad 7), .ref (ad 8), .ref (ad 9), .ref (ad 10), .ref (ad 11), .int 0, .int 0, .int 0])), ((ad 1), .inr (9, [.ref (ad 12), .ref (ad 13), .ref (ad 14)])), ((ad 14), .inl (cI, 8, .inl (fun _ => (-1))))] := hD
    subst hw7
    refine lv_if_eq (tgt := 29) hx hb dX10_set_20 (by decide) (fun c => absurd c (by decide)) (fun _ => ?_)
    refine lv_aload_n hx hb dX10_set_23 rfl (lv_at hl 0 rfl) ?_
    refine lv_iconst (v := 1) hx hb dX10_set_24 (by decide) ?_
    refine st_i (wr := [((ad 1), .inr (9, [.ref (ad 12), .ref (ad 13), .ref (ad 14)])), ((ad 14), .inl (cI, 8, .inl (fun _ => (-1))))]) (va_runV (C := RX10) (As := [.int 1]) (rest := []) ⟨hx, hb, hml, hown, hts⟩ (ct_X10_finding l D cI cY cJ cQ _ ad (1)) (cwV 1 hts gX10_set_X10_finding rfl rfl rfl (by decide +kernel) ⟨Nat.le_of_ble_eq_true rfl, Nat.le_of_ble_eq_true rfl⟩) (cPreV (hP.sub [0] rfl) hK (hD.sub [0] (by decide) rfl) hN (ci := 10) (q0 := 0) rfl rfl) rfl rfl hl.1 rfl (lv_room (Nat.le_of_ble_eq_true rfl)) dX10_set_25 ⟨Nat.le_of_ble_eq_true rfl, Nat.le_of_ble_eq_true rfl⟩) hP hD hS hA [0] [1, 2] rfl rfl (by decide) (by decide) (fun r11 u9 H locs hw10 hP hD hS => ?_)
    replace hP : va_P D vwCl [((ad 1), .inr (9, [.ref (ad 12), .ref (ad 13), .ref (ad 14)])), ((ad 14), .inl (cI, 8, .inl (fun _ => (-1))))] H := hP
    replace hD : va_D A [((ad 1), .inr (9, [.ref (ad 12), .ref (ad 13), .ref (ad 14)])), ((ad 14), .inl (cI, 8, .inl (fun _ => (-1))))] := hD
    replace hw10 : r11 = (-1000011) := hw10.trans (by decide)
    subst hw10
    have hP9 := hP.sub (ws' := []) [] rfl
    have hD9 := hD.sub (ws' := []) [] (by decide) rfl
    exact W.iret (v := (-1000011)) hx hb hr (fun t ht hW => ⟨⟨(-1000011), (), rfl, (by unfold an_set; (repeat' split) <;> first | rfl | (exfalso; omega)), by rw [ht]; exact hP9, va_K.moved hW.alike hK, hD9⟩, hS.F ht⟩) hS.2.2 dX10_set_28
  · skip
    have f12 := bo_f hw2 c4
    refine lv_ldc hx hb hown (hts (.constant RX10 89 (-1000001)) (by decide +kernel)) dX10_set_9 ?_
    have hP9 := hP.sub (ws' := []) [] rfl
    have hD9 := hD.sub (ws' := []) [] (by decide) rfl
    exact W.iret (v := (-1000001)) hx hb hr (fun t ht hW => ⟨⟨(-1000001), (), rfl, (by unfold an_set; (repeat' split) <;> first | rfl | (exfalso; omega)), by rw [ht]; exact hP9, va_K.moved hW.alike hK, hD9⟩, hS.F ht⟩) hS.2.2 dX10_set_11

set_option maxHeartbeats 4000000 in
set_option maxRecDepth 100000 in
theorem ct_X10_copy (l : Launch) (D : va_G) (cI cY cJ cQ : ClassId) (sz : Nat) (ad : Nat → Nat) (a i b j n : Int32)   : Met l yX10_copy wsX10_copy ({ frames := 1, cells := 0, slots := 0, locals := 21 }) (cPre D (ty4 cI cY cJ cQ) [((ad 0), .inr (10, [.ref (ad 1), .ref (ad 2), .ref (ad 3), .ref (ad 4), .ref (ad 5), .ref (ad 6), .ref (ad 7), .ref (ad 8), .ref (ad 9), .ref (ad 10), .ref (ad 11), .int 0, .int 0, .int 0])), ((ad 1), .inr (9, [.ref (ad 12), .ref (ad 13), .ref (ad 14)])), ((ad 14), .inl (cI, 8, .inl (fun _ => (-1))))] sz [.ref (ad 0), .int a, .int i, .int b, .int j, .int n]) (va_Qi (fun (r : Int32) (u : Unit) => r = an_copy a i b j n) (cB D (ty4 cI cY cJ cQ) (fun (u : Unit) => []) (va_A [((ad 0), .inr (10, [.ref (ad 1), .ref (ad 2), .ref (ad 3), .ref (ad 4), .ref (ad 5), .ref (ad 6), .ref (ad 7), .ref (ad 8), .ref (ad 9), .ref (ad 10), .ref (ad 11), .int 0, .int 0, .int 0])), ((ad 1), .inr (9, [.ref (ad 12), .ref (ad 13), .ref (ad 14)])), ((ad 14), .inl (cI, 8, .inl (fun _ => (-1))))] sz)) (va_A [((ad 0), .inr (10, [.ref (ad 1), .ref (ad 2), .ref (ad 3), .ref (ad 4), .ref (ad 5), .ref (ad 6), .ref (ad 7), .ref (ad 8), .ref (ad 9), .ref (ad 10), .ref (ad 11), .int 0, .int 0, .int 0])), ((ad 1), .inr (9, [.ref (ad 12), .ref (ad 13), .ref (ad 14)])), ((ad 14), .inl (cI, 8, .inl (fun _ => (-1))))] sz)) 0 0 (va_A [((ad 0), .inr (10, [.ref (ad 1), .ref (ad 2), .ref (ad 3), .ref (ad 4), .ref (ad 5), .ref (ad 6), .ref (ad 7), .ref (ad 8), .ref (ad 9), .ref (ad 10), .ref (ad 11), .int 0, .int 0, .int 0])), ((ad 1), .inr (9, [.ref (ad 12), .ref (ad 13), .ref (ad 14)])), ((ad 14), .inl (cI, 8, .inl (fun _ => (-1))))] sz) := by
  refine Met.ofW (cc := cX10_copy) (maxL := 6) (ret := (some .int)) (by decide) rfl ?_
  intro p e s m args below meth c s₁ B hml hv
  obtain ⟨rfl, hsz, hP, hK, hD0, hN⟩ := hv
  have hx := B.exec
  have hb := B.bytes
  have hr := B.returns
  have hts := atoms_spec (ws := wsX10_copy) B.pre
  have hown : s.vm.findClass RX10 = some m.cls := findClass_of_methodNamed B.named
  have hlocks := B.notSynchronized
  subst hsz
  have hD := hD0.self (sz := s.heap.size)
  generalize hAe : va_A [((ad 0), .inr (10, [.ref (ad 1), .ref (ad 2), .ref (ad 3), .ref (ad 4), .ref (ad 5), .ref (ad 6), .ref (ad 7), .ref (ad 8), .ref (ad 9), .ref (ad 10), .ref (ad 11), .int 0, .int 0, .int 0])), ((ad 1), .inr (9, [.ref (ad 12), .ref (ad 13), .ref (ad 14)])), ((ad 14), .inl (cI, 8, .inl (fun _ => (-1))))] s.heap.size = A at hD ⊢
  have hA : ∀ q : Nat, s.heap.size ≤ q → A q := fun q h => by rw [← hAe]; exact Or.inr h
  have hS : va_S A s.heap s.heap [] := va_S.rf
  have hP : va_P D vwCl [((ad 0), .inr (10, [.ref (ad 1), .ref (ad 2), .ref (ad 3), .ref (ad 4), .ref (ad 5), .ref (ad 6), .ref (ad 7), .ref (ad 8), .ref (ad 9), .ref (ad 10), .ref (ad 11), .int 0, .int 0, .int 0])), ((ad 1), .inr (9, [.ref (ad 12), .ref (ad 13), .ref (ad 14)])), ((ad 14), .inl (cI, 8, .inl (fun _ => (-1))))] s.heap := hP
  have hl := lv_entry ([.ref (ad 0), .int a, .int i, .int b, .int j, .int n]) (n := 6) (Nat.le_of_ble_eq_true rfl)
  rw [lg_entry_eq]
  generalize (lg_sl ([.ref (ad 0), .int a, .int i, .int b, .int j, .int n]) ++ List.replicate (6 - (lg_sl ([.ref (ad 0), .int a, .int i, .int b, .int j, .int n])).length) Slot.unset).toArray = ls at hl ⊢
  have hl : lv_has ls 6 [(0, .ref (ad 0)), (1, .int a), (2, .int i), (3, .int b), (4, .int j), (5, .int n)] := hl
  have k0 : (0 : Int32).toInt = 0 := by decide
  have k1 : (1 : Int32).toInt = 1 := by decide
  have k8 : (8 : Int32).toInt = 8 := by decide
  refine lv_iload_n hx hb dX10_copy_0 rfl (lv_at hl 1 rfl) ?_
  refine lv_bipush (v := 8) hx hb dX10_copy_1 (by decide) ?_
  refine st_i (wr := [((ad 0), .inr (10, [.ref (ad 1), .ref (ad 2), .ref (ad 3), .ref (ad 4), .ref (ad 5), .ref (ad 6), .ref (ad 7), .ref (ad 8), .ref (ad 9), .ref (ad 10), .ref (ad 11), .int 0, .int 0, .int 0])), ((ad 1), .inr (9, [.ref (ad 12), .ref (ad 13), .ref (ad 14)])), ((ad 14), .inl (cI, 8, .inl (fun _ => (-1))))]) (va_runS (As := [.int a, .int 8]) (rest := []) ⟨hx, hb, hml, hown, hts⟩ (ct_X10_isBelow l D cI cY cJ cQ _ a (8)) (va_cwS 2 hts gX10_copy_X10_isBelow rfl rfl rfl (by decide +kernel) ⟨Nat.le_of_ble_eq_true rfl, Nat.le_of_ble_eq_true rfl⟩) (cPreS (hP.sub [] rfl) hK (hD.sub [] (by decide) rfl) hN) rfl rfl hl.1 rfl (lv_room (Nat.le_of_ble_eq_true rfl)) dX10_copy_3 ⟨Nat.le_of_ble_eq_true rfl, Nat.le_of_ble_eq_true rfl⟩) hP hD hS hA [] [0, 1, 2] rfl rfl (by decide) (by decide) (fun r3 u1 H locs hw2 hP hD hS => ?_)
  replace hP : va_P D vwCl [((ad 0), .inr (10, [.ref (ad 1), .ref (ad 2), .ref (ad 3), .ref (ad 4), .ref (ad 5), .ref (ad 6), .ref (ad 7), .ref (ad 8), .ref (ad 9), .ref (ad 10), .ref (ad 11), .int 0, .int 0, .int 0])), ((ad 1), .inr (9, [.ref (ad 12), .ref (ad 13), .ref (ad 14)])), ((ad 14), .inl (cI, 8, .inl (fun _ => (-1))))] H := hP
  replace hD : va_D A [((ad 0), .inr (10, [.ref (ad 1), .ref (ad 2), .ref (ad 3), .ref (ad 4), .ref (ad 5), .ref (ad 6), .ref (ad 7), .ref (ad 8), .ref (ad 9), .ref (ad 10), .ref (ad 11), .int 0, .int 0, .int 0])), ((ad 1), .inr (9, [.ref (ad 12), .ref (ad 13), .ref (ad 14)])), ((ad 14), .inl (cI, 8, .inl (fun _ => (-1))))] := hD
  refine lv_if_eq (tgt := 18) hx hb dX10_copy_6 (by decide) (fun c4 => ?_) (fun c4 => ?_)
  · skip
    have f5 := bo_f hw2 c4
    refine lv_ldc hx hb hown (hts (.constant RX10 89 (-1000001)) (by decide +kernel)) dX10_copy_18 ?_
    have hP9 := hP.sub (ws' := []) [] rfl
    have hD9 := hD.sub (ws' := []) [] (by decide) rfl
    exact W.iret (v := (-1000001)) hx hb hr (fun t ht hW => ⟨⟨(-1000001), (), rfl, (by unfold an_copy; (repeat' split) <;> first | rfl | (exfalso; omega)), by rw [ht]; exact hP9, va_K.moved hW.alike hK, hD9⟩, hS.F ht⟩) hS.2.2 dX10_copy_20
  · skip
    have f6 := bo_t hw2 c4
    refine lv_iload_n hx hb dX10_copy_9 rfl (lv_at hl 3 rfl) ?_
    refine lv_bipush (v := 8) hx hb dX10_copy_10 (by decide) ?_
    refine st_i (wr := [((ad 0), .inr (10, [.ref (ad 1), .ref (ad 2), .ref (ad 3), .ref (ad 4), .ref (ad 5), .ref (ad 6), .ref (ad 7), .ref (ad 8), .ref (ad 9), .ref (ad 10), .ref (ad 11), .int 0, .int 0, .int 0])), ((ad 1), .inr (9, [.ref (ad 12), .ref (ad 13), .ref (ad 14)])), ((ad 14), .inl (cI, 8, .inl (fun _ => (-1))))]) (va_runS (As := [.int b, .int 8]) (rest := []) ⟨hx, hb, hml, hown, hts⟩ (ct_X10_isBelow l D cI cY cJ cQ _ b (8)) (va_cwS 2 hts gX10_copy_X10_isBelow rfl rfl rfl (by decide +kernel) ⟨Nat.le_of_ble_eq_true rfl, Nat.le_of_ble_eq_true rfl⟩) (cPreS (hP.sub [] rfl) hK (hD.sub [] (by decide) rfl) hN) rfl rfl hl.1 rfl (lv_room (Nat.le_of_ble_eq_true rfl)) dX10_copy_12 ⟨Nat.le_of_ble_eq_true rfl, Nat.le_of_ble_eq_true rfl⟩) hP hD hS hA [] [0, 1, 2] rfl rfl (by decide) (by decide) (fun r9 u7 H locs hw8 hP hD hS => ?_)
    replace hP : va_P D vwCl [((ad 0), .inr (10, [.ref (ad 1), .ref (ad 2), .ref (ad 3), .ref (ad 4), .ref (ad 5), .ref (ad 6), .ref (ad 7), .ref (ad 8), .ref (ad 9), .ref (ad 10), .ref (ad 11), .int 0, .int 0, .int 0])), ((ad 1), .inr (9, [.ref (ad 12), .ref (ad 13), .ref (ad 14)])), ((ad 14), .inl (cI, 8, .inl (fun _ => (-1))))] H := hP
    replace hD : va_D A [((ad 0), .inr (10, [.ref (ad 1), .ref (ad 2), .ref (ad 3), .ref (ad 4), .ref (ad 5), .ref (ad 6), .ref (ad 7), .ref (ad 8), .ref (ad 9), .ref (ad 10), .ref (ad 11), .int 0, .int 0, .int 0])), ((ad 1), .inr (9, [.ref (ad 12), .ref (ad 13), .ref (ad 14)])), ((ad 14), .inl (cI, 8, .inl (fun _ => (-1))))] := hD
    refine lv_if_ne (tgt := 21) hx hb dX10_copy_15 (by decide) (fun c10 => ?_) (fun c10 => ?_)
    · skip
      have f11 := bo_t hw8 c10
      refine lv_aload_n hx hb dX10_copy_21 rfl (lv_at hl 0 rfl) ?_
      refine va_get (D := D) (ci := 10) (v := .ref (ad 1)) (C := RX10) (T := TX10) (N := 14) hx hb hts (by decide +kernel) hown hK hP 0 rfl rfl 0 (by decide) (hts (.fieldLink RX10 10 "PortRooms" "sheets" "LPortRooms$Sheets;") (by decide +kernel)) (fun _ h9 => h9) rfl dX10_copy_22 ?_
      refine lv_iload_n hx hb dX10_copy_25 rfl (lv_at hl 1 rfl) ?_
      refine st_i (wr := [((ad 0), .inr (10, [.ref (ad 1), .ref (ad 2), .ref (ad 3), .ref (ad 4), .ref (ad 5), .ref (ad 6), .ref (ad 7), .ref (ad 8), .ref (ad 9), .ref (ad 10), .ref (ad 11), .int 0, .int 0, .int 0]))]) (va_runV (C := RX9) (As := [.int a]) (rest := []) ⟨hx, hb, hml, hown, hts⟩ (ct_X9_isMissing l D cI cY cJ cQ _ ad a (by omega) (by omega)) (cwV 1 hts gX10_copy_X9_isMissing rfl rfl rfl (by decide +kernel) ⟨Nat.le_of_ble_eq_true rfl, Nat.le_of_ble_eq_true rfl⟩) (cPreV (hP.sub [1, 2] rfl) hK (hD.sub [1, 2] (by decide) rfl) hN (ci := 9) (q0 := 0) rfl rfl) rfl rfl hl.1 rfl (lv_room (Nat.le_of_ble_eq_true rfl)) dX10_copy_26 ⟨Nat.le_of_ble_eq_true rfl, Nat.le_of_ble_eq_true rfl⟩) hP hD hS hA [1, 2] [0] rfl rfl (by decide) (by decide) (fun r14 u12 H locs hw13 hP hD hS => ?_)
      replace hP : va_P D vwCl [((ad 0), .inr (10, [.ref (ad 1), .ref (ad 2), .ref (ad 3), .ref (ad 4), .ref (ad 5), .ref (ad 6), .ref (ad 7), .ref (ad 8), .ref (ad 9), .ref (ad 10), .ref (ad 11), .int 0, .int 0, .int 0])), ((ad 1), .inr (9, [.ref (ad 12), .ref (ad 13), .ref (ad 14)])), ((ad 14), .inl (cI, 8, .inl (fun _ => (-1))))] H := hP
      replace hD : va_D A [((ad 0), .inr (10, [.ref (ad 1), .ref (ad 2), .ref (ad 3), .ref (ad 4), .ref (ad 5), .ref (ad 6), .ref (ad 7), .ref (ad 8), .ref (ad 9), .ref (ad 10), .ref (ad 11), .int 0, .int 0, .int 0])), ((ad 1), .inr (9, [.ref (ad 12), .ref (ad 13), .ref (ad 14)])), ((ad 14), .inl (cI, 8, .inl (fun _ => (-1))))] := hD
      subst hw13
      refine lv_if_ne (tgt := 43) hx hb dX10_copy_29 (by decide) (fun _ => ?_) (fun c => absurd c (by decide))
      refine lv_aload_n hx hb dX10_copy_43 rfl (lv_at hl 0 rfl) ?_
      refine lv_iconst (v := 1) hx hb dX10_copy_44 (by decide) ?_
      refine st_i (wr := [((ad 1), .inr (9, [.ref (ad 12), .ref (ad 13), .ref (ad 14)])), ((ad 14), .inl (cI, 8, .inl (fun _ => (-1))))]) (va_runV (C := RX10) (As := [.int 1]) (rest := []) ⟨hx, hb, hml, hown, hts⟩ (ct_X10_finding l D cI cY cJ cQ _ ad (1)) (cwV 1 hts gX10_copy_X10_finding rfl rfl rfl (by decide +kernel) ⟨Nat.le_of_ble_eq_true rfl, Nat.le_of_ble_eq_true rfl⟩) (cPreV (hP.sub [0] rfl) hK (hD.sub [0] (by decide) rfl) hN (ci := 10) (q0 := 0) rfl rfl) rfl rfl hl.1 rfl (lv_room (Nat.le_of_ble_eq_true rfl)) dX10_copy_45 ⟨Nat.le_of_ble_eq_true rfl, Nat.le_of_ble_eq_true rfl⟩) hP hD hS hA [0] [1, 2] rfl rfl (by decide) (by decide) (fun r17 u15 H locs hw16 hP hD hS => ?_)
      replace hP : va_P D vwCl [((ad 1), .inr (9, [.ref (ad 12), .ref (ad 13), .ref (ad 14)])), ((ad 14), .inl (cI, 8, .inl (fun _ => (-1))))] H := hP
      replace hD : va_D A [((ad 1), .inr (9, [.ref (ad 12), .ref (ad 13), .ref (ad 14)])), ((ad 14), .inl (cI, 8, .inl (fun _ => (-1))))] := hD
      replace hw16 : r17 = (-1000011) := hw16.trans (by decide)
      subst hw16
      have hP9 := hP.sub (ws' := []) [] rfl
      have hD9 := hD.sub (ws' := []) [] (by decide) rfl
      exact W.iret (v := (-1000011)) hx hb hr (fun t ht hW => ⟨⟨(-1000011), (), rfl, (by unfold an_copy; (repeat' split) <;> first | rfl | (exfalso; omega)), by rw [ht]; exact hP9, va_K.moved hW.alike hK, hD9⟩, hS.F ht⟩) hS.2.2 dX10_copy_48
    · skip
      have f18 := bo_f hw8 c10
      refine lv_ldc hx hb hown (hts (.constant RX10 89 (-1000001)) (by decide +kernel)) dX10_copy_18 ?_
      have hP9 := hP.sub (ws' := []) [] rfl
      have hD9 := hD.sub (ws' := []) [] (by decide) rfl
      exact W.iret (v := (-1000001)) hx hb hr (fun t ht hW => ⟨⟨(-1000001), (), rfl, (by unfold an_copy; (repeat' split) <;> first | rfl | (exfalso; omega)), by rw [ht]; exact hP9, va_K.moved hW.alike hK, hD9⟩, hS.F ht⟩) hS.2.2 dX10_copy_20

set_option maxHeartbeats 4000000 in
set_option maxRecDepth 100000 in
theorem ct_X10_drop (l : Launch) (D : va_G) (cI cY cJ cQ : ClassId) (sz : Nat) (ad : Nat → Nat) (a : Int32)   : Met l yX10_drop wsX10_drop ({ frames := 1, cells := 0, slots := 0, locals := 21 }) (cPre D (ty4 cI cY cJ cQ) [((ad 0), .inr (10, [.ref (ad 1), .ref (ad 2), .ref (ad 3), .ref (ad 4), .ref (ad 5), .ref (ad 6), .ref (ad 7), .ref (ad 8), .ref (ad 9), .ref (ad 10), .ref (ad 11), .int 0, .int 0, .int 0])), ((ad 1), .inr (9, [.ref (ad 12), .ref (ad 13), .ref (ad 14)])), ((ad 14), .inl (cI, 8, .inl (fun _ => (-1))))] sz [.ref (ad 0), .int a]) (va_Qi (fun (r : Int32) (u : Unit) => r = an_drop a) (cB D (ty4 cI cY cJ cQ) (fun (u : Unit) => []) (va_A [((ad 0), .inr (10, [.ref (ad 1), .ref (ad 2), .ref (ad 3), .ref (ad 4), .ref (ad 5), .ref (ad 6), .ref (ad 7), .ref (ad 8), .ref (ad 9), .ref (ad 10), .ref (ad 11), .int 0, .int 0, .int 0])), ((ad 1), .inr (9, [.ref (ad 12), .ref (ad 13), .ref (ad 14)])), ((ad 14), .inl (cI, 8, .inl (fun _ => (-1))))] sz)) (va_A [((ad 0), .inr (10, [.ref (ad 1), .ref (ad 2), .ref (ad 3), .ref (ad 4), .ref (ad 5), .ref (ad 6), .ref (ad 7), .ref (ad 8), .ref (ad 9), .ref (ad 10), .ref (ad 11), .int 0, .int 0, .int 0])), ((ad 1), .inr (9, [.ref (ad 12), .ref (ad 13), .ref (ad 14)])), ((ad 14), .inl (cI, 8, .inl (fun _ => (-1))))] sz)) 0 0 (va_A [((ad 0), .inr (10, [.ref (ad 1), .ref (ad 2), .ref (ad 3), .ref (ad 4), .ref (ad 5), .ref (ad 6), .ref (ad 7), .ref (ad 8), .ref (ad 9), .ref (ad 10), .ref (ad 11), .int 0, .int 0, .int 0])), ((ad 1), .inr (9, [.ref (ad 12), .ref (ad 13), .ref (ad 14)])), ((ad 14), .inl (cI, 8, .inl (fun _ => (-1))))] sz) := by
  refine Met.ofW (cc := cX10_drop) (maxL := 3) (ret := (some .int)) (by decide) rfl ?_
  intro p e s m args below meth c s₁ B hml hv
  obtain ⟨rfl, hsz, hP, hK, hD0, hN⟩ := hv
  have hx := B.exec
  have hb := B.bytes
  have hr := B.returns
  have hts := atoms_spec (ws := wsX10_drop) B.pre
  have hown : s.vm.findClass RX10 = some m.cls := findClass_of_methodNamed B.named
  have hlocks := B.notSynchronized
  subst hsz
  have hD := hD0.self (sz := s.heap.size)
  generalize hAe : va_A [((ad 0), .inr (10, [.ref (ad 1), .ref (ad 2), .ref (ad 3), .ref (ad 4), .ref (ad 5), .ref (ad 6), .ref (ad 7), .ref (ad 8), .ref (ad 9), .ref (ad 10), .ref (ad 11), .int 0, .int 0, .int 0])), ((ad 1), .inr (9, [.ref (ad 12), .ref (ad 13), .ref (ad 14)])), ((ad 14), .inl (cI, 8, .inl (fun _ => (-1))))] s.heap.size = A at hD ⊢
  have hA : ∀ q : Nat, s.heap.size ≤ q → A q := fun q h => by rw [← hAe]; exact Or.inr h
  have hS : va_S A s.heap s.heap [] := va_S.rf
  have hP : va_P D vwCl [((ad 0), .inr (10, [.ref (ad 1), .ref (ad 2), .ref (ad 3), .ref (ad 4), .ref (ad 5), .ref (ad 6), .ref (ad 7), .ref (ad 8), .ref (ad 9), .ref (ad 10), .ref (ad 11), .int 0, .int 0, .int 0])), ((ad 1), .inr (9, [.ref (ad 12), .ref (ad 13), .ref (ad 14)])), ((ad 14), .inl (cI, 8, .inl (fun _ => (-1))))] s.heap := hP
  have hl := lv_entry ([.ref (ad 0), .int a]) (n := 3) (Nat.le_of_ble_eq_true rfl)
  rw [lg_entry_eq]
  generalize (lg_sl ([.ref (ad 0), .int a]) ++ List.replicate (3 - (lg_sl ([.ref (ad 0), .int a])).length) Slot.unset).toArray = ls at hl ⊢
  have hl : lv_has ls 3 [(0, .ref (ad 0)), (1, .int a)] := hl
  have k0 : (0 : Int32).toInt = 0 := by decide
  have k1 : (1 : Int32).toInt = 1 := by decide
  have k8 : (8 : Int32).toInt = 8 := by decide
  refine lv_iload_n hx hb dX10_drop_0 rfl (lv_at hl 1 rfl) ?_
  refine lv_bipush (v := 8) hx hb dX10_drop_1 (by decide) ?_
  refine st_i (wr := [((ad 0), .inr (10, [.ref (ad 1), .ref (ad 2), .ref (ad 3), .ref (ad 4), .ref (ad 5), .ref (ad 6), .ref (ad 7), .ref (ad 8), .ref (ad 9), .ref (ad 10), .ref (ad 11), .int 0, .int 0, .int 0])), ((ad 1), .inr (9, [.ref (ad 12), .ref (ad 13), .ref (ad 14)])), ((ad 14), .inl (cI, 8, .inl (fun _ => (-1))))]) (va_runS (As := [.int a, .int 8]) (rest := []) ⟨hx, hb, hml, hown, hts⟩ (ct_X10_isBelow l D cI cY cJ cQ _ a (8)) (va_cwS 2 hts gX10_drop_X10_isBelow rfl rfl rfl (by decide +kernel) ⟨Nat.le_of_ble_eq_true rfl, Nat.le_of_ble_eq_true rfl⟩) (cPreS (hP.sub [] rfl) hK (hD.sub [] (by decide) rfl) hN) rfl rfl hl.1 rfl (lv_room (Nat.le_of_ble_eq_true rfl)) dX10_drop_3 ⟨Nat.le_of_ble_eq_true rfl, Nat.le_of_ble_eq_true rfl⟩) hP hD hS hA [] [0, 1, 2] rfl rfl (by decide) (by decide) (fun r3 u1 H locs hw2 hP hD hS => ?_)
  replace hP : va_P D vwCl [((ad 0), .inr (10, [.ref (ad 1), .ref (ad 2), .ref (ad 3), .ref (ad 4), .ref (ad 5), .ref (ad 6), .ref (ad 7), .ref (ad 8), .ref (ad 9), .ref (ad 10), .ref (ad 11), .int 0, .int 0, .int 0])), ((ad 1), .inr (9, [.ref (ad 12), .ref (ad 13), .ref (ad 14)])), ((ad 14), .inl (cI, 8, .inl (fun _ => (-1))))] H := hP
  replace hD : va_D A [((ad 0), .inr (10, [.ref (ad 1), .ref (ad 2), .ref (ad 3), .ref (ad 4), .ref (ad 5), .ref (ad 6), .ref (ad 7), .ref (ad 8), .ref (ad 9), .ref (ad 10), .ref (ad 11), .int 0, .int 0, .int 0])), ((ad 1), .inr (9, [.ref (ad 12), .ref (ad 13), .ref (ad 14)])), ((ad 14), .inl (cI, 8, .inl (fun _ => (-1))))] := hD
  refine lv_if_ne (tgt := 12) hx hb dX10_drop_6 (by decide) (fun c4 => ?_) (fun c4 => ?_)
  · skip
    have f5 := bo_t hw2 c4
    refine lv_aload_n hx hb dX10_drop_12 rfl (lv_at hl 0 rfl) ?_
    refine va_get (D := D) (ci := 10) (v := .ref (ad 1)) (C := RX10) (T := TX10) (N := 14) hx hb hts (by decide +kernel) hown hK hP 0 rfl rfl 0 (by decide) (hts (.fieldLink RX10 10 "PortRooms" "sheets" "LPortRooms$Sheets;") (by decide +kernel)) (fun _ h9 => h9) rfl dX10_drop_13 ?_
    refine lv_iload_n hx hb dX10_drop_16 rfl (lv_at hl 1 rfl) ?_
    refine st_i (wr := [((ad 0), .inr (10, [.ref (ad 1), .ref (ad 2), .ref (ad 3), .ref (ad 4), .ref (ad 5), .ref (ad 6), .ref (ad 7), .ref (ad 8), .ref (ad 9), .ref (ad 10), .ref (ad 11), .int 0, .int 0, .int 0]))]) (va_runV (C := RX9) (As := [.int a]) (rest := []) ⟨hx, hb, hml, hown, hts⟩ (ct_X9_isMissing l D cI cY cJ cQ _ ad a (by omega) (by omega)) (cwV 1 hts gX10_drop_X9_isMissing rfl rfl rfl (by decide +kernel) ⟨Nat.le_of_ble_eq_true rfl, Nat.le_of_ble_eq_true rfl⟩) (cPreV (hP.sub [1, 2] rfl) hK (hD.sub [1, 2] (by decide) rfl) hN (ci := 9) (q0 := 0) rfl rfl) rfl rfl hl.1 rfl (lv_room (Nat.le_of_ble_eq_true rfl)) dX10_drop_17 ⟨Nat.le_of_ble_eq_true rfl, Nat.le_of_ble_eq_true rfl⟩) hP hD hS hA [1, 2] [0] rfl rfl (by decide) (by decide) (fun r8 u6 H locs hw7 hP hD hS => ?_)
    replace hP : va_P D vwCl [((ad 0), .inr (10, [.ref (ad 1), .ref (ad 2), .ref (ad 3), .ref (ad 4), .ref (ad 5), .ref (ad 6), .ref (ad 7), .ref (ad 8), .ref (ad 9), .ref (ad 10), .ref (ad 11), .int 0, .int 0, .int 0])), ((ad 1), .inr (9, [.ref (ad 12), .ref (ad 13), .ref (ad 14)])), ((ad 14), .inl (cI, 8, .inl (fun _ => (-1))))] H := hP
    replace hD : va_D A [((ad 0), .inr (10, [.ref (ad 1), .ref (ad 2), .ref (ad 3), .ref (ad 4), .ref (ad 5), .ref (ad 6), .ref (ad 7), .ref (ad 8), .ref (ad 9), .ref (ad 10), .ref (ad 11), .int 0, .int 0, .int 0])), ((ad 1), .inr (9, [.ref (ad 12), .ref (ad 13), .ref (ad 14)])), ((ad 14), .inl (cI, 8, .inl (fun _ => (-1))))] := hD
    subst hw7
    refine lv_if_eq (tgt := 29) hx hb dX10_drop_20 (by decide) (fun c => absurd c (by decide)) (fun _ => ?_)
    refine lv_aload_n hx hb dX10_drop_23 rfl (lv_at hl 0 rfl) ?_
    refine lv_iconst (v := 1) hx hb dX10_drop_24 (by decide) ?_
    refine st_i (wr := [((ad 1), .inr (9, [.ref (ad 12), .ref (ad 13), .ref (ad 14)])), ((ad 14), .inl (cI, 8, .inl (fun _ => (-1))))]) (va_runV (C := RX10) (As := [.int 1]) (rest := []) ⟨hx, hb, hml, hown, hts⟩ (ct_X10_finding l D cI cY cJ cQ _ ad (1)) (cwV 1 hts gX10_drop_X10_finding rfl rfl rfl (by decide +kernel) ⟨Nat.le_of_ble_eq_true rfl, Nat.le_of_ble_eq_true rfl⟩) (cPreV (hP.sub [0] rfl) hK (hD.sub [0] (by decide) rfl) hN (ci := 10) (q0 := 0) rfl rfl) rfl rfl hl.1 rfl (lv_room (Nat.le_of_ble_eq_true rfl)) dX10_drop_25 ⟨Nat.le_of_ble_eq_true rfl, Nat.le_of_ble_eq_true rfl⟩) hP hD hS hA [0] [1, 2] rfl rfl (by decide) (by decide) (fun r11 u9 H locs hw10 hP hD hS => ?_)
    replace hP : va_P D vwCl [((ad 1), .inr (9, [.ref (ad 12), .ref (ad 13), .ref (ad 14)])), ((ad 14), .inl (cI, 8, .inl (fun _ => (-1))))] H := hP
    replace hD : va_D A [((ad 1), .inr (9, [.ref (ad 12), .ref (ad 13), .ref (ad 14)])), ((ad 14), .inl (cI, 8, .inl (fun _ => (-1))))] := hD
    replace hw10 : r11 = (-1000011) := hw10.trans (by decide)
    subst hw10
    have hP9 := hP.sub (ws' := []) [] rfl
    have hD9 := hD.sub (ws' := []) [] (by decide) rfl
    exact W.iret (v := (-1000011)) hx hb hr (fun t ht hW => ⟨⟨(-1000011), (), rfl, (by unfold an_drop; (repeat' split) <;> first | rfl | (exfalso; omega)), by rw [ht]; exact hP9, va_K.moved hW.alike hK, hD9⟩, hS.F ht⟩) hS.2.2 dX10_drop_28
  · skip
    have f12 := bo_f hw2 c4
    refine lv_ldc hx hb hown (hts (.constant RX10 89 (-1000001)) (by decide +kernel)) dX10_drop_9 ?_
    have hP9 := hP.sub (ws' := []) [] rfl
    have hD9 := hD.sub (ws' := []) [] (by decide) rfl
    exact W.iret (v := (-1000001)) hx hb hr (fun t ht hW => ⟨⟨(-1000001), (), rfl, (by unfold an_drop; (repeat' split) <;> first | rfl | (exfalso; omega)), by rw [ht]; exact hP9, va_K.moved hW.alike hK, hD9⟩, hS.F ht⟩) hS.2.2 dX10_drop_11

set_option maxHeartbeats 4000000 in
set_option maxRecDepth 100000 in
theorem ct_X10_holds (l : Launch) (D : va_G) (cI cY cJ cQ : ClassId) (sz : Nat) (ad : Nat → Nat) (a i n : Int32)   : Met l yX10_holds wsX10_holds ({ frames := 1, cells := 0, slots := 0, locals := 22 }) (cPre D (ty4 cI cY cJ cQ) [((ad 0), .inr (10, [.ref (ad 1), .ref (ad 2), .ref (ad 3), .ref (ad 4), .ref (ad 5), .ref (ad 6), .ref (ad 7), .ref (ad 8), .ref (ad 9), .ref (ad 10), .ref (ad 11), .int 0, .int 0, .int 0])), ((ad 1), .inr (9, [.ref (ad 12), .ref (ad 13), .ref (ad 14)])), ((ad 14), .inl (cI, 8, .inl (fun _ => (-1))))] sz [.ref (ad 0), .int a, .int i, .int n]) (va_Qi (fun (r : Int32) (u : Unit) => r = an_holds a i n) (cB D (ty4 cI cY cJ cQ) (fun (u : Unit) => []) (va_A [((ad 0), .inr (10, [.ref (ad 1), .ref (ad 2), .ref (ad 3), .ref (ad 4), .ref (ad 5), .ref (ad 6), .ref (ad 7), .ref (ad 8), .ref (ad 9), .ref (ad 10), .ref (ad 11), .int 0, .int 0, .int 0])), ((ad 1), .inr (9, [.ref (ad 12), .ref (ad 13), .ref (ad 14)])), ((ad 14), .inl (cI, 8, .inl (fun _ => (-1))))] sz)) (va_A [((ad 0), .inr (10, [.ref (ad 1), .ref (ad 2), .ref (ad 3), .ref (ad 4), .ref (ad 5), .ref (ad 6), .ref (ad 7), .ref (ad 8), .ref (ad 9), .ref (ad 10), .ref (ad 11), .int 0, .int 0, .int 0])), ((ad 1), .inr (9, [.ref (ad 12), .ref (ad 13), .ref (ad 14)])), ((ad 14), .inl (cI, 8, .inl (fun _ => (-1))))] sz)) 0 0 (va_A [((ad 0), .inr (10, [.ref (ad 1), .ref (ad 2), .ref (ad 3), .ref (ad 4), .ref (ad 5), .ref (ad 6), .ref (ad 7), .ref (ad 8), .ref (ad 9), .ref (ad 10), .ref (ad 11), .int 0, .int 0, .int 0])), ((ad 1), .inr (9, [.ref (ad 12), .ref (ad 13), .ref (ad 14)])), ((ad 14), .inl (cI, 8, .inl (fun _ => (-1))))] sz) := by
  refine Met.ofW (cc := cX10_holds) (maxL := 8) (ret := (some .int)) (by decide) rfl ?_
  intro p e s m args below meth c s₁ B hml hv
  obtain ⟨rfl, hsz, hP, hK, hD0, hN⟩ := hv
  have hx := B.exec
  have hb := B.bytes
  have hr := B.returns
  have hts := atoms_spec (ws := wsX10_holds) B.pre
  have hown : s.vm.findClass RX10 = some m.cls := findClass_of_methodNamed B.named
  have hlocks := B.notSynchronized
  subst hsz
  have hD := hD0.self (sz := s.heap.size)
  generalize hAe : va_A [((ad 0), .inr (10, [.ref (ad 1), .ref (ad 2), .ref (ad 3), .ref (ad 4), .ref (ad 5), .ref (ad 6), .ref (ad 7), .ref (ad 8), .ref (ad 9), .ref (ad 10), .ref (ad 11), .int 0, .int 0, .int 0])), ((ad 1), .inr (9, [.ref (ad 12), .ref (ad 13), .ref (ad 14)])), ((ad 14), .inl (cI, 8, .inl (fun _ => (-1))))] s.heap.size = A at hD ⊢
  have hA : ∀ q : Nat, s.heap.size ≤ q → A q := fun q h => by rw [← hAe]; exact Or.inr h
  have hS : va_S A s.heap s.heap [] := va_S.rf
  have hP : va_P D vwCl [((ad 0), .inr (10, [.ref (ad 1), .ref (ad 2), .ref (ad 3), .ref (ad 4), .ref (ad 5), .ref (ad 6), .ref (ad 7), .ref (ad 8), .ref (ad 9), .ref (ad 10), .ref (ad 11), .int 0, .int 0, .int 0])), ((ad 1), .inr (9, [.ref (ad 12), .ref (ad 13), .ref (ad 14)])), ((ad 14), .inl (cI, 8, .inl (fun _ => (-1))))] s.heap := hP
  have hl := lv_entry ([.ref (ad 0), .int a, .int i, .int n]) (n := 8) (Nat.le_of_ble_eq_true rfl)
  rw [lg_entry_eq]
  generalize (lg_sl ([.ref (ad 0), .int a, .int i, .int n]) ++ List.replicate (8 - (lg_sl ([.ref (ad 0), .int a, .int i, .int n])).length) Slot.unset).toArray = ls at hl ⊢
  have hl : lv_has ls 8 [(0, .ref (ad 0)), (1, .int a), (2, .int i), (3, .int n)] := hl
  have k0 : (0 : Int32).toInt = 0 := by decide
  have k1 : (1 : Int32).toInt = 1 := by decide
  have k8 : (8 : Int32).toInt = 8 := by decide
  have k15 : (15 : Int32).toInt = 15 := by decide
  refine lv_iload_n hx hb dX10_holds_0 rfl (lv_at hl 1 rfl) ?_
  refine lv_bipush (v := 8) hx hb dX10_holds_1 (by decide) ?_
  refine st_i (wr := [((ad 0), .inr (10, [.ref (ad 1), .ref (ad 2), .ref (ad 3), .ref (ad 4), .ref (ad 5), .ref (ad 6), .ref (ad 7), .ref (ad 8), .ref (ad 9), .ref (ad 10), .ref (ad 11), .int 0, .int 0, .int 0])), ((ad 1), .inr (9, [.ref (ad 12), .ref (ad 13), .ref (ad 14)])), ((ad 14), .inl (cI, 8, .inl (fun _ => (-1))))]) (va_runS (As := [.int a, .int 8]) (rest := []) ⟨hx, hb, hml, hown, hts⟩ (ct_X10_isBelow l D cI cY cJ cQ _ a (8)) (va_cwS 2 hts gX10_holds_X10_isBelow rfl rfl rfl (by decide +kernel) ⟨Nat.le_of_ble_eq_true rfl, Nat.le_of_ble_eq_true rfl⟩) (cPreS (hP.sub [] rfl) hK (hD.sub [] (by decide) rfl) hN) rfl rfl hl.1 rfl (lv_room (Nat.le_of_ble_eq_true rfl)) dX10_holds_3 ⟨Nat.le_of_ble_eq_true rfl, Nat.le_of_ble_eq_true rfl⟩) hP hD hS hA [] [0, 1, 2] rfl rfl (by decide) (by decide) (fun r3 u1 H locs hw2 hP hD hS => ?_)
  replace hP : va_P D vwCl [((ad 0), .inr (10, [.ref (ad 1), .ref (ad 2), .ref (ad 3), .ref (ad 4), .ref (ad 5), .ref (ad 6), .ref (ad 7), .ref (ad 8), .ref (ad 9), .ref (ad 10), .ref (ad 11), .int 0, .int 0, .int 0])), ((ad 1), .inr (9, [.ref (ad 12), .ref (ad 13), .ref (ad 14)])), ((ad 14), .inl (cI, 8, .inl (fun _ => (-1))))] H := hP
  replace hD : va_D A [((ad 0), .inr (10, [.ref (ad 1), .ref (ad 2), .ref (ad 3), .ref (ad 4), .ref (ad 5), .ref (ad 6), .ref (ad 7), .ref (ad 8), .ref (ad 9), .ref (ad 10), .ref (ad 11), .int 0, .int 0, .int 0])), ((ad 1), .inr (9, [.ref (ad 12), .ref (ad 13), .ref (ad 14)])), ((ad 14), .inl (cI, 8, .inl (fun _ => (-1))))] := hD
  refine lv_if_eq (tgt := 19) hx hb dX10_holds_6 (by decide) (fun c4 => ?_) (fun c4 => ?_)
  · skip
    have f5 := bo_f hw2 c4
    refine lv_ldc hx hb hown (hts (.constant RX10 89 (-1000001)) (by decide +kernel)) dX10_holds_19 ?_
    have hP9 := hP.sub (ws' := []) [] rfl
    have hD9 := hD.sub (ws' := []) [] (by decide) rfl
    exact W.iret (v := (-1000001)) hx hb hr (fun t ht hW => ⟨⟨(-1000001), (), rfl, (by unfold an_holds; (repeat' split) <;> first | rfl | (exfalso; omega)), by rw [ht]; exact hP9, va_K.moved hW.alike hK, hD9⟩, hS.F ht⟩) hS.2.2 dX10_holds_21
  · skip
    have f6 := bo_t hw2 c4
    refine lv_iload_n hx hb dX10_holds_9 rfl (lv_at hl 3 rfl) ?_
    refine lv_iconst (v := 1) hx hb dX10_holds_10 (by decide) ?_
    refine lv_bipush (v := 15) hx hb dX10_holds_11 (by decide) ?_
    refine st_i (wr := [((ad 0), .inr (10, [.ref (ad 1), .ref (ad 2), .ref (ad 3), .ref (ad 4), .ref (ad 5), .ref (ad 6), .ref (ad 7), .ref (ad 8), .ref (ad 9), .ref (ad 10), .ref (ad 11), .int 0, .int 0, .int 0])), ((ad 1), .inr (9, [.ref (ad 12), .ref (ad 13), .ref (ad 14)])), ((ad 14), .inl (cI, 8, .inl (fun _ => (-1))))]) (va_runS (As := [.int n, .int 1, .int 15]) (rest := []) ⟨hx, hb, hml, hown, hts⟩ (ct_X10_isFrom l D cI cY cJ cQ _ n (1) (15)) (va_cwS 3 hts gX10_holds_X10_isFrom rfl rfl rfl (by decide +kernel) ⟨Nat.le_of_ble_eq_true rfl, Nat.le_of_ble_eq_true rfl⟩) (cPreS (hP.sub [] rfl) hK (hD.sub [] (by decide) rfl) hN) rfl rfl hl.1 rfl (lv_room (Nat.le_of_ble_eq_true rfl)) dX10_holds_13 ⟨Nat.le_of_ble_eq_true rfl, Nat.le_of_ble_eq_true rfl⟩) hP hD hS hA [] [0, 1, 2] rfl rfl (by decide) (by decide) (fun r9 u7 H locs hw8 hP hD hS => ?_)
    replace hP : va_P D vwCl [((ad 0), .inr (10, [.ref (ad 1), .ref (ad 2), .ref (ad 3), .ref (ad 4), .ref (ad 5), .ref (ad 6), .ref (ad 7), .ref (ad 8), .ref (ad 9), .ref (ad 10), .ref (ad 11), .int 0, .int 0, .int 0])), ((ad 1), .inr (9, [.ref (ad 12), .ref (ad 13), .ref (ad 14)])), ((ad 14), .inl (cI, 8, .inl (fun _ => (-1))))] H := hP
    replace hD : va_D A [((ad 0), .inr (10, [.ref (ad 1), .ref (ad 2), .ref (ad 3), .ref (ad 4), .ref (ad 5), .ref (ad 6), .ref (ad 7), .ref (ad 8), .ref (ad 9), .ref (ad 10), .ref (ad 11), .int 0, .int 0, .int 0])), ((ad 1), .inr (9, [.ref (ad 12), .ref (ad 13), .ref (ad 14)])), ((ad 14), .inl (cI, 8, .inl (fun _ => (-1))))] := hD
    refine lv_if_ne (tgt := 22) hx hb dX10_holds_16 (by decide) (fun c10 => ?_) (fun c10 => ?_)
    · skip
      have f11 := bo_t hw8 c10
      refine lv_aload_n hx hb dX10_holds_22 rfl (lv_at hl 0 rfl) ?_
      refine va_get (D := D) (ci := 10) (v := .ref (ad 1)) (C := RX10) (T := TX10) (N := 14) hx hb hts (by decide +kernel) hown hK hP 0 rfl rfl 0 (by decide) (hts (.fieldLink RX10 10 "PortRooms" "sheets" "LPortRooms$Sheets;") (by decide +kernel)) (fun _ h9 => h9) rfl dX10_holds_23 ?_
      refine lv_iload_n hx hb dX10_holds_26 rfl (lv_at hl 1 rfl) ?_
      refine st_i (wr := [((ad 0), .inr (10, [.ref (ad 1), .ref (ad 2), .ref (ad 3), .ref (ad 4), .ref (ad 5), .ref (ad 6), .ref (ad 7), .ref (ad 8), .ref (ad 9), .ref (ad 10), .ref (ad 11), .int 0, .int 0, .int 0]))]) (va_runV (C := RX9) (As := [.int a]) (rest := []) ⟨hx, hb, hml, hown, hts⟩ (ct_X9_isMissing l D cI cY cJ cQ _ ad a (by omega) (by omega)) (cwV 1 hts gX10_holds_X9_isMissing rfl rfl rfl (by decide +kernel) ⟨Nat.le_of_ble_eq_true rfl, Nat.le_of_ble_eq_true rfl⟩) (cPreV (hP.sub [1, 2] rfl) hK (hD.sub [1, 2] (by decide) rfl) hN (ci := 9) (q0 := 0) rfl rfl) rfl rfl hl.1 rfl (lv_room (Nat.le_of_ble_eq_true rfl)) dX10_holds_27 ⟨Nat.le_of_ble_eq_true rfl, Nat.le_of_ble_eq_true rfl⟩) hP hD hS hA [1, 2] [0] rfl rfl (by decide) (by decide) (fun r14 u12 H locs hw13 hP hD hS => ?_)
      replace hP : va_P D vwCl [((ad 0), .inr (10, [.ref (ad 1), .ref (ad 2), .ref (ad 3), .ref (ad 4), .ref (ad 5), .ref (ad 6), .ref (ad 7), .ref (ad 8), .ref (ad 9), .ref (ad 10), .ref (ad 11), .int 0, .int 0, .int 0])), ((ad 1), .inr (9, [.ref (ad 12), .ref (ad 13), .ref (ad 14)])), ((ad 14), .inl (cI, 8, .inl (fun _ => (-1))))] H := hP
      replace hD : va_D A [((ad 0), .inr (10, [.ref (ad 1), .ref (ad 2), .ref (ad 3), .ref (ad 4), .ref (ad 5), .ref (ad 6), .ref (ad 7), .ref (ad 8), .ref (ad 9), .ref (ad 10), .ref (ad 11), .int 0, .int 0, .int 0])), ((ad 1), .inr (9, [.ref (ad 12), .ref (ad 13), .ref (ad 14)])), ((ad 14), .inl (cI, 8, .inl (fun _ => (-1))))] := hD
      subst hw13
      refine lv_if_eq (tgt := 39) hx hb dX10_holds_30 (by decide) (fun c => absurd c (by decide)) (fun _ => ?_)
      refine lv_aload_n hx hb dX10_holds_33 rfl (lv_at hl 0 rfl) ?_
      refine lv_iconst (v := 1) hx hb dX10_holds_34 (by decide) ?_
      refine st_i (wr := [((ad 1), .inr (9, [.ref (ad 12), .ref (ad 13), .ref (ad 14)])), ((ad 14), .inl (cI, 8, .inl (fun _ => (-1))))]) (va_runV (C := RX10) (As := [.int 1]) (rest := []) ⟨hx, hb, hml, hown, hts⟩ (ct_X10_finding l D cI cY cJ cQ _ ad (1)) (cwV 1 hts gX10_holds_X10_finding rfl rfl rfl (by decide +kernel) ⟨Nat.le_of_ble_eq_true rfl, Nat.le_of_ble_eq_true rfl⟩) (cPreV (hP.sub [0] rfl) hK (hD.sub [0] (by decide) rfl) hN (ci := 10) (q0 := 0) rfl rfl) rfl rfl hl.1 rfl (lv_room (Nat.le_of_ble_eq_true rfl)) dX10_holds_35 ⟨Nat.le_of_ble_eq_true rfl, Nat.le_of_ble_eq_true rfl⟩) hP hD hS hA [0] [1, 2] rfl rfl (by decide) (by decide) (fun r17 u15 H locs hw16 hP hD hS => ?_)
      replace hP : va_P D vwCl [((ad 1), .inr (9, [.ref (ad 12), .ref (ad 13), .ref (ad 14)])), ((ad 14), .inl (cI, 8, .inl (fun _ => (-1))))] H := hP
      replace hD : va_D A [((ad 1), .inr (9, [.ref (ad 12), .ref (ad 13), .ref (ad 14)])), ((ad 14), .inl (cI, 8, .inl (fun _ => (-1))))] := hD
      replace hw16 : r17 = (-1000011) := hw16.trans (by decide)
      subst hw16
      have hP9 := hP.sub (ws' := []) [] rfl
      have hD9 := hD.sub (ws' := []) [] (by decide) rfl
      exact W.iret (v := (-1000011)) hx hb hr (fun t ht hW => ⟨⟨(-1000011), (), rfl, (by unfold an_holds; (repeat' split) <;> first | rfl | (exfalso; omega)), by rw [ht]; exact hP9, va_K.moved hW.alike hK, hD9⟩, hS.F ht⟩) hS.2.2 dX10_holds_38
    · skip
      have f18 := bo_f hw8 c10
      refine lv_ldc hx hb hown (hts (.constant RX10 89 (-1000001)) (by decide +kernel)) dX10_holds_19 ?_
      have hP9 := hP.sub (ws' := []) [] rfl
      have hD9 := hD.sub (ws' := []) [] (by decide) rfl
      exact W.iret (v := (-1000001)) hx hb hr (fun t ht hW => ⟨⟨(-1000001), (), rfl, (by unfold an_holds; (repeat' split) <;> first | rfl | (exfalso; omega)), by rw [ht]; exact hP9, va_K.moved hW.alike hK, hD9⟩, hS.F ht⟩) hS.2.2 dX10_holds_21

set_option maxHeartbeats 4000000 in
set_option maxRecDepth 100000 in
theorem ct_X9_howMany (l : Launch) (D : va_G) (cI cY cJ cQ : ClassId) (sz : Nat) (ad : Nat → Nat)   : Met l yX9_howMany wsX9_howMany ({ frames := 1, cells := 0, slots := 0, locals := 21 }) (cPre D (ty4 cI cY cJ cQ) [((ad 1), .inr (9, [.ref (ad 12), .ref (ad 13), .ref (ad 14)])), ((ad 14), .inl (cI, 8, .inl (fun _ => (-1))))] sz [.ref (ad 1)]) (va_Qi (fun (r : Int32) (u : Unit) => r = 0) (cB D (ty4 cI cY cJ cQ) (fun (u : Unit) => []) (va_A [((ad 1), .inr (9, [.ref (ad 12), .ref (ad 13), .ref (ad 14)])), ((ad 14), .inl (cI, 8, .inl (fun _ => (-1))))] sz)) (va_A [((ad 1), .inr (9, [.ref (ad 12), .ref (ad 13), .ref (ad 14)])), ((ad 14), .inl (cI, 8, .inl (fun _ => (-1))))] sz)) 0 0 (va_A [((ad 1), .inr (9, [.ref (ad 12), .ref (ad 13), .ref (ad 14)])), ((ad 14), .inl (cI, 8, .inl (fun _ => (-1))))] sz) := by
  refine Met.ofW (cc := cX9_howMany) (maxL := 3) (ret := (some .int)) (by decide) rfl ?_
  intro p e s m args below meth c s₁ B hml hv
  obtain ⟨rfl, hsz, hP, hK, hD0, hN⟩ := hv
  have hx := B.exec
  have hb := B.bytes
  have hr := B.returns
  have hts := atoms_spec (ws := wsX9_howMany) B.pre
  have hown : s.vm.findClass RX9 = some m.cls := findClass_of_methodNamed B.named
  have hlocks := B.notSynchronized
  subst hsz
  have hD := hD0.self (sz := s.heap.size)
  generalize hAe : va_A [((ad 1), .inr (9, [.ref (ad 12), .ref (ad 13), .ref (ad 14)])), ((ad 14), .inl (cI, 8, .inl (fun _ => (-1))))] s.heap.size = A at hD ⊢
  have hA : ∀ q : Nat, s.heap.size ≤ q → A q := fun q h => by rw [← hAe]; exact Or.inr h
  have hS : va_S A s.heap s.heap [] := va_S.rf
  have hP : va_P D vwCl [((ad 1), .inr (9, [.ref (ad 12), .ref (ad 13), .ref (ad 14)])), ((ad 14), .inl (cI, 8, .inl (fun _ => (-1))))] s.heap := hP
  have hl := lv_entry ([.ref (ad 1)]) (n := 3) (Nat.le_of_ble_eq_true rfl)
  rw [lg_entry_eq]
  generalize (lg_sl ([.ref (ad 1)]) ++ List.replicate (3 - (lg_sl ([.ref (ad 1)])).length) Slot.unset).toArray = ls at hl ⊢
  have hl : lv_has ls 3 [(0, .ref (ad 1))] := hl
  have k0 : (0 : Int32).toInt = 0 := by decide
  have k1 : (1 : Int32).toInt = 1 := by decide
  have k8 : (8 : Int32).toInt = 8 := by decide
  refine lv_iconst (v := 0) hx hb dX9_howMany_0 (by decide) ?_
  refine lv_istore_n (lv' := [(1, .int 0), (0, .ref (ad 1))]) hx hb dX9_howMany_1 rfl hl (by decide) rfl (fun ls hl => ?_)
  refine lv_iconst (v := 0) hx hb dX9_howMany_2 (by decide) ?_
  refine lv_istore_n (lv' := [(2, .int 0), (1, .int 0), (0, .ref (ad 1))]) hx hb dX9_howMany_3 rfl hl (by decide) rfl (fun ls hl => ?_)
  refine st_loop 4 (fun _ => []) (fun (k : Int32) (ls : Array Slot) (H : Heap) (locs : List Loc) => (0 ≤ k.toInt) ∧ (k.toInt ≤ 8) ∧ lv_has ls 3 [(0, .ref (ad 1)), (1, .int 0), (2, .int k)] ∧ va_P D vwCl [((ad 1), .inr (9, [.ref (ad 12), .ref (ad 13), .ref (ad 14)])), ((ad 14), .inl (cI, 8, .inl (fun _ => (-1))))] H ∧ va_D A [((ad 1), .inr (9, [.ref (ad 12), .ref (ad 13), .ref (ad 14)])), ((ad 14), .inl (cI, 8, .inl (fun _ => (-1))))] ∧ va_S A s.heap H locs) (fun (k : Int32) => 8 - k.toInt) ?_ ?_ (0 : Int32) ⟨(by omega), (by omega), lv_sub hl [2, 1, 0] rfl, hP, hD, hS⟩
  · rintro k ls H locs ⟨g1, g2, hl, hP, hD, hS⟩
    show (0 : Int) ≤ 8 - k.toInt
    omega
  · rintro n5 ih3 k ls H locs ⟨g1, g2, hl, hP, hD, hS⟩ hm4
    have hm4 : 8 - k.toInt < (n5 : Int) + 1 := hm4
    replace hl : lv_has ls 3 [(0, .ref (ad 1)), (1, .int 0), (2, .int k)] := hl
    replace hP : va_P D vwCl [((ad 1), .inr (9, [.ref (ad 12), .ref (ad 13), .ref (ad 14)])), ((ad 14), .inl (cI, 8, .inl (fun _ => (-1))))] H := hP
    replace hD : va_D A [((ad 1), .inr (9, [.ref (ad 12), .ref (ad 13), .ref (ad 14)])), ((ad 14), .inl (cI, 8, .inl (fun _ => (-1))))] := hD
    show W _ _ _ _ _ _ _ _ _ _ _ _ _ _ _ (F0 m 4 ls [])
    refine lv_iload_n hx hb dX9_howMany_4 rfl (lv_at hl 2 rfl) ?_
    refine lv_bipush (v := 8) hx hb dX9_howMany_5 (by decide) ?_
    refine lv_icmp_ge (tgt := 27) hx hb dX9_howMany_7 (by decide) (fun c6 => ?_) (fun c6 => ?_)
    · skip
      have f7 := i_le c6
      refine lv_iload_n hx hb dX9_howMany_27 rfl (lv_at hl 1 rfl) ?_
      have hP9 := hP.sub (ws' := []) [] rfl
      have hD9 := hD.sub (ws' := []) [] (by decide) rfl
      exact W.iret (v := 0) hx hb hr (fun t ht hW => ⟨⟨0, (), rfl, rfl, by rw [ht]; exact hP9, va_K.moved hW.alike hK, hD9⟩, hS.F ht⟩) hS.2.2 dX9_howMany_28
    · skip
      have f8 := i_nle c6
      refine lv_aload_n hx hb dX9_howMany_10 rfl (lv_at hl 0 rfl) ?_
      refine lv_iload_n hx hb dX9_howMany_11 rfl (lv_at hl 2 rfl) ?_
      refine st_i (wr := []) (va_runV (C := RX9) (As := [.int k]) (rest := []) ⟨hx, hb, hml, hown, hts⟩ (ct_X9_isMissing l D cI cY cJ cQ _ ad k (by omega) (by omega)) (cwV 1 hts gX9_howMany_X9_isMissing rfl rfl rfl (by decide +kernel) ⟨Nat.le_of_ble_eq_true rfl, Nat.le_of_ble_eq_true rfl⟩) (cPreV (hP.sub [0, 1] rfl) hK (hD.sub [0, 1] (by decide) rfl) hN (ci := 9) (q0 := 0) rfl rfl) rfl rfl hl.1 rfl (lv_room (Nat.le_of_ble_eq_true rfl)) dX9_howMany_12 ⟨Nat.le_of_ble_eq_true rfl, Nat.le_of_ble_eq_true rfl⟩) hP hD hS hA [0, 1] [] rfl rfl (by decide) (by decide) (fun r11 u9 H locs hw10 hP hD hS => ?_)
      replace hP : va_P D vwCl [((ad 1), .inr (9, [.ref (ad 12), .ref (ad 13), .ref (ad 14)])), ((ad 14), .inl (cI, 8, .inl (fun _ => (-1))))] H := hP
      replace hD : va_D A [((ad 1), .inr (9, [.ref (ad 12), .ref (ad 13), .ref (ad 14)])), ((ad 14), .inl (cI, 8, .inl (fun _ => (-1))))] := hD
      subst hw10
      refine lv_if_ne (tgt := 21) hx hb dX9_howMany_15 (by decide) (fun _ => ?_) (fun c => absurd c (by decide))
      obtain ⟨v12, ev12⟩ : ∃ y : Int32, y = k + 1 := ⟨_, rfl⟩
      have tv12 : v12.toInt = k.toInt + 1 := by rw [ev12]; exact (i_add (x := k) (y := (1 : Int32)) (by rw [k1]; omega) (by rw [k1]; omega)).trans (by rw [k1])
      refine lv_iinc (v := v12) (lv' := [(2, .int v12), (0, .ref (ad 1)), (1, .int 0)]) hx hb dX9_howMany_21 hl (k := 2) rfl (by rw [ev12]; rfl) (by decide) rfl (fun ls hl => ?_)
      refine lv_goto (tgt := 4) hx hb dX9_howMany_24 (by decide) ?_
      exact ih3 v12 ls H locs ⟨(by omega), (by omega), lv_sub hl [1, 2, 0] rfl, hP.sub [0, 1] rfl, hD.sub [0, 1] (by decide) rfl, hS⟩ (by show 8 - v12.toInt < _; omega)

set_option maxHeartbeats 4000000 in
set_option maxRecDepth 100000 in
theorem ct_X10_count (l : Launch) (D : va_G) (cI cY cJ cQ : ClassId) (sz : Nat) (ad : Nat → Nat) (w : Int32)   : Met l yX10_count wsX10_count ({ frames := 2, cells := 0, slots := 0, locals := 43 }) (cPre D (ty4 cI cY cJ cQ) [((ad 0), .inr (10, [.ref (ad 1), .ref (ad 2), .ref (ad 3), .ref (ad 4), .ref (ad 5), .ref (ad 6), .ref (ad 7), .ref (ad 8), .ref (ad 9), .ref (ad 10), .ref (ad 11), .int 0, .int 0, .int 0])), ((ad 1), .inr (9, [.ref (ad 12), .ref (ad 13), .ref (ad 14)])), ((ad 14), .inl (cI, 8, .inl (fun _ => (-1)))), ((ad 2), .inr (3, [.ref (ad 23), .ref (ad 24), .ref (ad 25), .ref (ad 26), .int 0, .ref (ad 27), .ref (ad 28), .ref (ad 29), .ref (ad 30)])), ((ad 3), .inr (1, [.ref (ad 31), .ref (ad 32), .ref (ad 33), .int 0, .ref (ad 34), .ref (ad 35)])), ((ad 4), .inr (7, [.ref (ad 36), .ref (ad 37), .ref (ad 38), .ref (ad 39), .ref (ad 40), .ref (ad 41), .int 0])), ((ad 5), .inr (8, [.ref (ad 42), .ref (ad 43), .ref (ad 44), .ref (ad 45), .int 0, .ref (ad 46)])), ((ad 6), .inr (2, [.ref (ad 47), .int 0, .int 0, .ref (ad 48), .ref (ad 49), .ref (ad 50), .int 0, .ref (ad 51), .ref (ad 52), .ref (ad 53), .int 0, .int 0, .int 0, .int 0, .int 0])), ((ad 7), .inr (0, [.ref (ad 54), .ref (ad 55), .ref (ad 56), .ref (ad 57), .int 0])), ((ad 9), .inr (6, [.ref (ad 59), .ref (ad 60), .ref (ad 61), .ref (ad 62), .int 0])), ((ad 10), .inr (4, [.ref (ad 63), .ref (ad 64), .ref (ad 65), .int 0]))] sz [.ref (ad 0), .int w]) (va_Qi (fun (r : Int32) (u : Unit) => r = an_count w) (cB D (ty4 cI cY cJ cQ) (fun (u : Unit) => []) (va_A [((ad 0), .inr (10, [.ref (ad 1), .ref (ad 2), .ref (ad 3), .ref (ad 4), .ref (ad 5), .ref (ad 6), .ref (ad 7), .ref (ad 8), .ref (ad 9), .ref (ad 10), .ref (ad 11), .int 0, .int 0, .int 0])), ((ad 1), .inr (9, [.ref (ad 12), .ref (ad 13), .ref (ad 14)])), ((ad 14), .inl (cI, 8, .inl (fun _ => (-1)))), ((ad 2), .inr (3, [.ref (ad 23), .ref (ad 24), .ref (ad 25), .ref (ad 26), .int 0, .ref (ad 27), .ref (ad 28), .ref (ad 29), .ref (ad 30)])), ((ad 3), .inr (1, [.ref (ad 31), .ref (ad 32), .ref (ad 33), .int 0, .ref (ad 34), .ref (ad 35)])), ((ad 4), .inr (7, [.ref (ad 36), .ref (ad 37), .ref (ad 38), .ref (ad 39), .ref (ad 40), .ref (ad 41), .int 0])), ((ad 5), .inr (8, [.ref (ad 42), .ref (ad 43), .ref (ad 44), .ref (ad 45), .int 0, .ref (ad 46)])), ((ad 6), .inr (2, [.ref (ad 47), .int 0, .int 0, .ref (ad 48), .ref (ad 49), .ref (ad 50), .int 0, .ref (ad 51), .ref (ad 52), .ref (ad 53), .int 0, .int 0, .int 0, .int 0, .int 0])), ((ad 7), .inr (0, [.ref (ad 54), .ref (ad 55), .ref (ad 56), .ref (ad 57), .int 0])), ((ad 9), .inr (6, [.ref (ad 59), .ref (ad 60), .ref (ad 61), .ref (ad 62), .int 0])), ((ad 10), .inr (4, [.ref (ad 63), .ref (ad 64), .ref (ad 65), .int 0]))] sz)) (va_A [((ad 0), .inr (10, [.ref (ad 1), .ref (ad 2), .ref (ad 3), .ref (ad 4), .ref (ad 5), .ref (ad 6), .ref (ad 7), .ref (ad 8), .ref (ad 9), .ref (ad 10), .ref (ad 11), .int 0, .int 0, .int 0])), ((ad 1), .inr (9, [.ref (ad 12), .ref (ad 13), .ref (ad 14)])), ((ad 14), .inl (cI, 8, .inl (fun _ => (-1)))), ((ad 2), .inr (3, [.ref (ad 23), .ref (ad 24), .ref (ad 25), .ref (ad 26), .int 0, .ref (ad 27), .ref (ad 28), .ref (ad 29), .ref (ad 30)])), ((ad 3), .inr (1, [.ref (ad 31), .ref (ad 32), .ref (ad 33), .int 0, .ref (ad 34), .ref (ad 35)])), ((ad 4), .inr (7, [.ref (ad 36), .ref (ad 37), .ref (ad 38), .ref (ad 39), .ref (ad 40), .ref (ad 41), .int 0])), ((ad 5), .inr (8, [.ref (ad 42), .ref (ad 43), .ref (ad 44), .ref (ad 45), .int 0, .ref (ad 46)])), ((ad 6), .inr (2, [.ref (ad 47), .int 0, .int 0, .ref (ad 48), .ref (ad 49), .ref (ad 50), .int 0, .ref (ad 51), .ref (ad 52), .ref (ad 53), .int 0, .int 0, .int 0, .int 0, .int 0])), ((ad 7), .inr (0, [.ref (ad 54), .ref (ad 55), .ref (ad 56), .ref (ad 57), .int 0])), ((ad 9), .inr (6, [.ref (ad 59), .ref (ad 60), .ref (ad 61), .ref (ad 62), .int 0])), ((ad 10), .inr (4, [.ref (ad 63), .ref (ad 64), .ref (ad 65), .int 0]))] sz)) 0 0 (va_A [((ad 0), .inr (10, [.ref (ad 1), .ref (ad 2), .ref (ad 3), .ref (ad 4), .ref (ad 5), .ref (ad 6), .ref (ad 7), .ref (ad 8), .ref (ad 9), .ref (ad 10), .ref (ad 11), .int 0, .int 0, .int 0])), ((ad 1), .inr (9, [.ref (ad 12), .ref (ad 13), .ref (ad 14)])), ((ad 14), .inl (cI, 8, .inl (fun _ => (-1)))), ((ad 2), .inr (3, [.ref (ad 23), .ref (ad 24), .ref (ad 25), .ref (ad 26), .int 0, .ref (ad 27), .ref (ad 28), .ref (ad 29), .ref (ad 30)])), ((ad 3), .inr (1, [.ref (ad 31), .ref (ad 32), .ref (ad 33), .int 0, .ref (ad 34), .ref (ad 35)])), ((ad 4), .inr (7, [.ref (ad 36), .ref (ad 37), .ref (ad 38), .ref (ad 39), .ref (ad 40), .ref (ad 41), .int 0])), ((ad 5), .inr (8, [.ref (ad 42), .ref (ad 43), .ref (ad 44), .ref (ad 45), .int 0, .ref (ad 46)])), ((ad 6), .inr (2, [.ref (ad 47), .int 0, .int 0, .ref (ad 48), .ref (ad 49), .ref (ad 50), .int 0, .ref (ad 51), .ref (ad 52), .ref (ad 53), .int 0, .int 0, .int 0, .int 0, .int 0])), ((ad 7), .inr (0, [.ref (ad 54), .ref (ad 55), .ref (ad 56), .ref (ad 57), .int 0])), ((ad 9), .inr (6, [.ref (ad 59), .ref (ad 60), .ref (ad 61), .ref (ad 62), .int 0])), ((ad 10), .inr (4, [.ref (ad 63), .ref (ad 64), .ref (ad 65), .int 0]))] sz) := by
  refine Met.ofW (cc := cX10_count) (maxL := 2) (ret := (some .int)) (by decide) rfl ?_
  intro p e s m args below meth c s₁ B hml hv
  obtain ⟨rfl, hsz, hP, hK, hD0, hN⟩ := hv
  have hx := B.exec
  have hb := B.bytes
  have hr := B.returns
  have hts := atoms_spec (ws := wsX10_count) B.pre
  have hown : s.vm.findClass RX10 = some m.cls := findClass_of_methodNamed B.named
  have hlocks := B.notSynchronized
  subst hsz
  have hD := hD0.self (sz := s.heap.size)
  generalize hAe : va_A [((ad 0), .inr (10, [.ref (ad 1), .ref (ad 2), .ref (ad 3), .ref (ad 4), .ref (ad 5), .ref (ad 6), .ref (ad 7), .ref (ad 8), .ref (ad 9), .ref (ad 10), .ref (ad 11), .int 0, .int 0, .int 0])), ((ad 1), .inr (9, [.ref (ad 12), .ref (ad 13), .ref (ad 14)])), ((ad 14), .inl (cI, 8, .inl (fun _ => (-1)))), ((ad 2), .inr (3, [.ref (ad 23), .ref (ad 24), .ref (ad 25), .ref (ad 26), .int 0, .ref (ad 27), .ref (ad 28), .ref (ad 29), .ref (ad 30)])), ((ad 3), .inr (1, [.ref (ad 31), .ref (ad 32), .ref (ad 33), .int 0, .ref (ad 34), .ref (ad 35)])), ((ad 4), .inr (7, [.ref (ad 36), .ref (ad 37), .ref (ad 38), .ref (ad 39), .ref (ad 40), .ref (ad 41), .int 0])), ((ad 5), .inr (8, [.ref (ad 42), .ref (ad 43), .ref (ad 44), .ref (ad 45), .int 0, .ref (ad 46)])), ((ad 6), .inr (2, [.ref (ad 47), .int 0, .int 0, .ref (ad 48), .ref (ad 49), .ref (ad 50), .int 0, .ref (ad 51), .ref (ad 52), .ref (ad 53), .int 0, .int 0, .int 0, .int 0, .int 0])), ((ad 7), .inr (0, [.ref (ad 54), .ref (ad 55), .ref (ad 56), .ref (ad 57), .int 0])), ((ad 9), .inr (6, [.ref (ad 59), .ref (ad 60), .ref (ad 61), .ref (ad 62), .int 0])), ((ad 10), .inr (4, [.ref (ad 63), .ref (ad 64), .ref (ad 65), .int 0]))] s.heap.size = A at hD ⊢
  have hA : ∀ q : Nat, s.heap.size ≤ q → A q := fun q h => by rw [← hAe]; exact Or.inr h
  have hS : va_S A s.heap s.heap [] := va_S.rf
  have hP : va_P D vwCl [((ad 0), .inr (10, [.ref (ad 1), .ref (ad 2), .ref (ad 3), .ref (ad 4), .ref (ad 5), .ref (ad 6), .ref (ad 7), .ref (ad 8), .ref (ad 9), .ref (ad 10), .ref (ad 11), .int 0, .int 0, .int 0])), ((ad 1), .inr (9, [.ref (ad 12), .ref (ad 13), .ref (ad 14)])), ((ad 14), .inl (cI, 8, .inl (fun _ => (-1)))), ((ad 2), .inr (3, [.ref (ad 23), .ref (ad 24), .ref (ad 25), .ref (ad 26), .int 0, .ref (ad 27), .ref (ad 28), .ref (ad 29), .ref (ad 30)])), ((ad 3), .inr (1, [.ref (ad 31), .ref (ad 32), .ref (ad 33), .int 0, .ref (ad 34), .ref (ad 35)])), ((ad 4), .inr (7, [.ref (ad 36), .ref (ad 37), .ref (ad 38), .ref (ad 39), .ref (ad 40), .ref (ad 41), .int 0])), ((ad 5), .inr (8, [.ref (ad 42), .ref (ad 43), .ref (ad 44), .ref (ad 45), .int 0, .ref (ad 46)])), ((ad 6), .inr (2, [.ref (ad 47), .int 0, .int 0, .ref (ad 48), .ref (ad 49), .ref (ad 50), .int 0, .ref (ad 51), .ref (ad 52), .ref (ad 53), .int 0, .int 0, .int 0, .int 0, .int 0])), ((ad 7), .inr (0, [.ref (ad 54), .ref (ad 55), .ref (ad 56), .ref (ad 57), .int 0])), ((ad 9), .inr (6, [.ref (ad 59), .ref (ad 60), .ref (ad 61), .ref (ad 62), .int 0])), ((ad 10), .inr (4, [.ref (ad 63), .ref (ad 64), .ref (ad 65), .int 0]))] s.heap := hP
  have hl := lv_entry ([.ref (ad 0), .int w]) (n := 2) (Nat.le_of_ble_eq_true rfl)
  rw [lg_entry_eq]
  generalize (lg_sl ([.ref (ad 0), .int w]) ++ List.replicate (2 - (lg_sl ([.ref (ad 0), .int w])).length) Slot.unset).toArray = ls at hl ⊢
  have hl : lv_has ls 2 [(0, .ref (ad 0)), (1, .int w)] := hl
  refine lv_iload_n hx hb dX10_count_0 rfl (lv_at hl 1 rfl) ?_
  rcases (show (w.toInt < 0 ∨ 9 < w.toInt) ∨ w.toInt = 0 ∨ w.toInt = 1 ∨ w.toInt = 2 ∨ w.toInt = 3 ∨ w.toInt = 4 ∨ w.toInt = 5 ∨ w.toInt = 6 ∨ w.toInt = 7 ∨ w.toInt = 8 ∨ w.toInt = 9 by omega) with h1 | h1 | h1 | h1 | h1 | h1 | h1 | h1 | h1 | h1 | h1
  · skip
    refine lv_tableOut (tgt := 136) hx hb dX10_count_1 h1 (by decide) ?_
    refine lv_ldc hx hb hown (hts (.constant RX10 89 (-1000001)) (by decide +kernel)) dX10_count_136 ?_
    have hP9 := hP.sub (ws' := []) [] rfl
    have hD9 := hD.sub (ws' := []) [] (by decide) rfl
    exact W.iret (v := (-1000001)) hx hb hr (fun t ht hW => ⟨⟨(-1000001), (), rfl, (by unfold an_count; (repeat' split) <;> first | rfl | (exfalso; omega)), by rw [ht]; exact hP9, va_K.moved hW.alike hK, hD9⟩, hS.F ht⟩) hS.2.2 dX10_count_138
  · skip
    refine lv_tableIn (tgt := 56) (off := 55) hx hb dX10_count_1 (by omega) (by omega) (by rw [h1]; rfl) (by decide) ?_
    refine lv_aload_n hx hb dX10_count_56 rfl (lv_at hl 0 rfl) ?_
    refine va_get (D := D) (ci := 10) (v := .ref (ad 1)) (C := RX10) (T := TX10) (N := 14) hx hb hts (by decide +kernel) hown hK hP 0 rfl rfl 0 (by decide) (hts (.fieldLink RX10 10 "PortRooms" "sheets" "LPortRooms$Sheets;") (by decide +kernel)) (fun _ h9 => h9) rfl dX10_count_57 ?_
    refine st_i (wr := [((ad 0), .inr (10, [.ref (ad 1), .ref (ad 2), .ref (ad 3), .ref (ad 4), .ref (ad 5), .ref (ad 6), .ref (ad 7), .ref (ad 8), .ref (ad 9), .ref (ad 10), .ref (ad 11), .int 0, .int 0, .int 0])), ((ad 2), .inr (3, [.ref (ad 23), .ref (ad 24), .ref (ad 25), .ref (ad 26), .int 0, .ref (ad 27), .ref (ad 28), .ref (ad 29), .ref (ad 30)])), ((ad 3), .inr (1, [.ref (ad 31), .ref (ad 32), .ref (ad 33), .int 0, .ref (ad 34), .ref (ad 35)])), ((ad 4), .inr (7, [.ref (ad 36), .ref (ad 37), .ref (ad 38), .ref (ad 39), .ref (ad 40), .ref (ad 41), .int 0])), ((ad 5), .inr (8, [.ref (ad 42), .ref (ad 43), .ref (ad 44), .ref (ad 45), .int 0, .ref (ad 46)])), ((ad 6), .inr (2, [.ref (ad 47), .int 0, .int 0, .ref (ad 48), .ref (ad 49), .ref (ad 50), .int 0, .ref (ad 51), .ref (ad 52), .ref (ad 53), .int 0, .int 0, .int 0, .int 0, .int 0])), ((ad 7), .inr (0, [.ref (ad 54), .ref (ad 55), .ref (ad 56), .ref (ad 57), .int 0])), ((ad 9), .inr (6, [.ref (ad 59), .ref (ad 60), .ref (ad 61), .ref (ad 62), .int 0])), ((ad 10), .inr (4, [.ref (ad 63), .ref (ad 64), .ref (ad 65), .int 0]))]) (va_runV (C := RX9) (As := []) (rest := []) ⟨hx, hb, hml, hown, hts⟩ (ct_X9_howMany l D cI cY cJ cQ _ ad) (cwV 0 hts gX10_count_X9_howMany rfl rfl rfl (by decide +kernel) ⟨Nat.le_of_ble_eq_true rfl, Nat.le_of_ble_eq_true rfl⟩) (cPreV (hP.sub [1, 2] rfl) hK (hD.sub [1, 2] (by decide) rfl) hN (ci := 9) (q0 := 0) rfl rfl) rfl rfl hl.1 rfl (lv_room (Nat.le_of_ble_eq_true rfl)) dX10_count_60 ⟨Nat.le_of_ble_eq_true rfl, Nat.le_of_ble_eq_true rfl⟩) hP hD hS hA [1, 2] [0, 3, 4, 5, 6, 7, 8, 9, 10] rfl rfl (by decide) (by decide) (fun r4 u2 H locs hw3 hP hD hS => ?_)
    replace hP : va_P D vwCl [((ad 0), .inr (10, [.ref (ad 1), .ref (ad 2), .ref (ad 3), .ref (ad 4), .ref (ad 5), .ref (ad 6), .ref (ad 7), .ref (ad 8), .ref (ad 9), .ref (ad 10), .ref (ad 11), .int 0, .int 0, .int 0])), ((ad 2), .inr (3, [.ref (ad 23), .ref (ad 24), .ref (ad 25), .ref (ad 26), .int 0, .ref (ad 27), .ref (ad 28), .ref (ad 29), .ref (ad 30)])), ((ad 3), .inr (1, [.ref (ad 31), .ref (ad 32), .ref (ad 33), .int 0, .ref (ad 34), .ref (ad 35)])), ((ad 4), .inr (7, [.ref (ad 36), .ref (ad 37), .ref (ad 38), .ref (ad 39), .ref (ad 40), .ref (ad 41), .int 0])), ((ad 5), .inr (8, [.ref (ad 42), .ref (ad 43), .ref (ad 44), .ref (ad 45), .int 0, .ref (ad 46)])), ((ad 6), .inr (2, [.ref (ad 47), .int 0, .int 0, .ref (ad 48), .ref (ad 49), .ref (ad 50), .int 0, .ref (ad 51), .ref (ad 52), .ref (ad 53), .int 0, .int 0, .int 0, .int 0, .int 0])), ((ad 7), .inr (0, [.ref (ad 54), .ref (ad 55), .ref (ad 56), .ref (ad 57), .int 0])), ((ad 9), .inr (6, [.ref (ad 59), .ref (ad 60), .ref (ad 61), .ref (ad 62), .int 0])), ((ad 10), .inr (4, [.ref (ad 63), .ref (ad 64), .ref (ad 65), .int 0]))] H := hP
    replace hD : va_D A [((ad 0), .inr (10, [.ref (ad 1), .ref (ad 2), .ref (ad 3), .ref (ad 4), .ref (ad 5), .ref (ad 6), .ref (ad 7), .ref (ad 8), .ref (ad 9), .ref (ad 10), .ref (ad 11), .int 0, .int 0, .int 0])), ((ad 2), .inr (3, [.ref (ad 23), .ref (ad 24), .ref (ad 25), .ref (ad 26), .int 0, .ref (ad 27), .ref (ad 28), .ref (ad 29), .ref (ad 30)])), ((ad 3), .inr (1, [.ref (ad 31), .ref (ad 32), .ref (ad 33), .int 0, .ref (ad 34), .ref (ad 35)])), ((ad 4), .inr (7, [.ref (ad 36), .ref (ad 37), .ref (ad 38), .ref (ad 39), .ref (ad 40), .ref (ad 41), .int 0])), ((ad 5), .inr (8, [.ref (ad 42), .ref (ad 43), .ref (ad 44), .ref (ad 45), .int 0, .ref (ad 46)])), ((ad 6), .inr (2, [.ref (ad 47), .int 0, .int 0, .ref (ad 48), .ref (ad 49), .ref (ad 50), .int 0, .ref (ad 51), .ref (ad 52), .ref (ad 53), .int 0, .int 0, .int 0, .int 0, .int 0])), ((ad 7), .inr (0, [.ref (ad 54), .ref (ad 55), .ref (ad 56), .ref (ad 57), .int 0])), ((ad 9), .inr (6, [.ref (ad 59), .ref (ad 60), .ref (ad 61), .ref (ad 62), .int 0])), ((ad 10), .inr (4, [.ref (ad 63), .ref (ad 64), .ref (ad 65), .int 0]))] := hD
    subst hw3
    have hP9 := hP.sub (ws' := []) [] rfl
    have hD9 := hD.sub (ws' := []) [] (by decide) rfl
    exact W.iret (v := 0) hx hb hr (fun t ht hW => ⟨⟨0, (), rfl, (by unfold an_count; (repeat' split) <;> first | rfl | (exfalso; omega)), by rw [ht]; exact hP9, va_K.moved hW.alike hK, hD9⟩, hS.F ht⟩) hS.2.2 dX10_count_63
  · skip
    refine lv_tableIn (tgt := 64) (off := 63) hx hb dX10_count_1 (by omega) (by omega) (by rw [h1]; rfl) (by decide) ?_
    refine lv_aload_n hx hb dX10_count_64 rfl (lv_at hl 0 rfl) ?_
    refine va_get (D := D) (ci := 10) (v := .ref (ad 2)) (C := RX10) (T := TX10) (N := 14) hx hb hts (by decide +kernel) hown hK hP 0 rfl rfl 1 (by decide) (hts (.fieldLink RX10 19 "PortRooms" "holdings" "LPortRooms$Holdings;") (by decide +kernel)) (fun _ h9 => h9) rfl dX10_count_65 ?_
    refine va_get (D := D) (ci := 3) (v := .int 0) (C := RX3) (T := TX3) (N := 9) hx hb hts (by decide +kernel) hown hK hP 3 rfl rfl 4 (by decide) (hts (.fieldLink RX10 141 "PortRooms$Holdings" "count" "I") (by decide +kernel)) (fun _ h9 => h9) rfl dX10_count_68 ?_
    have hP9 := hP.sub (ws' := []) [] rfl
    have hD9 := hD.sub (ws' := []) [] (by decide) rfl
    exact W.iret (v := 0) hx hb hr (fun t ht hW => ⟨⟨0, (), rfl, (by unfold an_count; (repeat' split) <;> first | rfl | (exfalso; omega)), by rw [ht]; exact hP9, va_K.moved hW.alike hK, hD9⟩, hS.F ht⟩) hS.2.2 dX10_count_71
  · skip
    refine lv_tableIn (tgt := 72) (off := 71) hx hb dX10_count_1 (by omega) (by omega) (by rw [h1]; rfl) (by decide) ?_
    refine lv_aload_n hx hb dX10_count_72 rfl (lv_at hl 0 rfl) ?_
    refine va_get (D := D) (ci := 10) (v := .ref (ad 3)) (C := RX10) (T := TX10) (N := 14) hx hb hts (by decide +kernel) hown hK hP 0 rfl rfl 2 (by decide) (hts (.fieldLink RX10 26 "PortRooms" "crates" "LPortRooms$Crates;") (by decide +kernel)) (fun _ h9 => h9) rfl dX10_count_73 ?_
    refine va_get (D := D) (ci := 1) (v := .int 0) (C := RX1) (T := TX1) (N := 6) hx hb hts (by decide +kernel) hown hK hP 4 rfl rfl 3 (by decide) (hts (.fieldLink RX10 177 "PortRooms$Crates" "count" "I") (by decide +kernel)) (fun _ h9 => h9) rfl dX10_count_76 ?_
    have hP9 := hP.sub (ws' := []) [] rfl
    have hD9 := hD.sub (ws' := []) [] (by decide) rfl
    exact W.iret (v := 0) hx hb hr (fun t ht hW => ⟨⟨0, (), rfl, (by unfold an_count; (repeat' split) <;> first | rfl | (exfalso; omega)), by rw [ht]; exact hP9, va_K.moved hW.alike hK, hD9⟩, hS.F ht⟩) hS.2.2 dX10_count_79
  · skip
    refine lv_tableIn (tgt := 80) (off := 79) hx hb dX10_count_1 (by omega) (by omega) (by rw [h1]; rfl) (by decide) ?_
    refine lv_aload_n hx hb dX10_count_80 rfl (lv_at hl 0 rfl) ?_
    refine va_get (D := D) (ci := 10) (v := .ref (ad 4)) (C := RX10) (T := TX10) (N := 14) hx hb hts (by decide +kernel) hown hK hP 0 rfl rfl 3 (by decide) (hts (.fieldLink RX10 33 "PortRooms" "papers" "LPortRooms$Papers;") (by decide +kernel)) (fun _ h9 => h9) rfl dX10_count_81 ?_
    refine va_get (D := D) (ci := 7) (v := .int 0) (C := RX7) (T := TX7) (N := 7) hx hb hts (by decide +kernel) hown hK hP 5 rfl rfl 6 (by decide) (hts (.fieldLink RX10 186 "PortRooms$Papers" "count" "I") (by decide +kernel)) (fun _ h9 => h9) rfl dX10_count_84 ?_
    have hP9 := hP.sub (ws' := []) [] rfl
    have hD9 := hD.sub (ws' := []) [] (by decide) rfl
    exact W.iret (v := 0) hx hb hr (fun t ht hW => ⟨⟨0, (), rfl, (by unfold an_count; (repeat' split) <;> first | rfl | (exfalso; omega)), by rw [ht]; exact hP9, va_K.moved hW.alike hK, hD9⟩, hS.F ht⟩) hS.2.2 dX10_count_87
  · skip
    refine lv_tableIn (tgt := 88) (off := 87) hx hb dX10_count_1 (by omega) (by omega) (by rw [h1]; rfl) (by decide) ?_
    refine lv_aload_n hx hb dX10_count_88 rfl (lv_at hl 0 rfl) ?_
    refine va_get (D := D) (ci := 10) (v := .ref (ad 5)) (C := RX10) (T := TX10) (N := 14) hx hb hts (by decide +kernel) hown hK hP 0 rfl rfl 4 (by decide) (hts (.fieldLink RX10 40 "PortRooms" "pledges" "LPortRooms$Pledges;") (by decide +kernel)) (fun _ h9 => h9) rfl dX10_count_89 ?_
    refine va_get (D := D) (ci := 8) (v := .int 0) (C := RX8) (T := TX8) (N := 6) hx hb hts (by decide +kernel) hown hK hP 6 rfl rfl 4 (by decide) (hts (.fieldLink RX10 199 "PortRooms$Pledges" "count" "I") (by decide +kernel)) (fun _ h9 => h9) rfl dX10_count_92 ?_
    have hP9 := hP.sub (ws' := []) [] rfl
    have hD9 := hD.sub (ws' := []) [] (by decide) rfl
    exact W.iret (v := 0) hx hb hr (fun t ht hW => ⟨⟨0, (), rfl, (by unfold an_count; (repeat' split) <;> first | rfl | (exfalso; omega)), by rw [ht]; exact hP9, va_K.moved hW.alike hK, hD9⟩, hS.F ht⟩) hS.2.2 dX10_count_95
  · skip
    refine lv_tableIn (tgt := 96) (off := 95) hx hb dX10_count_1 (by omega) (by omega) (by rw [h1]; rfl) (by decide) ?_
    refine lv_aload_n hx hb dX10_count_96 rfl (lv_at hl 0 rfl) ?_
    refine va_get (D := D) (ci := 10) (v := .ref (ad 6)) (C := RX10) (T := TX10) (N := 14) hx hb hts (by decide +kernel) hown hK hP 0 rfl rfl 5 (by decide) (hts (.fieldLink RX10 47 "PortRooms" "duties" "LPortRooms$Duties;") (by decide +kernel)) (fun _ h9 => h9) rfl dX10_count_97 ?_
    refine va_get (D := D) (ci := 2) (v := .int 0) (C := RX2) (T := TX2) (N := 15) hx hb hts (by decide +kernel) hown hK hP 7 rfl rfl 6 (by decide) (hts (.fieldLink RX10 319 "PortRooms$Duties" "lines" "I") (by decide +kernel)) (fun _ h9 => h9) rfl dX10_count_100 ?_
    have hP9 := hP.sub (ws' := []) [] rfl
    have hD9 := hD.sub (ws' := []) [] (by decide) rfl
    exact W.iret (v := 0) hx hb hr (fun t ht hW => ⟨⟨0, (), rfl, (by unfold an_count; (repeat' split) <;> first | rfl | (exfalso; omega)), by rw [ht]; exact hP9, va_K.moved hW.alike hK, hD9⟩, hS.F ht⟩) hS.2.2 dX10_count_103
  · skip
    refine lv_tableIn (tgt := 104) (off := 103) hx hb dX10_count_1 (by omega) (by omega) (by rw [h1]; rfl) (by decide) ?_
    refine lv_aload_n hx hb dX10_count_104 rfl (lv_at hl 0 rfl) ?_
    refine va_get (D := D) (ci := 10) (v := .ref (ad 7)) (C := RX10) (T := TX10) (N := 14) hx hb hts (by decide +kernel) hown hK hP 0 rfl rfl 6 (by decide) (hts (.fieldLink RX10 54 "PortRooms" "acts" "LPortRooms$Acts;") (by decide +kernel)) (fun _ h9 => h9) rfl dX10_count_105 ?_
    refine va_get (D := D) (ci := 0) (v := .int 0) (C := RX0) (T := TX0) (N := 5) hx hb hts (by decide +kernel) hown hK hP 8 rfl rfl 4 (by decide) (hts (.fieldLink RX10 227 "PortRooms$Acts" "count" "I") (by decide +kernel)) (fun _ h9 => h9) rfl dX10_count_108 ?_
    have hP9 := hP.sub (ws' := []) [] rfl
    have hD9 := hD.sub (ws' := []) [] (by decide) rfl
    exact W.iret (v := 0) hx hb hr (fun t ht hW => ⟨⟨0, (), rfl, (by unfold an_count; (repeat' split) <;> first | rfl | (exfalso; omega)), by rw [ht]; exact hP9, va_K.moved hW.alike hK, hD9⟩, hS.F ht⟩) hS.2.2 dX10_count_111
  · skip
    refine lv_tableIn (tgt := 112) (off := 111) hx hb dX10_count_1 (by omega) (by omega) (by rw [h1]; rfl) (by decide) ?_
    refine lv_aload_n hx hb dX10_count_112 rfl (lv_at hl 0 rfl) ?_
    refine va_get (D := D) (ci := 10) (v := .ref (ad 9)) (C := RX10) (T := TX10) (N := 14) hx hb hts (by decide +kernel) hown hK hP 0 rfl rfl 8 (by decide) (hts (.fieldLink RX10 61 "PortRooms" "openings" "LPortRooms$Openings;") (by decide +kernel)) (fun _ h9 => h9) rfl dX10_count_113 ?_
    refine va_get (D := D) (ci := 6) (v := .int 0) (C := RX6) (T := TX6) (N := 5) hx hb hts (by decide +kernel) hown hK hP 9 rfl rfl 4 (by decide) (hts (.fieldLink RX10 287 "PortRooms$Openings" "count" "I") (by decide +kernel)) (fun _ h9 => h9) rfl dX10_count_116 ?_
    have hP9 := hP.sub (ws' := []) [] rfl
    have hD9 := hD.sub (ws' := []) [] (by decide) rfl
    exact W.iret (v := 0) hx hb hr (fun t ht hW => ⟨⟨0, (), rfl, (by unfold an_count; (repeat' split) <;> first | rfl | (exfalso; omega)), by rw [ht]; exact hP9, va_K.moved hW.alike hK, hD9⟩, hS.F ht⟩) hS.2.2 dX10_count_119
  · skip
    refine lv_tableIn (tgt := 120) (off := 119) hx hb dX10_count_1 (by omega) (by omega) (by rw [h1]; rfl) (by decide) ?_
    refine lv_aload_n hx hb dX10_count_120 rfl (lv_at hl 0 rfl) ?_
    refine va_get (D := D) (ci := 10) (v := .ref (ad 10)) (C := RX10) (T := TX10) (N := 14) hx hb hts (by decide +kernel) hown hK hP 0 rfl rfl 9 (by decide) (hts (.fieldLink RX10 68 "PortRooms" "lists" "LPortRooms$Lists;") (by decide +kernel)) (fun _ h9 => h9) rfl dX10_count_121 ?_
    refine va_get (D := D) (ci := 4) (v := .int 0) (C := RX4) (T := TX4) (N := 4) hx hb hts (by decide +kernel) hown hK hP 10 rfl rfl 3 (by decide) (hts (.fieldLink RX10 292 "PortRooms$Lists" "count" "I") (by decide +kernel)) (fun _ h9 => h9) rfl dX10_count_124 ?_
    have hP9 := hP.sub (ws' := []) [] rfl
    have hD9 := hD.sub (ws' := []) [] (by decide) rfl
    exact W.iret (v := 0) hx hb hr (fun t ht hW => ⟨⟨0, (), rfl, (by unfold an_count; (repeat' split) <;> first | rfl | (exfalso; omega)), by rw [ht]; exact hP9, va_K.moved hW.alike hK, hD9⟩, hS.F ht⟩) hS.2.2 dX10_count_127
  · skip
    refine lv_tableIn (tgt := 128) (off := 127) hx hb dX10_count_1 (by omega) (by omega) (by rw [h1]; rfl) (by decide) ?_
    refine lv_aload_n hx hb dX10_count_128 rfl (lv_at hl 0 rfl) ?_
    refine va_get (D := D) (ci := 10) (v := .ref (ad 6)) (C := RX10) (T := TX10) (N := 14) hx hb hts (by decide +kernel) hown hK hP 0 rfl rfl 5 (by decide) (hts (.fieldLink RX10 47 "PortRooms" "duties" "LPortRooms$Duties;") (by decide +kernel)) (fun _ h9 => h9) rfl dX10_count_129 ?_
    refine va_get (D := D) (ci := 2) (v := .int 0) (C := RX2) (T := TX2) (N := 15) hx hb hts (by decide +kernel) hown hK hP 7 rfl rfl 1 (by decide) (hts (.fieldLink RX10 213 "PortRooms$Duties" "length" "I") (by decide +kernel)) (fun _ h9 => h9) rfl dX10_count_132 ?_
    have hP9 := hP.sub (ws' := []) [] rfl
    have hD9 := hD.sub (ws' := []) [] (by decide) rfl
    exact W.iret (v := 0) hx hb hr (fun t ht hW => ⟨⟨0, (), rfl, (by unfold an_count; (repeat' split) <;> first | rfl | (exfalso; omega)), by rw [ht]; exact hP9, va_K.moved hW.alike hK, hD9⟩, hS.F ht⟩) hS.2.2 dX10_count_135
