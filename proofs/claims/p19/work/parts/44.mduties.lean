theorem cdX11_is : yX11_is.cls ≠ "java/lang/invoke/MethodHandle" ∧ yX11_is.cls ≠ "java/lang/invoke/VarHandle" ∧ (parseMethodDescriptor yX11_is.desc).map (fun d => d.parameters.length) = some 1 := by decide +kernel
theorem cdX11_word : yX11_word.cls ≠ "java/lang/invoke/MethodHandle" ∧ yX11_word.cls ≠ "java/lang/invoke/VarHandle" ∧ (parseMethodDescriptor yX11_word.desc).map (fun d => d.parameters.length) = some 0 := by decide +kernel
theorem cdX11_numberUpTo : yX11_numberUpTo.cls ≠ "java/lang/invoke/MethodHandle" ∧ yX11_numberUpTo.cls ≠ "java/lang/invoke/VarHandle" ∧ (parseMethodDescriptor yX11_numberUpTo.desc).map (fun d => d.parameters.length) = some 1 := by decide +kernel
theorem inX11_duties_X11 : ∀ w ∈ u_ws RX11 TX11 64, w ∈ wsX11_duties := fun _ h => (List.mem_cons_of_mem _ (List.mem_append_right _ h))
set_option maxRecDepth 20000 in
theorem ggX11_duties_X11_step : GoodIn wsX11_duties wsX11_step := goodIn_n _ [(24, 1), (4, 1), (25, 1), (12, 1), (7, 1), (26, 4), (23, 1), (30, 1), (3, 1), (31, 7), (58, 64)] rfl (by decide +kernel)
set_option maxRecDepth 20000 in
theorem gX11_duties_X11_step : GoodIn wsX11_duties (wsV RX11 280 RX11 yX11_step wsX11_step) := goodIn_app (goodIn_n _ [(20, 4)] rfl (by decide +kernel)) ggX11_duties_X11_step
set_option maxRecDepth 20000 in
theorem ggX11_duties_X11_word : GoodIn wsX11_duties wsX11_word := goodIn_n _ [(41, 1), (25, 2), (7, 1), (31, 1), (58, 64)] rfl (by decide +kernel)
set_option maxRecDepth 20000 in
theorem gX11_duties_X11_word : GoodIn wsX11_duties (wsV RX11 290 RX11 yX11_word wsX11_word) := goodIn_app (goodIn_n _ [(38, 3), (23, 1)] rfl (by decide +kernel)) ggX11_duties_X11_word
set_option maxRecDepth 20000 in
theorem ggX11_duties_X11_bad : GoodIn wsX11_duties wsX11_bad := goodIn_n _ [(45, 1), (5, 1), (25, 1), (17, 1), (58, 64)] rfl (by decide +kernel)
set_option maxRecDepth 20000 in
theorem gX11_duties_X11_bad : GoodIn wsX11_duties (wsV RX11 277 RX11 yX11_bad wsX11_bad) := goodIn_app (goodIn_n _ [(42, 3), (23, 1)] rfl (by decide +kernel)) ggX11_duties_X11_bad
set_option maxRecDepth 20000 in
theorem ggX11_duties_X11_need : GoodIn wsX11_duties wsX11_need := goodIn_n _ [(49, 1), (5, 1), (42, 3), (23, 1), (45, 1), (25, 1), (17, 1), (20, 3), (24, 1), (4, 1), (12, 1), (7, 1), (26, 5), (3, 1), (31, 7), (58, 64)] rfl (by decide +kernel)
set_option maxRecDepth 20000 in
theorem gX11_duties_X11_need : GoodIn wsX11_duties (wsV RX11 283 RX11 yX11_need wsX11_need) := goodIn_app (goodIn_n _ [(46, 3), (23, 1)] rfl (by decide +kernel)) ggX11_duties_X11_need
set_option maxRecDepth 20000 in
theorem ggX11_duties_X11_is : GoodIn wsX11_duties wsX11_is := goodIn_n _ [(53, 1), (7, 1), (31, 1), (25, 1), (58, 64)] rfl (by decide +kernel)
set_option maxRecDepth 20000 in
theorem gX11_duties_X11_is : GoodIn wsX11_duties (wsV RX11 302 RX11 yX11_is wsX11_is) := goodIn_app (goodIn_n _ [(50, 3), (23, 1)] rfl (by decide +kernel)) ggX11_duties_X11_is
set_option maxRecDepth 20000 in
theorem ggX11_duties_X11_numberUpTo : GoodIn wsX11_duties wsX11_numberUpTo := goodIn_n _ [(57, 1), (25, 2), (7, 1), (31, 1), (42, 3), (23, 1), (45, 1), (5, 1), (17, 1), (46, 4), (20, 3), (24, 1), (4, 1), (12, 1), (27, 4), (3, 1), (32, 6), (58, 64)] rfl (by decide +kernel)
set_option maxRecDepth 20000 in
theorem gX11_duties_X11_numberUpTo : GoodIn wsX11_duties (wsV RX11 305 RX11 yX11_numberUpTo wsX11_numberUpTo) := goodIn_app (goodIn_n _ [(54, 3), (23, 1)] rfl (by decide +kernel)) ggX11_duties_X11_numberUpTo
theorem dX11_duties_all0 : decode cX11_duties 0 = .ok (.aload_n 0, 1) ∧ decode cX11_duties 1 = .ok (.iconst 0, 1) ∧ decode cX11_duties 2 = .ok (.putfield 1, 3) ∧ decode cX11_duties 5 = .ok (.aload_n 0, 1) ∧ decode cX11_duties 6 = .ok (.aload_n 0, 1) ∧ decode cX11_duties 7 = .ok (.getfield 242, 3) ∧ decode cX11_duties 10 = .ok (.putfield 247, 3) ∧ decode cX11_duties 13 = .ok (.aload_n 0, 1) ∧ decode cX11_duties 14 = .ok (.iconst 0, 1) ∧ decode cX11_duties 15 = .ok (.putfield 242, 3) ∧ decode cX11_duties 18 = .ok (.aload_n 0, 1) ∧ decode cX11_duties 19 = .ok (.iconst 0, 1) := by decide +kernel
theorem dX11_duties_0 : decode cX11_duties 0 = .ok (.aload_n 0, 1) := dX11_duties_all0.1
theorem dX11_duties_1 : decode cX11_duties 1 = .ok (.iconst 0, 1) := dX11_duties_all0.2.1
theorem dX11_duties_2 : decode cX11_duties 2 = .ok (.putfield 1, 3) := dX11_duties_all0.2.2.1
theorem dX11_duties_5 : decode cX11_duties 5 = .ok (.aload_n 0, 1) := dX11_duties_all0.2.2.2.1
theorem dX11_duties_6 : decode cX11_duties 6 = .ok (.aload_n 0, 1) := dX11_duties_all0.2.2.2.2.1
theorem dX11_duties_7 : decode cX11_duties 7 = .ok (.getfield 242, 3) := dX11_duties_all0.2.2.2.2.2.1
theorem dX11_duties_10 : decode cX11_duties 10 = .ok (.putfield 247, 3) := dX11_duties_all0.2.2.2.2.2.2.1
theorem dX11_duties_13 : decode cX11_duties 13 = .ok (.aload_n 0, 1) := dX11_duties_all0.2.2.2.2.2.2.2.1
theorem dX11_duties_14 : decode cX11_duties 14 = .ok (.iconst 0, 1) := dX11_duties_all0.2.2.2.2.2.2.2.2.1
theorem dX11_duties_15 : decode cX11_duties 15 = .ok (.putfield 242, 3) := dX11_duties_all0.2.2.2.2.2.2.2.2.2.1
theorem dX11_duties_18 : decode cX11_duties 18 = .ok (.aload_n 0, 1) := dX11_duties_all0.2.2.2.2.2.2.2.2.2.2.1
theorem dX11_duties_19 : decode cX11_duties 19 = .ok (.iconst 0, 1) := dX11_duties_all0.2.2.2.2.2.2.2.2.2.2.2
theorem dX11_duties_all1 : decode cX11_duties 20 = .ok (.putfield 250, 3) ∧ decode cX11_duties 23 = .ok (.aload_n 0, 1) ∧ decode cX11_duties 24 = .ok (.iconst 0, 1) ∧ decode cX11_duties 25 = .ok (.putfield 271, 3) ∧ decode cX11_duties 28 = .ok (.aload_n 0, 1) ∧ decode cX11_duties 29 = .ok (.iconst 0, 1) ∧ decode cX11_duties 30 = .ok (.putfield 287, 3) ∧ decode cX11_duties 33 = .ok (.aload_n 0, 1) ∧ decode cX11_duties 34 = .ok (.invokevirtual 280, 3) ∧ decode cX11_duties 37 = .ok (.aload_n 0, 1) ∧ decode cX11_duties 38 = .ok (.getfield 271, 3) ∧ decode cX11_duties 41 = .ok (.ifCond .ne 259, 3) := by decide +kernel
theorem dX11_duties_20 : decode cX11_duties 20 = .ok (.putfield 250, 3) := dX11_duties_all1.1
theorem dX11_duties_23 : decode cX11_duties 23 = .ok (.aload_n 0, 1) := dX11_duties_all1.2.1
theorem dX11_duties_24 : decode cX11_duties 24 = .ok (.iconst 0, 1) := dX11_duties_all1.2.2.1
theorem dX11_duties_25 : decode cX11_duties 25 = .ok (.putfield 271, 3) := dX11_duties_all1.2.2.2.1
theorem dX11_duties_28 : decode cX11_duties 28 = .ok (.aload_n 0, 1) := dX11_duties_all1.2.2.2.2.1
theorem dX11_duties_29 : decode cX11_duties 29 = .ok (.iconst 0, 1) := dX11_duties_all1.2.2.2.2.2.1
theorem dX11_duties_30 : decode cX11_duties 30 = .ok (.putfield 287, 3) := dX11_duties_all1.2.2.2.2.2.2.1
theorem dX11_duties_33 : decode cX11_duties 33 = .ok (.aload_n 0, 1) := dX11_duties_all1.2.2.2.2.2.2.2.1
theorem dX11_duties_34 : decode cX11_duties 34 = .ok (.invokevirtual 280, 3) := dX11_duties_all1.2.2.2.2.2.2.2.2.1
theorem dX11_duties_37 : decode cX11_duties 37 = .ok (.aload_n 0, 1) := dX11_duties_all1.2.2.2.2.2.2.2.2.2.1
theorem dX11_duties_38 : decode cX11_duties 38 = .ok (.getfield 271, 3) := dX11_duties_all1.2.2.2.2.2.2.2.2.2.2.1
theorem dX11_duties_41 : decode cX11_duties 41 = .ok (.ifCond .ne 259, 3) := dX11_duties_all1.2.2.2.2.2.2.2.2.2.2.2
theorem dX11_duties_all2 : decode cX11_duties 44 = .ok (.aload_n 0, 1) ∧ decode cX11_duties 45 = .ok (.getfield 259, 3) ∧ decode cX11_duties 48 = .ok (.iconst 1, 1) ∧ decode cX11_duties 49 = .ok (.if_icmp .eq 251, 3) ∧ decode cX11_duties 52 = .ok (.aload_n 0, 1) ∧ decode cX11_duties 53 = .ok (.invokevirtual 290, 3) ∧ decode cX11_duties 56 = .ok (.lstore_n 1, 1) ∧ decode cX11_duties 57 = .ok (.lload_n 1, 1) ∧ decode cX11_duties 58 = .ok (.ldc2_w 294, 3) ∧ decode cX11_duties 61 = .ok (.lcmp, 1) ∧ decode cX11_duties 62 = .ok (.ifCond .ne 7, 3) ∧ decode cX11_duties 65 = .ok (.iconst 0, 1) := by decide +kernel
theorem dX11_duties_44 : decode cX11_duties 44 = .ok (.aload_n 0, 1) := dX11_duties_all2.1
theorem dX11_duties_45 : decode cX11_duties 45 = .ok (.getfield 259, 3) := dX11_duties_all2.2.1
theorem dX11_duties_48 : decode cX11_duties 48 = .ok (.iconst 1, 1) := dX11_duties_all2.2.2.1
theorem dX11_duties_49 : decode cX11_duties 49 = .ok (.if_icmp .eq 251, 3) := dX11_duties_all2.2.2.2.1
theorem dX11_duties_52 : decode cX11_duties 52 = .ok (.aload_n 0, 1) := dX11_duties_all2.2.2.2.2.1
theorem dX11_duties_53 : decode cX11_duties 53 = .ok (.invokevirtual 290, 3) := dX11_duties_all2.2.2.2.2.2.1
theorem dX11_duties_56 : decode cX11_duties 56 = .ok (.lstore_n 1, 1) := dX11_duties_all2.2.2.2.2.2.2.1
theorem dX11_duties_57 : decode cX11_duties 57 = .ok (.lload_n 1, 1) := dX11_duties_all2.2.2.2.2.2.2.2.1
theorem dX11_duties_58 : decode cX11_duties 58 = .ok (.ldc2_w 294, 3) := dX11_duties_all2.2.2.2.2.2.2.2.2.1
theorem dX11_duties_61 : decode cX11_duties 61 = .ok (.lcmp, 1) := dX11_duties_all2.2.2.2.2.2.2.2.2.2.1
theorem dX11_duties_62 : decode cX11_duties 62 = .ok (.ifCond .ne 7, 3) := dX11_duties_all2.2.2.2.2.2.2.2.2.2.2.1
theorem dX11_duties_65 : decode cX11_duties 65 = .ok (.iconst 0, 1) := dX11_duties_all2.2.2.2.2.2.2.2.2.2.2.2
theorem dX11_duties_all3 : decode cX11_duties 66 = .ok (.goto 41, 3) ∧ decode cX11_duties 69 = .ok (.lload_n 1, 1) ∧ decode cX11_duties 70 = .ok (.ldc2_w 296, 3) ∧ decode cX11_duties 73 = .ok (.lcmp, 1) ∧ decode cX11_duties 74 = .ok (.ifCond .ne 7, 3) ∧ decode cX11_duties 77 = .ok (.iconst 1, 1) ∧ decode cX11_duties 78 = .ok (.goto 29, 3) ∧ decode cX11_duties 81 = .ok (.lload_n 1, 1) ∧ decode cX11_duties 82 = .ok (.ldc2_w 298, 3) ∧ decode cX11_duties 85 = .ok (.lcmp, 1) ∧ decode cX11_duties 86 = .ok (.ifCond .ne 7, 3) ∧ decode cX11_duties 89 = .ok (.iconst 2, 1) := by decide +kernel
theorem dX11_duties_66 : decode cX11_duties 66 = .ok (.goto 41, 3) := dX11_duties_all3.1
theorem dX11_duties_69 : decode cX11_duties 69 = .ok (.lload_n 1, 1) := dX11_duties_all3.2.1
theorem dX11_duties_70 : decode cX11_duties 70 = .ok (.ldc2_w 296, 3) := dX11_duties_all3.2.2.1
theorem dX11_duties_73 : decode cX11_duties 73 = .ok (.lcmp, 1) := dX11_duties_all3.2.2.2.1
theorem dX11_duties_74 : decode cX11_duties 74 = .ok (.ifCond .ne 7, 3) := dX11_duties_all3.2.2.2.2.1
theorem dX11_duties_77 : decode cX11_duties 77 = .ok (.iconst 1, 1) := dX11_duties_all3.2.2.2.2.2.1
theorem dX11_duties_78 : decode cX11_duties 78 = .ok (.goto 29, 3) := dX11_duties_all3.2.2.2.2.2.2.1
theorem dX11_duties_81 : decode cX11_duties 81 = .ok (.lload_n 1, 1) := dX11_duties_all3.2.2.2.2.2.2.2.1
theorem dX11_duties_82 : decode cX11_duties 82 = .ok (.ldc2_w 298, 3) := dX11_duties_all3.2.2.2.2.2.2.2.2.1
theorem dX11_duties_85 : decode cX11_duties 85 = .ok (.lcmp, 1) := dX11_duties_all3.2.2.2.2.2.2.2.2.2.1
theorem dX11_duties_86 : decode cX11_duties 86 = .ok (.ifCond .ne 7, 3) := dX11_duties_all3.2.2.2.2.2.2.2.2.2.2.1
theorem dX11_duties_89 : decode cX11_duties 89 = .ok (.iconst 2, 1) := dX11_duties_all3.2.2.2.2.2.2.2.2.2.2.2
theorem dX11_duties_all4 : decode cX11_duties 90 = .ok (.goto 17, 3) ∧ decode cX11_duties 93 = .ok (.lload_n 1, 1) ∧ decode cX11_duties 94 = .ok (.ldc2_w 300, 3) ∧ decode cX11_duties 97 = .ok (.lcmp, 1) ∧ decode cX11_duties 98 = .ok (.ifCond .ne 7, 3) ∧ decode cX11_duties 101 = .ok (.iconst 3, 1) ∧ decode cX11_duties 102 = .ok (.goto 5, 3) ∧ decode cX11_duties 105 = .ok (.ldc 139, 2) ∧ decode cX11_duties 107 = .ok (.istore_n 3, 1) ∧ decode cX11_duties 108 = .ok (.iload_n 3, 1) ∧ decode cX11_duties 109 = .ok (.ldc 139, 2) ∧ decode cX11_duties 111 = .ok (.if_icmp .eq 17, 3) := by decide +kernel
theorem dX11_duties_90 : decode cX11_duties 90 = .ok (.goto 17, 3) := dX11_duties_all4.1
theorem dX11_duties_93 : decode cX11_duties 93 = .ok (.lload_n 1, 1) := dX11_duties_all4.2.1
theorem dX11_duties_94 : decode cX11_duties 94 = .ok (.ldc2_w 300, 3) := dX11_duties_all4.2.2.1
theorem dX11_duties_97 : decode cX11_duties 97 = .ok (.lcmp, 1) := dX11_duties_all4.2.2.2.1
theorem dX11_duties_98 : decode cX11_duties 98 = .ok (.ifCond .ne 7, 3) := dX11_duties_all4.2.2.2.2.1
theorem dX11_duties_101 : decode cX11_duties 101 = .ok (.iconst 3, 1) := dX11_duties_all4.2.2.2.2.2.1
theorem dX11_duties_102 : decode cX11_duties 102 = .ok (.goto 5, 3) := dX11_duties_all4.2.2.2.2.2.2.1
theorem dX11_duties_105 : decode cX11_duties 105 = .ok (.ldc 139, 2) := dX11_duties_all4.2.2.2.2.2.2.2.1
theorem dX11_duties_107 : decode cX11_duties 107 = .ok (.istore_n 3, 1) := dX11_duties_all4.2.2.2.2.2.2.2.2.1
theorem dX11_duties_108 : decode cX11_duties 108 = .ok (.iload_n 3, 1) := dX11_duties_all4.2.2.2.2.2.2.2.2.2.1
theorem dX11_duties_109 : decode cX11_duties 109 = .ok (.ldc 139, 2) := dX11_duties_all4.2.2.2.2.2.2.2.2.2.2.1
theorem dX11_duties_111 : decode cX11_duties 111 = .ok (.if_icmp .eq 17, 3) := dX11_duties_all4.2.2.2.2.2.2.2.2.2.2.2
theorem dX11_duties_all5 : decode cX11_duties 114 = .ok (.aload_n 0, 1) ∧ decode cX11_duties 115 = .ok (.getfield 287, 3) ∧ decode cX11_duties 118 = .ok (.bipush 12, 2) ∧ decode cX11_duties 120 = .ok (.if_icmp .ne 8, 3) ∧ decode cX11_duties 123 = .ok (.aload_n 0, 1) ∧ decode cX11_duties 124 = .ok (.iconst 3, 1) ∧ decode cX11_duties 125 = .ok (.invokevirtual 277, 3) ∧ decode cX11_duties 128 = .ok (.aload_n 0, 1) ∧ decode cX11_duties 129 = .ok (.iload_n 3, 1) ∧ decode cX11_duties 130 = .ok (.ldc 139, 2) ∧ decode cX11_duties 132 = .ok (.if_icmp .eq 7, 3) ∧ decode cX11_duties 135 = .ok (.iconst 1, 1) := by decide +kernel
theorem dX11_duties_114 : decode cX11_duties 114 = .ok (.aload_n 0, 1) := dX11_duties_all5.1
theorem dX11_duties_115 : decode cX11_duties 115 = .ok (.getfield 287, 3) := dX11_duties_all5.2.1
theorem dX11_duties_118 : decode cX11_duties 118 = .ok (.bipush 12, 2) := dX11_duties_all5.2.2.1
theorem dX11_duties_120 : decode cX11_duties 120 = .ok (.if_icmp .ne 8, 3) := dX11_duties_all5.2.2.2.1
theorem dX11_duties_123 : decode cX11_duties 123 = .ok (.aload_n 0, 1) := dX11_duties_all5.2.2.2.2.1
theorem dX11_duties_124 : decode cX11_duties 124 = .ok (.iconst 3, 1) := dX11_duties_all5.2.2.2.2.2.1
theorem dX11_duties_125 : decode cX11_duties 125 = .ok (.invokevirtual 277, 3) := dX11_duties_all5.2.2.2.2.2.2.1
theorem dX11_duties_128 : decode cX11_duties 128 = .ok (.aload_n 0, 1) := dX11_duties_all5.2.2.2.2.2.2.2.1
theorem dX11_duties_129 : decode cX11_duties 129 = .ok (.iload_n 3, 1) := dX11_duties_all5.2.2.2.2.2.2.2.2.1
theorem dX11_duties_130 : decode cX11_duties 130 = .ok (.ldc 139, 2) := dX11_duties_all5.2.2.2.2.2.2.2.2.2.1
theorem dX11_duties_132 : decode cX11_duties 132 = .ok (.if_icmp .eq 7, 3) := dX11_duties_all5.2.2.2.2.2.2.2.2.2.2.1
theorem dX11_duties_135 : decode cX11_duties 135 = .ok (.iconst 1, 1) := dX11_duties_all5.2.2.2.2.2.2.2.2.2.2.2
theorem dX11_duties_all6 : decode cX11_duties 136 = .ok (.goto 4, 3) ∧ decode cX11_duties 139 = .ok (.iconst 0, 1) ∧ decode cX11_duties 140 = .ok (.invokevirtual 283, 3) ∧ decode cX11_duties 143 = .ok (.iconst (-1), 1) ∧ decode cX11_duties 144 = .ok (.istore 4, 2) ∧ decode cX11_duties 146 = .ok (.aload_n 0, 1) ∧ decode cX11_duties 147 = .ok (.getfield 271, 3) ∧ decode cX11_duties 150 = .ok (.ifCond .ne 25, 3) ∧ decode cX11_duties 153 = .ok (.aload_n 0, 1) ∧ decode cX11_duties 154 = .ok (.bipush 62, 2) ∧ decode cX11_duties 156 = .ok (.invokevirtual 302, 3) ∧ decode cX11_duties 159 = .ok (.ifCond .eq 16, 3) := by decide +kernel
theorem dX11_duties_136 : decode cX11_duties 136 = .ok (.goto 4, 3) := dX11_duties_all6.1
theorem dX11_duties_139 : decode cX11_duties 139 = .ok (.iconst 0, 1) := dX11_duties_all6.2.1
theorem dX11_duties_140 : decode cX11_duties 140 = .ok (.invokevirtual 283, 3) := dX11_duties_all6.2.2.1
theorem dX11_duties_143 : decode cX11_duties 143 = .ok (.iconst (-1), 1) := dX11_duties_all6.2.2.2.1
theorem dX11_duties_144 : decode cX11_duties 144 = .ok (.istore 4, 2) := dX11_duties_all6.2.2.2.2.1
theorem dX11_duties_146 : decode cX11_duties 146 = .ok (.aload_n 0, 1) := dX11_duties_all6.2.2.2.2.2.1
theorem dX11_duties_147 : decode cX11_duties 147 = .ok (.getfield 271, 3) := dX11_duties_all6.2.2.2.2.2.2.1
theorem dX11_duties_150 : decode cX11_duties 150 = .ok (.ifCond .ne 25, 3) := dX11_duties_all6.2.2.2.2.2.2.2.1
theorem dX11_duties_153 : decode cX11_duties 153 = .ok (.aload_n 0, 1) := dX11_duties_all6.2.2.2.2.2.2.2.2.1
theorem dX11_duties_154 : decode cX11_duties 154 = .ok (.bipush 62, 2) := dX11_duties_all6.2.2.2.2.2.2.2.2.2.1
theorem dX11_duties_156 : decode cX11_duties 156 = .ok (.invokevirtual 302, 3) := dX11_duties_all6.2.2.2.2.2.2.2.2.2.2.1
theorem dX11_duties_159 : decode cX11_duties 159 = .ok (.ifCond .eq 16, 3) := dX11_duties_all6.2.2.2.2.2.2.2.2.2.2.2
theorem dX11_duties_all7 : decode cX11_duties 162 = .ok (.aload_n 0, 1) ∧ decode cX11_duties 163 = .ok (.invokevirtual 280, 3) ∧ decode cX11_duties 166 = .ok (.aload_n 0, 1) ∧ decode cX11_duties 167 = .ok (.sipush 9999, 3) ∧ decode cX11_duties 170 = .ok (.invokevirtual 305, 3) ∧ decode cX11_duties 173 = .ok (.istore 4, 2) ∧ decode cX11_duties 175 = .ok (.aload_n 0, 1) ∧ decode cX11_duties 176 = .ok (.getfield 271, 3) ∧ decode cX11_duties 179 = .ok (.ifCond .ne 23, 3) ∧ decode cX11_duties 182 = .ok (.aload_n 0, 1) ∧ decode cX11_duties 183 = .ok (.aload_n 0, 1) ∧ decode cX11_duties 184 = .ok (.invokevirtual 290, 3) := by decide +kernel
theorem dX11_duties_162 : decode cX11_duties 162 = .ok (.aload_n 0, 1) := dX11_duties_all7.1
theorem dX11_duties_163 : decode cX11_duties 163 = .ok (.invokevirtual 280, 3) := dX11_duties_all7.2.1
theorem dX11_duties_166 : decode cX11_duties 166 = .ok (.aload_n 0, 1) := dX11_duties_all7.2.2.1
theorem dX11_duties_167 : decode cX11_duties 167 = .ok (.sipush 9999, 3) := dX11_duties_all7.2.2.2.1
theorem dX11_duties_170 : decode cX11_duties 170 = .ok (.invokevirtual 305, 3) := dX11_duties_all7.2.2.2.2.1
theorem dX11_duties_173 : decode cX11_duties 173 = .ok (.istore 4, 2) := dX11_duties_all7.2.2.2.2.2.1
theorem dX11_duties_175 : decode cX11_duties 175 = .ok (.aload_n 0, 1) := dX11_duties_all7.2.2.2.2.2.2.1
theorem dX11_duties_176 : decode cX11_duties 176 = .ok (.getfield 271, 3) := dX11_duties_all7.2.2.2.2.2.2.2.1
theorem dX11_duties_179 : decode cX11_duties 179 = .ok (.ifCond .ne 23, 3) := dX11_duties_all7.2.2.2.2.2.2.2.2.1
theorem dX11_duties_182 : decode cX11_duties 182 = .ok (.aload_n 0, 1) := dX11_duties_all7.2.2.2.2.2.2.2.2.2.1
theorem dX11_duties_183 : decode cX11_duties 183 = .ok (.aload_n 0, 1) := dX11_duties_all7.2.2.2.2.2.2.2.2.2.2.1
theorem dX11_duties_184 : decode cX11_duties 184 = .ok (.invokevirtual 290, 3) := dX11_duties_all7.2.2.2.2.2.2.2.2.2.2.2
theorem dX11_duties_all8 : decode cX11_duties 187 = .ok (.ldc2_w 308, 3) ∧ decode cX11_duties 190 = .ok (.lcmp, 1) ∧ decode cX11_duties 191 = .ok (.ifCond .ne 7, 3) ∧ decode cX11_duties 194 = .ok (.iconst 1, 1) ∧ decode cX11_duties 195 = .ok (.goto 4, 3) ∧ decode cX11_duties 198 = .ok (.iconst 0, 1) ∧ decode cX11_duties 199 = .ok (.invokevirtual 283, 3) ∧ decode cX11_duties 202 = .ok (.aload_n 0, 1) ∧ decode cX11_duties 203 = .ok (.getfield 271, 3) ∧ decode cX11_duties 206 = .ok (.ifCond .ne 12, 3) ∧ decode cX11_duties 209 = .ok (.aload_n 0, 1) ∧ decode cX11_duties 210 = .ok (.bipush 100, 2) := by decide +kernel
theorem dX11_duties_187 : decode cX11_duties 187 = .ok (.ldc2_w 308, 3) := dX11_duties_all8.1
theorem dX11_duties_190 : decode cX11_duties 190 = .ok (.lcmp, 1) := dX11_duties_all8.2.1
theorem dX11_duties_191 : decode cX11_duties 191 = .ok (.ifCond .ne 7, 3) := dX11_duties_all8.2.2.1
theorem dX11_duties_194 : decode cX11_duties 194 = .ok (.iconst 1, 1) := dX11_duties_all8.2.2.2.1
theorem dX11_duties_195 : decode cX11_duties 195 = .ok (.goto 4, 3) := dX11_duties_all8.2.2.2.2.1
theorem dX11_duties_198 : decode cX11_duties 198 = .ok (.iconst 0, 1) := dX11_duties_all8.2.2.2.2.2.1
theorem dX11_duties_199 : decode cX11_duties 199 = .ok (.invokevirtual 283, 3) := dX11_duties_all8.2.2.2.2.2.2.1
theorem dX11_duties_202 : decode cX11_duties 202 = .ok (.aload_n 0, 1) := dX11_duties_all8.2.2.2.2.2.2.2.1
theorem dX11_duties_203 : decode cX11_duties 203 = .ok (.getfield 271, 3) := dX11_duties_all8.2.2.2.2.2.2.2.2.1
theorem dX11_duties_206 : decode cX11_duties 206 = .ok (.ifCond .ne 12, 3) := dX11_duties_all8.2.2.2.2.2.2.2.2.2.1
theorem dX11_duties_209 : decode cX11_duties 209 = .ok (.aload_n 0, 1) := dX11_duties_all8.2.2.2.2.2.2.2.2.2.2.1
theorem dX11_duties_210 : decode cX11_duties 210 = .ok (.bipush 100, 2) := dX11_duties_all8.2.2.2.2.2.2.2.2.2.2.2
theorem dX11_duties_all9 : decode cX11_duties 212 = .ok (.invokevirtual 305, 3) ∧ decode cX11_duties 215 = .ok (.goto 4, 3) ∧ decode cX11_duties 218 = .ok (.iconst 0, 1) ∧ decode cX11_duties 219 = .ok (.istore 5, 2) ∧ decode cX11_duties 221 = .ok (.aload_n 0, 1) ∧ decode cX11_duties 222 = .ok (.getfield 271, 3) ∧ decode cX11_duties 225 = .ok (.ifCond .ne 13, 3) ∧ decode cX11_duties 228 = .ok (.aload_n 0, 1) ∧ decode cX11_duties 229 = .ok (.aload_n 0, 1) ∧ decode cX11_duties 230 = .ok (.bipush 59, 2) ∧ decode cX11_duties 232 = .ok (.invokevirtual 302, 3) ∧ decode cX11_duties 235 = .ok (.invokevirtual 283, 3) := by decide +kernel
theorem dX11_duties_212 : decode cX11_duties 212 = .ok (.invokevirtual 305, 3) := dX11_duties_all9.1
theorem dX11_duties_215 : decode cX11_duties 215 = .ok (.goto 4, 3) := dX11_duties_all9.2.1
theorem dX11_duties_218 : decode cX11_duties 218 = .ok (.iconst 0, 1) := dX11_duties_all9.2.2.1
theorem dX11_duties_219 : decode cX11_duties 219 = .ok (.istore 5, 2) := dX11_duties_all9.2.2.2.1
theorem dX11_duties_221 : decode cX11_duties 221 = .ok (.aload_n 0, 1) := dX11_duties_all9.2.2.2.2.1
theorem dX11_duties_222 : decode cX11_duties 222 = .ok (.getfield 271, 3) := dX11_duties_all9.2.2.2.2.2.1
theorem dX11_duties_225 : decode cX11_duties 225 = .ok (.ifCond .ne 13, 3) := dX11_duties_all9.2.2.2.2.2.2.1
theorem dX11_duties_228 : decode cX11_duties 228 = .ok (.aload_n 0, 1) := dX11_duties_all9.2.2.2.2.2.2.2.1
theorem dX11_duties_229 : decode cX11_duties 229 = .ok (.aload_n 0, 1) := dX11_duties_all9.2.2.2.2.2.2.2.2.1
theorem dX11_duties_230 : decode cX11_duties 230 = .ok (.bipush 59, 2) := dX11_duties_all9.2.2.2.2.2.2.2.2.2.1
theorem dX11_duties_232 : decode cX11_duties 232 = .ok (.invokevirtual 302, 3) := dX11_duties_all9.2.2.2.2.2.2.2.2.2.2.1
theorem dX11_duties_235 : decode cX11_duties 235 = .ok (.invokevirtual 283, 3) := dX11_duties_all9.2.2.2.2.2.2.2.2.2.2.2
theorem dX11_duties_all10 : decode cX11_duties 238 = .ok (.aload_n 0, 1) ∧ decode cX11_duties 239 = .ok (.getfield 271, 3) ∧ decode cX11_duties 242 = .ok (.ifCond .ne 55, 3) ∧ decode cX11_duties 245 = .ok (.aload_n 0, 1) ∧ decode cX11_duties 246 = .ok (.getfield 84, 3) ∧ decode cX11_duties 249 = .ok (.iconst 3, 1) ∧ decode cX11_duties 250 = .ok (.aload_n 0, 1) ∧ decode cX11_duties 251 = .ok (.getfield 287, 3) ∧ decode cX11_duties 254 = .ok (.imul, 1) ∧ decode cX11_duties 255 = .ok (.iload_n 3, 1) ∧ decode cX11_duties 256 = .ok (.iastore, 1) ∧ decode cX11_duties 257 = .ok (.aload_n 0, 1) := by decide +kernel
theorem dX11_duties_238 : decode cX11_duties 238 = .ok (.aload_n 0, 1) := dX11_duties_all10.1
theorem dX11_duties_239 : decode cX11_duties 239 = .ok (.getfield 271, 3) := dX11_duties_all10.2.1
theorem dX11_duties_242 : decode cX11_duties 242 = .ok (.ifCond .ne 55, 3) := dX11_duties_all10.2.2.1
theorem dX11_duties_245 : decode cX11_duties 245 = .ok (.aload_n 0, 1) := dX11_duties_all10.2.2.2.1
theorem dX11_duties_246 : decode cX11_duties 246 = .ok (.getfield 84, 3) := dX11_duties_all10.2.2.2.2.1
theorem dX11_duties_249 : decode cX11_duties 249 = .ok (.iconst 3, 1) := dX11_duties_all10.2.2.2.2.2.1
theorem dX11_duties_250 : decode cX11_duties 250 = .ok (.aload_n 0, 1) := dX11_duties_all10.2.2.2.2.2.2.1
theorem dX11_duties_251 : decode cX11_duties 251 = .ok (.getfield 287, 3) := dX11_duties_all10.2.2.2.2.2.2.2.1
theorem dX11_duties_254 : decode cX11_duties 254 = .ok (.imul, 1) := dX11_duties_all10.2.2.2.2.2.2.2.2.1
theorem dX11_duties_255 : decode cX11_duties 255 = .ok (.iload_n 3, 1) := dX11_duties_all10.2.2.2.2.2.2.2.2.2.1
theorem dX11_duties_256 : decode cX11_duties 256 = .ok (.iastore, 1) := dX11_duties_all10.2.2.2.2.2.2.2.2.2.2.1
theorem dX11_duties_257 : decode cX11_duties 257 = .ok (.aload_n 0, 1) := dX11_duties_all10.2.2.2.2.2.2.2.2.2.2.2
theorem dX11_duties_all11 : decode cX11_duties 258 = .ok (.getfield 84, 3) ∧ decode cX11_duties 261 = .ok (.iconst 3, 1) ∧ decode cX11_duties 262 = .ok (.aload_n 0, 1) ∧ decode cX11_duties 263 = .ok (.getfield 287, 3) ∧ decode cX11_duties 266 = .ok (.imul, 1) ∧ decode cX11_duties 267 = .ok (.iconst 1, 1) ∧ decode cX11_duties 268 = .ok (.iadd, 1) ∧ decode cX11_duties 269 = .ok (.iload 4, 2) ∧ decode cX11_duties 271 = .ok (.iastore, 1) ∧ decode cX11_duties 272 = .ok (.aload_n 0, 1) ∧ decode cX11_duties 273 = .ok (.getfield 84, 3) ∧ decode cX11_duties 276 = .ok (.iconst 3, 1) := by decide +kernel
theorem dX11_duties_258 : decode cX11_duties 258 = .ok (.getfield 84, 3) := dX11_duties_all11.1
theorem dX11_duties_261 : decode cX11_duties 261 = .ok (.iconst 3, 1) := dX11_duties_all11.2.1
theorem dX11_duties_262 : decode cX11_duties 262 = .ok (.aload_n 0, 1) := dX11_duties_all11.2.2.1
theorem dX11_duties_263 : decode cX11_duties 263 = .ok (.getfield 287, 3) := dX11_duties_all11.2.2.2.1
theorem dX11_duties_266 : decode cX11_duties 266 = .ok (.imul, 1) := dX11_duties_all11.2.2.2.2.1
theorem dX11_duties_267 : decode cX11_duties 267 = .ok (.iconst 1, 1) := dX11_duties_all11.2.2.2.2.2.1
theorem dX11_duties_268 : decode cX11_duties 268 = .ok (.iadd, 1) := dX11_duties_all11.2.2.2.2.2.2.1
theorem dX11_duties_269 : decode cX11_duties 269 = .ok (.iload 4, 2) := dX11_duties_all11.2.2.2.2.2.2.2.1
theorem dX11_duties_271 : decode cX11_duties 271 = .ok (.iastore, 1) := dX11_duties_all11.2.2.2.2.2.2.2.2.1
theorem dX11_duties_272 : decode cX11_duties 272 = .ok (.aload_n 0, 1) := dX11_duties_all11.2.2.2.2.2.2.2.2.2.1
theorem dX11_duties_273 : decode cX11_duties 273 = .ok (.getfield 84, 3) := dX11_duties_all11.2.2.2.2.2.2.2.2.2.2.1
theorem dX11_duties_276 : decode cX11_duties 276 = .ok (.iconst 3, 1) := dX11_duties_all11.2.2.2.2.2.2.2.2.2.2.2
theorem dX11_duties_all12 : decode cX11_duties 277 = .ok (.aload_n 0, 1) ∧ decode cX11_duties 278 = .ok (.getfield 287, 3) ∧ decode cX11_duties 281 = .ok (.imul, 1) ∧ decode cX11_duties 282 = .ok (.iconst 2, 1) ∧ decode cX11_duties 283 = .ok (.iadd, 1) ∧ decode cX11_duties 284 = .ok (.iload 5, 2) ∧ decode cX11_duties 286 = .ok (.iastore, 1) ∧ decode cX11_duties 287 = .ok (.aload_n 0, 1) ∧ decode cX11_duties 288 = .ok (.dup, 1) ∧ decode cX11_duties 289 = .ok (.getfield 287, 3) ∧ decode cX11_duties 292 = .ok (.iconst 1, 1) ∧ decode cX11_duties 293 = .ok (.iadd, 1) := by decide +kernel
theorem dX11_duties_277 : decode cX11_duties 277 = .ok (.aload_n 0, 1) := dX11_duties_all12.1
theorem dX11_duties_278 : decode cX11_duties 278 = .ok (.getfield 287, 3) := dX11_duties_all12.2.1
theorem dX11_duties_281 : decode cX11_duties 281 = .ok (.imul, 1) := dX11_duties_all12.2.2.1
theorem dX11_duties_282 : decode cX11_duties 282 = .ok (.iconst 2, 1) := dX11_duties_all12.2.2.2.1
theorem dX11_duties_283 : decode cX11_duties 283 = .ok (.iadd, 1) := dX11_duties_all12.2.2.2.2.1
theorem dX11_duties_284 : decode cX11_duties 284 = .ok (.iload 5, 2) := dX11_duties_all12.2.2.2.2.2.1
theorem dX11_duties_286 : decode cX11_duties 286 = .ok (.iastore, 1) := dX11_duties_all12.2.2.2.2.2.2.1
theorem dX11_duties_287 : decode cX11_duties 287 = .ok (.aload_n 0, 1) := dX11_duties_all12.2.2.2.2.2.2.2.1
theorem dX11_duties_288 : decode cX11_duties 288 = .ok (.dup, 1) := dX11_duties_all12.2.2.2.2.2.2.2.2.1
theorem dX11_duties_289 : decode cX11_duties 289 = .ok (.getfield 287, 3) := dX11_duties_all12.2.2.2.2.2.2.2.2.2.1
theorem dX11_duties_292 : decode cX11_duties 292 = .ok (.iconst 1, 1) := dX11_duties_all12.2.2.2.2.2.2.2.2.2.2.1
theorem dX11_duties_293 : decode cX11_duties 293 = .ok (.iadd, 1) := dX11_duties_all12.2.2.2.2.2.2.2.2.2.2.2
theorem dX11_duties_all13 : decode cX11_duties 294 = .ok (.putfield 287, 3) ∧ decode cX11_duties 297 = .ok (.goto (-260), 3) ∧ decode cX11_duties 300 = .ok (.aload_n 0, 1) ∧ decode cX11_duties 301 = .ok (.getfield 271, 3) ∧ decode cX11_duties 304 = .ok (.ifCond .le 20, 3) ∧ decode cX11_duties 307 = .ok (.aload_n 0, 1) ∧ decode cX11_duties 308 = .ok (.aload_n 0, 1) ∧ decode cX11_duties 309 = .ok (.getfield 271, 3) ∧ decode cX11_duties 312 = .ok (.putfield 310, 3) ∧ decode cX11_duties 315 = .ok (.ldc_w 313, 3) ∧ decode cX11_duties 318 = .ok (.aload_n 0, 1) ∧ decode cX11_duties 319 = .ok (.getfield 274, 3) := by decide +kernel
theorem dX11_duties_294 : decode cX11_duties 294 = .ok (.putfield 287, 3) := dX11_duties_all13.1
theorem dX11_duties_297 : decode cX11_duties 297 = .ok (.goto (-260), 3) := dX11_duties_all13.2.1
theorem dX11_duties_300 : decode cX11_duties 300 = .ok (.aload_n 0, 1) := dX11_duties_all13.2.2.1
theorem dX11_duties_301 : decode cX11_duties 301 = .ok (.getfield 271, 3) := dX11_duties_all13.2.2.2.1
theorem dX11_duties_304 : decode cX11_duties 304 = .ok (.ifCond .le 20, 3) := dX11_duties_all13.2.2.2.2.1
theorem dX11_duties_307 : decode cX11_duties 307 = .ok (.aload_n 0, 1) := dX11_duties_all13.2.2.2.2.2.1
theorem dX11_duties_308 : decode cX11_duties 308 = .ok (.aload_n 0, 1) := dX11_duties_all13.2.2.2.2.2.2.1
theorem dX11_duties_309 : decode cX11_duties 309 = .ok (.getfield 271, 3) := dX11_duties_all13.2.2.2.2.2.2.2.1
theorem dX11_duties_312 : decode cX11_duties 312 = .ok (.putfield 310, 3) := dX11_duties_all13.2.2.2.2.2.2.2.2.1
theorem dX11_duties_315 : decode cX11_duties 315 = .ok (.ldc_w 313, 3) := dX11_duties_all13.2.2.2.2.2.2.2.2.2.1
theorem dX11_duties_318 : decode cX11_duties 318 = .ok (.aload_n 0, 1) := dX11_duties_all13.2.2.2.2.2.2.2.2.2.2.1
theorem dX11_duties_319 : decode cX11_duties 319 = .ok (.getfield 274, 3) := dX11_duties_all13.2.2.2.2.2.2.2.2.2.2.2
theorem dX11_duties_all14 : decode cX11_duties 322 = .ok (.isub, 1) ∧ decode cX11_duties 323 = .ok (.ireturn, 1) ∧ decode cX11_duties 324 = .ok (.aload_n 0, 1) ∧ decode cX11_duties 325 = .ok (.aload_n 0, 1) ∧ decode cX11_duties 326 = .ok (.getfield 287, 3) ∧ decode cX11_duties 329 = .ok (.putfield 314, 3) ∧ decode cX11_duties 332 = .ok (.iconst 0, 1) ∧ decode cX11_duties 333 = .ok (.istore_n 1, 1) ∧ decode cX11_duties 334 = .ok (.iload_n 1, 1) ∧ decode cX11_duties 335 = .ok (.bipush 36, 2) ∧ decode cX11_duties 337 = .ok (.if_icmp .ge 21, 3) ∧ decode cX11_duties 340 = .ok (.aload_n 0, 1) := by decide +kernel
theorem dX11_duties_322 : decode cX11_duties 322 = .ok (.isub, 1) := dX11_duties_all14.1
theorem dX11_duties_323 : decode cX11_duties 323 = .ok (.ireturn, 1) := dX11_duties_all14.2.1
theorem dX11_duties_324 : decode cX11_duties 324 = .ok (.aload_n 0, 1) := dX11_duties_all14.2.2.1
theorem dX11_duties_325 : decode cX11_duties 325 = .ok (.aload_n 0, 1) := dX11_duties_all14.2.2.2.1
theorem dX11_duties_326 : decode cX11_duties 326 = .ok (.getfield 287, 3) := dX11_duties_all14.2.2.2.2.1
theorem dX11_duties_329 : decode cX11_duties 329 = .ok (.putfield 314, 3) := dX11_duties_all14.2.2.2.2.2.1
theorem dX11_duties_332 : decode cX11_duties 332 = .ok (.iconst 0, 1) := dX11_duties_all14.2.2.2.2.2.2.1
theorem dX11_duties_333 : decode cX11_duties 333 = .ok (.istore_n 1, 1) := dX11_duties_all14.2.2.2.2.2.2.2.1
theorem dX11_duties_334 : decode cX11_duties 334 = .ok (.iload_n 1, 1) := dX11_duties_all14.2.2.2.2.2.2.2.2.1
theorem dX11_duties_335 : decode cX11_duties 335 = .ok (.bipush 36, 2) := dX11_duties_all14.2.2.2.2.2.2.2.2.2.1
theorem dX11_duties_337 : decode cX11_duties 337 = .ok (.if_icmp .ge 21, 3) := dX11_duties_all14.2.2.2.2.2.2.2.2.2.2.1
theorem dX11_duties_340 : decode cX11_duties 340 = .ok (.aload_n 0, 1) := dX11_duties_all14.2.2.2.2.2.2.2.2.2.2.2
theorem dX11_duties_all15 : decode cX11_duties 341 = .ok (.getfield 81, 3) ∧ decode cX11_duties 344 = .ok (.iload_n 1, 1) ∧ decode cX11_duties 345 = .ok (.aload_n 0, 1) ∧ decode cX11_duties 346 = .ok (.getfield 84, 3) ∧ decode cX11_duties 349 = .ok (.iload_n 1, 1) ∧ decode cX11_duties 350 = .ok (.iaload, 1) ∧ decode cX11_duties 351 = .ok (.iastore, 1) ∧ decode cX11_duties 352 = .ok (.iinc 1 1, 3) ∧ decode cX11_duties 355 = .ok (.goto (-21), 3) ∧ decode cX11_duties 358 = .ok (.aload_n 0, 1) ∧ decode cX11_duties 359 = .ok (.getfield 314, 3) ∧ decode cX11_duties 362 = .ok (.ireturn, 1) := by decide +kernel
theorem dX11_duties_341 : decode cX11_duties 341 = .ok (.getfield 81, 3) := dX11_duties_all15.1
theorem dX11_duties_344 : decode cX11_duties 344 = .ok (.iload_n 1, 1) := dX11_duties_all15.2.1
theorem dX11_duties_345 : decode cX11_duties 345 = .ok (.aload_n 0, 1) := dX11_duties_all15.2.2.1
theorem dX11_duties_346 : decode cX11_duties 346 = .ok (.getfield 84, 3) := dX11_duties_all15.2.2.2.1
theorem dX11_duties_349 : decode cX11_duties 349 = .ok (.iload_n 1, 1) := dX11_duties_all15.2.2.2.2.1
theorem dX11_duties_350 : decode cX11_duties 350 = .ok (.iaload, 1) := dX11_duties_all15.2.2.2.2.2.1
theorem dX11_duties_351 : decode cX11_duties 351 = .ok (.iastore, 1) := dX11_duties_all15.2.2.2.2.2.2.1
theorem dX11_duties_352 : decode cX11_duties 352 = .ok (.iinc 1 1, 3) := dX11_duties_all15.2.2.2.2.2.2.2.1
theorem dX11_duties_355 : decode cX11_duties 355 = .ok (.goto (-21), 3) := dX11_duties_all15.2.2.2.2.2.2.2.2.1
theorem dX11_duties_358 : decode cX11_duties 358 = .ok (.aload_n 0, 1) := dX11_duties_all15.2.2.2.2.2.2.2.2.2.1
theorem dX11_duties_359 : decode cX11_duties 359 = .ok (.getfield 314, 3) := dX11_duties_all15.2.2.2.2.2.2.2.2.2.2.1
theorem dX11_duties_362 : decode cX11_duties 362 = .ok (.ireturn, 1) := dX11_duties_all15.2.2.2.2.2.2.2.2.2.2.2
set_option maxHeartbeats 4000000 in
set_option maxRecDepth 100000 in
theorem ct_X11_duties (l : Launch) (D : va_G) (cI cY cJ cQ : ClassId) (sz : Nat) (md : Nat → Nat) (sd : Int32) (mth mst hn cn pn mq gn mln mnn ln mlt msz mcu mtk mfr mti mfa mfb an un lc td mtn : Int32) (mli mnl mtp : Nat → Int32)  (h1 : 0 ≤ ln.toInt) (h2 : ln.toInt ≤ 300) (h3 : 0 ≤ mln.toInt) (h4 : mln.toInt ≤ 12) (h5 : okB ln mtp)  : Met l yX11_duties wsX11_duties ({ frames := 4, cells := 0, slots := 0, locals := 86 }) (cPre D (ty4 cI cY cJ cQ) [(moC md sd mth mst hn cn pn mq gn mln mnn ln mlt msz mcu mtk mfr mti mfa mfb an un lc td mtn), ((md 31), .inl (cI, 36, .inl mli)), ((md 33), .inl (cI, 36, .inl mnl)), ((md 34), .inl (cI, 300, .inl mtp))] sz [.ref (md 64)]) (va_Qi (fun (r : Int32) (u : Int32 × (Nat → Int32) × Int32 × (Nat → Int32) × Int32 × Int32 × Int32 × Int32 × Int32 × Int32 × Int32 × Int32) => 0 ≤ u.1.toInt ∧ u.1.toInt ≤ 12 ∧ mdP mtp ln.toNatClampNeg r mlt mln u.2.2.2.2.1 u.1 mli u.2.1) (cB D (ty4 cI cY cJ cQ) (fun (u : Int32 × (Nat → Int32) × Int32 × (Nat → Int32) × Int32 × Int32 × Int32 × Int32 × Int32 × Int32 × Int32 × Int32) => [(moC md sd 0 mst hn cn pn mq gn u.1 u.2.2.1 0 u.2.2.2.2.1 u.2.2.2.2.2.1 u.2.2.2.2.2.2.1 u.2.2.2.2.2.2.2.1 u.2.2.2.2.2.2.2.2.1 u.2.2.2.2.2.2.2.2.2.1 u.2.2.2.2.2.2.2.2.2.2.1 u.2.2.2.2.2.2.2.2.2.2.2 an un lc td mtn), ((md 31), .inl (cI, 36, .inl u.2.1)), ((md 33), .inl (cI, 36, .inl u.2.2.2.1)), ((md 34), .inl (cI, 300, .inl mtp))]) (va_A [(moC md sd mth mst hn cn pn mq gn mln mnn ln mlt msz mcu mtk mfr mti mfa mfb an un lc td mtn), ((md 31), .inl (cI, 36, .inl mli)), ((md 33), .inl (cI, 36, .inl mnl)), ((md 34), .inl (cI, 300, .inl mtp))] sz)) (va_A [(moC md sd mth mst hn cn pn mq gn mln mnn ln mlt msz mcu mtk mfr mti mfa mfb an un lc td mtn), ((md 31), .inl (cI, 36, .inl mli)), ((md 33), .inl (cI, 36, .inl mnl)), ((md 34), .inl (cI, 300, .inl mtp))] sz)) 0 0 (va_A [(moC md sd mth mst hn cn pn mq gn mln mnn ln mlt msz mcu mtk mfr mti mfa mfb an un lc td mtn), ((md 31), .inl (cI, 36, .inl mli)), ((md 33), .inl (cI, 36, .inl mnl)), ((md 34), .inl (cI, 300, .inl mtp))] sz) := by
  refine Met.ofW (cc := cX11_duties) (maxL := 6) (ret := (some .int)) (by decide) rfl ?_
  intro p e s m args below meth c s₁ B hml hv
  obtain ⟨rfl, hsz, hP, hK, hD0, hN⟩ := hv
  have hx := B.exec
  have hb := B.bytes
  have hr := B.returns
  have hts := atoms_spec (ws := wsX11_duties) B.pre
  have hown : s.vm.findClass RX11 = some m.cls := findClass_of_methodNamed B.named
  have hlocks := B.notSynchronized
  subst hsz
  have hD := hD0.self (sz := s.heap.size)
  generalize hAe : va_A [(moC md sd mth mst hn cn pn mq gn mln mnn ln mlt msz mcu mtk mfr mti mfa mfb an un lc td mtn), ((md 31), .inl (cI, 36, .inl mli)), ((md 33), .inl (cI, 36, .inl mnl)), ((md 34), .inl (cI, 300, .inl mtp))] s.heap.size = A at hD ⊢
  have hA : ∀ q : Nat, s.heap.size ≤ q → A q := fun q h => by rw [← hAe]; exact Or.inr h
  have hS : va_S A s.heap s.heap [] := va_S.rf
  have hP : va_P D vwCl [(moC md sd mth mst hn cn pn mq gn mln mnn ln mlt msz mcu mtk mfr mti mfa mfb an un lc td mtn), ((md 31), .inl (cI, 36, .inl mli)), ((md 33), .inl (cI, 36, .inl mnl)), ((md 34), .inl (cI, 300, .inl mtp))] s.heap := hP
  have hl := lv_entry ([.ref (md 64)]) (n := 6) (Nat.le_of_ble_eq_true rfl)
  rw [lg_entry_eq]
  generalize (lg_sl ([.ref (md 64)]) ++ List.replicate (6 - (lg_sl ([.ref (md 64)])).length) Slot.unset).toArray = ls at hl ⊢
  have hl : lv_has ls 6 [(0, .ref (md 64))] := hl
  have km1000100 : (-1000100 : Int32).toInt = -1000100 := by decide
  have km1000000 : (-1000000 : Int32).toInt = -1000000 := by decide
  have km1 : (-1 : Int32).toInt = -1 := by decide
  have k0 : (0 : Int32).toInt = 0 := by decide
  have k1 : (1 : Int32).toInt = 1 := by decide
  have k2 : (2 : Int32).toInt = 2 := by decide
  have k3 : (3 : Int32).toInt = 3 := by decide
  have k12 : (12 : Int32).toInt = 12 := by decide
  have k36 : (36 : Int32).toInt = 36 := by decide
  have k59 : (59 : Int32).toInt = 59 := by decide
  have k62 : (62 : Int32).toInt = 62 := by decide
  have k100 : (100 : Int32).toInt = 100 := by decide
  have k9999 : (9999 : Int32).toInt = 9999 := by decide
  have kl7304564 : (7304564 : Int64).toInt = 7304564 := by decide
  have kl1885434484 : (1885434484 : Int64).toInt = 1885434484 := by decide
  have kl1936682084 : (1936682084 : Int64).toInt = 1936682084 := by decide
  have kl495673374574 : (495673374574 : Int64).toInt = 495673374574 := by decide
  have kl120282411197796 : (120282411197796 : Int64).toInt = 120282411197796 := by decide
  refine lv_aload_n hx hb dX11_duties_0 rfl (lv_at hl 0 rfl) ?_
  refine lv_iconst (v := 0) hx hb dX11_duties_1 (by decide) ?_
  refine va_put (D := D) (ci := 11) (v := .int 0) (ty := .int) (C := RX11) (T := TX11) (N := 64) hx hb hts inX11_duties_X11 tyX11 tyX11_ok nmX11 hown hK hP hD hS 0 rfl rfl 0 (by decide) (hts (Cond.fieldLink RX11 1 "PortRoomsModel" "thrown" "I") (List.mem_cons_of_mem _ (List.mem_append_left _ (List.mem_append_left _ (List.mem_of_getElem? (i := 0) rfl))))) (fun _ h9 => h9) rfl (tyX11_ok 0 (by decide)) rfl rfl (Nat.le_of_ble_eq_true rfl) dX11_duties_2 (fun H locs => ?_)
  clear hP hD hS
  intro hP hD hS
  replace hP : va_P D vwCl [(moC md sd (0) mst hn cn pn mq gn mln mnn ln mlt msz mcu mtk mfr mti mfa mfb an un lc td mtn), ((md 31), .inl (cI, 36, .inl mli)), ((md 33), .inl (cI, 36, .inl mnl)), ((md 34), .inl (cI, 300, .inl mtp))] H := hP
  replace hD : va_D A [(moC md sd (0) mst hn cn pn mq gn mln mnn ln mlt msz mcu mtk mfr mti mfa mfb an un lc td mtn), ((md 31), .inl (cI, 36, .inl mli)), ((md 33), .inl (cI, 36, .inl mnl)), ((md 34), .inl (cI, 300, .inl mtp))] := hD
  refine lv_aload_n hx hb dX11_duties_5 rfl (lv_at hl 0 rfl) ?_
  refine lv_aload_n hx hb dX11_duties_6 rfl (lv_at hl 0 rfl) ?_
  refine va_get (D := D) (ci := 11) (v := .int ln) (C := RX11) (T := TX11) (N := 64) hx hb hts inX11_duties_X11 hown hK hP 0 rfl rfl 35 (by decide) (hts (Cond.fieldLink RX11 242 "PortRoomsModel" "taped" "I") (List.mem_cons_of_mem _ (List.mem_append_left _ (List.mem_append_left _ (List.mem_of_getElem? (i := 1) rfl))))) (fun _ h9 => h9) rfl dX11_duties_7 ?_
  refine va_put (D := D) (ci := 11) (v := .int ln) (ty := .int) (C := RX11) (T := TX11) (N := 64) hx hb hts inX11_duties_X11 tyX11 tyX11_ok nmX11 hown hK hP hD hS 0 rfl rfl 37 (by decide) (hts (Cond.fieldLink RX11 247 "PortRoomsModel" "size" "I") (List.mem_cons_of_mem _ (List.mem_append_left _ (List.mem_append_left _ (List.mem_of_getElem? (i := 2) rfl))))) (fun _ h9 => h9) rfl (tyX11_ok 37 (by decide)) rfl rfl (Nat.le_of_ble_eq_true rfl) dX11_duties_10 (fun H locs => ?_)
  clear hP hD hS
  intro hP hD hS
  replace hP : va_P D vwCl [(moC md sd (0) mst hn cn pn mq gn mln mnn ln mlt ln mcu mtk mfr mti mfa mfb an un lc td mtn), ((md 31), .inl (cI, 36, .inl mli)), ((md 33), .inl (cI, 36, .inl mnl)), ((md 34), .inl (cI, 300, .inl mtp))] H := hP
  replace hD : va_D A [(moC md sd (0) mst hn cn pn mq gn mln mnn ln mlt ln mcu mtk mfr mti mfa mfb an un lc td mtn), ((md 31), .inl (cI, 36, .inl mli)), ((md 33), .inl (cI, 36, .inl mnl)), ((md 34), .inl (cI, 300, .inl mtp))] := hD
  refine lv_aload_n hx hb dX11_duties_13 rfl (lv_at hl 0 rfl) ?_
  refine lv_iconst (v := 0) hx hb dX11_duties_14 (by decide) ?_
  refine va_put (D := D) (ci := 11) (v := .int 0) (ty := .int) (C := RX11) (T := TX11) (N := 64) hx hb hts inX11_duties_X11 tyX11 tyX11_ok nmX11 hown hK hP hD hS 0 rfl rfl 35 (by decide) (hts (Cond.fieldLink RX11 242 "PortRoomsModel" "taped" "I") (List.mem_cons_of_mem _ (List.mem_append_left _ (List.mem_append_left _ (List.mem_of_getElem? (i := 1) rfl))))) (fun _ h9 => h9) rfl (tyX11_ok 35 (by decide)) rfl rfl (Nat.le_of_ble_eq_true rfl) dX11_duties_15 (fun H locs => ?_)
  clear hP hD hS
  intro hP hD hS
  replace hP : va_P D vwCl [(moC md sd (0) mst hn cn pn mq gn mln mnn (0) mlt ln mcu mtk mfr mti mfa mfb an un lc td mtn), ((md 31), .inl (cI, 36, .inl mli)), ((md 33), .inl (cI, 36, .inl mnl)), ((md 34), .inl (cI, 300, .inl mtp))] H := hP
  replace hD : va_D A [(moC md sd (0) mst hn cn pn mq gn mln mnn (0) mlt ln mcu mtk mfr mti mfa mfb an un lc td mtn), ((md 31), .inl (cI, 36, .inl mli)), ((md 33), .inl (cI, 36, .inl mnl)), ((md 34), .inl (cI, 300, .inl mtp))] := hD
  refine lv_aload_n hx hb dX11_duties_18 rfl (lv_at hl 0 rfl) ?_
  refine lv_iconst (v := 0) hx hb dX11_duties_19 (by decide) ?_
  refine va_put (D := D) (ci := 11) (v := .int 0) (ty := .int) (C := RX11) (T := TX11) (N := 64) hx hb hts inX11_duties_X11 tyX11 tyX11_ok nmX11 hown hK hP hD hS 0 rfl rfl 38 (by decide) (hts (Cond.fieldLink RX11 250 "PortRoomsModel" "cursor" "I") (List.mem_cons_of_mem _ (List.mem_append_left _ (List.mem_append_left _ (List.mem_of_getElem? (i := 3) rfl))))) (fun _ h9 => h9) rfl (tyX11_ok 38 (by decide)) rfl rfl (Nat.le_of_ble_eq_true rfl) dX11_duties_20 (fun H locs => ?_)
  clear hP hD hS
  intro hP hD hS
  replace hP : va_P D vwCl [(moC md sd (0) mst hn cn pn mq gn mln mnn (0) mlt ln (0) mtk mfr mti mfa mfb an un lc td mtn), ((md 31), .inl (cI, 36, .inl mli)), ((md 33), .inl (cI, 36, .inl mnl)), ((md 34), .inl (cI, 300, .inl mtp))] H := hP
  replace hD : va_D A [(moC md sd (0) mst hn cn pn mq gn mln mnn (0) mlt ln (0) mtk mfr mti mfa mfb an un lc td mtn), ((md 31), .inl (cI, 36, .inl mli)), ((md 33), .inl (cI, 36, .inl mnl)), ((md 34), .inl (cI, 300, .inl mtp))] := hD
  refine lv_aload_n hx hb dX11_duties_23 rfl (lv_at hl 0 rfl) ?_
  refine lv_iconst (v := 0) hx hb dX11_duties_24 (by decide) ?_
  refine va_put (D := D) (ci := 11) (v := .int 0) (ty := .int) (C := RX11) (T := TX11) (N := 64) hx hb hts inX11_duties_X11 tyX11 tyX11_ok nmX11 hown hK hP hD hS 0 rfl rfl 42 (by decide) (hts (Cond.fieldLink RX11 271 "PortRoomsModel" "fault" "I") (List.mem_cons_of_mem _ (List.mem_append_left _ (List.mem_append_left _ (List.mem_of_getElem? (i := 4) rfl))))) (fun _ h9 => h9) rfl (tyX11_ok 42 (by decide)) rfl rfl (Nat.le_of_ble_eq_true rfl) dX11_duties_25 (fun H locs => ?_)
  clear hP hD hS
  intro hP hD hS
  replace hP : va_P D vwCl [(moC md sd (0) mst hn cn pn mq gn mln mnn (0) mlt ln (0) mtk mfr mti (0) mfb an un lc td mtn), ((md 31), .inl (cI, 36, .inl mli)), ((md 33), .inl (cI, 36, .inl mnl)), ((md 34), .inl (cI, 300, .inl mtp))] H := hP
  replace hD : va_D A [(moC md sd (0) mst hn cn pn mq gn mln mnn (0) mlt ln (0) mtk mfr mti (0) mfb an un lc td mtn), ((md 31), .inl (cI, 36, .inl mli)), ((md 33), .inl (cI, 36, .inl mnl)), ((md 34), .inl (cI, 300, .inl mtp))] := hD
  refine lv_aload_n hx hb dX11_duties_28 rfl (lv_at hl 0 rfl) ?_
  refine lv_iconst (v := 0) hx hb dX11_duties_29 (by decide) ?_
  refine va_put (D := D) (ci := 11) (v := .int 0) (ty := .int) (C := RX11) (T := TX11) (N := 64) hx hb hts inX11_duties_X11 tyX11 tyX11_ok nmX11 hown hK hP hD hS 0 rfl rfl 32 (by decide) (hts (Cond.fieldLink RX11 287 "PortRoomsModel" "newLines" "I") (List.mem_cons_of_mem _ (List.mem_append_left _ (List.mem_append_left _ (List.mem_of_getElem? (i := 5) rfl))))) (fun _ h9 => h9) rfl (tyX11_ok 32 (by decide)) rfl rfl (Nat.le_of_ble_eq_true rfl) dX11_duties_30 (fun H locs => ?_)
  clear hP hD hS
  intro hP hD hS
  replace hP : va_P D vwCl [(moC md sd (0) mst hn cn pn mq gn mln (0) (0) mlt ln (0) mtk mfr mti (0) mfb an un lc td mtn), ((md 31), .inl (cI, 36, .inl mli)), ((md 33), .inl (cI, 36, .inl mnl)), ((md 34), .inl (cI, 300, .inl mtp))] H := hP
  replace hD : va_D A [(moC md sd (0) mst hn cn pn mq gn mln (0) (0) mlt ln (0) mtk mfr mti (0) mfb an un lc td mtn), ((md 31), .inl (cI, 36, .inl mli)), ((md 33), .inl (cI, 36, .inl mnl)), ((md 34), .inl (cI, 300, .inl mtp))] := hD
  refine lv_aload_n hx hb dX11_duties_33 rfl (lv_at hl 0 rfl) ?_
  refine st_v (wr := [((md 31), .inl (cI, 36, .inl mli)), ((md 33), .inl (cI, 36, .inl mnl))]) (va_runV (C := RX11) (As := []) (rest := []) ⟨hx, hb, hml, hown, hts⟩ (ct_X11_step l D cI cY cJ cQ _ md sd 0 mst hn cn pn mq gn mln 0 0 mlt ln 0 mtk mfr mti 0 mfb an un lc td mtn mtp (by omega) (by omega) (by omega) (by omega) (by assumption)) (cwV 0 hts gX11_duties_X11_step rfl rfl rfl ⟨rfl, cdX11_step⟩ ⟨Nat.le_of_ble_eq_true rfl, Nat.le_of_ble_eq_true rfl⟩) (cPreV (hP.sub [0, 3] rfl) hK (hD.sub [0, 3] (by decide +kernel) rfl) hN (ci := 11) (q0 := 0) rfl rfl) rfl rfl hl.1 rfl (lv_room (Nat.le_of_ble_eq_true rfl)) dX11_duties_34 ⟨Nat.le_of_ble_eq_true rfl, Nat.le_of_ble_eq_true rfl⟩) hP hD hS hA [0, 3] [1, 2] rfl rfl (by decide +kernel) (by decide +kernel) (fun u1 H locs hw2 => ?_)
  clear hP hD hS
  intro hP hD hS
  obtain ⟨mcu_4, mtk_5, mfr_6, mti_7⟩ := u1
  replace hw2 : mfr_6.toInt = (tS mtp ln.toNatClampNeg (0 : Int32).toNatClampNeg : Int) ∧ mcu_4.toInt = (tE mtp ln.toNatClampNeg (0 : Int32).toNatClampNeg : Int) ∧ mti_7.toInt = mcu_4.toInt ∧ mtk_5.toInt = mK mtp ln.toNatClampNeg (0 : Int32).toNatClampNeg ∧ (0 : Int32).toInt ≤ mfr_6.toInt ∧ mfr_6.toInt ≤ mcu_4.toInt ∧ mcu_4.toInt ≤ ln.toInt := hw2
  replace hP : va_P D vwCl [((md 31), .inl (cI, 36, .inl mli)), ((md 33), .inl (cI, 36, .inl mnl)), (moC md sd (0) mst hn cn pn mq gn mln (0) (0) mlt ln mcu_4 mtk_5 mfr_6 mti_7 (0) mfb an un lc td mtn), ((md 34), .inl (cI, 300, .inl mtp))] H := hP
  replace hD : va_D A [((md 31), .inl (cI, 36, .inl mli)), ((md 33), .inl (cI, 36, .inl mnl)), (moC md sd (0) mst hn cn pn mq gn mln (0) (0) mlt ln mcu_4 mtk_5 mfr_6 mti_7 (0) mfb an un lc td mtn), ((md 34), .inl (cI, 300, .inl mtp))] := hD
  refine st_loop 37 (fun _ => []) (fun (z : (Nat → Int32) × Int32 × Int32 × Int32 × Int32 × Int32 × Int32 × Int32) (ls : Array Slot) (H : Heap) (locs : List Loc) => match z with | (mnlq, hcu, htk, hfr, hti, hfa, hfb, hnn) => (0 ≤ hfr.toInt) ∧ (hfr.toInt ≤ hcu.toInt) ∧ (hcu.toInt ≤ ln.toInt) ∧ (hti.toInt = hcu.toInt) ∧ (0 ≤ hnn.toInt) ∧ (hnn.toInt ≤ 12) ∧ (duOk mtp ln.toNatClampNeg hnn.toNatClampNeg) ∧ (mlQ mtp ln.toNatClampNeg hnn.toNatClampNeg mnlq) ∧ ((hfa.toInt = 0 ∧ hfr.toInt = (tS mtp ln.toNatClampNeg (poL mtp ln.toNatClampNeg hnn.toNatClampNeg) : Int) ∧ hcu.toInt = (tE mtp ln.toNatClampNeg (poL mtp ln.toNatClampNeg hnn.toNatClampNeg) : Int) ∧ htk.toInt = mK mtp ln.toNatClampNeg (poL mtp ln.toNatClampNeg hnn.toNatClampNeg)) ∨ (¬ hfa.toInt = 0 ∧ hfa.toInt = dcF mtp ln.toNatClampNeg hnn.toNatClampNeg ∧ hfb.toInt = (dpF mtp ln.toNatClampNeg hnn.toNatClampNeg : Int) ∧ ¬ tK mtp ln.toNatClampNeg (poL mtp ln.toNatClampNeg hnn.toNatClampNeg) = 8)) ∧ lv_has ls 6 [(0, .ref (md 64))] ∧ va_P D vwCl [((md 31), .inl (cI, 36, .inl mli)), ((md 33), .inl (cI, 36, .inl mnlq)), (moC md sd (0) mst hn cn pn mq gn mln hnn (0) mlt ln hcu htk hfr hti hfa hfb an un lc td mtn), ((md 34), .inl (cI, 300, .inl mtp))] H ∧ va_D A [((md 31), .inl (cI, 36, .inl mli)), ((md 33), .inl (cI, 36, .inl mnlq)), (moC md sd (0) mst hn cn pn mq gn mln hnn (0) mlt ln hcu htk hfr hti hfa hfb an un lc td mtn), ((md 34), .inl (cI, 300, .inl mtp))] ∧ va_S A s.heap H locs) (fun (z : (Nat → Int32) × Int32 × Int32 × Int32 × Int32 × Int32 × Int32 × Int32) => match z with | (mnlq, hcu, htk, hfr, hti, hfa, hfb, hnn) => 13 - hnn.toInt) ?_ ?_ (mnl, mcu_4, mtk_5, mfr_6, mti_7, (0 : Int32), mfb, (0 : Int32)) ⟨(by omega), (by omega), (by omega), (by omega), (by omega), (by omega), (by exact duOk_0), (by exact mlQ_0), (by exact Or.inl (md_0 hw2.1 hw2.2.1 hw2.2.2.2.1)), lv_sub hl [0] rfl, hP, hD, hS⟩
  · rintro ⟨mnlq, hcu, htk, hfr, hti, hfa, hfb, hnn⟩ ls H locs ⟨g8, g9, g10, g11, g12, g13, g14, g15, g16, hl, hP, hD, hS⟩
    show (0 : Int) ≤ 13 - hnn.toInt
    omega
  · rintro n19 ih17 ⟨mnlq, hcu, htk, hfr, hti, hfa, hfb, hnn⟩ ls H locs ⟨g8, g9, g10, g11, g12, g13, g14, g15, g16, hl, hP, hD, hS⟩ hm18
    have hm18 : 13 - hnn.toInt < (n19 : Int) + 1 := hm18
    replace hl : lv_has ls 6 [(0, .ref (md 64))] := hl
    replace hP : va_P D vwCl [((md 31), .inl (cI, 36, .inl mli)), ((md 33), .inl (cI, 36, .inl mnlq)), (moC md sd (0) mst hn cn pn mq gn mln hnn (0) mlt ln hcu htk hfr hti hfa hfb an un lc td mtn), ((md 34), .inl (cI, 300, .inl mtp))] H := hP
    replace hD : va_D A [((md 31), .inl (cI, 36, .inl mli)), ((md 33), .inl (cI, 36, .inl mnlq)), (moC md sd (0) mst hn cn pn mq gn mln hnn (0) mlt ln hcu htk hfr hti hfa hfb an un lc td mtn), ((md 34), .inl (cI, 300, .inl mtp))] := hD
    show W _ _ _ _ _ _ _ _ _ _ _ _ _ _ _ (F0 m 37 ls [])
    refine lv_aload_n hx hb dX11_duties_37 rfl (lv_at hl 0 rfl) ?_
    refine va_get (D := D) (ci := 11) (v := .int hfa) (C := RX11) (T := TX11) (N := 64) hx hb hts inX11_duties_X11 hown hK hP 2 rfl rfl 42 (by decide) (hts (Cond.fieldLink RX11 271 "PortRoomsModel" "fault" "I") (List.mem_cons_of_mem _ (List.mem_append_left _ (List.mem_append_left _ (List.mem_of_getElem? (i := 4) rfl))))) (fun _ h9 => h9) rfl dX11_duties_38 ?_
    refine lv_if_ne (tgt := 300) hx hb dX11_duties_41 (by decide) (fun c20 => ?_) (fun c20 => ?_)
    · skip
      have f21 := i_ne c20
      refine lv_aload_n hx hb dX11_duties_300 rfl (lv_at hl 0 rfl) ?_
      refine va_get (D := D) (ci := 11) (v := .int hfa) (C := RX11) (T := TX11) (N := 64) hx hb hts inX11_duties_X11 hown hK hP 2 rfl rfl 42 (by decide) (hts (Cond.fieldLink RX11 271 "PortRoomsModel" "fault" "I") (List.mem_cons_of_mem _ (List.mem_append_left _ (List.mem_append_left _ (List.mem_of_getElem? (i := 4) rfl))))) (fun _ h9 => h9) rfl dX11_duties_301 ?_
      refine lv_if_le (tgt := 324) hx hb dX11_duties_304 (by decide) (fun c22 => ?_) (fun c22 => ?_)
      · skip
        have f23 := i_le c22
        refine lv_aload_n hx hb dX11_duties_324 rfl (lv_at hl 0 rfl) ?_
        refine lv_aload_n hx hb dX11_duties_325 rfl (lv_at hl 0 rfl) ?_
        refine va_get (D := D) (ci := 11) (v := .int hnn) (C := RX11) (T := TX11) (N := 64) hx hb hts inX11_duties_X11 hown hK hP 2 rfl rfl 32 (by decide) (hts (Cond.fieldLink RX11 287 "PortRoomsModel" "newLines" "I") (List.mem_cons_of_mem _ (List.mem_append_left _ (List.mem_append_left _ (List.mem_of_getElem? (i := 5) rfl))))) (fun _ h9 => h9) rfl dX11_duties_326 ?_
        refine va_put (D := D) (ci := 11) (v := .int hnn) (ty := .int) (C := RX11) (T := TX11) (N := 64) hx hb hts inX11_duties_X11 tyX11 tyX11_ok nmX11 hown hK hP hD hS 2 rfl rfl 30 (by decide) (hts (Cond.fieldLink RX11 314 "PortRoomsModel" "lines" "I") (List.mem_cons_of_mem _ (List.mem_append_left _ (List.mem_append_left _ (List.mem_of_getElem? (i := 17) rfl))))) (fun _ h9 => h9) rfl (tyX11_ok 30 (by decide)) rfl rfl (Nat.le_of_ble_eq_true rfl) dX11_duties_329 (fun H locs => ?_)
        clear hP hD hS
        intro hP hD hS
        replace hP : va_P D vwCl [((md 31), .inl (cI, 36, .inl mli)), ((md 33), .inl (cI, 36, .inl mnlq)), (moC md sd (0) mst hn cn pn mq gn hnn hnn (0) mlt ln hcu htk hfr hti hfa hfb an un lc td mtn), ((md 34), .inl (cI, 300, .inl mtp))] H := hP
        replace hD : va_D A [((md 31), .inl (cI, 36, .inl mli)), ((md 33), .inl (cI, 36, .inl mnlq)), (moC md sd (0) mst hn cn pn mq gn hnn hnn (0) mlt ln hcu htk hfr hti hfa hfb an un lc td mtn), ((md 34), .inl (cI, 300, .inl mtp))] := hD
        refine lv_iconst (v := 0) hx hb dX11_duties_332 (by decide) ?_
        refine lv_istore_n (lv' := [(1, .int 0), (0, .ref (md 64))]) hx hb dX11_duties_333 rfl hl (by decide) rfl (fun ls hl => ?_)
        refine st_loop 334 (fun _ => []) (fun (z : Int32 × (Nat → Int32)) (ls : Array Slot) (H : Heap) (locs : List Loc) => match z with | (q334_1, mliq) => (0 ≤ q334_1.toInt) ∧ (q334_1.toInt ≤ 36) ∧ (∀ j : Nat, (j : Int) < q334_1.toInt → mliq j = mnlq j) ∧ lv_has ls 6 [(0, .ref (md 64)), (1, .int q334_1)] ∧ va_P D vwCl [((md 31), .inl (cI, 36, .inl mliq)), ((md 33), .inl (cI, 36, .inl mnlq)), (moC md sd (0) mst hn cn pn mq gn hnn hnn (0) mlt ln hcu htk hfr hti hfa hfb an un lc td mtn), ((md 34), .inl (cI, 300, .inl mtp))] H ∧ va_D A [((md 31), .inl (cI, 36, .inl mliq)), ((md 33), .inl (cI, 36, .inl mnlq)), (moC md sd (0) mst hn cn pn mq gn hnn hnn (0) mlt ln hcu htk hfr hti hfa hfb an un lc td mtn), ((md 34), .inl (cI, 300, .inl mtp))] ∧ va_S A s.heap H locs) (fun (z : Int32 × (Nat → Int32)) => match z with | (q334_1, mliq) => 36 - q334_1.toInt) ?_ ?_ ((0 : Int32), mli) ⟨(by omega), (by omega), (by intro j hj; exfalso; omega), lv_sub hl [1, 0] rfl, hP, hD, hS⟩
        · rintro ⟨q334_1, mliq⟩ ls H locs ⟨g24, g25, g26, hl, hP, hD, hS⟩
          show (0 : Int) ≤ 36 - q334_1.toInt
          omega
        · rintro n29 ih27 ⟨q334_1, mliq⟩ ls H locs ⟨g24, g25, g26, hl, hP, hD, hS⟩ hm28
          have hm28 : 36 - q334_1.toInt < (n29 : Int) + 1 := hm28
          replace hl : lv_has ls 6 [(0, .ref (md 64)), (1, .int q334_1)] := hl
          replace hP : va_P D vwCl [((md 31), .inl (cI, 36, .inl mliq)), ((md 33), .inl (cI, 36, .inl mnlq)), (moC md sd (0) mst hn cn pn mq gn hnn hnn (0) mlt ln hcu htk hfr hti hfa hfb an un lc td mtn), ((md 34), .inl (cI, 300, .inl mtp))] H := hP
          replace hD : va_D A [((md 31), .inl (cI, 36, .inl mliq)), ((md 33), .inl (cI, 36, .inl mnlq)), (moC md sd (0) mst hn cn pn mq gn hnn hnn (0) mlt ln hcu htk hfr hti hfa hfb an un lc td mtn), ((md 34), .inl (cI, 300, .inl mtp))] := hD
          show W _ _ _ _ _ _ _ _ _ _ _ _ _ _ _ (F0 m 334 ls [])
          refine lv_iload_n hx hb dX11_duties_334 rfl (lv_at hl 1 rfl) ?_
          refine lv_bipush (v := 36) hx hb dX11_duties_335 (by decide) ?_
          refine lv_icmp_ge (tgt := 358) hx hb dX11_duties_337 (by decide) (fun c30 => ?_) (fun c30 => ?_)
          · skip
            have f31 := i_le c30
            refine lv_aload_n hx hb dX11_duties_358 rfl (lv_at hl 0 rfl) ?_
            refine va_get (D := D) (ci := 11) (v := .int hnn) (C := RX11) (T := TX11) (N := 64) hx hb hts inX11_duties_X11 hown hK hP 2 rfl rfl 30 (by decide) (hts (Cond.fieldLink RX11 314 "PortRoomsModel" "lines" "I") (List.mem_cons_of_mem _ (List.mem_append_left _ (List.mem_append_left _ (List.mem_of_getElem? (i := 17) rfl))))) (fun _ h9 => h9) rfl dX11_duties_359 ?_
            have clc32 := i_cl (x := hnn) (by omega)
            have hdr9 := dcF_rng (T := mtp) (L := ln.toNatClampNeg) (n := hnn.toNatClampNeg)
            have hgd9 : hfa.toInt = 0 ∧ hfr.toInt = (tS mtp ln.toNatClampNeg (poL mtp ln.toNatClampNeg hnn.toNatClampNeg) : Int) ∧ hcu.toInt = (tE mtp ln.toNatClampNeg (poL mtp ln.toNatClampNeg hnn.toNatClampNeg) : Int) ∧ htk.toInt = mK mtp ln.toNatClampNeg (poL mtp ln.toNatClampNeg hnn.toNatClampNeg) := by rcases g16 with h9 | h9 <;> first | exact h9 | (exfalso; omega)
            have hpl9 := poL_le mtp ln.toNatClampNeg hnn.toNatClampNeg
            have hmk9 := mk_tk (T := mtp) (L := ln.toNatClampNeg) hpl9
            have hP9 := hP.sub (ws' := [(moC md sd (0) mst hn cn pn mq gn hnn hnn (0) mlt ln hcu htk hfr hti hfa hfb an un lc td mtn), ((md 31), .inl (cI, 36, .inl mliq)), ((md 33), .inl (cI, 36, .inl mnlq)), ((md 34), .inl (cI, 300, .inl mtp))]) [2, 0, 1, 3] rfl
            have hD9 := hD.sub (ws' := [(moC md sd (0) mst hn cn pn mq gn hnn hnn (0) mlt ln hcu htk hfr hti hfa hfb an un lc td mtn), ((md 31), .inl (cI, 36, .inl mliq)), ((md 33), .inl (cI, 36, .inl mnlq)), ((md 34), .inl (cI, 300, .inl mtp))]) [2, 0, 1, 3] (by decide +kernel) rfl
            exact W.iret (v := hnn) hx hb hr (fun t ht hW => ⟨⟨hnn, (hnn, mliq, hnn, mnlq, mlt, ln, hcu, htk, hfr, hti, hfa, hfb), rfl, (by show 0 ≤ hnn.toInt ∧ hnn.toInt ≤ 12 ∧ mdP mtp ln.toNatClampNeg hnn mlt mln mlt hnn mli mliq; exact ⟨by omega, by omega, ⟨hnn.toNatClampNeg, by omega, g14, Or.inl ⟨by omega, by omega, rfl, by omega, fun j hj => (by have e9 := g15 j hj; rw [g26 (3 * j) (by omega), g26 (3 * j + 1) (by omega), g26 (3 * j + 2) (by omega)]; exact e9)⟩⟩⟩), by rw [ht]; exact hP9, va_K.moved hW.alike hK, hD9⟩, hS.F ht⟩) hS.2.2 dX11_duties_362
          · skip
            have f33 := i_nle c30
            refine lv_aload_n hx hb dX11_duties_340 rfl (lv_at hl 0 rfl) ?_
            refine va_get (D := D) (ci := 11) (v := .ref (md 31)) (C := RX11) (T := TX11) (N := 64) hx hb hts inX11_duties_X11 hown hK hP 2 rfl rfl 31 (by decide) (hts (Cond.fieldLink RX11 81 "PortRoomsModel" "line" "[I") (List.mem_cons_of_mem _ (List.mem_append_left _ (List.mem_append_left _ (List.mem_of_getElem? (i := 18) rfl))))) (fun _ h9 => h9) rfl dX11_duties_341 ?_
            refine lv_iload_n hx hb dX11_duties_344 rfl (lv_at hl 1 rfl) ?_
            refine lv_aload_n hx hb dX11_duties_345 rfl (lv_at hl 0 rfl) ?_
            refine va_get (D := D) (ci := 11) (v := .ref (md 33)) (C := RX11) (T := TX11) (N := 64) hx hb hts inX11_duties_X11 hown hK hP 2 rfl rfl 33 (by decide) (hts (Cond.fieldLink RX11 84 "PortRoomsModel" "newLine" "[I") (List.mem_cons_of_mem _ (List.mem_append_left _ (List.mem_append_left _ (List.mem_of_getElem? (i := 13) rfl))))) (fun _ h9 => h9) rfl dX11_duties_346 ?_
            refine lv_iload_n hx hb dX11_duties_349 rfl (lv_at hl 1 rfl) ?_
            refine va_iald hx hb hK hP 1 0 rfl rfl (i_in (by omega) (by omega)) dX11_duties_350 ?_
            refine lv_topi (fun v34 ev34 => ?_)
            refine va_iast hx hb hK hP hD hS 0 0 rfl rfl (i_in (by omega) (by omega)) dX11_duties_351 (fun H locs => ?_)
            clear hP hD hS
            intro hP hD hS
            replace hP : va_P D vwCl [((md 31), .inl (cI, 36, .inl (upd mliq q334_1.toNatClampNeg v34))), ((md 33), .inl (cI, 36, .inl mnlq)), (moC md sd (0) mst hn cn pn mq gn hnn hnn (0) mlt ln hcu htk hfr hti hfa hfb an un lc td mtn), ((md 34), .inl (cI, 300, .inl mtp))] H := hP
            replace hD : va_D A [((md 31), .inl (cI, 36, .inl (upd mliq q334_1.toNatClampNeg v34))), ((md 33), .inl (cI, 36, .inl mnlq)), (moC md sd (0) mst hn cn pn mq gn hnn hnn (0) mlt ln hcu htk hfr hti hfa hfb an un lc td mtn), ((md 34), .inl (cI, 300, .inl mtp))] := hD
            obtain ⟨v35, ev35⟩ : ∃ y : Int32, y = q334_1 + 1 := ⟨_, rfl⟩
            try have tv35 : v35.toInt = q334_1.toInt + 1 := by rw [ev35]; exact (i_add (x := q334_1) (y := (1 : Int32)) (by rw [k1]; omega) (by rw [k1]; omega)).trans (by rw [k1])
            refine lv_iinc (v := v35) (lv' := [(1, .int v35), (0, .ref (md 64))]) hx hb dX11_duties_352 hl (k := 1) rfl (by rw [ev35]; rfl) (by decide) rfl (fun ls hl => ?_)
            refine lv_goto (tgt := 334) hx hb dX11_duties_355 (by decide) ?_
            exact ih27 (v35, upd mliq q334_1.toNatClampNeg v34) ls H locs ⟨(by omega), (by omega), (by exact fun j hj => if e9 : j = q334_1.toNatClampNeg then (by rw [e9, upd_s]; assumption) else (by rw [upd_n _ _ e9]; exact g26 j (by have := i_cl (x := q334_1) (by omega); omega))), lv_sub hl [1, 0] rfl, hP.sub [0, 1, 2, 3] rfl, hD.sub [0, 1, 2, 3] (by decide +kernel) rfl, hS⟩ (by show 36 - v35.toInt < _; omega)
      · skip
        have f36 := i_nle c22
        refine lv_aload_n hx hb dX11_duties_307 rfl (lv_at hl 0 rfl) ?_
        refine lv_aload_n hx hb dX11_duties_308 rfl (lv_at hl 0 rfl) ?_
        refine va_get (D := D) (ci := 11) (v := .int hfa) (C := RX11) (T := TX11) (N := 64) hx hb hts inX11_duties_X11 hown hK hP 2 rfl rfl 42 (by decide) (hts (Cond.fieldLink RX11 271 "PortRoomsModel" "fault" "I") (List.mem_cons_of_mem _ (List.mem_append_left _ (List.mem_append_left _ (List.mem_of_getElem? (i := 4) rfl))))) (fun _ h9 => h9) rfl dX11_duties_309 ?_
        refine va_put (D := D) (ci := 11) (v := .int hfa) (ty := .int) (C := RX11) (T := TX11) (N := 64) hx hb hts inX11_duties_X11 tyX11 tyX11_ok nmX11 hown hK hP hD hS 2 rfl rfl 36 (by decide) (hts (Cond.fieldLink RX11 310 "PortRoomsModel" "latest" "I") (List.mem_cons_of_mem _ (List.mem_append_left _ (List.mem_append_left _ (List.mem_of_getElem? (i := 14) rfl))))) (fun _ h9 => h9) rfl (tyX11_ok 36 (by decide)) rfl rfl (Nat.le_of_ble_eq_true rfl) dX11_duties_312 (fun H locs => ?_)
        clear hP hD hS
        intro hP hD hS
        replace hP : va_P D vwCl [((md 31), .inl (cI, 36, .inl mli)), ((md 33), .inl (cI, 36, .inl mnlq)), (moC md sd (0) mst hn cn pn mq gn mln hnn (0) hfa ln hcu htk hfr hti hfa hfb an un lc td mtn), ((md 34), .inl (cI, 300, .inl mtp))] H := hP
        replace hD : va_D A [((md 31), .inl (cI, 36, .inl mli)), ((md 33), .inl (cI, 36, .inl mnlq)), (moC md sd (0) mst hn cn pn mq gn mln hnn (0) hfa ln hcu htk hfr hti hfa hfb an un lc td mtn), ((md 34), .inl (cI, 300, .inl mtp))] := hD
        refine lv_ldcw hx hb hown (hts (Cond.constant RX11 313 (-1000100)) (List.mem_cons_of_mem _ (List.mem_append_left _ (List.mem_append_left _ (List.mem_of_getElem? (i := 15) rfl))))) dX11_duties_315 ?_
        refine lv_aload_n hx hb dX11_duties_318 rfl (lv_at hl 0 rfl) ?_
        refine va_get (D := D) (ci := 11) (v := .int hfb) (C := RX11) (T := TX11) (N := 64) hx hb hts inX11_duties_X11 hown hK hP 2 rfl rfl 43 (by decide) (hts (Cond.fieldLink RX11 274 "PortRoomsModel" "faultAt" "I") (List.mem_cons_of_mem _ (List.mem_append_left _ (List.mem_append_left _ (List.mem_of_getElem? (i := 16) rfl))))) (fun _ h9 => h9) rfl dX11_duties_319 ?_
        refine lv_isub hx hb dX11_duties_322 ?_
        refine lv_topi (fun v37 ev37 => ?_)
        try have tv37 : v37.toInt = (-1000100) - hfb.toInt := by rw [ev37]; exact (i_sub (x := ((-1000100) : Int32)) (y := hfb) (by rw [km1000100]; omega) (by rw [km1000100]; omega)).trans (by rw [km1000100])
        have clc38 := i_cl (x := hnn) (by omega)
        have hdr9 := dcF_rng (T := mtp) (L := ln.toNatClampNeg) (n := hnn.toNatClampNeg)
        have hbad9 : ¬ hfa.toInt = 0 ∧ hfa.toInt = dcF mtp ln.toNatClampNeg hnn.toNatClampNeg ∧ hfb.toInt = (dpF mtp ln.toNatClampNeg hnn.toNatClampNeg : Int) ∧ ¬ tK mtp ln.toNatClampNeg (poL mtp ln.toNatClampNeg hnn.toNatClampNeg) = 8 := by first | (rcases g16 with h9 | h9 <;> first | (exfalso; omega) | exact h9) | (rcases 0 with h9 | h9 <;> first | (exfalso; omega) | exact ⟨h9.1, h9.2.1, h9.2.2, by omega⟩)
        have hP9 := hP.sub (ws' := [(moC md sd (0) mst hn cn pn mq gn mln hnn (0) hfa ln hcu htk hfr hti hfa hfb an un lc td mtn), ((md 31), .inl (cI, 36, .inl mli)), ((md 33), .inl (cI, 36, .inl mnlq)), ((md 34), .inl (cI, 300, .inl mtp))]) [2, 0, 1, 3] rfl
        have hD9 := hD.sub (ws' := [(moC md sd (0) mst hn cn pn mq gn mln hnn (0) hfa ln hcu htk hfr hti hfa hfb an un lc td mtn), ((md 31), .inl (cI, 36, .inl mli)), ((md 33), .inl (cI, 36, .inl mnlq)), ((md 34), .inl (cI, 300, .inl mtp))]) [2, 0, 1, 3] (by decide +kernel) rfl
        exact W.iret (v := v37) hx hb hr (fun t ht hW => ⟨⟨v37, (mln, mli, hnn, mnlq, hfa, ln, hcu, htk, hfr, hti, hfa, hfb), rfl, (by show 0 ≤ mln.toInt ∧ mln.toInt ≤ 12 ∧ mdP mtp ln.toNatClampNeg v37 mlt mln hfa mln mli mli; exact ⟨by omega, by omega, ⟨hnn.toNatClampNeg, by omega, g14, Or.inr ⟨hbad9.2.2.2, by omega, hbad9.2.1, by omega, rfl, rfl⟩⟩⟩), by rw [ht]; exact hP9, va_K.moved hW.alike hK, hD9⟩, hS.F ht⟩) hS.2.2 dX11_duties_323
    · skip
      have f39 := i_eq c20
      have hT0 : hfa.toInt = 0 ∧ hfr.toInt = (tS mtp ln.toNatClampNeg (poL mtp ln.toNatClampNeg hnn.toNatClampNeg) : Int) ∧ hcu.toInt = (tE mtp ln.toNatClampNeg (poL mtp ln.toNatClampNeg hnn.toNatClampNeg) : Int) ∧ htk.toInt = mK mtp ln.toNatClampNeg (poL mtp ln.toNatClampNeg hnn.toNatClampNeg) := by rcases g16 with h9 | h9 <;> first | exact h9 | (exfalso; omega)
      have hpl9 := poL_le mtp ln.toNatClampNeg hnn.toNatClampNeg
      have hle0 : (poL mtp ln.toNatClampNeg hnn.toNatClampNeg) ≤ ln.toNatClampNeg := by omega
      have hmk0 := mk_tk (T := mtp) (L := ln.toNatClampNeg) hle0
      have hml0 := mk_lt (T := mtp) (L := ln.toNatClampNeg) hle0
      have hkr0 := tK_rng (T := mtp) (L := ln.toNatClampNeg) hle0
      have hel0 := tE_le (T := mtp) (L := ln.toNatClampNeg) hle0
      refine lv_aload_n hx hb dX11_duties_44 rfl (lv_at hl 0 rfl) ?_
      refine va_get (D := D) (ci := 11) (v := .int htk) (C := RX11) (T := TX11) (N := 64) hx hb hts inX11_duties_X11 hown hK hP 2 rfl rfl 39 (by decide) (hts (Cond.fieldLink RX11 259 "PortRoomsModel" "token" "I") (List.mem_cons_of_mem _ (List.mem_append_left _ (List.mem_append_left _ (List.mem_of_getElem? (i := 6) rfl))))) (fun _ h9 => h9) rfl dX11_duties_45 ?_
      refine lv_iconst (v := 1) hx hb dX11_duties_48 (by decide) ?_
      refine lv_icmp_eq (tgt := 300) hx hb dX11_duties_49 (by decide) (fun c40 => ?_) (fun c40 => ?_)
      · skip
        have f41 := i_eq c40
        refine lv_aload_n hx hb dX11_duties_300 rfl (lv_at hl 0 rfl) ?_
        refine va_get (D := D) (ci := 11) (v := .int hfa) (C := RX11) (T := TX11) (N := 64) hx hb hts inX11_duties_X11 hown hK hP 2 rfl rfl 42 (by decide) (hts (Cond.fieldLink RX11 271 "PortRoomsModel" "fault" "I") (List.mem_cons_of_mem _ (List.mem_append_left _ (List.mem_append_left _ (List.mem_of_getElem? (i := 4) rfl))))) (fun _ h9 => h9) rfl dX11_duties_301 ?_
        refine lv_if_le (tgt := 324) hx hb dX11_duties_304 (by decide) (fun c42 => ?_) (fun c42 => ?_)
        · skip
          have f43 := i_le c42
          refine lv_aload_n hx hb dX11_duties_324 rfl (lv_at hl 0 rfl) ?_
          refine lv_aload_n hx hb dX11_duties_325 rfl (lv_at hl 0 rfl) ?_
          refine va_get (D := D) (ci := 11) (v := .int hnn) (C := RX11) (T := TX11) (N := 64) hx hb hts inX11_duties_X11 hown hK hP 2 rfl rfl 32 (by decide) (hts (Cond.fieldLink RX11 287 "PortRoomsModel" "newLines" "I") (List.mem_cons_of_mem _ (List.mem_append_left _ (List.mem_append_left _ (List.mem_of_getElem? (i := 5) rfl))))) (fun _ h9 => h9) rfl dX11_duties_326 ?_
          refine va_put (D := D) (ci := 11) (v := .int hnn) (ty := .int) (C := RX11) (T := TX11) (N := 64) hx hb hts inX11_duties_X11 tyX11 tyX11_ok nmX11 hown hK hP hD hS 2 rfl rfl 30 (by decide) (hts (Cond.fieldLink RX11 314 "PortRoomsModel" "lines" "I") (List.mem_cons_of_mem _ (List.mem_append_left _ (List.mem_append_left _ (List.mem_of_getElem? (i := 17) rfl))))) (fun _ h9 => h9) rfl (tyX11_ok 30 (by decide)) rfl rfl (Nat.le_of_ble_eq_true rfl) dX11_duties_329 (fun H locs => ?_)
          clear hP hD hS
          intro hP hD hS
          replace hP : va_P D vwCl [((md 31), .inl (cI, 36, .inl mli)), ((md 33), .inl (cI, 36, .inl mnlq)), (moC md sd (0) mst hn cn pn mq gn hnn hnn (0) mlt ln hcu htk hfr hti hfa hfb an un lc td mtn), ((md 34), .inl (cI, 300, .inl mtp))] H := hP
          replace hD : va_D A [((md 31), .inl (cI, 36, .inl mli)), ((md 33), .inl (cI, 36, .inl mnlq)), (moC md sd (0) mst hn cn pn mq gn hnn hnn (0) mlt ln hcu htk hfr hti hfa hfb an un lc td mtn), ((md 34), .inl (cI, 300, .inl mtp))] := hD
          refine lv_iconst (v := 0) hx hb dX11_duties_332 (by decide) ?_
          refine lv_istore_n (lv' := [(1, .int 0), (0, .ref (md 64))]) hx hb dX11_duties_333 rfl hl (by decide) rfl (fun ls hl => ?_)
          refine st_loop 334 (fun _ => []) (fun (z : Int32 × (Nat → Int32)) (ls : Array Slot) (H : Heap) (locs : List Loc) => match z with | (q334_1, mliq) => (0 ≤ q334_1.toInt) ∧ (q334_1.toInt ≤ 36) ∧ (∀ j : Nat, (j : Int) < q334_1.toInt → mliq j = mnlq j) ∧ lv_has ls 6 [(0, .ref (md 64)), (1, .int q334_1)] ∧ va_P D vwCl [((md 31), .inl (cI, 36, .inl mliq)), ((md 33), .inl (cI, 36, .inl mnlq)), (moC md sd (0) mst hn cn pn mq gn hnn hnn (0) mlt ln hcu htk hfr hti hfa hfb an un lc td mtn), ((md 34), .inl (cI, 300, .inl mtp))] H ∧ va_D A [((md 31), .inl (cI, 36, .inl mliq)), ((md 33), .inl (cI, 36, .inl mnlq)), (moC md sd (0) mst hn cn pn mq gn hnn hnn (0) mlt ln hcu htk hfr hti hfa hfb an un lc td mtn), ((md 34), .inl (cI, 300, .inl mtp))] ∧ va_S A s.heap H locs) (fun (z : Int32 × (Nat → Int32)) => match z with | (q334_1, mliq) => 36 - q334_1.toInt) ?_ ?_ ((0 : Int32), mli) ⟨(by omega), (by omega), (by intro j hj; exfalso; omega), lv_sub hl [1, 0] rfl, hP, hD, hS⟩
          · rintro ⟨q334_1, mliq⟩ ls H locs ⟨g44, g45, g46, hl, hP, hD, hS⟩
            show (0 : Int) ≤ 36 - q334_1.toInt
            omega
          · rintro n49 ih47 ⟨q334_1, mliq⟩ ls H locs ⟨g44, g45, g46, hl, hP, hD, hS⟩ hm48
            have hm48 : 36 - q334_1.toInt < (n49 : Int) + 1 := hm48
            replace hl : lv_has ls 6 [(0, .ref (md 64)), (1, .int q334_1)] := hl
            replace hP : va_P D vwCl [((md 31), .inl (cI, 36, .inl mliq)), ((md 33), .inl (cI, 36, .inl mnlq)), (moC md sd (0) mst hn cn pn mq gn hnn hnn (0) mlt ln hcu htk hfr hti hfa hfb an un lc td mtn), ((md 34), .inl (cI, 300, .inl mtp))] H := hP
            replace hD : va_D A [((md 31), .inl (cI, 36, .inl mliq)), ((md 33), .inl (cI, 36, .inl mnlq)), (moC md sd (0) mst hn cn pn mq gn hnn hnn (0) mlt ln hcu htk hfr hti hfa hfb an un lc td mtn), ((md 34), .inl (cI, 300, .inl mtp))] := hD
            show W _ _ _ _ _ _ _ _ _ _ _ _ _ _ _ (F0 m 334 ls [])
            refine lv_iload_n hx hb dX11_duties_334 rfl (lv_at hl 1 rfl) ?_
            refine lv_bipush (v := 36) hx hb dX11_duties_335 (by decide) ?_
            refine lv_icmp_ge (tgt := 358) hx hb dX11_duties_337 (by decide) (fun c50 => ?_) (fun c50 => ?_)
            · skip
              have f51 := i_le c50
              refine lv_aload_n hx hb dX11_duties_358 rfl (lv_at hl 0 rfl) ?_
              refine va_get (D := D) (ci := 11) (v := .int hnn) (C := RX11) (T := TX11) (N := 64) hx hb hts inX11_duties_X11 hown hK hP 2 rfl rfl 30 (by decide) (hts (Cond.fieldLink RX11 314 "PortRoomsModel" "lines" "I") (List.mem_cons_of_mem _ (List.mem_append_left _ (List.mem_append_left _ (List.mem_of_getElem? (i := 17) rfl))))) (fun _ h9 => h9) rfl dX11_duties_359 ?_
              have clc52 := i_cl (x := hnn) (by omega)
              have hdr9 := dcF_rng (T := mtp) (L := ln.toNatClampNeg) (n := hnn.toNatClampNeg)
              have hgd9 : hfa.toInt = 0 ∧ hfr.toInt = (tS mtp ln.toNatClampNeg (poL mtp ln.toNatClampNeg hnn.toNatClampNeg) : Int) ∧ hcu.toInt = (tE mtp ln.toNatClampNeg (poL mtp ln.toNatClampNeg hnn.toNatClampNeg) : Int) ∧ htk.toInt = mK mtp ln.toNatClampNeg (poL mtp ln.toNatClampNeg hnn.toNatClampNeg) := by rcases g16 with h9 | h9 <;> first | exact h9 | (exfalso; omega)
              have hpl9 := poL_le mtp ln.toNatClampNeg hnn.toNatClampNeg
              have hmk9 := mk_tk (T := mtp) (L := ln.toNatClampNeg) hpl9
              have hP9 := hP.sub (ws' := [(moC md sd (0) mst hn cn pn mq gn hnn hnn (0) mlt ln hcu htk hfr hti hfa hfb an un lc td mtn), ((md 31), .inl (cI, 36, .inl mliq)), ((md 33), .inl (cI, 36, .inl mnlq)), ((md 34), .inl (cI, 300, .inl mtp))]) [2, 0, 1, 3] rfl
              have hD9 := hD.sub (ws' := [(moC md sd (0) mst hn cn pn mq gn hnn hnn (0) mlt ln hcu htk hfr hti hfa hfb an un lc td mtn), ((md 31), .inl (cI, 36, .inl mliq)), ((md 33), .inl (cI, 36, .inl mnlq)), ((md 34), .inl (cI, 300, .inl mtp))]) [2, 0, 1, 3] (by decide +kernel) rfl
              exact W.iret (v := hnn) hx hb hr (fun t ht hW => ⟨⟨hnn, (hnn, mliq, hnn, mnlq, mlt, ln, hcu, htk, hfr, hti, hfa, hfb), rfl, (by show 0 ≤ hnn.toInt ∧ hnn.toInt ≤ 12 ∧ mdP mtp ln.toNatClampNeg hnn mlt mln mlt hnn mli mliq; exact ⟨by omega, by omega, ⟨hnn.toNatClampNeg, by omega, g14, Or.inl ⟨by omega, by omega, rfl, by omega, fun j hj => (by have e9 := g15 j hj; rw [g46 (3 * j) (by omega), g46 (3 * j + 1) (by omega), g46 (3 * j + 2) (by omega)]; exact e9)⟩⟩⟩), by rw [ht]; exact hP9, va_K.moved hW.alike hK, hD9⟩, hS.F ht⟩) hS.2.2 dX11_duties_362
            · skip
              have f53 := i_nle c50
              refine lv_aload_n hx hb dX11_duties_340 rfl (lv_at hl 0 rfl) ?_
              refine va_get (D := D) (ci := 11) (v := .ref (md 31)) (C := RX11) (T := TX11) (N := 64) hx hb hts inX11_duties_X11 hown hK hP 2 rfl rfl 31 (by decide) (hts (Cond.fieldLink RX11 81 "PortRoomsModel" "line" "[I") (List.mem_cons_of_mem _ (List.mem_append_left _ (List.mem_append_left _ (List.mem_of_getElem? (i := 18) rfl))))) (fun _ h9 => h9) rfl dX11_duties_341 ?_
              refine lv_iload_n hx hb dX11_duties_344 rfl (lv_at hl 1 rfl) ?_
              refine lv_aload_n hx hb dX11_duties_345 rfl (lv_at hl 0 rfl) ?_
              refine va_get (D := D) (ci := 11) (v := .ref (md 33)) (C := RX11) (T := TX11) (N := 64) hx hb hts inX11_duties_X11 hown hK hP 2 rfl rfl 33 (by decide) (hts (Cond.fieldLink RX11 84 "PortRoomsModel" "newLine" "[I") (List.mem_cons_of_mem _ (List.mem_append_left _ (List.mem_append_left _ (List.mem_of_getElem? (i := 13) rfl))))) (fun _ h9 => h9) rfl dX11_duties_346 ?_
              refine lv_iload_n hx hb dX11_duties_349 rfl (lv_at hl 1 rfl) ?_
              refine va_iald hx hb hK hP 1 0 rfl rfl (i_in (by omega) (by omega)) dX11_duties_350 ?_
              refine lv_topi (fun v54 ev54 => ?_)
              refine va_iast hx hb hK hP hD hS 0 0 rfl rfl (i_in (by omega) (by omega)) dX11_duties_351 (fun H locs => ?_)
              clear hP hD hS
              intro hP hD hS
              replace hP : va_P D vwCl [((md 31), .inl (cI, 36, .inl (upd mliq q334_1.toNatClampNeg v54))), ((md 33), .inl (cI, 36, .inl mnlq)), (moC md sd (0) mst hn cn pn mq gn hnn hnn (0) mlt ln hcu htk hfr hti hfa hfb an un lc td mtn), ((md 34), .inl (cI, 300, .inl mtp))] H := hP
              replace hD : va_D A [((md 31), .inl (cI, 36, .inl (upd mliq q334_1.toNatClampNeg v54))), ((md 33), .inl (cI, 36, .inl mnlq)), (moC md sd (0) mst hn cn pn mq gn hnn hnn (0) mlt ln hcu htk hfr hti hfa hfb an un lc td mtn), ((md 34), .inl (cI, 300, .inl mtp))] := hD
              obtain ⟨v55, ev55⟩ : ∃ y : Int32, y = q334_1 + 1 := ⟨_, rfl⟩
              try have tv55 : v55.toInt = q334_1.toInt + 1 := by rw [ev55]; exact (i_add (x := q334_1) (y := (1 : Int32)) (by rw [k1]; omega) (by rw [k1]; omega)).trans (by rw [k1])
              refine lv_iinc (v := v55) (lv' := [(1, .int v55), (0, .ref (md 64))]) hx hb dX11_duties_352 hl (k := 1) rfl (by rw [ev55]; rfl) (by decide) rfl (fun ls hl => ?_)
              refine lv_goto (tgt := 334) hx hb dX11_duties_355 (by decide) ?_
              exact ih47 (v55, upd mliq q334_1.toNatClampNeg v54) ls H locs ⟨(by omega), (by omega), (by exact fun j hj => if e9 : j = q334_1.toNatClampNeg then (by rw [e9, upd_s]; assumption) else (by rw [upd_n _ _ e9]; exact g46 j (by have := i_cl (x := q334_1) (by omega); omega))), lv_sub hl [1, 0] rfl, hP.sub [0, 1, 2, 3] rfl, hD.sub [0, 1, 2, 3] (by decide +kernel) rfl, hS⟩ (by show 36 - v55.toInt < _; omega)
        · skip
          have f56 := i_nle c42
          refine lv_aload_n hx hb dX11_duties_307 rfl (lv_at hl 0 rfl) ?_
          refine lv_aload_n hx hb dX11_duties_308 rfl (lv_at hl 0 rfl) ?_
          refine va_get (D := D) (ci := 11) (v := .int hfa) (C := RX11) (T := TX11) (N := 64) hx hb hts inX11_duties_X11 hown hK hP 2 rfl rfl 42 (by decide) (hts (Cond.fieldLink RX11 271 "PortRoomsModel" "fault" "I") (List.mem_cons_of_mem _ (List.mem_append_left _ (List.mem_append_left _ (List.mem_of_getElem? (i := 4) rfl))))) (fun _ h9 => h9) rfl dX11_duties_309 ?_
          refine va_put (D := D) (ci := 11) (v := .int hfa) (ty := .int) (C := RX11) (T := TX11) (N := 64) hx hb hts inX11_duties_X11 tyX11 tyX11_ok nmX11 hown hK hP hD hS 2 rfl rfl 36 (by decide) (hts (Cond.fieldLink RX11 310 "PortRoomsModel" "latest" "I") (List.mem_cons_of_mem _ (List.mem_append_left _ (List.mem_append_left _ (List.mem_of_getElem? (i := 14) rfl))))) (fun _ h9 => h9) rfl (tyX11_ok 36 (by decide)) rfl rfl (Nat.le_of_ble_eq_true rfl) dX11_duties_312 (fun H locs => ?_)
          clear hP hD hS
          intro hP hD hS
          replace hP : va_P D vwCl [((md 31), .inl (cI, 36, .inl mli)), ((md 33), .inl (cI, 36, .inl mnlq)), (moC md sd (0) mst hn cn pn mq gn mln hnn (0) hfa ln hcu htk hfr hti hfa hfb an un lc td mtn), ((md 34), .inl (cI, 300, .inl mtp))] H := hP
          replace hD : va_D A [((md 31), .inl (cI, 36, .inl mli)), ((md 33), .inl (cI, 36, .inl mnlq)), (moC md sd (0) mst hn cn pn mq gn mln hnn (0) hfa ln hcu htk hfr hti hfa hfb an un lc td mtn), ((md 34), .inl (cI, 300, .inl mtp))] := hD
          refine lv_ldcw hx hb hown (hts (Cond.constant RX11 313 (-1000100)) (List.mem_cons_of_mem _ (List.mem_append_left _ (List.mem_append_left _ (List.mem_of_getElem? (i := 15) rfl))))) dX11_duties_315 ?_
          refine lv_aload_n hx hb dX11_duties_318 rfl (lv_at hl 0 rfl) ?_
          refine va_get (D := D) (ci := 11) (v := .int hfb) (C := RX11) (T := TX11) (N := 64) hx hb hts inX11_duties_X11 hown hK hP 2 rfl rfl 43 (by decide) (hts (Cond.fieldLink RX11 274 "PortRoomsModel" "faultAt" "I") (List.mem_cons_of_mem _ (List.mem_append_left _ (List.mem_append_left _ (List.mem_of_getElem? (i := 16) rfl))))) (fun _ h9 => h9) rfl dX11_duties_319 ?_
          refine lv_isub hx hb dX11_duties_322 ?_
          refine lv_topi (fun v57 ev57 => ?_)
          try have tv57 : v57.toInt = (-1000100) - hfb.toInt := by rw [ev57]; exact (i_sub (x := ((-1000100) : Int32)) (y := hfb) (by rw [km1000100]; omega) (by rw [km1000100]; omega)).trans (by rw [km1000100])
          have clc58 := i_cl (x := hnn) (by omega)
          have hdr9 := dcF_rng (T := mtp) (L := ln.toNatClampNeg) (n := hnn.toNatClampNeg)
          have hbad9 : ¬ hfa.toInt = 0 ∧ hfa.toInt = dcF mtp ln.toNatClampNeg hnn.toNatClampNeg ∧ hfb.toInt = (dpF mtp ln.toNatClampNeg hnn.toNatClampNeg : Int) ∧ ¬ tK mtp ln.toNatClampNeg (poL mtp ln.toNatClampNeg hnn.toNatClampNeg) = 8 := by first | (rcases g16 with h9 | h9 <;> first | (exfalso; omega) | exact h9) | (rcases 0 with h9 | h9 <;> first | (exfalso; omega) | exact ⟨h9.1, h9.2.1, h9.2.2, by omega⟩)
          have hP9 := hP.sub (ws' := [(moC md sd (0) mst hn cn pn mq gn mln hnn (0) hfa ln hcu htk hfr hti hfa hfb an un lc td mtn), ((md 31), .inl (cI, 36, .inl mli)), ((md 33), .inl (cI, 36, .inl mnlq)), ((md 34), .inl (cI, 300, .inl mtp))]) [2, 0, 1, 3] rfl
          have hD9 := hD.sub (ws' := [(moC md sd (0) mst hn cn pn mq gn mln hnn (0) hfa ln hcu htk hfr hti hfa hfb an un lc td mtn), ((md 31), .inl (cI, 36, .inl mli)), ((md 33), .inl (cI, 36, .inl mnlq)), ((md 34), .inl (cI, 300, .inl mtp))]) [2, 0, 1, 3] (by decide +kernel) rfl
          exact W.iret (v := v57) hx hb hr (fun t ht hW => ⟨⟨v57, (mln, mli, hnn, mnlq, hfa, ln, hcu, htk, hfr, hti, hfa, hfb), rfl, (by show 0 ≤ mln.toInt ∧ mln.toInt ≤ 12 ∧ mdP mtp ln.toNatClampNeg v57 mlt mln hfa mln mli mli; exact ⟨by omega, by omega, ⟨hnn.toNatClampNeg, by omega, g14, Or.inr ⟨hbad9.2.2.2, by omega, hbad9.2.1, by omega, rfl, rfl⟩⟩⟩), by rw [ht]; exact hP9, va_K.moved hW.alike hK, hD9⟩, hS.F ht⟩) hS.2.2 dX11_duties_323
      · skip
        have f59 := i_ne c40
        refine lv_aload_n hx hb dX11_duties_52 rfl (lv_at hl 0 rfl) ?_
        refine st_l (wr := [((md 31), .inl (cI, 36, .inl mli)), ((md 33), .inl (cI, 36, .inl mnlq))]) (va_runV (C := RX11) (As := []) (rest := []) ⟨hx, hb, hml, hown, hts⟩ (ct_X11_word l D cI cY cJ cQ _ md sd 0 mst hn cn pn mq gn mln hnn 0 mlt ln hcu htk hfr hti hfa hfb an un lc td mtn mtp (by omega) (by omega) (by omega) (by omega) (by assumption) (by omega)) (cwV 0 hts gX11_duties_X11_word rfl rfl rfl ⟨rfl, cdX11_word⟩ ⟨Nat.le_of_ble_eq_true rfl, Nat.le_of_ble_eq_true rfl⟩) (cPreV (hP.sub [2, 3] rfl) hK (hD.sub [2, 3] (by decide +kernel) rfl) hN (ci := 11) (q0 := 0) rfl rfl) rfl rfl hl.1 rfl (lv_room (Nat.le_of_ble_eq_true rfl)) dX11_duties_53 ⟨Nat.le_of_ble_eq_true rfl, Nat.le_of_ble_eq_true rfl⟩) hP hD hS hA [2, 3] [0, 1] rfl rfl (by decide +kernel) (by decide +kernel) (fun r62 u60 H locs hw61 => ?_)
        clear hP hD hS
        intro hP hD hS
        replace hw61 : r62.toInt = (if htk.toInt = 2 then wvV mtp hfr.toNatClampNeg (hti.toNatClampNeg - hfr.toNatClampNeg) else 0) := hw61
        replace hP : va_P D vwCl [((md 31), .inl (cI, 36, .inl mli)), ((md 33), .inl (cI, 36, .inl mnlq)), (moC md sd (0) mst hn cn pn mq gn mln hnn (0) mlt ln hcu htk hfr hti hfa hfb an un lc td mtn), ((md 34), .inl (cI, 300, .inl mtp))] H := hP
        replace hD : va_D A [((md 31), .inl (cI, 36, .inl mli)), ((md 33), .inl (cI, 36, .inl mnlq)), (moC md sd (0) mst hn cn pn mq gn mln hnn (0) mlt ln hcu htk hfr hti hfa hfb an un lc td mtn), ((md 34), .inl (cI, 300, .inl mtp))] := hD
        have clc63 := i_cl (x := hfr) (by omega)
        have clc64 := i_cl (x := hti) (by omega)
        have hwc0 := wd_tk (z := r62.toInt) hle0 (by rw [hw61, show htk.toInt = mK mtp ln.toNatClampNeg (poL mtp ln.toNatClampNeg hnn.toNatClampNeg) by omega, show hfr.toNatClampNeg = tS mtp ln.toNatClampNeg (poL mtp ln.toNatClampNeg hnn.toNatClampNeg) by omega, show hti.toNatClampNeg = tE mtp ln.toNatClampNeg (poL mtp ln.toNatClampNeg hnn.toNatClampNeg) by omega])
        refine lv_lstore_n (lv' := [(1, .long r62), (0, .ref (md 64))]) hx hb dX11_duties_56 rfl hl (by decide) rfl (fun ls hl => ?_)
        refine st_join 107 (fun (sk65 : Int32) => [.int sk65]) (fun (sk65 : Int32) (ls : Array Slot) (H : Heap) (locs : List Loc) => ((sk65.toInt = tK mtp ln.toNatClampNeg (poL mtp ln.toNatClampNeg hnn.toNatClampNeg) ∧ tK mtp ln.toNatClampNeg (poL mtp ln.toNatClampNeg hnn.toNatClampNeg) < 4) ∨ (sk65.toInt = -1000000 ∧ 4 ≤ tK mtp ln.toNatClampNeg (poL mtp ln.toNatClampNeg hnn.toNatClampNeg))) ∧ lv_has ls 6 [(0, .ref (md 64))] ∧ va_P D vwCl [((md 31), .inl (cI, 36, .inl mli)), ((md 33), .inl (cI, 36, .inl mnlq)), (moC md sd (0) mst hn cn pn mq gn mln hnn (0) mlt ln hcu htk hfr hti hfa hfb an un lc td mtn), ((md 34), .inl (cI, 300, .inl mtp))] H ∧ va_D A [((md 31), .inl (cI, 36, .inl mli)), ((md 33), .inl (cI, 36, .inl mnlq)), (moC md sd (0) mst hn cn pn mq gn mln hnn (0) mlt ln hcu htk hfr hti hfa hfb an un lc td mtn), ((md 34), .inl (cI, 300, .inl mtp))] ∧ va_S A s.heap H locs) ?_ ?_
        · rintro sk65 ls H locs ⟨g66, hl, hP, hD, hS⟩
          replace hl : lv_has ls 6 [(0, .ref (md 64))] := hl
          replace hP : va_P D vwCl [((md 31), .inl (cI, 36, .inl mli)), ((md 33), .inl (cI, 36, .inl mnlq)), (moC md sd (0) mst hn cn pn mq gn mln hnn (0) mlt ln hcu htk hfr hti hfa hfb an un lc td mtn), ((md 34), .inl (cI, 300, .inl mtp))] H := hP
          replace hD : va_D A [((md 31), .inl (cI, 36, .inl mli)), ((md 33), .inl (cI, 36, .inl mnlq)), (moC md sd (0) mst hn cn pn mq gn mln hnn (0) mlt ln hcu htk hfr hti hfa hfb an un lc td mtn), ((md 34), .inl (cI, 300, .inl mtp))] := hD
          show W _ _ _ _ _ _ _ _ _ _ _ _ _ _ _ (F0 m 107 ls [.int sk65])
          refine lv_istore_n (lv' := [(3, .int sk65), (0, .ref (md 64))]) hx hb dX11_duties_107 rfl hl (by decide) rfl (fun ls hl => ?_)
          refine st_join 128 (fun (z : Int32 × Int32) => match z with | (jfa, jfb) => []) (fun (z : Int32 × Int32) (ls : Array Slot) (H : Heap) (locs : List Loc) => match z with | (jfa, jfb) => ((jfa.toInt = 0 ∧ (sk65.toInt = -1000000 ∨ ¬ hnn.toInt = 12)) ∨ (jfa.toInt = 3 ∧ ¬ sk65.toInt = -1000000 ∧ hnn.toInt = 12 ∧ jfb.toInt = hfr.toInt)) ∧ lv_has ls 6 [(0, .ref (md 64)), (3, .int sk65)] ∧ va_P D vwCl [((md 31), .inl (cI, 36, .inl mli)), ((md 33), .inl (cI, 36, .inl mnlq)), (moC md sd (0) mst hn cn pn mq gn mln hnn (0) mlt ln hcu htk hfr hti jfa jfb an un lc td mtn), ((md 34), .inl (cI, 300, .inl mtp))] H ∧ va_D A [((md 31), .inl (cI, 36, .inl mli)), ((md 33), .inl (cI, 36, .inl mnlq)), (moC md sd (0) mst hn cn pn mq gn mln hnn (0) mlt ln hcu htk hfr hti jfa jfb an un lc td mtn), ((md 34), .inl (cI, 300, .inl mtp))] ∧ va_S A s.heap H locs) ?_ ?_
          · rintro ⟨jfa, jfb⟩ ls H locs ⟨g68, hl, hP, hD, hS⟩
            replace hl : lv_has ls 6 [(0, .ref (md 64)), (3, .int sk65)] := hl
            replace hP : va_P D vwCl [((md 31), .inl (cI, 36, .inl mli)), ((md 33), .inl (cI, 36, .inl mnlq)), (moC md sd (0) mst hn cn pn mq gn mln hnn (0) mlt ln hcu htk hfr hti jfa jfb an un lc td mtn), ((md 34), .inl (cI, 300, .inl mtp))] H := hP
            replace hD : va_D A [((md 31), .inl (cI, 36, .inl mli)), ((md 33), .inl (cI, 36, .inl mnlq)), (moC md sd (0) mst hn cn pn mq gn mln hnn (0) mlt ln hcu htk hfr hti jfa jfb an un lc td mtn), ((md 34), .inl (cI, 300, .inl mtp))] := hD
            show W _ _ _ _ _ _ _ _ _ _ _ _ _ _ _ (F0 m 128 ls [])
            refine st_join 143 (fun (z : Int32 × Int32 × Int32 × Int32 × Int32 × Int32) => match z with | (kcu, ktk, kfr, kti, kfa, kfb) => []) (fun (z : Int32 × Int32 × Int32 × Int32 × Int32 × Int32) (ls : Array Slot) (H : Heap) (locs : List Loc) => match z with | (kcu, ktk, kfr, kti, kfa, kfb) => (0 ≤ kfr.toInt) ∧ (kfr.toInt ≤ kcu.toInt) ∧ (kcu.toInt ≤ ln.toInt) ∧ (kti.toInt = kcu.toInt) ∧ ((kfa.toInt = 0 ∧ kfr.toInt = (tS mtp ln.toNatClampNeg (tE mtp ln.toNatClampNeg (poL mtp ln.toNatClampNeg hnn.toNatClampNeg)) : Int) ∧ kcu.toInt = (tE mtp ln.toNatClampNeg (tE mtp ln.toNatClampNeg (poL mtp ln.toNatClampNeg hnn.toNatClampNeg)) : Int) ∧ ktk.toInt = mK mtp ln.toNatClampNeg (tE mtp ln.toNatClampNeg (poL mtp ln.toNatClampNeg hnn.toNatClampNeg)) ∧ hnn.toInt < 12 ∧ tK mtp ln.toNatClampNeg (poL mtp ln.toNatClampNeg hnn.toNatClampNeg) < 4) ∨ (¬ kfa.toInt = 0 ∧ kfa.toInt = dcF mtp ln.toNatClampNeg hnn.toNatClampNeg ∧ kfb.toInt = (dpF mtp ln.toNatClampNeg hnn.toNatClampNeg : Int))) ∧ lv_has ls 6 [(0, .ref (md 64)), (3, .int sk65)] ∧ va_P D vwCl [((md 31), .inl (cI, 36, .inl mli)), ((md 33), .inl (cI, 36, .inl mnlq)), (moC md sd (0) mst hn cn pn mq gn mln hnn (0) mlt ln kcu ktk kfr kti kfa kfb an un lc td mtn), ((md 34), .inl (cI, 300, .inl mtp))] H ∧ va_D A [((md 31), .inl (cI, 36, .inl mli)), ((md 33), .inl (cI, 36, .inl mnlq)), (moC md sd (0) mst hn cn pn mq gn mln hnn (0) mlt ln kcu ktk kfr kti kfa kfb an un lc td mtn), ((md 34), .inl (cI, 300, .inl mtp))] ∧ va_S A s.heap H locs) ?_ ?_
            · rintro ⟨kcu, ktk, kfr, kti, kfa, kfb⟩ ls H locs ⟨g70, g71, g72, g73, g74, hl, hP, hD, hS⟩
              replace hl : lv_has ls 6 [(0, .ref (md 64)), (3, .int sk65)] := hl
              replace hP : va_P D vwCl [((md 31), .inl (cI, 36, .inl mli)), ((md 33), .inl (cI, 36, .inl mnlq)), (moC md sd (0) mst hn cn pn mq gn mln hnn (0) mlt ln kcu ktk kfr kti kfa kfb an un lc td mtn), ((md 34), .inl (cI, 300, .inl mtp))] H := hP
              replace hD : va_D A [((md 31), .inl (cI, 36, .inl mli)), ((md 33), .inl (cI, 36, .inl mnlq)), (moC md sd (0) mst hn cn pn mq gn mln hnn (0) mlt ln kcu ktk kfr kti kfa kfb an un lc td mtn), ((md 34), .inl (cI, 300, .inl mtp))] := hD
              show W _ _ _ _ _ _ _ _ _ _ _ _ _ _ _ (F0 m 143 ls [])
              refine lv_iconst (v := (-1)) hx hb dX11_duties_143 (by decide) ?_
              refine lv_istore (lv' := [(4, .int (-1)), (0, .ref (md 64)), (3, .int sk65)]) hx hb dX11_duties_144 hl (by decide) rfl (fun ls hl => ?_)
              refine st_join 175 (fun (z : Int32 × Int32 × Int32 × Int32 × Int32 × Int32 × Int32) => match z with | (jdays, lcu, ltk, lfr, lti, lfa, lfb) => []) (fun (z : Int32 × Int32 × Int32 × Int32 × Int32 × Int32 × Int32) (ls : Array Slot) (H : Heap) (locs : List Loc) => match z with | (jdays, lcu, ltk, lfr, lti, lfa, lfb) => (0 ≤ lfr.toInt) ∧ (lfr.toInt ≤ lcu.toInt) ∧ (lcu.toInt ≤ ln.toInt) ∧ (lti.toInt = lcu.toInt) ∧ ((lfa.toInt = 0 ∧ lfr.toInt = (tS mtp ln.toNatClampNeg (acP mtp ln.toNatClampNeg (tE mtp ln.toNatClampNeg (poL mtp ln.toNatClampNeg hnn.toNatClampNeg))) : Int) ∧ lcu.toInt = (tE mtp ln.toNatClampNeg (acP mtp ln.toNatClampNeg (tE mtp ln.toNatClampNeg (poL mtp ln.toNatClampNeg hnn.toNatClampNeg))) : Int) ∧ ltk.toInt = mK mtp ln.toNatClampNeg (acP mtp ln.toNatClampNeg (tE mtp ln.toNatClampNeg (poL mtp ln.toNatClampNeg hnn.toNatClampNeg))) ∧ hnn.toInt < 12 ∧ tK mtp ln.toNatClampNeg (poL mtp ln.toNatClampNeg hnn.toNatClampNeg) < 4 ∧ acR mtp ln.toNatClampNeg (tE mtp ln.toNatClampNeg (poL mtp ln.toNatClampNeg hnn.toNatClampNeg)) = 0 ∧ jdays.toInt = acD mtp ln.toNatClampNeg (tE mtp ln.toNatClampNeg (poL mtp ln.toNatClampNeg hnn.toNatClampNeg))) ∨ (¬ lfa.toInt = 0 ∧ lfa.toInt = dcF mtp ln.toNatClampNeg hnn.toNatClampNeg ∧ lfb.toInt = (dpF mtp ln.toNatClampNeg hnn.toNatClampNeg : Int))) ∧ lv_has ls 6 [(0, .ref (md 64)), (3, .int sk65), (4, .int jdays)] ∧ va_P D vwCl [((md 31), .inl (cI, 36, .inl mli)), ((md 33), .inl (cI, 36, .inl mnlq)), (moC md sd (0) mst hn cn pn mq gn mln hnn (0) mlt ln lcu ltk lfr lti lfa lfb an un lc td mtn), ((md 34), .inl (cI, 300, .inl mtp))] H ∧ va_D A [((md 31), .inl (cI, 36, .inl mli)), ((md 33), .inl (cI, 36, .inl mnlq)), (moC md sd (0) mst hn cn pn mq gn mln hnn (0) mlt ln lcu ltk lfr lti lfa lfb an un lc td mtn), ((md 34), .inl (cI, 300, .inl mtp))] ∧ va_S A s.heap H locs) ?_ ?_
              · rintro ⟨jdays, lcu, ltk, lfr, lti, lfa, lfb⟩ ls H locs ⟨g76, g77, g78, g79, g80, hl, hP, hD, hS⟩
                replace hl : lv_has ls 6 [(0, .ref (md 64)), (3, .int sk65), (4, .int jdays)] := hl
                replace hP : va_P D vwCl [((md 31), .inl (cI, 36, .inl mli)), ((md 33), .inl (cI, 36, .inl mnlq)), (moC md sd (0) mst hn cn pn mq gn mln hnn (0) mlt ln lcu ltk lfr lti lfa lfb an un lc td mtn), ((md 34), .inl (cI, 300, .inl mtp))] H := hP
                replace hD : va_D A [((md 31), .inl (cI, 36, .inl mli)), ((md 33), .inl (cI, 36, .inl mnlq)), (moC md sd (0) mst hn cn pn mq gn mln hnn (0) mlt ln lcu ltk lfr lti lfa lfb an un lc td mtn), ((md 34), .inl (cI, 300, .inl mtp))] := hD
                show W _ _ _ _ _ _ _ _ _ _ _ _ _ _ _ (F0 m 175 ls [])
                refine st_join 202 (fun (z : Int32 × Int32 × Int32 × Int32 × Int32 × Int32) => match z with | (ocu, otk, ofr, oti, ofa, ofb) => []) (fun (z : Int32 × Int32 × Int32 × Int32 × Int32 × Int32) (ls : Array Slot) (H : Heap) (locs : List Loc) => match z with | (ocu, otk, ofr, oti, ofa, ofb) => (0 ≤ ofr.toInt) ∧ (ofr.toInt ≤ ocu.toInt) ∧ (ocu.toInt ≤ ln.toInt) ∧ (oti.toInt = ocu.toInt) ∧ ((ofa.toInt = 0 ∧ ofr.toInt = (tS mtp ln.toNatClampNeg (tE mtp ln.toNatClampNeg (acP mtp ln.toNatClampNeg (tE mtp ln.toNatClampNeg (poL mtp ln.toNatClampNeg hnn.toNatClampNeg)))) : Int) ∧ ocu.toInt = (tE mtp ln.toNatClampNeg (tE mtp ln.toNatClampNeg (acP mtp ln.toNatClampNeg (tE mtp ln.toNatClampNeg (poL mtp ln.toNatClampNeg hnn.toNatClampNeg)))) : Int) ∧ otk.toInt = mK mtp ln.toNatClampNeg (tE mtp ln.toNatClampNeg (acP mtp ln.toNatClampNeg (tE mtp ln.toNatClampNeg (poL mtp ln.toNatClampNeg hnn.toNatClampNeg)))) ∧ hnn.toInt < 12 ∧ tK mtp ln.toNatClampNeg (poL mtp ln.toNatClampNeg hnn.toNatClampNeg) < 4 ∧ acR mtp ln.toNatClampNeg (tE mtp ln.toNatClampNeg (poL mtp ln.toNatClampNeg hnn.toNatClampNeg)) = 0 ∧ jdays.toInt = acD mtp ln.toNatClampNeg (tE mtp ln.toNatClampNeg (poL mtp ln.toNatClampNeg hnn.toNatClampNeg)) ∧ tK mtp ln.toNatClampNeg (acP mtp ln.toNatClampNeg (tE mtp ln.toNatClampNeg (poL mtp ln.toNatClampNeg hnn.toNatClampNeg))) = 4) ∨ (¬ ofa.toInt = 0 ∧ ofa.toInt = dcF mtp ln.toNatClampNeg hnn.toNatClampNeg ∧ ofb.toInt = (dpF mtp ln.toNatClampNeg hnn.toNatClampNeg : Int))) ∧ lv_has ls 6 [(0, .ref (md 64)), (3, .int sk65), (4, .int jdays)] ∧ va_P D vwCl [((md 31), .inl (cI, 36, .inl mli)), ((md 33), .inl (cI, 36, .inl mnlq)), (moC md sd (0) mst hn cn pn mq gn mln hnn (0) mlt ln ocu otk ofr oti ofa ofb an un lc td mtn), ((md 34), .inl (cI, 300, .inl mtp))] H ∧ va_D A [((md 31), .inl (cI, 36, .inl mli)), ((md 33), .inl (cI, 36, .inl mnlq)), (moC md sd (0) mst hn cn pn mq gn mln hnn (0) mlt ln ocu otk ofr oti ofa ofb an un lc td mtn), ((md 34), .inl (cI, 300, .inl mtp))] ∧ va_S A s.heap H locs) ?_ ?_
                · rintro ⟨ocu, otk, ofr, oti, ofa, ofb⟩ ls H locs ⟨g82, g83, g84, g85, g86, hl, hP, hD, hS⟩
                  replace hl : lv_has ls 6 [(0, .ref (md 64)), (3, .int sk65), (4, .int jdays)] := hl
                  replace hP : va_P D vwCl [((md 31), .inl (cI, 36, .inl mli)), ((md 33), .inl (cI, 36, .inl mnlq)), (moC md sd (0) mst hn cn pn mq gn mln hnn (0) mlt ln ocu otk ofr oti ofa ofb an un lc td mtn), ((md 34), .inl (cI, 300, .inl mtp))] H := hP
                  replace hD : va_D A [((md 31), .inl (cI, 36, .inl mli)), ((md 33), .inl (cI, 36, .inl mnlq)), (moC md sd (0) mst hn cn pn mq gn mln hnn (0) mlt ln ocu otk ofr oti ofa ofb an un lc td mtn), ((md 34), .inl (cI, 300, .inl mtp))] := hD
                  show W _ _ _ _ _ _ _ _ _ _ _ _ _ _ _ (F0 m 202 ls [])
                  refine st_join 219 (fun (z : Int32 × Int32 × Int32 × Int32 × Int32 × Int32 × Int32) => match z with | (pcu, ptk, pfr, pti, pfa, pfb, sk88) => [.int sk88]) (fun (z : Int32 × Int32 × Int32 × Int32 × Int32 × Int32 × Int32) (ls : Array Slot) (H : Heap) (locs : List Loc) => match z with | (pcu, ptk, pfr, pti, pfa, pfb, sk88) => (0 ≤ pfr.toInt) ∧ (pfr.toInt ≤ pcu.toInt) ∧ (pcu.toInt ≤ ln.toInt) ∧ (pti.toInt = pcu.toInt) ∧ ((pfa.toInt = 0 ∧ pfr.toInt = (tS mtp ln.toNatClampNeg (tE mtp ln.toNatClampNeg (tE mtp ln.toNatClampNeg (acP mtp ln.toNatClampNeg (tE mtp ln.toNatClampNeg (poL mtp ln.toNatClampNeg hnn.toNatClampNeg))))) : Int) ∧ pcu.toInt = (tE mtp ln.toNatClampNeg (tE mtp ln.toNatClampNeg (tE mtp ln.toNatClampNeg (acP mtp ln.toNatClampNeg (tE mtp ln.toNatClampNeg (poL mtp ln.toNatClampNeg hnn.toNatClampNeg))))) : Int) ∧ ptk.toInt = mK mtp ln.toNatClampNeg (tE mtp ln.toNatClampNeg (tE mtp ln.toNatClampNeg (acP mtp ln.toNatClampNeg (tE mtp ln.toNatClampNeg (poL mtp ln.toNatClampNeg hnn.toNatClampNeg))))) ∧ hnn.toInt < 12 ∧ tK mtp ln.toNatClampNeg (poL mtp ln.toNatClampNeg hnn.toNatClampNeg) < 4 ∧ acR mtp ln.toNatClampNeg (tE mtp ln.toNatClampNeg (poL mtp ln.toNatClampNeg hnn.toNatClampNeg)) = 0 ∧ jdays.toInt = acD mtp ln.toNatClampNeg (tE mtp ln.toNatClampNeg (poL mtp ln.toNatClampNeg hnn.toNatClampNeg)) ∧ tK mtp ln.toNatClampNeg (acP mtp ln.toNatClampNeg (tE mtp ln.toNatClampNeg (poL mtp ln.toNatClampNeg hnn.toNatClampNeg))) = 4 ∧ tK mtp ln.toNatClampNeg (tE mtp ln.toNatClampNeg (acP mtp ln.toNatClampNeg (tE mtp ln.toNatClampNeg (poL mtp ln.toNatClampNeg hnn.toNatClampNeg)))) = 5 ∧ sk88.toInt = tN mtp ln.toNatClampNeg (tE mtp ln.toNatClampNeg (acP mtp ln.toNatClampNeg (tE mtp ln.toNatClampNeg (poL mtp ln.toNatClampNeg hnn.toNatClampNeg)))) ∧ tN mtp ln.toNatClampNeg (tE mtp ln.toNatClampNeg (acP mtp ln.toNatClampNeg (tE mtp ln.toNatClampNeg (poL mtp ln.toNatClampNeg hnn.toNatClampNeg)))) ≤ 100) ∨ (¬ pfa.toInt = 0 ∧ pfa.toInt = dcF mtp ln.toNatClampNeg hnn.toNatClampNeg ∧ pfb.toInt = (dpF mtp ln.toNatClampNeg hnn.toNatClampNeg : Int))) ∧ lv_has ls 6 [(0, .ref (md 64)), (3, .int sk65), (4, .int jdays)] ∧ va_P D vwCl [((md 31), .inl (cI, 36, .inl mli)), ((md 33), .inl (cI, 36, .inl mnlq)), (moC md sd (0) mst hn cn pn mq gn mln hnn (0) mlt ln pcu ptk pfr pti pfa pfb an un lc td mtn), ((md 34), .inl (cI, 300, .inl mtp))] H ∧ va_D A [((md 31), .inl (cI, 36, .inl mli)), ((md 33), .inl (cI, 36, .inl mnlq)), (moC md sd (0) mst hn cn pn mq gn mln hnn (0) mlt ln pcu ptk pfr pti pfa pfb an un lc td mtn), ((md 34), .inl (cI, 300, .inl mtp))] ∧ va_S A s.heap H locs) ?_ ?_
                  · rintro ⟨pcu, ptk, pfr, pti, pfa, pfb, sk88⟩ ls H locs ⟨g89, g90, g91, g92, g93, hl, hP, hD, hS⟩
                    replace hl : lv_has ls 6 [(0, .ref (md 64)), (3, .int sk65), (4, .int jdays)] := hl
                    replace hP : va_P D vwCl [((md 31), .inl (cI, 36, .inl mli)), ((md 33), .inl (cI, 36, .inl mnlq)), (moC md sd (0) mst hn cn pn mq gn mln hnn (0) mlt ln pcu ptk pfr pti pfa pfb an un lc td mtn), ((md 34), .inl (cI, 300, .inl mtp))] H := hP
                    replace hD : va_D A [((md 31), .inl (cI, 36, .inl mli)), ((md 33), .inl (cI, 36, .inl mnlq)), (moC md sd (0) mst hn cn pn mq gn mln hnn (0) mlt ln pcu ptk pfr pti pfa pfb an un lc td mtn), ((md 34), .inl (cI, 300, .inl mtp))] := hD
                    show W _ _ _ _ _ _ _ _ _ _ _ _ _ _ _ (F0 m 219 ls [.int sk88])
                    refine lv_istore (lv' := [(5, .int sk88), (0, .ref (md 64)), (3, .int sk65), (4, .int jdays)]) hx hb dX11_duties_219 hl (by decide) rfl (fun ls hl => ?_)
                    refine st_join 238 (fun (z : Int32 × Int32 × Int32 × Int32 × Int32 × Int32) => match z with | (ycu, ytk, yfr, yti, yfa, yfb) => []) (fun (z : Int32 × Int32 × Int32 × Int32 × Int32 × Int32) (ls : Array Slot) (H : Heap) (locs : List Loc) => match z with | (ycu, ytk, yfr, yti, yfa, yfb) => (0 ≤ yfr.toInt) ∧ (yfr.toInt ≤ ycu.toInt) ∧ (ycu.toInt ≤ ln.toInt) ∧ (yti.toInt = ycu.toInt) ∧ ((yfa.toInt = 0 ∧ yfr.toInt = (tS mtp ln.toNatClampNeg (lnN mtp ln.toNatClampNeg (poL mtp ln.toNatClampNeg hnn.toNatClampNeg)) : Int) ∧ ycu.toInt = (tE mtp ln.toNatClampNeg (lnN mtp ln.toNatClampNeg (poL mtp ln.toNatClampNeg hnn.toNatClampNeg)) : Int) ∧ ytk.toInt = mK mtp ln.toNatClampNeg (lnN mtp ln.toNatClampNeg (poL mtp ln.toNatClampNeg hnn.toNatClampNeg)) ∧ hnn.toInt < 12 ∧ tK mtp ln.toNatClampNeg (poL mtp ln.toNatClampNeg hnn.toNatClampNeg) < 4 ∧ acR mtp ln.toNatClampNeg (tE mtp ln.toNatClampNeg (poL mtp ln.toNatClampNeg hnn.toNatClampNeg)) = 0 ∧ jdays.toInt = acD mtp ln.toNatClampNeg (tE mtp ln.toNatClampNeg (poL mtp ln.toNatClampNeg hnn.toNatClampNeg)) ∧ tK mtp ln.toNatClampNeg (acP mtp ln.toNatClampNeg (tE mtp ln.toNatClampNeg (poL mtp ln.toNatClampNeg hnn.toNatClampNeg))) = 4 ∧ lnR mtp ln.toNatClampNeg (poL mtp ln.toNatClampNeg hnn.toNatClampNeg) = 0 ∧ sk88.toInt = tN mtp ln.toNatClampNeg (tE mtp ln.toNatClampNeg (acP mtp ln.toNatClampNeg (tE mtp ln.toNatClampNeg (poL mtp ln.toNatClampNeg hnn.toNatClampNeg))))) ∨ (¬ yfa.toInt = 0 ∧ yfa.toInt = dcF mtp ln.toNatClampNeg hnn.toNatClampNeg ∧ yfb.toInt = (dpF mtp ln.toNatClampNeg hnn.toNatClampNeg : Int))) ∧ lv_has ls 6 [(0, .ref (md 64)), (3, .int sk65), (4, .int jdays), (5, .int sk88)] ∧ va_P D vwCl [((md 31), .inl (cI, 36, .inl mli)), ((md 33), .inl (cI, 36, .inl mnlq)), (moC md sd (0) mst hn cn pn mq gn mln hnn (0) mlt ln ycu ytk yfr yti yfa yfb an un lc td mtn), ((md 34), .inl (cI, 300, .inl mtp))] H ∧ va_D A [((md 31), .inl (cI, 36, .inl mli)), ((md 33), .inl (cI, 36, .inl mnlq)), (moC md sd (0) mst hn cn pn mq gn mln hnn (0) mlt ln ycu ytk yfr yti yfa yfb an un lc td mtn), ((md 34), .inl (cI, 300, .inl mtp))] ∧ va_S A s.heap H locs) ?_ ?_
                    · rintro ⟨ycu, ytk, yfr, yti, yfa, yfb⟩ ls H locs ⟨g95, g96, g97, g98, g99, hl, hP, hD, hS⟩
                      replace hl : lv_has ls 6 [(0, .ref (md 64)), (3, .int sk65), (4, .int jdays), (5, .int sk88)] := hl
                      replace hP : va_P D vwCl [((md 31), .inl (cI, 36, .inl mli)), ((md 33), .inl (cI, 36, .inl mnlq)), (moC md sd (0) mst hn cn pn mq gn mln hnn (0) mlt ln ycu ytk yfr yti yfa yfb an un lc td mtn), ((md 34), .inl (cI, 300, .inl mtp))] H := hP
                      replace hD : va_D A [((md 31), .inl (cI, 36, .inl mli)), ((md 33), .inl (cI, 36, .inl mnlq)), (moC md sd (0) mst hn cn pn mq gn mln hnn (0) mlt ln ycu ytk yfr yti yfa yfb an un lc td mtn), ((md 34), .inl (cI, 300, .inl mtp))] := hD
                      show W _ _ _ _ _ _ _ _ _ _ _ _ _ _ _ (F0 m 238 ls [])
                      refine lv_aload_n hx hb dX11_duties_238 rfl (lv_at hl 0 rfl) ?_
                      refine va_get (D := D) (ci := 11) (v := .int yfa) (C := RX11) (T := TX11) (N := 64) hx hb hts inX11_duties_X11 hown hK hP 2 rfl rfl 42 (by decide) (hts (Cond.fieldLink RX11 271 "PortRoomsModel" "fault" "I") (List.mem_cons_of_mem _ (List.mem_append_left _ (List.mem_append_left _ (List.mem_of_getElem? (i := 4) rfl))))) (fun _ h9 => h9) rfl dX11_duties_239 ?_
                      refine lv_if_ne (tgt := 297) hx hb dX11_duties_242 (by decide) (fun c101 => ?_) (fun c101 => ?_)
                      · skip
                        have f102 := i_ne c101
                        refine lv_goto (tgt := 37) hx hb dX11_duties_297 (by decide) ?_
                        refine lv_aload_n hx hb dX11_duties_37 rfl (lv_at hl 0 rfl) ?_
                        refine va_get (D := D) (ci := 11) (v := .int yfa) (C := RX11) (T := TX11) (N := 64) hx hb hts inX11_duties_X11 hown hK hP 2 rfl rfl 42 (by decide) (hts (Cond.fieldLink RX11 271 "PortRoomsModel" "fault" "I") (List.mem_cons_of_mem _ (List.mem_append_left _ (List.mem_append_left _ (List.mem_of_getElem? (i := 4) rfl))))) (fun _ h9 => h9) rfl dX11_duties_38 ?_
                        refine lv_if_ne (tgt := 300) hx hb dX11_duties_41 (by decide) (fun _ => ?_) (fun c103 => by exfalso; have h8 := i_eq c103; omega)
                        refine lv_aload_n hx hb dX11_duties_300 rfl (lv_at hl 0 rfl) ?_
                        refine va_get (D := D) (ci := 11) (v := .int yfa) (C := RX11) (T := TX11) (N := 64) hx hb hts inX11_duties_X11 hown hK hP 2 rfl rfl 42 (by decide) (hts (Cond.fieldLink RX11 271 "PortRoomsModel" "fault" "I") (List.mem_cons_of_mem _ (List.mem_append_left _ (List.mem_append_left _ (List.mem_of_getElem? (i := 4) rfl))))) (fun _ h9 => h9) rfl dX11_duties_301 ?_
                        refine lv_if_le (tgt := 324) hx hb dX11_duties_304 (by decide) (fun c104 => ?_) (fun c104 => ?_)
                        · skip
                          have f105 := i_le c104
                          refine lv_aload_n hx hb dX11_duties_324 rfl (lv_at hl 0 rfl) ?_
                          refine lv_aload_n hx hb dX11_duties_325 rfl (lv_at hl 0 rfl) ?_
                          refine va_get (D := D) (ci := 11) (v := .int hnn) (C := RX11) (T := TX11) (N := 64) hx hb hts inX11_duties_X11 hown hK hP 2 rfl rfl 32 (by decide) (hts (Cond.fieldLink RX11 287 "PortRoomsModel" "newLines" "I") (List.mem_cons_of_mem _ (List.mem_append_left _ (List.mem_append_left _ (List.mem_of_getElem? (i := 5) rfl))))) (fun _ h9 => h9) rfl dX11_duties_326 ?_
                          refine va_put (D := D) (ci := 11) (v := .int hnn) (ty := .int) (C := RX11) (T := TX11) (N := 64) hx hb hts inX11_duties_X11 tyX11 tyX11_ok nmX11 hown hK hP hD hS 2 rfl rfl 30 (by decide) (hts (Cond.fieldLink RX11 314 "PortRoomsModel" "lines" "I") (List.mem_cons_of_mem _ (List.mem_append_left _ (List.mem_append_left _ (List.mem_of_getElem? (i := 17) rfl))))) (fun _ h9 => h9) rfl (tyX11_ok 30 (by decide)) rfl rfl (Nat.le_of_ble_eq_true rfl) dX11_duties_329 (fun H locs => ?_)
                          clear hP hD hS
                          intro hP hD hS
                          replace hP : va_P D vwCl [((md 31), .inl (cI, 36, .inl mli)), ((md 33), .inl (cI, 36, .inl mnlq)), (moC md sd (0) mst hn cn pn mq gn hnn hnn (0) mlt ln ycu ytk yfr yti yfa yfb an un lc td mtn), ((md 34), .inl (cI, 300, .inl mtp))] H := hP
                          replace hD : va_D A [((md 31), .inl (cI, 36, .inl mli)), ((md 33), .inl (cI, 36, .inl mnlq)), (moC md sd (0) mst hn cn pn mq gn hnn hnn (0) mlt ln ycu ytk yfr yti yfa yfb an un lc td mtn), ((md 34), .inl (cI, 300, .inl mtp))] := hD
                          refine lv_iconst (v := 0) hx hb dX11_duties_332 (by decide) ?_
                          refine lv_istore_n (lv' := [(1, .int 0), (0, .ref (md 64)), (3, .int sk65), (4, .int jdays), (5, .int sk88)]) hx hb dX11_duties_333 rfl hl (by decide) rfl (fun ls hl => ?_)
                          refine st_loop 334 (fun _ => []) (fun (z : Int32 × (Nat → Int32)) (ls : Array Slot) (H : Heap) (locs : List Loc) => match z with | (q334_1, mliq) => (0 ≤ q334_1.toInt) ∧ (q334_1.toInt ≤ 36) ∧ (∀ j : Nat, (j : Int) < q334_1.toInt → mliq j = mnlq j) ∧ lv_has ls 6 [(0, .ref (md 64)), (1, .int q334_1), (3, .int sk65), (4, .int jdays), (5, .int sk88)] ∧ va_P D vwCl [((md 31), .inl (cI, 36, .inl mliq)), ((md 33), .inl (cI, 36, .inl mnlq)), (moC md sd (0) mst hn cn pn mq gn hnn hnn (0) mlt ln ycu ytk yfr yti yfa yfb an un lc td mtn), ((md 34), .inl (cI, 300, .inl mtp))] H ∧ va_D A [((md 31), .inl (cI, 36, .inl mliq)), ((md 33), .inl (cI, 36, .inl mnlq)), (moC md sd (0) mst hn cn pn mq gn hnn hnn (0) mlt ln ycu ytk yfr yti yfa yfb an un lc td mtn), ((md 34), .inl (cI, 300, .inl mtp))] ∧ va_S A s.heap H locs) (fun (z : Int32 × (Nat → Int32)) => match z with | (q334_1, mliq) => 36 - q334_1.toInt) ?_ ?_ ((0 : Int32), mli) ⟨(by omega), (by omega), (by intro j hj; exfalso; omega), lv_sub hl [1, 0, 2, 3, 4] rfl, hP, hD, hS⟩
                          · rintro ⟨q334_1, mliq⟩ ls H locs ⟨g106, g107, g108, hl, hP, hD, hS⟩
                            show (0 : Int) ≤ 36 - q334_1.toInt
                            omega
                          · rintro n111 ih109 ⟨q334_1, mliq⟩ ls H locs ⟨g106, g107, g108, hl, hP, hD, hS⟩ hm110
                            have hm110 : 36 - q334_1.toInt < (n111 : Int) + 1 := hm110
                            replace hl : lv_has ls 6 [(0, .ref (md 64)), (1, .int q334_1), (3, .int sk65), (4, .int jdays), (5, .int sk88)] := hl
                            replace hP : va_P D vwCl [((md 31), .inl (cI, 36, .inl mliq)), ((md 33), .inl (cI, 36, .inl mnlq)), (moC md sd (0) mst hn cn pn mq gn hnn hnn (0) mlt ln ycu ytk yfr yti yfa yfb an un lc td mtn), ((md 34), .inl (cI, 300, .inl mtp))] H := hP
                            replace hD : va_D A [((md 31), .inl (cI, 36, .inl mliq)), ((md 33), .inl (cI, 36, .inl mnlq)), (moC md sd (0) mst hn cn pn mq gn hnn hnn (0) mlt ln ycu ytk yfr yti yfa yfb an un lc td mtn), ((md 34), .inl (cI, 300, .inl mtp))] := hD
                            show W _ _ _ _ _ _ _ _ _ _ _ _ _ _ _ (F0 m 334 ls [])
                            refine lv_iload_n hx hb dX11_duties_334 rfl (lv_at hl 1 rfl) ?_
                            refine lv_bipush (v := 36) hx hb dX11_duties_335 (by decide) ?_
                            refine lv_icmp_ge (tgt := 358) hx hb dX11_duties_337 (by decide) (fun c112 => ?_) (fun c112 => ?_)
                            · skip
                              have f113 := i_le c112
                              refine lv_aload_n hx hb dX11_duties_358 rfl (lv_at hl 0 rfl) ?_
                              refine va_get (D := D) (ci := 11) (v := .int hnn) (C := RX11) (T := TX11) (N := 64) hx hb hts inX11_duties_X11 hown hK hP 2 rfl rfl 30 (by decide) (hts (Cond.fieldLink RX11 314 "PortRoomsModel" "lines" "I") (List.mem_cons_of_mem _ (List.mem_append_left _ (List.mem_append_left _ (List.mem_of_getElem? (i := 17) rfl))))) (fun _ h9 => h9) rfl dX11_duties_359 ?_
                              have clc114 := i_cl (x := hnn) (by omega)
                              have hdr9 := dcF_rng (T := mtp) (L := ln.toNatClampNeg) (n := hnn.toNatClampNeg)
                              have hgd9 : hfa.toInt = 0 ∧ hfr.toInt = (tS mtp ln.toNatClampNeg (poL mtp ln.toNatClampNeg hnn.toNatClampNeg) : Int) ∧ hcu.toInt = (tE mtp ln.toNatClampNeg (poL mtp ln.toNatClampNeg hnn.toNatClampNeg) : Int) ∧ htk.toInt = mK mtp ln.toNatClampNeg (poL mtp ln.toNatClampNeg hnn.toNatClampNeg) := by rcases g16 with h9 | h9 <;> first | exact h9 | (exfalso; omega)
                              have hpl9 := poL_le mtp ln.toNatClampNeg hnn.toNatClampNeg
                              have hmk9 := mk_tk (T := mtp) (L := ln.toNatClampNeg) hpl9
                              have hP9 := hP.sub (ws' := [(moC md sd (0) mst hn cn pn mq gn hnn hnn (0) mlt ln ycu ytk yfr yti yfa yfb an un lc td mtn), ((md 31), .inl (cI, 36, .inl mliq)), ((md 33), .inl (cI, 36, .inl mnlq)), ((md 34), .inl (cI, 300, .inl mtp))]) [2, 0, 1, 3] rfl
                              have hD9 := hD.sub (ws' := [(moC md sd (0) mst hn cn pn mq gn hnn hnn (0) mlt ln ycu ytk yfr yti yfa yfb an un lc td mtn), ((md 31), .inl (cI, 36, .inl mliq)), ((md 33), .inl (cI, 36, .inl mnlq)), ((md 34), .inl (cI, 300, .inl mtp))]) [2, 0, 1, 3] (by decide +kernel) rfl
                              exact W.iret (v := hnn) hx hb hr (fun t ht hW => ⟨⟨hnn, (hnn, mliq, hnn, mnlq, mlt, ln, ycu, ytk, yfr, yti, yfa, yfb), rfl, (by show 0 ≤ hnn.toInt ∧ hnn.toInt ≤ 12 ∧ mdP mtp ln.toNatClampNeg hnn mlt mln mlt hnn mli mliq; exact ⟨by omega, by omega, ⟨hnn.toNatClampNeg, by omega, g14, Or.inl ⟨by omega, by omega, rfl, by omega, fun j hj => (by have e9 := g15 j hj; rw [g108 (3 * j) (by omega), g108 (3 * j + 1) (by omega), g108 (3 * j + 2) (by omega)]; exact e9)⟩⟩⟩), by rw [ht]; exact hP9, va_K.moved hW.alike hK, hD9⟩, hS.F ht⟩) hS.2.2 dX11_duties_362
                            · skip
                              have f115 := i_nle c112
                              refine lv_aload_n hx hb dX11_duties_340 rfl (lv_at hl 0 rfl) ?_
                              refine va_get (D := D) (ci := 11) (v := .ref (md 31)) (C := RX11) (T := TX11) (N := 64) hx hb hts inX11_duties_X11 hown hK hP 2 rfl rfl 31 (by decide) (hts (Cond.fieldLink RX11 81 "PortRoomsModel" "line" "[I") (List.mem_cons_of_mem _ (List.mem_append_left _ (List.mem_append_left _ (List.mem_of_getElem? (i := 18) rfl))))) (fun _ h9 => h9) rfl dX11_duties_341 ?_
                              refine lv_iload_n hx hb dX11_duties_344 rfl (lv_at hl 1 rfl) ?_
                              refine lv_aload_n hx hb dX11_duties_345 rfl (lv_at hl 0 rfl) ?_
                              refine va_get (D := D) (ci := 11) (v := .ref (md 33)) (C := RX11) (T := TX11) (N := 64) hx hb hts inX11_duties_X11 hown hK hP 2 rfl rfl 33 (by decide) (hts (Cond.fieldLink RX11 84 "PortRoomsModel" "newLine" "[I") (List.mem_cons_of_mem _ (List.mem_append_left _ (List.mem_append_left _ (List.mem_of_getElem? (i := 13) rfl))))) (fun _ h9 => h9) rfl dX11_duties_346 ?_
                              refine lv_iload_n hx hb dX11_duties_349 rfl (lv_at hl 1 rfl) ?_
                              refine va_iald hx hb hK hP 1 0 rfl rfl (i_in (by omega) (by omega)) dX11_duties_350 ?_
                              refine lv_topi (fun v116 ev116 => ?_)
                              refine va_iast hx hb hK hP hD hS 0 0 rfl rfl (i_in (by omega) (by omega)) dX11_duties_351 (fun H locs => ?_)
                              clear hP hD hS
                              intro hP hD hS
                              replace hP : va_P D vwCl [((md 31), .inl (cI, 36, .inl (upd mliq q334_1.toNatClampNeg v116))), ((md 33), .inl (cI, 36, .inl mnlq)), (moC md sd (0) mst hn cn pn mq gn hnn hnn (0) mlt ln ycu ytk yfr yti yfa yfb an un lc td mtn), ((md 34), .inl (cI, 300, .inl mtp))] H := hP
                              replace hD : va_D A [((md 31), .inl (cI, 36, .inl (upd mliq q334_1.toNatClampNeg v116))), ((md 33), .inl (cI, 36, .inl mnlq)), (moC md sd (0) mst hn cn pn mq gn hnn hnn (0) mlt ln ycu ytk yfr yti yfa yfb an un lc td mtn), ((md 34), .inl (cI, 300, .inl mtp))] := hD
                              obtain ⟨v117, ev117⟩ : ∃ y : Int32, y = q334_1 + 1 := ⟨_, rfl⟩
                              try have tv117 : v117.toInt = q334_1.toInt + 1 := by rw [ev117]; exact (i_add (x := q334_1) (y := (1 : Int32)) (by rw [k1]; omega) (by rw [k1]; omega)).trans (by rw [k1])
                              refine lv_iinc (v := v117) (lv' := [(1, .int v117), (0, .ref (md 64)), (3, .int sk65), (4, .int jdays), (5, .int sk88)]) hx hb dX11_duties_352 hl (k := 1) rfl (by rw [ev117]; rfl) (by decide) rfl (fun ls hl => ?_)
                              refine lv_goto (tgt := 334) hx hb dX11_duties_355 (by decide) ?_
                              exact ih109 (v117, upd mliq q334_1.toNatClampNeg v116) ls H locs ⟨(by omega), (by omega), (by exact fun j hj => if e9 : j = q334_1.toNatClampNeg then (by rw [e9, upd_s]; assumption) else (by rw [upd_n _ _ e9]; exact g108 j (by have := i_cl (x := q334_1) (by omega); omega))), lv_sub hl [1, 0, 2, 3, 4] rfl, hP.sub [0, 1, 2, 3] rfl, hD.sub [0, 1, 2, 3] (by decide +kernel) rfl, hS⟩ (by show 36 - v117.toInt < _; omega)
                        · skip
                          have f118 := i_nle c104
                          refine lv_aload_n hx hb dX11_duties_307 rfl (lv_at hl 0 rfl) ?_
                          refine lv_aload_n hx hb dX11_duties_308 rfl (lv_at hl 0 rfl) ?_
                          refine va_get (D := D) (ci := 11) (v := .int yfa) (C := RX11) (T := TX11) (N := 64) hx hb hts inX11_duties_X11 hown hK hP 2 rfl rfl 42 (by decide) (hts (Cond.fieldLink RX11 271 "PortRoomsModel" "fault" "I") (List.mem_cons_of_mem _ (List.mem_append_left _ (List.mem_append_left _ (List.mem_of_getElem? (i := 4) rfl))))) (fun _ h9 => h9) rfl dX11_duties_309 ?_
                          refine va_put (D := D) (ci := 11) (v := .int yfa) (ty := .int) (C := RX11) (T := TX11) (N := 64) hx hb hts inX11_duties_X11 tyX11 tyX11_ok nmX11 hown hK hP hD hS 2 rfl rfl 36 (by decide) (hts (Cond.fieldLink RX11 310 "PortRoomsModel" "latest" "I") (List.mem_cons_of_mem _ (List.mem_append_left _ (List.mem_append_left _ (List.mem_of_getElem? (i := 14) rfl))))) (fun _ h9 => h9) rfl (tyX11_ok 36 (by decide)) rfl rfl (Nat.le_of_ble_eq_true rfl) dX11_duties_312 (fun H locs => ?_)
                          clear hP hD hS
                          intro hP hD hS
                          replace hP : va_P D vwCl [((md 31), .inl (cI, 36, .inl mli)), ((md 33), .inl (cI, 36, .inl mnlq)), (moC md sd (0) mst hn cn pn mq gn mln hnn (0) yfa ln ycu ytk yfr yti yfa yfb an un lc td mtn), ((md 34), .inl (cI, 300, .inl mtp))] H := hP
                          replace hD : va_D A [((md 31), .inl (cI, 36, .inl mli)), ((md 33), .inl (cI, 36, .inl mnlq)), (moC md sd (0) mst hn cn pn mq gn mln hnn (0) yfa ln ycu ytk yfr yti yfa yfb an un lc td mtn), ((md 34), .inl (cI, 300, .inl mtp))] := hD
                          refine lv_ldcw hx hb hown (hts (Cond.constant RX11 313 (-1000100)) (List.mem_cons_of_mem _ (List.mem_append_left _ (List.mem_append_left _ (List.mem_of_getElem? (i := 15) rfl))))) dX11_duties_315 ?_
                          refine lv_aload_n hx hb dX11_duties_318 rfl (lv_at hl 0 rfl) ?_
                          refine va_get (D := D) (ci := 11) (v := .int yfb) (C := RX11) (T := TX11) (N := 64) hx hb hts inX11_duties_X11 hown hK hP 2 rfl rfl 43 (by decide) (hts (Cond.fieldLink RX11 274 "PortRoomsModel" "faultAt" "I") (List.mem_cons_of_mem _ (List.mem_append_left _ (List.mem_append_left _ (List.mem_of_getElem? (i := 16) rfl))))) (fun _ h9 => h9) rfl dX11_duties_319 ?_
                          refine lv_isub hx hb dX11_duties_322 ?_
                          refine lv_topi (fun v119 ev119 => ?_)
                          try have tv119 : v119.toInt = (-1000100) - yfb.toInt := by rw [ev119]; exact (i_sub (x := ((-1000100) : Int32)) (y := yfb) (by rw [km1000100]; omega) (by rw [km1000100]; omega)).trans (by rw [km1000100])
                          have clc120 := i_cl (x := hnn) (by omega)
                          have hdr9 := dcF_rng (T := mtp) (L := ln.toNatClampNeg) (n := hnn.toNatClampNeg)
                          have hbad9 : ¬ yfa.toInt = 0 ∧ yfa.toInt = dcF mtp ln.toNatClampNeg hnn.toNatClampNeg ∧ yfb.toInt = (dpF mtp ln.toNatClampNeg hnn.toNatClampNeg : Int) ∧ ¬ tK mtp ln.toNatClampNeg (poL mtp ln.toNatClampNeg hnn.toNatClampNeg) = 8 := by first | (rcases g16 with h9 | h9 <;> first | (exfalso; omega) | exact h9) | (rcases g99 with h9 | h9 <;> first | (exfalso; omega) | exact ⟨h9.1, h9.2.1, h9.2.2, by omega⟩)
                          have hP9 := hP.sub (ws' := [(moC md sd (0) mst hn cn pn mq gn mln hnn (0) yfa ln ycu ytk yfr yti yfa yfb an un lc td mtn), ((md 31), .inl (cI, 36, .inl mli)), ((md 33), .inl (cI, 36, .inl mnlq)), ((md 34), .inl (cI, 300, .inl mtp))]) [2, 0, 1, 3] rfl
                          have hD9 := hD.sub (ws' := [(moC md sd (0) mst hn cn pn mq gn mln hnn (0) yfa ln ycu ytk yfr yti yfa yfb an un lc td mtn), ((md 31), .inl (cI, 36, .inl mli)), ((md 33), .inl (cI, 36, .inl mnlq)), ((md 34), .inl (cI, 300, .inl mtp))]) [2, 0, 1, 3] (by decide +kernel) rfl
                          exact W.iret (v := v119) hx hb hr (fun t ht hW => ⟨⟨v119, (mln, mli, hnn, mnlq, yfa, ln, ycu, ytk, yfr, yti, yfa, yfb), rfl, (by show 0 ≤ mln.toInt ∧ mln.toInt ≤ 12 ∧ mdP mtp ln.toNatClampNeg v119 mlt mln yfa mln mli mli; exact ⟨by omega, by omega, ⟨hnn.toNatClampNeg, by omega, g14, Or.inr ⟨hbad9.2.2.2, by omega, hbad9.2.1, by omega, rfl, rfl⟩⟩⟩), by rw [ht]; exact hP9, va_K.moved hW.alike hK, hD9⟩, hS.F ht⟩) hS.2.2 dX11_duties_323
                      · skip
                        have f121 := i_eq c101
                        have hT5 : yfa.toInt = 0 ∧ yfr.toInt = (tS mtp ln.toNatClampNeg (lnN mtp ln.toNatClampNeg (poL mtp ln.toNatClampNeg hnn.toNatClampNeg)) : Int) ∧ ycu.toInt = (tE mtp ln.toNatClampNeg (lnN mtp ln.toNatClampNeg (poL mtp ln.toNatClampNeg hnn.toNatClampNeg)) : Int) ∧ ytk.toInt = mK mtp ln.toNatClampNeg (lnN mtp ln.toNatClampNeg (poL mtp ln.toNatClampNeg hnn.toNatClampNeg)) ∧ hnn.toInt < 12 ∧ tK mtp ln.toNatClampNeg (poL mtp ln.toNatClampNeg hnn.toNatClampNeg) < 4 ∧ acR mtp ln.toNatClampNeg (tE mtp ln.toNatClampNeg (poL mtp ln.toNatClampNeg hnn.toNatClampNeg)) = 0 ∧ jdays.toInt = acD mtp ln.toNatClampNeg (tE mtp ln.toNatClampNeg (poL mtp ln.toNatClampNeg hnn.toNatClampNeg)) ∧ tK mtp ln.toNatClampNeg (acP mtp ln.toNatClampNeg (tE mtp ln.toNatClampNeg (poL mtp ln.toNatClampNeg hnn.toNatClampNeg))) = 4 ∧ lnR mtp ln.toNatClampNeg (poL mtp ln.toNatClampNeg hnn.toNatClampNeg) = 0 ∧ sk88.toInt = tN mtp ln.toNatClampNeg (tE mtp ln.toNatClampNeg (acP mtp ln.toNatClampNeg (tE mtp ln.toNatClampNeg (poL mtp ln.toNatClampNeg hnn.toNatClampNeg)))) := by rcases g99 with h9 | h9 <;> first | exact h9 | (exfalso; omega)
                        refine lv_aload_n hx hb dX11_duties_245 rfl (lv_at hl 0 rfl) ?_
                        refine va_get (D := D) (ci := 11) (v := .ref (md 33)) (C := RX11) (T := TX11) (N := 64) hx hb hts inX11_duties_X11 hown hK hP 2 rfl rfl 33 (by decide) (hts (Cond.fieldLink RX11 84 "PortRoomsModel" "newLine" "[I") (List.mem_cons_of_mem _ (List.mem_append_left _ (List.mem_append_left _ (List.mem_of_getElem? (i := 13) rfl))))) (fun _ h9 => h9) rfl dX11_duties_246 ?_
                        refine lv_iconst (v := 3) hx hb dX11_duties_249 (by decide) ?_
                        refine lv_aload_n hx hb dX11_duties_250 rfl (lv_at hl 0 rfl) ?_
                        refine va_get (D := D) (ci := 11) (v := .int hnn) (C := RX11) (T := TX11) (N := 64) hx hb hts inX11_duties_X11 hown hK hP 2 rfl rfl 32 (by decide) (hts (Cond.fieldLink RX11 287 "PortRoomsModel" "newLines" "I") (List.mem_cons_of_mem _ (List.mem_append_left _ (List.mem_append_left _ (List.mem_of_getElem? (i := 5) rfl))))) (fun _ h9 => h9) rfl dX11_duties_251 ?_
                        refine lv_imul hx hb dX11_duties_254 ?_
                        refine lv_topi (fun v122 ev122 => ?_)
                        try have tv122 : v122.toInt = 3 * hnn.toInt := by rw [ev122]; exact (i_mul (x := (3 : Int32)) (y := hnn) (by rw [k3]; omega) (by rw [k3]; omega)).trans (by rw [k3])
                        refine lv_iload_n hx hb dX11_duties_255 rfl (lv_at hl 1 rfl) ?_
                        refine va_iast hx hb hK hP hD hS 1 0 rfl rfl (i_in (by omega) (by omega)) dX11_duties_256 (fun H locs => ?_)
                        clear hP hD hS
                        intro hP hD hS
                        replace hP : va_P D vwCl [((md 31), .inl (cI, 36, .inl mli)), ((md 33), .inl (cI, 36, .inl (upd mnlq v122.toNatClampNeg sk65))), (moC md sd (0) mst hn cn pn mq gn mln hnn (0) mlt ln ycu ytk yfr yti yfa yfb an un lc td mtn), ((md 34), .inl (cI, 300, .inl mtp))] H := hP
                        replace hD : va_D A [((md 31), .inl (cI, 36, .inl mli)), ((md 33), .inl (cI, 36, .inl (upd mnlq v122.toNatClampNeg sk65))), (moC md sd (0) mst hn cn pn mq gn mln hnn (0) mlt ln ycu ytk yfr yti yfa yfb an un lc td mtn), ((md 34), .inl (cI, 300, .inl mtp))] := hD
                        refine lv_aload_n hx hb dX11_duties_257 rfl (lv_at hl 0 rfl) ?_
                        refine va_get (D := D) (ci := 11) (v := .ref (md 33)) (C := RX11) (T := TX11) (N := 64) hx hb hts inX11_duties_X11 hown hK hP 2 rfl rfl 33 (by decide) (hts (Cond.fieldLink RX11 84 "PortRoomsModel" "newLine" "[I") (List.mem_cons_of_mem _ (List.mem_append_left _ (List.mem_append_left _ (List.mem_of_getElem? (i := 13) rfl))))) (fun _ h9 => h9) rfl dX11_duties_258 ?_
                        refine lv_iconst (v := 3) hx hb dX11_duties_261 (by decide) ?_
                        refine lv_aload_n hx hb dX11_duties_262 rfl (lv_at hl 0 rfl) ?_
                        refine va_get (D := D) (ci := 11) (v := .int hnn) (C := RX11) (T := TX11) (N := 64) hx hb hts inX11_duties_X11 hown hK hP 2 rfl rfl 32 (by decide) (hts (Cond.fieldLink RX11 287 "PortRoomsModel" "newLines" "I") (List.mem_cons_of_mem _ (List.mem_append_left _ (List.mem_append_left _ (List.mem_of_getElem? (i := 5) rfl))))) (fun _ h9 => h9) rfl dX11_duties_263 ?_
                        refine lv_imul hx hb dX11_duties_266 ?_
                        refine lv_topi (fun v123 ev123 => ?_)
                        try have tv123 : v123.toInt = 3 * hnn.toInt := by rw [ev123]; exact (i_mul (x := (3 : Int32)) (y := hnn) (by rw [k3]; omega) (by rw [k3]; omega)).trans (by rw [k3])
                        refine lv_iconst (v := 1) hx hb dX11_duties_267 (by decide) ?_
                        refine lv_iadd hx hb dX11_duties_268 ?_
                        refine lv_topi (fun v124 ev124 => ?_)
                        try have tv124 : v124.toInt = v123.toInt + 1 := by rw [ev124]; exact (i_add (x := v123) (y := (1 : Int32)) (by rw [k1]; omega) (by rw [k1]; omega)).trans (by rw [k1])
                        refine lv_iload hx hb dX11_duties_269 (lv_at hl 2 rfl) ?_
                        refine va_iast hx hb hK hP hD hS 1 0 rfl rfl (i_in (by omega) (by omega)) dX11_duties_271 (fun H locs => ?_)
                        clear hP hD hS
                        intro hP hD hS
                        replace hP : va_P D vwCl [((md 31), .inl (cI, 36, .inl mli)), ((md 33), .inl (cI, 36, .inl (upd (upd mnlq v122.toNatClampNeg sk65) v124.toNatClampNeg jdays))), (moC md sd (0) mst hn cn pn mq gn mln hnn (0) mlt ln ycu ytk yfr yti yfa yfb an un lc td mtn), ((md 34), .inl (cI, 300, .inl mtp))] H := hP
                        replace hD : va_D A [((md 31), .inl (cI, 36, .inl mli)), ((md 33), .inl (cI, 36, .inl (upd (upd mnlq v122.toNatClampNeg sk65) v124.toNatClampNeg jdays))), (moC md sd (0) mst hn cn pn mq gn mln hnn (0) mlt ln ycu ytk yfr yti yfa yfb an un lc td mtn), ((md 34), .inl (cI, 300, .inl mtp))] := hD
                        refine lv_aload_n hx hb dX11_duties_272 rfl (lv_at hl 0 rfl) ?_
                        refine va_get (D := D) (ci := 11) (v := .ref (md 33)) (C := RX11) (T := TX11) (N := 64) hx hb hts inX11_duties_X11 hown hK hP 2 rfl rfl 33 (by decide) (hts (Cond.fieldLink RX11 84 "PortRoomsModel" "newLine" "[I") (List.mem_cons_of_mem _ (List.mem_append_left _ (List.mem_append_left _ (List.mem_of_getElem? (i := 13) rfl))))) (fun _ h9 => h9) rfl dX11_duties_273 ?_
                        refine lv_iconst (v := 3) hx hb dX11_duties_276 (by decide) ?_
                        refine lv_aload_n hx hb dX11_duties_277 rfl (lv_at hl 0 rfl) ?_
                        refine va_get (D := D) (ci := 11) (v := .int hnn) (C := RX11) (T := TX11) (N := 64) hx hb hts inX11_duties_X11 hown hK hP 2 rfl rfl 32 (by decide) (hts (Cond.fieldLink RX11 287 "PortRoomsModel" "newLines" "I") (List.mem_cons_of_mem _ (List.mem_append_left _ (List.mem_append_left _ (List.mem_of_getElem? (i := 5) rfl))))) (fun _ h9 => h9) rfl dX11_duties_278 ?_
                        refine lv_imul hx hb dX11_duties_281 ?_
                        refine lv_topi (fun v125 ev125 => ?_)
                        try have tv125 : v125.toInt = 3 * hnn.toInt := by rw [ev125]; exact (i_mul (x := (3 : Int32)) (y := hnn) (by rw [k3]; omega) (by rw [k3]; omega)).trans (by rw [k3])
                        refine lv_iconst (v := 2) hx hb dX11_duties_282 (by decide) ?_
                        refine lv_iadd hx hb dX11_duties_283 ?_
                        refine lv_topi (fun v126 ev126 => ?_)
                        try have tv126 : v126.toInt = v125.toInt + 2 := by rw [ev126]; exact (i_add (x := v125) (y := (2 : Int32)) (by rw [k2]; omega) (by rw [k2]; omega)).trans (by rw [k2])
                        refine lv_iload hx hb dX11_duties_284 (lv_at hl 3 rfl) ?_
                        refine va_iast hx hb hK hP hD hS 1 0 rfl rfl (i_in (by omega) (by omega)) dX11_duties_286 (fun H locs => ?_)
                        clear hP hD hS
                        intro hP hD hS
                        replace hP : va_P D vwCl [((md 31), .inl (cI, 36, .inl mli)), ((md 33), .inl (cI, 36, .inl (upd (upd (upd mnlq v122.toNatClampNeg sk65) v124.toNatClampNeg jdays) v126.toNatClampNeg sk88))), (moC md sd (0) mst hn cn pn mq gn mln hnn (0) mlt ln ycu ytk yfr yti yfa yfb an un lc td mtn), ((md 34), .inl (cI, 300, .inl mtp))] H := hP
                        replace hD : va_D A [((md 31), .inl (cI, 36, .inl mli)), ((md 33), .inl (cI, 36, .inl (upd (upd (upd mnlq v122.toNatClampNeg sk65) v124.toNatClampNeg jdays) v126.toNatClampNeg sk88))), (moC md sd (0) mst hn cn pn mq gn mln hnn (0) mlt ln ycu ytk yfr yti yfa yfb an un lc td mtn), ((md 34), .inl (cI, 300, .inl mtp))] := hD
                        refine lv_aload_n hx hb dX11_duties_287 rfl (lv_at hl 0 rfl) ?_
                        refine lv_dup hx hb dX11_duties_288 rfl ?_
                        refine va_get (D := D) (ci := 11) (v := .int hnn) (C := RX11) (T := TX11) (N := 64) hx hb hts inX11_duties_X11 hown hK hP 2 rfl rfl 32 (by decide) (hts (Cond.fieldLink RX11 287 "PortRoomsModel" "newLines" "I") (List.mem_cons_of_mem _ (List.mem_append_left _ (List.mem_append_left _ (List.mem_of_getElem? (i := 5) rfl))))) (fun _ h9 => h9) rfl dX11_duties_289 ?_
                        refine lv_iconst (v := 1) hx hb dX11_duties_292 (by decide) ?_
                        refine lv_iadd hx hb dX11_duties_293 ?_
                        refine lv_topi (fun v127 ev127 => ?_)
                        try have tv127 : v127.toInt = hnn.toInt + 1 := by rw [ev127]; exact (i_add (x := hnn) (y := (1 : Int32)) (by rw [k1]; omega) (by rw [k1]; omega)).trans (by rw [k1])
                        refine va_put (D := D) (ci := 11) (v := .int v127) (ty := .int) (C := RX11) (T := TX11) (N := 64) hx hb hts inX11_duties_X11 tyX11 tyX11_ok nmX11 hown hK hP hD hS 2 rfl rfl 32 (by decide) (hts (Cond.fieldLink RX11 287 "PortRoomsModel" "newLines" "I") (List.mem_cons_of_mem _ (List.mem_append_left _ (List.mem_append_left _ (List.mem_of_getElem? (i := 5) rfl))))) (fun _ h9 => h9) rfl (tyX11_ok 32 (by decide)) rfl rfl (Nat.le_of_ble_eq_true rfl) dX11_duties_294 (fun H locs => ?_)
                        clear hP hD hS
                        intro hP hD hS
                        replace hP : va_P D vwCl [((md 31), .inl (cI, 36, .inl mli)), ((md 33), .inl (cI, 36, .inl (upd (upd (upd mnlq v122.toNatClampNeg sk65) v124.toNatClampNeg jdays) v126.toNatClampNeg sk88))), (moC md sd (0) mst hn cn pn mq gn mln v127 (0) mlt ln ycu ytk yfr yti yfa yfb an un lc td mtn), ((md 34), .inl (cI, 300, .inl mtp))] H := hP
                        replace hD : va_D A [((md 31), .inl (cI, 36, .inl mli)), ((md 33), .inl (cI, 36, .inl (upd (upd (upd mnlq v122.toNatClampNeg sk65) v124.toNatClampNeg jdays) v126.toNatClampNeg sk88))), (moC md sd (0) mst hn cn pn mq gn mln v127 (0) mlt ln ycu ytk yfr yti yfa yfb an un lc td mtn), ((md 34), .inl (cI, 300, .inl mtp))] := hD
                        refine lv_goto (tgt := 37) hx hb dX11_duties_297 (by decide) ?_
                        have clc128 := i_cl (x := hnn) (by omega)
                        have clc129 := i_cl (x := v127) (by omega)
                        have clc130 := i_cl (x := v122) (by omega)
                        have clc131 := i_cl (x := v124) (by omega)
                        have clc132 := i_cl (x := v126) (by omega)
                        have en9 : v127.toNatClampNeg = hnn.toNatClampNeg + 1 := by omega
                        exact ih17 (upd (upd (upd mnlq v122.toNatClampNeg sk65) v124.toNatClampNeg jdays) v126.toNatClampNeg sk88, ycu, ytk, yfr, yti, yfa, yfb, v127) ls H locs ⟨(by omega), (by omega), (by omega), (by omega), (by omega), (by omega), (by rw [en9]; exact duOk_s g14 (by omega) (by omega)), (by rw [en9]; exact mlQ_up g15 rfl (by omega) (by omega) (by omega) (by omega) (show _ = lnD mtp ln.toNatClampNeg (poL mtp ln.toNatClampNeg hnn.toNatClampNeg) by unfold lnD; omega) (show _ = lnP mtp ln.toNatClampNeg (poL mtp ln.toNatClampNeg hnn.toNatClampNeg) by unfold lnP; omega)), (by rw [en9, poL_s]; exact Or.inl ⟨by omega, by omega, by omega, by omega⟩), lv_sub hl [0] rfl, hP.sub [0, 1, 2, 3] rfl, hD.sub [0, 1, 2, 3] (by decide +kernel) rfl, hS⟩ (by show 13 - v127.toInt < _; omega)
                    · intro hj100
                      refine lv_aload_n hx hb dX11_duties_221 rfl (lv_at hl 1 rfl) ?_
                      refine va_get (D := D) (ci := 11) (v := .int pfa) (C := RX11) (T := TX11) (N := 64) hx hb hts inX11_duties_X11 hown hK hP 2 rfl rfl 42 (by decide) (hts (Cond.fieldLink RX11 271 "PortRoomsModel" "fault" "I") (List.mem_cons_of_mem _ (List.mem_append_left _ (List.mem_append_left _ (List.mem_of_getElem? (i := 4) rfl))))) (fun _ h9 => h9) rfl dX11_duties_222 ?_
                      refine lv_if_ne (tgt := 238) hx hb dX11_duties_225 (by decide) (fun c133 => ?_) (fun c133 => ?_)
                      · skip
                        have f134 := i_ne c133
                        exact hj100 (pcu, ptk, pfr, pti, pfa, pfb) ls _ _ ⟨(by omega), (by omega), (by omega), (by omega), (by omega), lv_sub hl [1, 2, 3, 0] rfl, hP.sub [0, 1, 2, 3] rfl, hD.sub [0, 1, 2, 3] (by decide +kernel) rfl, hS⟩
                      · skip
                        have f135 := i_eq c133
                        have hT4 : pfa.toInt = 0 ∧ pfr.toInt = (tS mtp ln.toNatClampNeg (tE mtp ln.toNatClampNeg (tE mtp ln.toNatClampNeg (acP mtp ln.toNatClampNeg (tE mtp ln.toNatClampNeg (poL mtp ln.toNatClampNeg hnn.toNatClampNeg))))) : Int) ∧ pcu.toInt = (tE mtp ln.toNatClampNeg (tE mtp ln.toNatClampNeg (tE mtp ln.toNatClampNeg (acP mtp ln.toNatClampNeg (tE mtp ln.toNatClampNeg (poL mtp ln.toNatClampNeg hnn.toNatClampNeg))))) : Int) ∧ ptk.toInt = mK mtp ln.toNatClampNeg (tE mtp ln.toNatClampNeg (tE mtp ln.toNatClampNeg (acP mtp ln.toNatClampNeg (tE mtp ln.toNatClampNeg (poL mtp ln.toNatClampNeg hnn.toNatClampNeg))))) ∧ hnn.toInt < 12 ∧ tK mtp ln.toNatClampNeg (poL mtp ln.toNatClampNeg hnn.toNatClampNeg) < 4 ∧ acR mtp ln.toNatClampNeg (tE mtp ln.toNatClampNeg (poL mtp ln.toNatClampNeg hnn.toNatClampNeg)) = 0 ∧ jdays.toInt = acD mtp ln.toNatClampNeg (tE mtp ln.toNatClampNeg (poL mtp ln.toNatClampNeg hnn.toNatClampNeg)) ∧ tK mtp ln.toNatClampNeg (acP mtp ln.toNatClampNeg (tE mtp ln.toNatClampNeg (poL mtp ln.toNatClampNeg hnn.toNatClampNeg))) = 4 ∧ tK mtp ln.toNatClampNeg (tE mtp ln.toNatClampNeg (acP mtp ln.toNatClampNeg (tE mtp ln.toNatClampNeg (poL mtp ln.toNatClampNeg hnn.toNatClampNeg)))) = 5 ∧ sk88.toInt = tN mtp ln.toNatClampNeg (tE mtp ln.toNatClampNeg (acP mtp ln.toNatClampNeg (tE mtp ln.toNatClampNeg (poL mtp ln.toNatClampNeg hnn.toNatClampNeg)))) ∧ tN mtp ln.toNatClampNeg (tE mtp ln.toNatClampNeg (acP mtp ln.toNatClampNeg (tE mtp ln.toNatClampNeg (poL mtp ln.toNatClampNeg hnn.toNatClampNeg)))) ≤ 100 := by rcases g93 with h9 | h9 <;> first | exact h9 | (exfalso; omega)
                        have hel9 := tE_le (T := mtp) (L := ln.toNatClampNeg) hpl9
                        have hal9 := acP_le (T := mtp) (L := ln.toNatClampNeg) (c := (tE mtp ln.toNatClampNeg (poL mtp ln.toNatClampNeg hnn.toNatClampNeg))) (by omega)
                        have heb9 := tE_le (T := mtp) (L := ln.toNatClampNeg) hal9
                        have hec9 := tE_le (T := mtp) (L := ln.toNatClampNeg) heb9.2.1
                        have hle4 : (tE mtp ln.toNatClampNeg (tE mtp ln.toNatClampNeg (acP mtp ln.toNatClampNeg (tE mtp ln.toNatClampNeg (poL mtp ln.toNatClampNeg hnn.toNatClampNeg))))) ≤ ln.toNatClampNeg := by omega
                        have hmk4 := mk_tk (T := mtp) (L := ln.toNatClampNeg) hle4
                        have hml4 := mk_lt (T := mtp) (L := ln.toNatClampNeg) hle4
                        have hkr4 := tK_rng (T := mtp) (L := ln.toNatClampNeg) hle4
                        have hel4 := tE_le (T := mtp) (L := ln.toNatClampNeg) hle4
                        refine lv_aload_n hx hb dX11_duties_228 rfl (lv_at hl 1 rfl) ?_
                        refine lv_aload_n hx hb dX11_duties_229 rfl (lv_at hl 1 rfl) ?_
                        refine lv_bipush (v := 59) hx hb dX11_duties_230 (by decide) ?_
                        refine st_i (wr := [((md 31), .inl (cI, 36, .inl mli)), ((md 33), .inl (cI, 36, .inl mnlq))]) (va_runV (C := RX11) (As := [.int 59]) (rest := [.ref (md 64)]) ⟨hx, hb, hml, hown, hts⟩ (ct_X11_is l D cI cY cJ cQ _ md sd 0 mst hn cn pn mq gn mln hnn 0 mlt ln pcu ptk pfr pti pfa pfb an un lc td mtn mtp (59 : Int32) (by omega) (by omega) (by omega)) (cwV 1 hts gX11_duties_X11_is rfl rfl rfl ⟨rfl, cdX11_is⟩ ⟨Nat.le_of_ble_eq_true rfl, Nat.le_of_ble_eq_true rfl⟩) (cPreV (hP.sub [2, 3] rfl) hK (hD.sub [2, 3] (by decide +kernel) rfl) hN (ci := 11) (q0 := 0) rfl rfl) rfl rfl hl.1 rfl (lv_room (Nat.le_of_ble_eq_true rfl)) dX11_duties_232 ⟨Nat.le_of_ble_eq_true rfl, Nat.le_of_ble_eq_true rfl⟩) hP hD hS hA [2, 3] [0, 1] rfl rfl (by decide +kernel) (by decide +kernel) (fun r138 u136 H locs hw137 => ?_)
                        clear hP hD hS
                        intro hP hD hS
                        replace hw137 : r138 = if ptk.toInt = 4 ∧ (mtp pfr.toNatClampNeg).toInt = (59 : Int32).toInt then 1 else 0 := hw137
                        replace hP : va_P D vwCl [((md 31), .inl (cI, 36, .inl mli)), ((md 33), .inl (cI, 36, .inl mnlq)), (moC md sd (0) mst hn cn pn mq gn mln hnn (0) mlt ln pcu ptk pfr pti pfa pfb an un lc td mtn), ((md 34), .inl (cI, 300, .inl mtp))] H := hP
                        replace hD : va_D A [((md 31), .inl (cI, 36, .inl mli)), ((md 33), .inl (cI, 36, .inl mnlq)), (moC md sd (0) mst hn cn pn mq gn mln hnn (0) mlt ln pcu ptk pfr pti pfa pfb an un lc td mtn), ((md 34), .inl (cI, 300, .inl mtp))] := hD
                        have clc139 := i_cl (x := pfr) (by omega)
                        have hiy9 : (mtp pfr.toNatClampNeg).toInt = (mtp (tS mtp ln.toNatClampNeg (tE mtp ln.toNatClampNeg (tE mtp ln.toNatClampNeg (acP mtp ln.toNatClampNeg (tE mtp ln.toNatClampNeg (poL mtp ln.toNatClampNeg hnn.toNatClampNeg))))))).toInt := by rw [show pfr.toNatClampNeg = tS mtp ln.toNatClampNeg (tE mtp ln.toNatClampNeg (tE mtp ln.toNatClampNeg (acP mtp ln.toNatClampNeg (tE mtp ln.toNatClampNeg (poL mtp ln.toNatClampNeg hnn.toNatClampNeg))))) by omega]
                        refine st_v (wr := [((md 31), .inl (cI, 36, .inl mli)), ((md 33), .inl (cI, 36, .inl mnlq))]) (va_runV (C := RX11) (As := [.int r138]) (rest := []) ⟨hx, hb, hml, hown, hts⟩ (ct_X11_need l D cI cY cJ cQ _ md sd 0 mst hn cn pn mq gn mln hnn 0 mlt ln pcu ptk pfr pti pfa pfb an un lc td mtn mtp r138 (by omega) (by omega) (by omega) (by omega) (by omega) (by omega) (by omega) (by assumption)) (cwV 1 hts gX11_duties_X11_need rfl rfl rfl ⟨rfl, cdX11_need⟩ ⟨Nat.le_of_ble_eq_true rfl, Nat.le_of_ble_eq_true rfl⟩) (cPreV (hP.sub [2, 3] rfl) hK (hD.sub [2, 3] (by decide +kernel) rfl) hN (ci := 11) (q0 := 0) rfl rfl) rfl rfl hl.1 rfl (lv_room (Nat.le_of_ble_eq_true rfl)) dX11_duties_235 ⟨Nat.le_of_ble_eq_true rfl, Nat.le_of_ble_eq_true rfl⟩) hP hD hS hA [2, 3] [0, 1] rfl rfl (by decide +kernel) (by decide +kernel) (fun u140 H locs hw141 => ?_)
                        clear hP hD hS
                        intro hP hD hS
                        obtain ⟨mcu_143, mtk_144, mfr_145, mti_146, mfa_147, mfb_148⟩ := u140
                        replace hw141 : 0 ≤ mfr_145.toInt ∧ mfr_145.toInt ≤ mcu_143.toInt ∧ mcu_143.toInt ≤ ln.toInt ∧ mti_146.toInt = mcu_143.toInt ∧ ((¬ pfa.toInt = 0 ∧ mfa_147.toInt = pfa.toInt ∧ mfb_148.toInt = pfb.toInt ∧ mfr_145.toInt = pfr.toInt ∧ mcu_143.toInt = pcu.toInt ∧ mtk_144.toInt = ptk.toInt) ∨ (pfa.toInt = 0 ∧ ¬ r138.toInt = 0 ∧ mfa_147.toInt = 0 ∧ mfr_145.toInt = (tS mtp ln.toNatClampNeg pcu.toNatClampNeg : Int) ∧ mcu_143.toInt = (tE mtp ln.toNatClampNeg pcu.toNatClampNeg : Int) ∧ mti_146.toInt = mcu_143.toInt ∧ mtk_144.toInt = mK mtp ln.toNatClampNeg pcu.toNatClampNeg) ∨ (pfa.toInt = 0 ∧ r138.toInt = 0 ∧ mfa_147.toInt = 1 ∧ mfb_148.toInt = pfr.toInt ∧ mfr_145.toInt = pfr.toInt ∧ mcu_143.toInt = pcu.toInt ∧ mtk_144.toInt = ptk.toInt)) := hw141
                        replace hP : va_P D vwCl [((md 31), .inl (cI, 36, .inl mli)), ((md 33), .inl (cI, 36, .inl mnlq)), (moC md sd (0) mst hn cn pn mq gn mln hnn (0) mlt ln mcu_143 mtk_144 mfr_145 mti_146 mfa_147 mfb_148 an un lc td mtn), ((md 34), .inl (cI, 300, .inl mtp))] H := hP
                        replace hD : va_D A [((md 31), .inl (cI, 36, .inl mli)), ((md 33), .inl (cI, 36, .inl mnlq)), (moC md sd (0) mst hn cn pn mq gn mln hnn (0) mlt ln mcu_143 mtk_144 mfr_145 mti_146 mfa_147 mfb_148 an un lc td mtn), ((md 34), .inl (cI, 300, .inl mtp))] := hD
                        have cphw141 := i_cl (x := pcu) (by omega)
                        have ephw141 : pcu.toNatClampNeg = tE mtp ln.toNatClampNeg (tE mtp ln.toNatClampNeg (tE mtp ln.toNatClampNeg (acP mtp ln.toNatClampNeg (tE mtp ln.toNatClampNeg (poL mtp ln.toNatClampNeg hnn.toNatClampNeg))))) := by omega
                        rw [ephw141] at hw141
                        have clc149 := i_cl (x := hnn) (by omega)
                        obtain ⟨hb2a, hb2b, hb2c⟩ := du_b2 (T := mtp) (L := ln.toNatClampNeg) (n := hnn.toNatClampNeg) (by omega) (by omega) (by omega) (by omega)
                        have hpc9 : ¬ tK mtp ln.toNatClampNeg (tE mtp ln.toNatClampNeg (tE mtp ln.toNatClampNeg (acP mtp ln.toNatClampNeg (tE mtp ln.toNatClampNeg (poL mtp ln.toNatClampNeg hnn.toNatClampNeg))))) = 6 → paR mtp ln.toNatClampNeg (tE mtp ln.toNatClampNeg (acP mtp ln.toNatClampNeg (tE mtp ln.toNatClampNeg (poL mtp ln.toNatClampNeg hnn.toNatClampNeg)))) = 1 ∧ tS mtp ln.toNatClampNeg (lnN mtp ln.toNatClampNeg (poL mtp ln.toNatClampNeg hnn.toNatClampNeg)) = tS mtp ln.toNatClampNeg (tE mtp ln.toNatClampNeg (tE mtp ln.toNatClampNeg (acP mtp ln.toNatClampNeg (tE mtp ln.toNatClampNeg (poL mtp ln.toNatClampNeg hnn.toNatClampNeg))))) := fun h => ⟨by unfold paR; rw [if_neg (by omega), if_neg (by omega), if_pos h], by unfold lnN paP; rw [if_neg (by omega), if_neg (by omega), if_pos h]⟩
                        have hpd9 : tK mtp ln.toNatClampNeg (tE mtp ln.toNatClampNeg (tE mtp ln.toNatClampNeg (acP mtp ln.toNatClampNeg (tE mtp ln.toNatClampNeg (poL mtp ln.toNatClampNeg hnn.toNatClampNeg))))) = 6 → paR mtp ln.toNatClampNeg (tE mtp ln.toNatClampNeg (acP mtp ln.toNatClampNeg (tE mtp ln.toNatClampNeg (poL mtp ln.toNatClampNeg hnn.toNatClampNeg)))) = 0 ∧ tS mtp ln.toNatClampNeg (lnN mtp ln.toNatClampNeg (poL mtp ln.toNatClampNeg hnn.toNatClampNeg)) = tS mtp ln.toNatClampNeg (tE mtp ln.toNatClampNeg (tE mtp ln.toNatClampNeg (tE mtp ln.toNatClampNeg (acP mtp ln.toNatClampNeg (tE mtp ln.toNatClampNeg (poL mtp ln.toNatClampNeg hnn.toNatClampNeg)))))) ∧ tE mtp ln.toNatClampNeg (lnN mtp ln.toNatClampNeg (poL mtp ln.toNatClampNeg hnn.toNatClampNeg)) = tE mtp ln.toNatClampNeg (tE mtp ln.toNatClampNeg (tE mtp ln.toNatClampNeg (tE mtp ln.toNatClampNeg (acP mtp ln.toNatClampNeg (tE mtp ln.toNatClampNeg (poL mtp ln.toNatClampNeg hnn.toNatClampNeg)))))) ∧ mK mtp ln.toNatClampNeg (lnN mtp ln.toNatClampNeg (poL mtp ln.toNatClampNeg hnn.toNatClampNeg)) = mK mtp ln.toNatClampNeg (tE mtp ln.toNatClampNeg (tE mtp ln.toNatClampNeg (tE mtp ln.toNatClampNeg (acP mtp ln.toNatClampNeg (tE mtp ln.toNatClampNeg (poL mtp ln.toNatClampNeg hnn.toNatClampNeg)))))) := fun h => by have el : lnN mtp ln.toNatClampNeg (poL mtp ln.toNatClampNeg hnn.toNatClampNeg) = tE mtp ln.toNatClampNeg (tE mtp ln.toNatClampNeg (tE mtp ln.toNatClampNeg (acP mtp ln.toNatClampNeg (tE mtp ln.toNatClampNeg (poL mtp ln.toNatClampNeg hnn.toNatClampNeg))))) := (by unfold lnN paP; rw [if_neg (by omega), if_neg (by omega), if_neg (by omega)]); rw [el]; exact ⟨by unfold paR; rw [if_neg (by omega), if_neg (by omega), if_neg (by omega)], rfl, rfl, rfl⟩
                        exact hj100 (mcu_143, mtk_144, mfr_145, mti_146, mfa_147, mfb_148) ls _ _ ⟨(by omega), (by omega), (by omega), (by omega), (by omega), lv_sub hl [1, 2, 3, 0] rfl, hP.sub [0, 1, 2, 3] rfl, hD.sub [0, 1, 2, 3] (by decide +kernel) rfl, hS⟩
                  · intro hj94
                    refine lv_aload_n hx hb dX11_duties_202 rfl (lv_at hl 0 rfl) ?_
                    refine va_get (D := D) (ci := 11) (v := .int ofa) (C := RX11) (T := TX11) (N := 64) hx hb hts inX11_duties_X11 hown hK hP 2 rfl rfl 42 (by decide) (hts (Cond.fieldLink RX11 271 "PortRoomsModel" "fault" "I") (List.mem_cons_of_mem _ (List.mem_append_left _ (List.mem_append_left _ (List.mem_of_getElem? (i := 4) rfl))))) (fun _ h9 => h9) rfl dX11_duties_203 ?_
                    refine lv_if_ne (tgt := 218) hx hb dX11_duties_206 (by decide) (fun c150 => ?_) (fun c150 => ?_)
                    · skip
                      have f151 := i_ne c150
                      refine lv_iconst (v := 0) hx hb dX11_duties_218 (by decide) ?_
                      exact hj94 (ocu, otk, ofr, oti, ofa, ofb, (0 : Int32)) ls _ _ ⟨(by omega), (by omega), (by omega), (by omega), (by omega), lv_sub hl [0, 1, 2] rfl, hP.sub [0, 1, 2, 3] rfl, hD.sub [0, 1, 2, 3] (by decide +kernel) rfl, hS⟩
                    · skip
                      have f152 := i_eq c150
                      have hT3 : ofa.toInt = 0 ∧ ofr.toInt = (tS mtp ln.toNatClampNeg (tE mtp ln.toNatClampNeg (acP mtp ln.toNatClampNeg (tE mtp ln.toNatClampNeg (poL mtp ln.toNatClampNeg hnn.toNatClampNeg)))) : Int) ∧ ocu.toInt = (tE mtp ln.toNatClampNeg (tE mtp ln.toNatClampNeg (acP mtp ln.toNatClampNeg (tE mtp ln.toNatClampNeg (poL mtp ln.toNatClampNeg hnn.toNatClampNeg)))) : Int) ∧ otk.toInt = mK mtp ln.toNatClampNeg (tE mtp ln.toNatClampNeg (acP mtp ln.toNatClampNeg (tE mtp ln.toNatClampNeg (poL mtp ln.toNatClampNeg hnn.toNatClampNeg)))) ∧ hnn.toInt < 12 ∧ tK mtp ln.toNatClampNeg (poL mtp ln.toNatClampNeg hnn.toNatClampNeg) < 4 ∧ acR mtp ln.toNatClampNeg (tE mtp ln.toNatClampNeg (poL mtp ln.toNatClampNeg hnn.toNatClampNeg)) = 0 ∧ jdays.toInt = acD mtp ln.toNatClampNeg (tE mtp ln.toNatClampNeg (poL mtp ln.toNatClampNeg hnn.toNatClampNeg)) ∧ tK mtp ln.toNatClampNeg (acP mtp ln.toNatClampNeg (tE mtp ln.toNatClampNeg (poL mtp ln.toNatClampNeg hnn.toNatClampNeg))) = 4 := by rcases g86 with h9 | h9 <;> first | exact h9 | (exfalso; omega)
                      have hel9 := tE_le (T := mtp) (L := ln.toNatClampNeg) hpl9
                      have hal9 := acP_le (T := mtp) (L := ln.toNatClampNeg) (c := (tE mtp ln.toNatClampNeg (poL mtp ln.toNatClampNeg hnn.toNatClampNeg))) (by omega)
                      have heb9 := tE_le (T := mtp) (L := ln.toNatClampNeg) hal9
                      have hle3 : (tE mtp ln.toNatClampNeg (acP mtp ln.toNatClampNeg (tE mtp ln.toNatClampNeg (poL mtp ln.toNatClampNeg hnn.toNatClampNeg)))) ≤ ln.toNatClampNeg := by omega
                      have hmk3 := mk_tk (T := mtp) (L := ln.toNatClampNeg) hle3
                      have hml3 := mk_lt (T := mtp) (L := ln.toNatClampNeg) hle3
                      have hkr3 := tK_rng (T := mtp) (L := ln.toNatClampNeg) hle3
                      have hel3 := tE_le (T := mtp) (L := ln.toNatClampNeg) hle3
                      refine lv_aload_n hx hb dX11_duties_209 rfl (lv_at hl 0 rfl) ?_
                      refine lv_bipush (v := 100) hx hb dX11_duties_210 (by decide) ?_
                      refine st_i (wr := [((md 31), .inl (cI, 36, .inl mli)), ((md 33), .inl (cI, 36, .inl mnlq))]) (va_runV (C := RX11) (As := [.int 100]) (rest := []) ⟨hx, hb, hml, hown, hts⟩ (ct_X11_numberUpTo l D cI cY cJ cQ _ md sd 0 mst hn cn pn mq gn mln hnn 0 mlt ln ocu otk ofr oti ofa ofb an un lc td mtn mtp (100 : Int32) (by omega) (by omega) (by omega) (by omega) (by omega) (by omega) (by omega) (by assumption) (by omega) (by omega)) (cwV 1 hts gX11_duties_X11_numberUpTo rfl rfl rfl ⟨rfl, cdX11_numberUpTo⟩ ⟨Nat.le_of_ble_eq_true rfl, Nat.le_of_ble_eq_true rfl⟩) (cPreV (hP.sub [2, 3] rfl) hK (hD.sub [2, 3] (by decide +kernel) rfl) hN (ci := 11) (q0 := 0) rfl rfl) rfl rfl hl.1 rfl (lv_room (Nat.le_of_ble_eq_true rfl)) dX11_duties_212 ⟨Nat.le_of_ble_eq_true rfl, Nat.le_of_ble_eq_true rfl⟩) hP hD hS hA [2, 3] [0, 1] rfl rfl (by decide +kernel) (by decide +kernel) (fun r155 u153 H locs hw154 => ?_)
                      clear hP hD hS
                      intro hP hD hS
                      obtain ⟨mcu_156, mtk_157, mfr_158, mti_159, mfa_160, mfb_161⟩ := u153
                      replace hw154 : 0 ≤ mfr_158.toInt ∧ mfr_158.toInt ≤ mcu_156.toInt ∧ mcu_156.toInt ≤ ln.toInt ∧ mti_159.toInt = mcu_156.toInt ∧ ((otk.toInt = 3 ∧ nmV mtp ofr.toNatClampNeg (oti.toNatClampNeg - ofr.toNatClampNeg) ≤ (100 : Int32).toInt ∧ r155.toInt = nmV mtp ofr.toNatClampNeg (oti.toNatClampNeg - ofr.toNatClampNeg) ∧ mfa_160.toInt = 0 ∧ mfr_158.toInt = (tS mtp ln.toNatClampNeg ocu.toNatClampNeg : Int) ∧ mcu_156.toInt = (tE mtp ln.toNatClampNeg ocu.toNatClampNeg : Int) ∧ mti_159.toInt = mcu_156.toInt ∧ mtk_157.toInt = mK mtp ln.toNatClampNeg ocu.toNatClampNeg) ∨ (otk.toInt = 3 ∧ (100 : Int32).toInt < nmV mtp ofr.toNatClampNeg (oti.toNatClampNeg - ofr.toNatClampNeg) ∧ mfa_160.toInt = 2 ∧ mfb_161.toInt = ofr.toInt) ∨ (¬ otk.toInt = 3 ∧ mfa_160.toInt = 1 ∧ mfb_161.toInt = ofr.toInt)) := hw154
                      replace hP : va_P D vwCl [((md 31), .inl (cI, 36, .inl mli)), ((md 33), .inl (cI, 36, .inl mnlq)), (moC md sd (0) mst hn cn pn mq gn mln hnn (0) mlt ln mcu_156 mtk_157 mfr_158 mti_159 mfa_160 mfb_161 an un lc td mtn), ((md 34), .inl (cI, 300, .inl mtp))] H := hP
                      replace hD : va_D A [((md 31), .inl (cI, 36, .inl mli)), ((md 33), .inl (cI, 36, .inl mnlq)), (moC md sd (0) mst hn cn pn mq gn mln hnn (0) mlt ln mcu_156 mtk_157 mfr_158 mti_159 mfa_160 mfb_161 an un lc td mtn), ((md 34), .inl (cI, 300, .inl mtp))] := hD
                      have clc162 := i_cl (x := ofr) (by omega)
                      have clc163 := i_cl (x := oti) (by omega)
                      have cphw154 := i_cl (x := ocu) (by omega)
                      have ephw154 : ocu.toNatClampNeg = tE mtp ln.toNatClampNeg (tE mtp ln.toNatClampNeg (acP mtp ln.toNatClampNeg (tE mtp ln.toNatClampNeg (poL mtp ln.toNatClampNeg hnn.toNatClampNeg)))) := by omega
                      have enhw154 : nmV mtp ofr.toNatClampNeg (oti.toNatClampNeg - ofr.toNatClampNeg) = tN mtp ln.toNatClampNeg (tE mtp ln.toNatClampNeg (acP mtp ln.toNatClampNeg (tE mtp ln.toNatClampNeg (poL mtp ln.toNatClampNeg hnn.toNatClampNeg)))) := by unfold tN; rw [show ofr.toNatClampNeg = tS mtp ln.toNatClampNeg (tE mtp ln.toNatClampNeg (acP mtp ln.toNatClampNeg (tE mtp ln.toNatClampNeg (poL mtp ln.toNatClampNeg hnn.toNatClampNeg)))) by omega, show oti.toNatClampNeg = tE mtp ln.toNatClampNeg (tE mtp ln.toNatClampNeg (acP mtp ln.toNatClampNeg (tE mtp ln.toNatClampNeg (poL mtp ln.toNatClampNeg hnn.toNatClampNeg)))) by omega]
                      rw [ephw154, enhw154] at hw154
                      have clc164 := i_cl (x := hnn) (by omega)
                      obtain ⟨hb2a, hb2b, hb2c⟩ := du_b2 (T := mtp) (L := ln.toNatClampNeg) (n := hnn.toNatClampNeg) (by omega) (by omega) (by omega) (by omega)
                      have hpa9 : ¬ tK mtp ln.toNatClampNeg (tE mtp ln.toNatClampNeg (acP mtp ln.toNatClampNeg (tE mtp ln.toNatClampNeg (poL mtp ln.toNatClampNeg hnn.toNatClampNeg)))) = 5 → paR mtp ln.toNatClampNeg (tE mtp ln.toNatClampNeg (acP mtp ln.toNatClampNeg (tE mtp ln.toNatClampNeg (poL mtp ln.toNatClampNeg hnn.toNatClampNeg)))) = 1 ∧ tS mtp ln.toNatClampNeg (lnN mtp ln.toNatClampNeg (poL mtp ln.toNatClampNeg hnn.toNatClampNeg)) = tS mtp ln.toNatClampNeg (tE mtp ln.toNatClampNeg (acP mtp ln.toNatClampNeg (tE mtp ln.toNatClampNeg (poL mtp ln.toNatClampNeg hnn.toNatClampNeg)))) := fun h => ⟨by unfold paR; rw [if_pos h], by unfold lnN paP; rw [if_pos h]⟩
                      have hpb9 : tK mtp ln.toNatClampNeg (tE mtp ln.toNatClampNeg (acP mtp ln.toNatClampNeg (tE mtp ln.toNatClampNeg (poL mtp ln.toNatClampNeg hnn.toNatClampNeg)))) = 5 → 100 < tN mtp ln.toNatClampNeg (tE mtp ln.toNatClampNeg (acP mtp ln.toNatClampNeg (tE mtp ln.toNatClampNeg (poL mtp ln.toNatClampNeg hnn.toNatClampNeg)))) → paR mtp ln.toNatClampNeg (tE mtp ln.toNatClampNeg (acP mtp ln.toNatClampNeg (tE mtp ln.toNatClampNeg (poL mtp ln.toNatClampNeg hnn.toNatClampNeg)))) = 2 ∧ tS mtp ln.toNatClampNeg (lnN mtp ln.toNatClampNeg (poL mtp ln.toNatClampNeg hnn.toNatClampNeg)) = tS mtp ln.toNatClampNeg (tE mtp ln.toNatClampNeg (acP mtp ln.toNatClampNeg (tE mtp ln.toNatClampNeg (poL mtp ln.toNatClampNeg hnn.toNatClampNeg)))) := fun h h2 => ⟨by unfold paR; rw [if_neg (by omega), if_pos h2], by unfold lnN paP; rw [if_neg (by omega), if_pos h2]⟩
                      refine lv_goto (tgt := 219) hx hb dX11_duties_215 (by decide) ?_
                      exact hj94 (mcu_156, mtk_157, mfr_158, mti_159, mfa_160, mfb_161, r155) ls _ _ ⟨(by omega), (by omega), (by omega), (by omega), (by omega), lv_sub hl [0, 1, 2] rfl, hP.sub [0, 1, 2, 3] rfl, hD.sub [0, 1, 2, 3] (by decide +kernel) rfl, hS⟩
                · intro hj87
                  refine lv_aload_n hx hb dX11_duties_175 rfl (lv_at hl 0 rfl) ?_
                  refine va_get (D := D) (ci := 11) (v := .int lfa) (C := RX11) (T := TX11) (N := 64) hx hb hts inX11_duties_X11 hown hK hP 2 rfl rfl 42 (by decide) (hts (Cond.fieldLink RX11 271 "PortRoomsModel" "fault" "I") (List.mem_cons_of_mem _ (List.mem_append_left _ (List.mem_append_left _ (List.mem_of_getElem? (i := 4) rfl))))) (fun _ h9 => h9) rfl dX11_duties_176 ?_
                  refine lv_if_ne (tgt := 202) hx hb dX11_duties_179 (by decide) (fun c165 => ?_) (fun c165 => ?_)
                  · skip
                    have f166 := i_ne c165
                    exact hj87 (lcu, ltk, lfr, lti, lfa, lfb) ls _ _ ⟨(by omega), (by omega), (by omega), (by omega), (by omega), lv_sub hl [0, 1, 2] rfl, hP.sub [0, 1, 2, 3] rfl, hD.sub [0, 1, 2, 3] (by decide +kernel) rfl, hS⟩
                  · skip
                    have f167 := i_eq c165
                    have hT2 : lfa.toInt = 0 ∧ lfr.toInt = (tS mtp ln.toNatClampNeg (acP mtp ln.toNatClampNeg (tE mtp ln.toNatClampNeg (poL mtp ln.toNatClampNeg hnn.toNatClampNeg))) : Int) ∧ lcu.toInt = (tE mtp ln.toNatClampNeg (acP mtp ln.toNatClampNeg (tE mtp ln.toNatClampNeg (poL mtp ln.toNatClampNeg hnn.toNatClampNeg))) : Int) ∧ ltk.toInt = mK mtp ln.toNatClampNeg (acP mtp ln.toNatClampNeg (tE mtp ln.toNatClampNeg (poL mtp ln.toNatClampNeg hnn.toNatClampNeg))) ∧ hnn.toInt < 12 ∧ tK mtp ln.toNatClampNeg (poL mtp ln.toNatClampNeg hnn.toNatClampNeg) < 4 ∧ acR mtp ln.toNatClampNeg (tE mtp ln.toNatClampNeg (poL mtp ln.toNatClampNeg hnn.toNatClampNeg)) = 0 ∧ jdays.toInt = acD mtp ln.toNatClampNeg (tE mtp ln.toNatClampNeg (poL mtp ln.toNatClampNeg hnn.toNatClampNeg)) := by rcases g80 with h9 | h9 <;> first | exact h9 | (exfalso; omega)
                    have hel9 := tE_le (T := mtp) (L := ln.toNatClampNeg) hpl9
                    have hal9 := acP_le (T := mtp) (L := ln.toNatClampNeg) (c := (tE mtp ln.toNatClampNeg (poL mtp ln.toNatClampNeg hnn.toNatClampNeg))) (by omega)
                    have hle2 : (acP mtp ln.toNatClampNeg (tE mtp ln.toNatClampNeg (poL mtp ln.toNatClampNeg hnn.toNatClampNeg))) ≤ ln.toNatClampNeg := by omega
                    have hmk2 := mk_tk (T := mtp) (L := ln.toNatClampNeg) hle2
                    have hml2 := mk_lt (T := mtp) (L := ln.toNatClampNeg) hle2
                    have hkr2 := tK_rng (T := mtp) (L := ln.toNatClampNeg) hle2
                    have hel2 := tE_le (T := mtp) (L := ln.toNatClampNeg) hle2
                    refine lv_aload_n hx hb dX11_duties_182 rfl (lv_at hl 0 rfl) ?_
                    refine lv_aload_n hx hb dX11_duties_183 rfl (lv_at hl 0 rfl) ?_
                    refine st_l (wr := [((md 31), .inl (cI, 36, .inl mli)), ((md 33), .inl (cI, 36, .inl mnlq))]) (va_runV (C := RX11) (As := []) (rest := [.ref (md 64)]) ⟨hx, hb, hml, hown, hts⟩ (ct_X11_word l D cI cY cJ cQ _ md sd 0 mst hn cn pn mq gn mln hnn 0 mlt ln lcu ltk lfr lti lfa lfb an un lc td mtn mtp (by omega) (by omega) (by omega) (by omega) (by assumption) (by omega)) (cwV 0 hts gX11_duties_X11_word rfl rfl rfl ⟨rfl, cdX11_word⟩ ⟨Nat.le_of_ble_eq_true rfl, Nat.le_of_ble_eq_true rfl⟩) (cPreV (hP.sub [2, 3] rfl) hK (hD.sub [2, 3] (by decide +kernel) rfl) hN (ci := 11) (q0 := 0) rfl rfl) rfl rfl hl.1 rfl (lv_room (Nat.le_of_ble_eq_true rfl)) dX11_duties_184 ⟨Nat.le_of_ble_eq_true rfl, Nat.le_of_ble_eq_true rfl⟩) hP hD hS hA [2, 3] [0, 1] rfl rfl (by decide +kernel) (by decide +kernel) (fun r170 u168 H locs hw169 => ?_)
                    clear hP hD hS
                    intro hP hD hS
                    replace hw169 : r170.toInt = (if ltk.toInt = 2 then wvV mtp lfr.toNatClampNeg (lti.toNatClampNeg - lfr.toNatClampNeg) else 0) := hw169
                    replace hP : va_P D vwCl [((md 31), .inl (cI, 36, .inl mli)), ((md 33), .inl (cI, 36, .inl mnlq)), (moC md sd (0) mst hn cn pn mq gn mln hnn (0) mlt ln lcu ltk lfr lti lfa lfb an un lc td mtn), ((md 34), .inl (cI, 300, .inl mtp))] H := hP
                    replace hD : va_D A [((md 31), .inl (cI, 36, .inl mli)), ((md 33), .inl (cI, 36, .inl mnlq)), (moC md sd (0) mst hn cn pn mq gn mln hnn (0) mlt ln lcu ltk lfr lti lfa lfb an un lc td mtn), ((md 34), .inl (cI, 300, .inl mtp))] := hD
                    have clc171 := i_cl (x := lfr) (by omega)
                    have clc172 := i_cl (x := lti) (by omega)
                    have hwc2 := wd_tk (z := r170.toInt) hle2 (by rw [hw169, show ltk.toInt = mK mtp ln.toNatClampNeg (acP mtp ln.toNatClampNeg (tE mtp ln.toNatClampNeg (poL mtp ln.toNatClampNeg hnn.toNatClampNeg))) by omega, show lfr.toNatClampNeg = tS mtp ln.toNatClampNeg (acP mtp ln.toNatClampNeg (tE mtp ln.toNatClampNeg (poL mtp ln.toNatClampNeg hnn.toNatClampNeg))) by omega, show lti.toNatClampNeg = tE mtp ln.toNatClampNeg (acP mtp ln.toNatClampNeg (tE mtp ln.toNatClampNeg (poL mtp ln.toNatClampNeg hnn.toNatClampNeg))) by omega])
                    refine lv_ldc2 hx hb hown (hts (Cond.constantLong RX11 308 (1885434484)) (List.mem_cons_of_mem _ (List.mem_append_left _ (List.mem_append_left _ (List.mem_of_getElem? (i := 12) rfl))))) dX11_duties_187 ?_
                    refine W.lcmp hx hb dX11_duties_190 ?_
                    refine lv_topi (fun v173 ev173 => ?_)
                    refine lv_if_ne (tgt := 198) hx hb dX11_duties_191 (by decide) (fun c174 => ?_) (fun c174 => ?_)
                    · skip
                      have f175 := lc_ne ev173 c174
                      refine lv_iconst (v := 0) hx hb dX11_duties_198 (by decide) ?_
                      refine st_v (wr := [((md 31), .inl (cI, 36, .inl mli)), ((md 33), .inl (cI, 36, .inl mnlq))]) (va_runV (C := RX11) (As := [.int 0]) (rest := []) ⟨hx, hb, hml, hown, hts⟩ (ct_X11_need l D cI cY cJ cQ _ md sd 0 mst hn cn pn mq gn mln hnn 0 mlt ln lcu ltk lfr lti lfa lfb an un lc td mtn mtp (0 : Int32) (by omega) (by omega) (by omega) (by omega) (by omega) (by omega) (by omega) (by assumption)) (cwV 1 hts gX11_duties_X11_need rfl rfl rfl ⟨rfl, cdX11_need⟩ ⟨Nat.le_of_ble_eq_true rfl, Nat.le_of_ble_eq_true rfl⟩) (cPreV (hP.sub [2, 3] rfl) hK (hD.sub [2, 3] (by decide +kernel) rfl) hN (ci := 11) (q0 := 0) rfl rfl) rfl rfl hl.1 rfl (lv_room (Nat.le_of_ble_eq_true rfl)) dX11_duties_199 ⟨Nat.le_of_ble_eq_true rfl, Nat.le_of_ble_eq_true rfl⟩) hP hD hS hA [2, 3] [0, 1] rfl rfl (by decide +kernel) (by decide +kernel) (fun u176 H locs hw177 => ?_)
                      clear hP hD hS
                      intro hP hD hS
                      obtain ⟨mcu_179, mtk_180, mfr_181, mti_182, mfa_183, mfb_184⟩ := u176
                      replace hw177 : 0 ≤ mfr_181.toInt ∧ mfr_181.toInt ≤ mcu_179.toInt ∧ mcu_179.toInt ≤ ln.toInt ∧ mti_182.toInt = mcu_179.toInt ∧ ((¬ lfa.toInt = 0 ∧ mfa_183.toInt = lfa.toInt ∧ mfb_184.toInt = lfb.toInt ∧ mfr_181.toInt = lfr.toInt ∧ mcu_179.toInt = lcu.toInt ∧ mtk_180.toInt = ltk.toInt) ∨ (lfa.toInt = 0 ∧ ¬ (0 : Int32).toInt = 0 ∧ mfa_183.toInt = 0 ∧ mfr_181.toInt = (tS mtp ln.toNatClampNeg lcu.toNatClampNeg : Int) ∧ mcu_179.toInt = (tE mtp ln.toNatClampNeg lcu.toNatClampNeg : Int) ∧ mti_182.toInt = mcu_179.toInt ∧ mtk_180.toInt = mK mtp ln.toNatClampNeg lcu.toNatClampNeg) ∨ (lfa.toInt = 0 ∧ (0 : Int32).toInt = 0 ∧ mfa_183.toInt = 1 ∧ mfb_184.toInt = lfr.toInt ∧ mfr_181.toInt = lfr.toInt ∧ mcu_179.toInt = lcu.toInt ∧ mtk_180.toInt = ltk.toInt)) := hw177
                      replace hP : va_P D vwCl [((md 31), .inl (cI, 36, .inl mli)), ((md 33), .inl (cI, 36, .inl mnlq)), (moC md sd (0) mst hn cn pn mq gn mln hnn (0) mlt ln mcu_179 mtk_180 mfr_181 mti_182 mfa_183 mfb_184 an un lc td mtn), ((md 34), .inl (cI, 300, .inl mtp))] H := hP
                      replace hD : va_D A [((md 31), .inl (cI, 36, .inl mli)), ((md 33), .inl (cI, 36, .inl mnlq)), (moC md sd (0) mst hn cn pn mq gn mln hnn (0) mlt ln mcu_179 mtk_180 mfr_181 mti_182 mfa_183 mfb_184 an un lc td mtn), ((md 34), .inl (cI, 300, .inl mtp))] := hD
                      have cphw177 := i_cl (x := lcu) (by omega)
                      have ephw177 : lcu.toNatClampNeg = tE mtp ln.toNatClampNeg (acP mtp ln.toNatClampNeg (tE mtp ln.toNatClampNeg (poL mtp ln.toNatClampNeg hnn.toNatClampNeg))) := by omega
                      rw [ephw177] at hw177
                      have clc185 := i_cl (x := hnn) (by omega)
                      have hb19 : ¬ tK mtp ln.toNatClampNeg (acP mtp ln.toNatClampNeg (tE mtp ln.toNatClampNeg (poL mtp ln.toNatClampNeg hnn.toNatClampNeg))) = 4 → dcF mtp ln.toNatClampNeg hnn.toNatClampNeg = 1 ∧ dpF mtp ln.toNatClampNeg hnn.toNatClampNeg = tS mtp ln.toNatClampNeg (acP mtp ln.toNatClampNeg (tE mtp ln.toNatClampNeg (poL mtp ln.toNatClampNeg hnn.toNatClampNeg))) := fun h => du_b1 (by omega) (by omega) (by omega) h
                      exact hj87 (mcu_179, mtk_180, mfr_181, mti_182, mfa_183, mfb_184) ls _ _ ⟨(by omega), (by omega), (by omega), (by omega), (by omega), lv_sub hl [0, 1, 2] rfl, hP.sub [0, 1, 2, 3] rfl, hD.sub [0, 1, 2, 3] (by decide +kernel) rfl, hS⟩
                    · skip
                      have f186 := lc_eq ev173 c174
                      refine lv_iconst (v := 1) hx hb dX11_duties_194 (by decide) ?_
                      refine lv_goto (tgt := 199) hx hb dX11_duties_195 (by decide) ?_
                      refine st_v (wr := [((md 31), .inl (cI, 36, .inl mli)), ((md 33), .inl (cI, 36, .inl mnlq))]) (va_runV (C := RX11) (As := [.int 1]) (rest := []) ⟨hx, hb, hml, hown, hts⟩ (ct_X11_need l D cI cY cJ cQ _ md sd 0 mst hn cn pn mq gn mln hnn 0 mlt ln lcu ltk lfr lti lfa lfb an un lc td mtn mtp (1 : Int32) (by omega) (by omega) (by omega) (by omega) (by omega) (by omega) (by omega) (by assumption)) (cwV 1 hts gX11_duties_X11_need rfl rfl rfl ⟨rfl, cdX11_need⟩ ⟨Nat.le_of_ble_eq_true rfl, Nat.le_of_ble_eq_true rfl⟩) (cPreV (hP.sub [2, 3] rfl) hK (hD.sub [2, 3] (by decide +kernel) rfl) hN (ci := 11) (q0 := 0) rfl rfl) rfl rfl hl.1 rfl (lv_room (Nat.le_of_ble_eq_true rfl)) dX11_duties_199 ⟨Nat.le_of_ble_eq_true rfl, Nat.le_of_ble_eq_true rfl⟩) hP hD hS hA [2, 3] [0, 1] rfl rfl (by decide +kernel) (by decide +kernel) (fun u187 H locs hw188 => ?_)
                      clear hP hD hS
                      intro hP hD hS
                      obtain ⟨mcu_190, mtk_191, mfr_192, mti_193, mfa_194, mfb_195⟩ := u187
                      replace hw188 : 0 ≤ mfr_192.toInt ∧ mfr_192.toInt ≤ mcu_190.toInt ∧ mcu_190.toInt ≤ ln.toInt ∧ mti_193.toInt = mcu_190.toInt ∧ ((¬ lfa.toInt = 0 ∧ mfa_194.toInt = lfa.toInt ∧ mfb_195.toInt = lfb.toInt ∧ mfr_192.toInt = lfr.toInt ∧ mcu_190.toInt = lcu.toInt ∧ mtk_191.toInt = ltk.toInt) ∨ (lfa.toInt = 0 ∧ ¬ (1 : Int32).toInt = 0 ∧ mfa_194.toInt = 0 ∧ mfr_192.toInt = (tS mtp ln.toNatClampNeg lcu.toNatClampNeg : Int) ∧ mcu_190.toInt = (tE mtp ln.toNatClampNeg lcu.toNatClampNeg : Int) ∧ mti_193.toInt = mcu_190.toInt ∧ mtk_191.toInt = mK mtp ln.toNatClampNeg lcu.toNatClampNeg) ∨ (lfa.toInt = 0 ∧ (1 : Int32).toInt = 0 ∧ mfa_194.toInt = 1 ∧ mfb_195.toInt = lfr.toInt ∧ mfr_192.toInt = lfr.toInt ∧ mcu_190.toInt = lcu.toInt ∧ mtk_191.toInt = ltk.toInt)) := hw188
                      replace hP : va_P D vwCl [((md 31), .inl (cI, 36, .inl mli)), ((md 33), .inl (cI, 36, .inl mnlq)), (moC md sd (0) mst hn cn pn mq gn mln hnn (0) mlt ln mcu_190 mtk_191 mfr_192 mti_193 mfa_194 mfb_195 an un lc td mtn), ((md 34), .inl (cI, 300, .inl mtp))] H := hP
                      replace hD : va_D A [((md 31), .inl (cI, 36, .inl mli)), ((md 33), .inl (cI, 36, .inl mnlq)), (moC md sd (0) mst hn cn pn mq gn mln hnn (0) mlt ln mcu_190 mtk_191 mfr_192 mti_193 mfa_194 mfb_195 an un lc td mtn), ((md 34), .inl (cI, 300, .inl mtp))] := hD
                      have cphw188 := i_cl (x := lcu) (by omega)
                      have ephw188 : lcu.toNatClampNeg = tE mtp ln.toNatClampNeg (acP mtp ln.toNatClampNeg (tE mtp ln.toNatClampNeg (poL mtp ln.toNatClampNeg hnn.toNatClampNeg))) := by omega
                      rw [ephw188] at hw188
                      have clc196 := i_cl (x := hnn) (by omega)
                      have hb19 : ¬ tK mtp ln.toNatClampNeg (acP mtp ln.toNatClampNeg (tE mtp ln.toNatClampNeg (poL mtp ln.toNatClampNeg hnn.toNatClampNeg))) = 4 → dcF mtp ln.toNatClampNeg hnn.toNatClampNeg = 1 ∧ dpF mtp ln.toNatClampNeg hnn.toNatClampNeg = tS mtp ln.toNatClampNeg (acP mtp ln.toNatClampNeg (tE mtp ln.toNatClampNeg (poL mtp ln.toNatClampNeg hnn.toNatClampNeg))) := fun h => du_b1 (by omega) (by omega) (by omega) h
                      exact hj87 (mcu_190, mtk_191, mfr_192, mti_193, mfa_194, mfb_195) ls _ _ ⟨(by omega), (by omega), (by omega), (by omega), (by omega), lv_sub hl [0, 1, 2] rfl, hP.sub [0, 1, 2, 3] rfl, hD.sub [0, 1, 2, 3] (by decide +kernel) rfl, hS⟩
              · intro hj81
                refine lv_aload_n hx hb dX11_duties_146 rfl (lv_at hl 1 rfl) ?_
                refine va_get (D := D) (ci := 11) (v := .int kfa) (C := RX11) (T := TX11) (N := 64) hx hb hts inX11_duties_X11 hown hK hP 2 rfl rfl 42 (by decide) (hts (Cond.fieldLink RX11 271 "PortRoomsModel" "fault" "I") (List.mem_cons_of_mem _ (List.mem_append_left _ (List.mem_append_left _ (List.mem_of_getElem? (i := 4) rfl))))) (fun _ h9 => h9) rfl dX11_duties_147 ?_
                refine lv_if_ne (tgt := 175) hx hb dX11_duties_150 (by decide) (fun c197 => ?_) (fun c197 => ?_)
                · skip
                  have f198 := i_ne c197
                  exact hj81 (((-1) : Int32), kcu, ktk, kfr, kti, kfa, kfb) ls _ _ ⟨(by omega), (by omega), (by omega), (by omega), (by omega), lv_sub hl [1, 2, 0] rfl, hP.sub [0, 1, 2, 3] rfl, hD.sub [0, 1, 2, 3] (by decide +kernel) rfl, hS⟩
                · skip
                  have f199 := i_eq c197
                  have hT1 : kfa.toInt = 0 ∧ kfr.toInt = (tS mtp ln.toNatClampNeg (tE mtp ln.toNatClampNeg (poL mtp ln.toNatClampNeg hnn.toNatClampNeg)) : Int) ∧ kcu.toInt = (tE mtp ln.toNatClampNeg (tE mtp ln.toNatClampNeg (poL mtp ln.toNatClampNeg hnn.toNatClampNeg)) : Int) ∧ ktk.toInt = mK mtp ln.toNatClampNeg (tE mtp ln.toNatClampNeg (poL mtp ln.toNatClampNeg hnn.toNatClampNeg)) ∧ hnn.toInt < 12 ∧ tK mtp ln.toNatClampNeg (poL mtp ln.toNatClampNeg hnn.toNatClampNeg) < 4 := by rcases g74 with h9 | h9 <;> first | exact h9 | (exfalso; omega)
                  have hle1 : (tE mtp ln.toNatClampNeg (poL mtp ln.toNatClampNeg hnn.toNatClampNeg)) ≤ ln.toNatClampNeg := by omega
                  have hmk1 := mk_tk (T := mtp) (L := ln.toNatClampNeg) hle1
                  have hml1 := mk_lt (T := mtp) (L := ln.toNatClampNeg) hle1
                  have hkr1 := tK_rng (T := mtp) (L := ln.toNatClampNeg) hle1
                  have hel1 := tE_le (T := mtp) (L := ln.toNatClampNeg) hle1
                  refine lv_aload_n hx hb dX11_duties_153 rfl (lv_at hl 1 rfl) ?_
                  refine lv_bipush (v := 62) hx hb dX11_duties_154 (by decide) ?_
                  refine st_i (wr := [((md 31), .inl (cI, 36, .inl mli)), ((md 33), .inl (cI, 36, .inl mnlq))]) (va_runV (C := RX11) (As := [.int 62]) (rest := []) ⟨hx, hb, hml, hown, hts⟩ (ct_X11_is l D cI cY cJ cQ _ md sd 0 mst hn cn pn mq gn mln hnn 0 mlt ln kcu ktk kfr kti kfa kfb an un lc td mtn mtp (62 : Int32) (by omega) (by omega) (by omega)) (cwV 1 hts gX11_duties_X11_is rfl rfl rfl ⟨rfl, cdX11_is⟩ ⟨Nat.le_of_ble_eq_true rfl, Nat.le_of_ble_eq_true rfl⟩) (cPreV (hP.sub [2, 3] rfl) hK (hD.sub [2, 3] (by decide +kernel) rfl) hN (ci := 11) (q0 := 0) rfl rfl) rfl rfl hl.1 rfl (lv_room (Nat.le_of_ble_eq_true rfl)) dX11_duties_156 ⟨Nat.le_of_ble_eq_true rfl, Nat.le_of_ble_eq_true rfl⟩) hP hD hS hA [2, 3] [0, 1] rfl rfl (by decide +kernel) (by decide +kernel) (fun r202 u200 H locs hw201 => ?_)
                  clear hP hD hS
                  intro hP hD hS
                  replace hw201 : r202 = if ktk.toInt = 4 ∧ (mtp kfr.toNatClampNeg).toInt = (62 : Int32).toInt then 1 else 0 := hw201
                  replace hP : va_P D vwCl [((md 31), .inl (cI, 36, .inl mli)), ((md 33), .inl (cI, 36, .inl mnlq)), (moC md sd (0) mst hn cn pn mq gn mln hnn (0) mlt ln kcu ktk kfr kti kfa kfb an un lc td mtn), ((md 34), .inl (cI, 300, .inl mtp))] H := hP
                  replace hD : va_D A [((md 31), .inl (cI, 36, .inl mli)), ((md 33), .inl (cI, 36, .inl mnlq)), (moC md sd (0) mst hn cn pn mq gn mln hnn (0) mlt ln kcu ktk kfr kti kfa kfb an un lc td mtn), ((md 34), .inl (cI, 300, .inl mtp))] := hD
                  have clc203 := i_cl (x := kfr) (by omega)
                  have hix9 : (mtp kfr.toNatClampNeg).toInt = (mtp (tS mtp ln.toNatClampNeg (tE mtp ln.toNatClampNeg (poL mtp ln.toNatClampNeg hnn.toNatClampNeg)))).toInt := by rw [show kfr.toNatClampNeg = tS mtp ln.toNatClampNeg (tE mtp ln.toNatClampNeg (poL mtp ln.toNatClampNeg hnn.toNatClampNeg)) by omega]
                  refine lv_if_eq (tgt := 175) hx hb dX11_duties_159 (by decide) (fun c204 => ?_) (fun c204 => ?_)
                  · skip
                    have f205 := bo_f hw201 c204
                    have ea9 : acP mtp ln.toNatClampNeg (tE mtp ln.toNatClampNeg (poL mtp ln.toNatClampNeg hnn.toNatClampNeg)) = tE mtp ln.toNatClampNeg (poL mtp ln.toNatClampNeg hnn.toNatClampNeg) := by unfold acP; rw [if_neg (by omega)]
                    have er9 : acR mtp ln.toNatClampNeg (tE mtp ln.toNatClampNeg (poL mtp ln.toNatClampNeg hnn.toNatClampNeg)) = 0 := by unfold acR; rw [if_neg (by omega)]
                    have ed9 : acD mtp ln.toNatClampNeg (tE mtp ln.toNatClampNeg (poL mtp ln.toNatClampNeg hnn.toNatClampNeg)) = -1 := by unfold acD; rw [if_neg (by omega)]
                    have et9 : tS mtp ln.toNatClampNeg (acP mtp ln.toNatClampNeg (tE mtp ln.toNatClampNeg (poL mtp ln.toNatClampNeg hnn.toNatClampNeg))) = tS mtp ln.toNatClampNeg (tE mtp ln.toNatClampNeg (poL mtp ln.toNatClampNeg hnn.toNatClampNeg)) ∧ tE mtp ln.toNatClampNeg (acP mtp ln.toNatClampNeg (tE mtp ln.toNatClampNeg (poL mtp ln.toNatClampNeg hnn.toNatClampNeg))) = tE mtp ln.toNatClampNeg (tE mtp ln.toNatClampNeg (poL mtp ln.toNatClampNeg hnn.toNatClampNeg)) ∧ mK mtp ln.toNatClampNeg (acP mtp ln.toNatClampNeg (tE mtp ln.toNatClampNeg (poL mtp ln.toNatClampNeg hnn.toNatClampNeg))) = mK mtp ln.toNatClampNeg (tE mtp ln.toNatClampNeg (poL mtp ln.toNatClampNeg hnn.toNatClampNeg)) := by rw [ea9]; exact ⟨rfl, rfl, rfl⟩
                    exact hj81 (((-1) : Int32), kcu, ktk, kfr, kti, kfa, kfb) ls _ _ ⟨(by omega), (by omega), (by omega), (by omega), (by omega), lv_sub hl [1, 2, 0] rfl, hP.sub [0, 1, 2, 3] rfl, hD.sub [0, 1, 2, 3] (by decide +kernel) rfl, hS⟩
                  · skip
                    have f206 := bo_t hw201 c204
                    refine lv_aload_n hx hb dX11_duties_162 rfl (lv_at hl 1 rfl) ?_
                    refine st_v (wr := [((md 31), .inl (cI, 36, .inl mli)), ((md 33), .inl (cI, 36, .inl mnlq))]) (va_runV (C := RX11) (As := []) (rest := []) ⟨hx, hb, hml, hown, hts⟩ (ct_X11_step l D cI cY cJ cQ _ md sd 0 mst hn cn pn mq gn mln hnn 0 mlt ln kcu ktk kfr kti kfa kfb an un lc td mtn mtp (by omega) (by omega) (by omega) (by omega) (by assumption)) (cwV 0 hts gX11_duties_X11_step rfl rfl rfl ⟨rfl, cdX11_step⟩ ⟨Nat.le_of_ble_eq_true rfl, Nat.le_of_ble_eq_true rfl⟩) (cPreV (hP.sub [2, 3] rfl) hK (hD.sub [2, 3] (by decide +kernel) rfl) hN (ci := 11) (q0 := 0) rfl rfl) rfl rfl hl.1 rfl (lv_room (Nat.le_of_ble_eq_true rfl)) dX11_duties_163 ⟨Nat.le_of_ble_eq_true rfl, Nat.le_of_ble_eq_true rfl⟩) hP hD hS hA [2, 3] [0, 1] rfl rfl (by decide +kernel) (by decide +kernel) (fun u207 H locs hw208 => ?_)
                    clear hP hD hS
                    intro hP hD hS
                    obtain ⟨mcu_210, mtk_211, mfr_212, mti_213⟩ := u207
                    replace hw208 : mfr_212.toInt = (tS mtp ln.toNatClampNeg kcu.toNatClampNeg : Int) ∧ mcu_210.toInt = (tE mtp ln.toNatClampNeg kcu.toNatClampNeg : Int) ∧ mti_213.toInt = mcu_210.toInt ∧ mtk_211.toInt = mK mtp ln.toNatClampNeg kcu.toNatClampNeg ∧ kcu.toInt ≤ mfr_212.toInt ∧ mfr_212.toInt ≤ mcu_210.toInt ∧ mcu_210.toInt ≤ ln.toInt := hw208
                    replace hP : va_P D vwCl [((md 31), .inl (cI, 36, .inl mli)), ((md 33), .inl (cI, 36, .inl mnlq)), (moC md sd (0) mst hn cn pn mq gn mln hnn (0) mlt ln mcu_210 mtk_211 mfr_212 mti_213 kfa kfb an un lc td mtn), ((md 34), .inl (cI, 300, .inl mtp))] H := hP
                    replace hD : va_D A [((md 31), .inl (cI, 36, .inl mli)), ((md 33), .inl (cI, 36, .inl mnlq)), (moC md sd (0) mst hn cn pn mq gn mln hnn (0) mlt ln mcu_210 mtk_211 mfr_212 mti_213 kfa kfb an un lc td mtn), ((md 34), .inl (cI, 300, .inl mtp))] := hD
                    have cphw208 := i_cl (x := kcu) (by omega)
                    have ephw208 : kcu.toNatClampNeg = tE mtp ln.toNatClampNeg (tE mtp ln.toNatClampNeg (poL mtp ln.toNatClampNeg hnn.toNatClampNeg)) := by omega
                    rw [ephw208] at hw208
                    have hlex : (tE mtp ln.toNatClampNeg (tE mtp ln.toNatClampNeg (poL mtp ln.toNatClampNeg hnn.toNatClampNeg))) ≤ ln.toNatClampNeg := by omega
                    have hmkx := mk_tk (T := mtp) (L := ln.toNatClampNeg) hlex
                    have hmlx := mk_lt (T := mtp) (L := ln.toNatClampNeg) hlex
                    have hkrx := tK_rng (T := mtp) (L := ln.toNatClampNeg) hlex
                    have helx := tE_le (T := mtp) (L := ln.toNatClampNeg) hlex
                    refine lv_aload_n hx hb dX11_duties_166 rfl (lv_at hl 1 rfl) ?_
                    refine lv_sipush (v := 9999) hx hb dX11_duties_167 (by decide) ?_
                    refine st_i (wr := [((md 31), .inl (cI, 36, .inl mli)), ((md 33), .inl (cI, 36, .inl mnlq))]) (va_runV (C := RX11) (As := [.int 9999]) (rest := []) ⟨hx, hb, hml, hown, hts⟩ (ct_X11_numberUpTo l D cI cY cJ cQ _ md sd 0 mst hn cn pn mq gn mln hnn 0 mlt ln mcu_210 mtk_211 mfr_212 mti_213 kfa kfb an un lc td mtn mtp (9999 : Int32) (by omega) (by omega) (by omega) (by omega) (by omega) (by omega) (by omega) (by assumption) (by omega) (by omega)) (cwV 1 hts gX11_duties_X11_numberUpTo rfl rfl rfl ⟨rfl, cdX11_numberUpTo⟩ ⟨Nat.le_of_ble_eq_true rfl, Nat.le_of_ble_eq_true rfl⟩) (cPreV (hP.sub [2, 3] rfl) hK (hD.sub [2, 3] (by decide +kernel) rfl) hN (ci := 11) (q0 := 0) rfl rfl) rfl rfl hl.1 rfl (lv_room (Nat.le_of_ble_eq_true rfl)) dX11_duties_170 ⟨Nat.le_of_ble_eq_true rfl, Nat.le_of_ble_eq_true rfl⟩) hP hD hS hA [2, 3] [0, 1] rfl rfl (by decide +kernel) (by decide +kernel) (fun r216 u214 H locs hw215 => ?_)
                    clear hP hD hS
                    intro hP hD hS
                    obtain ⟨mcu_217, mtk_218, mfr_219, mti_220, mfa_221, mfb_222⟩ := u214
                    replace hw215 : 0 ≤ mfr_219.toInt ∧ mfr_219.toInt ≤ mcu_217.toInt ∧ mcu_217.toInt ≤ ln.toInt ∧ mti_220.toInt = mcu_217.toInt ∧ ((mtk_211.toInt = 3 ∧ nmV mtp mfr_212.toNatClampNeg (mti_213.toNatClampNeg - mfr_212.toNatClampNeg) ≤ (9999 : Int32).toInt ∧ r216.toInt = nmV mtp mfr_212.toNatClampNeg (mti_213.toNatClampNeg - mfr_212.toNatClampNeg) ∧ mfa_221.toInt = 0 ∧ mfr_219.toInt = (tS mtp ln.toNatClampNeg mcu_210.toNatClampNeg : Int) ∧ mcu_217.toInt = (tE mtp ln.toNatClampNeg mcu_210.toNatClampNeg : Int) ∧ mti_220.toInt = mcu_217.toInt ∧ mtk_218.toInt = mK mtp ln.toNatClampNeg mcu_210.toNatClampNeg) ∨ (mtk_211.toInt = 3 ∧ (9999 : Int32).toInt < nmV mtp mfr_212.toNatClampNeg (mti_213.toNatClampNeg - mfr_212.toNatClampNeg) ∧ mfa_221.toInt = 2 ∧ mfb_222.toInt = mfr_212.toInt) ∨ (¬ mtk_211.toInt = 3 ∧ mfa_221.toInt = 1 ∧ mfb_222.toInt = mfr_212.toInt)) := hw215
                    replace hP : va_P D vwCl [((md 31), .inl (cI, 36, .inl mli)), ((md 33), .inl (cI, 36, .inl mnlq)), (moC md sd (0) mst hn cn pn mq gn mln hnn (0) mlt ln mcu_217 mtk_218 mfr_219 mti_220 mfa_221 mfb_222 an un lc td mtn), ((md 34), .inl (cI, 300, .inl mtp))] H := hP
                    replace hD : va_D A [((md 31), .inl (cI, 36, .inl mli)), ((md 33), .inl (cI, 36, .inl mnlq)), (moC md sd (0) mst hn cn pn mq gn mln hnn (0) mlt ln mcu_217 mtk_218 mfr_219 mti_220 mfa_221 mfb_222 an un lc td mtn), ((md 34), .inl (cI, 300, .inl mtp))] := hD
                    have clc223 := i_cl (x := mfr_212) (by omega)
                    have clc224 := i_cl (x := mti_213) (by omega)
                    have cphw215 := i_cl (x := mcu_210) (by omega)
                    have ephw215 : mcu_210.toNatClampNeg = tE mtp ln.toNatClampNeg (tE mtp ln.toNatClampNeg (tE mtp ln.toNatClampNeg (poL mtp ln.toNatClampNeg hnn.toNatClampNeg))) := by omega
                    have enhw215 : nmV mtp mfr_212.toNatClampNeg (mti_213.toNatClampNeg - mfr_212.toNatClampNeg) = tN mtp ln.toNatClampNeg (tE mtp ln.toNatClampNeg (tE mtp ln.toNatClampNeg (poL mtp ln.toNatClampNeg hnn.toNatClampNeg))) := by unfold tN; rw [show mfr_212.toNatClampNeg = tS mtp ln.toNatClampNeg (tE mtp ln.toNatClampNeg (tE mtp ln.toNatClampNeg (poL mtp ln.toNatClampNeg hnn.toNatClampNeg))) by omega, show mti_213.toNatClampNeg = tE mtp ln.toNatClampNeg (tE mtp ln.toNatClampNeg (tE mtp ln.toNatClampNeg (poL mtp ln.toNatClampNeg hnn.toNatClampNeg))) by omega]
                    rw [ephw215, enhw215] at hw215
                    have hnr9 : mK mtp ln.toNatClampNeg (tE mtp ln.toNatClampNeg (tE mtp ln.toNatClampNeg (poL mtp ln.toNatClampNeg hnn.toNatClampNeg))) = 3 → 0 ≤ tN mtp ln.toNatClampNeg (tE mtp ln.toNatClampNeg (tE mtp ln.toNatClampNeg (poL mtp ln.toNatClampNeg hnn.toNatClampNeg))) ∧ tN mtp ln.toNatClampNeg (tE mtp ln.toNatClampNeg (tE mtp ln.toNatClampNeg (poL mtp ln.toNatClampNeg hnn.toNatClampNeg))) ≤ 9999 := fun h => tN_rng hlex h
                    have hac9 : tK mtp ln.toNatClampNeg (tE mtp ln.toNatClampNeg (poL mtp ln.toNatClampNeg hnn.toNatClampNeg)) = 7 → tK mtp ln.toNatClampNeg (tE mtp ln.toNatClampNeg (tE mtp ln.toNatClampNeg (poL mtp ln.toNatClampNeg hnn.toNatClampNeg))) = 5 → acR mtp ln.toNatClampNeg (tE mtp ln.toNatClampNeg (poL mtp ln.toNatClampNeg hnn.toNatClampNeg)) = 0 ∧ acD mtp ln.toNatClampNeg (tE mtp ln.toNatClampNeg (poL mtp ln.toNatClampNeg hnn.toNatClampNeg)) = tN mtp ln.toNatClampNeg (tE mtp ln.toNatClampNeg (tE mtp ln.toNatClampNeg (poL mtp ln.toNatClampNeg hnn.toNatClampNeg))) ∧ tS mtp ln.toNatClampNeg (acP mtp ln.toNatClampNeg (tE mtp ln.toNatClampNeg (poL mtp ln.toNatClampNeg hnn.toNatClampNeg))) = tS mtp ln.toNatClampNeg (tE mtp ln.toNatClampNeg (tE mtp ln.toNatClampNeg (tE mtp ln.toNatClampNeg (poL mtp ln.toNatClampNeg hnn.toNatClampNeg)))) ∧ tE mtp ln.toNatClampNeg (acP mtp ln.toNatClampNeg (tE mtp ln.toNatClampNeg (poL mtp ln.toNatClampNeg hnn.toNatClampNeg))) = tE mtp ln.toNatClampNeg (tE mtp ln.toNatClampNeg (tE mtp ln.toNatClampNeg (tE mtp ln.toNatClampNeg (poL mtp ln.toNatClampNeg hnn.toNatClampNeg)))) ∧ mK mtp ln.toNatClampNeg (acP mtp ln.toNatClampNeg (tE mtp ln.toNatClampNeg (poL mtp ln.toNatClampNeg hnn.toNatClampNeg))) = mK mtp ln.toNatClampNeg (tE mtp ln.toNatClampNeg (tE mtp ln.toNatClampNeg (tE mtp ln.toNatClampNeg (poL mtp ln.toNatClampNeg hnn.toNatClampNeg)))) := fun h h2 => by have ea : acP mtp ln.toNatClampNeg (tE mtp ln.toNatClampNeg (poL mtp ln.toNatClampNeg hnn.toNatClampNeg)) = tE mtp ln.toNatClampNeg (tE mtp ln.toNatClampNeg (tE mtp ln.toNatClampNeg (poL mtp ln.toNatClampNeg hnn.toNatClampNeg))) := (by unfold acP; rw [if_pos h, if_pos h2]); rw [ea]; exact ⟨by unfold acR; rw [if_neg (by omega)], by unfold acD; rw [if_pos h], rfl, rfl, rfl⟩
                    have clc225 := i_cl (x := hnn) (by omega)
                    have hac8 : tK mtp ln.toNatClampNeg (tE mtp ln.toNatClampNeg (poL mtp ln.toNatClampNeg hnn.toNatClampNeg)) = 7 → ¬ tK mtp ln.toNatClampNeg (tE mtp ln.toNatClampNeg (tE mtp ln.toNatClampNeg (poL mtp ln.toNatClampNeg hnn.toNatClampNeg))) = 5 → tK mtp ln.toNatClampNeg (poL mtp ln.toNatClampNeg hnn.toNatClampNeg) < 4 → hnn.toNatClampNeg < 12 → dcF mtp ln.toNatClampNeg hnn.toNatClampNeg = 1 ∧ dpF mtp ln.toNatClampNeg hnn.toNatClampNeg = tS mtp ln.toNatClampNeg (tE mtp ln.toNatClampNeg (tE mtp ln.toNatClampNeg (poL mtp ln.toNatClampNeg hnn.toNatClampNeg))) := fun h h2 h3 h4 => by have ea : acP mtp ln.toNatClampNeg (tE mtp ln.toNatClampNeg (poL mtp ln.toNatClampNeg hnn.toNatClampNeg)) = tE mtp ln.toNatClampNeg (tE mtp ln.toNatClampNeg (poL mtp ln.toNatClampNeg hnn.toNatClampNeg)) := (by unfold acP; rw [if_pos h, if_neg h2]); have q := du_a3 (T := mtp) (L := ln.toNatClampNeg) h3 h4 (by unfold acR; rw [if_pos ⟨h, h2⟩]); rw [ea] at q; exact q
                    refine lv_istore (lv' := [(4, .int r216), (0, .ref (md 64)), (3, .int sk65)]) hx hb dX11_duties_173 hl (by decide) rfl (fun ls hl => ?_)
                    exact hj81 (r216, mcu_217, mtk_218, mfr_219, mti_220, mfa_221, mfb_222) ls _ _ ⟨(by omega), (by omega), (by omega), (by omega), (by omega), lv_sub hl [1, 2, 0] rfl, hP.sub [0, 1, 2, 3] rfl, hD.sub [0, 1, 2, 3] (by decide +kernel) rfl, hS⟩
            · intro hj75
              refine lv_aload_n hx hb dX11_duties_128 rfl (lv_at hl 0 rfl) ?_
              refine lv_iload_n hx hb dX11_duties_129 rfl (lv_at hl 1 rfl) ?_
              refine lv_ldc hx hb hown (hts (Cond.constant RX11 139 (-1000000)) (List.mem_cons_of_mem _ (List.mem_append_left _ (List.mem_append_left _ (List.mem_of_getElem? (i := 11) rfl))))) dX11_duties_130 ?_
              refine lv_icmp_eq (tgt := 139) hx hb dX11_duties_132 (by decide) (fun c226 => ?_) (fun c226 => ?_)
              · skip
                have f227 := i_eq c226
                refine lv_iconst (v := 0) hx hb dX11_duties_139 (by decide) ?_
                refine st_v (wr := [((md 31), .inl (cI, 36, .inl mli)), ((md 33), .inl (cI, 36, .inl mnlq))]) (va_runV (C := RX11) (As := [.int 0]) (rest := []) ⟨hx, hb, hml, hown, hts⟩ (ct_X11_need l D cI cY cJ cQ _ md sd 0 mst hn cn pn mq gn mln hnn 0 mlt ln hcu htk hfr hti jfa jfb an un lc td mtn mtp (0 : Int32) (by omega) (by omega) (by omega) (by omega) (by omega) (by omega) (by omega) (by assumption)) (cwV 1 hts gX11_duties_X11_need rfl rfl rfl ⟨rfl, cdX11_need⟩ ⟨Nat.le_of_ble_eq_true rfl, Nat.le_of_ble_eq_true rfl⟩) (cPreV (hP.sub [2, 3] rfl) hK (hD.sub [2, 3] (by decide +kernel) rfl) hN (ci := 11) (q0 := 0) rfl rfl) rfl rfl hl.1 rfl (lv_room (Nat.le_of_ble_eq_true rfl)) dX11_duties_140 ⟨Nat.le_of_ble_eq_true rfl, Nat.le_of_ble_eq_true rfl⟩) hP hD hS hA [2, 3] [0, 1] rfl rfl (by decide +kernel) (by decide +kernel) (fun u228 H locs hw229 => ?_)
                clear hP hD hS
                intro hP hD hS
                obtain ⟨mcu_231, mtk_232, mfr_233, mti_234, mfa_235, mfb_236⟩ := u228
                replace hw229 : 0 ≤ mfr_233.toInt ∧ mfr_233.toInt ≤ mcu_231.toInt ∧ mcu_231.toInt ≤ ln.toInt ∧ mti_234.toInt = mcu_231.toInt ∧ ((¬ jfa.toInt = 0 ∧ mfa_235.toInt = jfa.toInt ∧ mfb_236.toInt = jfb.toInt ∧ mfr_233.toInt = hfr.toInt ∧ mcu_231.toInt = hcu.toInt ∧ mtk_232.toInt = htk.toInt) ∨ (jfa.toInt = 0 ∧ ¬ (0 : Int32).toInt = 0 ∧ mfa_235.toInt = 0 ∧ mfr_233.toInt = (tS mtp ln.toNatClampNeg hcu.toNatClampNeg : Int) ∧ mcu_231.toInt = (tE mtp ln.toNatClampNeg hcu.toNatClampNeg : Int) ∧ mti_234.toInt = mcu_231.toInt ∧ mtk_232.toInt = mK mtp ln.toNatClampNeg hcu.toNatClampNeg) ∨ (jfa.toInt = 0 ∧ (0 : Int32).toInt = 0 ∧ mfa_235.toInt = 1 ∧ mfb_236.toInt = hfr.toInt ∧ mfr_233.toInt = hfr.toInt ∧ mcu_231.toInt = hcu.toInt ∧ mtk_232.toInt = htk.toInt)) := hw229
                replace hP : va_P D vwCl [((md 31), .inl (cI, 36, .inl mli)), ((md 33), .inl (cI, 36, .inl mnlq)), (moC md sd (0) mst hn cn pn mq gn mln hnn (0) mlt ln mcu_231 mtk_232 mfr_233 mti_234 mfa_235 mfb_236 an un lc td mtn), ((md 34), .inl (cI, 300, .inl mtp))] H := hP
                replace hD : va_D A [((md 31), .inl (cI, 36, .inl mli)), ((md 33), .inl (cI, 36, .inl mnlq)), (moC md sd (0) mst hn cn pn mq gn mln hnn (0) mlt ln mcu_231 mtk_232 mfr_233 mti_234 mfa_235 mfb_236 an un lc td mtn), ((md 34), .inl (cI, 300, .inl mtp))] := hD
                have cphw229 := i_cl (x := hcu) (by omega)
                have ephw229 : hcu.toNatClampNeg = tE mtp ln.toNatClampNeg (poL mtp ln.toNatClampNeg hnn.toNatClampNeg) := by omega
                rw [ephw229] at hw229
                have ha19 : 4 ≤ tK mtp ln.toNatClampNeg (poL mtp ln.toNatClampNeg hnn.toNatClampNeg) → dcF mtp ln.toNatClampNeg hnn.toNatClampNeg = 1 ∧ dpF mtp ln.toNatClampNeg hnn.toNatClampNeg = tS mtp ln.toNatClampNeg (poL mtp ln.toNatClampNeg hnn.toNatClampNeg) := fun h => du_a1 h
                have ha29 : tK mtp ln.toNatClampNeg (poL mtp ln.toNatClampNeg hnn.toNatClampNeg) < 4 → ¬ hnn.toNatClampNeg < 12 → dcF mtp ln.toNatClampNeg hnn.toNatClampNeg = 3 ∧ dpF mtp ln.toNatClampNeg hnn.toNatClampNeg = tS mtp ln.toNatClampNeg (poL mtp ln.toNatClampNeg hnn.toNatClampNeg) := fun h h2 => du_a2 h h2
                have clc237 := i_cl (x := hnn) (by omega)
                exact hj75 (mcu_231, mtk_232, mfr_233, mti_234, mfa_235, mfb_236) ls _ _ ⟨(by omega), (by omega), (by omega), (by omega), (by omega), lv_sub hl [0, 1] rfl, hP.sub [0, 1, 2, 3] rfl, hD.sub [0, 1, 2, 3] (by decide +kernel) rfl, hS⟩
              · skip
                have f238 := i_ne c226
                refine lv_iconst (v := 1) hx hb dX11_duties_135 (by decide) ?_
                refine lv_goto (tgt := 140) hx hb dX11_duties_136 (by decide) ?_
                refine st_v (wr := [((md 31), .inl (cI, 36, .inl mli)), ((md 33), .inl (cI, 36, .inl mnlq))]) (va_runV (C := RX11) (As := [.int 1]) (rest := []) ⟨hx, hb, hml, hown, hts⟩ (ct_X11_need l D cI cY cJ cQ _ md sd 0 mst hn cn pn mq gn mln hnn 0 mlt ln hcu htk hfr hti jfa jfb an un lc td mtn mtp (1 : Int32) (by omega) (by omega) (by omega) (by omega) (by omega) (by omega) (by omega) (by assumption)) (cwV 1 hts gX11_duties_X11_need rfl rfl rfl ⟨rfl, cdX11_need⟩ ⟨Nat.le_of_ble_eq_true rfl, Nat.le_of_ble_eq_true rfl⟩) (cPreV (hP.sub [2, 3] rfl) hK (hD.sub [2, 3] (by decide +kernel) rfl) hN (ci := 11) (q0 := 0) rfl rfl) rfl rfl hl.1 rfl (lv_room (Nat.le_of_ble_eq_true rfl)) dX11_duties_140 ⟨Nat.le_of_ble_eq_true rfl, Nat.le_of_ble_eq_true rfl⟩) hP hD hS hA [2, 3] [0, 1] rfl rfl (by decide +kernel) (by decide +kernel) (fun u239 H locs hw240 => ?_)
                clear hP hD hS
                intro hP hD hS
                obtain ⟨mcu_242, mtk_243, mfr_244, mti_245, mfa_246, mfb_247⟩ := u239
                replace hw240 : 0 ≤ mfr_244.toInt ∧ mfr_244.toInt ≤ mcu_242.toInt ∧ mcu_242.toInt ≤ ln.toInt ∧ mti_245.toInt = mcu_242.toInt ∧ ((¬ jfa.toInt = 0 ∧ mfa_246.toInt = jfa.toInt ∧ mfb_247.toInt = jfb.toInt ∧ mfr_244.toInt = hfr.toInt ∧ mcu_242.toInt = hcu.toInt ∧ mtk_243.toInt = htk.toInt) ∨ (jfa.toInt = 0 ∧ ¬ (1 : Int32).toInt = 0 ∧ mfa_246.toInt = 0 ∧ mfr_244.toInt = (tS mtp ln.toNatClampNeg hcu.toNatClampNeg : Int) ∧ mcu_242.toInt = (tE mtp ln.toNatClampNeg hcu.toNatClampNeg : Int) ∧ mti_245.toInt = mcu_242.toInt ∧ mtk_243.toInt = mK mtp ln.toNatClampNeg hcu.toNatClampNeg) ∨ (jfa.toInt = 0 ∧ (1 : Int32).toInt = 0 ∧ mfa_246.toInt = 1 ∧ mfb_247.toInt = hfr.toInt ∧ mfr_244.toInt = hfr.toInt ∧ mcu_242.toInt = hcu.toInt ∧ mtk_243.toInt = htk.toInt)) := hw240
                replace hP : va_P D vwCl [((md 31), .inl (cI, 36, .inl mli)), ((md 33), .inl (cI, 36, .inl mnlq)), (moC md sd (0) mst hn cn pn mq gn mln hnn (0) mlt ln mcu_242 mtk_243 mfr_244 mti_245 mfa_246 mfb_247 an un lc td mtn), ((md 34), .inl (cI, 300, .inl mtp))] H := hP
                replace hD : va_D A [((md 31), .inl (cI, 36, .inl mli)), ((md 33), .inl (cI, 36, .inl mnlq)), (moC md sd (0) mst hn cn pn mq gn mln hnn (0) mlt ln mcu_242 mtk_243 mfr_244 mti_245 mfa_246 mfb_247 an un lc td mtn), ((md 34), .inl (cI, 300, .inl mtp))] := hD
                have cphw240 := i_cl (x := hcu) (by omega)
                have ephw240 : hcu.toNatClampNeg = tE mtp ln.toNatClampNeg (poL mtp ln.toNatClampNeg hnn.toNatClampNeg) := by omega
                rw [ephw240] at hw240
                have ha19 : 4 ≤ tK mtp ln.toNatClampNeg (poL mtp ln.toNatClampNeg hnn.toNatClampNeg) → dcF mtp ln.toNatClampNeg hnn.toNatClampNeg = 1 ∧ dpF mtp ln.toNatClampNeg hnn.toNatClampNeg = tS mtp ln.toNatClampNeg (poL mtp ln.toNatClampNeg hnn.toNatClampNeg) := fun h => du_a1 h
                have ha29 : tK mtp ln.toNatClampNeg (poL mtp ln.toNatClampNeg hnn.toNatClampNeg) < 4 → ¬ hnn.toNatClampNeg < 12 → dcF mtp ln.toNatClampNeg hnn.toNatClampNeg = 3 ∧ dpF mtp ln.toNatClampNeg hnn.toNatClampNeg = tS mtp ln.toNatClampNeg (poL mtp ln.toNatClampNeg hnn.toNatClampNeg) := fun h h2 => du_a2 h h2
                have clc248 := i_cl (x := hnn) (by omega)
                exact hj75 (mcu_242, mtk_243, mfr_244, mti_245, mfa_246, mfb_247) ls _ _ ⟨(by omega), (by omega), (by omega), (by omega), (by omega), lv_sub hl [0, 1] rfl, hP.sub [0, 1, 2, 3] rfl, hD.sub [0, 1, 2, 3] (by decide +kernel) rfl, hS⟩
          · intro hj69
            refine lv_iload_n hx hb dX11_duties_108 rfl (lv_at hl 0 rfl) ?_
            refine lv_ldc hx hb hown (hts (Cond.constant RX11 139 (-1000000)) (List.mem_cons_of_mem _ (List.mem_append_left _ (List.mem_append_left _ (List.mem_of_getElem? (i := 11) rfl))))) dX11_duties_109 ?_
            refine lv_icmp_eq (tgt := 128) hx hb dX11_duties_111 (by decide) (fun c249 => ?_) (fun c249 => ?_)
            · skip
              have f250 := i_eq c249
              exact hj69 (hfa, hfb) ls _ _ ⟨(by omega), lv_sub hl [1, 0] rfl, hP.sub [0, 1, 2, 3] rfl, hD.sub [0, 1, 2, 3] (by decide +kernel) rfl, hS⟩
            · skip
              have f251 := i_ne c249
              refine lv_aload_n hx hb dX11_duties_114 rfl (lv_at hl 1 rfl) ?_
              refine va_get (D := D) (ci := 11) (v := .int hnn) (C := RX11) (T := TX11) (N := 64) hx hb hts inX11_duties_X11 hown hK hP 2 rfl rfl 32 (by decide) (hts (Cond.fieldLink RX11 287 "PortRoomsModel" "newLines" "I") (List.mem_cons_of_mem _ (List.mem_append_left _ (List.mem_append_left _ (List.mem_of_getElem? (i := 5) rfl))))) (fun _ h9 => h9) rfl dX11_duties_115 ?_
              refine lv_bipush (v := 12) hx hb dX11_duties_118 (by decide) ?_
              refine lv_icmp_ne (tgt := 128) hx hb dX11_duties_120 (by decide) (fun c252 => ?_) (fun c252 => ?_)
              · skip
                have f253 := i_ne c252
                exact hj69 (hfa, hfb) ls _ _ ⟨(by omega), lv_sub hl [1, 0] rfl, hP.sub [0, 1, 2, 3] rfl, hD.sub [0, 1, 2, 3] (by decide +kernel) rfl, hS⟩
              · skip
                have f254 := i_eq c252
                refine lv_aload_n hx hb dX11_duties_123 rfl (lv_at hl 1 rfl) ?_
                refine lv_iconst (v := 3) hx hb dX11_duties_124 (by decide) ?_
                refine st_v (wr := [((md 31), .inl (cI, 36, .inl mli)), ((md 33), .inl (cI, 36, .inl mnlq)), ((md 34), .inl (cI, 300, .inl mtp))]) (va_runV (C := RX11) (As := [.int 3]) (rest := []) ⟨hx, hb, hml, hown, hts⟩ (ct_X11_bad l D cI cY cJ cQ _ md sd 0 mst hn cn pn mq gn mln hnn 0 mlt ln hcu htk hfr hti hfa hfb an un lc td mtn (3 : Int32)) (cwV 1 hts gX11_duties_X11_bad rfl rfl rfl ⟨rfl, cdX11_bad⟩ ⟨Nat.le_of_ble_eq_true rfl, Nat.le_of_ble_eq_true rfl⟩) (cPreV (hP.sub [2] rfl) hK (hD.sub [2] (by decide +kernel) rfl) hN (ci := 11) (q0 := 0) rfl rfl) rfl rfl hl.1 rfl (lv_room (Nat.le_of_ble_eq_true rfl)) dX11_duties_125 ⟨Nat.le_of_ble_eq_true rfl, Nat.le_of_ble_eq_true rfl⟩) hP hD hS hA [2] [0, 1, 3] rfl rfl (by decide +kernel) (by decide +kernel) (fun u255 H locs hw256 => ?_)
                clear hP hD hS
                intro hP hD hS
                obtain ⟨mfa_258, mfb_259⟩ := u255
                replace hw256 : (hfa.toInt = 0 ∧ mfa_258.toInt = (3 : Int32).toInt ∧ mfb_259.toInt = hfr.toInt) ∨ (¬ hfa.toInt = 0 ∧ mfa_258.toInt = hfa.toInt ∧ mfb_259.toInt = hfb.toInt) := hw256
                replace hP : va_P D vwCl [((md 31), .inl (cI, 36, .inl mli)), ((md 33), .inl (cI, 36, .inl mnlq)), ((md 34), .inl (cI, 300, .inl mtp)), (moC md sd (0) mst hn cn pn mq gn mln hnn (0) mlt ln hcu htk hfr hti mfa_258 mfb_259 an un lc td mtn)] H := hP
                replace hD : va_D A [((md 31), .inl (cI, 36, .inl mli)), ((md 33), .inl (cI, 36, .inl mnlq)), ((md 34), .inl (cI, 300, .inl mtp)), (moC md sd (0) mst hn cn pn mq gn mln hnn (0) mlt ln hcu htk hfr hti mfa_258 mfb_259 an un lc td mtn)] := hD
                exact hj69 (mfa_258, mfb_259) ls _ _ ⟨(by omega), lv_sub hl [1, 0] rfl, hP.sub [0, 1, 3, 2] rfl, hD.sub [0, 1, 3, 2] (by decide +kernel) rfl, hS⟩
        · intro hj67
          refine lv_lload_n hx hb dX11_duties_57 rfl (lv_at hl 0 rfl) ?_
          refine lv_ldc2 hx hb hown (hts (Cond.constantLong RX11 294 (1936682084)) (List.mem_cons_of_mem _ (List.mem_append_left _ (List.mem_append_left _ (List.mem_of_getElem? (i := 7) rfl))))) dX11_duties_58 ?_
          refine W.lcmp hx hb dX11_duties_61 ?_
          refine lv_topi (fun v260 ev260 => ?_)
          refine lv_if_ne (tgt := 69) hx hb dX11_duties_62 (by decide) (fun c261 => ?_) (fun c261 => ?_)
          · skip
            have f262 := lc_ne ev260 c261
            refine lv_lload_n hx hb dX11_duties_69 rfl (lv_at hl 0 rfl) ?_
            refine lv_ldc2 hx hb hown (hts (Cond.constantLong RX11 296 (495673374574)) (List.mem_cons_of_mem _ (List.mem_append_left _ (List.mem_append_left _ (List.mem_of_getElem? (i := 8) rfl))))) dX11_duties_70 ?_
            refine W.lcmp hx hb dX11_duties_73 ?_
            refine lv_topi (fun v263 ev263 => ?_)
            refine lv_if_ne (tgt := 81) hx hb dX11_duties_74 (by decide) (fun c264 => ?_) (fun c264 => ?_)
            · skip
              have f265 := lc_ne ev263 c264
              refine lv_lload_n hx hb dX11_duties_81 rfl (lv_at hl 0 rfl) ?_
              refine lv_ldc2 hx hb hown (hts (Cond.constantLong RX11 298 (7304564)) (List.mem_cons_of_mem _ (List.mem_append_left _ (List.mem_append_left _ (List.mem_of_getElem? (i := 9) rfl))))) dX11_duties_82 ?_
              refine W.lcmp hx hb dX11_duties_85 ?_
              refine lv_topi (fun v266 ev266 => ?_)
              refine lv_if_ne (tgt := 93) hx hb dX11_duties_86 (by decide) (fun c267 => ?_) (fun c267 => ?_)
              · skip
                have f268 := lc_ne ev266 c267
                refine lv_lload_n hx hb dX11_duties_93 rfl (lv_at hl 0 rfl) ?_
                refine lv_ldc2 hx hb hown (hts (Cond.constantLong RX11 300 (120282411197796)) (List.mem_cons_of_mem _ (List.mem_append_left _ (List.mem_append_left _ (List.mem_of_getElem? (i := 10) rfl))))) dX11_duties_94 ?_
                refine W.lcmp hx hb dX11_duties_97 ?_
                refine lv_topi (fun v269 ev269 => ?_)
                refine lv_if_ne (tgt := 105) hx hb dX11_duties_98 (by decide) (fun c270 => ?_) (fun c270 => ?_)
                · skip
                  have f271 := lc_ne ev269 c270
                  refine lv_ldc hx hb hown (hts (Cond.constant RX11 139 (-1000000)) (List.mem_cons_of_mem _ (List.mem_append_left _ (List.mem_append_left _ (List.mem_of_getElem? (i := 11) rfl))))) dX11_duties_105 ?_
                  exact hj67 ((-1000000) : Int32) ls _ _ ⟨(by omega), lv_sub hl [1] rfl, hP.sub [0, 1, 2, 3] rfl, hD.sub [0, 1, 2, 3] (by decide +kernel) rfl, hS⟩
                · skip
                  have f272 := lc_eq ev269 c270
                  refine lv_iconst (v := 3) hx hb dX11_duties_101 (by decide) ?_
                  refine lv_goto (tgt := 107) hx hb dX11_duties_102 (by decide) ?_
                  exact hj67 (3 : Int32) ls _ _ ⟨(by omega), lv_sub hl [1] rfl, hP.sub [0, 1, 2, 3] rfl, hD.sub [0, 1, 2, 3] (by decide +kernel) rfl, hS⟩
              · skip
                have f273 := lc_eq ev266 c267
                refine lv_iconst (v := 2) hx hb dX11_duties_89 (by decide) ?_
                refine lv_goto (tgt := 107) hx hb dX11_duties_90 (by decide) ?_
                exact hj67 (2 : Int32) ls _ _ ⟨(by omega), lv_sub hl [1] rfl, hP.sub [0, 1, 2, 3] rfl, hD.sub [0, 1, 2, 3] (by decide +kernel) rfl, hS⟩
            · skip
              have f274 := lc_eq ev263 c264
              refine lv_iconst (v := 1) hx hb dX11_duties_77 (by decide) ?_
              refine lv_goto (tgt := 107) hx hb dX11_duties_78 (by decide) ?_
              exact hj67 (1 : Int32) ls _ _ ⟨(by omega), lv_sub hl [1] rfl, hP.sub [0, 1, 2, 3] rfl, hD.sub [0, 1, 2, 3] (by decide +kernel) rfl, hS⟩
          · skip
            have f275 := lc_eq ev260 c261
            refine lv_iconst (v := 0) hx hb dX11_duties_65 (by decide) ?_
            refine lv_goto (tgt := 107) hx hb dX11_duties_66 (by decide) ?_
            exact hj67 (0 : Int32) ls _ _ ⟨(by omega), lv_sub hl [1] rfl, hP.sub [0, 1, 2, 3] rfl, hD.sub [0, 1, 2, 3] (by decide +kernel) rfl, hS⟩
