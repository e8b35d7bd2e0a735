theorem cdX11_is : yX11_is.cls ≠ "java/lang/invoke/MethodHandle" ∧ yX11_is.cls ≠ "java/lang/invoke/VarHandle" ∧ (parseMethodDescriptor yX11_is.desc).map (fun d => d.parameters.length) = some 1 := by decide +kernel
theorem cdX11_word : yX11_word.cls ≠ "java/lang/invoke/MethodHandle" ∧ yX11_word.cls ≠ "java/lang/invoke/VarHandle" ∧ (parseMethodDescriptor yX11_word.desc).map (fun d => d.parameters.length) = some 0 := by decide +kernel
theorem cdX11_numberUpTo : yX11_numberUpTo.cls ≠ "java/lang/invoke/MethodHandle" ∧ yX11_numberUpTo.cls ≠ "java/lang/invoke/VarHandle" ∧ (parseMethodDescriptor yX11_numberUpTo.desc).map (fun d => d.parameters.length) = some 1 := by decide +kernel
theorem inX11_duties_X11 : ∀ w ∈ u_ws RX11 TX11 64, w ∈ wsX11_duties := fun _ h => (List.mem_cons_of_mem _ (List.mem_append_right _ h))
set_option maxRecDepth 20000 in
theorem ggX11_duties_X11_step : GoodIn wsX11_duties wsX11_step := goodIn_n _ [(24, 1), (4, 1), (25, 1), (12, 1), (7, 1), (26, 4), (23, 1), (30, 1), (3, 1), (31, 7), (58, 64)] rfl (by decide +kernel)
set_option maxRecDepth 20000 in
theorem gX11_duties_X11_step : GoodIn wsX11_duties (wsV RX11 280 RX11 yX11_step wsX11_step) := goodIn_app (goodIn_n _ [(20, 4)] rfl (by decide +kernel)) ggX11_duties_X11_step
set_option maxRecDepth 20000 in
theorem ggX11_duties_X11_word : GoodIn wsX11_duties wsX11_word := goodIn_n _ [(41, 1), (25, 2), (7, 1), (31, 1), (58, 64)] rfl (by decide +kernel)
set_option maxRecDepth 20000 in
theorem gX11_duties_X11_word : GoodIn wsX11_duties (wsV RX11 290 RX11 yX11_word wsX11_word) := goodIn_app (goodIn_n _ [(38, 3), (23, 1)] rfl (by decide +kernel)) ggX11_duties_X11_word
set_option maxRecDepth 20000 in
theorem ggX11_duties_X11_bad : GoodIn wsX11_duties wsX11_bad := goodIn_n _ [(45, 1), (5, 1), (25, 1), (17, 1), (58, 64)] rfl (by decide +kernel)
set_option maxRecDepth 20000 in
theorem gX11_duties_X11_bad : GoodIn wsX11_duties (wsV RX11 277 RX11 yX11_bad wsX11_bad) := goodIn_app (goodIn_n _ [(42, 3), (23, 1)] rfl (by decide +kernel)) ggX11_duties_X11_bad
set_option maxRecDepth 20000 in
theorem ggX11_duties_X11_need : GoodIn wsX11_duties wsX11_need := goodIn_n _ [(49, 1), (5, 1), (42, 3), (23, 1), (45, 1), (25, 1), (17, 1), (20, 3), (24, 1), (4, 1), (12, 1), (7, 1), (26, 5), (3, 1), (31, 7), (58, 64)] rfl (by decide +kernel)
set_option maxRecDepth 20000 in
theorem gX11_duties_X11_need : GoodIn wsX11_duties (wsV RX11 283 RX11 yX11_need wsX11_need) := goodIn_app (goodIn_n _ [(46, 3), (23, 1)] rfl (by decide +kernel)) ggX11_duties_X11_need
set_option maxRecDepth 20000 in
theorem ggX11_duties_X11_is : GoodIn wsX11_duties wsX11_is := goodIn_n _ [(53, 1), (7, 1), (31, 1), (25, 1), (58, 64)] rfl (by decide +kernel)
set_option maxRecDepth 20000 in
theorem gX11_duties_X11_is : GoodIn wsX11_duties (wsV RX11 302 RX11 yX11_is wsX11_is) := goodIn_app (goodIn_n _ [(50, 3), (23, 1)] rfl (by decide +kernel)) ggX11_duties_X11_is
set_option maxRecDepth 20000 in
theorem ggX11_duties_X11_numberUpTo : GoodIn wsX11_duties wsX11_numberUpTo := goodIn_n _ [(57, 1), (25, 2), (7, 1), (31, 1), (42, 3), (23, 1), (45, 1), (5, 1), (17, 1), (46, 4), (20, 3), (24, 1), (4, 1), (12, 1), (27, 4), (3, 1), (32, 6), (58, 64)] rfl (by decide +kernel)
set_option maxRecDepth 20000 in
theorem gX11_duties_X11_numberUpTo : GoodIn wsX11_duties (wsV RX11 305 RX11 yX11_numberUpTo wsX11_numberUpTo) := goodIn_app (goodIn_n _ [(54, 3), (23, 1)] rfl (by decide +kernel)) ggX11_duties_X11_numberUpTo
theorem dX11_duties_all0 : decode cX11_duties 0 = .ok (.aload_n 0, 1) ∧ decode cX11_duties 1 = .ok (.iconst 0, 1) ∧ decode cX11_duties 2 = .ok (.putfield 1, 3) ∧ decode cX11_duties 5 = .ok (.aload_n 0, 1) ∧ decode cX11_duties 6 = .ok (.aload_n 0, 1) ∧ decode cX11_duties 7 = .ok (.getfield 242, 3) ∧ decode cX11_duties 10 = .ok (.putfield 247, 3) ∧ decode cX11_duties 13 = .ok (.aload_n 0, 1) ∧ decode cX11_duties 14 = .ok (.iconst 0, 1) ∧ decode cX11_duties 15 = .ok (.putfield 242, 3) ∧ decode cX11_duties 18 = .ok (.aload_n 0, 1) ∧ decode cX11_duties 19 = .ok (.iconst 0, 1) := by decide +kernel
theorem dX11_duties_0 : decode cX11_duties 0 = .ok (.aload_n 0, 1) := dX11_duties_all0.1
theorem dX11_duties_1 : decode cX11_duties 1 = .ok (.iconst 0, 1) := dX11_duties_all0.2.1
theorem dX11_duties_2 : decode cX11_duties 2 = .ok (.putfield 1, 3) := dX11_duties_all0.2.2.1
theorem dX11_duties_5 : decode cX11_duties 5 = .ok (.aload_n 0, 1) := dX11_duties_all0.2.2.2.1
theorem dX11_duties_6 : decode cX11_duties 6 = .ok (.aload_n 0, 1) := dX11_duties_all0.2.2.2.2.1
theorem dX11_duties_7 : decode cX11_duties 7 = .ok (.getfield 242, 3) := dX11_duties_all0.2.2.2.2.2.1
theorem dX11_duties_10 : decode cX11_duties 10 = .ok (.putfield 247, 3) := dX11_duties_all0.2.2.2.2.2.2.1
theorem dX11_duties_13 : decode cX11_duties 13 = .ok (.aload_n 0, 1) := dX11_duties_all0.2.2.2.2.2.2.2.1
theorem dX11_duties_14 : decode cX11_duties 14 = .ok (.iconst 0, 1) := dX11_duties_all0.2.2.2.2.2.2.2.2.1
theorem dX11_duties_15 : decode cX11_duties 15 = .ok (.putfield 242, 3) := dX11_duties_all0.2.2.2.2.2.2.2.2.2.1
theorem dX11_duties_18 : decode cX11_duties 18 = .ok (.aload_n 0, 1) := dX11_duties_all0.2.2.2.2.2.2.2.2.2.2.1
theorem dX11_duties_19 : decode cX11_duties 19 = .ok (.iconst 0, 1) := dX11_duties_all0.2.2.2.2.2.2.2.2.2.2.2
theorem dX11_duties_all1 : decode cX11_duties 20 = .ok (.putfield 250, 3) ∧ decode cX11_duties 23 = .ok (.aload_n 0, 1) ∧ decode cX11_duties 24 = .ok (.iconst 0, 1) ∧ decode cX11_duties 25 = .ok (.putfield 271, 3) ∧ decode cX11_duties 28 = .ok (.aload_n 0, 1) ∧ decode cX11_duties 29 = .ok (.iconst 0, 1) ∧ decode cX11_duties 30 = .ok (.putfield 287, 3) ∧ decode cX11_duties 33 = .ok (.aload_n 0, 1) ∧ decode cX11_duties 34 = .ok (.invokevirtual 280, 3) ∧ decode cX11_duties 37 = .ok (.aload_n 0, 1) ∧ decode cX11_duties 38 = .ok (.getfield 271, 3) ∧ decode cX11_duties 41 = .ok (.ifCond .ne 259, 3) := by decide +kernel
theorem dX11_duties_20 : decode cX11_duties 20 = .ok (.putfield 250, 3) := dX11_duties_all1.1
theorem dX11_duties_23 : decode cX11_duties 23 = .ok (.aload_n 0, 1) := dX11_duties_all1.2.1
theorem dX11_duties_24 : decode cX11_duties 24 = .ok (.iconst 0, 1) := dX11_duties_all1.2.2.1
theorem dX11_duties_25 : decode cX11_duties 25 = .ok (.putfield 271, 3) := dX11_duties_all1.2.2.2.1
theorem dX11_duties_28 : decode cX11_duties 28 = .ok (.aload_n 0, 1) := dX11_duties_all1.2.2.2.2.1
theorem dX11_duties_29 : decode cX11_duties 29 = .ok (.iconst 0, 1) := dX11_duties_all1.2.2.2.2.2.1
theorem dX11_duties_30 : decode cX11_duties 30 = .ok (.putfield 287, 3) := dX11_duties_all1.2.2.2.2.2.2.1
theorem dX11_duties_33 : decode cX11_duties 33 = .ok (.aload_n 0, 1) := dX11_duties_all1.2.2.2.2.2.2.2.1
theorem dX11_duties_34 : decode cX11_duties 34 = .ok (.invokevirtual 280, 3) := dX11_duties_all1.2.2.2.2.2.2.2.2.1
theorem dX11_duties_37 : decode cX11_duties 37 = .ok (.aload_n 0, 1) := dX11_duties_all1.2.2.2.2.2.2.2.2.2.1
theorem dX11_duties_38 : decode cX11_duties 38 = .ok (.getfield 271, 3) := dX11_duties_all1.2.2.2.2.2.2.2.2.2.2.1
theorem dX11_duties_41 : decode cX11_duties 41 = .ok (.ifCond .ne 259, 3) := dX11_duties_all1.2.2.2.2.2.2.2.2.2.2.2
theorem dX11_duties_all2 : decode cX11_duties 44 = .ok (.aload_n 0, 1) ∧ decode cX11_duties 45 = .ok (.getfield 259, 3) ∧ decode cX11_duties 48 = .ok (.iconst 1, 1) ∧ decode cX11_duties 49 = .ok (.if_icmp .eq 251, 3) ∧ decode cX11_duties 52 = .ok (.aload_n 0, 1) ∧ decode cX11_duties 53 = .ok (.invokevirtual 290, 3) ∧ decode cX11_duties 56 = .ok (.lstore_n 1, 1) ∧ decode cX11_duties 57 = .ok (.lload_n 1, 1) ∧ decode cX11_duties 58 = .ok (.ldc2_w 294, 3) ∧ decode cX11_duties 61 = .ok (.lcmp, 1) ∧ decode cX11_duties 62 = .ok (.ifCond .ne 7, 3) ∧ decode cX11_duties 65 = .ok (.iconst 0, 1) := by decide +kernel
theorem dX11_duties_44 : decode cX11_duties 44 = .ok (.aload_n 0, 1) := dX11_duties_all2.1
theorem dX11_duties_45 : decode cX11_duties 45 = .ok (.getfield 259, 3) := dX11_duties_all2.2.1
theorem dX11_duties_48 : decode cX11_duties 48 = .ok (.iconst 1, 1) := dX11_duties_all2.2.2.1
theorem dX11_duties_49 : decode cX11_duties 49 = .ok (.if_icmp .eq 251, 3) := dX11_duties_all2.2.2.2.1
theorem dX11_duties_52 : decode cX11_duties 52 = .ok (.aload_n 0, 1) := dX11_duties_all2.2.2.2.2.1
theorem dX11_duties_53 : decode cX11_duties 53 = .ok (.invokevirtual 290, 3) := dX11_duties_all2.2.2.2.2.2.1
theorem dX11_duties_56 : decode cX11_duties 56 = .ok (.lstore_n 1, 1) := dX11_duties_all2.2.2.2.2.2.2.1
theorem dX11_duties_57 : decode cX11_duties 57 = .ok (.lload_n 1, 1) := dX11_duties_all2.2.2.2.2.2.2.2.1
theorem dX11_duties_58 : decode cX11_duties 58 = .ok (.ldc2_w 294, 3) := dX11_duties_all2.2.2.2.2.2.2.2.2.1
theorem dX11_duties_61 : decode cX11_duties 61 = .ok (.lcmp, 1) := dX11_duties_all2.2.2.2.2.2.2.2.2.2.1
theorem dX11_duties_62 : decode cX11_duties 62 = .ok (.ifCond .ne 7, 3) := dX11_duties_all2.2.2.2.2.2.2.2.2.2.2.1
theorem dX11_duties_65 : decode cX11_duties 65 = .ok (.iconst 0, 1) := dX11_duties_all2.2.2.2.2.2.2.2.2.2.2.2
theorem dX11_duties_all3 : decode cX11_duties 66 = .ok (.goto 41, 3) ∧ decode cX11_duties 69 = .ok (.lload_n 1, 1) ∧ decode cX11_duties 70 = .ok (.ldc2_w 296, 3) ∧ decode cX11_duties 73 = .ok (.lcmp, 1) ∧ decode cX11_duties 74 = .ok (.ifCond .ne 7, 3) ∧ decode cX11_duties 77 = .ok (.iconst 1, 1) ∧ decode cX11_duties 78 = .ok (.goto 29, 3) ∧ decode cX11_duties 81 = .ok (.lload_n 1, 1) ∧ decode cX11_duties 82 = .ok (.ldc2_w 298, 3) ∧ decode cX11_duties 85 = .ok (.lcmp, 1) ∧ decode cX11_duties 86 = .ok (.ifCond .ne 7, 3) ∧ decode cX11_duties 89 = .ok (.iconst 2, 1) := by decide +kernel
theorem dX11_duties_66 : decode cX11_duties 66 = .ok (.goto 41, 3) := dX11_duties_all3.1
theorem dX11_duties_69 : decode cX11_duties 69 = .ok (.lload_n 1, 1) := dX11_duties_all3.2.1
theorem dX11_duties_70 : decode cX11_duties 70 = .ok (.ldc2_w 296, 3) := dX11_duties_all3.2.2.1
theorem dX11_duties_73 : decode cX11_duties 73 = .ok (.lcmp, 1) := dX11_duties_all3.2.2.2.1
theorem dX11_duties_74 : decode cX11_duties 74 = .ok (.ifCond .ne 7, 3) := dX11_duties_all3.2.2.2.2.1
theorem dX11_duties_77 : decode cX11_duties 77 = .ok (.iconst 1, 1) := dX11_duties_all3.2.2.2.2.2.1
theorem dX11_duties_78 : decode cX11_duties 78 = .ok (.goto 29, 3) := dX11_duties_all3.2.2.2.2.2.2.1
theorem dX11_duties_81 : decode cX11_duties 81 = .ok (.lload_n 1, 1) := dX11_duties_all3.2.2.2.2.2.2.2.1
theorem dX11_duties_82 : decode cX11_duties 82 = .ok (.ldc2_w 298, 3) := dX11_duties_all3.2.2.2.2.2.2.2.2.1
theorem dX11_duties_85 : decode cX11_duties 85 = .ok (.lcmp, 1) := dX11_duties_all3.2.2.2.2.2.2.2.2.2.1
theorem dX11_duties_86 : decode cX11_duties 86 = .ok (.ifCond .ne 7, 3) := dX11_duties_all3.2.2.2.2.2.2.2.2.2.2.1
theorem dX11_duties_89 : decode cX11_duties 89 = .ok (.iconst 2, 1) := dX11_duties_all3.2.2.2.2.2.2.2.2.2.2.2
theorem dX11_duties_all4 : decode cX11_duties 90 = .ok (.goto 17, 3) ∧ decode cX11_duties 93 = .ok (.lload_n 1, 1) ∧ decode cX11_duties 94 = .ok (.ldc2_w 300, 3) ∧ decode cX11_duties 97 = .ok (.lcmp, 1) ∧ decode cX11_duties 98 = .ok (.ifCond .ne 7, 3) ∧ decode cX11_duties 101 = .ok (.iconst 3, 1) ∧ decode cX11_duties 102 = .ok (.goto 5, 3) ∧ decode cX11_duties 105 = .ok (.ldc 139, 2) ∧ decode cX11_duties 107 = .ok (.istore_n 3, 1) ∧ decode cX11_duties 108 = .ok (.iload_n 3, 1) ∧ decode cX11_duties 109 = .ok (.ldc 139, 2) ∧ decode cX11_duties 111 = .ok (.if_icmp .eq 17, 3) := by decide +kernel
theorem dX11_duties_90 : decode cX11_duties 90 = .ok (.goto 17, 3) := dX11_duties_all4.1
theorem dX11_duties_93 : decode cX11_duties 93 = .ok (.lload_n 1, 1) := dX11_duties_all4.2.1
theorem dX11_duties_94 : decode cX11_duties 94 = .ok (.ldc2_w 300, 3) := dX11_duties_all4.2.2.1
theorem dX11_duties_97 : decode cX11_duties 97 = .ok (.lcmp, 1) := dX11_duties_all4.2.2.2.1
theorem dX11_duties_98 : decode cX11_duties 98 = .ok (.ifCond .ne 7, 3) := dX11_duties_all4.2.2.2.2.1
theorem dX11_duties_101 : decode cX11_duties 101 = .ok (.iconst 3, 1) := dX11_duties_all4.2.2.2.2.2.1
theorem dX11_duties_102 : decode cX11_duties 102 = .ok (.goto 5, 3) := dX11_duties_all4.2.2.2.2.2.2.1
theorem dX11_duties_105 : decode cX11_duties 105 = .ok (.ldc 139, 2) := dX11_duties_all4.2.2.2.2.2.2.2.1
theorem dX11_duties_107 : decode cX11_duties 107 = .ok (.istore_n 3, 1) := dX11_duties_all4.2.2.2.2.2.2.2.2.1
theorem dX11_duties_108 : decode cX11_duties 108 = .ok (.iload_n 3, 1) := dX11_duties_all4.2.2.2.2.2.2.2.2.2.1
theorem dX11_duties_109 : decode cX11_duties 109 = .ok (.ldc 139, 2) := dX11_duties_all4.2.2.2.2.2.2.2.2.2.2.1
theorem dX11_duties_111 : decode cX11_duties 111 = .ok (.if_icmp .eq 17, 3) := dX11_duties_all4.2.2.2.2.2.2.2.2.2.2.2
theorem dX11_duties_all5 : decode cX11_duties 114 = .ok (.aload_n 0, 1) ∧ decode cX11_duties 115 = .ok (.getfield 287, 3) ∧ decode cX11_duties 118 = .ok (.bipush 12, 2) ∧ decode cX11_duties 120 = .ok (.if_icmp .ne 8, 3) ∧ decode cX11_duties 123 = .ok (.aload_n 0, 1) ∧ decode cX11_duties 124 = .ok (.iconst 3, 1) ∧ decode cX11_duties 125 = .ok (.invokevirtual 277, 3) ∧ decode cX11_duties 128 = .ok (.aload_n 0, 1) ∧ decode cX11_duties 129 = .ok (.iload_n 3, 1) ∧ decode cX11_duties 130 = .ok (.ldc 139, 2) ∧ decode cX11_duties 132 = .ok (.if_icmp .eq 7, 3) ∧ decode cX11_duties 135 = .ok (.iconst 1, 1) := by decide +kernel
theorem dX11_duties_114 : decode cX11_duties 114 = .ok (.aload_n 0, 1) := dX11_duties_all5.1
theorem dX11_duties_115 : decode cX11_duties 115 = .ok (.getfield 287, 3) := dX11_duties_all5.2.1
theorem dX11_duties_118 : decode cX11_duties 118 = .ok (.bipush 12, 2) := dX11_duties_all5.2.2.1
theorem dX11_duties_120 : decode cX11_duties 120 = .ok (.if_icmp .ne 8, 3) := dX11_duties_all5.2.2.2.1
theorem dX11_duties_123 : decode cX11_duties 123 = .ok (.aload_n 0, 1) := dX11_duties_all5.2.2.2.2.1
theorem dX11_duties_124 : decode cX11_duties 124 = .ok (.iconst 3, 1) := dX11_duties_all5.2.2.2.2.2.1
theorem dX11_duties_125 : decode cX11_duties 125 = .ok (.invokevirtual 277, 3) := dX11_duties_all5.2.2.2.2.2.2.1
theorem dX11_duties_128 : decode cX11_duties 128 = .ok (.aload_n 0, 1) := dX11_duties_all5.2.2.2.2.2.2.2.1
theorem dX11_duties_129 : decode cX11_duties 129 = .ok (.iload_n 3, 1) := dX11_duties_all5.2.2.2.2.2.2.2.2.1
theorem dX11_duties_130 : decode cX11_duties 130 = .ok (.ldc 139, 2) := dX11_duties_all5.2.2.2.2.2.2.2.2.2.1
theorem dX11_duties_132 : decode cX11_duties 132 = .ok (.if_icmp .eq 7, 3) := dX11_duties_all5.2.2.2.2.2.2.2.2.2.2.1
theorem dX11_duties_135 : decode cX11_duties 135 = .ok (.iconst 1, 1) := dX11_duties_all5.2.2.2.2.2.2.2.2.2.2.2
theorem dX11_duties_all6 : decode cX11_duties 136 = .ok (.goto 4, 3) ∧ decode cX11_duties 139 = .ok (.iconst 0, 1) ∧ decode cX11_duties 140 = .ok (.invokevirtual 283, 3) ∧ decode cX11_duties 143 = .ok (.iconst (-1), 1) ∧ decode cX11_duties 144 = .ok (.istore 4, 2) ∧ decode cX11_duties 146 = .ok (.aload_n 0, 1) ∧ decode cX11_duties 147 = .ok (.getfield 271, 3) ∧ decode cX11_duties 150 = .ok (.ifCond .ne 25, 3) ∧ decode cX11_duties 153 = .ok (.aload_n 0, 1) ∧ decode cX11_duties 154 = .ok (.bipush 62, 2) ∧ decode cX11_duties 156 = .ok (.invokevirtual 302, 3) ∧ decode cX11_duties 159 = .ok (.ifCond .eq 16, 3) := by decide +kernel
theorem dX11_duties_136 : decode cX11_duties 136 = .ok (.goto 4, 3) := dX11_duties_all6.1
theorem dX11_duties_139 : decode cX11_duties 139 = .ok (.iconst 0, 1) := dX11_duties_all6.2.1
theorem dX11_duties_140 : decode cX11_duties 140 = .ok (.invokevirtual 283, 3) := dX11_duties_all6.2.2.1
theorem dX11_duties_143 : decode cX11_duties 143 = .ok (.iconst (-1), 1) := dX11_duties_all6.2.2.2.1
theorem dX11_duties_144 : decode cX11_duties 144 = .ok (.istore 4, 2) := dX11_duties_all6.2.2.2.2.1
theorem dX11_duties_146 : decode cX11_duties 146 = .ok (.aload_n 0, 1) := dX11_duties_all6.2.2.2.2.2.1
theorem dX11_duties_147 : decode cX11_duties 147 = .ok (.getfield 271, 3) := dX11_duties_all6.2.2.2.2.2.2.1
theorem dX11_duties_150 : decode cX11_duties 150 = .ok (.ifCond .ne 25, 3) := dX11_duties_all6.2.2.2.2.2.2.2.1
theorem dX11_duties_153 : decode cX11_duties 153 = .ok (.aload_n 0, 1) := dX11_duties_all6.2.2.2.2.2.2.2.2.1
theorem dX11_duties_154 : decode cX11_duties 154 = .ok (.bipush 62, 2) := dX11_duties_all6.2.2.2.2.2.2.2.2.2.1
theorem dX11_duties_156 : decode cX11_duties 156 = .ok (.invokevirtual 302, 3) := dX11_duties_all6.2.2.2.2.2.2.2.2.2.2.1
theorem dX11_duties_159 : decode cX11_duties 159 = .ok (.ifCond .eq 16, 3) := dX11_duties_all6.2.2.2.2.2.2.2.2.2.2.2
theorem dX11_duties_all7 : decode cX11_duties 162 = .ok (.aload_n 0, 1) ∧ decode cX11_duties 163 = .ok (.invokevirtual 280, 3) ∧ decode cX11_duties 166 = .ok (.aload_n 0, 1) ∧ decode cX11_duties 167 = .ok (.sipush 9999, 3) ∧ decode cX11_duties 170 = .ok (.invokevirtual 305, 3) ∧ decode cX11_duties 173 = .ok (.istore 4, 2) ∧ decode cX11_duties 175 = .ok (.aload_n 0, 1) ∧ decode cX11_duties 176 = .ok (.getfield 271, 3) ∧ decode cX11_duties 179 = .ok (.ifCond .ne 23, 3) ∧ decode cX11_duties 182 = .ok (.aload_n 0, 1) ∧ decode cX11_duties 183 = .ok (.aload_n 0, 1) ∧ decode cX11_duties 184 = .ok (.invokevirtual 290, 3) := by decide +kernel
theorem dX11_duties_162 : decode cX11_duties 162 = .ok (.aload_n 0, 1) := dX11_duties_all7.1
theorem dX11_duties_163 : decode cX11_duties 163 = .ok (.invokevirtual 280, 3) := dX11_duties_all7.2.1
theorem dX11_duties_166 : decode cX11_duties 166 = .ok (.aload_n 0, 1) := dX11_duties_all7.2.2.1
theorem dX11_duties_167 : decode cX11_duties 167 = .ok (.sipush 9999, 3) := dX11_duties_all7.2.2.2.1
theorem dX11_duties_170 : decode cX11_duties 170 = .ok (.invokevirtual 305, 3) := dX11_duties_all7.2.2.2.2.1
theorem dX11_duties_173 : decode cX11_duties 173 = .ok (.istore 4, 2) := dX11_duties_all7.2.2.2.2.2.1
theorem dX11_duties_175 : decode cX11_duties 175 = .ok (.aload_n 0, 1) := dX11_duties_all7.2.2.2.2.2.2.1
theorem dX11_duties_176 : decode cX11_duties 176 = .ok (.getfield 271, 3) := dX11_duties_all7.2.2.2.2.2.2.2.1
theorem dX11_duties_179 : decode cX11_duties 179 = .ok (.ifCond .ne 23, 3) := dX11_duties_all7.2.2.2.2.2.2.2.2.1
theorem dX11_duties_182 : decode cX11_duties 182 = .ok (.aload_n 0, 1) := dX11_duties_all7.2.2.2.2.2.2.2.2.2.1
theorem dX11_duties_183 : decode cX11_duties 183 = .ok (.aload_n 0, 1) := dX11_duties_all7.2.2.2.2.2.2.2.2.2.2.1
theorem dX11_duties_184 : decode cX11_duties 184 = .ok (.invokevirtual 290, 3) := dX11_duties_all7.2.2.2.2.2.2.2.2.2.2.2
theorem dX11_duties_all8 : decode cX11_duties 187 = .ok (.ldc2_w 308, 3) ∧ decode cX11_duties 190 = .ok (.lcmp, 1) ∧ decode cX11_duties 191 = .ok (.ifCond .ne 7, 3) ∧ decode cX11_duties 194 = .ok (.iconst 1, 1) ∧ decode cX11_duties 195 = .ok (.goto 4, 3) ∧ decode cX11_duties 198 = .ok (.iconst 0, 1) ∧ decode cX11_duties 199 = .ok (.invokevirtual 283, 3) ∧ decode cX11_duties 202 = .ok (.aload_n 0, 1) ∧ decode cX11_duties 203 = .ok (.getfield 271, 3) ∧ decode cX11_duties 206 = .ok (.ifCond .ne 12, 3) ∧ decode cX11_duties 209 = .ok (.aload_n 0, 1) ∧ decode cX11_duties 210 = .ok (.bipush 100, 2) := by decide +kernel
theorem dX11_duties_187 : decode cX11_duties 187 = .ok (.ldc2_w 308, 3) := dX11_duties_all8.1
theorem dX11_duties_190 : decode cX11_duties 190 = .ok (.lcmp, 1) := dX11_duties_all8.2.1
theorem dX11_duties_191 : decode cX11_duties 191 = .ok (.ifCond .ne 7, 3) := dX11_duties_all8.2.2.1
theorem dX11_duties_194 : decode cX11_duties 194 = .ok (.iconst 1, 1) := dX11_duties_all8.2.2.2.1
theorem dX11_duties_195 : decode cX11_duties 195 = .ok (.goto 4, 3) := dX11_duties_all8.2.2.2.2.1
theorem dX11_duties_198 : decode cX11_duties 198 = .ok (.iconst 0, 1) := dX11_duties_all8.2.2.2.2.2.1
theorem dX11_duties_199 : decode cX11_duties 199 = .ok (.invokevirtual 283, 3) := dX11_duties_all8.2.2.2.2.2.2.1
theorem dX11_duties_202 : decode cX11_duties 202 = .ok (.aload_n 0, 1) := dX11_duties_all8.2.2.2.2.2.2.2.1
theorem dX11_duties_203 : decode cX11_duties 203 = .ok (.getfield 271, 3) := dX11_duties_all8.2.2.2.2.2.2.2.2.1
theorem dX11_duties_206 : decode cX11_duties 206 = .ok (.ifCond .ne 12, 3) := dX11_duties_all8.2.2.2.2.2.2.2.2.2.1
theorem dX11_duties_209 : decode cX11_duties 209 = .ok (.aload_n 0, 1) := dX11_duties_all8.2.2.2.2.2.2.2.2.2.2.1
theorem dX11_duties_210 : decode cX11_duties 210 = .ok (.bipush 100, 2) := dX11_duties_all8.2.2.2.2.2.2.2.2.2.2.2
theorem dX11_duties_all9 : decode cX11_duties 212 = .ok (.invokevirtual 305, 3) ∧ decode cX11_duties 215 = .ok (.goto 4, 3) ∧ decode cX11_duties 218 = .ok (.iconst 0, 1) ∧ decode cX11_duties 219 = .ok (.istore 5, 2) ∧ decode cX11_duties 221 = .ok (.aload_n 0, 1) ∧ decode cX11_duties 222 = .ok (.getfield 271, 3) ∧ decode cX11_duties 225 = .ok (.ifCond .ne 13, 3) ∧ decode cX11_duties 228 = .ok (.aload_n 0, 1) ∧ decode cX11_duties 229 = .ok (.aload_n 0, 1) ∧ decode cX11_duties 230 = .ok (.bipush 59, 2) ∧ decode cX11_duties 232 = .ok (.invokevirtual 302, 3) ∧ decode cX11_duties 235 = .ok (.invokevirtual 283, 3) := by decide +kernel
theorem dX11_duties_212 : decode cX11_duties 212 = .ok (.invokevirtual 305, 3) := dX11_duties_all9.1
theorem dX11_duties_215 : decode cX11_duties 215 = .ok (.goto 4, 3) := dX11_duties_all9.2.1
theorem dX11_duties_218 : decode cX11_duties 218 = .ok (.iconst 0, 1) := dX11_duties_all9.2.2.1
theorem dX11_duties_219 : decode cX11_duties 219 = .ok (.istore 5, 2) := dX11_duties_all9.2.2.2.1
theorem dX11_duties_221 : decode cX11_duties 221 = .ok (.aload_n 0, 1) := dX11_duties_all9.2.2.2.2.1
theorem dX11_duties_222 : decode cX11_duties 222 = .ok (.getfield 271, 3) := dX11_duties_all9.2.2.2.2.2.1
theorem dX11_duties_225 : decode cX11_duties 225 = .ok (.ifCond .ne 13, 3) := dX11_duties_all9.2.2.2.2.2.2.1
theorem dX11_duties_228 : decode cX11_duties 228 = .ok (.aload_n 0, 1) := dX11_duties_all9.2.2.2.2.2.2.2.1
theorem dX11_duties_229 : decode cX11_duties 229 = .ok (.aload_n 0, 1) := dX11_duties_all9.2.2.2.2.2.2.2.2.1
theorem dX11_duties_230 : decode cX11_duties 230 = .ok (.bipush 59, 2) := dX11_duties_all9.2.2.2.2.2.2.2.2.2.1
theorem dX11_duties_232 : decode cX11_duties 232 = .ok (.invokevirtual 302, 3) := dX11_duties_all9.2.2.2.2.2.2.2.2.2.2.1
theorem dX11_duties_235 : decode cX11_duties 235 = .ok (.invokevirtual 283, 3) := dX11_duties_all9.2.2.2.2.2.2.2.2.2.2.2
theorem dX11_duties_all10 : decode cX11_duties 238 = .ok (.aload_n 0, 1) ∧ decode cX11_duties 239 = .ok (.getfield 271, 3) ∧ decode cX11_duties 242 = .ok (.ifCond .ne 55, 3) ∧ decode cX11_duties 245 = .ok (.aload_n 0, 1) ∧ decode cX11_duties 246 = .ok (.getfield 84, 3) ∧ decode cX11_duties 249 = .ok (.iconst 3, 1) ∧ decode cX11_duties 250 = .ok (.aload_n 0, 1) ∧ decode cX11_duties 251 = .ok (.getfield 287, 3) ∧ decode cX11_duties 254 = .ok (.imul, 1) ∧ decode cX11_duties 255 = .ok (.iload_n 3, 1) ∧ decode cX11_duties 256 = .ok (.iastore, 1) ∧ decode cX11_duties 257 = .ok (.aload_n 0, 1) := by decide +kernel
theorem dX11_duties_238 : decode cX11_duties 238 = .ok (.aload_n 0, 1) := dX11_duties_all10.1
theorem dX11_duties_239 : decode cX11_duties 239 = .ok (.getfield 271, 3) := dX11_duties_all10.2.1
theorem dX11_duties_242 : decode cX11_duties 242 = .ok (.ifCond .ne 55, 3) := dX11_duties_all10.2.2.1
theorem dX11_duties_245 : decode cX11_duties 245 = .ok (.aload_n 0, 1) := dX11_duties_all10.2.2.2.1
theorem dX11_duties_246 : decode cX11_duties 246 = .ok (.getfield 84, 3) := dX11_duties_all10.2.2.2.2.1
theorem dX11_duties_249 : decode cX11_duties 249 = .ok (.iconst 3, 1) := dX11_duties_all10.2.2.2.2.2.1
theorem dX11_duties_250 : decode cX11_duties 250 = .ok (.aload_n 0, 1) := dX11_duties_all10.2.2.2.2.2.2.1
theorem dX11_duties_251 : decode cX11_duties 251 = .ok (.getfield 287, 3) := dX11_duties_all10.2.2.2.2.2.2.2.1
theorem dX11_duties_254 : decode cX11_duties 254 = .ok (.imul, 1) := dX11_duties_all10.2.2.2.2.2.2.2.2.1
theorem dX11_duties_255 : decode cX11_duties 255 = .ok (.iload_n 3, 1) := dX11_duties_all10.2.2.2.2.2.2.2.2.2.1
theorem dX11_duties_256 : decode cX11_duties 256 = .ok (.iastore, 1) := dX11_duties_all10.2.2.2.2.2.2.2.2.2.2.1
theorem dX11_duties_257 : decode cX11_duties 257 = .ok (.aload_n 0, 1) := dX11_duties_all10.2.2.2.2.2.2.2.2.2.2.2
theorem dX11_duties_all11 : decode cX11_duties 258 = .ok (.getfield 84, 3) ∧ decode cX11_duties 261 = .ok (.iconst 3, 1) ∧ decode cX11_duties 262 = .ok (.aload_n 0, 1) ∧ decode cX11_duties 263 = .ok (.getfield 287, 3) ∧ decode cX11_duties 266 = .ok (.imul, 1) ∧ decode cX11_duties 267 = .ok (.iconst 1, 1) ∧ decode cX11_duties 268 = .ok (.iadd, 1) ∧ decode cX11_duties 269 = .ok (.iload 4, 2) ∧ decode cX11_duties 271 = .ok (.iastore, 1) ∧ decode cX11_duties 272 = .ok (.aload_n 0, 1) ∧ decode cX11_duties 273 = .ok (.getfield 84, 3) ∧ decode cX11_duties 276 = .ok (.iconst 3, 1) := by decide +kernel
theorem dX11_duties_258 : decode cX11_duties 258 = .ok (.getfield 84, 3) := dX11_duties_all11.1
theorem dX11_duties_261 : decode cX11_duties 261 = .ok (.iconst 3, 1) := dX11_duties_all11.2.1
theorem dX11_duties_262 : decode cX11_duties 262 = .ok (.aload_n 0, 1) := dX11_duties_all11.2.2.1
theorem dX11_duties_263 : decode cX11_duties 263 = .ok (.getfield 287, 3) := dX11_duties_all11.2.2.2.1
theorem dX11_duties_266 : decode cX11_duties 266 = .ok (.imul, 1) := dX11_duties_all11.2.2.2.2.1
theorem dX11_duties_267 : decode cX11_duties 267 = .ok (.iconst 1, 1) := dX11_duties_all11.2.2.2.2.2.1
theorem dX11_duties_268 : decode cX11_duties 268 = .ok (.iadd, 1) := dX11_duties_all11.2.2.2.2.2.2.1
theorem dX11_duties_269 : decode cX11_duties 269 = .ok (.iload 4, 2) := dX11_duties_all11.2.2.2.2.2.2.2.1
theorem dX11_duties_271 : decode cX11_duties 271 = .ok (.iastore, 1) := dX11_duties_all11.2.2.2.2.2.2.2.2.1
theorem dX11_duties_272 : decode cX11_duties 272 = .ok (.aload_n 0, 1) := dX11_duties_all11.2.2.2.2.2.2.2.2.2.1
theorem dX11_duties_273 : decode cX11_duties 273 = .ok (.getfield 84, 3) := dX11_duties_all11.2.2.2.2.2.2.2.2.2.2.1
theorem dX11_duties_276 : decode cX11_duties 276 = .ok (.iconst 3, 1) := dX11_duties_all11.2.2.2.2.2.2.2.2.2.2.2
theorem dX11_duties_all12 : decode cX11_duties 277 = .ok (.aload_n 0, 1) ∧ decode cX11_duties 278 = .ok (.getfield 287, 3) ∧ decode cX11_duties 281 = .ok (.imul, 1) ∧ decode cX11_duties 282 = .ok (.iconst 2, 1) ∧ decode cX11_duties 283 = .ok (.iadd, 1) ∧ decode cX11_duties 284 = .ok (.iload 5, 2) ∧ decode cX11_duties 286 = .ok (.iastore, 1) ∧ decode cX11_duties 287 = .ok (.aload_n 0, 1) ∧ decode cX11_duties 288 = .ok (.dup, 1) ∧ decode cX11_duties 289 = .ok (.getfield 287, 3) ∧ decode cX11_duties 292 = .ok (.iconst 1, 1) ∧ decode cX11_duties 293 = .ok (.iadd, 1) := by decide +kernel
theorem dX11_duties_277 : decode cX11_duties 277 = .ok (.aload_n 0, 1) := dX11_duties_all12.1
theorem dX11_duties_278 : decode cX11_duties 278 = .ok (.getfield 287, 3) := dX11_duties_all12.2.1
theorem dX11_duties_281 : decode cX11_duties 281 = .ok (.imul, 1) := dX11_duties_all12.2.2.1
theorem dX11_duties_282 : decode cX11_duties 282 = .ok (.iconst 2, 1) := dX11_duties_all12.2.2.2.1
theorem dX11_duties_283 : decode cX11_duties 283 = .ok (.iadd, 1) := dX11_duties_all12.2.2.2.2.1
theorem dX11_duties_284 : decode cX11_duties 284 = .ok (.iload 5, 2) := dX11_duties_all12.2.2.2.2.2.1
theorem dX11_duties_286 : decode cX11_duties 286 = .ok (.iastore, 1) := dX11_duties_all12.2.2.2.2.2.2.1
theorem dX11_duties_287 : decode cX11_duties 287 = .ok (.aload_n 0, 1) := dX11_duties_all12.2.2.2.2.2.2.2.1
theorem dX11_duties_288 : decode cX11_duties 288 = .ok (.dup, 1) := dX11_duties_all12.2.2.2.2.2.2.2.2.1
theorem dX11_duties_289 : decode cX11_duties 289 = .ok (.getfield 287, 3) := dX11_duties_all12.2.2.2.2.2.2.2.2.2.1
theorem dX11_duties_292 : decode cX11_duties 292 = .ok (.iconst 1, 1) := dX11_duties_all12.2.2.2.2.2.2.2.2.2.2.1
theorem dX11_duties_293 : decode cX11_duties 293 = .ok (.iadd, 1) := dX11_duties_all12.2.2.2.2.2.2.2.2.2.2.2
theorem dX11_duties_all13 : decode cX11_duties 294 = .ok (.putfield 287, 3) ∧ decode cX11_duties 297 = .ok (.goto (-260), 3) ∧ decode cX11_duties 300 = .ok (.aload_n 0, 1) ∧ decode cX11_duties 301 = .ok (.getfield 271, 3) ∧ decode cX11_duties 304 = .ok (.ifCond .le 20, 3) ∧ decode cX11_duties 307 = .ok (.aload_n 0, 1) ∧ decode cX11_duties 308 = .ok (.aload_n 0, 1) ∧ decode cX11_duties 309 = .ok (.getfield 271, 3) ∧ decode cX11_duties 312 = .ok (.putfield 310, 3) ∧ decode cX11_duties 315 = .ok (.ldc_w 313, 3) ∧ decode cX11_duties 318 = .ok (.aload_n 0, 1) ∧ decode cX11_duties 319 = .ok (.getfield 274, 3) := by decide +kernel
theorem dX11_duties_294 : decode cX11_duties 294 = .ok (.putfield 287, 3) := dX11_duties_all13.1
theorem dX11_duties_297 : decode cX11_duties 297 = .ok (.goto (-260), 3) := dX11_duties_all13.2.1
theorem dX11_duties_300 : decode cX11_duties 300 = .ok (.aload_n 0, 1) := dX11_duties_all13.2.2.1
theorem dX11_duties_301 : decode cX11_duties 301 = .ok (.getfield 271, 3) := dX11_duties_all13.2.2.2.1
theorem dX11_duties_304 : decode cX11_duties 304 = .ok (.ifCond .le 20, 3) := dX11_duties_all13.2.2.2.2.1
theorem dX11_duties_307 : decode cX11_duties 307 = .ok (.aload_n 0, 1) := dX11_duties_all13.2.2.2.2.2.1
theorem dX11_duties_308 : decode cX11_duties 308 = .ok (.aload_n 0, 1) := dX11_duties_all13.2.2.2.2.2.2.1
theorem dX11_duties_309 : decode cX11_duties 309 = .ok (.getfield 271, 3) := dX11_duties_all13.2.2.2.2.2.2.2.1
theorem dX11_duties_312 : decode cX11_duties 312 = .ok (.putfield 310, 3) := dX11_duties_all13.2.2.2.2.2.2.2.2.1
theorem dX11_duties_315 : decode cX11_duties 315 = .ok (.ldc_w 313, 3) := dX11_duties_all13.2.2.2.2.2.2.2.2.2.1
theorem dX11_duties_318 : decode cX11_duties 318 = .ok (.aload_n 0, 1) := dX11_duties_all13.2.2.2.2.2.2.2.2.2.2.1
theorem dX11_duties_319 : decode cX11_duties 319 = .ok (.getfield 274, 3) := dX11_duties_all13.2.2.2.2.2.2.2.2.2.2.2
theorem dX11_duties_all14 : decode cX11_duties 322 = .ok (.isub, 1) ∧ decode cX11_duties 323 = .ok (.ireturn, 1) ∧ decode cX11_duties 324 = .ok (.aload_n 0, 1) ∧ decode cX11_duties 325 = .ok (.aload_n 0, 1) ∧ decode cX11_duties 326 = .ok (.getfield 287, 3) ∧ decode cX11_duties 329 = .ok (.putfield 314, 3) ∧ decode cX11_duties 332 = .ok (.iconst 0, 1) ∧ decode cX11_duties 333 = .ok (.istore_n 1, 1) ∧ decode cX11_duties 334 = .ok (.iload_n 1, 1) ∧ decode cX11_duties 335 = .ok (.bipush 36, 2) ∧ decode cX11_duties 337 = .ok (.if_icmp .ge 21, 3) ∧ decode cX11_duties 340 = .ok (.aload_n 0, 1) := by decide +kernel
theorem dX11_duties_322 : decode cX11_duties 322 = .ok (.isub, 1) := dX11_duties_all14.1
theorem dX11_duties_323 : decode cX11_duties 323 = .ok (.ireturn, 1) := dX11_duties_all14.2.1
theorem dX11_duties_324 : decode cX11_duties 324 = .ok (.aload_n 0, 1) := dX11_duties_all14.2.2.1
theorem dX11_duties_325 : decode cX11_duties 325 = .ok (.aload_n 0, 1) := dX11_duties_all14.2.2.2.1
theorem dX11_duties_326 : decode cX11_duties 326 = .ok (.getfield 287, 3) := dX11_duties_all14.2.2.2.2.1
theorem dX11_duties_329 : decode cX11_duties 329 = .ok (.putfield 314, 3) := dX11_duties_all14.2.2.2.2.2.1
theorem dX11_duties_332 : decode cX11_duties 332 = .ok (.iconst 0, 1) := dX11_duties_all14.2.2.2.2.2.2.1
theorem dX11_duties_333 : decode cX11_duties 333 = .ok (.istore_n 1, 1) := dX11_duties_all14.2.2.2.2.2.2.2.1
theorem dX11_duties_334 : decode cX11_duties 334 = .ok (.iload_n 1, 1) := dX11_duties_all14.2.2.2.2.2.2.2.2.1
theorem dX11_duties_335 : decode cX11_duties 335 = .ok (.bipush 36, 2) := dX11_duties_all14.2.2.2.2.2.2.2.2.2.1
theorem dX11_duties_337 : decode cX11_duties 337 = .ok (.if_icmp .ge 21, 3) := dX11_duties_all14.2.2.2.2.2.2.2.2.2.2.1
theorem dX11_duties_340 : decode cX11_duties 340 = .ok (.aload_n 0, 1) := dX11_duties_all14.2.2.2.2.2.2.2.2.2.2.2
theorem dX11_duties_all15 : decode cX11_duties 341 = .ok (.getfield 81, 3) ∧ decode cX11_duties 344 = .ok (.iload_n 1, 1) ∧ decode cX11_duties 345 = .ok (.aload_n 0, 1) ∧ decode cX11_duties 346 = .ok (.getfield 84, 3) ∧ decode cX11_duties 349 = .ok (.iload_n 1, 1) ∧ decode cX11_duties 350 = .ok (.iaload, 1) ∧ decode cX11_duties 351 = .ok (.iastore, 1) ∧ decode cX11_duties 352 = .ok (.iinc 1 1, 3) ∧ decode cX11_duties 355 = .ok (.goto (-21), 3) ∧ decode cX11_duties 358 = .ok (.aload_n 0, 1) ∧ decode cX11_duties 359 = .ok (.getfield 314, 3) ∧ decode cX11_duties 362 = .ok (.ireturn, 1) := by decide +kernel
theorem dX11_duties_341 : decode cX11_duties 341 = .ok (.getfield 81, 3) := dX11_duties_all15.1
theorem dX11_duties_344 : decode cX11_duties 344 = .ok (.iload_n 1, 1) := dX11_duties_all15.2.1
theorem dX11_duties_345 : decode cX11_duties 345 = .ok (.aload_n 0, 1) := dX11_duties_all15.2.2.1
theorem dX11_duties_346 : decode cX11_duties 346 = .ok (.getfield 84, 3) := dX11_duties_all15.2.2.2.1
theorem dX11_duties_349 : decode cX11_duties 349 = .ok (.iload_n 1, 1) := dX11_duties_all15.2.2.2.2.1
theorem dX11_duties_350 : decode cX11_duties 350 = .ok (.iaload, 1) := dX11_duties_all15.2.2.2.2.2.1
theorem dX11_duties_351 : decode cX11_duties 351 = .ok (.iastore, 1) := dX11_duties_all15.2.2.2.2.2.2.1
theorem dX11_duties_352 : decode cX11_duties 352 = .ok (.iinc 1 1, 3) := dX11_duties_all15.2.2.2.2.2.2.2.1
theorem dX11_duties_355 : decode cX11_duties 355 = .ok (.goto (-21), 3) := dX11_duties_all15.2.2.2.2.2.2.2.2.1
theorem dX11_duties_358 : decode cX11_duties 358 = .ok (.aload_n 0, 1) := dX11_duties_all15.2.2.2.2.2.2.2.2.2.1
theorem dX11_duties_359 : decode cX11_duties 359 = .ok (.getfield 314, 3) := dX11_duties_all15.2.2.2.2.2.2.2.2.2.2.1
theorem dX11_duties_362 : decode cX11_duties 362 = .ok (.ireturn, 1) := dX11_duties_all15.2.2.2.2.2.2.2.2.2.2.2

theorem bo_or {P : Prop} [Decidable P] {r : Int32} (h : r = if P then 1 else 0) : (r.toInt = 1 ∧ P) ∨ (r.toInt = 0 ∧ ¬ P) := by
  by_cases c : P
  · rw [if_pos c] at h
    exact Or.inl ⟨by rw [h]; rfl, c⟩
  · rw [if_neg c] at h
    exact Or.inr ⟨by rw [h]; rfl, c⟩
theorem tK_wd {T : Nat → Int32} {L c : Nat} (h : c ≤ L) : ¬ mK T L c = 2 ∨ tK T L c < 5 ∨ tK T L c = 9 := by
  rcases mk_tk (T := T) h with q | q | q | q | q | ⟨-, q, -⟩
  · omega
  · omega
  · omega
  · omega
  · omega
  · have r := wdK_rng T (tS T L c) (tE T L c) 5 (by omega)
    omega
theorem tk_f {T : Nat → Int32} {L c : Nat} (h : c ≤ L) : (mK T L c = 1 ↔ tK T L c = 8) ∧ (mK T L c = 3 ↔ tK T L c = 5) ∧ ((mK T L c = 4 ∧ (T (tS T L c)).toInt = 59) ↔ tK T L c = 6) ∧ ((mK T L c = 4 ∧ (T (tS T L c)).toInt = 62) ↔ tK T L c = 7) ∧ (¬ mK T L c = 3 ∨ tE T L c ≤ tS T L c + 4) ∧ (¬ mK T L c = 2 ∨ tE T L c ≤ tS T L c + 6) ∧ (mK T L c = 1 ∨ tS T L c < tE T L c) := by
  have w := tK_wd (T := T) h
  have m := mk_lt (T := T) h
  rcases mk_tk (T := T) h with q | q | q | q | q | ⟨q, -, q2, q3, -⟩
  · refine ⟨?_, ?_, ?_, ?_, ?_, ?_, m⟩ <;> omega
  · refine ⟨?_, ?_, ?_, ?_, ?_, ?_, m⟩ <;> omega
  · refine ⟨?_, ?_, ?_, ?_, ?_, ?_, m⟩ <;> omega
  · refine ⟨?_, ?_, ?_, ?_, ?_, ?_, m⟩ <;> omega
  · refine ⟨?_, ?_, ?_, ?_, ?_, ?_, m⟩ <;> omega
  · refine ⟨?_, ?_, ?_, ?_, ?_, ?_, m⟩ <;> omega
theorem dpF_le (T : Nat → Int32) (L n : Nat) : dpF T L n ≤ L := by
  have h0 := poL_le T L n
  have e1 := (tE_le (T := T) h0).2.1
  have a1 := acP_le (T := T) e1
  have e4 := (tE_le (T := T) a1).2.1
  have e5 := (tE_le (T := T) e4).2.1
  have e6 := (tE_le (T := T) e5).2.1
  have p1 : paP T L (tE T L (acP T L (tE T L (poL T L n)))) ≤ L := by
    unfold paP
    (repeat' split) <;> omega
  have s1 := (tS_le (T := T) h0).2
  have s2 := (tS_le (T := T) a1).2
  have s3 := (tS_le (T := T) p1).2
  unfold dpF lnX
  (repeat' split) <;> omega

set_option maxHeartbeats 4000000 in
set_option maxRecDepth 100000 in
theorem ct_X11_duties (l : Launch) (D : va_G) (cI cY cJ cQ : ClassId) (sz : Nat) (md : Nat → Nat) (sd : Int32) (mth mst hn cn pn mq gn mln mnn ln mlt msz mcu mtk mfr mti mfa mfb an un lc td mtn : Int32) (mli mnl mtp : Nat → Int32)  (h1 : 0 ≤ ln.toInt) (h2 : ln.toInt ≤ 300) (h3 : 0 ≤ mln.toInt) (h4 : mln.toInt ≤ 12) (h5 : okB ln mtp)  : Met l yX11_duties wsX11_duties ({ frames := 4, cells := 0, slots := 0, locals := 86 }) (cPre D (ty4 cI cY cJ cQ) [(moC md sd mth mst hn cn pn mq gn mln mnn ln mlt msz mcu mtk mfr mti mfa mfb an un lc td mtn), (aI cI (md 31) 36 mli), (aI cI (md 33) 36 mnl), (aI cI (md 34) 300 mtp)] sz [.ref (md 64)]) (va_Qi (fun (r : Int32) (u : Int32 × (Nat → Int32) × Int32 × (Nat → Int32) × Int32 × Int32 × Int32 × Int32 × Int32 × Int32 × Int32 × Int32) => 0 ≤ u.1.toInt ∧ u.1.toInt ≤ 12 ∧ mdP mtp ln.toNatClampNeg r mlt mln u.2.2.2.2.1 u.1 mli u.2.1) (cB D (ty4 cI cY cJ cQ) (fun (u : Int32 × (Nat → Int32) × Int32 × (Nat → Int32) × Int32 × Int32 × Int32 × Int32 × Int32 × Int32 × Int32 × Int32) => [(moC md sd 0 mst hn cn pn mq gn u.1 u.2.2.1 0 u.2.2.2.2.1 u.2.2.2.2.2.1 u.2.2.2.2.2.2.1 u.2.2.2.2.2.2.2.1 u.2.2.2.2.2.2.2.2.1 u.2.2.2.2.2.2.2.2.2.1 u.2.2.2.2.2.2.2.2.2.2.1 u.2.2.2.2.2.2.2.2.2.2.2 an un lc td mtn), (aI cI (md 31) 36 u.2.1), (aI cI (md 33) 36 u.2.2.2.1), (aI cI (md 34) 300 mtp)]) (va_A [(moC md sd mth mst hn cn pn mq gn mln mnn ln mlt msz mcu mtk mfr mti mfa mfb an un lc td mtn), (aI cI (md 31) 36 mli), (aI cI (md 33) 36 mnl), (aI cI (md 34) 300 mtp)] sz)) (va_A [(moC md sd mth mst hn cn pn mq gn mln mnn ln mlt msz mcu mtk mfr mti mfa mfb an un lc td mtn), (aI cI (md 31) 36 mli), (aI cI (md 33) 36 mnl), (aI cI (md 34) 300 mtp)] sz)) 0 0 (va_A [(moC md sd mth mst hn cn pn mq gn mln mnn ln mlt msz mcu mtk mfr mti mfa mfb an un lc td mtn), (aI cI (md 31) 36 mli), (aI cI (md 33) 36 mnl), (aI cI (md 34) 300 mtp)] sz) := by
  refine Met.ofW (cc := cX11_duties) (maxL := 6) (ret := (some .int)) (by decide) rfl ?_
  intro p e s m args below meth c s₁ B hml hv
  obtain ⟨rfl, hsz, hP, hK, hD0, hN⟩ := hv
  have hx := B.exec
  have hb := B.bytes
  have hr := B.returns
  have hts := atoms_spec (ws := wsX11_duties) B.pre
  have hown : s.vm.findClass RX11 = some m.cls := findClass_of_methodNamed B.named
  have hlocks := B.notSynchronized
  subst hsz
  have hD := hD0.self (sz := s.heap.size)
  generalize hAe : va_A [(moC md sd mth mst hn cn pn mq gn mln mnn ln mlt msz mcu mtk mfr mti mfa mfb an un lc td mtn), (aI cI (md 31) 36 mli), (aI cI (md 33) 36 mnl), (aI cI (md 34) 300 mtp)] s.heap.size = A at hD ⊢
  have hA : ∀ q : Nat, s.heap.size ≤ q → A q := fun q h => by rw [← hAe]; exact Or.inr h
  have hS : va_S A s.heap s.heap [] := va_S.rf
  have hP : va_P D vwCl [(moC md sd mth mst hn cn pn mq gn mln mnn ln mlt msz mcu mtk mfr mti mfa mfb an un lc td mtn), (aI cI (md 31) 36 mli), (aI cI (md 33) 36 mnl), (aI cI (md 34) 300 mtp)] s.heap := hP
  have hl := lv_entry ([.ref (md 64)]) (n := 6) (Nat.le_of_ble_eq_true rfl)
  rw [lg_entry_eq]
  generalize (lg_sl ([.ref (md 64)]) ++ List.replicate (6 - (lg_sl ([.ref (md 64)])).length) Slot.unset).toArray = ls at hl ⊢
  have hl : lv_has ls 6 [(0, .ref (md 64))] := hl
  have km1000100 : (-1000100 : Int32).toInt = -1000100 := by decide
  have km1000000 : (-1000000 : Int32).toInt = -1000000 := by decide
  have km1 : (-1 : Int32).toInt = -1 := by decide
  have k0 : (0 : Int32).toInt = 0 := by decide
  have k1 : (1 : Int32).toInt = 1 := by decide
  have k2 : (2 : Int32).toInt = 2 := by decide
  have k3 : (3 : Int32).toInt = 3 := by decide
  have k12 : (12 : Int32).toInt = 12 := by decide
  have k36 : (36 : Int32).toInt = 36 := by decide
  have k59 : (59 : Int32).toInt = 59 := by decide
  have k62 : (62 : Int32).toInt = 62 := by decide
  have k100 : (100 : Int32).toInt = 100 := by decide
  have k9999 : (9999 : Int32).toInt = 9999 := by decide
  have kl7304564 : (7304564 : Int64).toInt = 7304564 := by decide
  have kl1885434484 : (1885434484 : Int64).toInt = 1885434484 := by decide
  have kl1936682084 : (1936682084 : Int64).toInt = 1936682084 := by decide
  have kl495673374574 : (495673374574 : Int64).toInt = 495673374574 := by decide
  have kl120282411197796 : (120282411197796 : Int64).toInt = 120282411197796 := by decide
  refine lv_aload_n hx hb dX11_duties_0 rfl (lv_at hl 0 rfl) ?_
  refine lv_iconst (v := 0) hx hb dX11_duties_1 (by decide) ?_
  refine va_put (D := D) (ci := 11) (v := .int 0) (ty := .int) (C := RX11) (T := TX11) (N := 64) hx hb hts inX11_duties_X11 tyX11 tyX11_ok nmX11 hown hK hP hD hS 0 rfl rfl 0 (by decide) (hts (Cond.fieldLink RX11 1 "PortRoomsModel" "thrown" "I") (List.mem_cons_of_mem _ (List.mem_append_left _ (List.mem_append_left _ (List.mem_of_getElem? (i := 0) rfl))))) (fun _ h9 => h9) rfl (tyX11_ok 0 (by decide)) rfl rfl (Nat.le_of_ble_eq_true rfl) dX11_duties_2 (fun H locs => ?_)
  clear hP hD hS
  intro hP hD hS
  replace hP : va_P D vwCl [(moC md sd (0) mst hn cn pn mq gn mln mnn ln mlt msz mcu mtk mfr mti mfa mfb an un lc td mtn), (aI cI (md 31) 36 mli), (aI cI (md 33) 36 mnl), (aI cI (md 34) 300 mtp)] H := hP
  replace hD : va_D A [(moC md sd (0) mst hn cn pn mq gn mln mnn ln mlt msz mcu mtk mfr mti mfa mfb an un lc td mtn), (aI cI (md 31) 36 mli), (aI cI (md 33) 36 mnl), (aI cI (md 34) 300 mtp)] := hD
  refine lv_aload_n hx hb dX11_duties_5 rfl (lv_at hl 0 rfl) ?_
  refine lv_aload_n hx hb dX11_duties_6 rfl (lv_at hl 0 rfl) ?_
  refine va_get (D := D) (ci := 11) (v := .int ln) (C := RX11) (T := TX11) (N := 64) hx hb hts inX11_duties_X11 hown hK hP 0 rfl rfl 35 (by decide) (hts (Cond.fieldLink RX11 242 "PortRoomsModel" "taped" "I") (List.mem_cons_of_mem _ (List.mem_append_left _ (List.mem_append_left _ (List.mem_of_getElem? (i := 1) rfl))))) (fun _ h9 => h9) rfl dX11_duties_7 ?_
  refine va_put (D := D) (ci := 11) (v := .int ln) (ty := .int) (C := RX11) (T := TX11) (N := 64) hx hb hts inX11_duties_X11 tyX11 tyX11_ok nmX11 hown hK hP hD hS 0 rfl rfl 37 (by decide) (hts (Cond.fieldLink RX11 247 "PortRoomsModel" "size" "I") (List.mem_cons_of_mem _ (List.mem_append_left _ (List.mem_append_left _ (List.mem_of_getElem? (i := 2) rfl))))) (fun _ h9 => h9) rfl (tyX11_ok 37 (by decide)) rfl rfl (Nat.le_of_ble_eq_true rfl) dX11_duties_10 (fun H locs => ?_)
  clear hP hD hS
  intro hP hD hS
  replace hP : va_P D vwCl [(moC md sd (0) mst hn cn pn mq gn mln mnn ln mlt ln mcu mtk mfr mti mfa mfb an un lc td mtn), (aI cI (md 31) 36 mli), (aI cI (md 33) 36 mnl), (aI cI (md 34) 300 mtp)] H := hP
  replace hD : va_D A [(moC md sd (0) mst hn cn pn mq gn mln mnn ln mlt ln mcu mtk mfr mti mfa mfb an un lc td mtn), (aI cI (md 31) 36 mli), (aI cI (md 33) 36 mnl), (aI cI (md 34) 300 mtp)] := hD
  refine lv_aload_n hx hb dX11_duties_13 rfl (lv_at hl 0 rfl) ?_
  refine lv_iconst (v := 0) hx hb dX11_duties_14 (by decide) ?_
  refine va_put (D := D) (ci := 11) (v := .int 0) (ty := .int) (C := RX11) (T := TX11) (N := 64) hx hb hts inX11_duties_X11 tyX11 tyX11_ok nmX11 hown hK hP hD hS 0 rfl rfl 35 (by decide) (hts (Cond.fieldLink RX11 242 "PortRoomsModel" "taped" "I") (List.mem_cons_of_mem _ (List.mem_append_left _ (List.mem_append_left _ (List.mem_of_getElem? (i := 1) rfl))))) (fun _ h9 => h9) rfl (tyX11_ok 35 (by decide)) rfl rfl (Nat.le_of_ble_eq_true rfl) dX11_duties_15 (fun H locs => ?_)
  clear hP hD hS
  intro hP hD hS
  replace hP : va_P D vwCl [(moC md sd (0) mst hn cn pn mq gn mln mnn (0) mlt ln mcu mtk mfr mti mfa mfb an un lc td mtn), (aI cI (md 31) 36 mli), (aI cI (md 33) 36 mnl), (aI cI (md 34) 300 mtp)] H := hP
  replace hD : va_D A [(moC md sd (0) mst hn cn pn mq gn mln mnn (0) mlt ln mcu mtk mfr mti mfa mfb an un lc td mtn), (aI cI (md 31) 36 mli), (aI cI (md 33) 36 mnl), (aI cI (md 34) 300 mtp)] := hD
  refine lv_aload_n hx hb dX11_duties_18 rfl (lv_at hl 0 rfl) ?_
  refine lv_iconst (v := 0) hx hb dX11_duties_19 (by decide) ?_
  refine va_put (D := D) (ci := 11) (v := .int 0) (ty := .int) (C := RX11) (T := TX11) (N := 64) hx hb hts inX11_duties_X11 tyX11 tyX11_ok nmX11 hown hK hP hD hS 0 rfl rfl 38 (by decide) (hts (Cond.fieldLink RX11 250 "PortRoomsModel" "cursor" "I") (List.mem_cons_of_mem _ (List.mem_append_left _ (List.mem_append_left _ (List.mem_of_getElem? (i := 3) rfl))))) (fun _ h9 => h9) rfl (tyX11_ok 38 (by decide)) rfl rfl (Nat.le_of_ble_eq_true rfl) dX11_duties_20 (fun H locs => ?_)
  clear hP hD hS
  intro hP hD hS
  replace hP : va_P D vwCl [(moC md sd (0) mst hn cn pn mq gn mln mnn (0) mlt ln (0) mtk mfr mti mfa mfb an un lc td mtn), (aI cI (md 31) 36 mli), (aI cI (md 33) 36 mnl), (aI cI (md 34) 300 mtp)] H := hP
  replace hD : va_D A [(moC md sd (0) mst hn cn pn mq gn mln mnn (0) mlt ln (0) mtk mfr mti mfa mfb an un lc td mtn), (aI cI (md 31) 36 mli), (aI cI (md 33) 36 mnl), (aI cI (md 34) 300 mtp)] := hD
  refine lv_aload_n hx hb dX11_duties_23 rfl (lv_at hl 0 rfl) ?_
  refine lv_iconst (v := 0) hx hb dX11_duties_24 (by decide) ?_
  refine va_put (D := D) (ci := 11) (v := .int 0) (ty := .int) (C := RX11) (T := TX11) (N := 64) hx hb hts inX11_duties_X11 tyX11 tyX11_ok nmX11 hown hK hP hD hS 0 rfl rfl 42 (by decide) (hts (Cond.fieldLink RX11 271 "PortRoomsModel" "fault" "I") (List.mem_cons_of_mem _ (List.mem_append_left _ (List.mem_append_left _ (List.mem_of_getElem? (i := 4) rfl))))) (fun _ h9 => h9) rfl (tyX11_ok 42 (by decide)) rfl rfl (Nat.le_of_ble_eq_true rfl) dX11_duties_25 (fun H locs => ?_)
  clear hP hD hS
  intro hP hD hS
  replace hP : va_P D vwCl [(moC md sd (0) mst hn cn pn mq gn mln mnn (0) mlt ln (0) mtk mfr mti (0) mfb an un lc td mtn), (aI cI (md 31) 36 mli), (aI cI (md 33) 36 mnl), (aI cI (md 34) 300 mtp)] H := hP
  replace hD : va_D A [(moC md sd (0) mst hn cn pn mq gn mln mnn (0) mlt ln (0) mtk mfr mti (0) mfb an un lc td mtn), (aI cI (md 31) 36 mli), (aI cI (md 33) 36 mnl), (aI cI (md 34) 300 mtp)] := hD
  refine lv_aload_n hx hb dX11_duties_28 rfl (lv_at hl 0 rfl) ?_
  refine lv_iconst (v := 0) hx hb dX11_duties_29 (by decide) ?_
  refine va_put (D := D) (ci := 11) (v := .int 0) (ty := .int) (C := RX11) (T := TX11) (N := 64) hx hb hts inX11_duties_X11 tyX11 tyX11_ok nmX11 hown hK hP hD hS 0 rfl rfl 32 (by decide) (hts (Cond.fieldLink RX11 287 "PortRoomsModel" "newLines" "I") (List.mem_cons_of_mem _ (List.mem_append_left _ (List.mem_append_left _ (List.mem_of_getElem? (i := 5) rfl))))) (fun _ h9 => h9) rfl (tyX11_ok 32 (by decide)) rfl rfl (Nat.le_of_ble_eq_true rfl) dX11_duties_30 (fun H locs => ?_)
  clear hP hD hS
  intro hP hD hS
  replace hP : va_P D vwCl [(moC md sd (0) mst hn cn pn mq gn mln (0) (0) mlt ln (0) mtk mfr mti (0) mfb an un lc td mtn), (aI cI (md 31) 36 mli), (aI cI (md 33) 36 mnl), (aI cI (md 34) 300 mtp)] H := hP
  replace hD : va_D A [(moC md sd (0) mst hn cn pn mq gn mln (0) (0) mlt ln (0) mtk mfr mti (0) mfb an un lc td mtn), (aI cI (md 31) 36 mli), (aI cI (md 33) 36 mnl), (aI cI (md 34) 300 mtp)] := hD
  refine lv_aload_n hx hb dX11_duties_33 rfl (lv_at hl 0 rfl) ?_
  refine st_v (wr := [(aI cI (md 31) 36 mli), (aI cI (md 33) 36 mnl)]) (va_runV (C := RX11) (As := []) (rest := []) ⟨hx, hb, hml, hown, hts⟩ (ct_X11_step l D cI cY cJ cQ _ md sd 0 mst hn cn pn mq gn mln 0 0 mlt ln 0 mtk mfr mti 0 mfb an un lc td mtn mtp (by omega) (by omega) (by omega) (by omega) (by assumption)) (cwV 0 hts gX11_duties_X11_step rfl rfl rfl ⟨rfl, cdX11_step⟩ ⟨Nat.le_of_ble_eq_true rfl, Nat.le_of_ble_eq_true rfl⟩) (cPreV (hP.sub [0, 3] rfl) hK (hD.sub [0, 3] (by decide +kernel) rfl) hN (ci := 11) (q0 := 0) rfl rfl) rfl rfl hl.1 rfl (lv_room (Nat.le_of_ble_eq_true rfl)) dX11_duties_34 ⟨Nat.le_of_ble_eq_true rfl, Nat.le_of_ble_eq_true rfl⟩) hP hD hS hA [0, 3] [1, 2] rfl rfl (by decide +kernel) (by decide +kernel) (fun u1 H locs hw2 => ?_)
  clear hP hD hS
  intro hP hD hS
  obtain ⟨mcu_4, mtk_5, mfr_6, mti_7⟩ := u1
  replace hw2 : mfr_6.toInt = (tS mtp ln.toNatClampNeg (0 : Int32).toNatClampNeg : Int) ∧ mcu_4.toInt = (tE mtp ln.toNatClampNeg (0 : Int32).toNatClampNeg : Int) ∧ mti_7.toInt = mcu_4.toInt ∧ mtk_5.toInt = mK mtp ln.toNatClampNeg (0 : Int32).toNatClampNeg ∧ (0 : Int32).toInt ≤ mfr_6.toInt ∧ mfr_6.toInt ≤ mcu_4.toInt ∧ mcu_4.toInt ≤ ln.toInt := hw2
  replace hP : va_P D vwCl [(aI cI (md 31) 36 mli), (aI cI (md 33) 36 mnl), (moC md sd (0) mst hn cn pn mq gn mln (0) (0) mlt ln mcu_4 mtk_5 mfr_6 mti_7 (0) mfb an un lc td mtn), (aI cI (md 34) 300 mtp)] H := hP
  replace hD : va_D A [(aI cI (md 31) 36 mli), (aI cI (md 33) 36 mnl), (moC md sd (0) mst hn cn pn mq gn mln (0) (0) mlt ln mcu_4 mtk_5 mfr_6 mti_7 (0) mfb an un lc td mtn), (aI cI (md 34) 300 mtp)] := hD
  refine st_loop 37 (fun _ => []) (fun (z : (Nat → Int32) × Int32 × Int32 × Int32 × Int32 × Int32 × Int32 × Int32) (ls : Array Slot) (H : Heap) (locs : List Loc) => match z with | (mnlq, hcu, htk, hfr, hti, hfa, hfb, hnn) => (0 ≤ hfr.toInt) ∧ (hfr.toInt ≤ hcu.toInt) ∧ (hcu.toInt ≤ ln.toInt) ∧ (hti.toInt = hcu.toInt) ∧ (0 ≤ hnn.toInt) ∧ (hnn.toInt ≤ 12) ∧ (duOk mtp ln.toNatClampNeg hnn.toNatClampNeg) ∧ (mlQ mtp ln.toNatClampNeg hnn.toNatClampNeg mnlq) ∧ ((hfa.toInt = 0 ∧ hfr.toInt = (tS mtp ln.toNatClampNeg (poL mtp ln.toNatClampNeg hnn.toNatClampNeg) : Int) ∧ hcu.toInt = (tE mtp ln.toNatClampNeg (poL mtp ln.toNatClampNeg hnn.toNatClampNeg) : Int) ∧ htk.toInt = mK mtp ln.toNatClampNeg (poL mtp ln.toNatClampNeg hnn.toNatClampNeg)) ∨ (¬ hfa.toInt = 0 ∧ hfa.toInt = dcF mtp ln.toNatClampNeg hnn.toNatClampNeg ∧ hfb.toInt = (dpF mtp ln.toNatClampNeg hnn.toNatClampNeg : Int) ∧ ¬ tK mtp ln.toNatClampNeg (poL mtp ln.toNatClampNeg hnn.toNatClampNeg) = 8)) ∧ lv_has ls 6 [(0, .ref (md 64))] ∧ va_P D vwCl [(aI cI (md 31) 36 mli), (aI cI (md 33) 36 mnlq), (moC md sd (0) mst hn cn pn mq gn mln hnn (0) mlt ln hcu htk hfr hti hfa hfb an un lc td mtn), (aI cI (md 34) 300 mtp)] H ∧ va_D A [(aI cI (md 31) 36 mli), (aI cI (md 33) 36 mnlq), (moC md sd (0) mst hn cn pn mq gn mln hnn (0) mlt ln hcu htk hfr hti hfa hfb an un lc td mtn), (aI cI (md 34) 300 mtp)] ∧ va_S A s.heap H locs) (fun (z : (Nat → Int32) × Int32 × Int32 × Int32 × Int32 × Int32 × Int32 × Int32) => match z with | (mnlq, hcu, htk, hfr, hti, hfa, hfb, hnn) => 13 - hnn.toInt) ?_ ?_ (mnl, mcu_4, mtk_5, mfr_6, mti_7, (0 : Int32), mfb, (0 : Int32)) ⟨(by omega), (by omega), (by omega), (by omega), (by omega), (by omega), (by exact duOk_0), (by exact mlQ_0), (by exact Or.inl (md_0 hw2.1 hw2.2.1 hw2.2.2.2.1)), lv_sub hl [0] rfl, hP, hD, hS⟩
  · rintro ⟨mnlq, hcu, htk, hfr, hti, hfa, hfb, hnn⟩ ls H locs ⟨g8, g9, g10, g11, g12, g13, g14, g15, g16, hl, hP, hD, hS⟩
    show (0 : Int) ≤ 13 - hnn.toInt
    omega
  · rintro n19 ih17 ⟨mnlq, hcu, htk, hfr, hti, hfa, hfb, hnn⟩ ls H locs ⟨g8, g9, g10, g11, g12, g13, g14, g15, g16, hl, hP, hD, hS⟩ hm18
    have hm18 : 13 - hnn.toInt < (n19 : Int) + 1 := hm18
    replace hl : lv_has ls 6 [(0, .ref (md 64))] := hl
    replace hP : va_P D vwCl [(aI cI (md 31) 36 mli), (aI cI (md 33) 36 mnlq), (moC md sd (0) mst hn cn pn mq gn mln hnn (0) mlt ln hcu htk hfr hti hfa hfb an un lc td mtn), (aI cI (md 34) 300 mtp)] H := hP
    replace hD : va_D A [(aI cI (md 31) 36 mli), (aI cI (md 33) 36 mnlq), (moC md sd (0) mst hn cn pn mq gn mln hnn (0) mlt ln hcu htk hfr hti hfa hfb an un lc td mtn), (aI cI (md 34) 300 mtp)] := hD
    show W _ _ _ _ _ _ _ _ _ _ _ _ _ _ _ (F0 m 37 ls [])
    refine lv_aload_n hx hb dX11_duties_37 rfl (lv_at hl 0 rfl) ?_
    refine va_get (D := D) (ci := 11) (v := .int hfa) (C := RX11) (T := TX11) (N := 64) hx hb hts inX11_duties_X11 hown hK hP 2 rfl rfl 42 (by decide) (hts (Cond.fieldLink RX11 271 "PortRoomsModel" "fault" "I") (List.mem_cons_of_mem _ (List.mem_append_left _ (List.mem_append_left _ (List.mem_of_getElem? (i := 4) rfl))))) (fun _ h9 => h9) rfl dX11_duties_38 ?_
    refine lv_if_ne (tgt := 300) hx hb dX11_duties_41 (by decide) (fun c20 => ?_) (fun c20 => ?_)
    · skip
      have f21 := i_ne c20
      refine lv_aload_n hx hb dX11_duties_300 rfl (lv_at hl 0 rfl) ?_
      refine va_get (D := D) (ci := 11) (v := .int hfa) (C := RX11) (T := TX11) (N := 64) hx hb hts inX11_duties_X11 hown hK hP 2 rfl rfl 42 (by decide) (hts (Cond.fieldLink RX11 271 "PortRoomsModel" "fault" "I") (List.mem_cons_of_mem _ (List.mem_append_left _ (List.mem_append_left _ (List.mem_of_getElem? (i := 4) rfl))))) (fun _ h9 => h9) rfl dX11_duties_301 ?_
      refine lv_if_le (tgt := 324) hx hb dX11_duties_304 (by decide) (fun c22 => ?_) (fun c22 => ?_)
      · skip
        have f23 := i_le c22
        refine lv_aload_n hx hb dX11_duties_324 rfl (lv_at hl 0 rfl) ?_
        refine lv_aload_n hx hb dX11_duties_325 rfl (lv_at hl 0 rfl) ?_
        refine va_get (D := D) (ci := 11) (v := .int hnn) (C := RX11) (T := TX11) (N := 64) hx hb hts inX11_duties_X11 hown hK hP 2 rfl rfl 32 (by decide) (hts (Cond.fieldLink RX11 287 "PortRoomsModel" "newLines" "I") (List.mem_cons_of_mem _ (List.mem_append_left _ (List.mem_append_left _ (List.mem_of_getElem? (i := 5) rfl))))) (fun _ h9 => h9) rfl dX11_duties_326 ?_
        refine va_put (D := D) (ci := 11) (v := .int hnn) (ty := .int) (C := RX11) (T := TX11) (N := 64) hx hb hts inX11_duties_X11 tyX11 tyX11_ok nmX11 hown hK hP hD hS 2 rfl rfl 30 (by decide) (hts (Cond.fieldLink RX11 314 "PortRoomsModel" "lines" "I") (List.mem_cons_of_mem _ (List.mem_append_left _ (List.mem_append_left _ (List.mem_of_getElem? (i := 17) rfl))))) (fun _ h9 => h9) rfl (tyX11_ok 30 (by decide)) rfl rfl (Nat.le_of_ble_eq_true rfl) dX11_duties_329 (fun H locs => ?_)
        clear hP hD hS
        intro hP hD hS
        replace hP : va_P D vwCl [(aI cI (md 31) 36 mli), (aI cI (md 33) 36 mnlq), (moC md sd (0) mst hn cn pn mq gn hnn hnn (0) mlt ln hcu htk hfr hti hfa hfb an un lc td mtn), (aI cI (md 34) 300 mtp)] H := hP
        replace hD : va_D A [(aI cI (md 31) 36 mli), (aI cI (md 33) 36 mnlq), (moC md sd (0) mst hn cn pn mq gn hnn hnn (0) mlt ln hcu htk hfr hti hfa hfb an un lc td mtn), (aI cI (md 34) 300 mtp)] := hD
        refine lv_iconst (v := 0) hx hb dX11_duties_332 (by decide) ?_
        refine lv_istore_n (lv' := [(1, .int 0), (0, .ref (md 64))]) hx hb dX11_duties_333 rfl hl (by decide) rfl (fun ls hl => ?_)
        refine st_loop 334 (fun _ => []) (fun (z : Int32 × (Nat → Int32)) (ls : Array Slot) (H : Heap) (locs : List Loc) => match z with | (q334_1, mliq) => (0 ≤ q334_1.toInt) ∧ (q334_1.toInt ≤ 36) ∧ (∀ j : Nat, (j : Int) < q334_1.toInt → mliq j = mnlq j) ∧ lv_has ls 6 [(0, .ref (md 64)), (1, .int q334_1)] ∧ va_P D vwCl [(aI cI (md 31) 36 mliq), (aI cI (md 33) 36 mnlq), (moC md sd (0) mst hn cn pn mq gn hnn hnn (0) mlt ln hcu htk hfr hti hfa hfb an un lc td mtn), (aI cI (md 34) 300 mtp)] H ∧ va_D A [(aI cI (md 31) 36 mliq), (aI cI (md 33) 36 mnlq), (moC md sd (0) mst hn cn pn mq gn hnn hnn (0) mlt ln hcu htk hfr hti hfa hfb an un lc td mtn), (aI cI (md 34) 300 mtp)] ∧ va_S A s.heap H locs) (fun (z : Int32 × (Nat → Int32)) => match z with | (q334_1, mliq) => 36 - q334_1.toInt) ?_ ?_ ((0 : Int32), mli) ⟨(by omega), (by omega), (by intro j hj; exfalso; omega), lv_sub hl [1, 0] rfl, hP, hD, hS⟩
        · rintro ⟨q334_1, mliq⟩ ls H locs ⟨g24, g25, g26, hl, hP, hD, hS⟩
          show (0 : Int) ≤ 36 - q334_1.toInt
          omega
        · rintro n29 ih27 ⟨q334_1, mliq⟩ ls H locs ⟨g24, g25, g26, hl, hP, hD, hS⟩ hm28
          have hm28 : 36 - q334_1.toInt < (n29 : Int) + 1 := hm28
          replace hl : lv_has ls 6 [(0, .ref (md 64)), (1, .int q334_1)] := hl
          replace hP : va_P D vwCl [(aI cI (md 31) 36 mliq), (aI cI (md 33) 36 mnlq), (moC md sd (0) mst hn cn pn mq gn hnn hnn (0) mlt ln hcu htk hfr hti hfa hfb an un lc td mtn), (aI cI (md 34) 300 mtp)] H := hP
          replace hD : va_D A [(aI cI (md 31) 36 mliq), (aI cI (md 33) 36 mnlq), (moC md sd (0) mst hn cn pn mq gn hnn hnn (0) mlt ln hcu htk hfr hti hfa hfb an un lc td mtn), (aI cI (md 34) 300 mtp)] := hD
          show W _ _ _ _ _ _ _ _ _ _ _ _ _ _ _ (F0 m 334 ls [])
          refine lv_iload_n hx hb dX11_duties_334 rfl (lv_at hl 1 rfl) ?_
          refine lv_bipush (v := 36) hx hb dX11_duties_335 (by decide) ?_
          refine lv_icmp_ge (tgt := 358) hx hb dX11_duties_337 (by decide) (fun c30 => ?_) (fun c30 => ?_)
          · skip
            have f31 := i_le c30
            refine lv_aload_n hx hb dX11_duties_358 rfl (lv_at hl 0 rfl) ?_
            refine va_get (D := D) (ci := 11) (v := .int hnn) (C := RX11) (T := TX11) (N := 64) hx hb hts inX11_duties_X11 hown hK hP 2 rfl rfl 30 (by decide) (hts (Cond.fieldLink RX11 314 "PortRoomsModel" "lines" "I") (List.mem_cons_of_mem _ (List.mem_append_left _ (List.mem_append_left _ (List.mem_of_getElem? (i := 17) rfl))))) (fun _ h9 => h9) rfl dX11_duties_359 ?_
            have clc32 := i_cl (x := hnn) (by omega)
            have hdr9 := dcF_rng (T := mtp) (L := ln.toNatClampNeg) (n := hnn.toNatClampNeg)
            have hgd9 : hfa.toInt = 0 ∧ hfr.toInt = (tS mtp ln.toNatClampNeg (poL mtp ln.toNatClampNeg hnn.toNatClampNeg) : Int) ∧ hcu.toInt = (tE mtp ln.toNatClampNeg (poL mtp ln.toNatClampNeg hnn.toNatClampNeg) : Int) ∧ htk.toInt = mK mtp ln.toNatClampNeg (poL mtp ln.toNatClampNeg hnn.toNatClampNeg) := by rcases g16 with h9 | h9 <;> first | exact h9 | (exfalso; omega)
            have hpl9 := poL_le mtp ln.toNatClampNeg hnn.toNatClampNeg
            have hmk9 := (tk_f (T := mtp) (L := ln.toNatClampNeg) hpl9).1
            have hP9 := hP.sub (ws' := [(moC md sd (0) mst hn cn pn mq gn hnn hnn (0) mlt ln hcu htk hfr hti hfa hfb an un lc td mtn), (aI cI (md 31) 36 mliq), (aI cI (md 33) 36 mnlq), (aI cI (md 34) 300 mtp)]) [2, 0, 1, 3] rfl
            have hD9 := hD.sub (ws' := [(moC md sd (0) mst hn cn pn mq gn hnn hnn (0) mlt ln hcu htk hfr hti hfa hfb an un lc td mtn), (aI cI (md 31) 36 mliq), (aI cI (md 33) 36 mnlq), (aI cI (md 34) 300 mtp)]) [2, 0, 1, 3] (by decide +kernel) rfl
            exact W.iret (v := hnn) hx hb hr (fun t ht hW => ⟨⟨hnn, (hnn, mliq, hnn, mnlq, mlt, ln, hcu, htk, hfr, hti, hfa, hfb), rfl, (by show 0 ≤ hnn.toInt ∧ hnn.toInt ≤ 12 ∧ mdP mtp ln.toNatClampNeg hnn mlt mln mlt hnn mli mliq; exact ⟨by omega, by omega, ⟨hnn.toNatClampNeg, by omega, g14, Or.inl ⟨by omega, by omega, rfl, by omega, fun j hj => (by have e9 := g15 j hj; rw [g26 (3 * j) (by omega), g26 (3 * j + 1) (by omega), g26 (3 * j + 2) (by omega)]; exact e9)⟩⟩⟩), by rw [ht]; exact hP9, va_K.moved hW.alike hK, hD9⟩, hS.F ht⟩) hS.2.2 dX11_duties_362
          · skip
            have f33 := i_nle c30
            refine lv_aload_n hx hb dX11_duties_340 rfl (lv_at hl 0 rfl) ?_
            refine va_get (D := D) (ci := 11) (v := .ref (md 31)) (C := RX11) (T := TX11) (N := 64) hx hb hts inX11_duties_X11 hown hK hP 2 rfl rfl 31 (by decide) (hts (Cond.fieldLink RX11 81 "PortRoomsModel" "line" "[I") (List.mem_cons_of_mem _ (List.mem_append_left _ (List.mem_append_left _ (List.mem_of_getElem? (i := 18) rfl))))) (fun _ h9 => h9) rfl dX11_duties_341 ?_
            refine lv_iload_n hx hb dX11_duties_344 rfl (lv_at hl 1 rfl) ?_
            refine lv_aload_n hx hb dX11_duties_345 rfl (lv_at hl 0 rfl) ?_
            refine va_get (D := D) (ci := 11) (v := .ref (md 33)) (C := RX11) (T := TX11) (N := 64) hx hb hts inX11_duties_X11 hown hK hP 2 rfl rfl 33 (by decide) (hts (Cond.fieldLink RX11 84 "PortRoomsModel" "newLine" "[I") (List.mem_cons_of_mem _ (List.mem_append_left _ (List.mem_append_left _ (List.mem_of_getElem? (i := 13) rfl))))) (fun _ h9 => h9) rfl dX11_duties_346 ?_
            refine lv_iload_n hx hb dX11_duties_349 rfl (lv_at hl 1 rfl) ?_
            refine va_iald hx hb hK hP 1 0 rfl rfl (i_in (by omega) (by omega)) dX11_duties_350 ?_
            refine lv_topi (fun v34 ev34 => ?_)
            refine va_iast hx hb hK hP hD hS 0 0 rfl rfl (i_in (by omega) (by omega)) dX11_duties_351 (fun H locs => ?_)
            clear hP hD hS
            intro hP hD hS
            replace hP : va_P D vwCl [(aI cI (md 31) 36 (upd mliq q334_1.toNatClampNeg v34)), (aI cI (md 33) 36 mnlq), (moC md sd (0) mst hn cn pn mq gn hnn hnn (0) mlt ln hcu htk hfr hti hfa hfb an un lc td mtn), (aI cI (md 34) 300 mtp)] H := hP
            replace hD : va_D A [(aI cI (md 31) 36 (upd mliq q334_1.toNatClampNeg v34)), (aI cI (md 33) 36 mnlq), (moC md sd (0) mst hn cn pn mq gn hnn hnn (0) mlt ln hcu htk hfr hti hfa hfb an un lc td mtn), (aI cI (md 34) 300 mtp)] := hD
            obtain ⟨v35, ev35⟩ : ∃ y : Int32, y = q334_1 + 1 := ⟨_, rfl⟩
            try have tv35 : v35.toInt = q334_1.toInt + 1 := by rw [ev35]; exact (i_add (x := q334_1) (y := (1 : Int32)) (by rw [k1]; omega) (by rw [k1]; omega)).trans (by rw [k1])
            refine lv_iinc (v := v35) (lv' := [(1, .int v35), (0, .ref (md 64))]) hx hb dX11_duties_352 hl (k := 1) rfl (by rw [ev35]; rfl) (by decide) rfl (fun ls hl => ?_)
            refine lv_goto (tgt := 334) hx hb dX11_duties_355 (by decide) ?_
            exact ih27 (v35, upd mliq q334_1.toNatClampNeg v34) ls H locs ⟨(by omega), (by omega), (by exact fun j hj => if e9 : j = q334_1.toNatClampNeg then (by rw [e9, upd_s]; assumption) else (by rw [upd_n _ _ e9]; exact g26 j (by have := i_cl (x := q334_1) (by omega); omega))), lv_sub hl [1, 0] rfl, hP.sub [0, 1, 2, 3] rfl, hD.sub [0, 1, 2, 3] (by decide +kernel) rfl, hS⟩ (by show 36 - v35.toInt < _; omega)
      · skip
        have f36 := i_nle c22
        refine lv_aload_n hx hb dX11_duties_307 rfl (lv_at hl 0 rfl) ?_
        refine lv_aload_n hx hb dX11_duties_308 rfl (lv_at hl 0 rfl) ?_
        refine va_get (D := D) (ci := 11) (v := .int hfa) (C := RX11) (T := TX11) (N := 64) hx hb hts inX11_duties_X11 hown hK hP 2 rfl rfl 42 (by decide) (hts (Cond.fieldLink RX11 271 "PortRoomsModel" "fault" "I") (List.mem_cons_of_mem _ (List.mem_append_left _ (List.mem_append_left _ (List.mem_of_getElem? (i := 4) rfl))))) (fun _ h9 => h9) rfl dX11_duties_309 ?_
        refine va_put (D := D) (ci := 11) (v := .int hfa) (ty := .int) (C := RX11) (T := TX11) (N := 64) hx hb hts inX11_duties_X11 tyX11 tyX11_ok nmX11 hown hK hP hD hS 2 rfl rfl 36 (by decide) (hts (Cond.fieldLink RX11 310 "PortRoomsModel" "latest" "I") (List.mem_cons_of_mem _ (List.mem_append_left _ (List.mem_append_left _ (List.mem_of_getElem? (i := 14) rfl))))) (fun _ h9 => h9) rfl (tyX11_ok 36 (by decide)) rfl rfl (Nat.le_of_ble_eq_true rfl) dX11_duties_312 (fun H locs => ?_)
        clear hP hD hS
        intro hP hD hS
        replace hP : va_P D vwCl [(aI cI (md 31) 36 mli), (aI cI (md 33) 36 mnlq), (moC md sd (0) mst hn cn pn mq gn mln hnn (0) hfa ln hcu htk hfr hti hfa hfb an un lc td mtn), (aI cI (md 34) 300 mtp)] H := hP
        replace hD : va_D A [(aI cI (md 31) 36 mli), (aI cI (md 33) 36 mnlq), (moC md sd (0) mst hn cn pn mq gn mln hnn (0) hfa ln hcu htk hfr hti hfa hfb an un lc td mtn), (aI cI (md 34) 300 mtp)] := hD
        have hdq9 := dpF_le mtp ln.toNatClampNeg hnn.toNatClampNeg
        have clc37 := i_cl (x := ln) (by omega)
        refine lv_ldcw hx hb hown (hts (Cond.constant RX11 313 (-1000100)) (List.mem_cons_of_mem _ (List.mem_append_left _ (List.mem_append_left _ (List.mem_of_getElem? (i := 15) rfl))))) dX11_duties_315 ?_
        refine lv_aload_n hx hb dX11_duties_318 rfl (lv_at hl 0 rfl) ?_
        refine va_get (D := D) (ci := 11) (v := .int hfb) (C := RX11) (T := TX11) (N := 64) hx hb hts inX11_duties_X11 hown hK hP 2 rfl rfl 43 (by decide) (hts (Cond.fieldLink RX11 274 "PortRoomsModel" "faultAt" "I") (List.mem_cons_of_mem _ (List.mem_append_left _ (List.mem_append_left _ (List.mem_of_getElem? (i := 16) rfl))))) (fun _ h9 => h9) rfl dX11_duties_319 ?_
        refine lv_isub hx hb dX11_duties_322 ?_
        refine lv_topi (fun v38 ev38 => ?_)
        try have tv38 : v38.toInt = (-1000100) - hfb.toInt := by rw [ev38]; exact (i_sub (x := ((-1000100) : Int32)) (y := hfb) (by rw [km1000100]; omega) (by rw [km1000100]; omega)).trans (by rw [km1000100])
        have clc39 := i_cl (x := hnn) (by omega)
        have hdr9 := dcF_rng (T := mtp) (L := ln.toNatClampNeg) (n := hnn.toNatClampNeg)
        have hbad9 : ¬ hfa.toInt = 0 ∧ hfa.toInt = dcF mtp ln.toNatClampNeg hnn.toNatClampNeg ∧ hfb.toInt = (dpF mtp ln.toNatClampNeg hnn.toNatClampNeg : Int) ∧ ¬ tK mtp ln.toNatClampNeg (poL mtp ln.toNatClampNeg hnn.toNatClampNeg) = 8 := by first | (rcases g16 with h9 | h9 <;> first | (exfalso; omega) | exact h9) | (rcases 0 with h9 | h9 <;> first | (exfalso; omega) | exact ⟨h9.1, h9.2.1, h9.2.2, by omega⟩)
        have hP9 := hP.sub (ws' := [(moC md sd (0) mst hn cn pn mq gn mln hnn (0) hfa ln hcu htk hfr hti hfa hfb an un lc td mtn), (aI cI (md 31) 36 mli), (aI cI (md 33) 36 mnlq), (aI cI (md 34) 300 mtp)]) [2, 0, 1, 3] rfl
        have hD9 := hD.sub (ws' := [(moC md sd (0) mst hn cn pn mq gn mln hnn (0) hfa ln hcu htk hfr hti hfa hfb an un lc td mtn), (aI cI (md 31) 36 mli), (aI cI (md 33) 36 mnlq), (aI cI (md 34) 300 mtp)]) [2, 0, 1, 3] (by decide +kernel) rfl
        exact W.iret (v := v38) hx hb hr (fun t ht hW => ⟨⟨v38, (mln, mli, hnn, mnlq, hfa, ln, hcu, htk, hfr, hti, hfa, hfb), rfl, (by show 0 ≤ mln.toInt ∧ mln.toInt ≤ 12 ∧ mdP mtp ln.toNatClampNeg v38 mlt mln hfa mln mli mli; exact ⟨by omega, by omega, ⟨hnn.toNatClampNeg, by omega, g14, Or.inr ⟨hbad9.2.2.2, by omega, hbad9.2.1, by omega, rfl, rfl⟩⟩⟩), by rw [ht]; exact hP9, va_K.moved hW.alike hK, hD9⟩, hS.F ht⟩) hS.2.2 dX11_duties_323
    · skip
      have f40 := i_eq c20
      have hT0 : hfa.toInt = 0 ∧ hfr.toInt = (tS mtp ln.toNatClampNeg (poL mtp ln.toNatClampNeg hnn.toNatClampNeg) : Int) ∧ hcu.toInt = (tE mtp ln.toNatClampNeg (poL mtp ln.toNatClampNeg hnn.toNatClampNeg) : Int) ∧ htk.toInt = mK mtp ln.toNatClampNeg (poL mtp ln.toNatClampNeg hnn.toNatClampNeg) := by rcases g16 with h9 | h9 <;> first | exact h9 | (exfalso; omega)
      have hpl9 := poL_le mtp ln.toNatClampNeg hnn.toNatClampNeg
      have hle0 : (poL mtp ln.toNatClampNeg hnn.toNatClampNeg) ≤ ln.toNatClampNeg := by omega
      have hel0 := tE_le (T := mtp) (L := ln.toNatClampNeg) hle0
      have hend0 := (tk_f (T := mtp) (L := ln.toNatClampNeg) hle0).1
      have hlen60 := (tk_f (T := mtp) (L := ln.toNatClampNeg) hle0).2.2.2.2.2.1
      have hkr0 := tK_rng (T := mtp) (L := ln.toNatClampNeg) hle0
      refine lv_aload_n hx hb dX11_duties_44 rfl (lv_at hl 0 rfl) ?_
      refine va_get (D := D) (ci := 11) (v := .int htk) (C := RX11) (T := TX11) (N := 64) hx hb hts inX11_duties_X11 hown hK hP 2 rfl rfl 39 (by decide) (hts (Cond.fieldLink RX11 259 "PortRoomsModel" "token" "I") (List.mem_cons_of_mem _ (List.mem_append_left _ (List.mem_append_left _ (List.mem_of_getElem? (i := 6) rfl))))) (fun _ h9 => h9) rfl dX11_duties_45 ?_
      refine lv_iconst (v := 1) hx hb dX11_duties_48 (by decide) ?_
      refine lv_icmp_eq (tgt := 300) hx hb dX11_duties_49 (by decide) (fun c41 => ?_) (fun c41 => ?_)
      · skip
        have f42 := i_eq c41
        refine lv_aload_n hx hb dX11_duties_300 rfl (lv_at hl 0 rfl) ?_
        refine va_get (D := D) (ci := 11) (v := .int hfa) (C := RX11) (T := TX11) (N := 64) hx hb hts inX11_duties_X11 hown hK hP 2 rfl rfl 42 (by decide) (hts (Cond.fieldLink RX11 271 "PortRoomsModel" "fault" "I") (List.mem_cons_of_mem _ (List.mem_append_left _ (List.mem_append_left _ (List.mem_of_getElem? (i := 4) rfl))))) (fun _ h9 => h9) rfl dX11_duties_301 ?_
        refine lv_if_le (tgt := 324) hx hb dX11_duties_304 (by decide) (fun c43 => ?_) (fun c43 => ?_)
        · skip
          have f44 := i_le c43
          refine lv_aload_n hx hb dX11_duties_324 rfl (lv_at hl 0 rfl) ?_
          refine lv_aload_n hx hb dX11_duties_325 rfl (lv_at hl 0 rfl) ?_
          refine va_get (D := D) (ci := 11) (v := .int hnn) (C := RX11) (T := TX11) (N := 64) hx hb hts inX11_duties_X11 hown hK hP 2 rfl rfl 32 (by decide) (hts (Cond.fieldLink RX11 287 "PortRoomsModel" "newLines" "I") (List.mem_cons_of_mem _ (List.mem_append_left _ (List.mem_append_left _ (List.mem_of_getElem? (i := 5) rfl))))) (fun _ h9 => h9) rfl dX11_duties_326 ?_
          refine va_put (D := D) (ci := 11) (v := .int hnn) (ty := .int) (C := RX11) (T := TX11) (N := 64) hx hb hts inX11_duties_X11 tyX11 tyX11_ok nmX11 hown hK hP hD hS 2 rfl rfl 30 (by decide) (hts (Cond.fieldLink RX11 314 "PortRoomsModel" "lines" "I") (List.mem_cons_of_mem _ (List.mem_append_left _ (List.mem_append_left _ (List.mem_of_getElem? (i := 17) rfl))))) (fun _ h9 => h9) rfl (tyX11_ok 30 (by decide)) rfl rfl (Nat.le_of_ble_eq_true rfl) dX11_duties_329 (fun H locs => ?_)
          clear hP hD hS
          intro hP hD hS
          replace hP : va_P D vwCl [(aI cI (md 31) 36 mli), (aI cI (md 33) 36 mnlq), (moC md sd (0) mst hn cn pn mq gn hnn hnn (0) mlt ln hcu htk hfr hti hfa hfb an un lc td mtn), (aI cI (md 34) 300 mtp)] H := hP
          replace hD : va_D A [(aI cI (md 31) 36 mli), (aI cI (md 33) 36 mnlq), (moC md sd (0) mst hn cn pn mq gn hnn hnn (0) mlt ln hcu htk hfr hti hfa hfb an un lc td mtn), (aI cI (md 34) 300 mtp)] := hD
          refine lv_iconst (v := 0) hx hb dX11_duties_332 (by decide) ?_
          refine lv_istore_n (lv' := [(1, .int 0), (0, .ref (md 64))]) hx hb dX11_duties_333 rfl hl (by decide) rfl (fun ls hl => ?_)
          refine st_loop 334 (fun _ => []) (fun (z : Int32 × (Nat → Int32)) (ls : Array Slot) (H : Heap) (locs : List Loc) => match z with | (q334_1, mliq) => (0 ≤ q334_1.toInt) ∧ (q334_1.toInt ≤ 36) ∧ (∀ j : Nat, (j : Int) < q334_1.toInt → mliq j = mnlq j) ∧ lv_has ls 6 [(0, .ref (md 64)), (1, .int q334_1)] ∧ va_P D vwCl [(aI cI (md 31) 36 mliq), (aI cI (md 33) 36 mnlq), (moC md sd (0) mst hn cn pn mq gn hnn hnn (0) mlt ln hcu htk hfr hti hfa hfb an un lc td mtn), (aI cI (md 34) 300 mtp)] H ∧ va_D A [(aI cI (md 31) 36 mliq), (aI cI (md 33) 36 mnlq), (moC md sd (0) mst hn cn pn mq gn hnn hnn (0) mlt ln hcu htk hfr hti hfa hfb an un lc td mtn), (aI cI (md 34) 300 mtp)] ∧ va_S A s.heap H locs) (fun (z : Int32 × (Nat → Int32)) => match z with | (q334_1, mliq) => 36 - q334_1.toInt) ?_ ?_ ((0 : Int32), mli) ⟨(by omega), (by omega), (by intro j hj; exfalso; omega), lv_sub hl [1, 0] rfl, hP, hD, hS⟩
          · rintro ⟨q334_1, mliq⟩ ls H locs ⟨g45, g46, g47, hl, hP, hD, hS⟩
            show (0 : Int) ≤ 36 - q334_1.toInt
            omega
          · rintro n50 ih48 ⟨q334_1, mliq⟩ ls H locs ⟨g45, g46, g47, hl, hP, hD, hS⟩ hm49
            have hm49 : 36 - q334_1.toInt < (n50 : Int) + 1 := hm49
            replace hl : lv_has ls 6 [(0, .ref (md 64)), (1, .int q334_1)] := hl
            replace hP : va_P D vwCl [(aI cI (md 31) 36 mliq), (aI cI (md 33) 36 mnlq), (moC md sd (0) mst hn cn pn mq gn hnn hnn (0) mlt ln hcu htk hfr hti hfa hfb an un lc td mtn), (aI cI (md 34) 300 mtp)] H := hP
            replace hD : va_D A [(aI cI (md 31) 36 mliq), (aI cI (md 33) 36 mnlq), (moC md sd (0) mst hn cn pn mq gn hnn hnn (0) mlt ln hcu htk hfr hti hfa hfb an un lc td mtn), (aI cI (md 34) 300 mtp)] := hD
            show W _ _ _ _ _ _ _ _ _ _ _ _ _ _ _ (F0 m 334 ls [])
            refine lv_iload_n hx hb dX11_duties_334 rfl (lv_at hl 1 rfl) ?_
            refine lv_bipush (v := 36) hx hb dX11_duties_335 (by decide) ?_
            refine lv_icmp_ge (tgt := 358) hx hb dX11_duties_337 (by decide) (fun c51 => ?_) (fun c51 => ?_)
            · skip
              have f52 := i_le c51
              refine lv_aload_n hx hb dX11_duties_358 rfl (lv_at hl 0 rfl) ?_
              refine va_get (D := D) (ci := 11) (v := .int hnn) (C := RX11) (T := TX11) (N := 64) hx hb hts inX11_duties_X11 hown hK hP 2 rfl rfl 30 (by decide) (hts (Cond.fieldLink RX11 314 "PortRoomsModel" "lines" "I") (List.mem_cons_of_mem _ (List.mem_append_left _ (List.mem_append_left _ (List.mem_of_getElem? (i := 17) rfl))))) (fun _ h9 => h9) rfl dX11_duties_359 ?_
              have clc53 := i_cl (x := hnn) (by omega)
              have hdr9 := dcF_rng (T := mtp) (L := ln.toNatClampNeg) (n := hnn.toNatClampNeg)
              have hgd9 : hfa.toInt = 0 ∧ hfr.toInt = (tS mtp ln.toNatClampNeg (poL mtp ln.toNatClampNeg hnn.toNatClampNeg) : Int) ∧ hcu.toInt = (tE mtp ln.toNatClampNeg (poL mtp ln.toNatClampNeg hnn.toNatClampNeg) : Int) ∧ htk.toInt = mK mtp ln.toNatClampNeg (poL mtp ln.toNatClampNeg hnn.toNatClampNeg) := by rcases g16 with h9 | h9 <;> first | exact h9 | (exfalso; omega)
              have hpl9 := poL_le mtp ln.toNatClampNeg hnn.toNatClampNeg
              have hmk9 := (tk_f (T := mtp) (L := ln.toNatClampNeg) hpl9).1
              have hP9 := hP.sub (ws' := [(moC md sd (0) mst hn cn pn mq gn hnn hnn (0) mlt ln hcu htk hfr hti hfa hfb an un lc td mtn), (aI cI (md 31) 36 mliq), (aI cI (md 33) 36 mnlq), (aI cI (md 34) 300 mtp)]) [2, 0, 1, 3] rfl
              have hD9 := hD.sub (ws' := [(moC md sd (0) mst hn cn pn mq gn hnn hnn (0) mlt ln hcu htk hfr hti hfa hfb an un lc td mtn), (aI cI (md 31) 36 mliq), (aI cI (md 33) 36 mnlq), (aI cI (md 34) 300 mtp)]) [2, 0, 1, 3] (by decide +kernel) rfl
              exact W.iret (v := hnn) hx hb hr (fun t ht hW => ⟨⟨hnn, (hnn, mliq, hnn, mnlq, mlt, ln, hcu, htk, hfr, hti, hfa, hfb), rfl, (by show 0 ≤ hnn.toInt ∧ hnn.toInt ≤ 12 ∧ mdP mtp ln.toNatClampNeg hnn mlt mln mlt hnn mli mliq; exact ⟨by omega, by omega, ⟨hnn.toNatClampNeg, by omega, g14, Or.inl ⟨by omega, by omega, rfl, by omega, fun j hj => (by have e9 := g15 j hj; rw [g47 (3 * j) (by omega), g47 (3 * j + 1) (by omega), g47 (3 * j + 2) (by omega)]; exact e9)⟩⟩⟩), by rw [ht]; exact hP9, va_K.moved hW.alike hK, hD9⟩, hS.F ht⟩) hS.2.2 dX11_duties_362
            · skip
              have f54 := i_nle c51
              refine lv_aload_n hx hb dX11_duties_340 rfl (lv_at hl 0 rfl) ?_
              refine va_get (D := D) (ci := 11) (v := .ref (md 31)) (C := RX11) (T := TX11) (N := 64) hx hb hts inX11_duties_X11 hown hK hP 2 rfl rfl 31 (by decide) (hts (Cond.fieldLink RX11 81 "PortRoomsModel" "line" "[I") (List.mem_cons_of_mem _ (List.mem_append_left _ (List.mem_append_left _ (List.mem_of_getElem? (i := 18) rfl))))) (fun _ h9 => h9) rfl dX11_duties_341 ?_
              refine lv_iload_n hx hb dX11_duties_344 rfl (lv_at hl 1 rfl) ?_
              refine lv_aload_n hx hb dX11_duties_345 rfl (lv_at hl 0 rfl) ?_
              refine va_get (D := D) (ci := 11) (v := .ref (md 33)) (C := RX11) (T := TX11) (N := 64) hx hb hts inX11_duties_X11 hown hK hP 2 rfl rfl 33 (by decide) (hts (Cond.fieldLink RX11 84 "PortRoomsModel" "newLine" "[I") (List.mem_cons_of_mem _ (List.mem_append_left _ (List.mem_append_left _ (List.mem_of_getElem? (i := 13) rfl))))) (fun _ h9 => h9) rfl dX11_duties_346 ?_
              refine lv_iload_n hx hb dX11_duties_349 rfl (lv_at hl 1 rfl) ?_
              refine va_iald hx hb hK hP 1 0 rfl rfl (i_in (by omega) (by omega)) dX11_duties_350 ?_
              refine lv_topi (fun v55 ev55 => ?_)
              refine va_iast hx hb hK hP hD hS 0 0 rfl rfl (i_in (by omega) (by omega)) dX11_duties_351 (fun H locs => ?_)
              clear hP hD hS
              intro hP hD hS
              replace hP : va_P D vwCl [(aI cI (md 31) 36 (upd mliq q334_1.toNatClampNeg v55)), (aI cI (md 33) 36 mnlq), (moC md sd (0) mst hn cn pn mq gn hnn hnn (0) mlt ln hcu htk hfr hti hfa hfb an un lc td mtn), (aI cI (md 34) 300 mtp)] H := hP
              replace hD : va_D A [(aI cI (md 31) 36 (upd mliq q334_1.toNatClampNeg v55)), (aI cI (md 33) 36 mnlq), (moC md sd (0) mst hn cn pn mq gn hnn hnn (0) mlt ln hcu htk hfr hti hfa hfb an un lc td mtn), (aI cI (md 34) 300 mtp)] := hD
              obtain ⟨v56, ev56⟩ : ∃ y : Int32, y = q334_1 + 1 := ⟨_, rfl⟩
              try have tv56 : v56.toInt = q334_1.toInt + 1 := by rw [ev56]; exact (i_add (x := q334_1) (y := (1 : Int32)) (by rw [k1]; omega) (by rw [k1]; omega)).trans (by rw [k1])
              refine lv_iinc (v := v56) (lv' := [(1, .int v56), (0, .ref (md 64))]) hx hb dX11_duties_352 hl (k := 1) rfl (by rw [ev56]; rfl) (by decide) rfl (fun ls hl => ?_)
              refine lv_goto (tgt := 334) hx hb dX11_duties_355 (by decide) ?_
              exact ih48 (v56, upd mliq q334_1.toNatClampNeg v55) ls H locs ⟨(by omega), (by omega), (by exact fun j hj => if e9 : j = q334_1.toNatClampNeg then (by rw [e9, upd_s]; assumption) else (by rw [upd_n _ _ e9]; exact g47 j (by have := i_cl (x := q334_1) (by omega); omega))), lv_sub hl [1, 0] rfl, hP.sub [0, 1, 2, 3] rfl, hD.sub [0, 1, 2, 3] (by decide +kernel) rfl, hS⟩ (by show 36 - v56.toInt < _; omega)
        · skip
          have f57 := i_nle c43
          refine lv_aload_n hx hb dX11_duties_307 rfl (lv_at hl 0 rfl) ?_
          refine lv_aload_n hx hb dX11_duties_308 rfl (lv_at hl 0 rfl) ?_
          refine va_get (D := D) (ci := 11) (v := .int hfa) (C := RX11) (T := TX11) (N := 64) hx hb hts inX11_duties_X11 hown hK hP 2 rfl rfl 42 (by decide) (hts (Cond.fieldLink RX11 271 "PortRoomsModel" "fault" "I") (List.mem_cons_of_mem _ (List.mem_append_left _ (List.mem_append_left _ (List.mem_of_getElem? (i := 4) rfl))))) (fun _ h9 => h9) rfl dX11_duties_309 ?_
          refine va_put (D := D) (ci := 11) (v := .int hfa) (ty := .int) (C := RX11) (T := TX11) (N := 64) hx hb hts inX11_duties_X11 tyX11 tyX11_ok nmX11 hown hK hP hD hS 2 rfl rfl 36 (by decide) (hts (Cond.fieldLink RX11 310 "PortRoomsModel" "latest" "I") (List.mem_cons_of_mem _ (List.mem_append_left _ (List.mem_append_left _ (List.mem_of_getElem? (i := 14) rfl))))) (fun _ h9 => h9) rfl (tyX11_ok 36 (by decide)) rfl rfl (Nat.le_of_ble_eq_true rfl) dX11_duties_312 (fun H locs => ?_)
          clear hP hD hS
          intro hP hD hS
          replace hP : va_P D vwCl [(aI cI (md 31) 36 mli), (aI cI (md 33) 36 mnlq), (moC md sd (0) mst hn cn pn mq gn mln hnn (0) hfa ln hcu htk hfr hti hfa hfb an un lc td mtn), (aI cI (md 34) 300 mtp)] H := hP
          replace hD : va_D A [(aI cI (md 31) 36 mli), (aI cI (md 33) 36 mnlq), (moC md sd (0) mst hn cn pn mq gn mln hnn (0) hfa ln hcu htk hfr hti hfa hfb an un lc td mtn), (aI cI (md 34) 300 mtp)] := hD
          have hdq9 := dpF_le mtp ln.toNatClampNeg hnn.toNatClampNeg
          have clc58 := i_cl (x := ln) (by omega)
          refine lv_ldcw hx hb hown (hts (Cond.constant RX11 313 (-1000100)) (List.mem_cons_of_mem _ (List.mem_append_left _ (List.mem_append_left _ (List.mem_of_getElem? (i := 15) rfl))))) dX11_duties_315 ?_
          refine lv_aload_n hx hb dX11_duties_318 rfl (lv_at hl 0 rfl) ?_
          refine va_get (D := D) (ci := 11) (v := .int hfb) (C := RX11) (T := TX11) (N := 64) hx hb hts inX11_duties_X11 hown hK hP 2 rfl rfl 43 (by decide) (hts (Cond.fieldLink RX11 274 "PortRoomsModel" "faultAt" "I") (List.mem_cons_of_mem _ (List.mem_append_left _ (List.mem_append_left _ (List.mem_of_getElem? (i := 16) rfl))))) (fun _ h9 => h9) rfl dX11_duties_319 ?_
          refine lv_isub hx hb dX11_duties_322 ?_
          refine lv_topi (fun v59 ev59 => ?_)
          try have tv59 : v59.toInt = (-1000100) - hfb.toInt := by rw [ev59]; exact (i_sub (x := ((-1000100) : Int32)) (y := hfb) (by rw [km1000100]; omega) (by rw [km1000100]; omega)).trans (by rw [km1000100])
          have clc60 := i_cl (x := hnn) (by omega)
          have hdr9 := dcF_rng (T := mtp) (L := ln.toNatClampNeg) (n := hnn.toNatClampNeg)
          have hbad9 : ¬ hfa.toInt = 0 ∧ hfa.toInt = dcF mtp ln.toNatClampNeg hnn.toNatClampNeg ∧ hfb.toInt = (dpF mtp ln.toNatClampNeg hnn.toNatClampNeg : Int) ∧ ¬ tK mtp ln.toNatClampNeg (poL mtp ln.toNatClampNeg hnn.toNatClampNeg) = 8 := by first | (rcases g16 with h9 | h9 <;> first | (exfalso; omega) | exact h9) | (rcases 0 with h9 | h9 <;> first | (exfalso; omega) | exact ⟨h9.1, h9.2.1, h9.2.2, by omega⟩)
          have hP9 := hP.sub (ws' := [(moC md sd (0) mst hn cn pn mq gn mln hnn (0) hfa ln hcu htk hfr hti hfa hfb an un lc td mtn), (aI cI (md 31) 36 mli), (aI cI (md 33) 36 mnlq), (aI cI (md 34) 300 mtp)]) [2, 0, 1, 3] rfl
          have hD9 := hD.sub (ws' := [(moC md sd (0) mst hn cn pn mq gn mln hnn (0) hfa ln hcu htk hfr hti hfa hfb an un lc td mtn), (aI cI (md 31) 36 mli), (aI cI (md 33) 36 mnlq), (aI cI (md 34) 300 mtp)]) [2, 0, 1, 3] (by decide +kernel) rfl
          exact W.iret (v := v59) hx hb hr (fun t ht hW => ⟨⟨v59, (mln, mli, hnn, mnlq, hfa, ln, hcu, htk, hfr, hti, hfa, hfb), rfl, (by show 0 ≤ mln.toInt ∧ mln.toInt ≤ 12 ∧ mdP mtp ln.toNatClampNeg v59 mlt mln hfa mln mli mli; exact ⟨by omega, by omega, ⟨hnn.toNatClampNeg, by omega, g14, Or.inr ⟨hbad9.2.2.2, by omega, hbad9.2.1, by omega, rfl, rfl⟩⟩⟩), by rw [ht]; exact hP9, va_K.moved hW.alike hK, hD9⟩, hS.F ht⟩) hS.2.2 dX11_duties_323
      · skip
        have f61 := i_ne c41
        refine lv_aload_n hx hb dX11_duties_52 rfl (lv_at hl 0 rfl) ?_
        refine st_l1 (va_runV (C := RX11) (As := []) (rest := []) ⟨hx, hb, hml, hown, hts⟩ (ct_X11_word l D cI cY cJ cQ _ md sd 0 mst hn cn pn mq gn mln hnn 0 mlt ln hcu htk hfr hti hfa hfb an un lc td mtn mtp (by omega) (by omega) (by omega) (by omega) (by assumption) (by omega)) (cwV 0 hts gX11_duties_X11_word rfl rfl rfl ⟨rfl, cdX11_word⟩ ⟨Nat.le_of_ble_eq_true rfl, Nat.le_of_ble_eq_true rfl⟩) (cPreV (hP.sub [2, 3] rfl) hK (hD.sub [2, 3] (by decide +kernel) rfl) hN (ci := 11) (q0 := 0) rfl rfl) rfl rfl hl.1 rfl (lv_room (Nat.le_of_ble_eq_true rfl)) dX11_duties_53 ⟨Nat.le_of_ble_eq_true rfl, Nat.le_of_ble_eq_true rfl⟩) hP hD hS hA [2, 3] rfl (fun _ => rfl) (fun r64 u62 H locs hw63 => ?_)
        clear hP hS
        intro hP hS
        replace hw63 : r64.toInt = (if htk.toInt = 2 then wvV mtp hfr.toNatClampNeg (hti.toNatClampNeg - hfr.toNatClampNeg) else 0) := hw63
        have clc65 := i_cl (x := hfr) (by omega)
        have clc66 := i_cl (x := hti) (by omega)
        have hwc0 := wd_tk (z := r64.toInt) hle0 (by rw [hw63, show htk.toInt = mK mtp ln.toNatClampNeg (poL mtp ln.toNatClampNeg hnn.toNatClampNeg) by omega, show hfr.toNatClampNeg = tS mtp ln.toNatClampNeg (poL mtp ln.toNatClampNeg hnn.toNatClampNeg) by omega, show hti.toNatClampNeg = tE mtp ln.toNatClampNeg (poL mtp ln.toNatClampNeg hnn.toNatClampNeg) by omega])
        clear hw63
        have hne9 : ¬ tK mtp ln.toNatClampNeg (poL mtp ln.toNatClampNeg hnn.toNatClampNeg) = 8 := by omega
        refine lv_lstore_n (lv' := [(1, .long r64), (0, .ref (md 64))]) hx hb dX11_duties_56 rfl hl (by decide) rfl (fun ls hl => ?_)
        refine st_join 107 (fun (sk67 : Int32) => [.int sk67]) (fun (sk67 : Int32) (ls : Array Slot) (H : Heap) (locs : List Loc) => ((sk67.toInt = tK mtp ln.toNatClampNeg (poL mtp ln.toNatClampNeg hnn.toNatClampNeg) ∧ tK mtp ln.toNatClampNeg (poL mtp ln.toNatClampNeg hnn.toNatClampNeg) < 4) ∨ (sk67.toInt = -1000000 ∧ 4 ≤ tK mtp ln.toNatClampNeg (poL mtp ln.toNatClampNeg hnn.toNatClampNeg))) ∧ lv_has ls 6 [(0, .ref (md 64))] ∧ va_P D vwCl [(aI cI (md 31) 36 mli), (aI cI (md 33) 36 mnlq), (moC md sd (0) mst hn cn pn mq gn mln hnn (0) mlt ln hcu htk hfr hti hfa hfb an un lc td mtn), (aI cI (md 34) 300 mtp)] H ∧ va_D A [(aI cI (md 31) 36 mli), (aI cI (md 33) 36 mnlq), (moC md sd (0) mst hn cn pn mq gn mln hnn (0) mlt ln hcu htk hfr hti hfa hfb an un lc td mtn), (aI cI (md 34) 300 mtp)] ∧ va_S A s.heap H locs) ?_ ?_
        · rintro sk67 ls H locs ⟨g68, hl, hP, hD, hS⟩
          replace hl : lv_has ls 6 [(0, .ref (md 64))] := hl
          replace hP : va_P D vwCl [(aI cI (md 31) 36 mli), (aI cI (md 33) 36 mnlq), (moC md sd (0) mst hn cn pn mq gn mln hnn (0) mlt ln hcu htk hfr hti hfa hfb an un lc td mtn), (aI cI (md 34) 300 mtp)] H := hP
          replace hD : va_D A [(aI cI (md 31) 36 mli), (aI cI (md 33) 36 mnlq), (moC md sd (0) mst hn cn pn mq gn mln hnn (0) mlt ln hcu htk hfr hti hfa hfb an un lc td mtn), (aI cI (md 34) 300 mtp)] := hD
          show W _ _ _ _ _ _ _ _ _ _ _ _ _ _ _ (F0 m 107 ls [.int sk67])
          clear hwc0 hend0 hlen60
          refine lv_istore_n (lv' := [(3, .int sk67), (0, .ref (md 64))]) hx hb dX11_duties_107 rfl hl (by decide) rfl (fun ls hl => ?_)
          refine st_join 128 (fun (z : Int32 × Int32) => match z with | (jfa, jfb) => []) (fun (z : Int32 × Int32) (ls : Array Slot) (H : Heap) (locs : List Loc) => match z with | (jfa, jfb) => ((jfa.toInt = 0 ∧ (sk67.toInt = -1000000 ∨ ¬ hnn.toInt = 12)) ∨ (jfa.toInt = 3 ∧ ¬ sk67.toInt = -1000000 ∧ hnn.toInt = 12 ∧ jfb.toInt = hfr.toInt)) ∧ lv_has ls 6 [(0, .ref (md 64)), (3, .int sk67)] ∧ va_P D vwCl [(aI cI (md 31) 36 mli), (aI cI (md 33) 36 mnlq), (moC md sd (0) mst hn cn pn mq gn mln hnn (0) mlt ln hcu htk hfr hti jfa jfb an un lc td mtn), (aI cI (md 34) 300 mtp)] H ∧ va_D A [(aI cI (md 31) 36 mli), (aI cI (md 33) 36 mnlq), (moC md sd (0) mst hn cn pn mq gn mln hnn (0) mlt ln hcu htk hfr hti jfa jfb an un lc td mtn), (aI cI (md 34) 300 mtp)] ∧ va_S A s.heap H locs) ?_ ?_
          · rintro ⟨jfa, jfb⟩ ls H locs ⟨g70, hl, hP, hD, hS⟩
            replace hl : lv_has ls 6 [(0, .ref (md 64)), (3, .int sk67)] := hl
            replace hP : va_P D vwCl [(aI cI (md 31) 36 mli), (aI cI (md 33) 36 mnlq), (moC md sd (0) mst hn cn pn mq gn mln hnn (0) mlt ln hcu htk hfr hti jfa jfb an un lc td mtn), (aI cI (md 34) 300 mtp)] H := hP
            replace hD : va_D A [(aI cI (md 31) 36 mli), (aI cI (md 33) 36 mnlq), (moC md sd (0) mst hn cn pn mq gn mln hnn (0) mlt ln hcu htk hfr hti jfa jfb an un lc td mtn), (aI cI (md 34) 300 mtp)] := hD
            show W _ _ _ _ _ _ _ _ _ _ _ _ _ _ _ (F0 m 128 ls [])
            refine st_join 143 (fun (z : Int32 × Int32 × Int32 × Int32 × Int32 × Int32) => match z with | (kcu, ktk, kfr, kti, kfa, kfb) => []) (fun (z : Int32 × Int32 × Int32 × Int32 × Int32 × Int32) (ls : Array Slot) (H : Heap) (locs : List Loc) => match z with | (kcu, ktk, kfr, kti, kfa, kfb) => (0 ≤ kfr.toInt) ∧ (kfr.toInt ≤ kcu.toInt) ∧ (kcu.toInt ≤ ln.toInt) ∧ (kti.toInt = kcu.toInt) ∧ ((kfa.toInt = 0 ∧ kfr.toInt = (tS mtp ln.toNatClampNeg (tE mtp ln.toNatClampNeg (poL mtp ln.toNatClampNeg hnn.toNatClampNeg)) : Int) ∧ kcu.toInt = (tE mtp ln.toNatClampNeg (tE mtp ln.toNatClampNeg (poL mtp ln.toNatClampNeg hnn.toNatClampNeg)) : Int) ∧ ktk.toInt = mK mtp ln.toNatClampNeg (tE mtp ln.toNatClampNeg (poL mtp ln.toNatClampNeg hnn.toNatClampNeg)) ∧ hnn.toInt < 12 ∧ tK mtp ln.toNatClampNeg (poL mtp ln.toNatClampNeg hnn.toNatClampNeg) < 4) ∨ (¬ kfa.toInt = 0 ∧ kfa.toInt = dcF mtp ln.toNatClampNeg hnn.toNatClampNeg ∧ kfb.toInt = (dpF mtp ln.toNatClampNeg hnn.toNatClampNeg : Int))) ∧ lv_has ls 6 [(0, .ref (md 64)), (3, .int sk67)] ∧ va_P D vwCl [(aI cI (md 31) 36 mli), (aI cI (md 33) 36 mnlq), (moC md sd (0) mst hn cn pn mq gn mln hnn (0) mlt ln kcu ktk kfr kti kfa kfb an un lc td mtn), (aI cI (md 34) 300 mtp)] H ∧ va_D A [(aI cI (md 31) 36 mli), (aI cI (md 33) 36 mnlq), (moC md sd (0) mst hn cn pn mq gn mln hnn (0) mlt ln kcu ktk kfr kti kfa kfb an un lc td mtn), (aI cI (md 34) 300 mtp)] ∧ va_S A s.heap H locs) ?_ ?_
            · rintro ⟨kcu, ktk, kfr, kti, kfa, kfb⟩ ls H locs ⟨g72, g73, g74, g75, g76, hl, hP, hD, hS⟩
              replace hl : lv_has ls 6 [(0, .ref (md 64)), (3, .int sk67)] := hl
              replace hP : va_P D vwCl [(aI cI (md 31) 36 mli), (aI cI (md 33) 36 mnlq), (moC md sd (0) mst hn cn pn mq gn mln hnn (0) mlt ln kcu ktk kfr kti kfa kfb an un lc td mtn), (aI cI (md 34) 300 mtp)] H := hP
              replace hD : va_D A [(aI cI (md 31) 36 mli), (aI cI (md 33) 36 mnlq), (moC md sd (0) mst hn cn pn mq gn mln hnn (0) mlt ln kcu ktk kfr kti kfa kfb an un lc td mtn), (aI cI (md 34) 300 mtp)] := hD
              show W _ _ _ _ _ _ _ _ _ _ _ _ _ _ _ (F0 m 143 ls [])
              clear hT0 hle0 hkr0 g70
              refine lv_iconst (v := (-1)) hx hb dX11_duties_143 (by decide) ?_
              refine lv_istore (lv' := [(4, .int (-1)), (0, .ref (md 64)), (3, .int sk67)]) hx hb dX11_duties_144 hl (by decide) rfl (fun ls hl => ?_)
              refine st_join 175 (fun (z : Int32 × Int32 × Int32 × Int32 × Int32 × Int32 × Int32) => match z with | (jdays, lcu, ltk, lfr, lti, lfa, lfb) => []) (fun (z : Int32 × Int32 × Int32 × Int32 × Int32 × Int32 × Int32) (ls : Array Slot) (H : Heap) (locs : List Loc) => match z with | (jdays, lcu, ltk, lfr, lti, lfa, lfb) => (0 ≤ lfr.toInt) ∧ (lfr.toInt ≤ lcu.toInt) ∧ (lcu.toInt ≤ ln.toInt) ∧ (lti.toInt = lcu.toInt) ∧ ((lfa.toInt = 0 ∧ lfr.toInt = (tS mtp ln.toNatClampNeg (acP mtp ln.toNatClampNeg (tE mtp ln.toNatClampNeg (poL mtp ln.toNatClampNeg hnn.toNatClampNeg))) : Int) ∧ lcu.toInt = (tE mtp ln.toNatClampNeg (acP mtp ln.toNatClampNeg (tE mtp ln.toNatClampNeg (poL mtp ln.toNatClampNeg hnn.toNatClampNeg))) : Int) ∧ ltk.toInt = mK mtp ln.toNatClampNeg (acP mtp ln.toNatClampNeg (tE mtp ln.toNatClampNeg (poL mtp ln.toNatClampNeg hnn.toNatClampNeg))) ∧ hnn.toInt < 12 ∧ tK mtp ln.toNatClampNeg (poL mtp ln.toNatClampNeg hnn.toNatClampNeg) < 4 ∧ acR mtp ln.toNatClampNeg (tE mtp ln.toNatClampNeg (poL mtp ln.toNatClampNeg hnn.toNatClampNeg)) = 0 ∧ jdays.toInt = acD mtp ln.toNatClampNeg (tE mtp ln.toNatClampNeg (poL mtp ln.toNatClampNeg hnn.toNatClampNeg))) ∨ (¬ lfa.toInt = 0 ∧ lfa.toInt = dcF mtp ln.toNatClampNeg hnn.toNatClampNeg ∧ lfb.toInt = (dpF mtp ln.toNatClampNeg hnn.toNatClampNeg : Int))) ∧ lv_has ls 6 [(0, .ref (md 64)), (3, .int sk67), (4, .int jdays)] ∧ va_P D vwCl [(aI cI (md 31) 36 mli), (aI cI (md 33) 36 mnlq), (moC md sd (0) mst hn cn pn mq gn mln hnn (0) mlt ln lcu ltk lfr lti lfa lfb an un lc td mtn), (aI cI (md 34) 300 mtp)] H ∧ va_D A [(aI cI (md 31) 36 mli), (aI cI (md 33) 36 mnlq), (moC md sd (0) mst hn cn pn mq gn mln hnn (0) mlt ln lcu ltk lfr lti lfa lfb an un lc td mtn), (aI cI (md 34) 300 mtp)] ∧ va_S A s.heap H locs) ?_ ?_
              · rintro ⟨jdays, lcu, ltk, lfr, lti, lfa, lfb⟩ ls H locs ⟨g78, g79, g80, g81, g82, hl, hP, hD, hS⟩
                replace hl : lv_has ls 6 [(0, .ref (md 64)), (3, .int sk67), (4, .int jdays)] := hl
                replace hP : va_P D vwCl [(aI cI (md 31) 36 mli), (aI cI (md 33) 36 mnlq), (moC md sd (0) mst hn cn pn mq gn mln hnn (0) mlt ln lcu ltk lfr lti lfa lfb an un lc td mtn), (aI cI (md 34) 300 mtp)] H := hP
                replace hD : va_D A [(aI cI (md 31) 36 mli), (aI cI (md 33) 36 mnlq), (moC md sd (0) mst hn cn pn mq gn mln hnn (0) mlt ln lcu ltk lfr lti lfa lfb an un lc td mtn), (aI cI (md 34) 300 mtp)] := hD
                show W _ _ _ _ _ _ _ _ _ _ _ _ _ _ _ (F0 m 175 ls [])
                refine st_join 202 (fun (z : Int32 × Int32 × Int32 × Int32 × Int32 × Int32) => match z with | (ocu, otk, ofr, oti, ofa, ofb) => []) (fun (z : Int32 × Int32 × Int32 × Int32 × Int32 × Int32) (ls : Array Slot) (H : Heap) (locs : List Loc) => match z with | (ocu, otk, ofr, oti, ofa, ofb) => (0 ≤ ofr.toInt) ∧ (ofr.toInt ≤ ocu.toInt) ∧ (ocu.toInt ≤ ln.toInt) ∧ (oti.toInt = ocu.toInt) ∧ ((ofa.toInt = 0 ∧ ofr.toInt = (tS mtp ln.toNatClampNeg (tE mtp ln.toNatClampNeg (acP mtp ln.toNatClampNeg (tE mtp ln.toNatClampNeg (poL mtp ln.toNatClampNeg hnn.toNatClampNeg)))) : Int) ∧ ocu.toInt = (tE mtp ln.toNatClampNeg (tE mtp ln.toNatClampNeg (acP mtp ln.toNatClampNeg (tE mtp ln.toNatClampNeg (poL mtp ln.toNatClampNeg hnn.toNatClampNeg)))) : Int) ∧ otk.toInt = mK mtp ln.toNatClampNeg (tE mtp ln.toNatClampNeg (acP mtp ln.toNatClampNeg (tE mtp ln.toNatClampNeg (poL mtp ln.toNatClampNeg hnn.toNatClampNeg)))) ∧ hnn.toInt < 12 ∧ tK mtp ln.toNatClampNeg (poL mtp ln.toNatClampNeg hnn.toNatClampNeg) < 4 ∧ acR mtp ln.toNatClampNeg (tE mtp ln.toNatClampNeg (poL mtp ln.toNatClampNeg hnn.toNatClampNeg)) = 0 ∧ jdays.toInt = acD mtp ln.toNatClampNeg (tE mtp ln.toNatClampNeg (poL mtp ln.toNatClampNeg hnn.toNatClampNeg)) ∧ tK mtp ln.toNatClampNeg (acP mtp ln.toNatClampNeg (tE mtp ln.toNatClampNeg (poL mtp ln.toNatClampNeg hnn.toNatClampNeg))) = 4) ∨ (¬ ofa.toInt = 0 ∧ ofa.toInt = dcF mtp ln.toNatClampNeg hnn.toNatClampNeg ∧ ofb.toInt = (dpF mtp ln.toNatClampNeg hnn.toNatClampNeg : Int))) ∧ lv_has ls 6 [(0, .ref (md 64)), (3, .int sk67), (4, .int jdays)] ∧ va_P D vwCl [(aI cI (md 31) 36 mli), (aI cI (md 33) 36 mnlq), (moC md sd (0) mst hn cn pn mq gn mln hnn (0) mlt ln ocu otk ofr oti ofa ofb an un lc td mtn), (aI cI (md 34) 300 mtp)] H ∧ va_D A [(aI cI (md 31) 36 mli), (aI cI (md 33) 36 mnlq), (moC md sd (0) mst hn cn pn mq gn mln hnn (0) mlt ln ocu otk ofr oti ofa ofb an un lc td mtn), (aI cI (md 34) 300 mtp)] ∧ va_S A s.heap H locs) ?_ ?_
                · rintro ⟨ocu, otk, ofr, oti, ofa, ofb⟩ ls H locs ⟨g84, g85, g86, g87, g88, hl, hP, hD, hS⟩
                  replace hl : lv_has ls 6 [(0, .ref (md 64)), (3, .int sk67), (4, .int jdays)] := hl
                  replace hP : va_P D vwCl [(aI cI (md 31) 36 mli), (aI cI (md 33) 36 mnlq), (moC md sd (0) mst hn cn pn mq gn mln hnn (0) mlt ln ocu otk ofr oti ofa ofb an un lc td mtn), (aI cI (md 34) 300 mtp)] H := hP
                  replace hD : va_D A [(aI cI (md 31) 36 mli), (aI cI (md 33) 36 mnlq), (moC md sd (0) mst hn cn pn mq gn mln hnn (0) mlt ln ocu otk ofr oti ofa ofb an un lc td mtn), (aI cI (md 34) 300 mtp)] := hD
                  show W _ _ _ _ _ _ _ _ _ _ _ _ _ _ _ (F0 m 202 ls [])
                  refine st_join 219 (fun (z : Int32 × Int32 × Int32 × Int32 × Int32 × Int32 × Int32) => match z with | (pcu, ptk, pfr, pti, pfa, pfb, sk90) => [.int sk90]) (fun (z : Int32 × Int32 × Int32 × Int32 × Int32 × Int32 × Int32) (ls : Array Slot) (H : Heap) (locs : List Loc) => match z with | (pcu, ptk, pfr, pti, pfa, pfb, sk90) => (0 ≤ pfr.toInt) ∧ (pfr.toInt ≤ pcu.toInt) ∧ (pcu.toInt ≤ ln.toInt) ∧ (pti.toInt = pcu.toInt) ∧ ((pfa.toInt = 0 ∧ pfr.toInt = (tS mtp ln.toNatClampNeg (tE mtp ln.toNatClampNeg (tE mtp ln.toNatClampNeg (acP mtp ln.toNatClampNeg (tE mtp ln.toNatClampNeg (poL mtp ln.toNatClampNeg hnn.toNatClampNeg))))) : Int) ∧ pcu.toInt = (tE mtp ln.toNatClampNeg (tE mtp ln.toNatClampNeg (tE mtp ln.toNatClampNeg (acP mtp ln.toNatClampNeg (tE mtp ln.toNatClampNeg (poL mtp ln.toNatClampNeg hnn.toNatClampNeg))))) : Int) ∧ ptk.toInt = mK mtp ln.toNatClampNeg (tE mtp ln.toNatClampNeg (tE mtp ln.toNatClampNeg (acP mtp ln.toNatClampNeg (tE mtp ln.toNatClampNeg (poL mtp ln.toNatClampNeg hnn.toNatClampNeg))))) ∧ hnn.toInt < 12 ∧ tK mtp ln.toNatClampNeg (poL mtp ln.toNatClampNeg hnn.toNatClampNeg) < 4 ∧ acR mtp ln.toNatClampNeg (tE mtp ln.toNatClampNeg (poL mtp ln.toNatClampNeg hnn.toNatClampNeg)) = 0 ∧ jdays.toInt = acD mtp ln.toNatClampNeg (tE mtp ln.toNatClampNeg (poL mtp ln.toNatClampNeg hnn.toNatClampNeg)) ∧ tK mtp ln.toNatClampNeg (acP mtp ln.toNatClampNeg (tE mtp ln.toNatClampNeg (poL mtp ln.toNatClampNeg hnn.toNatClampNeg))) = 4 ∧ tK mtp ln.toNatClampNeg (tE mtp ln.toNatClampNeg (acP mtp ln.toNatClampNeg (tE mtp ln.toNatClampNeg (poL mtp ln.toNatClampNeg hnn.toNatClampNeg)))) = 5 ∧ sk90.toInt = tN mtp ln.toNatClampNeg (tE mtp ln.toNatClampNeg (acP mtp ln.toNatClampNeg (tE mtp ln.toNatClampNeg (poL mtp ln.toNatClampNeg hnn.toNatClampNeg)))) ∧ tN mtp ln.toNatClampNeg (tE mtp ln.toNatClampNeg (acP mtp ln.toNatClampNeg (tE mtp ln.toNatClampNeg (poL mtp ln.toNatClampNeg hnn.toNatClampNeg)))) ≤ 100) ∨ (¬ pfa.toInt = 0 ∧ pfa.toInt = dcF mtp ln.toNatClampNeg hnn.toNatClampNeg ∧ pfb.toInt = (dpF mtp ln.toNatClampNeg hnn.toNatClampNeg : Int))) ∧ lv_has ls 6 [(0, .ref (md 64)), (3, .int sk67), (4, .int jdays)] ∧ va_P D vwCl [(aI cI (md 31) 36 mli), (aI cI (md 33) 36 mnlq), (moC md sd (0) mst hn cn pn mq gn mln hnn (0) mlt ln pcu ptk pfr pti pfa pfb an un lc td mtn), (aI cI (md 34) 300 mtp)] H ∧ va_D A [(aI cI (md 31) 36 mli), (aI cI (md 33) 36 mnlq), (moC md sd (0) mst hn cn pn mq gn mln hnn (0) mlt ln pcu ptk pfr pti pfa pfb an un lc td mtn), (aI cI (md 34) 300 mtp)] ∧ va_S A s.heap H locs) ?_ ?_
                  · rintro ⟨pcu, ptk, pfr, pti, pfa, pfb, sk90⟩ ls H locs ⟨g91, g92, g93, g94, g95, hl, hP, hD, hS⟩
                    replace hl : lv_has ls 6 [(0, .ref (md 64)), (3, .int sk67), (4, .int jdays)] := hl
                    replace hP : va_P D vwCl [(aI cI (md 31) 36 mli), (aI cI (md 33) 36 mnlq), (moC md sd (0) mst hn cn pn mq gn mln hnn (0) mlt ln pcu ptk pfr pti pfa pfb an un lc td mtn), (aI cI (md 34) 300 mtp)] H := hP
                    replace hD : va_D A [(aI cI (md 31) 36 mli), (aI cI (md 33) 36 mnlq), (moC md sd (0) mst hn cn pn mq gn mln hnn (0) mlt ln pcu ptk pfr pti pfa pfb an un lc td mtn), (aI cI (md 34) 300 mtp)] := hD
                    show W _ _ _ _ _ _ _ _ _ _ _ _ _ _ _ (F0 m 219 ls [.int sk90])
                    refine lv_istore (lv' := [(5, .int sk90), (0, .ref (md 64)), (3, .int sk67), (4, .int jdays)]) hx hb dX11_duties_219 hl (by decide) rfl (fun ls hl => ?_)
                    refine st_join 238 (fun (z : Int32 × Int32 × Int32 × Int32 × Int32 × Int32) => match z with | (ycu, ytk, yfr, yti, yfa, yfb) => []) (fun (z : Int32 × Int32 × Int32 × Int32 × Int32 × Int32) (ls : Array Slot) (H : Heap) (locs : List Loc) => match z with | (ycu, ytk, yfr, yti, yfa, yfb) => (0 ≤ yfr.toInt) ∧ (yfr.toInt ≤ ycu.toInt) ∧ (ycu.toInt ≤ ln.toInt) ∧ (yti.toInt = ycu.toInt) ∧ ((yfa.toInt = 0 ∧ yfr.toInt = (tS mtp ln.toNatClampNeg (lnN mtp ln.toNatClampNeg (poL mtp ln.toNatClampNeg hnn.toNatClampNeg)) : Int) ∧ ycu.toInt = (tE mtp ln.toNatClampNeg (lnN mtp ln.toNatClampNeg (poL mtp ln.toNatClampNeg hnn.toNatClampNeg)) : Int) ∧ ytk.toInt = mK mtp ln.toNatClampNeg (lnN mtp ln.toNatClampNeg (poL mtp ln.toNatClampNeg hnn.toNatClampNeg)) ∧ hnn.toInt < 12 ∧ tK mtp ln.toNatClampNeg (poL mtp ln.toNatClampNeg hnn.toNatClampNeg) < 4 ∧ acR mtp ln.toNatClampNeg (tE mtp ln.toNatClampNeg (poL mtp ln.toNatClampNeg hnn.toNatClampNeg)) = 0 ∧ jdays.toInt = acD mtp ln.toNatClampNeg (tE mtp ln.toNatClampNeg (poL mtp ln.toNatClampNeg hnn.toNatClampNeg)) ∧ tK mtp ln.toNatClampNeg (acP mtp ln.toNatClampNeg (tE mtp ln.toNatClampNeg (poL mtp ln.toNatClampNeg hnn.toNatClampNeg))) = 4 ∧ lnR mtp ln.toNatClampNeg (poL mtp ln.toNatClampNeg hnn.toNatClampNeg) = 0 ∧ sk90.toInt = tN mtp ln.toNatClampNeg (tE mtp ln.toNatClampNeg (acP mtp ln.toNatClampNeg (tE mtp ln.toNatClampNeg (poL mtp ln.toNatClampNeg hnn.toNatClampNeg))))) ∨ (¬ yfa.toInt = 0 ∧ yfa.toInt = dcF mtp ln.toNatClampNeg hnn.toNatClampNeg ∧ yfb.toInt = (dpF mtp ln.toNatClampNeg hnn.toNatClampNeg : Int))) ∧ lv_has ls 6 [(0, .ref (md 64)), (3, .int sk67), (4, .int jdays), (5, .int sk90)] ∧ va_P D vwCl [(aI cI (md 31) 36 mli), (aI cI (md 33) 36 mnlq), (moC md sd (0) mst hn cn pn mq gn mln hnn (0) mlt ln ycu ytk yfr yti yfa yfb an un lc td mtn), (aI cI (md 34) 300 mtp)] H ∧ va_D A [(aI cI (md 31) 36 mli), (aI cI (md 33) 36 mnlq), (moC md sd (0) mst hn cn pn mq gn mln hnn (0) mlt ln ycu ytk yfr yti yfa yfb an un lc td mtn), (aI cI (md 34) 300 mtp)] ∧ va_S A s.heap H locs) ?_ ?_
                    · rintro ⟨ycu, ytk, yfr, yti, yfa, yfb⟩ ls H locs ⟨g97, g98, g99, g100, g101, hl, hP, hD, hS⟩
                      replace hl : lv_has ls 6 [(0, .ref (md 64)), (3, .int sk67), (4, .int jdays), (5, .int sk90)] := hl
                      replace hP : va_P D vwCl [(aI cI (md 31) 36 mli), (aI cI (md 33) 36 mnlq), (moC md sd (0) mst hn cn pn mq gn mln hnn (0) mlt ln ycu ytk yfr yti yfa yfb an un lc td mtn), (aI cI (md 34) 300 mtp)] H := hP
                      replace hD : va_D A [(aI cI (md 31) 36 mli), (aI cI (md 33) 36 mnlq), (moC md sd (0) mst hn cn pn mq gn mln hnn (0) mlt ln ycu ytk yfr yti yfa yfb an un lc td mtn), (aI cI (md 34) 300 mtp)] := hD
                      show W _ _ _ _ _ _ _ _ _ _ _ _ _ _ _ (F0 m 238 ls [])
                      refine lv_aload_n hx hb dX11_duties_238 rfl (lv_at hl 0 rfl) ?_
                      refine va_get (D := D) (ci := 11) (v := .int yfa) (C := RX11) (T := TX11) (N := 64) hx hb hts inX11_duties_X11 hown hK hP 2 rfl rfl 42 (by decide) (hts (Cond.fieldLink RX11 271 "PortRoomsModel" "fault" "I") (List.mem_cons_of_mem _ (List.mem_append_left _ (List.mem_append_left _ (List.mem_of_getElem? (i := 4) rfl))))) (fun _ h9 => h9) rfl dX11_duties_239 ?_
                      refine lv_if_ne (tgt := 297) hx hb dX11_duties_242 (by decide) (fun c103 => ?_) (fun c103 => ?_)
                      · skip
                        have f104 := i_ne c103
                        refine lv_goto (tgt := 37) hx hb dX11_duties_297 (by decide) ?_
                        refine lv_aload_n hx hb dX11_duties_37 rfl (lv_at hl 0 rfl) ?_
                        refine va_get (D := D) (ci := 11) (v := .int yfa) (C := RX11) (T := TX11) (N := 64) hx hb hts inX11_duties_X11 hown hK hP 2 rfl rfl 42 (by decide) (hts (Cond.fieldLink RX11 271 "PortRoomsModel" "fault" "I") (List.mem_cons_of_mem _ (List.mem_append_left _ (List.mem_append_left _ (List.mem_of_getElem? (i := 4) rfl))))) (fun _ h9 => h9) rfl dX11_duties_38 ?_
                        refine lv_if_ne (tgt := 300) hx hb dX11_duties_41 (by decide) (fun _ => ?_) (fun c105 => by exfalso; have h8 := i_eq c105; omega)
                        refine lv_aload_n hx hb dX11_duties_300 rfl (lv_at hl 0 rfl) ?_
                        refine va_get (D := D) (ci := 11) (v := .int yfa) (C := RX11) (T := TX11) (N := 64) hx hb hts inX11_duties_X11 hown hK hP 2 rfl rfl 42 (by decide) (hts (Cond.fieldLink RX11 271 "PortRoomsModel" "fault" "I") (List.mem_cons_of_mem _ (List.mem_append_left _ (List.mem_append_left _ (List.mem_of_getElem? (i := 4) rfl))))) (fun _ h9 => h9) rfl dX11_duties_301 ?_
                        refine lv_if_le (tgt := 324) hx hb dX11_duties_304 (by decide) (fun c106 => ?_) (fun c106 => ?_)
                        · skip
                          have f107 := i_le c106
                          refine lv_aload_n hx hb dX11_duties_324 rfl (lv_at hl 0 rfl) ?_
                          refine lv_aload_n hx hb dX11_duties_325 rfl (lv_at hl 0 rfl) ?_
                          refine va_get (D := D) (ci := 11) (v := .int hnn) (C := RX11) (T := TX11) (N := 64) hx hb hts inX11_duties_X11 hown hK hP 2 rfl rfl 32 (by decide) (hts (Cond.fieldLink RX11 287 "PortRoomsModel" "newLines" "I") (List.mem_cons_of_mem _ (List.mem_append_left _ (List.mem_append_left _ (List.mem_of_getElem? (i := 5) rfl))))) (fun _ h9 => h9) rfl dX11_duties_326 ?_
                          refine va_put (D := D) (ci := 11) (v := .int hnn) (ty := .int) (C := RX11) (T := TX11) (N := 64) hx hb hts inX11_duties_X11 tyX11 tyX11_ok nmX11 hown hK hP hD hS 2 rfl rfl 30 (by decide) (hts (Cond.fieldLink RX11 314 "PortRoomsModel" "lines" "I") (List.mem_cons_of_mem _ (List.mem_append_left _ (List.mem_append_left _ (List.mem_of_getElem? (i := 17) rfl))))) (fun _ h9 => h9) rfl (tyX11_ok 30 (by decide)) rfl rfl (Nat.le_of_ble_eq_true rfl) dX11_duties_329 (fun H locs => ?_)
                          clear hP hD hS
                          intro hP hD hS
                          replace hP : va_P D vwCl [(aI cI (md 31) 36 mli), (aI cI (md 33) 36 mnlq), (moC md sd (0) mst hn cn pn mq gn hnn hnn (0) mlt ln ycu ytk yfr yti yfa yfb an un lc td mtn), (aI cI (md 34) 300 mtp)] H := hP
                          replace hD : va_D A [(aI cI (md 31) 36 mli), (aI cI (md 33) 36 mnlq), (moC md sd (0) mst hn cn pn mq gn hnn hnn (0) mlt ln ycu ytk yfr yti yfa yfb an un lc td mtn), (aI cI (md 34) 300 mtp)] := hD
                          refine lv_iconst (v := 0) hx hb dX11_duties_332 (by decide) ?_
                          refine lv_istore_n (lv' := [(1, .int 0), (0, .ref (md 64)), (3, .int sk67), (4, .int jdays), (5, .int sk90)]) hx hb dX11_duties_333 rfl hl (by decide) rfl (fun ls hl => ?_)
                          refine st_loop 334 (fun _ => []) (fun (z : Int32 × (Nat → Int32)) (ls : Array Slot) (H : Heap) (locs : List Loc) => match z with | (q334_1, mliq) => (0 ≤ q334_1.toInt) ∧ (q334_1.toInt ≤ 36) ∧ (∀ j : Nat, (j : Int) < q334_1.toInt → mliq j = mnlq j) ∧ lv_has ls 6 [(0, .ref (md 64)), (1, .int q334_1), (3, .int sk67), (4, .int jdays), (5, .int sk90)] ∧ va_P D vwCl [(aI cI (md 31) 36 mliq), (aI cI (md 33) 36 mnlq), (moC md sd (0) mst hn cn pn mq gn hnn hnn (0) mlt ln ycu ytk yfr yti yfa yfb an un lc td mtn), (aI cI (md 34) 300 mtp)] H ∧ va_D A [(aI cI (md 31) 36 mliq), (aI cI (md 33) 36 mnlq), (moC md sd (0) mst hn cn pn mq gn hnn hnn (0) mlt ln ycu ytk yfr yti yfa yfb an un lc td mtn), (aI cI (md 34) 300 mtp)] ∧ va_S A s.heap H locs) (fun (z : Int32 × (Nat → Int32)) => match z with | (q334_1, mliq) => 36 - q334_1.toInt) ?_ ?_ ((0 : Int32), mli) ⟨(by omega), (by omega), (by intro j hj; exfalso; omega), lv_sub hl [1, 0, 2, 3, 4] rfl, hP, hD, hS⟩
                          · rintro ⟨q334_1, mliq⟩ ls H locs ⟨g108, g109, g110, hl, hP, hD, hS⟩
                            show (0 : Int) ≤ 36 - q334_1.toInt
                            omega
                          · rintro n113 ih111 ⟨q334_1, mliq⟩ ls H locs ⟨g108, g109, g110, hl, hP, hD, hS⟩ hm112
                            have hm112 : 36 - q334_1.toInt < (n113 : Int) + 1 := hm112
                            replace hl : lv_has ls 6 [(0, .ref (md 64)), (1, .int q334_1), (3, .int sk67), (4, .int jdays), (5, .int sk90)] := hl
                            replace hP : va_P D vwCl [(aI cI (md 31) 36 mliq), (aI cI (md 33) 36 mnlq), (moC md sd (0) mst hn cn pn mq gn hnn hnn (0) mlt ln ycu ytk yfr yti yfa yfb an un lc td mtn), (aI cI (md 34) 300 mtp)] H := hP
                            replace hD : va_D A [(aI cI (md 31) 36 mliq), (aI cI (md 33) 36 mnlq), (moC md sd (0) mst hn cn pn mq gn hnn hnn (0) mlt ln ycu ytk yfr yti yfa yfb an un lc td mtn), (aI cI (md 34) 300 mtp)] := hD
                            show W _ _ _ _ _ _ _ _ _ _ _ _ _ _ _ (F0 m 334 ls [])
                            refine lv_iload_n hx hb dX11_duties_334 rfl (lv_at hl 1 rfl) ?_
                            refine lv_bipush (v := 36) hx hb dX11_duties_335 (by decide) ?_
                            refine lv_icmp_ge (tgt := 358) hx hb dX11_duties_337 (by decide) (fun c114 => ?_) (fun c114 => ?_)
                            · skip
                              have f115 := i_le c114
                              refine lv_aload_n hx hb dX11_duties_358 rfl (lv_at hl 0 rfl) ?_
                              refine va_get (D := D) (ci := 11) (v := .int hnn) (C := RX11) (T := TX11) (N := 64) hx hb hts inX11_duties_X11 hown hK hP 2 rfl rfl 30 (by decide) (hts (Cond.fieldLink RX11 314 "PortRoomsModel" "lines" "I") (List.mem_cons_of_mem _ (List.mem_append_left _ (List.mem_append_left _ (List.mem_of_getElem? (i := 17) rfl))))) (fun _ h9 => h9) rfl dX11_duties_359 ?_
                              have clc116 := i_cl (x := hnn) (by omega)
                              have hdr9 := dcF_rng (T := mtp) (L := ln.toNatClampNeg) (n := hnn.toNatClampNeg)
                              have hgd9 : hfa.toInt = 0 ∧ hfr.toInt = (tS mtp ln.toNatClampNeg (poL mtp ln.toNatClampNeg hnn.toNatClampNeg) : Int) ∧ hcu.toInt = (tE mtp ln.toNatClampNeg (poL mtp ln.toNatClampNeg hnn.toNatClampNeg) : Int) ∧ htk.toInt = mK mtp ln.toNatClampNeg (poL mtp ln.toNatClampNeg hnn.toNatClampNeg) := by rcases g16 with h9 | h9 <;> first | exact h9 | (exfalso; omega)
                              have hpl9 := poL_le mtp ln.toNatClampNeg hnn.toNatClampNeg
                              have hmk9 := (tk_f (T := mtp) (L := ln.toNatClampNeg) hpl9).1
                              have hP9 := hP.sub (ws' := [(moC md sd (0) mst hn cn pn mq gn hnn hnn (0) mlt ln ycu ytk yfr yti yfa yfb an un lc td mtn), (aI cI (md 31) 36 mliq), (aI cI (md 33) 36 mnlq), (aI cI (md 34) 300 mtp)]) [2, 0, 1, 3] rfl
                              have hD9 := hD.sub (ws' := [(moC md sd (0) mst hn cn pn mq gn hnn hnn (0) mlt ln ycu ytk yfr yti yfa yfb an un lc td mtn), (aI cI (md 31) 36 mliq), (aI cI (md 33) 36 mnlq), (aI cI (md 34) 300 mtp)]) [2, 0, 1, 3] (by decide +kernel) rfl
                              exact W.iret (v := hnn) hx hb hr (fun t ht hW => ⟨⟨hnn, (hnn, mliq, hnn, mnlq, mlt, ln, ycu, ytk, yfr, yti, yfa, yfb), rfl, (by show 0 ≤ hnn.toInt ∧ hnn.toInt ≤ 12 ∧ mdP mtp ln.toNatClampNeg hnn mlt mln mlt hnn mli mliq; exact ⟨by omega, by omega, ⟨hnn.toNatClampNeg, by omega, g14, Or.inl ⟨by omega, by omega, rfl, by omega, fun j hj => (by have e9 := g15 j hj; rw [g110 (3 * j) (by omega), g110 (3 * j + 1) (by omega), g110 (3 * j + 2) (by omega)]; exact e9)⟩⟩⟩), by rw [ht]; exact hP9, va_K.moved hW.alike hK, hD9⟩, hS.F ht⟩) hS.2.2 dX11_duties_362
                            · skip
                              have f117 := i_nle c114
                              refine lv_aload_n hx hb dX11_duties_340 rfl (lv_at hl 0 rfl) ?_
                              refine va_get (D := D) (ci := 11) (v := .ref (md 31)) (C := RX11) (T := TX11) (N := 64) hx hb hts inX11_duties_X11 hown hK hP 2 rfl rfl 31 (by decide) (hts (Cond.fieldLink RX11 81 "PortRoomsModel" "line" "[I") (List.mem_cons_of_mem _ (List.mem_append_left _ (List.mem_append_left _ (List.mem_of_getElem? (i := 18) rfl))))) (fun _ h9 => h9) rfl dX11_duties_341 ?_
                              refine lv_iload_n hx hb dX11_duties_344 rfl (lv_at hl 1 rfl) ?_
                              refine lv_aload_n hx hb dX11_duties_345 rfl (lv_at hl 0 rfl) ?_
                              refine va_get (D := D) (ci := 11) (v := .ref (md 33)) (C := RX11) (T := TX11) (N := 64) hx hb hts inX11_duties_X11 hown hK hP 2 rfl rfl 33 (by decide) (hts (Cond.fieldLink RX11 84 "PortRoomsModel" "newLine" "[I") (List.mem_cons_of_mem _ (List.mem_append_left _ (List.mem_append_left _ (List.mem_of_getElem? (i := 13) rfl))))) (fun _ h9 => h9) rfl dX11_duties_346 ?_
                              refine lv_iload_n hx hb dX11_duties_349 rfl (lv_at hl 1 rfl) ?_
                              refine va_iald hx hb hK hP 1 0 rfl rfl (i_in (by omega) (by omega)) dX11_duties_350 ?_
                              refine lv_topi (fun v118 ev118 => ?_)
                              refine va_iast hx hb hK hP hD hS 0 0 rfl rfl (i_in (by omega) (by omega)) dX11_duties_351 (fun H locs => ?_)
                              clear hP hD hS
                              intro hP hD hS
                              replace hP : va_P D vwCl [(aI cI (md 31) 36 (upd mliq q334_1.toNatClampNeg v118)), (aI cI (md 33) 36 mnlq), (moC md sd (0) mst hn cn pn mq gn hnn hnn (0) mlt ln ycu ytk yfr yti yfa yfb an un lc td mtn), (aI cI (md 34) 300 mtp)] H := hP
                              replace hD : va_D A [(aI cI (md 31) 36 (upd mliq q334_1.toNatClampNeg v118)), (aI cI (md 33) 36 mnlq), (moC md sd (0) mst hn cn pn mq gn hnn hnn (0) mlt ln ycu ytk yfr yti yfa yfb an un lc td mtn), (aI cI (md 34) 300 mtp)] := hD
                              obtain ⟨v119, ev119⟩ : ∃ y : Int32, y = q334_1 + 1 := ⟨_, rfl⟩
                              try have tv119 : v119.toInt = q334_1.toInt + 1 := by rw [ev119]; exact (i_add (x := q334_1) (y := (1 : Int32)) (by rw [k1]; omega) (by rw [k1]; omega)).trans (by rw [k1])
                              refine lv_iinc (v := v119) (lv' := [(1, .int v119), (0, .ref (md 64)), (3, .int sk67), (4, .int jdays), (5, .int sk90)]) hx hb dX11_duties_352 hl (k := 1) rfl (by rw [ev119]; rfl) (by decide) rfl (fun ls hl => ?_)
                              refine lv_goto (tgt := 334) hx hb dX11_duties_355 (by decide) ?_
                              exact ih111 (v119, upd mliq q334_1.toNatClampNeg v118) ls H locs ⟨(by omega), (by omega), (by exact fun j hj => if e9 : j = q334_1.toNatClampNeg then (by rw [e9, upd_s]; assumption) else (by rw [upd_n _ _ e9]; exact g110 j (by have := i_cl (x := q334_1) (by omega); omega))), lv_sub hl [1, 0, 2, 3, 4] rfl, hP.sub [0, 1, 2, 3] rfl, hD.sub [0, 1, 2, 3] (by decide +kernel) rfl, hS⟩ (by show 36 - v119.toInt < _; omega)
                        · skip
                          have f120 := i_nle c106
                          refine lv_aload_n hx hb dX11_duties_307 rfl (lv_at hl 0 rfl) ?_
                          refine lv_aload_n hx hb dX11_duties_308 rfl (lv_at hl 0 rfl) ?_
                          refine va_get (D := D) (ci := 11) (v := .int yfa) (C := RX11) (T := TX11) (N := 64) hx hb hts inX11_duties_X11 hown hK hP 2 rfl rfl 42 (by decide) (hts (Cond.fieldLink RX11 271 "PortRoomsModel" "fault" "I") (List.mem_cons_of_mem _ (List.mem_append_left _ (List.mem_append_left _ (List.mem_of_getElem? (i := 4) rfl))))) (fun _ h9 => h9) rfl dX11_duties_309 ?_
                          refine va_put (D := D) (ci := 11) (v := .int yfa) (ty := .int) (C := RX11) (T := TX11) (N := 64) hx hb hts inX11_duties_X11 tyX11 tyX11_ok nmX11 hown hK hP hD hS 2 rfl rfl 36 (by decide) (hts (Cond.fieldLink RX11 310 "PortRoomsModel" "latest" "I") (List.mem_cons_of_mem _ (List.mem_append_left _ (List.mem_append_left _ (List.mem_of_getElem? (i := 14) rfl))))) (fun _ h9 => h9) rfl (tyX11_ok 36 (by decide)) rfl rfl (Nat.le_of_ble_eq_true rfl) dX11_duties_312 (fun H locs => ?_)
                          clear hP hD hS
                          intro hP hD hS
                          replace hP : va_P D vwCl [(aI cI (md 31) 36 mli), (aI cI (md 33) 36 mnlq), (moC md sd (0) mst hn cn pn mq gn mln hnn (0) yfa ln ycu ytk yfr yti yfa yfb an un lc td mtn), (aI cI (md 34) 300 mtp)] H := hP
                          replace hD : va_D A [(aI cI (md 31) 36 mli), (aI cI (md 33) 36 mnlq), (moC md sd (0) mst hn cn pn mq gn mln hnn (0) yfa ln ycu ytk yfr yti yfa yfb an un lc td mtn), (aI cI (md 34) 300 mtp)] := hD
                          have hdq9 := dpF_le mtp ln.toNatClampNeg hnn.toNatClampNeg
                          have clc121 := i_cl (x := ln) (by omega)
                          refine lv_ldcw hx hb hown (hts (Cond.constant RX11 313 (-1000100)) (List.mem_cons_of_mem _ (List.mem_append_left _ (List.mem_append_left _ (List.mem_of_getElem? (i := 15) rfl))))) dX11_duties_315 ?_
                          refine lv_aload_n hx hb dX11_duties_318 rfl (lv_at hl 0 rfl) ?_
                          refine va_get (D := D) (ci := 11) (v := .int yfb) (C := RX11) (T := TX11) (N := 64) hx hb hts inX11_duties_X11 hown hK hP 2 rfl rfl 43 (by decide) (hts (Cond.fieldLink RX11 274 "PortRoomsModel" "faultAt" "I") (List.mem_cons_of_mem _ (List.mem_append_left _ (List.mem_append_left _ (List.mem_of_getElem? (i := 16) rfl))))) (fun _ h9 => h9) rfl dX11_duties_319 ?_
                          refine lv_isub hx hb dX11_duties_322 ?_
                          refine lv_topi (fun v122 ev122 => ?_)
                          try have tv122 : v122.toInt = (-1000100) - yfb.toInt := by rw [ev122]; exact (i_sub (x := ((-1000100) : Int32)) (y := yfb) (by rw [km1000100]; omega) (by rw [km1000100]; omega)).trans (by rw [km1000100])
                          have clc123 := i_cl (x := hnn) (by omega)
                          have hdr9 := dcF_rng (T := mtp) (L := ln.toNatClampNeg) (n := hnn.toNatClampNeg)
                          have hbad9 : ¬ yfa.toInt = 0 ∧ yfa.toInt = dcF mtp ln.toNatClampNeg hnn.toNatClampNeg ∧ yfb.toInt = (dpF mtp ln.toNatClampNeg hnn.toNatClampNeg : Int) ∧ ¬ tK mtp ln.toNatClampNeg (poL mtp ln.toNatClampNeg hnn.toNatClampNeg) = 8 := by first | (rcases g16 with h9 | h9 <;> first | (exfalso; omega) | exact h9) | (rcases g101 with h9 | h9 <;> first | (exfalso; omega) | exact ⟨h9.1, h9.2.1, h9.2.2, by omega⟩)
                          have hP9 := hP.sub (ws' := [(moC md sd (0) mst hn cn pn mq gn mln hnn (0) yfa ln ycu ytk yfr yti yfa yfb an un lc td mtn), (aI cI (md 31) 36 mli), (aI cI (md 33) 36 mnlq), (aI cI (md 34) 300 mtp)]) [2, 0, 1, 3] rfl
                          have hD9 := hD.sub (ws' := [(moC md sd (0) mst hn cn pn mq gn mln hnn (0) yfa ln ycu ytk yfr yti yfa yfb an un lc td mtn), (aI cI (md 31) 36 mli), (aI cI (md 33) 36 mnlq), (aI cI (md 34) 300 mtp)]) [2, 0, 1, 3] (by decide +kernel) rfl
                          exact W.iret (v := v122) hx hb hr (fun t ht hW => ⟨⟨v122, (mln, mli, hnn, mnlq, yfa, ln, ycu, ytk, yfr, yti, yfa, yfb), rfl, (by show 0 ≤ mln.toInt ∧ mln.toInt ≤ 12 ∧ mdP mtp ln.toNatClampNeg v122 mlt mln yfa mln mli mli; exact ⟨by omega, by omega, ⟨hnn.toNatClampNeg, by omega, g14, Or.inr ⟨hbad9.2.2.2, by omega, hbad9.2.1, by omega, rfl, rfl⟩⟩⟩), by rw [ht]; exact hP9, va_K.moved hW.alike hK, hD9⟩, hS.F ht⟩) hS.2.2 dX11_duties_323
                      · skip
                        have f124 := i_eq c103
                        have hT5 : yfa.toInt = 0 ∧ yfr.toInt = (tS mtp ln.toNatClampNeg (lnN mtp ln.toNatClampNeg (poL mtp ln.toNatClampNeg hnn.toNatClampNeg)) : Int) ∧ ycu.toInt = (tE mtp ln.toNatClampNeg (lnN mtp ln.toNatClampNeg (poL mtp ln.toNatClampNeg hnn.toNatClampNeg)) : Int) ∧ ytk.toInt = mK mtp ln.toNatClampNeg (lnN mtp ln.toNatClampNeg (poL mtp ln.toNatClampNeg hnn.toNatClampNeg)) ∧ hnn.toInt < 12 ∧ tK mtp ln.toNatClampNeg (poL mtp ln.toNatClampNeg hnn.toNatClampNeg) < 4 ∧ acR mtp ln.toNatClampNeg (tE mtp ln.toNatClampNeg (poL mtp ln.toNatClampNeg hnn.toNatClampNeg)) = 0 ∧ jdays.toInt = acD mtp ln.toNatClampNeg (tE mtp ln.toNatClampNeg (poL mtp ln.toNatClampNeg hnn.toNatClampNeg)) ∧ tK mtp ln.toNatClampNeg (acP mtp ln.toNatClampNeg (tE mtp ln.toNatClampNeg (poL mtp ln.toNatClampNeg hnn.toNatClampNeg))) = 4 ∧ lnR mtp ln.toNatClampNeg (poL mtp ln.toNatClampNeg hnn.toNatClampNeg) = 0 ∧ sk90.toInt = tN mtp ln.toNatClampNeg (tE mtp ln.toNatClampNeg (acP mtp ln.toNatClampNeg (tE mtp ln.toNatClampNeg (poL mtp ln.toNatClampNeg hnn.toNatClampNeg)))) := by rcases g101 with h9 | h9 <;> first | exact h9 | (exfalso; omega)
                        refine lv_aload_n hx hb dX11_duties_245 rfl (lv_at hl 0 rfl) ?_
                        refine va_get (D := D) (ci := 11) (v := .ref (md 33)) (C := RX11) (T := TX11) (N := 64) hx hb hts inX11_duties_X11 hown hK hP 2 rfl rfl 33 (by decide) (hts (Cond.fieldLink RX11 84 "PortRoomsModel" "newLine" "[I") (List.mem_cons_of_mem _ (List.mem_append_left _ (List.mem_append_left _ (List.mem_of_getElem? (i := 13) rfl))))) (fun _ h9 => h9) rfl dX11_duties_246 ?_
                        refine lv_iconst (v := 3) hx hb dX11_duties_249 (by decide) ?_
                        refine lv_aload_n hx hb dX11_duties_250 rfl (lv_at hl 0 rfl) ?_
                        refine va_get (D := D) (ci := 11) (v := .int hnn) (C := RX11) (T := TX11) (N := 64) hx hb hts inX11_duties_X11 hown hK hP 2 rfl rfl 32 (by decide) (hts (Cond.fieldLink RX11 287 "PortRoomsModel" "newLines" "I") (List.mem_cons_of_mem _ (List.mem_append_left _ (List.mem_append_left _ (List.mem_of_getElem? (i := 5) rfl))))) (fun _ h9 => h9) rfl dX11_duties_251 ?_
                        refine lv_imul hx hb dX11_duties_254 ?_
                        refine lv_topi (fun v125 ev125 => ?_)
                        try have tv125 : v125.toInt = 3 * hnn.toInt := by rw [ev125]; exact (i_mul (x := (3 : Int32)) (y := hnn) (by rw [k3]; omega) (by rw [k3]; omega)).trans (by rw [k3])
                        refine lv_iload_n hx hb dX11_duties_255 rfl (lv_at hl 1 rfl) ?_
                        refine va_iast hx hb hK hP hD hS 1 0 rfl rfl (i_in (by omega) (by omega)) dX11_duties_256 (fun H locs => ?_)
                        clear hP hD hS
                        intro hP hD hS
                        replace hP : va_P D vwCl [(aI cI (md 31) 36 mli), (aI cI (md 33) 36 (upd mnlq v125.toNatClampNeg sk67)), (moC md sd (0) mst hn cn pn mq gn mln hnn (0) mlt ln ycu ytk yfr yti yfa yfb an un lc td mtn), (aI cI (md 34) 300 mtp)] H := hP
                        replace hD : va_D A [(aI cI (md 31) 36 mli), (aI cI (md 33) 36 (upd mnlq v125.toNatClampNeg sk67)), (moC md sd (0) mst hn cn pn mq gn mln hnn (0) mlt ln ycu ytk yfr yti yfa yfb an un lc td mtn), (aI cI (md 34) 300 mtp)] := hD
                        refine lv_aload_n hx hb dX11_duties_257 rfl (lv_at hl 0 rfl) ?_
                        refine va_get (D := D) (ci := 11) (v := .ref (md 33)) (C := RX11) (T := TX11) (N := 64) hx hb hts inX11_duties_X11 hown hK hP 2 rfl rfl 33 (by decide) (hts (Cond.fieldLink RX11 84 "PortRoomsModel" "newLine" "[I") (List.mem_cons_of_mem _ (List.mem_append_left _ (List.mem_append_left _ (List.mem_of_getElem? (i := 13) rfl))))) (fun _ h9 => h9) rfl dX11_duties_258 ?_
                        refine lv_iconst (v := 3) hx hb dX11_duties_261 (by decide) ?_
                        refine lv_aload_n hx hb dX11_duties_262 rfl (lv_at hl 0 rfl) ?_
                        refine va_get (D := D) (ci := 11) (v := .int hnn) (C := RX11) (T := TX11) (N := 64) hx hb hts inX11_duties_X11 hown hK hP 2 rfl rfl 32 (by decide) (hts (Cond.fieldLink RX11 287 "PortRoomsModel" "newLines" "I") (List.mem_cons_of_mem _ (List.mem_append_left _ (List.mem_append_left _ (List.mem_of_getElem? (i := 5) rfl))))) (fun _ h9 => h9) rfl dX11_duties_263 ?_
                        refine lv_imul hx hb dX11_duties_266 ?_
                        refine lv_topi (fun v126 ev126 => ?_)
                        try have tv126 : v126.toInt = 3 * hnn.toInt := by rw [ev126]; exact (i_mul (x := (3 : Int32)) (y := hnn) (by rw [k3]; omega) (by rw [k3]; omega)).trans (by rw [k3])
                        refine lv_iconst (v := 1) hx hb dX11_duties_267 (by decide) ?_
                        refine lv_iadd hx hb dX11_duties_268 ?_
                        refine lv_topi (fun v127 ev127 => ?_)
                        try have tv127 : v127.toInt = v126.toInt + 1 := by rw [ev127]; exact (i_add (x := v126) (y := (1 : Int32)) (by rw [k1]; omega) (by rw [k1]; omega)).trans (by rw [k1])
                        refine lv_iload hx hb dX11_duties_269 (lv_at hl 2 rfl) ?_
                        refine va_iast hx hb hK hP hD hS 1 0 rfl rfl (i_in (by omega) (by omega)) dX11_duties_271 (fun H locs => ?_)
                        clear hP hD hS
                        intro hP hD hS
                        replace hP : va_P D vwCl [(aI cI (md 31) 36 mli), (aI cI (md 33) 36 (upd (upd mnlq v125.toNatClampNeg sk67) v127.toNatClampNeg jdays)), (moC md sd (0) mst hn cn pn mq gn mln hnn (0) mlt ln ycu ytk yfr yti yfa yfb an un lc td mtn), (aI cI (md 34) 300 mtp)] H := hP
                        replace hD : va_D A [(aI cI (md 31) 36 mli), (aI cI (md 33) 36 (upd (upd mnlq v125.toNatClampNeg sk67) v127.toNatClampNeg jdays)), (moC md sd (0) mst hn cn pn mq gn mln hnn (0) mlt ln ycu ytk yfr yti yfa yfb an un lc td mtn), (aI cI (md 34) 300 mtp)] := hD
                        refine lv_aload_n hx hb dX11_duties_272 rfl (lv_at hl 0 rfl) ?_
                        refine va_get (D := D) (ci := 11) (v := .ref (md 33)) (C := RX11) (T := TX11) (N := 64) hx hb hts inX11_duties_X11 hown hK hP 2 rfl rfl 33 (by decide) (hts (Cond.fieldLink RX11 84 "PortRoomsModel" "newLine" "[I") (List.mem_cons_of_mem _ (List.mem_append_left _ (List.mem_append_left _ (List.mem_of_getElem? (i := 13) rfl))))) (fun _ h9 => h9) rfl dX11_duties_273 ?_
                        refine lv_iconst (v := 3) hx hb dX11_duties_276 (by decide) ?_
                        refine lv_aload_n hx hb dX11_duties_277 rfl (lv_at hl 0 rfl) ?_
                        refine va_get (D := D) (ci := 11) (v := .int hnn) (C := RX11) (T := TX11) (N := 64) hx hb hts inX11_duties_X11 hown hK hP 2 rfl rfl 32 (by decide) (hts (Cond.fieldLink RX11 287 "PortRoomsModel" "newLines" "I") (List.mem_cons_of_mem _ (List.mem_append_left _ (List.mem_append_left _ (List.mem_of_getElem? (i := 5) rfl))))) (fun _ h9 => h9) rfl dX11_duties_278 ?_
                        refine lv_imul hx hb dX11_duties_281 ?_
                        refine lv_topi (fun v128 ev128 => ?_)
                        try have tv128 : v128.toInt = 3 * hnn.toInt := by rw [ev128]; exact (i_mul (x := (3 : Int32)) (y := hnn) (by rw [k3]; omega) (by rw [k3]; omega)).trans (by rw [k3])
                        refine lv_iconst (v := 2) hx hb dX11_duties_282 (by decide) ?_
                        refine lv_iadd hx hb dX11_duties_283 ?_
                        refine lv_topi (fun v129 ev129 => ?_)
                        try have tv129 : v129.toInt = v128.toInt + 2 := by rw [ev129]; exact (i_add (x := v128) (y := (2 : Int32)) (by rw [k2]; omega) (by rw [k2]; omega)).trans (by rw [k2])
                        refine lv_iload hx hb dX11_duties_284 (lv_at hl 3 rfl) ?_
                        refine va_iast hx hb hK hP hD hS 1 0 rfl rfl (i_in (by omega) (by omega)) dX11_duties_286 (fun H locs => ?_)
                        clear hP hD hS
                        intro hP hD hS
                        replace hP : va_P D vwCl [(aI cI (md 31) 36 mli), (aI cI (md 33) 36 (upd (upd (upd mnlq v125.toNatClampNeg sk67) v127.toNatClampNeg jdays) v129.toNatClampNeg sk90)), (moC md sd (0) mst hn cn pn mq gn mln hnn (0) mlt ln ycu ytk yfr yti yfa yfb an un lc td mtn), (aI cI (md 34) 300 mtp)] H := hP
                        replace hD : va_D A [(aI cI (md 31) 36 mli), (aI cI (md 33) 36 (upd (upd (upd mnlq v125.toNatClampNeg sk67) v127.toNatClampNeg jdays) v129.toNatClampNeg sk90)), (moC md sd (0) mst hn cn pn mq gn mln hnn (0) mlt ln ycu ytk yfr yti yfa yfb an un lc td mtn), (aI cI (md 34) 300 mtp)] := hD
                        refine lv_aload_n hx hb dX11_duties_287 rfl (lv_at hl 0 rfl) ?_
                        refine lv_dup hx hb dX11_duties_288 rfl ?_
                        refine va_get (D := D) (ci := 11) (v := .int hnn) (C := RX11) (T := TX11) (N := 64) hx hb hts inX11_duties_X11 hown hK hP 2 rfl rfl 32 (by decide) (hts (Cond.fieldLink RX11 287 "PortRoomsModel" "newLines" "I") (List.mem_cons_of_mem _ (List.mem_append_left _ (List.mem_append_left _ (List.mem_of_getElem? (i := 5) rfl))))) (fun _ h9 => h9) rfl dX11_duties_289 ?_
                        refine lv_iconst (v := 1) hx hb dX11_duties_292 (by decide) ?_
                        refine lv_iadd hx hb dX11_duties_293 ?_
                        refine lv_topi (fun v130 ev130 => ?_)
                        try have tv130 : v130.toInt = hnn.toInt + 1 := by rw [ev130]; exact (i_add (x := hnn) (y := (1 : Int32)) (by rw [k1]; omega) (by rw [k1]; omega)).trans (by rw [k1])
                        refine va_put (D := D) (ci := 11) (v := .int v130) (ty := .int) (C := RX11) (T := TX11) (N := 64) hx hb hts inX11_duties_X11 tyX11 tyX11_ok nmX11 hown hK hP hD hS 2 rfl rfl 32 (by decide) (hts (Cond.fieldLink RX11 287 "PortRoomsModel" "newLines" "I") (List.mem_cons_of_mem _ (List.mem_append_left _ (List.mem_append_left _ (List.mem_of_getElem? (i := 5) rfl))))) (fun _ h9 => h9) rfl (tyX11_ok 32 (by decide)) rfl rfl (Nat.le_of_ble_eq_true rfl) dX11_duties_294 (fun H locs => ?_)
                        clear hP hD hS
                        intro hP hD hS
                        replace hP : va_P D vwCl [(aI cI (md 31) 36 mli), (aI cI (md 33) 36 (upd (upd (upd mnlq v125.toNatClampNeg sk67) v127.toNatClampNeg jdays) v129.toNatClampNeg sk90)), (moC md sd (0) mst hn cn pn mq gn mln v130 (0) mlt ln ycu ytk yfr yti yfa yfb an un lc td mtn), (aI cI (md 34) 300 mtp)] H := hP
                        replace hD : va_D A [(aI cI (md 31) 36 mli), (aI cI (md 33) 36 (upd (upd (upd mnlq v125.toNatClampNeg sk67) v127.toNatClampNeg jdays) v129.toNatClampNeg sk90)), (moC md sd (0) mst hn cn pn mq gn mln v130 (0) mlt ln ycu ytk yfr yti yfa yfb an un lc td mtn), (aI cI (md 34) 300 mtp)] := hD
                        refine lv_goto (tgt := 37) hx hb dX11_duties_297 (by decide) ?_
                        have clc131 := i_cl (x := hnn) (by omega)
                        have clc132 := i_cl (x := v130) (by omega)
                        have clc133 := i_cl (x := v125) (by omega)
                        have clc134 := i_cl (x := v127) (by omega)
                        have clc135 := i_cl (x := v129) (by omega)
                        have en9 : v130.toNatClampNeg = hnn.toNatClampNeg + 1 := by omega
                        exact ih17 (upd (upd (upd mnlq v125.toNatClampNeg sk67) v127.toNatClampNeg jdays) v129.toNatClampNeg sk90, ycu, ytk, yfr, yti, yfa, yfb, v130) ls H locs ⟨(by omega), (by omega), (by omega), (by omega), (by omega), (by omega), (by rw [en9]; exact duOk_s g14 (by omega) (by omega)), (by rw [en9]; exact mlQ_up g15 rfl (by omega) (by omega) (by omega) (by omega) (show _ = lnD mtp ln.toNatClampNeg (poL mtp ln.toNatClampNeg hnn.toNatClampNeg) by unfold lnD; omega) (show _ = lnP mtp ln.toNatClampNeg (poL mtp ln.toNatClampNeg hnn.toNatClampNeg) by unfold lnP; omega)), (by rw [en9, poL_s]; exact Or.inl ⟨by omega, by omega, by omega, by omega⟩), lv_sub hl [0] rfl, hP.sub [0, 1, 2, 3] rfl, hD.sub [0, 1, 2, 3] (by decide +kernel) rfl, hS⟩ (by show 13 - v130.toInt < _; omega)
                    · intro hj102
                      refine lv_aload_n hx hb dX11_duties_221 rfl (lv_at hl 1 rfl) ?_
                      refine va_get (D := D) (ci := 11) (v := .int pfa) (C := RX11) (T := TX11) (N := 64) hx hb hts inX11_duties_X11 hown hK hP 2 rfl rfl 42 (by decide) (hts (Cond.fieldLink RX11 271 "PortRoomsModel" "fault" "I") (List.mem_cons_of_mem _ (List.mem_append_left _ (List.mem_append_left _ (List.mem_of_getElem? (i := 4) rfl))))) (fun _ h9 => h9) rfl dX11_duties_222 ?_
                      refine lv_if_ne (tgt := 238) hx hb dX11_duties_225 (by decide) (fun c136 => ?_) (fun c136 => ?_)
                      · skip
                        have f137 := i_ne c136
                        exact hj102 (pcu, ptk, pfr, pti, pfa, pfb) ls _ _ ⟨(by omega), (by omega), (by omega), (by omega), (by omega), lv_sub hl [1, 2, 3, 0] rfl, hP.sub [0, 1, 2, 3] rfl, hD.sub [0, 1, 2, 3] (by decide +kernel) rfl, hS⟩
                      · skip
                        have f138 := i_eq c136
                        have hT4 : pfa.toInt = 0 ∧ pfr.toInt = (tS mtp ln.toNatClampNeg (tE mtp ln.toNatClampNeg (tE mtp ln.toNatClampNeg (acP mtp ln.toNatClampNeg (tE mtp ln.toNatClampNeg (poL mtp ln.toNatClampNeg hnn.toNatClampNeg))))) : Int) ∧ pcu.toInt = (tE mtp ln.toNatClampNeg (tE mtp ln.toNatClampNeg (tE mtp ln.toNatClampNeg (acP mtp ln.toNatClampNeg (tE mtp ln.toNatClampNeg (poL mtp ln.toNatClampNeg hnn.toNatClampNeg))))) : Int) ∧ ptk.toInt = mK mtp ln.toNatClampNeg (tE mtp ln.toNatClampNeg (tE mtp ln.toNatClampNeg (acP mtp ln.toNatClampNeg (tE mtp ln.toNatClampNeg (poL mtp ln.toNatClampNeg hnn.toNatClampNeg))))) ∧ hnn.toInt < 12 ∧ tK mtp ln.toNatClampNeg (poL mtp ln.toNatClampNeg hnn.toNatClampNeg) < 4 ∧ acR mtp ln.toNatClampNeg (tE mtp ln.toNatClampNeg (poL mtp ln.toNatClampNeg hnn.toNatClampNeg)) = 0 ∧ jdays.toInt = acD mtp ln.toNatClampNeg (tE mtp ln.toNatClampNeg (poL mtp ln.toNatClampNeg hnn.toNatClampNeg)) ∧ tK mtp ln.toNatClampNeg (acP mtp ln.toNatClampNeg (tE mtp ln.toNatClampNeg (poL mtp ln.toNatClampNeg hnn.toNatClampNeg))) = 4 ∧ tK mtp ln.toNatClampNeg (tE mtp ln.toNatClampNeg (acP mtp ln.toNatClampNeg (tE mtp ln.toNatClampNeg (poL mtp ln.toNatClampNeg hnn.toNatClampNeg)))) = 5 ∧ sk90.toInt = tN mtp ln.toNatClampNeg (tE mtp ln.toNatClampNeg (acP mtp ln.toNatClampNeg (tE mtp ln.toNatClampNeg (poL mtp ln.toNatClampNeg hnn.toNatClampNeg)))) ∧ tN mtp ln.toNatClampNeg (tE mtp ln.toNatClampNeg (acP mtp ln.toNatClampNeg (tE mtp ln.toNatClampNeg (poL mtp ln.toNatClampNeg hnn.toNatClampNeg)))) ≤ 100 := by rcases g95 with h9 | h9 <;> first | exact h9 | (exfalso; omega)
                        have hel9 := tE_le (T := mtp) (L := ln.toNatClampNeg) hpl9
                        have hal9 := acP_le (T := mtp) (L := ln.toNatClampNeg) (c := (tE mtp ln.toNatClampNeg (poL mtp ln.toNatClampNeg hnn.toNatClampNeg))) (by omega)
                        have heb9 := tE_le (T := mtp) (L := ln.toNatClampNeg) hal9
                        have hec9 := tE_le (T := mtp) (L := ln.toNatClampNeg) heb9.2.1
                        have hle4 : (tE mtp ln.toNatClampNeg (tE mtp ln.toNatClampNeg (acP mtp ln.toNatClampNeg (tE mtp ln.toNatClampNeg (poL mtp ln.toNatClampNeg hnn.toNatClampNeg))))) ≤ ln.toNatClampNeg := by omega
                        have hel4 := tE_le (T := mtp) (L := ln.toNatClampNeg) hle4
                        have hsemi4 := (tk_f (T := mtp) (L := ln.toNatClampNeg) hle4).2.2.1
                        have hlt4 := (tk_f (T := mtp) (L := ln.toNatClampNeg) hle4).2.2.2.2.2.2
                        refine lv_aload_n hx hb dX11_duties_228 rfl (lv_at hl 1 rfl) ?_
                        refine lv_aload_n hx hb dX11_duties_229 rfl (lv_at hl 1 rfl) ?_
                        refine lv_bipush (v := 59) hx hb dX11_duties_230 (by decide) ?_
                        refine st_i1 (va_runV (C := RX11) (As := [.int 59]) (rest := [.ref (md 64)]) ⟨hx, hb, hml, hown, hts⟩ (ct_X11_is l D cI cY cJ cQ _ md sd 0 mst hn cn pn mq gn mln hnn 0 mlt ln pcu ptk pfr pti pfa pfb an un lc td mtn mtp (59 : Int32) (by omega) (by omega) (by omega)) (cwV 1 hts gX11_duties_X11_is rfl rfl rfl ⟨rfl, cdX11_is⟩ ⟨Nat.le_of_ble_eq_true rfl, Nat.le_of_ble_eq_true rfl⟩) (cPreV (hP.sub [2, 3] rfl) hK (hD.sub [2, 3] (by decide +kernel) rfl) hN (ci := 11) (q0 := 0) rfl rfl) rfl rfl hl.1 rfl (lv_room (Nat.le_of_ble_eq_true rfl)) dX11_duties_232 ⟨Nat.le_of_ble_eq_true rfl, Nat.le_of_ble_eq_true rfl⟩) hP hD hS hA [2, 3] rfl (fun _ => rfl) (fun r141 u139 H locs hw140 => ?_)
                        clear hP hS
                        intro hP hS
                        replace hw140 : r141 = if ptk.toInt = 4 ∧ (mtp pfr.toNatClampNeg).toInt = (59 : Int32).toInt then 1 else 0 := hw140
                        have hrb9 := bo_or hw140
                        have clc142 := i_cl (x := pfr) (by omega)
                        have hiy9 : (mtp pfr.toNatClampNeg).toInt = (mtp (tS mtp ln.toNatClampNeg (tE mtp ln.toNatClampNeg (tE mtp ln.toNatClampNeg (acP mtp ln.toNatClampNeg (tE mtp ln.toNatClampNeg (poL mtp ln.toNatClampNeg hnn.toNatClampNeg))))))).toInt := by rw [show pfr.toNatClampNeg = tS mtp ln.toNatClampNeg (tE mtp ln.toNatClampNeg (tE mtp ln.toNatClampNeg (acP mtp ln.toNatClampNeg (tE mtp ln.toNatClampNeg (poL mtp ln.toNatClampNeg hnn.toNatClampNeg))))) by omega]
                        refine st_v (wr := [(aI cI (md 31) 36 mli), (aI cI (md 33) 36 mnlq)]) (va_runV (C := RX11) (As := [.int r141]) (rest := []) ⟨hx, hb, hml, hown, hts⟩ (ct_X11_need l D cI cY cJ cQ _ md sd 0 mst hn cn pn mq gn mln hnn 0 mlt ln pcu ptk pfr pti pfa pfb an un lc td mtn mtp r141 (by omega) (by omega) (by omega) (by omega) (by omega) (by omega) (by omega) (by assumption)) (cwV 1 hts gX11_duties_X11_need rfl rfl rfl ⟨rfl, cdX11_need⟩ ⟨Nat.le_of_ble_eq_true rfl, Nat.le_of_ble_eq_true rfl⟩) (cPreV (hP.sub [2, 3] rfl) hK (hD.sub [2, 3] (by decide +kernel) rfl) hN (ci := 11) (q0 := 0) rfl rfl) rfl rfl hl.1 rfl (lv_room (Nat.le_of_ble_eq_true rfl)) dX11_duties_235 ⟨Nat.le_of_ble_eq_true rfl, Nat.le_of_ble_eq_true rfl⟩) hP hD hS hA [2, 3] [0, 1] rfl rfl (by decide +kernel) (by decide +kernel) (fun u143 H locs hw144 => ?_)
                        clear hP hD hS
                        intro hP hD hS
                        obtain ⟨mcu_146, mtk_147, mfr_148, mti_149, mfa_150, mfb_151⟩ := u143
                        replace hw144 : 0 ≤ mfr_148.toInt ∧ mfr_148.toInt ≤ mcu_146.toInt ∧ mcu_146.toInt ≤ ln.toInt ∧ mti_149.toInt = mcu_146.toInt ∧ ((¬ pfa.toInt = 0 ∧ mfa_150.toInt = pfa.toInt ∧ mfb_151.toInt = pfb.toInt ∧ mfr_148.toInt = pfr.toInt ∧ mcu_146.toInt = pcu.toInt ∧ mtk_147.toInt = ptk.toInt) ∨ (pfa.toInt = 0 ∧ ¬ r141.toInt = 0 ∧ mfa_150.toInt = 0 ∧ mfr_148.toInt = (tS mtp ln.toNatClampNeg pcu.toNatClampNeg : Int) ∧ mcu_146.toInt = (tE mtp ln.toNatClampNeg pcu.toNatClampNeg : Int) ∧ mti_149.toInt = mcu_146.toInt ∧ mtk_147.toInt = mK mtp ln.toNatClampNeg pcu.toNatClampNeg) ∨ (pfa.toInt = 0 ∧ r141.toInt = 0 ∧ mfa_150.toInt = 1 ∧ mfb_151.toInt = pfr.toInt ∧ mfr_148.toInt = pfr.toInt ∧ mcu_146.toInt = pcu.toInt ∧ mtk_147.toInt = ptk.toInt)) := hw144
                        replace hP : va_P D vwCl [(aI cI (md 31) 36 mli), (aI cI (md 33) 36 mnlq), (moC md sd (0) mst hn cn pn mq gn mln hnn (0) mlt ln mcu_146 mtk_147 mfr_148 mti_149 mfa_150 mfb_151 an un lc td mtn), (aI cI (md 34) 300 mtp)] H := hP
                        replace hD : va_D A [(aI cI (md 31) 36 mli), (aI cI (md 33) 36 mnlq), (moC md sd (0) mst hn cn pn mq gn mln hnn (0) mlt ln mcu_146 mtk_147 mfr_148 mti_149 mfa_150 mfb_151 an un lc td mtn), (aI cI (md 34) 300 mtp)] := hD
                        have cphw144 := i_cl (x := pcu) (by omega)
                        have ephw144 : pcu.toNatClampNeg = tE mtp ln.toNatClampNeg (tE mtp ln.toNatClampNeg (tE mtp ln.toNatClampNeg (acP mtp ln.toNatClampNeg (tE mtp ln.toNatClampNeg (poL mtp ln.toNatClampNeg hnn.toNatClampNeg))))) := by omega
                        rw [ephw144] at hw144
                        have clc152 := i_cl (x := hnn) (by omega)
                        obtain ⟨hb2a, hb2b, hb2c⟩ := du_b2 (T := mtp) (L := ln.toNatClampNeg) (n := hnn.toNatClampNeg) (by omega) (by omega) (by omega) (by omega)
                        have hpc9 : ¬ tK mtp ln.toNatClampNeg (tE mtp ln.toNatClampNeg (tE mtp ln.toNatClampNeg (acP mtp ln.toNatClampNeg (tE mtp ln.toNatClampNeg (poL mtp ln.toNatClampNeg hnn.toNatClampNeg))))) = 6 → paR mtp ln.toNatClampNeg (tE mtp ln.toNatClampNeg (acP mtp ln.toNatClampNeg (tE mtp ln.toNatClampNeg (poL mtp ln.toNatClampNeg hnn.toNatClampNeg)))) = 1 ∧ tS mtp ln.toNatClampNeg (lnN mtp ln.toNatClampNeg (poL mtp ln.toNatClampNeg hnn.toNatClampNeg)) = tS mtp ln.toNatClampNeg (tE mtp ln.toNatClampNeg (tE mtp ln.toNatClampNeg (acP mtp ln.toNatClampNeg (tE mtp ln.toNatClampNeg (poL mtp ln.toNatClampNeg hnn.toNatClampNeg))))) := fun h => ⟨by unfold paR; rw [if_neg (by omega), if_neg (by omega), if_pos h], by unfold lnN paP; rw [if_neg (by omega), if_neg (by omega), if_pos h]⟩
                        have hpd9 : tK mtp ln.toNatClampNeg (tE mtp ln.toNatClampNeg (tE mtp ln.toNatClampNeg (acP mtp ln.toNatClampNeg (tE mtp ln.toNatClampNeg (poL mtp ln.toNatClampNeg hnn.toNatClampNeg))))) = 6 → paR mtp ln.toNatClampNeg (tE mtp ln.toNatClampNeg (acP mtp ln.toNatClampNeg (tE mtp ln.toNatClampNeg (poL mtp ln.toNatClampNeg hnn.toNatClampNeg)))) = 0 ∧ tS mtp ln.toNatClampNeg (lnN mtp ln.toNatClampNeg (poL mtp ln.toNatClampNeg hnn.toNatClampNeg)) = tS mtp ln.toNatClampNeg (tE mtp ln.toNatClampNeg (tE mtp ln.toNatClampNeg (tE mtp ln.toNatClampNeg (acP mtp ln.toNatClampNeg (tE mtp ln.toNatClampNeg (poL mtp ln.toNatClampNeg hnn.toNatClampNeg)))))) ∧ tE mtp ln.toNatClampNeg (lnN mtp ln.toNatClampNeg (poL mtp ln.toNatClampNeg hnn.toNatClampNeg)) = tE mtp ln.toNatClampNeg (tE mtp ln.toNatClampNeg (tE mtp ln.toNatClampNeg (tE mtp ln.toNatClampNeg (acP mtp ln.toNatClampNeg (tE mtp ln.toNatClampNeg (poL mtp ln.toNatClampNeg hnn.toNatClampNeg)))))) ∧ mK mtp ln.toNatClampNeg (lnN mtp ln.toNatClampNeg (poL mtp ln.toNatClampNeg hnn.toNatClampNeg)) = mK mtp ln.toNatClampNeg (tE mtp ln.toNatClampNeg (tE mtp ln.toNatClampNeg (tE mtp ln.toNatClampNeg (acP mtp ln.toNatClampNeg (tE mtp ln.toNatClampNeg (poL mtp ln.toNatClampNeg hnn.toNatClampNeg)))))) := fun h => by have el : lnN mtp ln.toNatClampNeg (poL mtp ln.toNatClampNeg hnn.toNatClampNeg) = tE mtp ln.toNatClampNeg (tE mtp ln.toNatClampNeg (tE mtp ln.toNatClampNeg (acP mtp ln.toNatClampNeg (tE mtp ln.toNatClampNeg (poL mtp ln.toNatClampNeg hnn.toNatClampNeg))))) := (by unfold lnN paP; rw [if_neg (by omega), if_neg (by omega), if_neg (by omega)]); rw [el]; exact ⟨by unfold paR; rw [if_neg (by omega), if_neg (by omega), if_neg (by omega)], rfl, rfl, rfl⟩
                        exact hj102 (mcu_146, mtk_147, mfr_148, mti_149, mfa_150, mfb_151) ls _ _ ⟨(by omega), (by omega), (by omega), (by omega), (by omega), lv_sub hl [1, 2, 3, 0] rfl, hP.sub [0, 1, 2, 3] rfl, hD.sub [0, 1, 2, 3] (by decide +kernel) rfl, hS⟩
                  · intro hj96
                    refine lv_aload_n hx hb dX11_duties_202 rfl (lv_at hl 0 rfl) ?_
                    refine va_get (D := D) (ci := 11) (v := .int ofa) (C := RX11) (T := TX11) (N := 64) hx hb hts inX11_duties_X11 hown hK hP 2 rfl rfl 42 (by decide) (hts (Cond.fieldLink RX11 271 "PortRoomsModel" "fault" "I") (List.mem_cons_of_mem _ (List.mem_append_left _ (List.mem_append_left _ (List.mem_of_getElem? (i := 4) rfl))))) (fun _ h9 => h9) rfl dX11_duties_203 ?_
                    refine lv_if_ne (tgt := 218) hx hb dX11_duties_206 (by decide) (fun c153 => ?_) (fun c153 => ?_)
                    · skip
                      have f154 := i_ne c153
                      refine lv_iconst (v := 0) hx hb dX11_duties_218 (by decide) ?_
                      exact hj96 (ocu, otk, ofr, oti, ofa, ofb, (0 : Int32)) ls _ _ ⟨(by omega), (by omega), (by omega), (by omega), (by omega), lv_sub hl [0, 1, 2] rfl, hP.sub [0, 1, 2, 3] rfl, hD.sub [0, 1, 2, 3] (by decide +kernel) rfl, hS⟩
                    · skip
                      have f155 := i_eq c153
                      have hT3 : ofa.toInt = 0 ∧ ofr.toInt = (tS mtp ln.toNatClampNeg (tE mtp ln.toNatClampNeg (acP mtp ln.toNatClampNeg (tE mtp ln.toNatClampNeg (poL mtp ln.toNatClampNeg hnn.toNatClampNeg)))) : Int) ∧ ocu.toInt = (tE mtp ln.toNatClampNeg (tE mtp ln.toNatClampNeg (acP mtp ln.toNatClampNeg (tE mtp ln.toNatClampNeg (poL mtp ln.toNatClampNeg hnn.toNatClampNeg)))) : Int) ∧ otk.toInt = mK mtp ln.toNatClampNeg (tE mtp ln.toNatClampNeg (acP mtp ln.toNatClampNeg (tE mtp ln.toNatClampNeg (poL mtp ln.toNatClampNeg hnn.toNatClampNeg)))) ∧ hnn.toInt < 12 ∧ tK mtp ln.toNatClampNeg (poL mtp ln.toNatClampNeg hnn.toNatClampNeg) < 4 ∧ acR mtp ln.toNatClampNeg (tE mtp ln.toNatClampNeg (poL mtp ln.toNatClampNeg hnn.toNatClampNeg)) = 0 ∧ jdays.toInt = acD mtp ln.toNatClampNeg (tE mtp ln.toNatClampNeg (poL mtp ln.toNatClampNeg hnn.toNatClampNeg)) ∧ tK mtp ln.toNatClampNeg (acP mtp ln.toNatClampNeg (tE mtp ln.toNatClampNeg (poL mtp ln.toNatClampNeg hnn.toNatClampNeg))) = 4 := by rcases g88 with h9 | h9 <;> first | exact h9 | (exfalso; omega)
                      have hel9 := tE_le (T := mtp) (L := ln.toNatClampNeg) hpl9
                      have hal9 := acP_le (T := mtp) (L := ln.toNatClampNeg) (c := (tE mtp ln.toNatClampNeg (poL mtp ln.toNatClampNeg hnn.toNatClampNeg))) (by omega)
                      have heb9 := tE_le (T := mtp) (L := ln.toNatClampNeg) hal9
                      have hle3 : (tE mtp ln.toNatClampNeg (acP mtp ln.toNatClampNeg (tE mtp ln.toNatClampNeg (poL mtp ln.toNatClampNeg hnn.toNatClampNeg)))) ≤ ln.toNatClampNeg := by omega
                      have hel3 := tE_le (T := mtp) (L := ln.toNatClampNeg) hle3
                      have hnum3 := (tk_f (T := mtp) (L := ln.toNatClampNeg) hle3).2.1
                      have hlen43 := (tk_f (T := mtp) (L := ln.toNatClampNeg) hle3).2.2.2.2.1
                      refine lv_aload_n hx hb dX11_duties_209 rfl (lv_at hl 0 rfl) ?_
                      refine lv_bipush (v := 100) hx hb dX11_duties_210 (by decide) ?_
                      refine st_i (wr := [(aI cI (md 31) 36 mli), (aI cI (md 33) 36 mnlq)]) (va_runV (C := RX11) (As := [.int 100]) (rest := []) ⟨hx, hb, hml, hown, hts⟩ (ct_X11_numberUpTo l D cI cY cJ cQ _ md sd 0 mst hn cn pn mq gn mln hnn 0 mlt ln ocu otk ofr oti ofa ofb an un lc td mtn mtp (100 : Int32) (by omega) (by omega) (by omega) (by omega) (by omega) (by omega) (by omega) (by assumption) (by omega) (by omega)) (cwV 1 hts gX11_duties_X11_numberUpTo rfl rfl rfl ⟨rfl, cdX11_numberUpTo⟩ ⟨Nat.le_of_ble_eq_true rfl, Nat.le_of_ble_eq_true rfl⟩) (cPreV (hP.sub [2, 3] rfl) hK (hD.sub [2, 3] (by decide +kernel) rfl) hN (ci := 11) (q0 := 0) rfl rfl) rfl rfl hl.1 rfl (lv_room (Nat.le_of_ble_eq_true rfl)) dX11_duties_212 ⟨Nat.le_of_ble_eq_true rfl, Nat.le_of_ble_eq_true rfl⟩) hP hD hS hA [2, 3] [0, 1] rfl rfl (by decide +kernel) (by decide +kernel) (fun r158 u156 H locs hw157 => ?_)
                      clear hP hD hS
                      intro hP hD hS
                      obtain ⟨mcu_159, mtk_160, mfr_161, mti_162, mfa_163, mfb_164⟩ := u156
                      replace hw157 : 0 ≤ mfr_161.toInt ∧ mfr_161.toInt ≤ mcu_159.toInt ∧ mcu_159.toInt ≤ ln.toInt ∧ mti_162.toInt = mcu_159.toInt ∧ ((otk.toInt = 3 ∧ nmV mtp ofr.toNatClampNeg (oti.toNatClampNeg - ofr.toNatClampNeg) ≤ (100 : Int32).toInt ∧ r158.toInt = nmV mtp ofr.toNatClampNeg (oti.toNatClampNeg - ofr.toNatClampNeg) ∧ mfa_163.toInt = 0 ∧ mfr_161.toInt = (tS mtp ln.toNatClampNeg ocu.toNatClampNeg : Int) ∧ mcu_159.toInt = (tE mtp ln.toNatClampNeg ocu.toNatClampNeg : Int) ∧ mti_162.toInt = mcu_159.toInt ∧ mtk_160.toInt = mK mtp ln.toNatClampNeg ocu.toNatClampNeg) ∨ (otk.toInt = 3 ∧ (100 : Int32).toInt < nmV mtp ofr.toNatClampNeg (oti.toNatClampNeg - ofr.toNatClampNeg) ∧ mfa_163.toInt = 2 ∧ mfb_164.toInt = ofr.toInt) ∨ (¬ otk.toInt = 3 ∧ mfa_163.toInt = 1 ∧ mfb_164.toInt = ofr.toInt)) := hw157
                      replace hP : va_P D vwCl [(aI cI (md 31) 36 mli), (aI cI (md 33) 36 mnlq), (moC md sd (0) mst hn cn pn mq gn mln hnn (0) mlt ln mcu_159 mtk_160 mfr_161 mti_162 mfa_163 mfb_164 an un lc td mtn), (aI cI (md 34) 300 mtp)] H := hP
                      replace hD : va_D A [(aI cI (md 31) 36 mli), (aI cI (md 33) 36 mnlq), (moC md sd (0) mst hn cn pn mq gn mln hnn (0) mlt ln mcu_159 mtk_160 mfr_161 mti_162 mfa_163 mfb_164 an un lc td mtn), (aI cI (md 34) 300 mtp)] := hD
                      have clc165 := i_cl (x := ofr) (by omega)
                      have clc166 := i_cl (x := oti) (by omega)
                      have cphw157 := i_cl (x := ocu) (by omega)
                      have ephw157 : ocu.toNatClampNeg = tE mtp ln.toNatClampNeg (tE mtp ln.toNatClampNeg (acP mtp ln.toNatClampNeg (tE mtp ln.toNatClampNeg (poL mtp ln.toNatClampNeg hnn.toNatClampNeg)))) := by omega
                      have enhw157 : nmV mtp ofr.toNatClampNeg (oti.toNatClampNeg - ofr.toNatClampNeg) = tN mtp ln.toNatClampNeg (tE mtp ln.toNatClampNeg (acP mtp ln.toNatClampNeg (tE mtp ln.toNatClampNeg (poL mtp ln.toNatClampNeg hnn.toNatClampNeg)))) := by unfold tN; rw [show ofr.toNatClampNeg = tS mtp ln.toNatClampNeg (tE mtp ln.toNatClampNeg (acP mtp ln.toNatClampNeg (tE mtp ln.toNatClampNeg (poL mtp ln.toNatClampNeg hnn.toNatClampNeg)))) by omega, show oti.toNatClampNeg = tE mtp ln.toNatClampNeg (tE mtp ln.toNatClampNeg (acP mtp ln.toNatClampNeg (tE mtp ln.toNatClampNeg (poL mtp ln.toNatClampNeg hnn.toNatClampNeg)))) by omega]
                      rw [ephw157, enhw157] at hw157
                      have clc167 := i_cl (x := hnn) (by omega)
                      obtain ⟨hb2a, hb2b, hb2c⟩ := du_b2 (T := mtp) (L := ln.toNatClampNeg) (n := hnn.toNatClampNeg) (by omega) (by omega) (by omega) (by omega)
                      have hpa9 : ¬ tK mtp ln.toNatClampNeg (tE mtp ln.toNatClampNeg (acP mtp ln.toNatClampNeg (tE mtp ln.toNatClampNeg (poL mtp ln.toNatClampNeg hnn.toNatClampNeg)))) = 5 → paR mtp ln.toNatClampNeg (tE mtp ln.toNatClampNeg (acP mtp ln.toNatClampNeg (tE mtp ln.toNatClampNeg (poL mtp ln.toNatClampNeg hnn.toNatClampNeg)))) = 1 ∧ tS mtp ln.toNatClampNeg (lnN mtp ln.toNatClampNeg (poL mtp ln.toNatClampNeg hnn.toNatClampNeg)) = tS mtp ln.toNatClampNeg (tE mtp ln.toNatClampNeg (acP mtp ln.toNatClampNeg (tE mtp ln.toNatClampNeg (poL mtp ln.toNatClampNeg hnn.toNatClampNeg)))) := fun h => ⟨by unfold paR; rw [if_pos h], by unfold lnN paP; rw [if_pos h]⟩
                      have hpb9 : tK mtp ln.toNatClampNeg (tE mtp ln.toNatClampNeg (acP mtp ln.toNatClampNeg (tE mtp ln.toNatClampNeg (poL mtp ln.toNatClampNeg hnn.toNatClampNeg)))) = 5 → 100 < tN mtp ln.toNatClampNeg (tE mtp ln.toNatClampNeg (acP mtp ln.toNatClampNeg (tE mtp ln.toNatClampNeg (poL mtp ln.toNatClampNeg hnn.toNatClampNeg)))) → paR mtp ln.toNatClampNeg (tE mtp ln.toNatClampNeg (acP mtp ln.toNatClampNeg (tE mtp ln.toNatClampNeg (poL mtp ln.toNatClampNeg hnn.toNatClampNeg)))) = 2 ∧ tS mtp ln.toNatClampNeg (lnN mtp ln.toNatClampNeg (poL mtp ln.toNatClampNeg hnn.toNatClampNeg)) = tS mtp ln.toNatClampNeg (tE mtp ln.toNatClampNeg (acP mtp ln.toNatClampNeg (tE mtp ln.toNatClampNeg (poL mtp ln.toNatClampNeg hnn.toNatClampNeg)))) := fun h h2 => ⟨by unfold paR; rw [if_neg (by omega), if_pos h2], by unfold lnN paP; rw [if_neg (by omega), if_pos h2]⟩
                      refine lv_goto (tgt := 219) hx hb dX11_duties_215 (by decide) ?_
                      exact hj96 (mcu_159, mtk_160, mfr_161, mti_162, mfa_163, mfb_164, r158) ls _ _ ⟨(by omega), (by omega), (by omega), (by omega), (by omega), lv_sub hl [0, 1, 2] rfl, hP.sub [0, 1, 2, 3] rfl, hD.sub [0, 1, 2, 3] (by decide +kernel) rfl, hS⟩
                · intro hj89
                  refine lv_aload_n hx hb dX11_duties_175 rfl (lv_at hl 0 rfl) ?_
                  refine va_get (D := D) (ci := 11) (v := .int lfa) (C := RX11) (T := TX11) (N := 64) hx hb hts inX11_duties_X11 hown hK hP 2 rfl rfl 42 (by decide) (hts (Cond.fieldLink RX11 271 "PortRoomsModel" "fault" "I") (List.mem_cons_of_mem _ (List.mem_append_left _ (List.mem_append_left _ (List.mem_of_getElem? (i := 4) rfl))))) (fun _ h9 => h9) rfl dX11_duties_176 ?_
                  refine lv_if_ne (tgt := 202) hx hb dX11_duties_179 (by decide) (fun c168 => ?_) (fun c168 => ?_)
                  · skip
                    have f169 := i_ne c168
                    exact hj89 (lcu, ltk, lfr, lti, lfa, lfb) ls _ _ ⟨(by omega), (by omega), (by omega), (by omega), (by omega), lv_sub hl [0, 1, 2] rfl, hP.sub [0, 1, 2, 3] rfl, hD.sub [0, 1, 2, 3] (by decide +kernel) rfl, hS⟩
                  · skip
                    have f170 := i_eq c168
                    have hT2 : lfa.toInt = 0 ∧ lfr.toInt = (tS mtp ln.toNatClampNeg (acP mtp ln.toNatClampNeg (tE mtp ln.toNatClampNeg (poL mtp ln.toNatClampNeg hnn.toNatClampNeg))) : Int) ∧ lcu.toInt = (tE mtp ln.toNatClampNeg (acP mtp ln.toNatClampNeg (tE mtp ln.toNatClampNeg (poL mtp ln.toNatClampNeg hnn.toNatClampNeg))) : Int) ∧ ltk.toInt = mK mtp ln.toNatClampNeg (acP mtp ln.toNatClampNeg (tE mtp ln.toNatClampNeg (poL mtp ln.toNatClampNeg hnn.toNatClampNeg))) ∧ hnn.toInt < 12 ∧ tK mtp ln.toNatClampNeg (poL mtp ln.toNatClampNeg hnn.toNatClampNeg) < 4 ∧ acR mtp ln.toNatClampNeg (tE mtp ln.toNatClampNeg (poL mtp ln.toNatClampNeg hnn.toNatClampNeg)) = 0 ∧ jdays.toInt = acD mtp ln.toNatClampNeg (tE mtp ln.toNatClampNeg (poL mtp ln.toNatClampNeg hnn.toNatClampNeg)) := by rcases g82 with h9 | h9 <;> first | exact h9 | (exfalso; omega)
                    have hel9 := tE_le (T := mtp) (L := ln.toNatClampNeg) hpl9
                    have hal9 := acP_le (T := mtp) (L := ln.toNatClampNeg) (c := (tE mtp ln.toNatClampNeg (poL mtp ln.toNatClampNeg hnn.toNatClampNeg))) (by omega)
                    have hle2 : (acP mtp ln.toNatClampNeg (tE mtp ln.toNatClampNeg (poL mtp ln.toNatClampNeg hnn.toNatClampNeg))) ≤ ln.toNatClampNeg := by omega
                    have hel2 := tE_le (T := mtp) (L := ln.toNatClampNeg) hle2
                    have hlen62 := (tk_f (T := mtp) (L := ln.toNatClampNeg) hle2).2.2.2.2.2.1
                    refine lv_aload_n hx hb dX11_duties_182 rfl (lv_at hl 0 rfl) ?_
                    refine lv_aload_n hx hb dX11_duties_183 rfl (lv_at hl 0 rfl) ?_
                    refine st_l1 (va_runV (C := RX11) (As := []) (rest := [.ref (md 64)]) ⟨hx, hb, hml, hown, hts⟩ (ct_X11_word l D cI cY cJ cQ _ md sd 0 mst hn cn pn mq gn mln hnn 0 mlt ln lcu ltk lfr lti lfa lfb an un lc td mtn mtp (by omega) (by omega) (by omega) (by omega) (by assumption) (by omega)) (cwV 0 hts gX11_duties_X11_word rfl rfl rfl ⟨rfl, cdX11_word⟩ ⟨Nat.le_of_ble_eq_true rfl, Nat.le_of_ble_eq_true rfl⟩) (cPreV (hP.sub [2, 3] rfl) hK (hD.sub [2, 3] (by decide +kernel) rfl) hN (ci := 11) (q0 := 0) rfl rfl) rfl rfl hl.1 rfl (lv_room (Nat.le_of_ble_eq_true rfl)) dX11_duties_184 ⟨Nat.le_of_ble_eq_true rfl, Nat.le_of_ble_eq_true rfl⟩) hP hD hS hA [2, 3] rfl (fun _ => rfl) (fun r173 u171 H locs hw172 => ?_)
                    clear hP hS
                    intro hP hS
                    replace hw172 : r173.toInt = (if ltk.toInt = 2 then wvV mtp lfr.toNatClampNeg (lti.toNatClampNeg - lfr.toNatClampNeg) else 0) := hw172
                    have clc174 := i_cl (x := lfr) (by omega)
                    have clc175 := i_cl (x := lti) (by omega)
                    have hwc2 := wd_tk (z := r173.toInt) hle2 (by rw [hw172, show ltk.toInt = mK mtp ln.toNatClampNeg (acP mtp ln.toNatClampNeg (tE mtp ln.toNatClampNeg (poL mtp ln.toNatClampNeg hnn.toNatClampNeg))) by omega, show lfr.toNatClampNeg = tS mtp ln.toNatClampNeg (acP mtp ln.toNatClampNeg (tE mtp ln.toNatClampNeg (poL mtp ln.toNatClampNeg hnn.toNatClampNeg))) by omega, show lti.toNatClampNeg = tE mtp ln.toNatClampNeg (acP mtp ln.toNatClampNeg (tE mtp ln.toNatClampNeg (poL mtp ln.toNatClampNeg hnn.toNatClampNeg))) by omega])
                    clear hw172
                    replace hwc2 := hwc2.2.2.2.2
                    refine lv_ldc2 hx hb hown (hts (Cond.constantLong RX11 308 (1885434484)) (List.mem_cons_of_mem _ (List.mem_append_left _ (List.mem_append_left _ (List.mem_of_getElem? (i := 12) rfl))))) dX11_duties_187 ?_
                    refine W.lcmp hx hb dX11_duties_190 ?_
                    refine lv_topi (fun v176 ev176 => ?_)
                    refine lv_if_ne (tgt := 198) hx hb dX11_duties_191 (by decide) (fun c177 => ?_) (fun c177 => ?_)
                    · skip
                      have f178 := lc_ne ev176 c177
                      refine lv_iconst (v := 0) hx hb dX11_duties_198 (by decide) ?_
                      refine st_v (wr := [(aI cI (md 31) 36 mli), (aI cI (md 33) 36 mnlq)]) (va_runV (C := RX11) (As := [.int 0]) (rest := []) ⟨hx, hb, hml, hown, hts⟩ (ct_X11_need l D cI cY cJ cQ _ md sd 0 mst hn cn pn mq gn mln hnn 0 mlt ln lcu ltk lfr lti lfa lfb an un lc td mtn mtp (0 : Int32) (by omega) (by omega) (by omega) (by omega) (by omega) (by omega) (by omega) (by assumption)) (cwV 1 hts gX11_duties_X11_need rfl rfl rfl ⟨rfl, cdX11_need⟩ ⟨Nat.le_of_ble_eq_true rfl, Nat.le_of_ble_eq_true rfl⟩) (cPreV (hP.sub [2, 3] rfl) hK (hD.sub [2, 3] (by decide +kernel) rfl) hN (ci := 11) (q0 := 0) rfl rfl) rfl rfl hl.1 rfl (lv_room (Nat.le_of_ble_eq_true rfl)) dX11_duties_199 ⟨Nat.le_of_ble_eq_true rfl, Nat.le_of_ble_eq_true rfl⟩) hP hD hS hA [2, 3] [0, 1] rfl rfl (by decide +kernel) (by decide +kernel) (fun u179 H locs hw180 => ?_)
                      clear hP hD hS
                      intro hP hD hS
                      obtain ⟨mcu_182, mtk_183, mfr_184, mti_185, mfa_186, mfb_187⟩ := u179
                      replace hw180 : 0 ≤ mfr_184.toInt ∧ mfr_184.toInt ≤ mcu_182.toInt ∧ mcu_182.toInt ≤ ln.toInt ∧ mti_185.toInt = mcu_182.toInt ∧ ((¬ lfa.toInt = 0 ∧ mfa_186.toInt = lfa.toInt ∧ mfb_187.toInt = lfb.toInt ∧ mfr_184.toInt = lfr.toInt ∧ mcu_182.toInt = lcu.toInt ∧ mtk_183.toInt = ltk.toInt) ∨ (lfa.toInt = 0 ∧ ¬ (0 : Int32).toInt = 0 ∧ mfa_186.toInt = 0 ∧ mfr_184.toInt = (tS mtp ln.toNatClampNeg lcu.toNatClampNeg : Int) ∧ mcu_182.toInt = (tE mtp ln.toNatClampNeg lcu.toNatClampNeg : Int) ∧ mti_185.toInt = mcu_182.toInt ∧ mtk_183.toInt = mK mtp ln.toNatClampNeg lcu.toNatClampNeg) ∨ (lfa.toInt = 0 ∧ (0 : Int32).toInt = 0 ∧ mfa_186.toInt = 1 ∧ mfb_187.toInt = lfr.toInt ∧ mfr_184.toInt = lfr.toInt ∧ mcu_182.toInt = lcu.toInt ∧ mtk_183.toInt = ltk.toInt)) := hw180
                      replace hP : va_P D vwCl [(aI cI (md 31) 36 mli), (aI cI (md 33) 36 mnlq), (moC md sd (0) mst hn cn pn mq gn mln hnn (0) mlt ln mcu_182 mtk_183 mfr_184 mti_185 mfa_186 mfb_187 an un lc td mtn), (aI cI (md 34) 300 mtp)] H := hP
                      replace hD : va_D A [(aI cI (md 31) 36 mli), (aI cI (md 33) 36 mnlq), (moC md sd (0) mst hn cn pn mq gn mln hnn (0) mlt ln mcu_182 mtk_183 mfr_184 mti_185 mfa_186 mfb_187 an un lc td mtn), (aI cI (md 34) 300 mtp)] := hD
                      have cphw180 := i_cl (x := lcu) (by omega)
                      have ephw180 : lcu.toNatClampNeg = tE mtp ln.toNatClampNeg (acP mtp ln.toNatClampNeg (tE mtp ln.toNatClampNeg (poL mtp ln.toNatClampNeg hnn.toNatClampNeg))) := by omega
                      rw [ephw180] at hw180
                      have clc188 := i_cl (x := hnn) (by omega)
                      have hb19 : ¬ tK mtp ln.toNatClampNeg (acP mtp ln.toNatClampNeg (tE mtp ln.toNatClampNeg (poL mtp ln.toNatClampNeg hnn.toNatClampNeg))) = 4 → dcF mtp ln.toNatClampNeg hnn.toNatClampNeg = 1 ∧ dpF mtp ln.toNatClampNeg hnn.toNatClampNeg = tS mtp ln.toNatClampNeg (acP mtp ln.toNatClampNeg (tE mtp ln.toNatClampNeg (poL mtp ln.toNatClampNeg hnn.toNatClampNeg))) := fun h => du_b1 (by omega) (by omega) (by omega) h
                      exact hj89 (mcu_182, mtk_183, mfr_184, mti_185, mfa_186, mfb_187) ls _ _ ⟨(by omega), (by omega), (by omega), (by omega), (by omega), lv_sub hl [0, 1, 2] rfl, hP.sub [0, 1, 2, 3] rfl, hD.sub [0, 1, 2, 3] (by decide +kernel) rfl, hS⟩
                    · skip
                      have f189 := lc_eq ev176 c177
                      refine lv_iconst (v := 1) hx hb dX11_duties_194 (by decide) ?_
                      refine lv_goto (tgt := 199) hx hb dX11_duties_195 (by decide) ?_
                      refine st_v (wr := [(aI cI (md 31) 36 mli), (aI cI (md 33) 36 mnlq)]) (va_runV (C := RX11) (As := [.int 1]) (rest := []) ⟨hx, hb, hml, hown, hts⟩ (ct_X11_need l D cI cY cJ cQ _ md sd 0 mst hn cn pn mq gn mln hnn 0 mlt ln lcu ltk lfr lti lfa lfb an un lc td mtn mtp (1 : Int32) (by omega) (by omega) (by omega) (by omega) (by omega) (by omega) (by omega) (by assumption)) (cwV 1 hts gX11_duties_X11_need rfl rfl rfl ⟨rfl, cdX11_need⟩ ⟨Nat.le_of_ble_eq_true rfl, Nat.le_of_ble_eq_true rfl⟩) (cPreV (hP.sub [2, 3] rfl) hK (hD.sub [2, 3] (by decide +kernel) rfl) hN (ci := 11) (q0 := 0) rfl rfl) rfl rfl hl.1 rfl (lv_room (Nat.le_of_ble_eq_true rfl)) dX11_duties_199 ⟨Nat.le_of_ble_eq_true rfl, Nat.le_of_ble_eq_true rfl⟩) hP hD hS hA [2, 3] [0, 1] rfl rfl (by decide +kernel) (by decide +kernel) (fun u190 H locs hw191 => ?_)
                      clear hP hD hS
                      intro hP hD hS
                      obtain ⟨mcu_193, mtk_194, mfr_195, mti_196, mfa_197, mfb_198⟩ := u190
                      replace hw191 : 0 ≤ mfr_195.toInt ∧ mfr_195.toInt ≤ mcu_193.toInt ∧ mcu_193.toInt ≤ ln.toInt ∧ mti_196.toInt = mcu_193.toInt ∧ ((¬ lfa.toInt = 0 ∧ mfa_197.toInt = lfa.toInt ∧ mfb_198.toInt = lfb.toInt ∧ mfr_195.toInt = lfr.toInt ∧ mcu_193.toInt = lcu.toInt ∧ mtk_194.toInt = ltk.toInt) ∨ (lfa.toInt = 0 ∧ ¬ (1 : Int32).toInt = 0 ∧ mfa_197.toInt = 0 ∧ mfr_195.toInt = (tS mtp ln.toNatClampNeg lcu.toNatClampNeg : Int) ∧ mcu_193.toInt = (tE mtp ln.toNatClampNeg lcu.toNatClampNeg : Int) ∧ mti_196.toInt = mcu_193.toInt ∧ mtk_194.toInt = mK mtp ln.toNatClampNeg lcu.toNatClampNeg) ∨ (lfa.toInt = 0 ∧ (1 : Int32).toInt = 0 ∧ mfa_197.toInt = 1 ∧ mfb_198.toInt = lfr.toInt ∧ mfr_195.toInt = lfr.toInt ∧ mcu_193.toInt = lcu.toInt ∧ mtk_194.toInt = ltk.toInt)) := hw191
                      replace hP : va_P D vwCl [(aI cI (md 31) 36 mli), (aI cI (md 33) 36 mnlq), (moC md sd (0) mst hn cn pn mq gn mln hnn (0) mlt ln mcu_193 mtk_194 mfr_195 mti_196 mfa_197 mfb_198 an un lc td mtn), (aI cI (md 34) 300 mtp)] H := hP
                      replace hD : va_D A [(aI cI (md 31) 36 mli), (aI cI (md 33) 36 mnlq), (moC md sd (0) mst hn cn pn mq gn mln hnn (0) mlt ln mcu_193 mtk_194 mfr_195 mti_196 mfa_197 mfb_198 an un lc td mtn), (aI cI (md 34) 300 mtp)] := hD
                      have cphw191 := i_cl (x := lcu) (by omega)
                      have ephw191 : lcu.toNatClampNeg = tE mtp ln.toNatClampNeg (acP mtp ln.toNatClampNeg (tE mtp ln.toNatClampNeg (poL mtp ln.toNatClampNeg hnn.toNatClampNeg))) := by omega
                      rw [ephw191] at hw191
                      have clc199 := i_cl (x := hnn) (by omega)
                      have hb19 : ¬ tK mtp ln.toNatClampNeg (acP mtp ln.toNatClampNeg (tE mtp ln.toNatClampNeg (poL mtp ln.toNatClampNeg hnn.toNatClampNeg))) = 4 → dcF mtp ln.toNatClampNeg hnn.toNatClampNeg = 1 ∧ dpF mtp ln.toNatClampNeg hnn.toNatClampNeg = tS mtp ln.toNatClampNeg (acP mtp ln.toNatClampNeg (tE mtp ln.toNatClampNeg (poL mtp ln.toNatClampNeg hnn.toNatClampNeg))) := fun h => du_b1 (by omega) (by omega) (by omega) h
                      exact hj89 (mcu_193, mtk_194, mfr_195, mti_196, mfa_197, mfb_198) ls _ _ ⟨(by omega), (by omega), (by omega), (by omega), (by omega), lv_sub hl [0, 1, 2] rfl, hP.sub [0, 1, 2, 3] rfl, hD.sub [0, 1, 2, 3] (by decide +kernel) rfl, hS⟩
              · intro hj83
                refine lv_aload_n hx hb dX11_duties_146 rfl (lv_at hl 1 rfl) ?_
                refine va_get (D := D) (ci := 11) (v := .int kfa) (C := RX11) (T := TX11) (N := 64) hx hb hts inX11_duties_X11 hown hK hP 2 rfl rfl 42 (by decide) (hts (Cond.fieldLink RX11 271 "PortRoomsModel" "fault" "I") (List.mem_cons_of_mem _ (List.mem_append_left _ (List.mem_append_left _ (List.mem_of_getElem? (i := 4) rfl))))) (fun _ h9 => h9) rfl dX11_duties_147 ?_
                refine lv_if_ne (tgt := 175) hx hb dX11_duties_150 (by decide) (fun c200 => ?_) (fun c200 => ?_)
                · skip
                  have f201 := i_ne c200
                  exact hj83 (((-1) : Int32), kcu, ktk, kfr, kti, kfa, kfb) ls _ _ ⟨(by omega), (by omega), (by omega), (by omega), (by omega), lv_sub hl [1, 2, 0] rfl, hP.sub [0, 1, 2, 3] rfl, hD.sub [0, 1, 2, 3] (by decide +kernel) rfl, hS⟩
                · skip
                  have f202 := i_eq c200
                  have hT1 : kfa.toInt = 0 ∧ kfr.toInt = (tS mtp ln.toNatClampNeg (tE mtp ln.toNatClampNeg (poL mtp ln.toNatClampNeg hnn.toNatClampNeg)) : Int) ∧ kcu.toInt = (tE mtp ln.toNatClampNeg (tE mtp ln.toNatClampNeg (poL mtp ln.toNatClampNeg hnn.toNatClampNeg)) : Int) ∧ ktk.toInt = mK mtp ln.toNatClampNeg (tE mtp ln.toNatClampNeg (poL mtp ln.toNatClampNeg hnn.toNatClampNeg)) ∧ hnn.toInt < 12 ∧ tK mtp ln.toNatClampNeg (poL mtp ln.toNatClampNeg hnn.toNatClampNeg) < 4 := by rcases g76 with h9 | h9 <;> first | exact h9 | (exfalso; omega)
                  have hle1 : (tE mtp ln.toNatClampNeg (poL mtp ln.toNatClampNeg hnn.toNatClampNeg)) ≤ ln.toNatClampNeg := by omega
                  have hel1 := tE_le (T := mtp) (L := ln.toNatClampNeg) hle1
                  have hmore1 := (tk_f (T := mtp) (L := ln.toNatClampNeg) hle1).2.2.2.1
                  have hlt1 := (tk_f (T := mtp) (L := ln.toNatClampNeg) hle1).2.2.2.2.2.2
                  refine lv_aload_n hx hb dX11_duties_153 rfl (lv_at hl 1 rfl) ?_
                  refine lv_bipush (v := 62) hx hb dX11_duties_154 (by decide) ?_
                  refine st_i1 (va_runV (C := RX11) (As := [.int 62]) (rest := []) ⟨hx, hb, hml, hown, hts⟩ (ct_X11_is l D cI cY cJ cQ _ md sd 0 mst hn cn pn mq gn mln hnn 0 mlt ln kcu ktk kfr kti kfa kfb an un lc td mtn mtp (62 : Int32) (by omega) (by omega) (by omega)) (cwV 1 hts gX11_duties_X11_is rfl rfl rfl ⟨rfl, cdX11_is⟩ ⟨Nat.le_of_ble_eq_true rfl, Nat.le_of_ble_eq_true rfl⟩) (cPreV (hP.sub [2, 3] rfl) hK (hD.sub [2, 3] (by decide +kernel) rfl) hN (ci := 11) (q0 := 0) rfl rfl) rfl rfl hl.1 rfl (lv_room (Nat.le_of_ble_eq_true rfl)) dX11_duties_156 ⟨Nat.le_of_ble_eq_true rfl, Nat.le_of_ble_eq_true rfl⟩) hP hD hS hA [2, 3] rfl (fun _ => rfl) (fun r205 u203 H locs hw204 => ?_)
                  clear hP hS
                  intro hP hS
                  replace hw204 : r205 = if ktk.toInt = 4 ∧ (mtp kfr.toNatClampNeg).toInt = (62 : Int32).toInt then 1 else 0 := hw204
                  have clc206 := i_cl (x := kfr) (by omega)
                  have hix9 : (mtp kfr.toNatClampNeg).toInt = (mtp (tS mtp ln.toNatClampNeg (tE mtp ln.toNatClampNeg (poL mtp ln.toNatClampNeg hnn.toNatClampNeg)))).toInt := by rw [show kfr.toNatClampNeg = tS mtp ln.toNatClampNeg (tE mtp ln.toNatClampNeg (poL mtp ln.toNatClampNeg hnn.toNatClampNeg)) by omega]
                  refine lv_if_eq (tgt := 175) hx hb dX11_duties_159 (by decide) (fun c207 => ?_) (fun c207 => ?_)
                  · skip
                    have f208 := bo_f hw204 c207
                    have h79 : ¬ tK mtp ln.toNatClampNeg (tE mtp ln.toNatClampNeg (poL mtp ln.toNatClampNeg hnn.toNatClampNeg)) = 7 := by omega
                    clear hmore1 hix9
                    have ea9 : acP mtp ln.toNatClampNeg (tE mtp ln.toNatClampNeg (poL mtp ln.toNatClampNeg hnn.toNatClampNeg)) = tE mtp ln.toNatClampNeg (poL mtp ln.toNatClampNeg hnn.toNatClampNeg) := by unfold acP; rw [if_neg h79]
                    have er9 : acR mtp ln.toNatClampNeg (tE mtp ln.toNatClampNeg (poL mtp ln.toNatClampNeg hnn.toNatClampNeg)) = 0 := by unfold acR; rw [if_neg (fun h8 => h79 h8.1)]
                    have ed9 : acD mtp ln.toNatClampNeg (tE mtp ln.toNatClampNeg (poL mtp ln.toNatClampNeg hnn.toNatClampNeg)) = -1 := by unfold acD; rw [if_neg h79]
                    have et9 : tS mtp ln.toNatClampNeg (acP mtp ln.toNatClampNeg (tE mtp ln.toNatClampNeg (poL mtp ln.toNatClampNeg hnn.toNatClampNeg))) = tS mtp ln.toNatClampNeg (tE mtp ln.toNatClampNeg (poL mtp ln.toNatClampNeg hnn.toNatClampNeg)) ∧ tE mtp ln.toNatClampNeg (acP mtp ln.toNatClampNeg (tE mtp ln.toNatClampNeg (poL mtp ln.toNatClampNeg hnn.toNatClampNeg))) = tE mtp ln.toNatClampNeg (tE mtp ln.toNatClampNeg (poL mtp ln.toNatClampNeg hnn.toNatClampNeg)) ∧ mK mtp ln.toNatClampNeg (acP mtp ln.toNatClampNeg (tE mtp ln.toNatClampNeg (poL mtp ln.toNatClampNeg hnn.toNatClampNeg))) = mK mtp ln.toNatClampNeg (tE mtp ln.toNatClampNeg (poL mtp ln.toNatClampNeg hnn.toNatClampNeg)) := by rw [ea9]; exact ⟨rfl, rfl, rfl⟩
                    exact hj83 (((-1) : Int32), kcu, ktk, kfr, kti, kfa, kfb) ls _ _ ⟨(by omega), (by omega), (by omega), (by omega), (by omega), lv_sub hl [1, 2, 0] rfl, hP.sub [0, 1, 2, 3] rfl, hD.sub [0, 1, 2, 3] (by decide +kernel) rfl, hS⟩
                  · skip
                    have f209 := bo_t hw204 c207
                    have h79 : tK mtp ln.toNatClampNeg (tE mtp ln.toNatClampNeg (poL mtp ln.toNatClampNeg hnn.toNatClampNeg)) = 7 := by omega
                    clear hmore1 hix9
                    refine lv_aload_n hx hb dX11_duties_162 rfl (lv_at hl 1 rfl) ?_
                    refine st_v (wr := [(aI cI (md 31) 36 mli), (aI cI (md 33) 36 mnlq)]) (va_runV (C := RX11) (As := []) (rest := []) ⟨hx, hb, hml, hown, hts⟩ (ct_X11_step l D cI cY cJ cQ _ md sd 0 mst hn cn pn mq gn mln hnn 0 mlt ln kcu ktk kfr kti kfa kfb an un lc td mtn mtp (by omega) (by omega) (by omega) (by omega) (by assumption)) (cwV 0 hts gX11_duties_X11_step rfl rfl rfl ⟨rfl, cdX11_step⟩ ⟨Nat.le_of_ble_eq_true rfl, Nat.le_of_ble_eq_true rfl⟩) (cPreV (hP.sub [2, 3] rfl) hK (hD.sub [2, 3] (by decide +kernel) rfl) hN (ci := 11) (q0 := 0) rfl rfl) rfl rfl hl.1 rfl (lv_room (Nat.le_of_ble_eq_true rfl)) dX11_duties_163 ⟨Nat.le_of_ble_eq_true rfl, Nat.le_of_ble_eq_true rfl⟩) hP hD hS hA [2, 3] [0, 1] rfl rfl (by decide +kernel) (by decide +kernel) (fun u210 H locs hw211 => ?_)
                    clear hP hD hS
                    intro hP hD hS
                    obtain ⟨mcu_213, mtk_214, mfr_215, mti_216⟩ := u210
                    replace hw211 : mfr_215.toInt = (tS mtp ln.toNatClampNeg kcu.toNatClampNeg : Int) ∧ mcu_213.toInt = (tE mtp ln.toNatClampNeg kcu.toNatClampNeg : Int) ∧ mti_216.toInt = mcu_213.toInt ∧ mtk_214.toInt = mK mtp ln.toNatClampNeg kcu.toNatClampNeg ∧ kcu.toInt ≤ mfr_215.toInt ∧ mfr_215.toInt ≤ mcu_213.toInt ∧ mcu_213.toInt ≤ ln.toInt := hw211
                    replace hP : va_P D vwCl [(aI cI (md 31) 36 mli), (aI cI (md 33) 36 mnlq), (moC md sd (0) mst hn cn pn mq gn mln hnn (0) mlt ln mcu_213 mtk_214 mfr_215 mti_216 kfa kfb an un lc td mtn), (aI cI (md 34) 300 mtp)] H := hP
                    replace hD : va_D A [(aI cI (md 31) 36 mli), (aI cI (md 33) 36 mnlq), (moC md sd (0) mst hn cn pn mq gn mln hnn (0) mlt ln mcu_213 mtk_214 mfr_215 mti_216 kfa kfb an un lc td mtn), (aI cI (md 34) 300 mtp)] := hD
                    have cphw211 := i_cl (x := kcu) (by omega)
                    have ephw211 : kcu.toNatClampNeg = tE mtp ln.toNatClampNeg (tE mtp ln.toNatClampNeg (poL mtp ln.toNatClampNeg hnn.toNatClampNeg)) := by omega
                    rw [ephw211] at hw211
                    have hlex : (tE mtp ln.toNatClampNeg (tE mtp ln.toNatClampNeg (poL mtp ln.toNatClampNeg hnn.toNatClampNeg))) ≤ ln.toNatClampNeg := by omega
                    have helx := tE_le (T := mtp) (L := ln.toNatClampNeg) hlex
                    have hnumx := (tk_f (T := mtp) (L := ln.toNatClampNeg) hlex).2.1
                    have hlen4x := (tk_f (T := mtp) (L := ln.toNatClampNeg) hlex).2.2.2.2.1
                    have hltx := (tk_f (T := mtp) (L := ln.toNatClampNeg) hlex).2.2.2.2.2.2
                    refine lv_aload_n hx hb dX11_duties_166 rfl (lv_at hl 1 rfl) ?_
                    refine lv_sipush (v := 9999) hx hb dX11_duties_167 (by decide) ?_
                    refine st_i (wr := [(aI cI (md 31) 36 mli), (aI cI (md 33) 36 mnlq)]) (va_runV (C := RX11) (As := [.int 9999]) (rest := []) ⟨hx, hb, hml, hown, hts⟩ (ct_X11_numberUpTo l D cI cY cJ cQ _ md sd 0 mst hn cn pn mq gn mln hnn 0 mlt ln mcu_213 mtk_214 mfr_215 mti_216 kfa kfb an un lc td mtn mtp (9999 : Int32) (by omega) (by omega) (by omega) (by omega) (by omega) (by omega) (by omega) (by assumption) (by omega) (by omega)) (cwV 1 hts gX11_duties_X11_numberUpTo rfl rfl rfl ⟨rfl, cdX11_numberUpTo⟩ ⟨Nat.le_of_ble_eq_true rfl, Nat.le_of_ble_eq_true rfl⟩) (cPreV (hP.sub [2, 3] rfl) hK (hD.sub [2, 3] (by decide +kernel) rfl) hN (ci := 11) (q0 := 0) rfl rfl) rfl rfl hl.1 rfl (lv_room (Nat.le_of_ble_eq_true rfl)) dX11_duties_170 ⟨Nat.le_of_ble_eq_true rfl, Nat.le_of_ble_eq_true rfl⟩) hP hD hS hA [2, 3] [0, 1] rfl rfl (by decide +kernel) (by decide +kernel) (fun r219 u217 H locs hw218 => ?_)
                    clear hP hD hS
                    intro hP hD hS
                    obtain ⟨mcu_220, mtk_221, mfr_222, mti_223, mfa_224, mfb_225⟩ := u217
                    replace hw218 : 0 ≤ mfr_222.toInt ∧ mfr_222.toInt ≤ mcu_220.toInt ∧ mcu_220.toInt ≤ ln.toInt ∧ mti_223.toInt = mcu_220.toInt ∧ ((mtk_214.toInt = 3 ∧ nmV mtp mfr_215.toNatClampNeg (mti_216.toNatClampNeg - mfr_215.toNatClampNeg) ≤ (9999 : Int32).toInt ∧ r219.toInt = nmV mtp mfr_215.toNatClampNeg (mti_216.toNatClampNeg - mfr_215.toNatClampNeg) ∧ mfa_224.toInt = 0 ∧ mfr_222.toInt = (tS mtp ln.toNatClampNeg mcu_213.toNatClampNeg : Int) ∧ mcu_220.toInt = (tE mtp ln.toNatClampNeg mcu_213.toNatClampNeg : Int) ∧ mti_223.toInt = mcu_220.toInt ∧ mtk_221.toInt = mK mtp ln.toNatClampNeg mcu_213.toNatClampNeg) ∨ (mtk_214.toInt = 3 ∧ (9999 : Int32).toInt < nmV mtp mfr_215.toNatClampNeg (mti_216.toNatClampNeg - mfr_215.toNatClampNeg) ∧ mfa_224.toInt = 2 ∧ mfb_225.toInt = mfr_215.toInt) ∨ (¬ mtk_214.toInt = 3 ∧ mfa_224.toInt = 1 ∧ mfb_225.toInt = mfr_215.toInt)) := hw218
                    replace hP : va_P D vwCl [(aI cI (md 31) 36 mli), (aI cI (md 33) 36 mnlq), (moC md sd (0) mst hn cn pn mq gn mln hnn (0) mlt ln mcu_220 mtk_221 mfr_222 mti_223 mfa_224 mfb_225 an un lc td mtn), (aI cI (md 34) 300 mtp)] H := hP
                    replace hD : va_D A [(aI cI (md 31) 36 mli), (aI cI (md 33) 36 mnlq), (moC md sd (0) mst hn cn pn mq gn mln hnn (0) mlt ln mcu_220 mtk_221 mfr_222 mti_223 mfa_224 mfb_225 an un lc td mtn), (aI cI (md 34) 300 mtp)] := hD
                    have clc226 := i_cl (x := mfr_215) (by omega)
                    have clc227 := i_cl (x := mti_216) (by omega)
                    have cphw218 := i_cl (x := mcu_213) (by omega)
                    have ephw218 : mcu_213.toNatClampNeg = tE mtp ln.toNatClampNeg (tE mtp ln.toNatClampNeg (tE mtp ln.toNatClampNeg (poL mtp ln.toNatClampNeg hnn.toNatClampNeg))) := by omega
                    have enhw218 : nmV mtp mfr_215.toNatClampNeg (mti_216.toNatClampNeg - mfr_215.toNatClampNeg) = tN mtp ln.toNatClampNeg (tE mtp ln.toNatClampNeg (tE mtp ln.toNatClampNeg (poL mtp ln.toNatClampNeg hnn.toNatClampNeg))) := by unfold tN; rw [show mfr_215.toNatClampNeg = tS mtp ln.toNatClampNeg (tE mtp ln.toNatClampNeg (tE mtp ln.toNatClampNeg (poL mtp ln.toNatClampNeg hnn.toNatClampNeg))) by omega, show mti_216.toNatClampNeg = tE mtp ln.toNatClampNeg (tE mtp ln.toNatClampNeg (tE mtp ln.toNatClampNeg (poL mtp ln.toNatClampNeg hnn.toNatClampNeg))) by omega]
                    rw [ephw218, enhw218] at hw218
                    have hnr9 : mK mtp ln.toNatClampNeg (tE mtp ln.toNatClampNeg (tE mtp ln.toNatClampNeg (poL mtp ln.toNatClampNeg hnn.toNatClampNeg))) = 3 → 0 ≤ tN mtp ln.toNatClampNeg (tE mtp ln.toNatClampNeg (tE mtp ln.toNatClampNeg (poL mtp ln.toNatClampNeg hnn.toNatClampNeg))) ∧ tN mtp ln.toNatClampNeg (tE mtp ln.toNatClampNeg (tE mtp ln.toNatClampNeg (poL mtp ln.toNatClampNeg hnn.toNatClampNeg))) ≤ 9999 := fun h => tN_rng hlex h
                    have hac9 : tK mtp ln.toNatClampNeg (tE mtp ln.toNatClampNeg (tE mtp ln.toNatClampNeg (poL mtp ln.toNatClampNeg hnn.toNatClampNeg))) = 5 → acR mtp ln.toNatClampNeg (tE mtp ln.toNatClampNeg (poL mtp ln.toNatClampNeg hnn.toNatClampNeg)) = 0 ∧ acD mtp ln.toNatClampNeg (tE mtp ln.toNatClampNeg (poL mtp ln.toNatClampNeg hnn.toNatClampNeg)) = tN mtp ln.toNatClampNeg (tE mtp ln.toNatClampNeg (tE mtp ln.toNatClampNeg (poL mtp ln.toNatClampNeg hnn.toNatClampNeg))) ∧ tS mtp ln.toNatClampNeg (acP mtp ln.toNatClampNeg (tE mtp ln.toNatClampNeg (poL mtp ln.toNatClampNeg hnn.toNatClampNeg))) = tS mtp ln.toNatClampNeg (tE mtp ln.toNatClampNeg (tE mtp ln.toNatClampNeg (tE mtp ln.toNatClampNeg (poL mtp ln.toNatClampNeg hnn.toNatClampNeg)))) ∧ tE mtp ln.toNatClampNeg (acP mtp ln.toNatClampNeg (tE mtp ln.toNatClampNeg (poL mtp ln.toNatClampNeg hnn.toNatClampNeg))) = tE mtp ln.toNatClampNeg (tE mtp ln.toNatClampNeg (tE mtp ln.toNatClampNeg (tE mtp ln.toNatClampNeg (poL mtp ln.toNatClampNeg hnn.toNatClampNeg)))) ∧ mK mtp ln.toNatClampNeg (acP mtp ln.toNatClampNeg (tE mtp ln.toNatClampNeg (poL mtp ln.toNatClampNeg hnn.toNatClampNeg))) = mK mtp ln.toNatClampNeg (tE mtp ln.toNatClampNeg (tE mtp ln.toNatClampNeg (tE mtp ln.toNatClampNeg (poL mtp ln.toNatClampNeg hnn.toNatClampNeg)))) := fun h2 => by have ea : acP mtp ln.toNatClampNeg (tE mtp ln.toNatClampNeg (poL mtp ln.toNatClampNeg hnn.toNatClampNeg)) = tE mtp ln.toNatClampNeg (tE mtp ln.toNatClampNeg (tE mtp ln.toNatClampNeg (poL mtp ln.toNatClampNeg hnn.toNatClampNeg))) := (by unfold acP; rw [if_pos h79, if_pos h2]); rw [ea]; exact ⟨by unfold acR; rw [if_neg (fun h8 => h8.2 h2)], by unfold acD; rw [if_pos h79], rfl, rfl, rfl⟩
                    have clc228 := i_cl (x := hnn) (by omega)
                    have h49 : tK mtp ln.toNatClampNeg (poL mtp ln.toNatClampNeg hnn.toNatClampNeg) < 4 := by omega
                    have h129 : hnn.toNatClampNeg < 12 := by omega
                    have hac8 : ¬ tK mtp ln.toNatClampNeg (tE mtp ln.toNatClampNeg (tE mtp ln.toNatClampNeg (poL mtp ln.toNatClampNeg hnn.toNatClampNeg))) = 5 → dcF mtp ln.toNatClampNeg hnn.toNatClampNeg = 1 ∧ dpF mtp ln.toNatClampNeg hnn.toNatClampNeg = tS mtp ln.toNatClampNeg (tE mtp ln.toNatClampNeg (tE mtp ln.toNatClampNeg (poL mtp ln.toNatClampNeg hnn.toNatClampNeg))) := fun h2 => by have ea : acP mtp ln.toNatClampNeg (tE mtp ln.toNatClampNeg (poL mtp ln.toNatClampNeg hnn.toNatClampNeg)) = tE mtp ln.toNatClampNeg (tE mtp ln.toNatClampNeg (poL mtp ln.toNatClampNeg hnn.toNatClampNeg)) := (by unfold acP; rw [if_pos h79, if_neg h2]); have q := du_a3 (T := mtp) (L := ln.toNatClampNeg) h49 h129 (by unfold acR; rw [if_pos ⟨h79, h2⟩]); rw [ea] at q; exact q
                    refine lv_istore (lv' := [(4, .int r219), (0, .ref (md 64)), (3, .int sk67)]) hx hb dX11_duties_173 hl (by decide) rfl (fun ls hl => ?_)
                    exact hj83 (r219, mcu_220, mtk_221, mfr_222, mti_223, mfa_224, mfb_225) ls _ _ ⟨(by omega), (by omega), (by omega), (by omega), (by omega), lv_sub hl [1, 2, 0] rfl, hP.sub [0, 1, 2, 3] rfl, hD.sub [0, 1, 2, 3] (by decide +kernel) rfl, hS⟩
            · intro hj77
              refine lv_aload_n hx hb dX11_duties_128 rfl (lv_at hl 0 rfl) ?_
              refine lv_iload_n hx hb dX11_duties_129 rfl (lv_at hl 1 rfl) ?_
              refine lv_ldc hx hb hown (hts (Cond.constant RX11 139 (-1000000)) (List.mem_cons_of_mem _ (List.mem_append_left _ (List.mem_append_left _ (List.mem_of_getElem? (i := 11) rfl))))) dX11_duties_130 ?_
              refine lv_icmp_eq (tgt := 139) hx hb dX11_duties_132 (by decide) (fun c229 => ?_) (fun c229 => ?_)
              · skip
                have f230 := i_eq c229
                refine lv_iconst (v := 0) hx hb dX11_duties_139 (by decide) ?_
                refine st_v (wr := [(aI cI (md 31) 36 mli), (aI cI (md 33) 36 mnlq)]) (va_runV (C := RX11) (As := [.int 0]) (rest := []) ⟨hx, hb, hml, hown, hts⟩ (ct_X11_need l D cI cY cJ cQ _ md sd 0 mst hn cn pn mq gn mln hnn 0 mlt ln hcu htk hfr hti jfa jfb an un lc td mtn mtp (0 : Int32) (by omega) (by omega) (by omega) (by omega) (by omega) (by omega) (by omega) (by assumption)) (cwV 1 hts gX11_duties_X11_need rfl rfl rfl ⟨rfl, cdX11_need⟩ ⟨Nat.le_of_ble_eq_true rfl, Nat.le_of_ble_eq_true rfl⟩) (cPreV (hP.sub [2, 3] rfl) hK (hD.sub [2, 3] (by decide +kernel) rfl) hN (ci := 11) (q0 := 0) rfl rfl) rfl rfl hl.1 rfl (lv_room (Nat.le_of_ble_eq_true rfl)) dX11_duties_140 ⟨Nat.le_of_ble_eq_true rfl, Nat.le_of_ble_eq_true rfl⟩) hP hD hS hA [2, 3] [0, 1] rfl rfl (by decide +kernel) (by decide +kernel) (fun u231 H locs hw232 => ?_)
                clear hP hD hS
                intro hP hD hS
                obtain ⟨mcu_234, mtk_235, mfr_236, mti_237, mfa_238, mfb_239⟩ := u231
                replace hw232 : 0 ≤ mfr_236.toInt ∧ mfr_236.toInt ≤ mcu_234.toInt ∧ mcu_234.toInt ≤ ln.toInt ∧ mti_237.toInt = mcu_234.toInt ∧ ((¬ jfa.toInt = 0 ∧ mfa_238.toInt = jfa.toInt ∧ mfb_239.toInt = jfb.toInt ∧ mfr_236.toInt = hfr.toInt ∧ mcu_234.toInt = hcu.toInt ∧ mtk_235.toInt = htk.toInt) ∨ (jfa.toInt = 0 ∧ ¬ (0 : Int32).toInt = 0 ∧ mfa_238.toInt = 0 ∧ mfr_236.toInt = (tS mtp ln.toNatClampNeg hcu.toNatClampNeg : Int) ∧ mcu_234.toInt = (tE mtp ln.toNatClampNeg hcu.toNatClampNeg : Int) ∧ mti_237.toInt = mcu_234.toInt ∧ mtk_235.toInt = mK mtp ln.toNatClampNeg hcu.toNatClampNeg) ∨ (jfa.toInt = 0 ∧ (0 : Int32).toInt = 0 ∧ mfa_238.toInt = 1 ∧ mfb_239.toInt = hfr.toInt ∧ mfr_236.toInt = hfr.toInt ∧ mcu_234.toInt = hcu.toInt ∧ mtk_235.toInt = htk.toInt)) := hw232
                replace hP : va_P D vwCl [(aI cI (md 31) 36 mli), (aI cI (md 33) 36 mnlq), (moC md sd (0) mst hn cn pn mq gn mln hnn (0) mlt ln mcu_234 mtk_235 mfr_236 mti_237 mfa_238 mfb_239 an un lc td mtn), (aI cI (md 34) 300 mtp)] H := hP
                replace hD : va_D A [(aI cI (md 31) 36 mli), (aI cI (md 33) 36 mnlq), (moC md sd (0) mst hn cn pn mq gn mln hnn (0) mlt ln mcu_234 mtk_235 mfr_236 mti_237 mfa_238 mfb_239 an un lc td mtn), (aI cI (md 34) 300 mtp)] := hD
                have cphw232 := i_cl (x := hcu) (by omega)
                have ephw232 : hcu.toNatClampNeg = tE mtp ln.toNatClampNeg (poL mtp ln.toNatClampNeg hnn.toNatClampNeg) := by omega
                rw [ephw232] at hw232
                have ha19 : 4 ≤ tK mtp ln.toNatClampNeg (poL mtp ln.toNatClampNeg hnn.toNatClampNeg) → dcF mtp ln.toNatClampNeg hnn.toNatClampNeg = 1 ∧ dpF mtp ln.toNatClampNeg hnn.toNatClampNeg = tS mtp ln.toNatClampNeg (poL mtp ln.toNatClampNeg hnn.toNatClampNeg) := fun h => du_a1 h
                have ha29 : tK mtp ln.toNatClampNeg (poL mtp ln.toNatClampNeg hnn.toNatClampNeg) < 4 → ¬ hnn.toNatClampNeg < 12 → dcF mtp ln.toNatClampNeg hnn.toNatClampNeg = 3 ∧ dpF mtp ln.toNatClampNeg hnn.toNatClampNeg = tS mtp ln.toNatClampNeg (poL mtp ln.toNatClampNeg hnn.toNatClampNeg) := fun h h2 => du_a2 h h2
                have clc240 := i_cl (x := hnn) (by omega)
                exact hj77 (mcu_234, mtk_235, mfr_236, mti_237, mfa_238, mfb_239) ls _ _ ⟨(by omega), (by omega), (by omega), (by omega), (by omega), lv_sub hl [0, 1] rfl, hP.sub [0, 1, 2, 3] rfl, hD.sub [0, 1, 2, 3] (by decide +kernel) rfl, hS⟩
              · skip
                have f241 := i_ne c229
                refine lv_iconst (v := 1) hx hb dX11_duties_135 (by decide) ?_
                refine lv_goto (tgt := 140) hx hb dX11_duties_136 (by decide) ?_
                refine st_v (wr := [(aI cI (md 31) 36 mli), (aI cI (md 33) 36 mnlq)]) (va_runV (C := RX11) (As := [.int 1]) (rest := []) ⟨hx, hb, hml, hown, hts⟩ (ct_X11_need l D cI cY cJ cQ _ md sd 0 mst hn cn pn mq gn mln hnn 0 mlt ln hcu htk hfr hti jfa jfb an un lc td mtn mtp (1 : Int32) (by omega) (by omega) (by omega) (by omega) (by omega) (by omega) (by omega) (by assumption)) (cwV 1 hts gX11_duties_X11_need rfl rfl rfl ⟨rfl, cdX11_need⟩ ⟨Nat.le_of_ble_eq_true rfl, Nat.le_of_ble_eq_true rfl⟩) (cPreV (hP.sub [2, 3] rfl) hK (hD.sub [2, 3] (by decide +kernel) rfl) hN (ci := 11) (q0 := 0) rfl rfl) rfl rfl hl.1 rfl (lv_room (Nat.le_of_ble_eq_true rfl)) dX11_duties_140 ⟨Nat.le_of_ble_eq_true rfl, Nat.le_of_ble_eq_true rfl⟩) hP hD hS hA [2, 3] [0, 1] rfl rfl (by decide +kernel) (by decide +kernel) (fun u242 H locs hw243 => ?_)
                clear hP hD hS
                intro hP hD hS
                obtain ⟨mcu_245, mtk_246, mfr_247, mti_248, mfa_249, mfb_250⟩ := u242
                replace hw243 : 0 ≤ mfr_247.toInt ∧ mfr_247.toInt ≤ mcu_245.toInt ∧ mcu_245.toInt ≤ ln.toInt ∧ mti_248.toInt = mcu_245.toInt ∧ ((¬ jfa.toInt = 0 ∧ mfa_249.toInt = jfa.toInt ∧ mfb_250.toInt = jfb.toInt ∧ mfr_247.toInt = hfr.toInt ∧ mcu_245.toInt = hcu.toInt ∧ mtk_246.toInt = htk.toInt) ∨ (jfa.toInt = 0 ∧ ¬ (1 : Int32).toInt = 0 ∧ mfa_249.toInt = 0 ∧ mfr_247.toInt = (tS mtp ln.toNatClampNeg hcu.toNatClampNeg : Int) ∧ mcu_245.toInt = (tE mtp ln.toNatClampNeg hcu.toNatClampNeg : Int) ∧ mti_248.toInt = mcu_245.toInt ∧ mtk_246.toInt = mK mtp ln.toNatClampNeg hcu.toNatClampNeg) ∨ (jfa.toInt = 0 ∧ (1 : Int32).toInt = 0 ∧ mfa_249.toInt = 1 ∧ mfb_250.toInt = hfr.toInt ∧ mfr_247.toInt = hfr.toInt ∧ mcu_245.toInt = hcu.toInt ∧ mtk_246.toInt = htk.toInt)) := hw243
                replace hP : va_P D vwCl [(aI cI (md 31) 36 mli), (aI cI (md 33) 36 mnlq), (moC md sd (0) mst hn cn pn mq gn mln hnn (0) mlt ln mcu_245 mtk_246 mfr_247 mti_248 mfa_249 mfb_250 an un lc td mtn), (aI cI (md 34) 300 mtp)] H := hP
                replace hD : va_D A [(aI cI (md 31) 36 mli), (aI cI (md 33) 36 mnlq), (moC md sd (0) mst hn cn pn mq gn mln hnn (0) mlt ln mcu_245 mtk_246 mfr_247 mti_248 mfa_249 mfb_250 an un lc td mtn), (aI cI (md 34) 300 mtp)] := hD
                have cphw243 := i_cl (x := hcu) (by omega)
                have ephw243 : hcu.toNatClampNeg = tE mtp ln.toNatClampNeg (poL mtp ln.toNatClampNeg hnn.toNatClampNeg) := by omega
                rw [ephw243] at hw243
                have ha19 : 4 ≤ tK mtp ln.toNatClampNeg (poL mtp ln.toNatClampNeg hnn.toNatClampNeg) → dcF mtp ln.toNatClampNeg hnn.toNatClampNeg = 1 ∧ dpF mtp ln.toNatClampNeg hnn.toNatClampNeg = tS mtp ln.toNatClampNeg (poL mtp ln.toNatClampNeg hnn.toNatClampNeg) := fun h => du_a1 h
                have ha29 : tK mtp ln.toNatClampNeg (poL mtp ln.toNatClampNeg hnn.toNatClampNeg) < 4 → ¬ hnn.toNatClampNeg < 12 → dcF mtp ln.toNatClampNeg hnn.toNatClampNeg = 3 ∧ dpF mtp ln.toNatClampNeg hnn.toNatClampNeg = tS mtp ln.toNatClampNeg (poL mtp ln.toNatClampNeg hnn.toNatClampNeg) := fun h h2 => du_a2 h h2
                have clc251 := i_cl (x := hnn) (by omega)
                exact hj77 (mcu_245, mtk_246, mfr_247, mti_248, mfa_249, mfb_250) ls _ _ ⟨(by omega), (by omega), (by omega), (by omega), (by omega), lv_sub hl [0, 1] rfl, hP.sub [0, 1, 2, 3] rfl, hD.sub [0, 1, 2, 3] (by decide +kernel) rfl, hS⟩
          · intro hj71
            refine lv_iload_n hx hb dX11_duties_108 rfl (lv_at hl 0 rfl) ?_
            refine lv_ldc hx hb hown (hts (Cond.constant RX11 139 (-1000000)) (List.mem_cons_of_mem _ (List.mem_append_left _ (List.mem_append_left _ (List.mem_of_getElem? (i := 11) rfl))))) dX11_duties_109 ?_
            refine lv_icmp_eq (tgt := 128) hx hb dX11_duties_111 (by decide) (fun c252 => ?_) (fun c252 => ?_)
            · skip
              have f253 := i_eq c252
              exact hj71 (hfa, hfb) ls _ _ ⟨(by omega), lv_sub hl [1, 0] rfl, hP.sub [0, 1, 2, 3] rfl, hD.sub [0, 1, 2, 3] (by decide +kernel) rfl, hS⟩
            · skip
              have f254 := i_ne c252
              refine lv_aload_n hx hb dX11_duties_114 rfl (lv_at hl 1 rfl) ?_
              refine va_get (D := D) (ci := 11) (v := .int hnn) (C := RX11) (T := TX11) (N := 64) hx hb hts inX11_duties_X11 hown hK hP 2 rfl rfl 32 (by decide) (hts (Cond.fieldLink RX11 287 "PortRoomsModel" "newLines" "I") (List.mem_cons_of_mem _ (List.mem_append_left _ (List.mem_append_left _ (List.mem_of_getElem? (i := 5) rfl))))) (fun _ h9 => h9) rfl dX11_duties_115 ?_
              refine lv_bipush (v := 12) hx hb dX11_duties_118 (by decide) ?_
              refine lv_icmp_ne (tgt := 128) hx hb dX11_duties_120 (by decide) (fun c255 => ?_) (fun c255 => ?_)
              · skip
                have f256 := i_ne c255
                exact hj71 (hfa, hfb) ls _ _ ⟨(by omega), lv_sub hl [1, 0] rfl, hP.sub [0, 1, 2, 3] rfl, hD.sub [0, 1, 2, 3] (by decide +kernel) rfl, hS⟩
              · skip
                have f257 := i_eq c255
                refine lv_aload_n hx hb dX11_duties_123 rfl (lv_at hl 1 rfl) ?_
                refine lv_iconst (v := 3) hx hb dX11_duties_124 (by decide) ?_
                refine st_v (wr := [(aI cI (md 31) 36 mli), (aI cI (md 33) 36 mnlq), (aI cI (md 34) 300 mtp)]) (va_runV (C := RX11) (As := [.int 3]) (rest := []) ⟨hx, hb, hml, hown, hts⟩ (ct_X11_bad l D cI cY cJ cQ _ md sd 0 mst hn cn pn mq gn mln hnn 0 mlt ln hcu htk hfr hti hfa hfb an un lc td mtn (3 : Int32)) (cwV 1 hts gX11_duties_X11_bad rfl rfl rfl ⟨rfl, cdX11_bad⟩ ⟨Nat.le_of_ble_eq_true rfl, Nat.le_of_ble_eq_true rfl⟩) (cPreV (hP.sub [2] rfl) hK (hD.sub [2] (by decide +kernel) rfl) hN (ci := 11) (q0 := 0) rfl rfl) rfl rfl hl.1 rfl (lv_room (Nat.le_of_ble_eq_true rfl)) dX11_duties_125 ⟨Nat.le_of_ble_eq_true rfl, Nat.le_of_ble_eq_true rfl⟩) hP hD hS hA [2] [0, 1, 3] rfl rfl (by decide +kernel) (by decide +kernel) (fun u258 H locs hw259 => ?_)
                clear hP hD hS
                intro hP hD hS
                obtain ⟨mfa_261, mfb_262⟩ := u258
                replace hw259 : (hfa.toInt = 0 ∧ mfa_261.toInt = (3 : Int32).toInt ∧ mfb_262.toInt = hfr.toInt) ∨ (¬ hfa.toInt = 0 ∧ mfa_261.toInt = hfa.toInt ∧ mfb_262.toInt = hfb.toInt) := hw259
                replace hP : va_P D vwCl [(aI cI (md 31) 36 mli), (aI cI (md 33) 36 mnlq), (aI cI (md 34) 300 mtp), (moC md sd (0) mst hn cn pn mq gn mln hnn (0) mlt ln hcu htk hfr hti mfa_261 mfb_262 an un lc td mtn)] H := hP
                replace hD : va_D A [(aI cI (md 31) 36 mli), (aI cI (md 33) 36 mnlq), (aI cI (md 34) 300 mtp), (moC md sd (0) mst hn cn pn mq gn mln hnn (0) mlt ln hcu htk hfr hti mfa_261 mfb_262 an un lc td mtn)] := hD
                exact hj71 (mfa_261, mfb_262) ls _ _ ⟨(by omega), lv_sub hl [1, 0] rfl, hP.sub [0, 1, 3, 2] rfl, hD.sub [0, 1, 3, 2] (by decide +kernel) rfl, hS⟩
        · intro hj69
          refine lv_lload_n hx hb dX11_duties_57 rfl (lv_at hl 0 rfl) ?_
          refine lv_ldc2 hx hb hown (hts (Cond.constantLong RX11 294 (1936682084)) (List.mem_cons_of_mem _ (List.mem_append_left _ (List.mem_append_left _ (List.mem_of_getElem? (i := 7) rfl))))) dX11_duties_58 ?_
          refine W.lcmp hx hb dX11_duties_61 ?_
          refine lv_topi (fun v263 ev263 => ?_)
          refine lv_if_ne (tgt := 69) hx hb dX11_duties_62 (by decide) (fun c264 => ?_) (fun c264 => ?_)
          · skip
            have f265 := lc_ne ev263 c264
            refine lv_lload_n hx hb dX11_duties_69 rfl (lv_at hl 0 rfl) ?_
            refine lv_ldc2 hx hb hown (hts (Cond.constantLong RX11 296 (495673374574)) (List.mem_cons_of_mem _ (List.mem_append_left _ (List.mem_append_left _ (List.mem_of_getElem? (i := 8) rfl))))) dX11_duties_70 ?_
            refine W.lcmp hx hb dX11_duties_73 ?_
            refine lv_topi (fun v266 ev266 => ?_)
            refine lv_if_ne (tgt := 81) hx hb dX11_duties_74 (by decide) (fun c267 => ?_) (fun c267 => ?_)
            · skip
              have f268 := lc_ne ev266 c267
              refine lv_lload_n hx hb dX11_duties_81 rfl (lv_at hl 0 rfl) ?_
              refine lv_ldc2 hx hb hown (hts (Cond.constantLong RX11 298 (7304564)) (List.mem_cons_of_mem _ (List.mem_append_left _ (List.mem_append_left _ (List.mem_of_getElem? (i := 9) rfl))))) dX11_duties_82 ?_
              refine W.lcmp hx hb dX11_duties_85 ?_
              refine lv_topi (fun v269 ev269 => ?_)
              refine lv_if_ne (tgt := 93) hx hb dX11_duties_86 (by decide) (fun c270 => ?_) (fun c270 => ?_)
              · skip
                have f271 := lc_ne ev269 c270
                refine lv_lload_n hx hb dX11_duties_93 rfl (lv_at hl 0 rfl) ?_
                refine lv_ldc2 hx hb hown (hts (Cond.constantLong RX11 300 (120282411197796)) (List.mem_cons_of_mem _ (List.mem_append_left _ (List.mem_append_left _ (List.mem_of_getElem? (i := 10) rfl))))) dX11_duties_94 ?_
                refine W.lcmp hx hb dX11_duties_97 ?_
                refine lv_topi (fun v272 ev272 => ?_)
                refine lv_if_ne (tgt := 105) hx hb dX11_duties_98 (by decide) (fun c273 => ?_) (fun c273 => ?_)
                · skip
                  have f274 := lc_ne ev272 c273
                  refine lv_ldc hx hb hown (hts (Cond.constant RX11 139 (-1000000)) (List.mem_cons_of_mem _ (List.mem_append_left _ (List.mem_append_left _ (List.mem_of_getElem? (i := 11) rfl))))) dX11_duties_105 ?_
                  exact hj69 ((-1000000) : Int32) ls _ _ ⟨(by omega), lv_sub hl [1] rfl, hP.sub [0, 1, 2, 3] rfl, hD.sub [0, 1, 2, 3] (by decide +kernel) rfl, hS⟩
                · skip
                  have f275 := lc_eq ev272 c273
                  refine lv_iconst (v := 3) hx hb dX11_duties_101 (by decide) ?_
                  refine lv_goto (tgt := 107) hx hb dX11_duties_102 (by decide) ?_
                  exact hj69 (3 : Int32) ls _ _ ⟨(by omega), lv_sub hl [1] rfl, hP.sub [0, 1, 2, 3] rfl, hD.sub [0, 1, 2, 3] (by decide +kernel) rfl, hS⟩
              · skip
                have f276 := lc_eq ev269 c270
                refine lv_iconst (v := 2) hx hb dX11_duties_89 (by decide) ?_
                refine lv_goto (tgt := 107) hx hb dX11_duties_90 (by decide) ?_
                exact hj69 (2 : Int32) ls _ _ ⟨(by omega), lv_sub hl [1] rfl, hP.sub [0, 1, 2, 3] rfl, hD.sub [0, 1, 2, 3] (by decide +kernel) rfl, hS⟩
            · skip
              have f277 := lc_eq ev266 c267
              refine lv_iconst (v := 1) hx hb dX11_duties_77 (by decide) ?_
              refine lv_goto (tgt := 107) hx hb dX11_duties_78 (by decide) ?_
              exact hj69 (1 : Int32) ls _ _ ⟨(by omega), lv_sub hl [1] rfl, hP.sub [0, 1, 2, 3] rfl, hD.sub [0, 1, 2, 3] (by decide +kernel) rfl, hS⟩
          · skip
            have f278 := lc_eq ev263 c264
            refine lv_iconst (v := 0) hx hb dX11_duties_65 (by decide) ?_
            refine lv_goto (tgt := 107) hx hb dX11_duties_66 (by decide) ?_
            exact hj69 (0 : Int32) ls _ _ ⟨(by omega), lv_sub hl [1] rfl, hP.sub [0, 1, 2, 3] rfl, hD.sub [0, 1, 2, 3] (by decide +kernel) rfl, hS⟩
