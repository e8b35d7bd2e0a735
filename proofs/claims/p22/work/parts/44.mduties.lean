section
theorem cdX11_is : yX11_is.cls ≠ "java/lang/invoke/MethodHandle" ∧ yX11_is.cls ≠ "java/lang/invoke/VarHandle" ∧ (parseMethodDescriptor yX11_is.desc).map (fun d => d.parameters.length) = some 1 := by decide +kernel
theorem cdX11_word : yX11_word.cls ≠ "java/lang/invoke/MethodHandle" ∧ yX11_word.cls ≠ "java/lang/invoke/VarHandle" ∧ (parseMethodDescriptor yX11_word.desc).map (fun d => d.parameters.length) = some 0 := by decide +kernel
theorem cdX11_numberUpTo : yX11_numberUpTo.cls ≠ "java/lang/invoke/MethodHandle" ∧ yX11_numberUpTo.cls ≠ "java/lang/invoke/VarHandle" ∧ (parseMethodDescriptor yX11_numberUpTo.desc).map (fun d => d.parameters.length) = some 1 := by decide +kernel
theorem Gd_X11_is : gdA wsX11_is := gd_cons (by decide +kernel) (gd_app (gd_all (ws := wsX11_is_o1) (by decide +kernel)) Gd_X110)
theorem Gd_X11_word : gdA wsX11_word := gd_cons (by decide +kernel) (gd_app (gd_all (ws := wsX11_word_o1) (by decide +kernel)) Gd_X110)
theorem Gd_X11_numberUpTo : gdA wsX11_numberUpTo := gd_cons (by decide +kernel) (gd_app (gd_all (ws := wsX11_numberUpTo_o1) (by decide +kernel)) (gd_app (gd_app Gd_X110 Gd_X11_bad) Gd_X11_need))
theorem inX11_duties_X11 : ∀ w ∈ u_ws RX11 TX11 64, w ∈ wsX11_duties := fun _ h => (List.mem_cons_of_mem _ (List.mem_append_right _ (List.mem_append_left _ (List.mem_append_left _ (List.mem_append_left _ h)))))
theorem ggX11_duties_X11_step : GoodIn wsX11_duties wsX11_step := goodIn_s (fun _ h => wm_t (wm_r (wm_l (wm_l (wm_r h))))) Gd_X11_step
theorem gX11_duties_X11_step : GoodIn wsX11_duties (wsV RX11 280 RX11 yX11_step wsX11_step) := goodIn_V (own := RX11) (idx := 280) (C := RX11) (y := yX11_step) (wm_t (wm_l (wm_l (wm_i 19 rfl)))) (wm_t (wm_l (wm_l (wm_i 20 rfl)))) (wm_t (wm_r (wm_r (wm_l (wm_l (wm_t (wm_l (wm_i 7 rfl)))))))) (wm_t (wm_l (wm_l (wm_i 21 rfl)))) ggX11_duties_X11_step
theorem ggX11_duties_X11_word : GoodIn wsX11_duties wsX11_word := goodIn_s (fun _ h => wm_t (wm_r (wm_l (wm_r (wm_l h))))) Gd_X11_word
theorem gX11_duties_X11_word : GoodIn wsX11_duties (wsV RX11 290 RX11 yX11_word wsX11_word) := goodIn_V (own := RX11) (idx := 290) (C := RX11) (y := yX11_word) (wm_t (wm_l (wm_l (wm_i 22 rfl)))) (wm_t (wm_l (wm_l (wm_i 23 rfl)))) (wm_t (wm_l (wm_r (wm_i 0 rfl)))) (wm_t (wm_l (wm_l (wm_i 21 rfl)))) ggX11_duties_X11_word
theorem ggX11_duties_X11_bad : GoodIn wsX11_duties wsX11_bad := goodIn_s (fun _ h => wm_t (wm_r (wm_l (wm_r (wm_r h))))) Gd_X11_bad
theorem gX11_duties_X11_bad : GoodIn wsX11_duties (wsV RX11 277 RX11 yX11_bad wsX11_bad) := goodIn_V (own := RX11) (idx := 277) (C := RX11) (y := yX11_bad) (wm_t (wm_l (wm_r (wm_i 1 rfl)))) (wm_t (wm_l (wm_r (wm_i 2 rfl)))) (wm_t (wm_r (wm_r (wm_l (wm_l (wm_t (wm_l (wm_i 3 rfl)))))))) (wm_t (wm_l (wm_l (wm_i 21 rfl)))) ggX11_duties_X11_bad
theorem ggX11_duties_X11_need : GoodIn wsX11_duties wsX11_need := goodIn_s (fun _ h => wm_t (wm_r (wm_r (wm_l (wm_l h))))) Gd_X11_need
theorem gX11_duties_X11_need : GoodIn wsX11_duties (wsV RX11 283 RX11 yX11_need wsX11_need) := goodIn_V (own := RX11) (idx := 283) (C := RX11) (y := yX11_need) (wm_t (wm_l (wm_r (wm_i 3 rfl)))) (wm_t (wm_l (wm_r (wm_i 4 rfl)))) (wm_t (wm_r (wm_r (wm_r (wm_t (wm_l (wm_i 9 rfl))))))) (wm_t (wm_l (wm_l (wm_i 21 rfl)))) ggX11_duties_X11_need
theorem ggX11_duties_X11_is : GoodIn wsX11_duties wsX11_is := goodIn_s (fun _ h => wm_t (wm_r (wm_r (wm_l (wm_r h))))) Gd_X11_is
theorem gX11_duties_X11_is : GoodIn wsX11_duties (wsV RX11 302 RX11 yX11_is wsX11_is) := goodIn_V (own := RX11) (idx := 302) (C := RX11) (y := yX11_is) (wm_t (wm_l (wm_r (wm_i 5 rfl)))) (wm_t (wm_l (wm_r (wm_i 6 rfl)))) (wm_t (wm_l (wm_r (wm_i 7 rfl)))) (wm_t (wm_l (wm_l (wm_i 21 rfl)))) ggX11_duties_X11_is
theorem ggX11_duties_X11_numberUpTo : GoodIn wsX11_duties wsX11_numberUpTo := goodIn_s (fun _ h => wm_t (wm_r (wm_r (wm_r h)))) Gd_X11_numberUpTo
theorem gX11_duties_X11_numberUpTo : GoodIn wsX11_duties (wsV RX11 305 RX11 yX11_numberUpTo wsX11_numberUpTo) := goodIn_V (own := RX11) (idx := 305) (C := RX11) (y := yX11_numberUpTo) (wm_t (wm_l (wm_r (wm_i 8 rfl)))) (wm_t (wm_l (wm_r (wm_i 9 rfl)))) (wm_t (wm_l (wm_r (wm_i 10 rfl)))) (wm_t (wm_l (wm_l (wm_i 21 rfl)))) ggX11_duties_X11_numberUpTo
theorem dX11_duties_all0 : decode cX11_duties 0 = .ok (.aload_n 0, 1) ∧ decode cX11_duties 1 = .ok (.iconst 0, 1) ∧ decode cX11_duties 2 = .ok (.putfield 1, 3) ∧ decode cX11_duties 5 = .ok (.aload_n 0, 1) ∧ decode cX11_duties 6 = .ok (.aload_n 0, 1) ∧ decode cX11_duties 7 = .ok (.getfield 242, 3) ∧ decode cX11_duties 10 = .ok (.putfield 247, 3) ∧ decode cX11_duties 13 = .ok (.aload_n 0, 1) ∧ decode cX11_duties 14 = .ok (.iconst 0, 1) ∧ decode cX11_duties 15 = .ok (.putfield 242, 3) ∧ decode cX11_duties 18 = .ok (.aload_n 0, 1) ∧ decode cX11_duties 19 = .ok (.iconst 0, 1) := by decide +kernel
theorem dX11_duties_0 : decode cX11_duties 0 = .ok (.aload_n 0, 1) := dX11_duties_all0.1
theorem dX11_duties_1 : decode cX11_duties 1 = .ok (.iconst 0, 1) := dX11_duties_all0.2.1
theorem dX11_duties_2 : decode cX11_duties 2 = .ok (.putfield 1, 3) := dX11_duties_all0.2.2.1
theorem dX11_duties_5 : decode cX11_duties 5 = .ok (.aload_n 0, 1) := dX11_duties_all0.2.2.2.1
theorem dX11_duties_6 : decode cX11_duties 6 = .ok (.aload_n 0, 1) := dX11_duties_all0.2.2.2.2.1
theorem dX11_duties_7 : decode cX11_duties 7 = .ok (.getfield 242, 3) := dX11_duties_all0.2.2.2.2.2.1
theorem dX11_duties_10 : decode cX11_duties 10 = .ok (.putfield 247, 3) := dX11_duties_all0.2.2.2.2.2.2.1
theorem dX11_duties_13 : decode cX11_duties 13 = .ok (.aload_n 0, 1) := dX11_duties_all0.2.2.2.2.2.2.2.1
theorem dX11_duties_14 : decode cX11_duties 14 = .ok (.iconst 0, 1) := dX11_duties_all0.2.2.2.2.2.2.2.2.1
theorem dX11_duties_15 : decode cX11_duties 15 = .ok (.putfield 242, 3) := dX11_duties_all0.2.2.2.2.2.2.2.2.2.1
theorem dX11_duties_18 : decode cX11_duties 18 = .ok (.aload_n 0, 1) := dX11_duties_all0.2.2.2.2.2.2.2.2.2.2.1
theorem dX11_duties_19 : decode cX11_duties 19 = .ok (.iconst 0, 1) := dX11_duties_all0.2.2.2.2.2.2.2.2.2.2.2
theorem dX11_duties_all1 : decode cX11_duties 20 = .ok (.putfield 250, 3) ∧ decode cX11_duties 23 = .ok (.aload_n 0, 1) ∧ decode cX11_duties 24 = .ok (.iconst 0, 1) ∧ decode cX11_duties 25 = .ok (.putfield 271, 3) ∧ decode cX11_duties 28 = .ok (.aload_n 0, 1) ∧ decode cX11_duties 29 = .ok (.iconst 0, 1) ∧ decode cX11_duties 30 = .ok (.putfield 287, 3) ∧ decode cX11_duties 33 = .ok (.aload_n 0, 1) ∧ decode cX11_duties 34 = .ok (.invokevirtual 280, 3) ∧ decode cX11_duties 37 = .ok (.aload_n 0, 1) ∧ decode cX11_duties 38 = .ok (.getfield 271, 3) ∧ decode cX11_duties 41 = .ok (.ifCond .ne 259, 3) := by decide +kernel
theorem dX11_duties_20 : decode cX11_duties 20 = .ok (.putfield 250, 3) := dX11_duties_all1.1
theorem dX11_duties_23 : decode cX11_duties 23 = .ok (.aload_n 0, 1) := dX11_duties_all1.2.1
theorem dX11_duties_24 : decode cX11_duties 24 = .ok (.iconst 0, 1) := dX11_duties_all1.2.2.1
theorem dX11_duties_25 : decode cX11_duties 25 = .ok (.putfield 271, 3) := dX11_duties_all1.2.2.2.1
theorem dX11_duties_28 : decode cX11_duties 28 = .ok (.aload_n 0, 1) := dX11_duties_all1.2.2.2.2.1
theorem dX11_duties_29 : decode cX11_duties 29 = .ok (.iconst 0, 1) := dX11_duties_all1.2.2.2.2.2.1
theorem dX11_duties_30 : decode cX11_duties 30 = .ok (.putfield 287, 3) := dX11_duties_all1.2.2.2.2.2.2.1
theorem dX11_duties_33 : decode cX11_duties 33 = .ok (.aload_n 0, 1) := dX11_duties_all1.2.2.2.2.2.2.2.1
theorem dX11_duties_34 : decode cX11_duties 34 = .ok (.invokevirtual 280, 3) := dX11_duties_all1.2.2.2.2.2.2.2.2.1
theorem dX11_duties_37 : decode cX11_duties 37 = .ok (.aload_n 0, 1) := dX11_duties_all1.2.2.2.2.2.2.2.2.2.1
theorem dX11_duties_38 : decode cX11_duties 38 = .ok (.getfield 271, 3) := dX11_duties_all1.2.2.2.2.2.2.2.2.2.2.1
theorem dX11_duties_41 : decode cX11_duties 41 = .ok (.ifCond .ne 259, 3) := dX11_duties_all1.2.2.2.2.2.2.2.2.2.2.2
theorem dX11_duties_all2 : decode cX11_duties 44 = .ok (.aload_n 0, 1) ∧ decode cX11_duties 45 = .ok (.getfield 259, 3) ∧ decode cX11_duties 48 = .ok (.iconst 1, 1) ∧ decode cX11_duties 49 = .ok (.if_icmp .eq 251, 3) ∧ decode cX11_duties 52 = .ok (.aload_n 0, 1) ∧ decode cX11_duties 53 = .ok (.invokevirtual 290, 3) ∧ decode cX11_duties 56 = .ok (.lstore_n 1, 1) ∧ decode cX11_duties 57 = .ok (.lload_n 1, 1) ∧ decode cX11_duties 58 = .ok (.ldc2_w 294, 3) ∧ decode cX11_duties 61 = .ok (.lcmp, 1) ∧ decode cX11_duties 62 = .ok (.ifCond .ne 7, 3) ∧ decode cX11_duties 65 = .ok (.iconst 0, 1) := by decide +kernel
theorem dX11_duties_44 : decode cX11_duties 44 = .ok (.aload_n 0, 1) := dX11_duties_all2.1
theorem dX11_duties_45 : decode cX11_duties 45 = .ok (.getfield 259, 3) := dX11_duties_all2.2.1
theorem dX11_duties_48 : decode cX11_duties 48 = .ok (.iconst 1, 1) := dX11_duties_all2.2.2.1
theorem dX11_duties_49 : decode cX11_duties 49 = .ok (.if_icmp .eq 251, 3) := dX11_duties_all2.2.2.2.1
theorem dX11_duties_52 : decode cX11_duties 52 = .ok (.aload_n 0, 1) := dX11_duties_all2.2.2.2.2.1
theorem dX11_duties_53 : decode cX11_duties 53 = .ok (.invokevirtual 290, 3) := dX11_duties_all2.2.2.2.2.2.1
theorem dX11_duties_56 : decode cX11_duties 56 = .ok (.lstore_n 1, 1) := dX11_duties_all2.2.2.2.2.2.2.1
theorem dX11_duties_57 : decode cX11_duties 57 = .ok (.lload_n 1, 1) := dX11_duties_all2.2.2.2.2.2.2.2.1
theorem dX11_duties_58 : decode cX11_duties 58 = .ok (.ldc2_w 294, 3) := dX11_duties_all2.2.2.2.2.2.2.2.2.1
theorem dX11_duties_61 : decode cX11_duties 61 = .ok (.lcmp, 1) := dX11_duties_all2.2.2.2.2.2.2.2.2.2.1
theorem dX11_duties_62 : decode cX11_duties 62 = .ok (.ifCond .ne 7, 3) := dX11_duties_all2.2.2.2.2.2.2.2.2.2.2.1
theorem dX11_duties_65 : decode cX11_duties 65 = .ok (.iconst 0, 1) := dX11_duties_all2.2.2.2.2.2.2.2.2.2.2.2
theorem dX11_duties_all3 : decode cX11_duties 66 = .ok (.goto 41, 3) ∧ decode cX11_duties 69 = .ok (.lload_n 1, 1) ∧ decode cX11_duties 70 = .ok (.ldc2_w 296, 3) ∧ decode cX11_duties 73 = .ok (.lcmp, 1) ∧ decode cX11_duties 74 = .ok (.ifCond .ne 7, 3) ∧ decode cX11_duties 77 = .ok (.iconst 1, 1) ∧ decode cX11_duties 78 = .ok (.goto 29, 3) ∧ decode cX11_duties 81 = .ok (.lload_n 1, 1) ∧ decode cX11_duties 82 = .ok (.ldc2_w 298, 3) ∧ decode cX11_duties 85 = .ok (.lcmp, 1) ∧ decode cX11_duties 86 = .ok (.ifCond .ne 7, 3) ∧ decode cX11_duties 89 = .ok (.iconst 2, 1) := by decide +kernel
theorem dX11_duties_66 : decode cX11_duties 66 = .ok (.goto 41, 3) := dX11_duties_all3.1
theorem dX11_duties_69 : decode cX11_duties 69 = .ok (.lload_n 1, 1) := dX11_duties_all3.2.1
theorem dX11_duties_70 : decode cX11_duties 70 = .ok (.ldc2_w 296, 3) := dX11_duties_all3.2.2.1
theorem dX11_duties_73 : decode cX11_duties 73 = .ok (.lcmp, 1) := dX11_duties_all3.2.2.2.1
theorem dX11_duties_74 : decode cX11_duties 74 = .ok (.ifCond .ne 7, 3) := dX11_duties_all3.2.2.2.2.1
theorem dX11_duties_77 : decode cX11_duties 77 = .ok (.iconst 1, 1) := dX11_duties_all3.2.2.2.2.2.1
theorem dX11_duties_78 : decode cX11_duties 78 = .ok (.goto 29, 3) := dX11_duties_all3.2.2.2.2.2.2.1
theorem dX11_duties_81 : decode cX11_duties 81 = .ok (.lload_n 1, 1) := dX11_duties_all3.2.2.2.2.2.2.2.1
theorem dX11_duties_82 : decode cX11_duties 82 = .ok (.ldc2_w 298, 3) := dX11_duties_all3.2.2.2.2.2.2.2.2.1
theorem dX11_duties_85 : decode cX11_duties 85 = .ok (.lcmp, 1) := dX11_duties_all3.2.2.2.2.2.2.2.2.2.1
theorem dX11_duties_86 : decode cX11_duties 86 = .ok (.ifCond .ne 7, 3) := dX11_duties_all3.2.2.2.2.2.2.2.2.2.2.1
theorem dX11_duties_89 : decode cX11_duties 89 = .ok (.iconst 2, 1) := dX11_duties_all3.2.2.2.2.2.2.2.2.2.2.2
theorem dX11_duties_all4 : decode cX11_duties 90 = .ok (.goto 17, 3) ∧ decode cX11_duties 93 = .ok (.lload_n 1, 1) ∧ decode cX11_duties 94 = .ok (.ldc2_w 300, 3) ∧ decode cX11_duties 97 = .ok (.lcmp, 1) ∧ decode cX11_duties 98 = .ok (.ifCond .ne 7, 3) ∧ decode cX11_duties 101 = .ok (.iconst 3, 1) ∧ decode cX11_duties 102 = .ok (.goto 5, 3) ∧ decode cX11_duties 105 = .ok (.ldc 139, 2) ∧ decode cX11_duties 107 = .ok (.istore_n 3, 1) ∧ decode cX11_duties 108 = .ok (.iload_n 3, 1) ∧ decode cX11_duties 109 = .ok (.ldc 139, 2) ∧ decode cX11_duties 111 = .ok (.if_icmp .eq 17, 3) := by decide +kernel
theorem dX11_duties_90 : decode cX11_duties 90 = .ok (.goto 17, 3) := dX11_duties_all4.1
theorem dX11_duties_93 : decode cX11_duties 93 = .ok (.lload_n 1, 1) := dX11_duties_all4.2.1
theorem dX11_duties_94 : decode cX11_duties 94 = .ok (.ldc2_w 300, 3) := dX11_duties_all4.2.2.1
theorem dX11_duties_97 : decode cX11_duties 97 = .ok (.lcmp, 1) := dX11_duties_all4.2.2.2.1
theorem dX11_duties_98 : decode cX11_duties 98 = .ok (.ifCond .ne 7, 3) := dX11_duties_all4.2.2.2.2.1
theorem dX11_duties_101 : decode cX11_duties 101 = .ok (.iconst 3, 1) := dX11_duties_all4.2.2.2.2.2.1
theorem dX11_duties_102 : decode cX11_duties 102 = .ok (.goto 5, 3) := dX11_duties_all4.2.2.2.2.2.2.1
theorem dX11_duties_105 : decode cX11_duties 105 = .ok (.ldc 139, 2) := dX11_duties_all4.2.2.2.2.2.2.2.1
theorem dX11_duties_107 : decode cX11_duties 107 = .ok (.istore_n 3, 1) := dX11_duties_all4.2.2.2.2.2.2.2.2.1
theorem dX11_duties_108 : decode cX11_duties 108 = .ok (.iload_n 3, 1) := dX11_duties_all4.2.2.2.2.2.2.2.2.2.1
theorem dX11_duties_109 : decode cX11_duties 109 = .ok (.ldc 139, 2) := dX11_duties_all4.2.2.2.2.2.2.2.2.2.2.1
theorem dX11_duties_111 : decode cX11_duties 111 = .ok (.if_icmp .eq 17, 3) := dX11_duties_all4.2.2.2.2.2.2.2.2.2.2.2
theorem dX11_duties_all5 : decode cX11_duties 114 = .ok (.aload_n 0, 1) ∧ decode cX11_duties 115 = .ok (.getfield 287, 3) ∧ decode cX11_duties 118 = .ok (.bipush 12, 2) ∧ decode cX11_duties 120 = .ok (.if_icmp .ne 8, 3) ∧ decode cX11_duties 123 = .ok (.aload_n 0, 1) ∧ decode cX11_duties 124 = .ok (.iconst 3, 1) ∧ decode cX11_duties 125 = .ok (.invokevirtual 277, 3) ∧ decode cX11_duties 128 = .ok (.aload_n 0, 1) ∧ decode cX11_duties 129 = .ok (.iload_n 3, 1) ∧ decode cX11_duties 130 = .ok (.ldc 139, 2) ∧ decode cX11_duties 132 = .ok (.if_icmp .eq 7, 3) ∧ decode cX11_duties 135 = .ok (.iconst 1, 1) := by decide +kernel
theorem dX11_duties_114 : decode cX11_duties 114 = .ok (.aload_n 0, 1) := dX11_duties_all5.1
theorem dX11_duties_115 : decode cX11_duties 115 = .ok (.getfield 287, 3) := dX11_duties_all5.2.1
theorem dX11_duties_118 : decode cX11_duties 118 = .ok (.bipush 12, 2) := dX11_duties_all5.2.2.1
theorem dX11_duties_120 : decode cX11_duties 120 = .ok (.if_icmp .ne 8, 3) := dX11_duties_all5.2.2.2.1
theorem dX11_duties_123 : decode cX11_duties 123 = .ok (.aload_n 0, 1) := dX11_duties_all5.2.2.2.2.1
theorem dX11_duties_124 : decode cX11_duties 124 = .ok (.iconst 3, 1) := dX11_duties_all5.2.2.2.2.2.1
theorem dX11_duties_125 : decode cX11_duties 125 = .ok (.invokevirtual 277, 3) := dX11_duties_all5.2.2.2.2.2.2.1
theorem dX11_duties_128 : decode cX11_duties 128 = .ok (.aload_n 0, 1) := dX11_duties_all5.2.2.2.2.2.2.2.1
theorem dX11_duties_129 : decode cX11_duties 129 = .ok (.iload_n 3, 1) := dX11_duties_all5.2.2.2.2.2.2.2.2.1
theorem dX11_duties_130 : decode cX11_duties 130 = .ok (.ldc 139, 2) := dX11_duties_all5.2.2.2.2.2.2.2.2.2.1
theorem dX11_duties_132 : decode cX11_duties 132 = .ok (.if_icmp .eq 7, 3) := dX11_duties_all5.2.2.2.2.2.2.2.2.2.2.1
theorem dX11_duties_135 : decode cX11_duties 135 = .ok (.iconst 1, 1) := dX11_duties_all5.2.2.2.2.2.2.2.2.2.2.2
theorem dX11_duties_all6 : decode cX11_duties 136 = .ok (.goto 4, 3) ∧ decode cX11_duties 139 = .ok (.iconst 0, 1) ∧ decode cX11_duties 140 = .ok (.invokevirtual 283, 3) ∧ decode cX11_duties 143 = .ok (.iconst (-1), 1) ∧ decode cX11_duties 144 = .ok (.istore 4, 2) ∧ decode cX11_duties 146 = .ok (.aload_n 0, 1) ∧ decode cX11_duties 147 = .ok (.getfield 271, 3) ∧ decode cX11_duties 150 = .ok (.ifCond .ne 25, 3) ∧ decode cX11_duties 153 = .ok (.aload_n 0, 1) ∧ decode cX11_duties 154 = .ok (.bipush 62, 2) ∧ decode cX11_duties 156 = .ok (.invokevirtual 302, 3) ∧ decode cX11_duties 159 = .ok (.ifCond .eq 16, 3) := by decide +kernel
theorem dX11_duties_136 : decode cX11_duties 136 = .ok (.goto 4, 3) := dX11_duties_all6.1
theorem dX11_duties_139 : decode cX11_duties 139 = .ok (.iconst 0, 1) := dX11_duties_all6.2.1
theorem dX11_duties_140 : decode cX11_duties 140 = .ok (.invokevirtual 283, 3) := dX11_duties_all6.2.2.1
theorem dX11_duties_143 : decode cX11_duties 143 = .ok (.iconst (-1), 1) := dX11_duties_all6.2.2.2.1
theorem dX11_duties_144 : decode cX11_duties 144 = .ok (.istore 4, 2) := dX11_duties_all6.2.2.2.2.1
theorem dX11_duties_146 : decode cX11_duties 146 = .ok (.aload_n 0, 1) := dX11_duties_all6.2.2.2.2.2.1
theorem dX11_duties_147 : decode cX11_duties 147 = .ok (.getfield 271, 3) := dX11_duties_all6.2.2.2.2.2.2.1
theorem dX11_duties_150 : decode cX11_duties 150 = .ok (.ifCond .ne 25, 3) := dX11_duties_all6.2.2.2.2.2.2.2.1
theorem dX11_duties_153 : decode cX11_duties 153 = .ok (.aload_n 0, 1) := dX11_duties_all6.2.2.2.2.2.2.2.2.1
theorem dX11_duties_154 : decode cX11_duties 154 = .ok (.bipush 62, 2) := dX11_duties_all6.2.2.2.2.2.2.2.2.2.1
theorem dX11_duties_156 : decode cX11_duties 156 = .ok (.invokevirtual 302, 3) := dX11_duties_all6.2.2.2.2.2.2.2.2.2.2.1
theorem dX11_duties_159 : decode cX11_duties 159 = .ok (.ifCond .eq 16, 3) := dX11_duties_all6.2.2.2.2.2.2.2.2.2.2.2
theorem dX11_duties_all7 : decode cX11_duties 162 = .ok (.aload_n 0, 1) ∧ decode cX11_duties 163 = .ok (.invokevirtual 280, 3) ∧ decode cX11_duties 166 = .ok (.aload_n 0, 1) ∧ decode cX11_duties 167 = .ok (.sipush 9999, 3) ∧ decode cX11_duties 170 = .ok (.invokevirtual 305, 3) ∧ decode cX11_duties 173 = .ok (.istore 4, 2) ∧ decode cX11_duties 175 = .ok (.aload_n 0, 1) ∧ decode cX11_duties 176 = .ok (.getfield 271, 3) ∧ decode cX11_duties 179 = .ok (.ifCond .ne 23, 3) ∧ decode cX11_duties 182 = .ok (.aload_n 0, 1) ∧ decode cX11_duties 183 = .ok (.aload_n 0, 1) ∧ decode cX11_duties 184 = .ok (.invokevirtual 290, 3) := by decide +kernel
theorem dX11_duties_162 : decode cX11_duties 162 = .ok (.aload_n 0, 1) := dX11_duties_all7.1
theorem dX11_duties_163 : decode cX11_duties 163 = .ok (.invokevirtual 280, 3) := dX11_duties_all7.2.1
theorem dX11_duties_166 : decode cX11_duties 166 = .ok (.aload_n 0, 1) := dX11_duties_all7.2.2.1
theorem dX11_duties_167 : decode cX11_duties 167 = .ok (.sipush 9999, 3) := dX11_duties_all7.2.2.2.1
theorem dX11_duties_170 : decode cX11_duties 170 = .ok (.invokevirtual 305, 3) := dX11_duties_all7.2.2.2.2.1
theorem dX11_duties_173 : decode cX11_duties 173 = .ok (.istore 4, 2) := dX11_duties_all7.2.2.2.2.2.1
theorem dX11_duties_175 : decode cX11_duties 175 = .ok (.aload_n 0, 1) := dX11_duties_all7.2.2.2.2.2.2.1
theorem dX11_duties_176 : decode cX11_duties 176 = .ok (.getfield 271, 3) := dX11_duties_all7.2.2.2.2.2.2.2.1
theorem dX11_duties_179 : decode cX11_duties 179 = .ok (.ifCond .ne 23, 3) := dX11_duties_all7.2.2.2.2.2.2.2.2.1
theorem dX11_duties_182 : decode cX11_duties 182 = .ok (.aload_n 0, 1) := dX11_duties_all7.2.2.2.2.2.2.2.2.2.1
theorem dX11_duties_183 : decode cX11_duties 183 = .ok (.aload_n 0, 1) := dX11_duties_all7.2.2.2.2.2.2.2.2.2.2.1
theorem dX11_duties_184 : decode cX11_duties 184 = .ok (.invokevirtual 290, 3) := dX11_duties_all7.2.2.2.2.2.2.2.2.2.2.2
theorem dX11_duties_all8 : decode cX11_duties 187 = .ok (.ldc2_w 308, 3) ∧ decode cX11_duties 190 = .ok (.lcmp, 1) ∧ decode cX11_duties 191 = .ok (.ifCond .ne 7, 3) ∧ decode cX11_duties 194 = .ok (.iconst 1, 1) ∧ decode cX11_duties 195 = .ok (.goto 4, 3) ∧ decode cX11_duties 198 = .ok (.iconst 0, 1) ∧ decode cX11_duties 199 = .ok (.invokevirtual 283, 3) ∧ decode cX11_duties 202 = .ok (.aload_n 0, 1) ∧ decode cX11_duties 203 = .ok (.getfield 271, 3) ∧ decode cX11_duties 206 = .ok (.ifCond .ne 12, 3) ∧ decode cX11_duties 209 = .ok (.aload_n 0, 1) ∧ decode cX11_duties 210 = .ok (.bipush 100, 2) := by decide +kernel
theorem dX11_duties_187 : decode cX11_duties 187 = .ok (.ldc2_w 308, 3) := dX11_duties_all8.1
theorem dX11_duties_190 : decode cX11_duties 190 = .ok (.lcmp, 1) := dX11_duties_all8.2.1
theorem dX11_duties_191 : decode cX11_duties 191 = .ok (.ifCond .ne 7, 3) := dX11_duties_all8.2.2.1
theorem dX11_duties_194 : decode cX11_duties 194 = .ok (.iconst 1, 1) := dX11_duties_all8.2.2.2.1
theorem dX11_duties_195 : decode cX11_duties 195 = .ok (.goto 4, 3) := dX11_duties_all8.2.2.2.2.1
theorem dX11_duties_198 : decode cX11_duties 198 = .ok (.iconst 0, 1) := dX11_duties_all8.2.2.2.2.2.1
theorem dX11_duties_199 : decode cX11_duties 199 = .ok (.invokevirtual 283, 3) := dX11_duties_all8.2.2.2.2.2.2.1
theorem dX11_duties_202 : decode cX11_duties 202 = .ok (.aload_n 0, 1) := dX11_duties_all8.2.2.2.2.2.2.2.1
theorem dX11_duties_203 : decode cX11_duties 203 = .ok (.getfield 271, 3) := dX11_duties_all8.2.2.2.2.2.2.2.2.1
theorem dX11_duties_206 : decode cX11_duties 206 = .ok (.ifCond .ne 12, 3) := dX11_duties_all8.2.2.2.2.2.2.2.2.2.1
theorem dX11_duties_209 : decode cX11_duties 209 = .ok (.aload_n 0, 1) := dX11_duties_all8.2.2.2.2.2.2.2.2.2.2.1
theorem dX11_duties_210 : decode cX11_duties 210 = .ok (.bipush 100, 2) := dX11_duties_all8.2.2.2.2.2.2.2.2.2.2.2
theorem dX11_duties_all9 : decode cX11_duties 212 = .ok (.invokevirtual 305, 3) ∧ decode cX11_duties 215 = .ok (.goto 4, 3) ∧ decode cX11_duties 218 = .ok (.iconst 0, 1) ∧ decode cX11_duties 219 = .ok (.istore 5, 2) ∧ decode cX11_duties 221 = .ok (.aload_n 0, 1) ∧ decode cX11_duties 222 = .ok (.getfield 271, 3) ∧ decode cX11_duties 225 = .ok (.ifCond .ne 13, 3) ∧ decode cX11_duties 228 = .ok (.aload_n 0, 1) ∧ decode cX11_duties 229 = .ok (.aload_n 0, 1) ∧ decode cX11_duties 230 = .ok (.bipush 59, 2) ∧ decode cX11_duties 232 = .ok (.invokevirtual 302, 3) ∧ decode cX11_duties 235 = .ok (.invokevirtual 283, 3) := by decide +kernel
theorem dX11_duties_212 : decode cX11_duties 212 = .ok (.invokevirtual 305, 3) := dX11_duties_all9.1
theorem dX11_duties_215 : decode cX11_duties 215 = .ok (.goto 4, 3) := dX11_duties_all9.2.1
theorem dX11_duties_218 : decode cX11_duties 218 = .ok (.iconst 0, 1) := dX11_duties_all9.2.2.1
theorem dX11_duties_219 : decode cX11_duties 219 = .ok (.istore 5, 2) := dX11_duties_all9.2.2.2.1
theorem dX11_duties_221 : decode cX11_duties 221 = .ok (.aload_n 0, 1) := dX11_duties_all9.2.2.2.2.1
theorem dX11_duties_222 : decode cX11_duties 222 = .ok (.getfield 271, 3) := dX11_duties_all9.2.2.2.2.2.1
theorem dX11_duties_225 : decode cX11_duties 225 = .ok (.ifCond .ne 13, 3) := dX11_duties_all9.2.2.2.2.2.2.1
theorem dX11_duties_228 : decode cX11_duties 228 = .ok (.aload_n 0, 1) := dX11_duties_all9.2.2.2.2.2.2.2.1
theorem dX11_duties_229 : decode cX11_duties 229 = .ok (.aload_n 0, 1) := dX11_duties_all9.2.2.2.2.2.2.2.2.1
theorem dX11_duties_230 : decode cX11_duties 230 = .ok (.bipush 59, 2) := dX11_duties_all9.2.2.2.2.2.2.2.2.2.1
theorem dX11_duties_232 : decode cX11_duties 232 = .ok (.invokevirtual 302, 3) := dX11_duties_all9.2.2.2.2.2.2.2.2.2.2.1
theorem dX11_duties_235 : decode cX11_duties 235 = .ok (.invokevirtual 283, 3) := dX11_duties_all9.2.2.2.2.2.2.2.2.2.2.2
theorem dX11_duties_all10 : decode cX11_duties 238 = .ok (.aload_n 0, 1) ∧ decode cX11_duties 239 = .ok (.getfield 271, 3) ∧ decode cX11_duties 242 = .ok (.ifCond .ne 55, 3) ∧ decode cX11_duties 245 = .ok (.aload_n 0, 1) ∧ decode cX11_duties 246 = .ok (.getfield 84, 3) ∧ decode cX11_duties 249 = .ok (.iconst 3, 1) ∧ decode cX11_duties 250 = .ok (.aload_n 0, 1) ∧ decode cX11_duties 251 = .ok (.getfield 287, 3) ∧ decode cX11_duties 254 = .ok (.imul, 1) ∧ decode cX11_duties 255 = .ok (.iload_n 3, 1) ∧ decode cX11_duties 256 = .ok (.iastore, 1) ∧ decode cX11_duties 257 = .ok (.aload_n 0, 1) := by decide +kernel
theorem dX11_duties_238 : decode cX11_duties 238 = .ok (.aload_n 0, 1) := dX11_duties_all10.1
theorem dX11_duties_239 : decode cX11_duties 239 = .ok (.getfield 271, 3) := dX11_duties_all10.2.1
theorem dX11_duties_242 : decode cX11_duties 242 = .ok (.ifCond .ne 55, 3) := dX11_duties_all10.2.2.1
theorem dX11_duties_245 : decode cX11_duties 245 = .ok (.aload_n 0, 1) := dX11_duties_all10.2.2.2.1
theorem dX11_duties_246 : decode cX11_duties 246 = .ok (.getfield 84, 3) := dX11_duties_all10.2.2.2.2.1
theorem dX11_duties_249 : decode cX11_duties 249 = .ok (.iconst 3, 1) := dX11_duties_all10.2.2.2.2.2.1
theorem dX11_duties_250 : decode cX11_duties 250 = .ok (.aload_n 0, 1) := dX11_duties_all10.2.2.2.2.2.2.1
theorem dX11_duties_251 : decode cX11_duties 251 = .ok (.getfield 287, 3) := dX11_duties_all10.2.2.2.2.2.2.2.1
theorem dX11_duties_254 : decode cX11_duties 254 = .ok (.imul, 1) := dX11_duties_all10.2.2.2.2.2.2.2.2.1
theorem dX11_duties_255 : decode cX11_duties 255 = .ok (.iload_n 3, 1) := dX11_duties_all10.2.2.2.2.2.2.2.2.2.1
theorem dX11_duties_256 : decode cX11_duties 256 = .ok (.iastore, 1) := dX11_duties_all10.2.2.2.2.2.2.2.2.2.2.1
theorem dX11_duties_257 : decode cX11_duties 257 = .ok (.aload_n 0, 1) := dX11_duties_all10.2.2.2.2.2.2.2.2.2.2.2
theorem dX11_duties_all11 : decode cX11_duties 258 = .ok (.getfield 84, 3) ∧ decode cX11_duties 261 = .ok (.iconst 3, 1) ∧ decode cX11_duties 262 = .ok (.aload_n 0, 1) ∧ decode cX11_duties 263 = .ok (.getfield 287, 3) ∧ decode cX11_duties 266 = .ok (.imul, 1) ∧ decode cX11_duties 267 = .ok (.iconst 1, 1) ∧ decode cX11_duties 268 = .ok (.iadd, 1) ∧ decode cX11_duties 269 = .ok (.iload 4, 2) ∧ decode cX11_duties 271 = .ok (.iastore, 1) ∧ decode cX11_duties 272 = .ok (.aload_n 0, 1) ∧ decode cX11_duties 273 = .ok (.getfield 84, 3) ∧ decode cX11_duties 276 = .ok (.iconst 3, 1) := by decide +kernel
theorem dX11_duties_258 : decode cX11_duties 258 = .ok (.getfield 84, 3) := dX11_duties_all11.1
theorem dX11_duties_261 : decode cX11_duties 261 = .ok (.iconst 3, 1) := dX11_duties_all11.2.1
theorem dX11_duties_262 : decode cX11_duties 262 = .ok (.aload_n 0, 1) := dX11_duties_all11.2.2.1
theorem dX11_duties_263 : decode cX11_duties 263 = .ok (.getfield 287, 3) := dX11_duties_all11.2.2.2.1
theorem dX11_duties_266 : decode cX11_duties 266 = .ok (.imul, 1) := dX11_duties_all11.2.2.2.2.1
theorem dX11_duties_267 : decode cX11_duties 267 = .ok (.iconst 1, 1) := dX11_duties_all11.2.2.2.2.2.1
theorem dX11_duties_268 : decode cX11_duties 268 = .ok (.iadd, 1) := dX11_duties_all11.2.2.2.2.2.2.1
theorem dX11_duties_269 : decode cX11_duties 269 = .ok (.iload 4, 2) := dX11_duties_all11.2.2.2.2.2.2.2.1
theorem dX11_duties_271 : decode cX11_duties 271 = .ok (.iastore, 1) := dX11_duties_all11.2.2.2.2.2.2.2.2.1
theorem dX11_duties_272 : decode cX11_duties 272 = .ok (.aload_n 0, 1) := dX11_duties_all11.2.2.2.2.2.2.2.2.2.1
theorem dX11_duties_273 : decode cX11_duties 273 = .ok (.getfield 84, 3) := dX11_duties_all11.2.2.2.2.2.2.2.2.2.2.1
theorem dX11_duties_276 : decode cX11_duties 276 = .ok (.iconst 3, 1) := dX11_duties_all11.2.2.2.2.2.2.2.2.2.2.2
theorem dX11_duties_all12 : decode cX11_duties 277 = .ok (.aload_n 0, 1) ∧ decode cX11_duties 278 = .ok (.getfield 287, 3) ∧ decode cX11_duties 281 = .ok (.imul, 1) ∧ decode cX11_duties 282 = .ok (.iconst 2, 1) ∧ decode cX11_duties 283 = .ok (.iadd, 1) ∧ decode cX11_duties 284 = .ok (.iload 5, 2) ∧ decode cX11_duties 286 = .ok (.iastore, 1) ∧ decode cX11_duties 287 = .ok (.aload_n 0, 1) ∧ decode cX11_duties 288 = .ok (.dup, 1) ∧ decode cX11_duties 289 = .ok (.getfield 287, 3) ∧ decode cX11_duties 292 = .ok (.iconst 1, 1) ∧ decode cX11_duties 293 = .ok (.iadd, 1) := by decide +kernel
theorem dX11_duties_277 : decode cX11_duties 277 = .ok (.aload_n 0, 1) := dX11_duties_all12.1
theorem dX11_duties_278 : decode cX11_duties 278 = .ok (.getfield 287, 3) := dX11_duties_all12.2.1
theorem dX11_duties_281 : decode cX11_duties 281 = .ok (.imul, 1) := dX11_duties_all12.2.2.1
theorem dX11_duties_282 : decode cX11_duties 282 = .ok (.iconst 2, 1) := dX11_duties_all12.2.2.2.1
theorem dX11_duties_283 : decode cX11_duties 283 = .ok (.iadd, 1) := dX11_duties_all12.2.2.2.2.1
theorem dX11_duties_284 : decode cX11_duties 284 = .ok (.iload 5, 2) := dX11_duties_all12.2.2.2.2.2.1
theorem dX11_duties_286 : decode cX11_duties 286 = .ok (.iastore, 1) := dX11_duties_all12.2.2.2.2.2.2.1
theorem dX11_duties_287 : decode cX11_duties 287 = .ok (.aload_n 0, 1) := dX11_duties_all12.2.2.2.2.2.2.2.1
theorem dX11_duties_288 : decode cX11_duties 288 = .ok (.dup, 1) := dX11_duties_all12.2.2.2.2.2.2.2.2.1
theorem dX11_duties_289 : decode cX11_duties 289 = .ok (.getfield 287, 3) := dX11_duties_all12.2.2.2.2.2.2.2.2.2.1
theorem dX11_duties_292 : decode cX11_duties 292 = .ok (.iconst 1, 1) := dX11_duties_all12.2.2.2.2.2.2.2.2.2.2.1
theorem dX11_duties_293 : decode cX11_duties 293 = .ok (.iadd, 1) := dX11_duties_all12.2.2.2.2.2.2.2.2.2.2.2
theorem dX11_duties_all13 : decode cX11_duties 294 = .ok (.putfield 287, 3) ∧ decode cX11_duties 297 = .ok (.goto (-260), 3) ∧ decode cX11_duties 300 = .ok (.aload_n 0, 1) ∧ decode cX11_duties 301 = .ok (.getfield 271, 3) ∧ decode cX11_duties 304 = .ok (.ifCond .le 20, 3) ∧ decode cX11_duties 307 = .ok (.aload_n 0, 1) ∧ decode cX11_duties 308 = .ok (.aload_n 0, 1) ∧ decode cX11_duties 309 = .ok (.getfield 271, 3) ∧ decode cX11_duties 312 = .ok (.putfield 310, 3) ∧ decode cX11_duties 315 = .ok (.ldc_w 313, 3) ∧ decode cX11_duties 318 = .ok (.aload_n 0, 1) ∧ decode cX11_duties 319 = .ok (.getfield 274, 3) := by decide +kernel
theorem dX11_duties_294 : decode cX11_duties 294 = .ok (.putfield 287, 3) := dX11_duties_all13.1
theorem dX11_duties_297 : decode cX11_duties 297 = .ok (.goto (-260), 3) := dX11_duties_all13.2.1
theorem dX11_duties_300 : decode cX11_duties 300 = .ok (.aload_n 0, 1) := dX11_duties_all13.2.2.1
theorem dX11_duties_301 : decode cX11_duties 301 = .ok (.getfield 271, 3) := dX11_duties_all13.2.2.2.1
theorem dX11_duties_304 : decode cX11_duties 304 = .ok (.ifCond .le 20, 3) := dX11_duties_all13.2.2.2.2.1
theorem dX11_duties_307 : decode cX11_duties 307 = .ok (.aload_n 0, 1) := dX11_duties_all13.2.2.2.2.2.1
theorem dX11_duties_308 : decode cX11_duties 308 = .ok (.aload_n 0, 1) := dX11_duties_all13.2.2.2.2.2.2.1
theorem dX11_duties_309 : decode cX11_duties 309 = .ok (.getfield 271, 3) := dX11_duties_all13.2.2.2.2.2.2.2.1
theorem dX11_duties_312 : decode cX11_duties 312 = .ok (.putfield 310, 3) := dX11_duties_all13.2.2.2.2.2.2.2.2.1
theorem dX11_duties_315 : decode cX11_duties 315 = .ok (.ldc_w 313, 3) := dX11_duties_all13.2.2.2.2.2.2.2.2.2.1
theorem dX11_duties_318 : decode cX11_duties 318 = .ok (.aload_n 0, 1) := dX11_duties_all13.2.2.2.2.2.2.2.2.2.2.1
theorem dX11_duties_319 : decode cX11_duties 319 = .ok (.getfield 274, 3) := dX11_duties_all13.2.2.2.2.2.2.2.2.2.2.2
theorem dX11_duties_all14 : decode cX11_duties 322 = .ok (.isub, 1) ∧ decode cX11_duties 323 = .ok (.ireturn, 1) ∧ decode cX11_duties 324 = .ok (.aload_n 0, 1) ∧ decode cX11_duties 325 = .ok (.aload_n 0, 1) ∧ decode cX11_duties 326 = .ok (.getfield 287, 3) ∧ decode cX11_duties 329 = .ok (.putfield 314, 3) ∧ decode cX11_duties 332 = .ok (.iconst 0, 1) ∧ decode cX11_duties 333 = .ok (.istore_n 1, 1) ∧ decode cX11_duties 334 = .ok (.iload_n 1, 1) ∧ decode cX11_duties 335 = .ok (.bipush 36, 2) ∧ decode cX11_duties 337 = .ok (.if_icmp .ge 21, 3) ∧ decode cX11_duties 340 = .ok (.aload_n 0, 1) := by decide +kernel
theorem dX11_duties_322 : decode cX11_duties 322 = .ok (.isub, 1) := dX11_duties_all14.1
theorem dX11_duties_323 : decode cX11_duties 323 = .ok (.ireturn, 1) := dX11_duties_all14.2.1
theorem dX11_duties_324 : decode cX11_duties 324 = .ok (.aload_n 0, 1) := dX11_duties_all14.2.2.1
theorem dX11_duties_325 : decode cX11_duties 325 = .ok (.aload_n 0, 1) := dX11_duties_all14.2.2.2.1
theorem dX11_duties_326 : decode cX11_duties 326 = .ok (.getfield 287, 3) := dX11_duties_all14.2.2.2.2.1
theorem dX11_duties_329 : decode cX11_duties 329 = .ok (.putfield 314, 3) := dX11_duties_all14.2.2.2.2.2.1
theorem dX11_duties_332 : decode cX11_duties 332 = .ok (.iconst 0, 1) := dX11_duties_all14.2.2.2.2.2.2.1
theorem dX11_duties_333 : decode cX11_duties 333 = .ok (.istore_n 1, 1) := dX11_duties_all14.2.2.2.2.2.2.2.1
theorem dX11_duties_334 : decode cX11_duties 334 = .ok (.iload_n 1, 1) := dX11_duties_all14.2.2.2.2.2.2.2.2.1
theorem dX11_duties_335 : decode cX11_duties 335 = .ok (.bipush 36, 2) := dX11_duties_all14.2.2.2.2.2.2.2.2.2.1
theorem dX11_duties_337 : decode cX11_duties 337 = .ok (.if_icmp .ge 21, 3) := dX11_duties_all14.2.2.2.2.2.2.2.2.2.2.1
theorem dX11_duties_340 : decode cX11_duties 340 = .ok (.aload_n 0, 1) := dX11_duties_all14.2.2.2.2.2.2.2.2.2.2.2
theorem dX11_duties_all15 : decode cX11_duties 341 = .ok (.getfield 81, 3) ∧ decode cX11_duties 344 = .ok (.iload_n 1, 1) ∧ decode cX11_duties 345 = .ok (.aload_n 0, 1) ∧ decode cX11_duties 346 = .ok (.getfield 84, 3) ∧ decode cX11_duties 349 = .ok (.iload_n 1, 1) ∧ decode cX11_duties 350 = .ok (.iaload, 1) ∧ decode cX11_duties 351 = .ok (.iastore, 1) ∧ decode cX11_duties 352 = .ok (.iinc 1 1, 3) ∧ decode cX11_duties 355 = .ok (.goto (-21), 3) ∧ decode cX11_duties 358 = .ok (.aload_n 0, 1) ∧ decode cX11_duties 359 = .ok (.getfield 314, 3) ∧ decode cX11_duties 362 = .ok (.ireturn, 1) := by decide +kernel
theorem dX11_duties_341 : decode cX11_duties 341 = .ok (.getfield 81, 3) := dX11_duties_all15.1
theorem dX11_duties_344 : decode cX11_duties 344 = .ok (.iload_n 1, 1) := dX11_duties_all15.2.1
theorem dX11_duties_345 : decode cX11_duties 345 = .ok (.aload_n 0, 1) := dX11_duties_all15.2.2.1
theorem dX11_duties_346 : decode cX11_duties 346 = .ok (.getfield 84, 3) := dX11_duties_all15.2.2.2.1
theorem dX11_duties_349 : decode cX11_duties 349 = .ok (.iload_n 1, 1) := dX11_duties_all15.2.2.2.2.1
theorem dX11_duties_350 : decode cX11_duties 350 = .ok (.iaload, 1) := dX11_duties_all15.2.2.2.2.2.1
theorem dX11_duties_351 : decode cX11_duties 351 = .ok (.iastore, 1) := dX11_duties_all15.2.2.2.2.2.2.1
theorem dX11_duties_352 : decode cX11_duties 352 = .ok (.iinc 1 1, 3) := dX11_duties_all15.2.2.2.2.2.2.2.1
theorem dX11_duties_355 : decode cX11_duties 355 = .ok (.goto (-21), 3) := dX11_duties_all15.2.2.2.2.2.2.2.2.1
theorem dX11_duties_358 : decode cX11_duties 358 = .ok (.aload_n 0, 1) := dX11_duties_all15.2.2.2.2.2.2.2.2.2.1
theorem dX11_duties_359 : decode cX11_duties 359 = .ok (.getfield 314, 3) := dX11_duties_all15.2.2.2.2.2.2.2.2.2.2.1
theorem dX11_duties_362 : decode cX11_duties 362 = .ok (.ireturn, 1) := dX11_duties_all15.2.2.2.2.2.2.2.2.2.2.2

theorem bo_or {P : Prop} [Decidable P] {r : Int32} (h : r = if P then 1 else 0) : (r.toInt = 1 ∧ P) ∨ (r.toInt = 0 ∧ ¬ P) := by
  by_cases c : P
  · rw [if_pos c] at h
    exact Or.inl ⟨by rw [h]; rfl, c⟩
  · rw [if_neg c] at h
    exact Or.inr ⟨by rw [h]; rfl, c⟩
theorem tK_wd {T : Nat → Int32} {L c : Nat} (h : c ≤ L) : ¬ mK T L c = 2 ∨ tK T L c < 5 ∨ tK T L c = 9 := by
  rcases mk_tk (T := T) h with q | q | q | q | q | ⟨-, q, -⟩
  · omega
  · omega
  · omega
  · omega
  · omega
  · have r := wdK_rng T (tS T L c) (tE T L c) 5 (by omega)
    omega
theorem tk_f {T : Nat → Int32} {L c : Nat} (h : c ≤ L) : (mK T L c = 1 ↔ tK T L c = 8) ∧ (mK T L c = 3 ↔ tK T L c = 5) ∧ ((mK T L c = 4 ∧ (T (tS T L c)).toInt = 59) ↔ tK T L c = 6) ∧ ((mK T L c = 4 ∧ (T (tS T L c)).toInt = 62) ↔ tK T L c = 7) ∧ (¬ mK T L c = 3 ∨ tE T L c ≤ tS T L c + 4) ∧ (¬ mK T L c = 2 ∨ tE T L c ≤ tS T L c + 6) ∧ (mK T L c = 1 ∨ tS T L c < tE T L c) := by
  have w := tK_wd (T := T) h
  have m := mk_lt (T := T) h
  rcases mk_tk (T := T) h with q | q | q | q | q | ⟨q, -, q2, q3, -⟩
  · refine ⟨?_, ?_, ?_, ?_, ?_, ?_, m⟩ <;> omega
  · refine ⟨?_, ?_, ?_, ?_, ?_, ?_, m⟩ <;> omega
  · refine ⟨?_, ?_, ?_, ?_, ?_, ?_, m⟩ <;> omega
  · refine ⟨?_, ?_, ?_, ?_, ?_, ?_, m⟩ <;> omega
  · refine ⟨?_, ?_, ?_, ?_, ?_, ?_, m⟩ <;> omega
  · refine ⟨?_, ?_, ?_, ?_, ?_, ?_, m⟩ <;> omega
theorem dpF_le (T : Nat → Int32) (L n : Nat) : dpF T L n ≤ L := by
  have h0 := poL_le T L n
  have e1 := (tE_le (T := T) h0).2.1
  have a1 := acP_le (T := T) e1
  have e4 := (tE_le (T := T) a1).2.1
  have e5 := (tE_le (T := T) e4).2.1
  have e6 := (tE_le (T := T) e5).2.1
  have p1 : paP T L (tE T L (acP T L (tE T L (poL T L n)))) ≤ L := by
    unfold paP
    (repeat' split) <;> omega
  have s1 := (tS_le (T := T) h0).2
  have s2 := (tS_le (T := T) a1).2
  have s3 := (tS_le (T := T) p1).2
  unfold dpF lnX
  (repeat' split) <;> omega

set_option maxHeartbeats 4000000 in
set_option maxRecDepth 100000 in
theorem ct_X11_duties (l : Launch) (D : va_G) (cI cY cJ cQ : ClassId) (sz : Nat) (md : Nat → Nat) (sd : Int32) (mth mst hn cn pn mq gn mln mnn ln mlt msz mcu mtk mfr mti mfa mfb an un lc td mtn : Int32) (mli mnl mtp : Nat → Int32)  (h1 : 0 ≤ ln.toInt) (h2 : ln.toInt ≤ 300) (h3 : 0 ≤ mln.toInt) (h4 : mln.toInt ≤ 12) (h5 : okB ln mtp)  : Met l yX11_duties wsX11_duties ({ frames := 4, cells := 0, slots := 0, locals := 86 }) (cPre D (ty4 cI cY cJ cQ) [(moC md sd mth mst hn cn pn mq gn mln mnn ln mlt msz mcu mtk mfr mti mfa mfb an un lc td mtn), (aI cI (md 31) 36 mli), (aI cI (md 33) 36 mnl), (aI cI (md 34) 300 mtp)] sz [.ref (md 64)]) (va_Qi (fun (r : Int32) (u : Int32 × (Nat → Int32) × Int32 × (Nat → Int32) × Int32 × Int32 × Int32 × Int32 × Int32 × Int32 × Int32 × Int32) => 0 ≤ u.1.toInt ∧ u.1.toInt ≤ 12 ∧ mdP mtp ln.toNatClampNeg r mlt mln u.2.2.2.2.1 u.1 mli u.2.1) (cB D (ty4 cI cY cJ cQ) (fun (u : Int32 × (Nat → Int32) × Int32 × (Nat → Int32) × Int32 × Int32 × Int32 × Int32 × Int32 × Int32 × Int32 × Int32) => [(moC md sd 0 mst hn cn pn mq gn u.1 u.2.2.1 0 u.2.2.2.2.1 u.2.2.2.2.2.1 u.2.2.2.2.2.2.1 u.2.2.2.2.2.2.2.1 u.2.2.2.2.2.2.2.2.1 u.2.2.2.2.2.2.2.2.2.1 u.2.2.2.2.2.2.2.2.2.2.1 u.2.2.2.2.2.2.2.2.2.2.2 an un lc td mtn), (aI cI (md 31) 36 u.2.1), (aI cI (md 33) 36 u.2.2.2.1), (aI cI (md 34) 300 mtp)]) (va_A [(moC md sd mth mst hn cn pn mq gn mln mnn ln mlt msz mcu mtk mfr mti mfa mfb an un lc td mtn), (aI cI (md 31) 36 mli), (aI cI (md 33) 36 mnl), (aI cI (md 34) 300 mtp)] sz)) (va_A [(moC md sd mth mst hn cn pn mq gn mln mnn ln mlt msz mcu mtk mfr mti mfa mfb an un lc td mtn), (aI cI (md 31) 36 mli), (aI cI (md 33) 36 mnl), (aI cI (md 34) 300 mtp)] sz)) 0 0 (va_A [(moC md sd mth mst hn cn pn mq gn mln mnn ln mlt msz mcu mtk mfr mti mfa mfb an un lc td mtn), (aI cI (md 31) 36 mli), (aI cI (md 33) 36 mnl), (aI cI (md 34) 300 mtp)] sz) := by
  refine Met.ofW (cc := cX11_duties) (maxL := 6) (ret := (some .int)) (by decide) rfl ?_
  intro p e s m args below meth c s₁ B hml hv
  obtain ⟨rfl, hsz, hP, hK, hD0, hN⟩ := hv
  have hx := B.exec
  have hb := B.bytes
  have hr := B.returns
  have hts := atoms_spec (ws := wsX11_duties) B.pre
  have hown : s.vm.findClass RX11 = some m.cls := findClass_of_methodNamed B.named
  have hlocks := B.notSynchronized
  subst hsz
  have hD := hD0.self (sz := s.heap.size)
  generalize hAe : va_A [(moC md sd mth mst hn cn pn mq gn mln mnn ln mlt msz mcu mtk mfr mti mfa mfb an un lc td mtn), (aI cI (md 31) 36 mli), (aI cI (md 33) 36 mnl), (aI cI (md 34) 300 mtp)] s.heap.size = A at hD ⊢
  have hA : ∀ q : Nat, s.heap.size ≤ q → A q := fun q h => by rw [← hAe]; exact Or.inr h
  have hS : va_S A s.heap s.heap [] := va_S.rf
  have hP : va_P D vwCl [(moC md sd mth mst hn cn pn mq gn mln mnn ln mlt msz mcu mtk mfr mti mfa mfb an un lc td mtn), (aI cI (md 31) 36 mli), (aI cI (md 33) 36 mnl), (aI cI (md 34) 300 mtp)] s.heap := hP
  have hl := lv_entry ([.ref (md 64)]) (n := 6) (Nat.le_of_ble_eq_true rfl)
  rw [lg_entry_eq]
  generalize (lg_sl ([.ref (md 64)]) ++ List.replicate (6 - (lg_sl ([.ref (md 64)])).length) Slot.unset).toArray = ls at hl ⊢
  have hl : lv_has ls 6 [(0, .ref (md 64))] := hl
  have km1000100 : (-1000100 : Int32).toInt = -1000100 := by decide
  have km1000000 : (-1000000 : Int32).toInt = -1000000 := by decide
  have km1 : (-1 : Int32).toInt = -1 := by decide
  have k0 : (0 : Int32).toInt = 0 := by decide
  have k1 : (1 : Int32).toInt = 1 := by decide
  have k2 : (2 : Int32).toInt = 2 := by decide
  have k3 : (3 : Int32).toInt = 3 := by decide
  have k12 : (12 : Int32).toInt = 12 := by decide
  have k36 : (36 : Int32).toInt = 36 := by decide
  have k59 : (59 : Int32).toInt = 59 := by decide
  have k62 : (62 : Int32).toInt = 62 := by decide
  have k100 : (100 : Int32).toInt = 100 := by decide
  have k9999 : (9999 : Int32).toInt = 9999 := by decide
  have kl7304564 : (7304564 : Int64).toInt = 7304564 := by decide
  have kl1885434484 : (1885434484 : Int64).toInt = 1885434484 := by decide
  have kl1936682084 : (1936682084 : Int64).toInt = 1936682084 := by decide
  have kl495673374574 : (495673374574 : Int64).toInt = 495673374574 := by decide
  have kl120282411197796 : (120282411197796 : Int64).toInt = 120282411197796 := by decide
  refine lv_aload_n hx hb dX11_duties_0 rfl (lv_at hl 0 rfl) ?_
  refine lv_iconst (v := 0) hx hb dX11_duties_1 (by decide) ?_
  refine va_put (D := D) (ci := 11) (v := .int 0) (ty := .int) (C := RX11) (T := TX11) (N := 64) hx hb hts inX11_duties_X11 tyX11 tyX11_ok nmX11 hown hK hP hD hS 0 rfl rfl 0 (by decide) (hts (Cond.fieldLink RX11 1 "PortRoomsModel" "thrown" "I") (wm_t (wm_l (wm_l (wm_i 0 rfl))))) (fun _ h9 => h9) rfl (tyX11_ok 0 (by decide)) rfl rfl (Nat.le_of_ble_eq_true rfl) dX11_duties_2 (fun H locs => ?_)
  clear hP hD hS
  intro hP hD hS
  replace hP : va_P D vwCl [(moC md sd (0) mst hn cn pn mq gn mln mnn ln mlt msz mcu mtk mfr mti mfa mfb an un lc td mtn), (aI cI (md 31) 36 mli), (aI cI (md 33) 36 mnl), (aI cI (md 34) 300 mtp)] H := hP
  replace hD : va_D A [(moC md sd (0) mst hn cn pn mq gn mln mnn ln mlt msz mcu mtk mfr mti mfa mfb an un lc td mtn), (aI cI (md 31) 36 mli), (aI cI (md 33) 36 mnl), (aI cI (md 34) 300 mtp)] := hD
  refine lv_aload_n hx hb dX11_duties_5 rfl (lv_at hl 0 rfl) ?_
  refine lv_aload_n hx hb dX11_duties_6 rfl (lv_at hl 0 rfl) ?_
  refine va_get (D := D) (ci := 11) (v := .int ln) (C := RX11) (T := TX11) (N := 64) hx hb hts inX11_duties_X11 hown hK hP 0 rfl rfl 35 (by decide) (hts (Cond.fieldLink RX11 242 "PortRoomsModel" "taped" "I") (wm_t (wm_l (wm_l (wm_i 1 rfl))))) (fun _ h9 => h9) rfl dX11_duties_7 ?_
  refine va_put (D := D) (ci := 11) (v := .int ln) (ty := .int) (C := RX11) (T := TX11) (N := 64) hx hb hts inX11_duties_X11 tyX11 tyX11_ok nmX11 hown hK hP hD hS 0 rfl rfl 37 (by decide) (hts (Cond.fieldLink RX11 247 "PortRoomsModel" "size" "I") (wm_t (wm_l (wm_l (wm_i 2 rfl))))) (fun _ h9 => h9) rfl (tyX11_ok 37 (by decide)) rfl rfl (Nat.le_of_ble_eq_true rfl) dX11_duties_10 (fun H locs => ?_)
  clear hP hD hS
  intro hP hD hS
  replace hP : va_P D vwCl [(moC md sd (0) mst hn cn pn mq gn mln mnn ln mlt ln mcu mtk mfr mti mfa mfb an un lc td mtn), (aI cI (md 31) 36 mli), (aI cI (md 33) 36 mnl), (aI cI (md 34) 300 mtp)] H := hP
  replace hD : va_D A [(moC md sd (0) mst hn cn pn mq gn mln mnn ln mlt ln mcu mtk mfr mti mfa mfb an un lc td mtn), (aI cI (md 31) 36 mli), (aI cI (md 33) 36 mnl), (aI cI (md 34) 300 mtp)] := hD
  refine lv_aload_n hx hb dX11_duties_13 rfl (lv_at hl 0 rfl) ?_
  refine lv_iconst (v := 0) hx hb dX11_duties_14 (by decide) ?_
  refine va_put (D := D) (ci := 11) (v := .int 0) (ty := .int) (C := RX11) (T := TX11) (N := 64) hx hb hts inX11_duties_X11 tyX11 tyX11_ok nmX11 hown hK hP hD hS 0 rfl rfl 35 (by decide) (hts (Cond.fieldLink RX11 242 "PortRoomsModel" "taped" "I") (wm_t (wm_l (wm_l (wm_i 1 rfl))))) (fun _ h9 => h9) rfl (tyX11_ok 35 (by decide)) rfl rfl (Nat.le_of_ble_eq_true rfl) dX11_duties_15 (fun H locs => ?_)
  clear hP hD hS
  intro hP hD hS
  replace hP : va_P D vwCl [(moC md sd (0) mst hn cn pn mq gn mln mnn (0) mlt ln mcu mtk mfr mti mfa mfb an un lc td mtn), (aI cI (md 31) 36 mli), (aI cI (md 33) 36 mnl), (aI cI (md 34) 300 mtp)] H := hP
  replace hD : va_D A [(moC md sd (0) mst hn cn pn mq gn mln mnn (0) mlt ln mcu mtk mfr mti mfa mfb an un lc td mtn), (aI cI (md 31) 36 mli), (aI cI (md 33) 36 mnl), (aI cI (md 34) 300 mtp)] := hD
  refine lv_aload_n hx hb dX11_duties_18 rfl (lv_at hl 0 rfl) ?_
  refine lv_iconst (v := 0) hx hb dX11_duties_19 (by decide) ?_
  refine va_put (D := D) (ci := 11) (v := .int 0) (ty := .int) (C := RX11) (T := TX11) (N := 64) hx hb hts inX11_duties_X11 tyX11 tyX11_ok nmX11 hown hK hP hD hS 0 rfl rfl 38 (by decide) (hts (Cond.fieldLink RX11 250 "PortRoomsModel" "cursor" "I") (wm_t (wm_l (wm_l (wm_i 3 rfl))))) (fun _ h9 => h9) rfl (tyX11_ok 38 (by decide)) rfl rfl (Nat.le_of_ble_eq_true rfl) dX11_duties_20 (fun H locs => ?_)
  clear hP hD hS
  intro hP hD hS
  replace hP : va_P D vwCl [(moC md sd (0) mst hn cn pn mq gn mln mnn (0) mlt ln (0) mtk mfr mti mfa mfb an un lc td mtn), (aI cI (md 31) 36 mli), (aI cI (md 33) 36 mnl), (aI cI (md 34) 300 mtp)] H := hP
  replace hD : va_D A [(moC md sd (0) mst hn cn pn mq gn mln mnn (0) mlt ln (0) mtk mfr mti mfa mfb an un lc td mtn), (aI cI (md 31) 36 mli), (aI cI (md 33) 36 mnl), (aI cI (md 34) 300 mtp)] := hD
  refine lv_aload_n hx hb dX11_duties_23 rfl (lv_at hl 0 rfl) ?_
  refine lv_iconst (v := 0) hx hb dX11_duties_24 (by decide) ?_
  refine va_put (D := D) (ci := 11) (v := .int 0) (ty := .int) (C := RX11) (T := TX11) (N := 64) hx hb hts inX11_duties_X11 tyX11 tyX11_ok nmX11 hown hK hP hD hS 0 rfl rfl 42 (by decide) (hts (Cond.fieldLink RX11 271 "PortRoomsModel" "fault" "I") (wm_t (wm_l (wm_l (wm_i 4 rfl))))) (fun _ h9 => h9) rfl (tyX11_ok 42 (by decide)) rfl rfl (Nat.le_of_ble_eq_true rfl) dX11_duties_25 (fun H locs => ?_)
  clear hP hD hS
  intro hP hD hS
  replace hP : va_P D vwCl [(moC md sd (0) mst hn cn pn mq gn mln mnn (0) mlt ln (0) mtk mfr mti (0) mfb an un lc td mtn), (aI cI (md 31) 36 mli), (aI cI (md 33) 36 mnl), (aI cI (md 34) 300 mtp)] H := hP
  replace hD : va_D A [(moC md sd (0) mst hn cn pn mq gn mln mnn (0) mlt ln (0) mtk mfr mti (0) mfb an un lc td mtn), (aI cI (md 31) 36 mli), (aI cI (md 33) 36 mnl), (aI cI (md 34) 300 mtp)] := hD
  refine lv_aload_n hx hb dX11_duties_28 rfl (lv_at hl 0 rfl) ?_
  refine lv_iconst (v := 0) hx hb dX11_duties_29 (by decide) ?_
  refine va_put (D := D) (ci := 11) (v := .int 0) (ty := .int) (C := RX11) (T := TX11) (N := 64) hx hb hts inX11_duties_X11 tyX11 tyX11_ok nmX11 hown hK hP hD hS 0 rfl rfl 32 (by decide) (hts (Cond.fieldLink RX11 287 "PortRoomsModel" "newLines" "I") (wm_t (wm_l (wm_l (wm_i 5 rfl))))) (fun _ h9 => h9) rfl (tyX11_ok 32 (by decide)) rfl rfl (Nat.le_of_ble_eq_true rfl) dX11_duties_30 (fun H locs => ?_)
  clear hP hD hS
  intro hP hD hS
  replace hP : va_P D vwCl [(moC md sd (0) mst hn cn pn mq gn mln (0) (0) mlt ln (0) mtk mfr mti (0) mfb an un lc td mtn), (aI cI (md 31) 36 mli), (aI cI (md 33) 36 mnl), (aI cI (md 34) 300 mtp)] H := hP
  replace hD : va_D A [(moC md sd (0) mst hn cn pn mq gn mln (0) (0) mlt ln (0) mtk mfr mti (0) mfb an un lc td mtn), (aI cI (md 31) 36 mli), (aI cI (md 33) 36 mnl), (aI cI (md 34) 300 mtp)] := hD
  refine lv_aload_n hx hb dX11_duties_33 rfl (lv_at hl 0 rfl) ?_
  refine st_v (wr := [(aI cI (md 31) 36 mli), (aI cI (md 33) 36 mnl)]) (va_runV (C := RX11) (As := []) (rest := []) ⟨hx, hb, hml, hown, hts⟩ (ct_X11_step l D cI cY cJ cQ _ md sd 0 mst hn cn pn mq gn mln 0 0 mlt ln 0 mtk mfr mti 0 mfb an un lc td mtn mtp h1 h2 (by omega) (by omega) h5) (cwV 0 hts gX11_duties_X11_step rfl rfl rfl ⟨rfl, cdX11_step⟩ ⟨Nat.le_of_ble_eq_true rfl, Nat.le_of_ble_eq_true rfl⟩) (cPreV (hP.sub [0, 3] rfl) hK (hD.sub [0, 3] (by decide +kernel) rfl) hN (ci := 11) (q0 := 0) rfl rfl) rfl rfl hl.1 rfl (lv_room (Nat.le_of_ble_eq_true rfl)) dX11_duties_34 ⟨Nat.le_of_ble_eq_true rfl, Nat.le_of_ble_eq_true rfl⟩) hP hD hS hA [0, 3] [1, 2] rfl rfl (by decide +kernel) (by decide +kernel) (fun u1 H locs hw2 => ?_)
  clear hP hD hS
  intro hP hD hS
  obtain ⟨mcu_4, mtk_5, mfr_6, mti_7⟩ := u1
  replace hw2 : mfr_6.toInt = (tS mtp ln.toNatClampNeg (0 : Int32).toNatClampNeg : Int) ∧ mcu_4.toInt = (tE mtp ln.toNatClampNeg (0 : Int32).toNatClampNeg : Int) ∧ mti_7.toInt = mcu_4.toInt ∧ mtk_5.toInt = mK mtp ln.toNatClampNeg (0 : Int32).toNatClampNeg ∧ (0 : Int32).toInt ≤ mfr_6.toInt ∧ mfr_6.toInt ≤ mcu_4.toInt ∧ mcu_4.toInt ≤ ln.toInt := hw2
  replace hP : va_P D vwCl [(aI cI (md 31) 36 mli), (aI cI (md 33) 36 mnl), (moC md sd (0) mst hn cn pn mq gn mln (0) (0) mlt ln mcu_4 mtk_5 mfr_6 mti_7 (0) mfb an un lc td mtn), (aI cI (md 34) 300 mtp)] H := hP
  replace hD : va_D A [(aI cI (md 31) 36 mli), (aI cI (md 33) 36 mnl), (moC md sd (0) mst hn cn pn mq gn mln (0) (0) mlt ln mcu_4 mtk_5 mfr_6 mti_7 (0) mfb an un lc td mtn), (aI cI (md 34) 300 mtp)] := hD
  refine st_loop 37 (fun _ => []) (fun (z : (Nat → Int32) × Int32 × Int32 × Int32 × Int32 × Int32 × Int32 × Int32) (ls : Array Slot) (H : Heap) (locs : List Loc) => match z with | (mnlq, hcu, htk, hfr, hti, hfa, hfb, hnn) => (0 ≤ hfr.toInt) ∧ (hfr.toInt ≤ hcu.toInt) ∧ (hcu.toInt ≤ ln.toInt) ∧ (hti.toInt = hcu.toInt) ∧ (0 ≤ hnn.toInt) ∧ (hnn.toInt ≤ 12) ∧ (duOk mtp ln.toNatClampNeg hnn.toNatClampNeg) ∧ (mlQ mtp ln.toNatClampNeg hnn.toNatClampNeg mnlq) ∧ ((hfa.toInt = 0 ∧ hfr.toInt = (tS mtp ln.toNatClampNeg (poL mtp ln.toNatClampNeg hnn.toNatClampNeg) : Int) ∧ hcu.toInt = (tE mtp ln.toNatClampNeg (poL mtp ln.toNatClampNeg hnn.toNatClampNeg) : Int) ∧ htk.toInt = mK mtp ln.toNatClampNeg (poL mtp ln.toNatClampNeg hnn.toNatClampNeg)) ∨ (¬ hfa.toInt = 0 ∧ hfa.toInt = dcF mtp ln.toNatClampNeg hnn.toNatClampNeg ∧ hfb.toInt = (dpF mtp ln.toNatClampNeg hnn.toNatClampNeg : Int) ∧ ¬ tK mtp ln.toNatClampNeg (poL mtp ln.toNatClampNeg hnn.toNatClampNeg) = 8)) ∧ lv_has ls 6 [(0, .ref (md 64))] ∧ va_P D vwCl [(aI cI (md 31) 36 mli), (aI cI (md 33) 36 mnlq), (moC md sd (0) mst hn cn pn mq gn mln hnn (0) mlt ln hcu htk hfr hti hfa hfb an un lc td mtn), (aI cI (md 34) 300 mtp)] H ∧ va_D A [(aI cI (md 31) 36 mli), (aI cI (md 33) 36 mnlq), (moC md sd (0) mst hn cn pn mq gn mln hnn (0) mlt ln hcu htk hfr hti hfa hfb an un lc td mtn), (aI cI (md 34) 300 mtp)] ∧ va_S A s.heap H locs) (fun (z : (Nat → Int32) × Int32 × Int32 × Int32 × Int32 × Int32 × Int32 × Int32) => match z with | (mnlq, hcu, htk, hfr, hti, hfa, hfb, hnn) => 13 - hnn.toInt) ?_ ?_ (mnl, mcu_4, mtk_5, mfr_6, mti_7, (0 : Int32), mfb, (0 : Int32)) ⟨(by omega), (by omega), (by omega), (by omega), (by omega), (by omega), (by exact duOk_0), (by exact mlQ_0), (by exact Or.inl (md_0 hw2.1 hw2.2.1 hw2.2.2.2.1)), lv_sub hl [0] rfl, hP, hD, hS⟩
  · rintro ⟨mnlq, hcu, htk, hfr, hti, hfa, hfb, hnn⟩ ls H locs ⟨g8, g9, g10, g11, g12, g13, g14, g15, g16, hl, hP, hD, hS⟩
    show (0 : Int) ≤ 13 - hnn.toInt
    omega
  · rintro n19 ih17 ⟨mnlq, hcu, htk, hfr, hti, hfa, hfb, hnn⟩ ls H locs ⟨g8, g9, g10, g11, g12, g13, g14, g15, g16, hl, hP, hD, hS⟩ hm18
    have hm18 : 13 - hnn.toInt < (n19 : Int) + 1 := hm18
    replace hl : lv_has ls 6 [(0, .ref (md 64))] := hl
    replace hP : va_P D vwCl [(aI cI (md 31) 36 mli), (aI cI (md 33) 36 mnlq), (moC md sd (0) mst hn cn pn mq gn mln hnn (0) mlt ln hcu htk hfr hti hfa hfb an un lc td mtn), (aI cI (md 34) 300 mtp)] H := hP
    replace hD : va_D A [(aI cI (md 31) 36 mli), (aI cI (md 33) 36 mnlq), (moC md sd (0) mst hn cn pn mq gn mln hnn (0) mlt ln hcu htk hfr hti hfa hfb an un lc td mtn), (aI cI (md 34) 300 mtp)] := hD
    show W _ _ _ _ _ _ _ _ _ _ _ _ _ _ _ (F0 m 37 ls [])
    refine lv_aload_n hx hb dX11_duties_37 rfl (lv_at hl 0 rfl) ?_
    refine va_get (D := D) (ci := 11) (v := .int hfa) (C := RX11) (T := TX11) (N := 64) hx hb hts inX11_duties_X11 hown hK hP 2 rfl rfl 42 (by decide) (hts (Cond.fieldLink RX11 271 "PortRoomsModel" "fault" "I") (wm_t (wm_l (wm_l (wm_i 4 rfl))))) (fun _ h9 => h9) rfl dX11_duties_38 ?_
    refine lv_if_ne (tgt := 300) hx hb dX11_duties_41 (by decide) (fun c20 => ?_) (fun c20 => ?_)
    · skip
      have f21 := i_ne c20
      refine lv_aload_n hx hb dX11_duties_300 rfl (lv_at hl 0 rfl) ?_
      refine va_get (D := D) (ci := 11) (v := .int hfa) (C := RX11) (T := TX11) (N := 64) hx hb hts inX11_duties_X11 hown hK hP 2 rfl rfl 42 (by decide) (hts (Cond.fieldLink RX11 271 "PortRoomsModel" "fault" "I") (wm_t (wm_l (wm_l (wm_i 4 rfl))))) (fun _ h9 => h9) rfl dX11_duties_301 ?_
      refine lv_if_le (tgt := 324) hx hb dX11_duties_304 (by decide) (fun c22 => ?_) (fun c22 => ?_)
      · skip
        have f23 := i_le c22
        refine lv_aload_n hx hb dX11_duties_324 rfl (lv_at hl 0 rfl) ?_
        refine lv_aload_n hx hb dX11_duties_325 rfl (lv_at hl 0 rfl) ?_
        refine va_get (D := D) (ci := 11) (v := .int hnn) (C := RX11) (T := TX11) (N := 64) hx hb hts inX11_duties_X11 hown hK hP 2 rfl rfl 32 (by decide) (hts (Cond.fieldLink RX11 287 "PortRoomsModel" "newLines" "I") (wm_t (wm_l (wm_l (wm_i 5 rfl))))) (fun _ h9 => h9) rfl dX11_duties_326 ?_
        refine va_put (D := D) (ci := 11) (v := .int hnn) (ty := .int) (C := RX11) (T := TX11) (N := 64) hx hb hts inX11_duties_X11 tyX11 tyX11_ok nmX11 hown hK hP hD hS 2 rfl rfl 30 (by decide) (hts (Cond.fieldLink RX11 314 "PortRoomsModel" "lines" "I") (wm_t (wm_l (wm_l (wm_i 17 rfl))))) (fun _ h9 => h9) rfl (tyX11_ok 30 (by decide)) rfl rfl (Nat.le_of_ble_eq_true rfl) dX11_duties_329 (fun H locs => ?_)
        clear hP hD hS
        intro hP hD hS
        replace hP : va_P D vwCl [(aI cI (md 31) 36 mli), (aI cI (md 33) 36 mnlq), (moC md sd (0) mst hn cn pn mq gn hnn hnn (0) mlt ln hcu htk hfr hti hfa hfb an un lc td mtn), (aI cI (md 34) 300 mtp)] H := hP
        replace hD : va_D A [(aI cI (md 31) 36 mli), (aI cI (md 33) 36 mnlq), (moC md sd (0) mst hn cn pn mq gn hnn hnn (0) mlt ln hcu htk hfr hti hfa hfb an un lc td mtn), (aI cI (md 34) 300 mtp)] := hD
        refine lv_iconst (v := 0) hx hb dX11_duties_332 (by decide) ?_
        refine lv_istore_n (lv' := [(1, .int 0), (0, .ref (md 64))]) hx hb dX11_duties_333 rfl hl (by decide) rfl (fun ls hl => ?_)
        refine st_loop 334 (fun _ => []) (fun (z : Int32 × (Nat → Int32)) (ls : Array Slot) (H : Heap) (locs : List Loc) => match z with | (q334_1, mliq) => (0 ≤ q334_1.toInt) ∧ (q334_1.toInt ≤ 36) ∧ (∀ j : Nat, (j : Int) < q334_1.toInt → mliq j = mnlq j) ∧ lv_has ls 6 [(0, .ref (md 64)), (1, .int q334_1)] ∧ va_P D vwCl [(aI cI (md 31) 36 mliq), (aI cI (md 33) 36 mnlq), (moC md sd (0) mst hn cn pn mq gn hnn hnn (0) mlt ln hcu htk hfr hti hfa hfb an un lc td mtn), (aI cI (md 34) 300 mtp)] H ∧ va_D A [(aI cI (md 31) 36 mliq), (aI cI (md 33) 36 mnlq), (moC md sd (0) mst hn cn pn mq gn hnn hnn (0) mlt ln hcu htk hfr hti hfa hfb an un lc td mtn), (aI cI (md 34) 300 mtp)] ∧ va_S A s.heap H locs) (fun (z : Int32 × (Nat → Int32)) => match z with | (q334_1, mliq) => 36 - q334_1.toInt) ?_ ?_ ((0 : Int32), mli) ⟨(by omega), (by omega), (by intro j hj; exfalso; omega), lv_sub hl [1, 0] rfl, hP, hD, hS⟩
        · rintro ⟨q334_1, mliq⟩ ls H locs ⟨g24, g25, g26, hl, hP, hD, hS⟩
          show (0 : Int) ≤ 36 - q334_1.toInt
          omega
        · rintro n29 ih27 ⟨q334_1, mliq⟩ ls H locs ⟨g24, g25, g26, hl, hP, hD, hS⟩ hm28
          have hm28 : 36 - q334_1.toInt < (n29 : Int) + 1 := hm28
          replace hl : lv_has ls 6 [(0, .ref (md 64)), (1, .int q334_1)] := hl
          replace hP : va_P D vwCl [(aI cI (md 31) 36 mliq), (aI cI (md 33) 36 mnlq), (moC md sd (0) mst hn cn pn mq gn hnn hnn (0) mlt ln hcu htk hfr hti hfa hfb an un lc td mtn), (aI cI (md 34) 300 mtp)] H := hP
          replace hD : va_D A [(aI cI (md 31) 36 mliq), (aI cI (md 33) 36 mnlq), (moC md sd (0) mst hn cn pn mq gn hnn hnn (0) mlt ln hcu htk hfr hti hfa hfb an un lc td mtn), (aI cI (md 34) 300 mtp)] := hD
          show W _ _ _ _ _ _ _ _ _ _ _ _ _ _ _ (F0 m 334 ls [])
          refine lv_iload_n hx hb dX11_duties_334 rfl (lv_at hl 1 rfl) ?_
          refine lv_bipush (v := 36) hx hb dX11_duties_335 (by decide) ?_
          refine lv_icmp_ge (tgt := 358) hx hb dX11_duties_337 (by decide) (fun c30 => ?_) (fun c30 => ?_)
          · skip
            have f31 := i_le c30
            refine lv_aload_n hx hb dX11_duties_358 rfl (lv_at hl 0 rfl) ?_
            refine va_get (D := D) (ci := 11) (v := .int hnn) (C := RX11) (T := TX11) (N := 64) hx hb hts inX11_duties_X11 hown hK hP 2 rfl rfl 30 (by decide) (hts (Cond.fieldLink RX11 314 "PortRoomsModel" "lines" "I") (wm_t (wm_l (wm_l (wm_i 17 rfl))))) (fun _ h9 => h9) rfl dX11_duties_359 ?_
            have clc32 := i_cl (x := hnn) (by omega)
            have hdr9 := dcF_rng (T := mtp) (L := ln.toNatClampNeg) (n := hnn.toNatClampNeg)
            have hgd9 : hfa.toInt = 0 ∧ hfr.toInt = (tS mtp ln.toNatClampNeg (poL mtp ln.toNatClampNeg hnn.toNatClampNeg) : Int) ∧ hcu.toInt = (tE mtp ln.toNatClampNeg (poL mtp ln.toNatClampNeg hnn.toNatClampNeg) : Int) ∧ htk.toInt = mK mtp ln.toNatClampNeg (poL mtp ln.toNatClampNeg hnn.toNatClampNeg) := by rcases g16 with h9 | h9 <;> first | exact h9 | (exfalso; omega)
            have hpl9 := poL_le mtp ln.toNatClampNeg hnn.toNatClampNeg
            have hmk9 := (tk_f (T := mtp) (L := ln.toNatClampNeg) hpl9).1
            have hP9 := hP.sub (ws' := [(moC md sd (0) mst hn cn pn mq gn hnn hnn (0) mlt ln hcu htk hfr hti hfa hfb an un lc td mtn), (aI cI (md 31) 36 mliq), (aI cI (md 33) 36 mnlq), (aI cI (md 34) 300 mtp)]) [2, 0, 1, 3] rfl
            have hD9 := hD.sub (ws' := [(moC md sd (0) mst hn cn pn mq gn hnn hnn (0) mlt ln hcu htk hfr hti hfa hfb an un lc td mtn), (aI cI (md 31) 36 mliq), (aI cI (md 33) 36 mnlq), (aI cI (md 34) 300 mtp)]) [2, 0, 1, 3] (by decide +kernel) rfl
            exact W.iret (v := hnn) hx hb hr (fun t ht hW => ⟨⟨hnn, (hnn, mliq, hnn, mnlq, mlt, ln, hcu, htk, hfr, hti, hfa, hfb), rfl, (by show 0 ≤ hnn.toInt ∧ hnn.toInt ≤ 12 ∧ mdP mtp ln.toNatClampNeg hnn mlt mln mlt hnn mli mliq; exact ⟨by omega, by omega, ⟨hnn.toNatClampNeg, by omega, g14, Or.inl ⟨by omega, by omega, rfl, by omega, fun j hj => (by have e9 := g15 j hj; rw [g26 (3 * j) (by omega), g26 (3 * j + 1) (by omega), g26 (3 * j + 2) (by omega)]; exact e9)⟩⟩⟩), by rw [ht]; exact hP9, va_K.moved hW.alike hK, hD9⟩, hS.F ht⟩) hS.2.2 dX11_duties_362
          · skip
            have f33 := i_nle c30
            refine lv_aload_n hx hb dX11_duties_340 rfl (lv_at hl 0 rfl) ?_
            refine va_get (D := D) (ci := 11) (v := .ref (md 31)) (C := RX11) (T := TX11) (N := 64) hx hb hts inX11_duties_X11 hown hK hP 2 rfl rfl 31 (by decide) (hts (Cond.fieldLink RX11 81 "PortRoomsModel" "line" "[I") (wm_t (wm_l (wm_l (wm_i 18 rfl))))) (fun _ h9 => h9) rfl dX11_duties_341 ?_
            refine lv_iload_n hx hb dX11_duties_344 rfl (lv_at hl 1 rfl) ?_
            refine lv_aload_n hx hb dX11_duties_345 rfl (lv_at hl 0 rfl) ?_
            refine va_get (D := D) (ci := 11) (v := .ref (md 33)) (C := RX11) (T := TX11) (N := 64) hx hb hts inX11_duties_X11 hown hK hP 2 rfl rfl 33 (by decide) (hts (Cond.fieldLink RX11 84 "PortRoomsModel" "newLine" "[I") (wm_t (wm_l (wm_l (wm_i 13 rfl))))) (fun _ h9 => h9) rfl dX11_duties_346 ?_
            refine lv_iload_n hx hb dX11_duties_349 rfl (lv_at hl 1 rfl) ?_
            refine va_iald hx hb hK hP 1 0 rfl rfl (i_in (by omega) (by omega)) dX11_duties_350 ?_
            refine lv_topi (fun v34 ev34 => ?_)
            refine va_iast hx hb hK hP hD hS 0 0 rfl rfl (i_in (by omega) (by omega)) dX11_duties_351 (fun H locs => ?_)
            clear hP hD hS
            intro hP hD hS
            replace hP : va_P D vwCl [(aI cI (md 31) 36 (upd mliq q334_1.toNatClampNeg v34)), (aI cI (md 33) 36 mnlq), (moC md sd (0) mst hn cn pn mq gn hnn hnn (0) mlt ln hcu htk hfr hti hfa hfb an un lc td mtn), (aI cI (md 34) 300 mtp)] H := hP
            replace hD : va_D A [(aI cI (md 31) 36 (upd mliq q334_1.toNatClampNeg v34)), (aI cI (md 33) 36 mnlq), (moC md sd (0) mst hn cn pn mq gn hnn hnn (0) mlt ln hcu htk hfr hti hfa hfb an un lc td mtn), (aI cI (md 34) 300 mtp)] := hD
            obtain ⟨v35, ev35⟩ : ∃ y : Int32, y = q334_1 + 1 := ⟨_, rfl⟩
            try have tv35 : v35.toInt = q334_1.toInt + 1 := by rw [ev35]; exact (i_add (x := q334_1) (y := (1 : Int32)) (by rw [k1]; omega) (by rw [k1]; omega)).trans (by rw [k1])
            refine lv_iinc (v := v35) (lv' := [(1, .int v35), (0, .ref (md 64))]) hx hb dX11_duties_352 hl (k := 1) rfl (by rw [ev35]; rfl) (by decide) rfl (fun ls hl => ?_)
            refine lv_goto (tgt := 334) hx hb dX11_duties_355 (by decide) ?_
            exact ih27 (v35, upd mliq q334_1.toNatClampNeg v34) ls H locs ⟨(by omega), (by omega), (by exact fun j hj => if e9 : j = q334_1.toNatClampNeg then (by rw [e9, upd_s]; assumption) else (by rw [upd_n _ _ e9]; exact g26 j (by have := i_cl (x := q334_1) (by omega); omega))), lv_sub hl [1, 0] rfl, hP.sub [0, 1, 2, 3] rfl, hD.sub [0, 1, 2, 3] (by decide +kernel) rfl, hS⟩ (by show 36 - v35.toInt < _; omega)
      · skip
        have f36 := i_nle c22
        refine lv_aload_n hx hb dX11_duties_307 rfl (lv_at hl 0 rfl) ?_
        refine lv_aload_n hx hb dX11_duties_308 rfl (lv_at hl 0 rfl) ?_
        refine va_get (D := D) (ci := 11) (v := .int hfa) (C := RX11) (T := TX11) (N := 64) hx hb hts inX11_duties_X11 hown hK hP 2 rfl rfl 42 (by decide) (hts (Cond.fieldLink RX11 271 "PortRoomsModel" "fault" "I") (wm_t (wm_l (wm_l (wm_i 4 rfl))))) (fun _ h9 => h9) rfl dX11_duties_309 ?_
        refine va_put (D := D) (ci := 11) (v := .int hfa) (ty := .int) (C := RX11) (T := TX11) (N := 64) hx hb hts inX11_duties_X11 tyX11 tyX11_ok nmX11 hown hK hP hD hS 2 rfl rfl 36 (by decide) (hts (Cond.fieldLink RX11 310 "PortRoomsModel" "latest" "I") (wm_t (wm_l (wm_l (wm_i 14 rfl))))) (fun _ h9 => h9) rfl (tyX11_ok 36 (by decide)) rfl rfl (Nat.le_of_ble_eq_true rfl) dX11_duties_312 (fun H locs => ?_)
        clear hP hD hS
        intro hP hD hS
        replace hP : va_P D vwCl [(aI cI (md 31) 36 mli), (aI cI (md 33) 36 mnlq), (moC md sd (0) mst hn cn pn mq gn mln hnn (0) hfa ln hcu htk hfr hti hfa hfb an un lc td mtn), (aI cI (md 34) 300 mtp)] H := hP
        replace hD : va_D A [(aI cI (md 31) 36 mli), (aI cI (md 33) 36 mnlq), (moC md sd (0) mst hn cn pn mq gn mln hnn (0) hfa ln hcu htk hfr hti hfa hfb an un lc td mtn), (aI cI (md 34) 300 mtp)] := hD
        have hdq9 := dpF_le mtp ln.toNatClampNeg hnn.toNatClampNeg
        have clc37 := i_cl (x := ln) (by omega)
        refine lv_ldcw hx hb hown (hts (Cond.constant RX11 313 (-1000100)) (wm_t (wm_l (wm_l (wm_i 15 rfl))))) dX11_duties_315 ?_
        refine lv_aload_n hx hb dX11_duties_318 rfl (lv_at hl 0 rfl) ?_
        refine va_get (D := D) (ci := 11) (v := .int hfb) (C := RX11) (T := TX11) (N := 64) hx hb hts inX11_duties_X11 hown hK hP 2 rfl rfl 43 (by decide) (hts (Cond.fieldLink RX11 274 "PortRoomsModel" "faultAt" "I") (wm_t (wm_l (wm_l (wm_i 16 rfl))))) (fun _ h9 => h9) rfl dX11_duties_319 ?_
        refine lv_isub hx hb dX11_duties_322 ?_
        refine lv_topi (fun v38 ev38 => ?_)
        try have tv38 : v38.toInt = (-1000100) - hfb.toInt := by rw [ev38]; exact (i_sub (x := ((-1000100) : Int32)) (y := hfb) (by rw [km1000100]; omega) (by rw [km1000100]; omega)).trans (by rw [km1000100])
        have clc39 := i_cl (x := hnn) (by omega)
        have hdr9 := dcF_rng (T := mtp) (L := ln.toNatClampNeg) (n := hnn.toNatClampNeg)
        have hbad9 : ¬ hfa.toInt = 0 ∧ hfa.toInt = dcF mtp ln.toNatClampNeg hnn.toNatClampNeg ∧ hfb.toInt = (dpF mtp ln.toNatClampNeg hnn.toNatClampNeg : Int) ∧ ¬ tK mtp ln.toNatClampNeg (poL mtp ln.toNatClampNeg hnn.toNatClampNeg) = 8 := by first | (rcases g16 with h9 | h9 <;> first | (exfalso; omega) | exact h9) | (rcases 0 with h9 | h9 <;> first | (exfalso; omega) | exact ⟨h9.1, h9.2.1, h9.2.2, by omega⟩)
        have hP9 := hP.sub (ws' := [(moC md sd (0) mst hn cn pn mq gn mln hnn (0) hfa ln hcu htk hfr hti hfa hfb an un lc td mtn), (aI cI (md 31) 36 mli), (aI cI (md 33) 36 mnlq), (aI cI (md 34) 300 mtp)]) [2, 0, 1, 3] rfl
        have hD9 := hD.sub (ws' := [(moC md sd (0) mst hn cn pn mq gn mln hnn (0) hfa ln hcu htk hfr hti hfa hfb an un lc td mtn), (aI cI (md 31) 36 mli), (aI cI (md 33) 36 mnlq), (aI cI (md 34) 300 mtp)]) [2, 0, 1, 3] (by decide +kernel) rfl
        exact W.iret (v := v38) hx hb hr (fun t ht hW => ⟨⟨v38, (mln, mli, hnn, mnlq, hfa, ln, hcu, htk, hfr, hti, hfa, hfb), rfl, (by show 0 ≤ mln.toInt ∧ mln.toInt ≤ 12 ∧ mdP mtp ln.toNatClampNeg v38 mlt mln hfa mln mli mli; exact ⟨by omega, by omega, ⟨hnn.toNatClampNeg, by omega, g14, Or.inr ⟨hbad9.2.2.2, by omega, hbad9.2.1, by omega, rfl, rfl⟩⟩⟩), by rw [ht]; exact hP9, va_K.moved hW.alike hK, hD9⟩, hS.F ht⟩) hS.2.2 dX11_duties_323
    · skip
      have f40 := i_eq c20
      have hT0 : hfa.toInt = 0 ∧ hfr.toInt = (tS mtp ln.toNatClampNeg (poL mtp ln.toNatClampNeg hnn.toNatClampNeg) : Int) ∧ hcu.toInt = (tE mtp ln.toNatClampNeg (poL mtp ln.toNatClampNeg hnn.toNatClampNeg) : Int) ∧ htk.toInt = mK mtp ln.toNatClampNeg (poL mtp ln.toNatClampNeg hnn.toNatClampNeg) := by rcases g16 with h9 | h9 <;> first | exact h9 | (exfalso; omega)
      have hpl9 := poL_le mtp ln.toNatClampNeg hnn.toNatClampNeg
      have hle0 : (poL mtp ln.toNatClampNeg hnn.toNatClampNeg) ≤ ln.toNatClampNeg := by omega
      have hel0 := tE_le (T := mtp) (L := ln.toNatClampNeg) hle0
      have hend0 := (tk_f (T := mtp) (L := ln.toNatClampNeg) hle0).1
      have hlen60 := (tk_f (T := mtp) (L := ln.toNatClampNeg) hle0).2.2.2.2.2.1
      have hkr0 := tK_rng (T := mtp) (L := ln.toNatClampNeg) hle0
      refine lv_aload_n hx hb dX11_duties_44 rfl (lv_at hl 0 rfl) ?_
      refine va_get (D := D) (ci := 11) (v := .int htk) (C := RX11) (T := TX11) (N := 64) hx hb hts inX11_duties_X11 hown hK hP 2 rfl rfl 39 (by decide) (hts (Cond.fieldLink RX11 259 "PortRoomsModel" "token" "I") (wm_t (wm_l (wm_l (wm_i 6 rfl))))) (fun _ h9 => h9) rfl dX11_duties_45 ?_
      refine lv_iconst (v := 1) hx hb dX11_duties_48 (by decide) ?_
      refine lv_icmp_eq (tgt := 300) hx hb dX11_duties_49 (by decide) (fun c41 => ?_) (fun c41 => ?_)
      · skip
        have f42 := i_eq c41
        refine lv_aload_n hx hb dX11_duties_300 rfl (lv_at hl 0 rfl) ?_
        refine va_get (D := D) (ci := 11) (v := .int hfa) (C := RX11) (T := TX11) (N := 64) hx hb hts inX11_duties_X11 hown hK hP 2 rfl rfl 42 (by decide) (hts (Cond.fieldLink RX11 271 "PortRoomsModel" "fault" "I") (wm_t (wm_l (wm_l (wm_i 4 rfl))))) (fun _ h9 => h9) rfl dX11_duties_301 ?_
        refine lv_if_le (tgt := 324) hx hb dX11_duties_304 (by decide) (fun c43 => ?_) (fun c43 => ?_)
        · skip
          have f44 := i_le c43
          refine lv_aload_n hx hb dX11_duties_324 rfl (lv_at hl 0 rfl) ?_
          refine lv_aload_n hx hb dX11_duties_325 rfl (lv_at hl 0 rfl) ?_
          refine va_get (D := D) (ci := 11) (v := .int hnn) (C := RX11) (T := TX11) (N := 64) hx hb hts inX11_duties_X11 hown hK hP 2 rfl rfl 32 (by decide) (hts (Cond.fieldLink RX11 287 "PortRoomsModel" "newLines" "I") (wm_t (wm_l (wm_l (wm_i 5 rfl))))) (fun _ h9 => h9) rfl dX11_duties_326 ?_
          refine va_put (D := D) (ci := 11) (v := .int hnn) (ty := .int) (C := RX11) (T := TX11) (N := 64) hx hb hts inX11_duties_X11 tyX11 tyX11_ok nmX11 hown hK hP hD hS 2 rfl rfl 30 (by decide) (hts (Cond.fieldLink RX11 314 "PortRoomsModel" "lines" "I") (wm_t (wm_l (wm_l (wm_i 17 rfl))))) (fun _ h9 => h9) rfl (tyX11_ok 30 (by decide)) rfl rfl (Nat.le_of_ble_eq_true rfl) dX11_duties_329 (fun H locs => ?_)
          clear hP hD hS
          intro hP hD hS
          replace hP : va_P D vwCl [(aI cI (md 31) 36 mli), (aI cI (md 33) 36 mnlq), (moC md sd (0) mst hn cn pn mq gn hnn hnn (0) mlt ln hcu htk hfr hti hfa hfb an un lc td mtn), (aI cI (md 34) 300 mtp)] H := hP
          replace hD : va_D A [(aI cI (md 31) 36 mli), (aI cI (md 33) 36 mnlq), (moC md sd (0) mst hn cn pn mq gn hnn hnn (0) mlt ln hcu htk hfr hti hfa hfb an un lc td mtn), (aI cI (md 34) 300 mtp)] := hD
          refine lv_iconst (v := 0) hx hb dX11_duties_332 (by decide) ?_
          refine lv_istore_n (lv' := [(1, .int 0), (0, .ref (md 64))]) hx hb dX11_duties_333 rfl hl (by decide) rfl (fun ls hl => ?_)
          refine st_loop 334 (fun _ => []) (fun (z : Int32 × (Nat → Int32)) (ls : Array Slot) (H : Heap) (locs : List Loc) => match z with | (q334_1, mliq) => (0 ≤ q334_1.toInt) ∧ (q334_1.toInt ≤ 36) ∧ (∀ j : Nat, (j : Int) < q334_1.toInt → mliq j = mnlq j) ∧ lv_has ls 6 [(0, .ref (md 64)), (1, .int q334_1)] ∧ va_P D vwCl [(aI cI (md 31) 36 mliq), (aI cI (md 33) 36 mnlq), (moC md sd (0) mst hn cn pn mq gn hnn hnn (0) mlt ln hcu htk hfr hti hfa hfb an un lc td mtn), (aI cI (md 34) 300 mtp)] H ∧ va_D A [(aI cI (md 31) 36 mliq), (aI cI (md 33) 36 mnlq), (moC md sd (0) mst hn cn pn mq gn hnn hnn (0) mlt ln hcu htk hfr hti hfa hfb an un lc td mtn), (aI cI (md 34) 300 mtp)] ∧ va_S A s.heap H locs) (fun (z : Int32 × (Nat → Int32)) => match z with | (q334_1, mliq) => 36 - q334_1.toInt) ?_ ?_ ((0 : Int32), mli) ⟨(by omega), (by omega), (by intro j hj; exfalso; omega), lv_sub hl [1, 0] rfl, hP, hD, hS⟩
          · rintro ⟨q334_1, mliq⟩ ls H locs ⟨g45, g46, g47, hl, hP, hD, hS⟩
            show (0 : Int) ≤ 36 - q334_1.toInt
            omega
          · rintro n50 ih48 ⟨q334_1, mliq⟩ ls H locs ⟨g45, g46, g47, hl, hP, hD, hS⟩ hm49
            have hm49 : 36 - q334_1.toInt < (n50 : Int) + 1 := hm49
            replace hl : lv_has ls 6 [(0, .ref (md 64)), (1, .int q334_1)] := hl
            replace hP : va_P D vwCl [(aI cI (md 31) 36 mliq), (aI cI (md 33) 36 mnlq), (moC md sd (0) mst hn cn pn mq gn hnn hnn (0) mlt ln hcu htk hfr hti hfa hfb an un lc td mtn), (aI cI (md 34) 300 mtp)] H := hP
            replace hD : va_D A [(aI cI (md 31) 36 mliq), (aI cI (md 33) 36 mnlq), (moC md sd (0) mst hn cn pn mq gn hnn hnn (0) mlt ln hcu htk hfr hti hfa hfb an un lc td mtn), (aI cI (md 34) 300 mtp)] := hD
            show W _ _ _ _ _ _ _ _ _ _ _ _ _ _ _ (F0 m 334 ls [])
            refine lv_iload_n hx hb dX11_duties_334 rfl (lv_at hl 1 rfl) ?_
            refine lv_bipush (v := 36) hx hb dX11_duties_335 (by decide) ?_
            refine lv_icmp_ge (tgt := 358) hx hb dX11_duties_337 (by decide) (fun c51 => ?_) (fun c51 => ?_)
            · skip
              have f52 := i_le c51
              refine lv_aload_n hx hb dX11_duties_358 rfl (lv_at hl 0 rfl) ?_
              refine va_get (D := D) (ci := 11) (v := .int hnn) (C := RX11) (T := TX11) (N := 64) hx hb hts inX11_duties_X11 hown hK hP 2 rfl rfl 30 (by decide) (hts (Cond.fieldLink RX11 314 "PortRoomsModel" "lines" "I") (wm_t (wm_l (wm_l (wm_i 17 rfl))))) (fun _ h9 => h9) rfl dX11_duties_359 ?_
              have clc53 := i_cl (x := hnn) (by omega)
              have hdr9 := dcF_rng (T := mtp) (L := ln.toNatClampNeg) (n := hnn.toNatClampNeg)
              have hgd9 : hfa.toInt = 0 ∧ hfr.toInt = (tS mtp ln.toNatClampNeg (poL mtp ln.toNatClampNeg hnn.toNatClampNeg) : Int) ∧ hcu.toInt = (tE mtp ln.toNatClampNeg (poL mtp ln.toNatClampNeg hnn.toNatClampNeg) : Int) ∧ htk.toInt = mK mtp ln.toNatClampNeg (poL mtp ln.toNatClampNeg hnn.toNatClampNeg) := by rcases g16 with h9 | h9 <;> first | exact h9 | (exfalso; omega)
              have hpl9 := poL_le mtp ln.toNatClampNeg hnn.toNatClampNeg
              have hmk9 := (tk_f (T := mtp) (L := ln.toNatClampNeg) hpl9).1
              have hP9 := hP.sub (ws' := [(moC md sd (0) mst hn cn pn mq gn hnn hnn (0) mlt ln hcu htk hfr hti hfa hfb an un lc td mtn), (aI cI (md 31) 36 mliq), (aI cI (md 33) 36 mnlq), (aI cI (md 34) 300 mtp)]) [2, 0, 1, 3] rfl
              have hD9 := hD.sub (ws' := [(moC md sd (0) mst hn cn pn mq gn hnn hnn (0) mlt ln hcu htk hfr hti hfa hfb an un lc td mtn), (aI cI (md 31) 36 mliq), (aI cI (md 33) 36 mnlq), (aI cI (md 34) 300 mtp)]) [2, 0, 1, 3] (by decide +kernel) rfl
              exact W.iret (v := hnn) hx hb hr (fun t ht hW => ⟨⟨hnn, (hnn, mliq, hnn, mnlq, mlt, ln, hcu, htk, hfr, hti, hfa, hfb), rfl, (by show 0 ≤ hnn.toInt ∧ hnn.toInt ≤ 12 ∧ mdP mtp ln.toNatClampNeg hnn mlt mln mlt hnn mli mliq; exact ⟨by omega, by omega, ⟨hnn.toNatClampNeg, by omega, g14, Or.inl ⟨by omega, by omega, rfl, by omega, fun j hj => (by have e9 := g15 j hj; rw [g47 (3 * j) (by omega), g47 (3 * j + 1) (by omega), g47 (3 * j + 2) (by omega)]; exact e9)⟩⟩⟩), by rw [ht]; exact hP9, va_K.moved hW.alike hK, hD9⟩, hS.F ht⟩) hS.2.2 dX11_duties_362
            · skip
              have f54 := i_nle c51
              refine lv_aload_n hx hb dX11_duties_340 rfl (lv_at hl 0 rfl) ?_
              refine va_get (D := D) (ci := 11) (v := .ref (md 31)) (C := RX11) (T := TX11) (N := 64) hx hb hts inX11_duties_X11 hown hK hP 2 rfl rfl 31 (by decide) (hts (Cond.fieldLink RX11 81 "PortRoomsModel" "line" "[I") (wm_t (wm_l (wm_l (wm_i 18 rfl))))) (fun _ h9 => h9) rfl dX11_duties_341 ?_
              refine lv_iload_n hx hb dX11_duties_344 rfl (lv_at hl 1 rfl) ?_
              refine lv_aload_n hx hb dX11_duties_345 rfl (lv_at hl 0 rfl) ?_
              refine va_get (D := D) (ci := 11) (v := .ref (md 33)) (C := RX11) (T := TX11) (N := 64) hx hb hts inX11_duties_X11 hown hK hP 2 rfl rfl 33 (by decide) (hts (Cond.fieldLink RX11 84 "PortRoomsModel" "newLine" "[I") (wm_t (wm_l (wm_l (wm_i 13 rfl))))) (fun _ h9 => h9) rfl dX11_duties_346 ?_
              refine lv_iload_n hx hb dX11_duties_349 rfl (lv_at hl 1 rfl) ?_
              refine va_iald hx hb hK hP 1 0 rfl rfl (i_in (by omega) (by omega)) dX11_duties_350 ?_
              refine lv_topi (fun v55 ev55 => ?_)
              refine va_iast hx hb hK hP hD hS 0 0 rfl rfl (i_in (by omega) (by omega)) dX11_duties_351 (fun H locs => ?_)
              clear hP hD hS
              intro hP hD hS
              replace hP : va_P D vwCl [(aI cI (md 31) 36 (upd mliq q334_1.toNatClampNeg v55)), (aI cI (md 33) 36 mnlq), (moC md sd (0) mst hn cn pn mq gn hnn hnn (0) mlt ln hcu htk hfr hti hfa hfb an un lc td mtn), (aI cI (md 34) 300 mtp)] H := hP
              replace hD : va_D A [(aI cI (md 31) 36 (upd mliq q334_1.toNatClampNeg v55)), (aI cI (md 33) 36 mnlq), (moC md sd (0) mst hn cn pn mq gn hnn hnn (0) mlt ln hcu htk hfr hti hfa hfb an un lc td mtn), (aI cI (md 34) 300 mtp)] := hD
              obtain ⟨v56, ev56⟩ : ∃ y : Int32, y = q334_1 + 1 := ⟨_, rfl⟩
              try have tv56 : v56.toInt = q334_1.toInt + 1 := by rw [ev56]; exact (i_add (x := q334_1) (y := (1 : Int32)) (by rw [k1]; omega) (by rw [k1]; omega)).trans (by rw [k1])
              refine lv_iinc (v := v56) (lv' := [(1, .int v56), (0, .ref (md 64))]) hx hb dX11_duties_352 hl (k := 1) rfl (by rw [ev56]; rfl) (by decide) rfl (fun ls hl => ?_)
              refine lv_goto (tgt := 334) hx hb dX11_duties_355 (by decide) ?_
              exact ih48 (v56, upd mliq q334_1.toNatClampNeg v55) ls H locs ⟨(by omega), (by omega), (by exact fun j hj => if e9 : j = q334_1.toNatClampNeg then (by rw [e9, upd_s]; assumption) else (by rw [upd_n _ _ e9]; exact g47 j (by have := i_cl (x := q334_1) (by omega); omega))), lv_sub hl [1, 0] rfl, hP.sub [0, 1, 2, 3] rfl, hD.sub [0, 1, 2, 3] (by decide +kernel) rfl, hS⟩ (by show 36 - v56.toInt < _; omega)
        · skip
          have f57 := i_nle c43
          refine lv_aload_n hx hb dX11_duties_307 rfl (lv_at hl 0 rfl) ?_
          refine lv_aload_n hx hb dX11_duties_308 rfl (lv_at hl 0 rfl) ?_
          refine va_get (D := D) (ci := 11) (v := .int hfa) (C := RX11) (T := TX11) (N := 64) hx hb hts inX11_duties_X11 hown hK hP 2 rfl rfl 42 (by decide) (hts (Cond.fieldLink RX11 271 "PortRoomsModel" "fault" "I") (wm_t (wm_l (wm_l (wm_i 4 rfl))))) (fun _ h9 => h9) rfl dX11_duties_309 ?_
          refine va_put (D := D) (ci := 11) (v := .int hfa) (ty := .int) (C := RX11) (T := TX11) (N := 64) hx hb hts inX11_duties_X11 tyX11 tyX11_ok nmX11 hown hK hP hD hS 2 rfl rfl 36 (by decide) (hts (Cond.fieldLink RX11 310 "PortRoomsModel" "latest" "I") (wm_t (wm_l (wm_l (wm_i 14 rfl))))) (fun _ h9 => h9) rfl (tyX11_ok 36 (by decide)) rfl rfl (Nat.le_of_ble_eq_true rfl) dX11_duties_312 (fun H locs => ?_)
          clear hP hD hS
          intro hP hD hS
          replace hP : va_P D vwCl [(aI cI (md 31) 36 mli), (aI cI (md 33) 36 mnlq), (moC md sd (0) mst hn cn pn mq gn mln hnn (0) hfa ln hcu htk hfr hti hfa hfb an un lc td mtn), (aI cI (md 34) 300 mtp)] H := hP
          replace hD : va_D A [(aI cI (md 31) 36 mli), (aI cI (md 33) 36 mnlq), (moC md sd (0) mst hn cn pn mq gn mln hnn (0) hfa ln hcu htk hfr hti hfa hfb an un lc td mtn), (aI cI (md 34) 300 mtp)] := hD
          have hdq9 := dpF_le mtp ln.toNatClampNeg hnn.toNatClampNeg
          have clc58 := i_cl (x := ln) (by omega)
          refine lv_ldcw hx hb hown (hts (Cond.constant RX11 313 (-1000100)) (wm_t (wm_l (wm_l (wm_i 15 rfl))))) dX11_duties_315 ?_
          refine lv_aload_n hx hb dX11_duties_318 rfl (lv_at hl 0 rfl) ?_
          refine va_get (D := D) (ci := 11) (v := .int hfb) (C := RX11) (T := TX11) (N := 64) hx hb hts inX11_duties_X11 hown hK hP 2 rfl rfl 43 (by decide) (hts (Cond.fieldLink RX11 274 "PortRoomsModel" "faultAt" "I") (wm_t (wm_l (wm_l (wm_i 16 rfl))))) (fun _ h9 => h9) rfl dX11_duties_319 ?_
          refine lv_isub hx hb dX11_duties_322 ?_
          refine lv_topi (fun v59 ev59 => ?_)
          try have tv59 : v59.toInt = (-1000100) - hfb.toInt := by rw [ev59]; exact (i_sub (x := ((-1000100) : Int32)) (y := hfb) (by rw [km1000100]; omega) (by rw [km1000100]; omega)).trans (by rw [km1000100])
          have clc60 := i_cl (x := hnn) (by omega)
          have hdr9 := dcF_rng (T := mtp) (L := ln.toNatClampNeg) (n := hnn.toNatClampNeg)
          have hbad9 : ¬ hfa.toInt = 0 ∧ hfa.toInt = dcF mtp ln.toNatClampNeg hnn.toNatClampNeg ∧ hfb.toInt = (dpF mtp ln.toNatClampNeg hnn.toNatClampNeg : Int) ∧ ¬ tK mtp ln.toNatClampNeg (poL mtp ln.toNatClampNeg hnn.toNatClampNeg) = 8 := by first | (rcases g16 with h9 | h9 <;> first | (exfalso; omega) | exact h9) | (rcases 0 with h9 | h9 <;> first | (exfalso; omega) | exact ⟨h9.1, h9.2.1, h9.2.2, by omega⟩)
          have hP9 := hP.sub (ws' := [(moC md sd (0) mst hn cn pn mq gn mln hnn (0) hfa ln hcu htk hfr hti hfa hfb an un lc td mtn), (aI cI (md 31) 36 mli), (aI cI (md 33) 36 mnlq), (aI cI (md 34) 300 mtp)]) [2, 0, 1, 3] rfl
          have hD9 := hD.sub (ws' := [(moC md sd (0) mst hn cn pn mq gn mln hnn (0) hfa ln hcu htk hfr hti hfa hfb an un lc td mtn), (aI cI (md 31) 36 mli), (aI cI (md 33) 36 mnlq), (aI cI (md 34) 300 mtp)]) [2, 0, 1, 3] (by decide +kernel) rfl
          exact W.iret (v := v59) hx hb hr (fun t ht hW => ⟨⟨v59, (mln, mli, hnn, mnlq, hfa, ln, hcu, htk, hfr, hti, hfa, hfb), rfl, (by show 0 ≤ mln.toInt ∧ mln.toInt ≤ 12 ∧ mdP mtp ln.toNatClampNeg v59 mlt mln hfa mln mli mli; exact ⟨by omega, by omega, ⟨hnn.toNatClampNeg, by omega, g14, Or.inr ⟨hbad9.2.2.2, by omega, hbad9.2.1, by omega, rfl, rfl⟩⟩⟩), by rw [ht]; exact hP9, va_K.moved hW.alike hK, hD9⟩, hS.F ht⟩) hS.2.2 dX11_duties_323
      · skip
        have f61 := i_ne c41
        refine lv_aload_n hx hb dX11_duties_52 rfl (lv_at hl 0 rfl) ?_
        refine st_l1 (va_runV (C := RX11) (As := []) (rest := []) ⟨hx, hb, hml, hown, hts⟩ (ct_X11_word l D cI cY cJ cQ _ md sd 0 mst hn cn pn mq gn mln hnn 0 mlt ln hcu htk hfr hti hfa hfb an un lc td mtn mtp (by omega) (by omega) (by omega) (by omega) h5 (by omega)) (cwV 0 hts gX11_duties_X11_word rfl rfl rfl ⟨rfl, cdX11_word⟩ ⟨Nat.le_of_ble_eq_true rfl, Nat.le_of_ble_eq_true rfl⟩) (cPreV (hP.sub [2, 3] rfl) hK (hD.sub [2, 3] (by decide +kernel) rfl) hN (ci := 11) (q0 := 0) rfl rfl) rfl rfl hl.1 rfl (lv_room (Nat.le_of_ble_eq_true rfl)) dX11_duties_53 ⟨Nat.le_of_ble_eq_true rfl, Nat.le_of_ble_eq_true rfl⟩) hP hD hS hA [2, 3] rfl (fun _ => rfl) (fun r64 u62 H locs hw63 => ?_)
        clear hP hS
        intro hP hS
        replace hw63 : r64.toInt = (if htk.toInt = 2 then wvV mtp hfr.toNatClampNeg (hti.toNatClampNeg - hfr.toNatClampNeg) else 0) := hw63
        have clc65 := i_cl (x := hfr) (by omega)
        have clc66 := i_cl (x := hti) (by omega)
        have hwc0 := wd_tk (z := r64.toInt) hle0 (by rw [hw63, show htk.toInt = mK mtp ln.toNatClampNeg (poL mtp ln.toNatClampNeg hnn.toNatClampNeg) by omega, show hfr.toNatClampNeg = tS mtp ln.toNatClampNeg (poL mtp ln.toNatClampNeg hnn.toNatClampNeg) by omega, show hti.toNatClampNeg = tE mtp ln.toNatClampNeg (poL mtp ln.toNatClampNeg hnn.toNatClampNeg) by omega])
        clear hw63
        have hne9 : ¬ tK mtp ln.toNatClampNeg (poL mtp ln.toNatClampNeg hnn.toNatClampNeg) = 8 := by omega
        refine lv_lstore_n (lv' := [(1, .long r64), (0, .ref (md 64))]) hx hb dX11_duties_56 rfl hl (by decide) rfl (fun ls hl => ?_)
        refine st_join 107 (fun (sk67 : Int32) => [.int sk67]) (fun (sk67 : Int32) (ls : Array Slot) (H : Heap) (locs : List Loc) => ((sk67.toInt = tK mtp ln.toNatClampNeg (poL mtp ln.toNatClampNeg hnn.toNatClampNeg) ∧ tK mtp ln.toNatClampNeg (poL mtp ln.toNatClampNeg hnn.toNatClampNeg) < 4) ∨ (sk67.toInt = -1000000 ∧ 4 ≤ tK mtp ln.toNatClampNeg (poL mtp ln.toNatClampNeg hnn.toNatClampNeg))) ∧ lv_has ls 6 [(0, .ref (md 64))] ∧ va_P D vwCl [(aI cI (md 31) 36 mli), (aI cI (md 33) 36 mnlq), (moC md sd (0) mst hn cn pn mq gn mln hnn (0) mlt ln hcu htk hfr hti hfa hfb an un lc td mtn), (aI cI (md 34) 300 mtp)] H ∧ va_D A [(aI cI (md 31) 36 mli), (aI cI (md 33) 36 mnlq), (moC md sd (0) mst hn cn pn mq gn mln hnn (0) mlt ln hcu htk hfr hti hfa hfb an un lc td mtn), (aI cI (md 34) 300 mtp)] ∧ va_S A s.heap H locs) ?_ ?_
        · rintro sk67 ls H locs ⟨g68, hl, hP, hD, hS⟩
          replace hl : lv_has ls 6 [(0, .ref (md 64))] := hl
          replace hP : va_P D vwCl [(aI cI (md 31) 36 mli), (aI cI (md 33) 36 mnlq), (moC md sd (0) mst hn cn pn mq gn mln hnn (0) mlt ln hcu htk hfr hti hfa hfb an un lc td mtn), (aI cI (md 34) 300 mtp)] H := hP
          replace hD : va_D A [(aI cI (md 31) 36 mli), (aI cI (md 33) 36 mnlq), (moC md sd (0) mst hn cn pn mq gn mln hnn (0) mlt ln hcu htk hfr hti hfa hfb an un lc td mtn), (aI cI (md 34) 300 mtp)] := hD
          show W _ _ _ _ _ _ _ _ _ _ _ _ _ _ _ (F0 m 107 ls [.int sk67])
          clear hwc0 hend0 hlen60
          refine lv_istore_n (lv' := [(3, .int sk67), (0, .ref (md 64))]) hx hb dX11_duties_107 rfl hl (by decide) rfl (fun ls hl => ?_)
          refine st_join 128 (fun (z : Int32 × Int32) => match z with | (jfa, jfb) => []) (fun (z : Int32 × Int32) (ls : Array Slot) (H : Heap) (locs : List Loc) => match z with | (jfa, jfb) => ((jfa.toInt = 0 ∧ (sk67.toInt = -1000000 ∨ ¬ hnn.toInt = 12)) ∨ (jfa.toInt = 3 ∧ ¬ sk67.toInt = -1000000 ∧ hnn.toInt = 12 ∧ jfb.toInt = hfr.toInt)) ∧ lv_has ls 6 [(0, .ref (md 64)), (3, .int sk67)] ∧ va_P D vwCl [(aI cI (md 31) 36 mli), (aI cI (md 33) 36 mnlq), (moC md sd (0) mst hn cn pn mq gn mln hnn (0) mlt ln hcu htk hfr hti jfa jfb an un lc td mtn), (aI cI (md 34) 300 mtp)] H ∧ va_D A [(aI cI (md 31) 36 mli), (aI cI (md 33) 36 mnlq), (moC md sd (0) mst hn cn pn mq gn mln hnn (0) mlt ln hcu htk hfr hti jfa jfb an un lc td mtn), (aI cI (md 34) 300 mtp)] ∧ va_S A s.heap H locs) ?_ ?_
          · rintro ⟨jfa, jfb⟩ ls H locs ⟨g70, hl, hP, hD, hS⟩
            replace hl : lv_has ls 6 [(0, .ref (md 64)), (3, .int sk67)] := hl
            replace hP : va_P D vwCl [(aI cI (md 31) 36 mli), (aI cI (md 33) 36 mnlq), (moC md sd (0) mst hn cn pn mq gn mln hnn (0) mlt ln hcu htk hfr hti jfa jfb an un lc td mtn), (aI cI (md 34) 300 mtp)] H := hP
            replace hD : va_D A [(aI cI (md 31) 36 mli), (aI cI (md 33) 36 mnlq), (moC md sd (0) mst hn cn pn mq gn mln hnn (0) mlt ln hcu htk hfr hti jfa jfb an un lc td mtn), (aI cI (md 34) 300 mtp)] := hD
            show W _ _ _ _ _ _ _ _ _ _ _ _ _ _ _ (F0 m 128 ls [])
            refine st_join 143 (fun (z : Int32 × Int32 × Int32 × Int32 × Int32 × Int32) => match z with | (kcu, ktk, kfr, kti, kfa, kfb) => []) (fun (z : Int32 × Int32 × Int32 × Int32 × Int32 × Int32) (ls : Array Slot) (H : Heap) (locs : List Loc) => match z with | (kcu, ktk, kfr, kti, kfa, kfb) => (0 ≤ kfr.toInt) ∧ (kfr.toInt ≤ kcu.toInt) ∧ (kcu.toInt ≤ ln.toInt) ∧ (kti.toInt = kcu.toInt) ∧ ((kfa.toInt = 0 ∧ kfr.toInt = (tS mtp ln.toNatClampNeg (tE mtp ln.toNatClampNeg (poL mtp ln.toNatClampNeg hnn.toNatClampNeg)) : Int) ∧ kcu.toInt = (tE mtp ln.toNatClampNeg (tE mtp ln.toNatClampNeg (poL mtp ln.toNatClampNeg hnn.toNatClampNeg)) : Int) ∧ ktk.toInt = mK mtp ln.toNatClampNeg (tE mtp ln.toNatClampNeg (poL mtp ln.toNatClampNeg hnn.toNatClampNeg)) ∧ hnn.toInt < 12 ∧ tK mtp ln.toNatClampNeg (poL mtp ln.toNatClampNeg hnn.toNatClampNeg) < 4) ∨ (¬ kfa.toInt = 0 ∧ kfa.toInt = dcF mtp ln.toNatClampNeg hnn.toNatClampNeg ∧ kfb.toInt = (dpF mtp ln.toNatClampNeg hnn.toNatClampNeg : Int))) ∧ lv_has ls 6 [(0, .ref (md 64)), (3, .int sk67)] ∧ va_P D vwCl [(aI cI (md 31) 36 mli), (aI cI (md 33) 36 mnlq), (moC md sd (0) mst hn cn pn mq gn mln hnn (0) mlt ln kcu ktk kfr kti kfa kfb an un lc td mtn), (aI cI (md 34) 300 mtp)] H ∧ va_D A [(aI cI (md 31) 36 mli), (aI cI (md 33) 36 mnlq), (moC md sd (0) mst hn cn pn mq gn mln hnn (0) mlt ln kcu ktk kfr kti kfa kfb an un lc td mtn), (aI cI (md 34) 300 mtp)] ∧ va_S A s.heap H locs) ?_ ?_
            · rintro ⟨kcu, ktk, kfr, kti, kfa, kfb⟩ ls H locs ⟨g72, g73, g74, g75, g76, hl, hP, hD, hS⟩
              replace hl : lv_has ls 6 [(0, .ref (md 64)), (3, .int sk67)] := hl
              replace hP : va_P D vwCl [(aI cI (md 31) 36 mli), (aI cI (md 33) 36 mnlq), (moC md sd (0) mst hn cn pn mq gn mln hnn (0) mlt ln kcu ktk kfr kti kfa kfb an un lc td mtn), (aI cI (md 34) 300 mtp)] H := hP
              replace hD : va_D A [(aI cI (md 31) 36 mli), (aI cI (md 33) 36 mnlq), (moC md sd (0) mst hn cn pn mq gn mln hnn (0) mlt ln kcu ktk kfr kti kfa kfb an un lc td mtn), (aI cI (md 34) 300 mtp)] := hD
              show W _ _ _ _ _ _ _ _ _ _ _ _ _ _ _ (F0 m 143 ls [])
              clear hT0 hle0 hkr0 g70
              refine lv_iconst (v := (-1)) hx hb dX11_duties_143 (by decide) ?_
              refine lv_istore (lv' := [(4, .int (-1)), (0, .ref (md 64)), (3, .int sk67)]) hx hb dX11_duties_144 hl (by decide) rfl (fun ls hl => ?_)
              refine st_join 175 (fun (z : Int32 × Int32 × Int32 × Int32 × Int32 × Int32 × Int32) => match z with | (jdays, lcu, ltk, lfr, lti, lfa, lfb) => []) (fun (z : Int32 × Int32 × Int32 × Int32 × Int32 × Int32 × Int32) (ls : Array Slot) (H : Heap) (locs : List Loc) => match z with | (jdays, lcu, ltk, lfr, lti, lfa, lfb) => (0 ≤ lfr.toInt) ∧ (lfr.toInt ≤ lcu.toInt) ∧ (lcu.toInt ≤ ln.toInt) ∧ (lti.toInt = lcu.toInt) ∧ ((lfa.toInt = 0 ∧ lfr.toInt = (tS mtp ln.toNatClampNeg (acP mtp ln.toNatClampNeg (tE mtp ln.toNatClampNeg (poL mtp ln.toNatClampNeg hnn.toNatClampNeg))) : Int) ∧ lcu.toInt = (tE mtp ln.toNatClampNeg (acP mtp ln.toNatClampNeg (tE mtp ln.toNatClampNeg (poL mtp ln.toNatClampNeg hnn.toNatClampNeg))) : Int) ∧ ltk.toInt = mK mtp ln.toNatClampNeg (acP mtp ln.toNatClampNeg (tE mtp ln.toNatClampNeg (poL mtp ln.toNatClampNeg hnn.toNatClampNeg))) ∧ hnn.toInt < 12 ∧ tK mtp ln.toNatClampNeg (poL mtp ln.toNatClampNeg hnn.toNatClampNeg) < 4 ∧ acR mtp ln.toNatClampNeg (tE mtp ln.toNatClampNeg (poL mtp ln.toNatClampNeg hnn.toNatClampNeg)) = 0 ∧ jdays.toInt = acD mtp ln.toNatClampNeg (tE mtp ln.toNatClampNeg (poL mtp ln.toNatClampNeg hnn.toNatClampNeg))) ∨ (¬ lfa.toInt = 0 ∧ lfa.toInt = dcF mtp ln.toNatClampNeg hnn.toNatClampNeg ∧ lfb.toInt = (dpF mtp ln.toNatClampNeg hnn.toNatClampNeg : Int))) ∧ lv_has ls 6 [(0, .ref (md 64)), (3, .int sk67), (4, .int jdays)] ∧ va_P D vwCl [(aI cI (md 31) 36 mli), (aI cI (md 33) 36 mnlq), (moC md sd (0) mst hn cn pn mq gn mln hnn (0) mlt ln lcu ltk lfr lti lfa lfb an un lc td mtn), (aI cI (md 34) 300 mtp)] H ∧ va_D A [(aI cI (md 31) 36 mli), (aI cI (md 33) 36 mnlq), (moC md sd (0) mst hn cn pn mq gn mln hnn (0) mlt ln lcu ltk lfr lti lfa lfb an un lc td mtn), (aI cI (md 34) 300 mtp)] ∧ va_S A s.heap H locs) ?_ ?_
              · rintro ⟨jdays, lcu, ltk, lfr, lti, lfa, lfb⟩ ls H locs ⟨g78, g79, g80, g81, g82, hl, hP, hD, hS⟩
                replace hl : lv_has ls 6 [(0, .ref (md 64)), (3, .int sk67), (4, .int jdays)] := hl
                replace hP : va_P D vwCl [(aI cI (md 31) 36 mli), (aI cI (md 33) 36 mnlq), (moC md sd (0) mst hn cn pn mq gn mln hnn (0) mlt ln lcu ltk lfr lti lfa lfb an un lc td mtn), (aI cI (md 34) 300 mtp)] H := hP
                replace hD : va_D A [(aI cI (md 31) 36 mli), (aI cI (md 33) 36 mnlq), (moC md sd (0) mst hn cn pn mq gn mln hnn (0) mlt ln lcu ltk lfr lti lfa lfb an un lc td mtn), (aI cI (md 34) 300 mtp)] := hD
                show W _ _ _ _ _ _ _ _ _ _ _ _ _ _ _ (F0 m 175 ls [])
                refine st_join 202 (fun (z : Int32 × Int32 × Int32 × Int32 × Int32 × Int32) => match z with | (ocu, otk, ofr, oti, ofa, ofb) => []) (fun (z : Int32 × Int32 × Int32 × Int32 × Int32 × Int32) (ls : Array Slot) (H : Heap) (locs : List Loc) => match z with | (ocu, otk, ofr, oti, ofa, ofb) => (0 ≤ ofr.toInt) ∧ (ofr.toInt ≤ ocu.toInt) ∧ (ocu.toInt ≤ ln.toInt) ∧ (oti.toInt = ocu.toInt) ∧ ((ofa.toInt = 0 ∧ ofr.toInt = (tS mtp ln.toNatClampNeg (tE mtp ln.toNatClampNeg (acP mtp ln.toNatClampNeg (tE mtp ln.toNatClampNeg (poL mtp ln.toNatClampNeg hnn.toNatClampNeg)))) : Int) ∧ ocu.toInt = (tE mtp ln.toNatClampNeg (tE mtp ln.toNatClampNeg (acP mtp ln.toNatClampNeg (tE mtp ln.toNatClampNeg (poL mtp ln.toNatClampNeg hnn.toNatClampNeg)))) : Int) ∧ otk.toInt = mK mtp ln.toNatClampNeg (tE mtp ln.toNatClampNeg (acP mtp ln.toNatClampNeg (tE mtp ln.toNatClampNeg (poL mtp ln.toNatClampNeg hnn.toNatClampNeg)))) ∧ hnn.toInt < 12 ∧ tK mtp ln.toNatClampNeg (poL mtp ln.toNatClampNeg hnn.toNatClampNeg) < 4 ∧ acR mtp ln.toNatClampNeg (tE mtp ln.toNatClampNeg (poL mtp ln.toNatClampNeg hnn.toNatClampNeg)) = 0 ∧ jdays.toInt = acD mtp ln.toNatClampNeg (tE mtp ln.toNatClampNeg (poL mtp ln.toNatClampNeg hnn.toNatClampNeg)) ∧ tK mtp ln.toNatClampNeg (acP mtp ln.toNatClampNeg (tE mtp ln.toNatClampNeg (poL mtp ln.toNatClampNeg hnn.toNatClampNeg))) = 4) ∨ (¬ ofa.toInt = 0 ∧ ofa.toInt = dcF mtp ln.toNatClampNeg hnn.toNatClampNeg ∧ ofb.toInt = (dpF mtp ln.toNatClampNeg hnn.toNatClampNeg : Int))) ∧ lv_has ls 6 [(0, .ref (md 64)), (3, .int sk67), (4, .int jdays)] ∧ va_P D vwCl [(aI cI (md 31) 36 mli), (aI cI (md 33) 36 mnlq), (moC md sd (0) mst hn cn pn mq gn mln hnn (0) mlt ln ocu otk ofr oti ofa ofb an un lc td mtn), (aI cI (md 34) 300 mtp)] H ∧ va_D A [(aI cI (md 31) 36 mli), (aI cI (md 33) 36 mnlq), (moC md sd (0) mst hn cn pn mq gn mln hnn (0) mlt ln ocu otk ofr oti ofa ofb an un lc td mtn), (aI cI (md 34) 300 mtp)] ∧ va_S A s.heap H locs) ?_ ?_
                · rintro ⟨ocu, otk, ofr, oti, ofa, ofb⟩ ls H locs ⟨g84, g85, g86, g87, g88, hl, hP, hD, hS⟩
                  replace hl : lv_has ls 6 [(0, .ref (md 64)), (3, .int sk67), (4, .int jdays)] := hl
                  replace hP : va_P D vwCl [(aI cI (md 31) 36 mli), (aI cI (md 33) 36 mnlq), (moC md sd (0) mst hn cn pn mq gn mln hnn (0) mlt ln ocu otk ofr oti ofa ofb an un lc td mtn), (aI cI (md 34) 300 mtp)] H := hP
                  replace hD : va_D A [(aI cI (md 31) 36 mli), (aI cI (md 33) 36 mnlq), (moC md sd (0) mst hn cn pn mq gn mln hnn (0) mlt ln ocu otk ofr oti ofa ofb an un lc td mtn), (aI cI (md 34) 300 mtp)] := hD
                  show W _ _ _ _ _ _ _ _ _ _ _ _ _ _ _ (F0 m 202 ls [])
                  refine st_join 219 (fun (z : Int32 × Int32 × Int32 × Int32 × Int32 × Int32 × Int32) => match z with | (pcu, ptk, pfr, pti, pfa, pfb, sk90) => [.int sk90]) (fun (z : Int32 × Int32 × Int32 × Int32 × Int32 × Int32 × Int32) (ls : Array Slot) (H : Heap) (locs : List Loc) => match z with | (pcu, ptk, pfr, pti, pfa, pfb, sk90) => (0 ≤ pfr.toInt) ∧ (pfr.toInt ≤ pcu.toInt) ∧ (pcu.toInt ≤ ln.toInt) ∧ (pti.toInt = pcu.toInt) ∧ ((pfa.toInt = 0 ∧ pfr.toInt = (tS mtp ln.toNatClampNeg (tE mtp ln.toNatClampNeg (tE mtp ln.toNatClampNeg (acP mtp ln.toNatClampNeg (tE mtp ln.toNatClampNeg (poL mtp ln.toNatClampNeg hnn.toNatClampNeg))))) : Int) ∧ pcu.toInt = (tE mtp ln.toNatClampNeg (tE mtp ln.toNatClampNeg (tE mtp ln.toNatClampNeg (acP mtp ln.toNatClampNeg (tE mtp ln.toNatClampNeg (poL mtp ln.toNatClampNeg hnn.toNatClampNeg))))) : Int) ∧ ptk.toInt = mK mtp ln.toNatClampNeg (tE mtp ln.toNatClampNeg (tE mtp ln.toNatClampNeg (acP mtp ln.toNatClampNeg (tE mtp ln.toNatClampNeg (poL mtp ln.toNatClampNeg hnn.toNatClampNeg))))) ∧ hnn.toInt < 12 ∧ tK mtp ln.toNatClampNeg (poL mtp ln.toNatClampNeg hnn.toNatClampNeg) < 4 ∧ acR mtp ln.toNatClampNeg (tE mtp ln.toNatClampNeg (poL mtp ln.toNatClampNeg hnn.toNatClampNeg)) = 0 ∧ jdays.toInt = acD mtp ln.toNatClampNeg (tE mtp ln.toNatClampNeg (poL mtp ln.toNatClampNeg hnn.toNatClampNeg)) ∧ tK mtp ln.toNatClampNeg (acP mtp ln.toNatClampNeg (tE mtp ln.toNatClampNeg (poL mtp ln.toNatClampNeg hnn.toNatClampNeg))) = 4 ∧ tK mtp ln.toNatClampNeg (tE mtp ln.toNatClampNeg (acP mtp ln.toNatClampNeg (tE mtp ln.toNatClampNeg (poL mtp ln.toNatClampNeg hnn.toNatClampNeg)))) = 5 ∧ sk90.toInt = tN mtp ln.toNatClampNeg (tE mtp ln.toNatClampNeg (acP mtp ln.toNatClampNeg (tE mtp ln.toNatClampNeg (poL mtp ln.toNatClampNeg hnn.toNatClampNeg)))) ∧ tN mtp ln.toNatClampNeg (tE mtp ln.toNatClampNeg (acP mtp ln.toNatClampNeg (tE mtp ln.toNatClampNeg (poL mtp ln.toNatClampNeg hnn.toNatClampNeg)))) ≤ 100) ∨ (¬ pfa.toInt = 0 ∧ pfa.toInt = dcF mtp ln.toNatClampNeg hnn.toNatClampNeg ∧ pfb.toInt = (dpF mtp ln.toNatClampNeg hnn.toNatClampNeg : Int))) ∧ lv_has ls 6 [(0, .ref (md 64)), (3, .int sk67), (4, .int jdays)] ∧ va_P D vwCl [(aI cI (md 31) 36 mli), (aI cI (md 33) 36 mnlq), (moC md sd (0) mst hn cn pn mq gn mln hnn (0) mlt ln pcu ptk pfr pti pfa pfb an un lc td mtn), (aI cI (md 34) 300 mtp)] H ∧ va_D A [(aI cI (md 31) 36 mli), (aI cI (md 33) 36 mnlq), (moC md sd (0) mst hn cn pn mq gn mln hnn (0) mlt ln pcu ptk pfr pti pfa pfb an un lc td mtn), (aI cI (md 34) 300 mtp)] ∧ va_S A s.heap H locs) ?_ ?_
                  · rintro ⟨pcu, ptk, pfr, pti, pfa, pfb, sk90⟩ ls H locs ⟨g91, g92, g93, g94, g95, hl, hP, hD, hS⟩
                    replace hl : lv_has ls 6 [(0, .ref (md 64)), (3, .int sk67), (4, .int jdays)] := hl
                    replace hP : va_P D vwCl [(aI cI (md 31) 36 mli), (aI cI (md 33) 36 mnlq), (moC md sd (0) mst hn cn pn mq gn mln hnn (0) mlt ln pcu ptk pfr pti pfa pfb an un lc td mtn), (aI cI (md 34) 300 mtp)] H := hP
                    replace hD : va_D A [(aI cI (md 31) 36 mli), (aI cI (md 33) 36 mnlq), (moC md sd (0) mst hn cn pn mq gn mln hnn (0) mlt ln pcu ptk pfr pti pfa pfb an un lc td mtn), (aI cI (md 34) 300 mtp)] := hD
                    show W _ _ _ _ _ _ _ _ _ _ _ _ _ _ _ (F0 m 219 ls [.int sk90])
                    refine lv_istore (lv' := [(5, .int sk90), (0, .ref (md 64)), (3, .int sk67), (4, .int jdays)]) hx hb dX11_duties_219 hl (by decide) rfl (fun ls hl => ?_)
                    refine st_join 238 (fun (z : Int32 × Int32 × Int32 × Int32 × Int32 × Int32) => match z with | (ycu, ytk, yfr, yti, yfa, yfb) => []) (fun (z : Int32 × Int32 × Int32 × Int32 × Int32 × Int32) (ls : Array Slot) (H : Heap) (locs : List Loc) => match z with | (ycu, ytk, yfr, yti, yfa, yfb) => (0 ≤ yfr.toInt) ∧ (yfr.toInt ≤ ycu.toInt) ∧ (ycu.toInt ≤ ln.toInt) ∧ (yti.toInt = ycu.toInt) ∧ ((yfa.toInt = 0 ∧ yfr.toInt = (tS mtp ln.toNatClampNeg (lnN mtp ln.toNatClampNeg (poL mtp ln.toNatClampNeg hnn.toNatClampNeg)) : Int) ∧ ycu.toInt = (tE mtp ln.toNatClampNeg (lnN mtp ln.toNatClampNeg (poL mtp ln.toNatClampNeg hnn.toNatClampNeg)) : Int) ∧ ytk.toInt = mK mtp ln.toNatClampNeg (lnN mtp ln.toNatClampNeg (poL mtp ln.toNatClampNeg hnn.toNatClampNeg)) ∧ hnn.toInt < 12 ∧ tK mtp ln.toNatClampNeg (poL mtp ln.toNatClampNeg hnn.toNatClampNeg) < 4 ∧ acR mtp ln.toNatClampNeg (tE mtp ln.toNatClampNeg (poL mtp ln.toNatClampNeg hnn.toNatClampNeg)) = 0 ∧ jdays.toInt = acD mtp ln.toNatClampNeg (tE mtp ln.toNatClampNeg (poL mtp ln.toNatClampNeg hnn.toNatClampNeg)) ∧ tK mtp ln.toNatClampNeg (acP mtp ln.toNatClampNeg (tE mtp ln.toNatClampNeg (poL mtp ln.toNatClampNeg hnn.toNatClampNeg))) = 4 ∧ lnR mtp ln.toNatClampNeg (poL mtp ln.toNatClampNeg hnn.toNatClampNeg) = 0 ∧ sk90.toInt = tN mtp ln.toNatClampNeg (tE mtp ln.toNatClampNeg (acP mtp ln.toNatClampNeg (tE mtp ln.toNatClampNeg (poL mtp ln.toNatClampNeg hnn.toNatClampNeg))))) ∨ (¬ yfa.toInt = 0 ∧ yfa.toInt = dcF mtp ln.toNatClampNeg hnn.toNatClampNeg ∧ yfb.toInt = (dpF mtp ln.toNatClampNeg hnn.toNatClampNeg : Int))) ∧ lv_has ls 6 [(0, .ref (md 64)), (3, .int sk67), (4, .int jdays), (5, .int sk90)] ∧ va_P D vwCl [(aI cI (md 31) 36 mli), (aI cI (md 33) 36 mnlq), (moC md sd (0) mst hn cn pn mq gn mln hnn (0) mlt ln ycu ytk yfr yti yfa yfb an un lc td mtn), (aI cI (md 34) 300 mtp)] H ∧ va_D A [(aI cI (md 31) 36 mli), (aI cI (md 33) 36 mnlq), (moC md sd (0) mst hn cn pn mq gn mln hnn (0) mlt ln ycu ytk yfr yti yfa yfb an un lc td mtn), (aI cI (md 34) 300 mtp)] ∧ va_S A s.heap H locs) ?_ ?_
                    · rintro ⟨ycu, ytk, yfr, yti, yfa, yfb⟩ ls H locs ⟨g97, g98, g99, g100, g101, hl, hP, hD, hS⟩
                      replace hl : lv_has ls 6 [(0, .ref (md 64)), (3, .int sk67), (4, .int jdays), (5, .int sk90)] := hl
                      replace hP : va_P D vwCl [(aI cI (md 31) 36 mli), (aI cI (md 33) 36 mnlq), (moC md sd (0) mst hn cn pn mq gn mln hnn (0) mlt ln ycu ytk yfr yti yfa yfb an un lc td mtn), (aI cI (md 34) 300 mtp)] H := hP
                      replace hD : va_D A [(aI cI (md 31) 36 mli), (aI cI (md 33) 36 mnlq), (moC md sd (0) mst hn cn pn mq gn mln hnn (0) mlt ln ycu ytk yfr yti yfa yfb an un lc td mtn), (aI cI (md 34) 300 mtp)] := hD
                      show W _ _ _ _ _ _ _ _ _ _ _ _ _ _ _ (F0 m 238 ls [])
                      refine lv_aload_n hx hb dX11_duties_238 rfl (lv_at hl 0 rfl) ?_
                      refine va_get (D := D) (ci := 11) (v := .int yfa) (C := RX11) (T := TX11) (N := 64) hx hb hts inX11_duties_X11 hown hK hP 2 rfl rfl 42 (by decide) (hts (Cond.fieldLink RX11 271 "PortRoomsModel" "fault" "I") (wm_t (wm_l (wm_l (wm_i 4 rfl))))) (fun _ h9 => h9) rfl dX11_duties_239 ?_
                      refine lv_if_ne (tgt := 297) hx hb dX11_duties_242 (by decide) (fun c103 => ?_) (fun c103 => ?_)
                      · skip
                        have f104 := i_ne c103
                        refine lv_goto (tgt := 37) hx hb dX11_duties_297 (by decide) ?_
                        refine lv_aload_n hx hb dX11_duties_37 rfl (lv_at hl 0 rfl) ?_
                        refine va_get (D := D) (ci := 11) (v := .int yfa) (C := RX11) (T := TX11) (N := 64) hx hb hts inX11_duties_X11 hown hK hP 2 rfl rfl 42 (by decide) (hts (Cond.fieldLink RX11 271 "PortRoomsModel" "fault" "I") (wm_t (wm_l (wm_l (wm_i 4 rfl))))) (fun _ h9 => h9) rfl dX11_duties_38 ?_
                        refine lv_if_ne (tgt := 300) hx hb dX11_duties_41 (by decide) (fun _ => ?_) (fun c105 => by exfalso; have h8 := i_eq c105; omega)
                        refine lv_aload_n hx hb dX11_duties_300 rfl (lv_at hl 0 rfl) ?_
                        refine va_get (D := D) (ci := 11) (v := .int yfa) (C := RX11) (T := TX11) (N := 64) hx hb hts inX11_duties_X11 hown hK hP 2 rfl rfl 42 (by decide) (hts (Cond.fieldLink RX11 271 "PortRoomsModel" "fault" "I") (wm_t (wm_l (wm_l (wm_i 4 rfl))))) (fun _ h9 => h9) rfl dX11_duties_301 ?_
                        refine lv_if_le (tgt := 324) hx hb dX11_duties_304 (by decide) (fun c106 => ?_) (fun c106 => ?_)
                        · skip
                          have f107 := i_le c106
                          refine lv_aload_n hx hb dX11_duties_324 rfl (lv_at hl 0 rfl) ?_
                          refine lv_aload_n hx hb dX11_duties_325 rfl (lv_at hl 0 rfl) ?_
                          refine va_get (D := D) (ci := 11) (v := .int hnn) (C := RX11) (T := TX11) (N := 64) hx hb hts inX11_duties_X11 hown hK hP 2 rfl rfl 32 (by decide) (hts (Cond.fieldLink RX11 287 "PortRoomsModel" "newLines" "I") (wm_t (wm_l (wm_l (wm_i 5 rfl))))) (fun _ h9 => h9) rfl dX11_duties_326 ?_
                          refine va_put (D := D) (ci := 11) (v := .int hnn) (ty := .int) (C := RX11) (T := TX11) (N := 64) hx hb hts inX11_duties_X11 tyX11 tyX11_ok nmX11 hown hK hP hD hS 2 rfl rfl 30 (by decide) (hts (Cond.fieldLink RX11 314 "PortRoomsModel" "lines" "I") (wm_t (wm_l (wm_l (wm_i 17 rfl))))) (fun _ h9 => h9) rfl (tyX11_ok 30 (by decide)) rfl rfl (Nat.le_of_ble_eq_true rfl) dX11_duties_329 (fun H locs => ?_)
                          clear hP hD hS
                          intro hP hD hS
                          replace hP : va_P D vwCl [(aI cI (md 31) 36 mli), (aI cI (md 33) 36 mnlq), (moC md sd (0) mst hn cn pn mq gn hnn hnn (0) mlt ln ycu ytk yfr yti yfa yfb an un lc td mtn), (aI cI (md 34) 300 mtp)] H := hP
                          replace hD : va_D A [(aI cI (md 31) 36 mli), (aI cI (md 33) 36 mnlq), (moC md sd (0) mst hn cn pn mq gn hnn hnn (0) mlt ln ycu ytk yfr yti yfa yfb an un lc td mtn), (aI cI (md 34) 300 mtp)] := hD
                          refine lv_iconst (v := 0) hx hb dX11_duties_332 (by decide) ?_
                          refine lv_istore_n (lv' := [(1, .int 0), (0, .ref (md 64)), (3, .int sk67), (4, .int jdays), (5, .int sk90)]) hx hb dX11_duties_333 rfl hl (by decide) rfl (fun ls hl => ?_)
                          refine st_loop 334 (fun _ => []) (fun (z : Int32 × (Nat → Int32)) (ls : Array Slot) (H : Heap) (locs : List Loc) => match z with | (q334_1, mliq) => (0 ≤ q334_1.toInt) ∧ (q334_1.toInt ≤ 36) ∧ (∀ j : Nat, (j : Int) < q334_1.toInt → mliq j = mnlq j) ∧ lv_has ls 6 [(0, .ref (md 64)), (1, .int q334_1), (3, .int sk67), (4, .int jdays), (5, .int sk90)] ∧ va_P D vwCl [(aI cI (md 31) 36 mliq), (aI cI (md 33) 36 mnlq), (moC md sd (0) mst hn cn pn mq gn hnn hnn (0) mlt ln ycu ytk yfr yti yfa yfb an un lc td mtn), (aI cI (md 34) 300 mtp)] H ∧ va_D A [(aI cI (md 31) 36 mliq), (aI cI (md 33) 36 mnlq), (moC md sd (0) mst hn cn pn mq gn hnn hnn (0) mlt ln ycu ytk yfr yti yfa yfb an un lc td mtn), (aI cI (md 34) 300 mtp)] ∧ va_S A s.heap H locs) (fun (z : Int32 × (Nat → Int32)) => match z with | (q334_1, mliq) => 36 - q334_1.toInt) ?_ ?_ ((0 : Int32), mli) ⟨(by omega), (by omega), (by intro j hj; exfalso; omega), lv_sub hl [1, 0, 2, 3, 4] rfl, hP, hD, hS⟩
                          · rintro ⟨q334_1, mliq⟩ ls H locs ⟨g108, g109, g110, hl, hP, hD, hS⟩
                            show (0 : Int) ≤ 36 - q334_1.toInt
                            omega
                          · rintro n113 ih111 ⟨q334_1, mliq⟩ ls H locs ⟨g108, g109, g110, hl, hP, hD, hS⟩ hm112
                            have hm112 : 36 - q334_1.toInt < (n113 : Int) + 1 := hm112
                            replace hl : lv_has ls 6 [(0, .ref (md 64)), (1, .int q334_1), (3, .int sk67), (4, .int jdays), (5, .int sk90)] := hl
                            replace hP : va_P D vwCl [(aI cI (md 31) 36 mliq), (aI cI (md 33) 36 mnlq), (moC md sd (0) mst hn cn pn mq gn hnn hnn (0) mlt ln ycu ytk yfr yti yfa yfb an un lc td mtn), (aI cI (md 34) 300 mtp)] H := hP
                            replace hD : va_D A [(aI cI (md 31) 36 mliq), (aI cI (md 33) 36 mnlq), (moC md sd (0) mst hn cn pn mq gn hnn hnn (0) mlt ln ycu ytk yfr yti yfa yfb an un lc td mtn), (aI cI (md 34) 300 mtp)] := hD
                            show W _ _ _ _ _ _ _ _ _ _ _ _ _ _ _ (F0 m 334 ls [])
                            refine lv_iload_n hx hb dX11_duties_334 rfl (lv_at hl 1 rfl) ?_
                            refine lv_bipush (v := 36) hx hb dX11_duties_335 (by decide) ?_
                            refine lv_icmp_ge (tgt := 358) hx hb dX11_duties_337 (by decide) (fun c114 => ?_) (fun c114 => ?_)
                            · skip
                              have f115 := i_le c114
                              refine lv_aload_n hx hb dX11_duties_358 rfl (lv_at hl 0 rfl) ?_
                              refine va_get (D := D) (ci := 11) (v := .int hnn) (C := RX11) (T := TX11) (N := 64) hx hb hts inX11_duties_X11 hown hK hP 2 rfl rfl 30 (by decide) (hts (Cond.fieldLink RX11 314 "PortRoomsModel" "lines" "I") (wm_t (wm_l (wm_l (wm_i 17 rfl))))) (fun _ h9 => h9) rfl dX11_duties_359 ?_
                              have clc116 := i_cl (x := hnn) (by omega)
                              have hdr9 := dcF_rng (T := mtp) (L := ln.toNatClampNeg) (n := hnn.toNatClampNeg)
                              have hgd9 : hfa.toInt = 0 ∧ hfr.toInt = (tS mtp ln.toNatClampNeg (poL mtp ln.toNatClampNeg hnn.toNatClampNeg) : Int) ∧ hcu.toInt = (tE mtp ln.toNatClampNeg (poL mtp ln.toNatClampNeg hnn.toNatClampNeg) : Int) ∧ htk.toInt = mK mtp ln.toNatClampNeg (poL mtp ln.toNatClampNeg hnn.toNatClampNeg) := by rcases g16 with h9 | h9 <;> first | exact h9 | (exfalso; omega)
                              have hpl9 := poL_le mtp ln.toNatClampNeg hnn.toNatClampNeg
                              have hmk9 := (tk_f (T := mtp) (L := ln.toNatClampNeg) hpl9).1
                              have hP9 := hP.sub (ws' := [(moC md sd (0) mst hn cn pn mq gn hnn hnn (0) mlt ln ycu ytk yfr yti yfa yfb an un lc td mtn), (aI cI (md 31) 36 mliq), (aI cI (md 33) 36 mnlq), (aI cI (md 34) 300 mtp)]) [2, 0, 1, 3] rfl
                              have hD9 := hD.sub (ws' := [(moC md sd (0) mst hn cn pn mq gn hnn hnn (0) mlt ln ycu ytk yfr yti yfa yfb an un lc td mtn), (aI cI (md 31) 36 mliq), (aI cI (md 33) 36 mnlq), (aI cI (md 34) 300 mtp)]) [2, 0, 1, 3] (by decide +kernel) rfl
                              exact W.iret (v := hnn) hx hb hr (fun t ht hW => ⟨⟨hnn, (hnn, mliq, hnn, mnlq, mlt, ln, ycu, ytk, yfr, yti, yfa, yfb), rfl, (by show 0 ≤ hnn.toInt ∧ hnn.toInt ≤ 12 ∧ mdP mtp ln.toNatClampNeg hnn mlt mln mlt hnn mli mliq; exact ⟨by omega, by omega, ⟨hnn.toNatClampNeg, by omega, g14, Or.inl ⟨by omega, by omega, rfl, by omega, fun j hj => (by have e9 := g15 j hj; rw [g110 (3 * j) (by omega), g110 (3 * j + 1) (by omega), g110 (3 * j + 2) (by omega)]; exact e9)⟩⟩⟩), by rw [ht]; exact hP9, va_K.moved hW.alike hK, hD9⟩, hS.F ht⟩) hS.2.2 dX11_duties_362
                            · skip
                              have f117 := i_nle c114
                              refine lv_aload_n hx hb dX11_duties_340 rfl (lv_at hl 0 rfl) ?_
                              refine va_get (D := D) (ci := 11) (v := .ref (md 31)) (C := RX11) (T := TX11) (N := 64) hx hb hts inX11_duties_X11 hown hK hP 2 rfl rfl 31 (by decide) (hts (Cond.fieldLink RX11 81 "PortRoomsModel" "line" "[I") (wm_t (wm_l (wm_l (wm_i 18 rfl))))) (fun _ h9 => h9) rfl dX11_duties_341 ?_
                              refine lv_iload_n hx hb dX11_duties_344 rfl (lv_at hl 1 rfl) ?_
                              refine lv_aload_n hx hb dX11_duties_345 rfl (lv_at hl 0 rfl) ?_
                              refine va_get (D := D) (ci := 11) (v := .ref (md 33)) (C := RX11) (T := TX11) (N := 64) hx hb hts inX11_duties_X11 hown hK hP 2 rfl rfl 33 (by decide) (hts (Cond.fieldLink RX11 84 "PortRoomsModel" "newLine" "[I") (wm_t (wm_l (wm_l (wm_i 13 rfl))))) (fun _ h9 => h9) rfl dX11_duties_346 ?_
                              refine lv_iload_n hx hb dX11_duties_349 rfl (lv_at hl 1 rfl) ?_
                              refine va_iald hx hb hK hP 1 0 rfl rfl (i_in (by omega) (by omega)) dX11_duties_350 ?_
                              refine lv_topi (fun v118 ev118 => ?_)
                              refine va_iast hx hb hK hP hD hS 0 0 rfl rfl (i_in (by omega) (by omega)) dX11_duties_351 (fun H locs => ?_)
                              clear hP hD hS
                              intro hP hD hS
                              replace hP : va_P D vwCl [(aI cI (md 31) 36 (upd mliq q334_1.toNatClampNeg v118)), (aI cI (md 33) 36 mnlq), (moC md sd (0) mst hn cn pn mq gn hnn hnn (0) mlt ln ycu ytk yfr yti yfa yfb an un lc td mtn), (aI cI (md 34) 300 mtp)] H := hP
                              replace hD : va_D A [(aI cI (md 31) 36 (upd mliq q334_1.toNatClampNeg v118)), (aI cI (md 33) 36 mnlq), (moC md sd (0) mst hn cn pn mq gn hnn hnn (0) mlt ln ycu ytk yfr yti yfa yfb an un lc td mtn), (aI cI (md 34) 300 mtp)] := hD
                              obtain ⟨v119, ev119⟩ : ∃ y : Int32, y = q334_1 + 1 := ⟨_, rfl⟩
                              try have tv119 : v119.toInt = q334_1.toInt + 1 := by rw [ev119]; exact (i_add (x := q334_1) (y := (1 : Int32)) (by rw [k1]; omega) (by rw [k1]; omega)).trans (by rw [k1])
                              refine lv_iinc (v := v119) (lv' := [(1, .int v119), (0, .ref (md 64)), (3, .int sk67), (4, .int jdays), (5, .int sk90)]) hx hb dX11_duties_352 hl (k := 1) rfl (by rw [ev119]; rfl) (by decide) rfl (fun ls hl => ?_)
                              refine lv_goto (tgt := 334) hx hb dX11_duties_355 (by decide) ?_
                              exact ih111 (v119, upd mliq q334_1.toNatClampNeg v118) ls H locs ⟨(by omega), (by omega), (by exact fun j hj => if e9 : j = q334_1.toNatClampNeg then (by rw [e9, upd_s]; assumption) else (by rw [upd_n _ _ e9]; exact g110 j (by have := i_cl (x := q334_1) (by omega); omega))), lv_sub hl [1, 0, 2, 3, 4] rfl, hP.sub [0, 1, 2, 3] rfl, hD.sub [0, 1, 2, 3] (by decide +kernel) rfl, hS⟩ (by show 36 - v119.toInt < _; omega)
                        · skip
                          have f120 := i_nle c106
                          refine lv_aload_n hx hb dX11_duties_307 rfl (lv_at hl 0 rfl) ?_
                          refine lv_aload_n hx hb dX11_duties_308 rfl (lv_at hl 0 rfl) ?_
                          refine va_get (D := D) (ci := 11) (v := .int yfa) (C := RX11) (T := TX11) (N := 64) hx hb hts inX11_duties_X11 hown hK hP 2 rfl rfl 42 (by decide) (hts (Cond.fieldLink RX11 271 "PortRoomsModel" "fault" "I") (wm_t (wm_l (wm_l (wm_i 4 rfl))))) (fun _ h9 => h9) rfl dX11_duties_309 ?_
                          refine va_put (D := D) (ci := 11) (v := .int yfa) (ty := .int) (C := RX11) (T := TX11) (N := 64) hx hb hts inX11_duties_X11 tyX11 tyX11_ok nmX11 hown hK hP hD hS 2 rfl rfl 36 (by decide) (hts (Cond.fieldLink RX11 310 "PortRoomsModel" "latest" "I") (wm_t (wm_l (wm_l (wm_i 14 rfl))))) (fun _ h9 => h9) rfl (tyX11_ok 36 (by decide)) rfl rfl (Nat.le_of_ble_eq_true rfl) dX11_duties_312 (fun H locs => ?_)
                          clear hP hD hS
                          intro hP hD hS
                          replace hP : va_P D vwCl [(aI cI (md 31) 36 mli), (aI cI (md 33) 36 mnlq), (moC md sd (0) mst hn cn pn mq gn mln hnn (0) yfa ln ycu ytk yfr yti yfa yfb an un lc td mtn), (aI cI (md 34) 300 mtp)] H := hP
                          replace hD : va_D A [(aI cI (md 31) 36 mli), (aI cI (md 33) 36 mnlq), (moC md sd (0) mst hn cn pn mq gn mln hnn (0) yfa ln ycu ytk yfr yti yfa yfb an un lc td mtn), (aI cI (md 34) 300 mtp)] := hD
                          have hdq9 := dpF_le mtp ln.toNatClampNeg hnn.toNatClampNeg
                          have clc121 := i_cl (x := ln) (by omega)
                          refine lv_ldcw hx hb hown (hts (Cond.constant RX11 313 (-1000100)) (wm_t (wm_l (wm_l (wm_i 15 rfl))))) dX11_duties_315 ?_
                          refine lv_aload_n hx hb dX11_duties_318 rfl (lv_at hl 0 rfl) ?_
                          refine va_get (D := D) (ci := 11) (v := .int yfb) (C := RX11) (T := TX11) (N := 64) hx hb hts inX11_duties_X11 hown hK hP 2 rfl rfl 43 (by decide) (hts (Cond.fieldLink RX11 274 "PortRoomsModel" "faultAt" "I") (wm_t (wm_l (wm_l (wm_i 16 rfl))))) (fun _ h9 => h9) rfl dX11_duties_319 ?_
                          refine lv_isub hx hb dX11_duties_322 ?_
                          refine lv_topi (fun v122 ev122 => ?_)
                          try have tv122 : v122.toInt = (-1000100) - yfb.toInt := by rw [ev122]; exact (i_sub (x := ((-1000100) : Int32)) (y := yfb) (by rw [km1000100]; omega) (by rw [km1000100]; omega)).trans (by rw [km1000100])
                          have clc123 := i_cl (x := hnn) (by omega)
                          have hdr9 := dcF_rng (T := mtp) (L := ln.toNatClampNeg) (n := hnn.toNatClampNeg)
                          have hbad9 : ¬ yfa.toInt = 0 ∧ yfa.toInt = dcF mtp ln.toNatClampNeg hnn.toNatClampNeg ∧ yfb.toInt = (dpF mtp ln.toNatClampNeg hnn.toNatClampNeg : Int) ∧ ¬ tK mtp ln.toNatClampNeg (poL mtp ln.toNatClampNeg hnn.toNatClampNeg) = 8 := by first | (rcases g16 with h9 | h9 <;> first | (exfalso; omega) | exact h9) | (rcases g101 with h9 | h9 <;> first | (exfalso; omega) | exact ⟨h9.1, h9.2.1, h9.2.2, by omega⟩)
                          have hP9 := hP.sub (ws' := [(moC md sd (0) mst hn cn pn mq gn mln hnn (0) yfa ln ycu ytk yfr yti yfa yfb an un lc td mtn), (aI cI (md 31) 36 mli), (aI cI (md 33) 36 mnlq), (aI cI (md 34) 300 mtp)]) [2, 0, 1, 3] rfl
                          have hD9 := hD.sub (ws' := [(moC md sd (0) mst hn cn pn mq gn mln hnn (0) yfa ln ycu ytk yfr yti yfa yfb an un lc td mtn), (aI cI (md 31) 36 mli), (aI cI (md 33) 36 mnlq), (aI cI (md 34) 300 mtp)]) [2, 0, 1, 3] (by decide +kernel) rfl
                          exact W.iret (v := v122) hx hb hr (fun t ht hW => ⟨⟨v122, (mln, mli, hnn, mnlq, yfa, ln, ycu, ytk, yfr, yti, yfa, yfb), rfl, (by show 0 ≤ mln.toInt ∧ mln.toInt ≤ 12 ∧ mdP mtp ln.toNatClampNeg v122 mlt mln yfa mln mli mli; exact ⟨by omega, by omega, ⟨hnn.toNatClampNeg, by omega, g14, Or.inr ⟨hbad9.2.2.2, by omega, hbad9.2.1, by omega, rfl, rfl⟩⟩⟩), by rw [ht]; exact hP9, va_K.moved hW.alike hK, hD9⟩, hS.F ht⟩) hS.2.2 dX11_duties_323
                      · skip
                        have f124 := i_eq c103
                        have hT5 : yfa.toInt = 0 ∧ yfr.toInt = (tS mtp ln.toNatClampNeg (lnN mtp ln.toNatClampNeg (poL mtp ln.toNatClampNeg hnn.toNatClampNeg)) : Int) ∧ ycu.toInt = (tE mtp ln.toNatClampNeg (lnN mtp ln.toNatClampNeg (poL mtp ln.toNatClampNeg hnn.toNatClampNeg)) : Int) ∧ ytk.toInt = mK mtp ln.toNatClampNeg (lnN mtp ln.toNatClampNeg (poL mtp ln.toNatClampNeg hnn.toNatClampNeg)) ∧ hnn.toInt < 12 ∧ tK mtp ln.toNatClampNeg (poL mtp ln.toNatClampNeg hnn.toNatClampNeg) < 4 ∧ acR mtp ln.toNatClampNeg (tE mtp ln.toNatClampNeg (poL mtp ln.toNatClampNeg hnn.toNatClampNeg)) = 0 ∧ jdays.toInt = acD mtp ln.toNatClampNeg (tE mtp ln.toNatClampNeg (poL mtp ln.toNatClampNeg hnn.toNatClampNeg)) ∧ tK mtp ln.toNatClampNeg (acP mtp ln.toNatClampNeg (tE mtp ln.toNatClampNeg (poL mtp ln.toNatClampNeg hnn.toNatClampNeg))) = 4 ∧ lnR mtp ln.toNatClampNeg (poL mtp ln.toNatClampNeg hnn.toNatClampNeg) = 0 ∧ sk90.toInt = tN mtp ln.toNatClampNeg (tE mtp ln.toNatClampNeg (acP mtp ln.toNatClampNeg (tE mtp ln.toNatClampNeg (poL mtp ln.toNatClampNeg hnn.toNatClampNeg)))) := by rcases g101 with h9 | h9 <;> first | exact h9 | (exfalso; omega)
                        refine lv_aload_n hx hb dX11_duties_245 rfl (lv_at hl 0 rfl) ?_
                        refine va_get (D := D) (ci := 11) (v := .ref (md 33)) (C := RX11) (T := TX11) (N := 64) hx hb hts inX11_duties_X11 hown hK hP 2 rfl rfl 33 (by decide) (hts (Cond.fieldLink RX11 84 "PortRoomsModel" "newLine" "[I") (wm_t (wm_l (wm_l (wm_i 13 rfl))))) (fun _ h9 => h9) rfl dX11_duties_246 ?_
                        refine lv_iconst (v := 3) hx hb dX11_duties_249 (by decide) ?_
                        refine lv_aload_n hx hb dX11_duties_250 rfl (lv_at hl 0 rfl) ?_
                        refine va_get (D := D) (ci := 11) (v := .int hnn) (C := RX11) (T := TX11) (N := 64) hx hb hts inX11_duties_X11 hown hK hP 2 rfl rfl 32 (by decide) (hts (Cond.fieldLink RX11 287 "PortRoomsModel" "newLines" "I") (wm_t (wm_l (wm_l (wm_i 5 rfl))))) (fun _ h9 => h9) rfl dX11_duties_251 ?_
                        refine lv_imul hx hb dX11_duties_254 ?_
                        refine lv_topi (fun v125 ev125 => ?_)
                        try have tv125 : v125.toInt = 3 * hnn.toInt := by rw [ev125]; exact (i_mul (x := (3 : Int32)) (y := hnn) (by rw [k3]; omega) (by rw [k3]; omega)).trans (by rw [k3])
                        refine lv_iload_n hx hb dX11_duties_255 rfl (lv_at hl 1 rfl) ?_
                        refine va_iast hx hb hK hP hD hS 1 0 rfl rfl (i_in (by omega) (by omega)) dX11_duties_256 (fun H locs => ?_)
                        clear hP hD hS
                        intro hP hD hS
                        replace hP : va_P D vwCl [(aI cI (md 31) 36 mli), (aI cI (md 33) 36 (upd mnlq v125.toNatClampNeg sk67)), (moC md sd (0) mst hn cn pn mq gn mln hnn (0) mlt ln ycu ytk yfr yti yfa yfb an un lc td mtn), (aI cI (md 34) 300 mtp)] H := hP
                        replace hD : va_D A [(aI cI (md 31) 36 mli), (aI cI (md 33) 36 (upd mnlq v125.toNatClampNeg sk67)), (moC md sd (0) mst hn cn pn mq gn mln hnn (0) mlt ln ycu ytk yfr yti yfa yfb an un lc td mtn), (aI cI (md 34) 300 mtp)] := hD
                        refine lv_aload_n hx hb dX11_duties_257 rfl (lv_at hl 0 rfl) ?_
                        refine va_get (D := D) (ci := 11) (v := .ref (md 33)) (C := RX11) (T := TX11) (N := 64) hx hb hts inX11_duties_X11 hown hK hP 2 rfl rfl 33 (by decide) (hts (Cond.fieldLink RX11 84 "PortRoomsModel" "newLine" "[I") (wm_t (wm_l (wm_l (wm_i 13 rfl))))) (fun _ h9 => h9) rfl dX11_duties_258 ?_
                        refine lv_iconst (v := 3) hx hb dX11_duties_261 (by decide) ?_
                        refine lv_aload_n hx hb dX11_duties_262 rfl (lv_at hl 0 rfl) ?_
                        refine va_get (D := D) (ci := 11) (v := .int hnn) (C := RX11) (T := TX11) (N := 64) hx hb hts inX11_duties_X11 hown hK hP 2 rfl rfl 32 (by decide) (hts (Cond.fieldLink RX11 287 "PortRoomsModel" "newLines" "I") (wm_t (wm_l (wm_l (wm_i 5 rfl))))) (fun _ h9 => h9) rfl dX11_duties_263 ?_
                        refine lv_imul hx hb dX11_duties_266 ?_
                        refine lv_topi (fun v126 ev126 => ?_)
                        try have tv126 : v126.toInt = 3 * hnn.toInt := by rw [ev126]; exact (i_mul (x := (3 : Int32)) (y := hnn) (by rw [k3]; omega) (by rw [k3]; omega)).trans (by rw [k3])
                        refine lv_iconst (v := 1) hx hb dX11_duties_267 (by decide) ?_
                        refine lv_iadd hx hb dX11_duties_268 ?_
                        refine lv_topi (fun v127 ev127 => ?_)
                        try have tv127 : v127.toInt = v126.toInt + 1 := by rw [ev127]; exact (i_add (x := v126) (y := (1 : Int32)) (by rw [k1]; omega) (by rw [k1]; omega)).trans (by rw [k1])
                        refine lv_iload hx hb dX11_duties_269 (lv_at hl 2 rfl) ?_
                        refine va_iast hx hb hK hP hD hS 1 0 rfl rfl (i_in (by omega) (by omega)) dX11_duties_271 (fun H locs => ?_)
                        clear hP hD hS
                        intro hP hD hS
                        replace hP : va_P D vwCl [(aI cI (md 31) 36 mli), (aI cI (md 33) 36 (upd (upd mnlq v125.toNatClampNeg sk67) v127.toNatClampNeg jdays)), (moC md sd (0) mst hn cn pn mq gn mln hnn (0) mlt ln ycu ytk yfr yti yfa yfb an un lc td mtn), (aI cI (md 34) 300 mtp)] H := hP
                        replace hD : va_D A [(aI cI (md 31) 36 mli), (aI cI (md 33) 36 (upd (upd mnlq v125.toNatClampNeg sk67) v127.toNatClampNeg jdays)), (moC md sd (0) mst hn cn pn mq gn mln hnn (0) mlt ln ycu ytk yfr yti yfa yfb an un lc td mtn), (aI cI (md 34) 300 mtp)] := hD
                        refine lv_aload_n hx hb dX11_duties_272 rfl (lv_at hl 0 rfl) ?_
                        refine va_get (D := D) (ci := 11) (v := .ref (md 33)) (C := RX11) (T := TX11) (N := 64) hx hb hts inX11_duties_X11 hown hK hP 2 rfl rfl 33 (by decide) (hts (Cond.fieldLink RX11 84 "PortRoomsModel" "newLine" "[I") (wm_t (wm_l (wm_l (wm_i 13 rfl))))) (fun _ h9 => h9) rfl dX11_duties_273 ?_
                        refine lv_iconst (v := 3) hx hb dX11_duties_276 (by decide) ?_
                        refine lv_aload_n hx hb dX11_duties_277 rfl (lv_at hl 0 rfl) ?_
                        refine va_get (D := D) (ci := 11) (v := .int hnn) (C := RX11) (T := TX11) (N := 64) hx hb hts inX11_duties_X11 hown hK hP 2 rfl rfl 32 (by decide) (hts (Cond.fieldLink RX11 287 "PortRoomsModel" "newLines" "I") (wm_t (wm_l (wm_l (wm_i 5 rfl))))) (fun _ h9 => h9) rfl dX11_duties_278 ?_
                        refine lv_imul hx hb dX11_duties_281 ?_
                        refine lv_topi (fun v128 ev128 => ?_)
                        try have tv128 : v128.toInt = 3 * hnn.toInt := by rw [ev128]; exact (i_mul (x := (3 : Int32)) (y := hnn) (by rw [k3]; omega) (by rw [k3]; omega)).trans (by rw [k3])
                        refine lv_iconst (v := 2) hx hb dX11_duties_282 (by decide) ?_
                        refine lv_iadd hx hb dX11_duties_283 ?_
                        refine lv_topi (fun v129 ev129 => ?_)
                        try have tv129 : v129.toInt = v128.toInt + 2 := by rw [ev129]; exact (i_add (x := v128) (y := (2 : Int32)) (by rw [k2]; omega) (by rw [k2]; omega)).trans (by rw [k2])
                        refine lv_iload hx hb dX11_duties_284 (lv_at hl 3 rfl) ?_
                        refine va_iast hx hb hK hP hD hS 1 0 rfl rfl (i_in (by omega) (by omega)) dX11_duties_286 (fun H locs => ?_)
                        clear hP hD hS
                        intro hP hD hS
                        replace hP : va_P D vwCl [(aI cI (md 31) 36 mli), (aI cI (md 33) 36 (upd (upd (upd mnlq v125.toNatClampNeg sk67) v127.toNatClampNeg jdays) v129.toNatClampNeg sk90)), (moC md sd (0) mst hn cn pn mq gn mln hnn (0) mlt ln ycu ytk yfr yti yfa yfb an un lc td mtn), (aI cI (md 34) 300 mtp)] H := hP
                        replace hD : va_D A [(aI cI (md 31) 36 mli), (aI cI (md 33) 36 (upd (upd (upd mnlq v125.toNatClampNeg sk67) v127.toNatClampNeg jdays) v129.toNatClampNeg sk90)), (moC md sd (0) mst hn cn pn mq gn mln hnn (0) mlt ln ycu ytk yfr yti yfa yfb an un lc td mtn), (aI cI (md 34) 300 mtp)] := hD
                        refine lv_aload_n hx hb dX11_duties_287 rfl (lv_at hl 0 rfl) ?_
                        refine lv_dup hx hb dX11_duties_288 rfl ?_
                        refine va_get (D := D) (ci := 11) (v := .int hnn) (C := RX11) (T := TX11) (N := 64) hx hb hts inX11_duties_X11 hown hK hP 2 rfl rfl 32 (by decide) (hts (Cond.fieldLink RX11 287 "PortRoomsModel" "newLines" "I") (wm_t (wm_l (wm_l (wm_i 5 rfl))))) (fun _ h9 => h9) rfl dX11_duties_289 ?_
                        refine lv_iconst (v := 1) hx hb dX11_duties_292 (by decide) ?_
                        refine lv_iadd hx hb dX11_duties_293 ?_
                        refine lv_topi (fun v130 ev130 => ?_)
                        try have tv130 : v130.toInt = hnn.toInt + 1 := by rw [ev130]; exact (i_add (x := hnn) (y := (1 : Int32)) (by rw [k1]; omega) (by rw [k1]; omega)).trans (by rw [k1])
                        refine va_put (D := D) (ci := 11) (v := .int v130) (ty := .int) (C := RX11) (T := TX11) (N := 64) hx hb hts inX11_duties_X11 tyX11 tyX11_ok nmX11 hown hK hP hD hS 2 rfl rfl 32 (by decide) (hts (Cond.fieldLink RX11 287 "PortRoomsModel" "newLines" "I") (wm_t (wm_l (wm_l (wm_i 5 rfl))))) (fun _ h9 => h9) rfl (tyX11_ok 32 (by decide)) rfl rfl (Nat.le_of_ble_eq_true rfl) dX11_duties_294 (fun H locs => ?_)
                        clear hP hD hS
                        intro hP hD hS
                        replace hP : va_P D vwCl [(aI cI (md 31) 36 mli), (aI cI (md 33) 36 (upd (upd (upd mnlq v125.toNatClampNeg sk67) v127.toNatClampNeg jdays) v129.toNatClampNeg sk90)), (moC md sd (0) mst hn cn pn mq gn mln v130 (0) mlt ln ycu ytk yfr yti yfa yfb an un lc td mtn), (aI cI (md 34) 300 mtp)] H := hP
                        replace hD : va_D A [(aI cI (md 31) 36 mli), (aI cI (md 33) 36 (upd (upd (upd mnlq v125.toNatClampNeg sk67) v127.toNatClampNeg jdays) v129.toNatClampNeg sk90)), (moC md sd (0) mst hn cn pn mq gn mln v130 (0) mlt ln ycu ytk yfr yti yfa yfb an un lc td mtn), (aI cI (md 34) 300 mtp)] := hD
                        refine lv_goto (tgt := 37) hx hb dX11_duties_297 (by decide) ?_
                        have clc131 := i_cl (x := hnn) (by omega)
                        have clc132 := i_cl (x := v130) (by omega)
                        have clc133 := i_cl (x := v125) (by omega)
                        have clc134 := i_cl (x := v127) (by omega)
                        have clc135 := i_cl (x := v129) (by omega)
                        have en9 : v130.toNatClampNeg = hnn.toNatClampNeg + 1 := by omega
                        exact ih17 (upd (upd (upd mnlq v125.toNatClampNeg sk67) v127.toNatClampNeg jdays) v129.toNatClampNeg sk90, ycu, ytk, yfr, yti, yfa, yfb, v130) ls H locs ⟨(by omega), (by omega), (by omega), (by omega), (by omega), (by omega), (by rw [en9]; exact duOk_s g14 (by omega) (by omega)), (by rw [en9]; exact mlQ_up g15 rfl (by omega) (by omega) (by omega) (by omega) (show _ = lnD mtp ln.toNatClampNeg (poL mtp ln.toNatClampNeg hnn.toNatClampNeg) by unfold lnD; omega) (show _ = lnP mtp ln.toNatClampNeg (poL mtp ln.toNatClampNeg hnn.toNatClampNeg) by unfold lnP; omega)), (by rw [en9, poL_s]; exact Or.inl ⟨by omega, by omega, by omega, by omega⟩), lv_sub hl [0] rfl, hP.sub [0, 1, 2, 3] rfl, hD.sub [0, 1, 2, 3] (by decide +kernel) rfl, hS⟩ (by show 13 - v130.toInt < _; omega)
                    · intro hj102
                      refine lv_aload_n hx hb dX11_duties_221 rfl (lv_at hl 1 rfl) ?_
                      refine va_get (D := D) (ci := 11) (v := .int pfa) (C := RX11) (T := TX11) (N := 64) hx hb hts inX11_duties_X11 hown hK hP 2 rfl rfl 42 (by decide) (hts (Cond.fieldLink RX11 271 "PortRoomsModel" "fault" "I") (wm_t (wm_l (wm_l (wm_i 4 rfl))))) (fun _ h9 => h9) rfl dX11_duties_222 ?_
                      refine lv_if_ne (tgt := 238) hx hb dX11_duties_225 (by decide) (fun c136 => ?_) (fun c136 => ?_)
                      · skip
                        have f137 := i_ne c136
                        exact hj102 (pcu, ptk, pfr, pti, pfa, pfb) ls _ _ ⟨(by omega), (by omega), (by omega), (by omega), (by omega), lv_sub hl [1, 2, 3, 0] rfl, hP.sub [0, 1, 2, 3] rfl, hD.sub [0, 1, 2, 3] (by decide +kernel) rfl, hS⟩
                      · skip
                        have f138 := i_eq c136
                        have hT4 : pfa.toInt = 0 ∧ pfr.toInt = (tS mtp ln.toNatClampNeg (tE mtp ln.toNatClampNeg (tE mtp ln.toNatClampNeg (acP mtp ln.toNatClampNeg (tE mtp ln.toNatClampNeg (poL mtp ln.toNatClampNeg hnn.toNatClampNeg))))) : Int) ∧ pcu.toInt = (tE mtp ln.toNatClampNeg (tE mtp ln.toNatClampNeg (tE mtp ln.toNatClampNeg (acP mtp ln.toNatClampNeg (tE mtp ln.toNatClampNeg (poL mtp ln.toNatClampNeg hnn.toNatClampNeg))))) : Int) ∧ ptk.toInt = mK mtp ln.toNatClampNeg (tE mtp ln.toNatClampNeg (tE mtp ln.toNatClampNeg (acP mtp ln.toNatClampNeg (tE mtp ln.toNatClampNeg (poL mtp ln.toNatClampNeg hnn.toNatClampNeg))))) ∧ hnn.toInt < 12 ∧ tK mtp ln.toNatClampNeg (poL mtp ln.toNatClampNeg hnn.toNatClampNeg) < 4 ∧ acR mtp ln.toNatClampNeg (tE mtp ln.toNatClampNeg (poL mtp ln.toNatClampNeg hnn.toNatClampNeg)) = 0 ∧ jdays.toInt = acD mtp ln.toNatClampNeg (tE mtp ln.toNatClampNeg (poL mtp ln.toNatClampNeg hnn.toNatClampNeg)) ∧ tK mtp ln.toNatClampNeg (acP mtp ln.toNatClampNeg (tE mtp ln.toNatClampNeg (poL mtp ln.toNatClampNeg hnn.toNatClampNeg))) = 4 ∧ tK mtp ln.toNatClampNeg (tE mtp ln.toNatClampNeg (acP mtp ln.toNatClampNeg (tE mtp ln.toNatClampNeg (poL mtp ln.toNatClampNeg hnn.toNatClampNeg)))) = 5 ∧ sk90.toInt = tN mtp ln.toNatClampNeg (tE mtp ln.toNatClampNeg (acP mtp ln.toNatClampNeg (tE mtp ln.toNatClampNeg (poL mtp ln.toNatClampNeg hnn.toNatClampNeg)))) ∧ tN mtp ln.toNatClampNeg (tE mtp ln.toNatClampNeg (acP mtp ln.toNatClampNeg (tE mtp ln.toNatClampNeg (poL mtp ln.toNatClampNeg hnn.toNatClampNeg)))) ≤ 100 := by rcases g95 with h9 | h9 <;> first | exact h9 | (exfalso; omega)
                        have hel9 := tE_le (T := mtp) (L := ln.toNatClampNeg) hpl9
                        have hal9 := acP_le (T := mtp) (L := ln.toNatClampNeg) (c := (tE mtp ln.toNatClampNeg (poL mtp ln.toNatClampNeg hnn.toNatClampNeg))) (by omega)
                        have heb9 := tE_le (T := mtp) (L := ln.toNatClampNeg) hal9
                        have hec9 := tE_le (T := mtp) (L := ln.toNatClampNeg) heb9.2.1
                        have hle4 : (tE mtp ln.toNatClampNeg (tE mtp ln.toNatClampNeg (acP mtp ln.toNatClampNeg (tE mtp ln.toNatClampNeg (poL mtp ln.toNatClampNeg hnn.toNatClampNeg))))) ≤ ln.toNatClampNeg := by omega
                        have hel4 := tE_le (T := mtp) (L := ln.toNatClampNeg) hle4
                        have hsemi4 := (tk_f (T := mtp) (L := ln.toNatClampNeg) hle4).2.2.1
                        have hlt4 := (tk_f (T := mtp) (L := ln.toNatClampNeg) hle4).2.2.2.2.2.2
                        refine lv_aload_n hx hb dX11_duties_228 rfl (lv_at hl 1 rfl) ?_
                        refine lv_aload_n hx hb dX11_duties_229 rfl (lv_at hl 1 rfl) ?_
                        refine lv_bipush (v := 59) hx hb dX11_duties_230 (by decide) ?_
                        refine st_i1 (va_runV (C := RX11) (As := [.int 59]) (rest := [.ref (md 64)]) ⟨hx, hb, hml, hown, hts⟩ (ct_X11_is l D cI cY cJ cQ _ md sd 0 mst hn cn pn mq gn mln hnn 0 mlt ln pcu ptk pfr pti pfa pfb an un lc td mtn mtp (59 : Int32) (by omega) (by omega) (by omega)) (cwV 1 hts gX11_duties_X11_is rfl rfl rfl ⟨rfl, cdX11_is⟩ ⟨Nat.le_of_ble_eq_true rfl, Nat.le_of_ble_eq_true rfl⟩) (cPreV (hP.sub [2, 3] rfl) hK (hD.sub [2, 3] (by decide +kernel) rfl) hN (ci := 11) (q0 := 0) rfl rfl) rfl rfl hl.1 rfl (lv_room (Nat.le_of_ble_eq_true rfl)) dX11_duties_232 ⟨Nat.le_of_ble_eq_true rfl, Nat.le_of_ble_eq_true rfl⟩) hP hD hS hA [2, 3] rfl (fun _ => rfl) (fun r141 u139 H locs hw140 => ?_)
                        clear hP hS
                        intro hP hS
                        replace hw140 : r141 = if ptk.toInt = 4 ∧ (mtp pfr.toNatClampNeg).toInt = (59 : Int32).toInt then 1 else 0 := hw140
                        have hrb9 := bo_or hw140
                        have clc142 := i_cl (x := pfr) (by omega)
                        have hiy9 : (mtp pfr.toNatClampNeg).toInt = (mtp (tS mtp ln.toNatClampNeg (tE mtp ln.toNatClampNeg (tE mtp ln.toNatClampNeg (acP mtp ln.toNatClampNeg (tE mtp ln.toNatClampNeg (poL mtp ln.toNatClampNeg hnn.toNatClampNeg))))))).toInt := by rw [show pfr.toNatClampNeg = tS mtp ln.toNatClampNeg (tE mtp ln.toNatClampNeg (tE mtp ln.toNatClampNeg (acP mtp ln.toNatClampNeg (tE mtp ln.toNatClampNeg (poL mtp ln.toNatClampNeg hnn.toNatClampNeg))))) by omega]
                        refine st_v (wr := [(aI cI (md 31) 36 mli), (aI cI (md 33) 36 mnlq)]) (va_runV (C := RX11) (As := [.int r141]) (rest := []) ⟨hx, hb, hml, hown, hts⟩ (ct_X11_need l D cI cY cJ cQ _ md sd 0 mst hn cn pn mq gn mln hnn 0 mlt ln pcu ptk pfr pti pfa pfb an un lc td mtn mtp r141 h1 h2 (by omega) (by omega) (by omega) (by omega) (by omega) h5) (cwV 1 hts gX11_duties_X11_need rfl rfl rfl ⟨rfl, cdX11_need⟩ ⟨Nat.le_of_ble_eq_true rfl, Nat.le_of_ble_eq_true rfl⟩) (cPreV (hP.sub [2, 3] rfl) hK (hD.sub [2, 3] (by decide +kernel) rfl) hN (ci := 11) (q0 := 0) rfl rfl) rfl rfl hl.1 rfl (lv_room (Nat.le_of_ble_eq_true rfl)) dX11_duties_235 ⟨Nat.le_of_ble_eq_true rfl, Nat.le_of_ble_eq_true rfl⟩) hP hD hS hA [2, 3] [0, 1] rfl rfl (by decide +kernel) (by decide +kernel) (fun u143 H locs hw144 => ?_)
                        clear hP hD hS
                        intro hP hD hS
                        obtain ⟨mcu_146, mtk_147, mfr_148, mti_149, mfa_150, mfb_151⟩ := u143
                        replace hw144 : 0 ≤ mfr_148.toInt ∧ mfr_148.toInt ≤ mcu_146.toInt ∧ mcu_146.toInt ≤ ln.toInt ∧ mti_149.toInt = mcu_146.toInt ∧ ((¬ pfa.toInt = 0 ∧ mfa_150.toInt = pfa.toInt ∧ mfb_151.toInt = pfb.toInt ∧ mfr_148.toInt = pfr.toInt ∧ mcu_146.toInt = pcu.toInt ∧ mtk_147.toInt = ptk.toInt) ∨ (pfa.toInt = 0 ∧ ¬ r141.toInt = 0 ∧ mfa_150.toInt = 0 ∧ mfr_148.toInt = (tS mtp ln.toNatClampNeg pcu.toNatClampNeg : Int) ∧ mcu_146.toInt = (tE mtp ln.toNatClampNeg pcu.toNatClampNeg : Int) ∧ mti_149.toInt = mcu_146.toInt ∧ mtk_147.toInt = mK mtp ln.toNatClampNeg pcu.toNatClampNeg) ∨ (pfa.toInt = 0 ∧ r141.toInt = 0 ∧ mfa_150.toInt = 1 ∧ mfb_151.toInt = pfr.toInt ∧ mfr_148.toInt = pfr.toInt ∧ mcu_146.toInt = pcu.toInt ∧ mtk_147.toInt = ptk.toInt)) := hw144
                        replace hP : va_P D vwCl [(aI cI (md 31) 36 mli), (aI cI (md 33) 36 mnlq), (moC md sd (0) mst hn cn pn mq gn mln hnn (0) mlt ln mcu_146 mtk_147 mfr_148 mti_149 mfa_150 mfb_151 an un lc td mtn), (aI cI (md 34) 300 mtp)] H := hP
                        replace hD : va_D A [(aI cI (md 31) 36 mli), (aI cI (md 33) 36 mnlq), (moC md sd (0) mst hn cn pn mq gn mln hnn (0) mlt ln mcu_146 mtk_147 mfr_148 mti_149 mfa_150 mfb_151 an un lc td mtn), (aI cI (md 34) 300 mtp)] := hD
                        have cphw144 := i_cl (x := pcu) (by omega)
                        have ephw144 : pcu.toNatClampNeg = tE mtp ln.toNatClampNeg (tE mtp ln.toNatClampNeg (tE mtp ln.toNatClampNeg (acP mtp ln.toNatClampNeg (tE mtp ln.toNatClampNeg (poL mtp ln.toNatClampNeg hnn.toNatClampNeg))))) := by omega
                        rw [ephw144] at hw144
                        have clc152 := i_cl (x := hnn) (by omega)
                        obtain ⟨hb2a, hb2b, hb2c⟩ := du_b2 (T := mtp) (L := ln.toNatClampNeg) (n := hnn.toNatClampNeg) (by omega) (by omega) (by omega) (by omega)
                        have hpc9 : ¬ tK mtp ln.toNatClampNeg (tE mtp ln.toNatClampNeg (tE mtp ln.toNatClampNeg (acP mtp ln.toNatClampNeg (tE mtp ln.toNatClampNeg (poL mtp ln.toNatClampNeg hnn.toNatClampNeg))))) = 6 → paR mtp ln.toNatClampNeg (tE mtp ln.toNatClampNeg (acP mtp ln.toNatClampNeg (tE mtp ln.toNatClampNeg (poL mtp ln.toNatClampNeg hnn.toNatClampNeg)))) = 1 ∧ tS mtp ln.toNatClampNeg (lnN mtp ln.toNatClampNeg (poL mtp ln.toNatClampNeg hnn.toNatClampNeg)) = tS mtp ln.toNatClampNeg (tE mtp ln.toNatClampNeg (tE mtp ln.toNatClampNeg (acP mtp ln.toNatClampNeg (tE mtp ln.toNatClampNeg (poL mtp ln.toNatClampNeg hnn.toNatClampNeg))))) := fun h => ⟨by unfold paR; rw [if_neg (by omega), if_neg (by omega), if_pos h], by unfold lnN paP; rw [if_neg (by omega), if_neg (by omega), if_pos h]⟩
                        have hpd9 : tK mtp ln.toNatClampNeg (tE mtp ln.toNatClampNeg (tE mtp ln.toNatClampNeg (acP mtp ln.toNatClampNeg (tE mtp ln.toNatClampNeg (poL mtp ln.toNatClampNeg hnn.toNatClampNeg))))) = 6 → paR mtp ln.toNatClampNeg (tE mtp ln.toNatClampNeg (acP mtp ln.toNatClampNeg (tE mtp ln.toNatClampNeg (poL mtp ln.toNatClampNeg hnn.toNatClampNeg)))) = 0 ∧ tS mtp ln.toNatClampNeg (lnN mtp ln.toNatClampNeg (poL mtp ln.toNatClampNeg hnn.toNatClampNeg)) = tS mtp ln.toNatClampNeg (tE mtp ln.toNatClampNeg (tE mtp ln.toNatClampNeg (tE mtp ln.toNatClampNeg (acP mtp ln.toNatClampNeg (tE mtp ln.toNatClampNeg (poL mtp ln.toNatClampNeg hnn.toNatClampNeg)))))) ∧ tE mtp ln.toNatClampNeg (lnN mtp ln.toNatClampNeg (poL mtp ln.toNatClampNeg hnn.toNatClampNeg)) = tE mtp ln.toNatClampNeg (tE mtp ln.toNatClampNeg (tE mtp ln.toNatClampNeg (tE mtp ln.toNatClampNeg (acP mtp ln.toNatClampNeg (tE mtp ln.toNatClampNeg (poL mtp ln.toNatClampNeg hnn.toNatClampNeg)))))) ∧ mK mtp ln.toNatClampNeg (lnN mtp ln.toNatClampNeg (poL mtp ln.toNatClampNeg hnn.toNatClampNeg)) = mK mtp ln.toNatClampNeg (tE mtp ln.toNatClampNeg (tE mtp ln.toNatClampNeg (tE mtp ln.toNatClampNeg (acP mtp ln.toNatClampNeg (tE mtp ln.toNatClampNeg (poL mtp ln.toNatClampNeg hnn.toNatClampNeg)))))) := fun h => by have el : lnN mtp ln.toNatClampNeg (poL mtp ln.toNatClampNeg hnn.toNatClampNeg) = tE mtp ln.toNatClampNeg (tE mtp ln.toNatClampNeg (tE mtp ln.toNatClampNeg (acP mtp ln.toNatClampNeg (tE mtp ln.toNatClampNeg (poL mtp ln.toNatClampNeg hnn.toNatClampNeg))))) := (by unfold lnN paP; rw [if_neg (by omega), if_neg (by omega), if_neg (by omega)]); rw [el]; exact ⟨by unfold paR; rw [if_neg (by omega), if_neg (by omega), if_neg (by omega)], rfl, rfl, rfl⟩
                        exact hj102 (mcu_146, mtk_147, mfr_148, mti_149, mfa_150, mfb_151) ls _ _ ⟨(by omega), (by omega), (by omega), (by omega), (by omega), lv_sub hl [1, 2, 3, 0] rfl, hP.sub [0, 1, 2, 3] rfl, hD.sub [0, 1, 2, 3] (by decide +kernel) rfl, hS⟩
                  · intro hj96
                    refine lv_aload_n hx hb dX11_duties_202 rfl (lv_at hl 0 rfl) ?_
                    refine va_get (D := D) (ci := 11) (v := .int ofa) (C := RX11) (T := TX11) (N := 64) hx hb hts inX11_duties_X11 hown hK hP 2 rfl rfl 42 (by decide) (hts (Cond.fieldLink RX11 271 "PortRoomsModel" "fault" "I") (wm_t (wm_l (wm_l (wm_i 4 rfl))))) (fun _ h9 => h9) rfl dX11_duties_203 ?_
                    refine lv_if_ne (tgt := 218) hx hb dX11_duties_206 (by decide) (fun c153 => ?_) (fun c153 => ?_)
                    · skip
                      have f154 := i_ne c153
                      refine lv_iconst (v := 0) hx hb dX11_duties_218 (by decide) ?_
                      exact hj96 (ocu, otk, ofr, oti, ofa, ofb, (0 : Int32)) ls _ _ ⟨(by omega), (by omega), (by omega), (by omega), (by omega), lv_sub hl [0, 1, 2] rfl, hP.sub [0, 1, 2, 3] rfl, hD.sub [0, 1, 2, 3] (by decide +kernel) rfl, hS⟩
                    · skip
                      have f155 := i_eq c153
                      have hT3 : ofa.toInt = 0 ∧ ofr.toInt = (tS mtp ln.toNatClampNeg (tE mtp ln.toNatClampNeg (acP mtp ln.toNatClampNeg (tE mtp ln.toNatClampNeg (poL mtp ln.toNatClampNeg hnn.toNatClampNeg)))) : Int) ∧ ocu.toInt = (tE mtp ln.toNatClampNeg (tE mtp ln.toNatClampNeg (acP mtp ln.toNatClampNeg (tE mtp ln.toNatClampNeg (poL mtp ln.toNatClampNeg hnn.toNatClampNeg)))) : Int) ∧ otk.toInt = mK mtp ln.toNatClampNeg (tE mtp ln.toNatClampNeg (acP mtp ln.toNatClampNeg (tE mtp ln.toNatClampNeg (poL mtp ln.toNatClampNeg hnn.toNatClampNeg)))) ∧ hnn.toInt < 12 ∧ tK mtp ln.toNatClampNeg (poL mtp ln.toNatClampNeg hnn.toNatClampNeg) < 4 ∧ acR mtp ln.toNatClampNeg (tE mtp ln.toNatClampNeg (poL mtp ln.toNatClampNeg hnn.toNatClampNeg)) = 0 ∧ jdays.toInt = acD mtp ln.toNatClampNeg (tE mtp ln.toNatClampNeg (poL mtp ln.toNatClampNeg hnn.toNatClampNeg)) ∧ tK mtp ln.toNatClampNeg (acP mtp ln.toNatClampNeg (tE mtp ln.toNatClampNeg (poL mtp ln.toNatClampNeg hnn.toNatClampNeg))) = 4 := by rcases g88 with h9 | h9 <;> first | exact h9 | (exfalso; omega)
                      have hel9 := tE_le (T := mtp) (L := ln.toNatClampNeg) hpl9
                      have hal9 := acP_le (T := mtp) (L := ln.toNatClampNeg) (c := (tE mtp ln.toNatClampNeg (poL mtp ln.toNatClampNeg hnn.toNatClampNeg))) (by omega)
                      have heb9 := tE_le (T := mtp) (L := ln.toNatClampNeg) hal9
                      have hle3 : (tE mtp ln.toNatClampNeg (acP mtp ln.toNatClampNeg (tE mtp ln.toNatClampNeg (poL mtp ln.toNatClampNeg hnn.toNatClampNeg)))) ≤ ln.toNatClampNeg := by omega
                      have hel3 := tE_le (T := mtp) (L := ln.toNatClampNeg) hle3
                      have hnum3 := (tk_f (T := mtp) (L := ln.toNatClampNeg) hle3).2.1
                      have hlen43 := (tk_f (T := mtp) (L := ln.toNatClampNeg) hle3).2.2.2.2.1
                      refine lv_aload_n hx hb dX11_duties_209 rfl (lv_at hl 0 rfl) ?_
                      refine lv_bipush (v := 100) hx hb dX11_duties_210 (by decide) ?_
                      refine st_i (wr := [(aI cI (md 31) 36 mli), (aI cI (md 33) 36 mnlq)]) (va_runV (C := RX11) (As := [.int 100]) (rest := []) ⟨hx, hb, hml, hown, hts⟩ (ct_X11_numberUpTo l D cI cY cJ cQ _ md sd 0 mst hn cn pn mq gn mln hnn 0 mlt ln ocu otk ofr oti ofa ofb an un lc td mtn mtp (100 : Int32) h1 h2 (by omega) (by omega) (by omega) (by omega) (by omega) h5 (by omega) (by omega)) (cwV 1 hts gX11_duties_X11_numberUpTo rfl rfl rfl ⟨rfl, cdX11_numberUpTo⟩ ⟨Nat.le_of_ble_eq_true rfl, Nat.le_of_ble_eq_true rfl⟩) (cPreV (hP.sub [2, 3] rfl) hK (hD.sub [2, 3] (by decide +kernel) rfl) hN (ci := 11) (q0 := 0) rfl rfl) rfl rfl hl.1 rfl (lv_room (Nat.le_of_ble_eq_true rfl)) dX11_duties_212 ⟨Nat.le_of_ble_eq_true rfl, Nat.le_of_ble_eq_true rfl⟩) hP hD hS hA [2, 3] [0, 1] rfl rfl (by decide +kernel) (by decide +kernel) (fun r158 u156 H locs hw157 => ?_)
                      clear hP hD hS
                      intro hP hD hS
                      obtain ⟨mcu_159, mtk_160, mfr_161, mti_162, mfa_163, mfb_164⟩ := u156
                      replace hw157 : 0 ≤ mfr_161.toInt ∧ mfr_161.toInt ≤ mcu_159.toInt ∧ mcu_159.toInt ≤ ln.toInt ∧ mti_162.toInt = mcu_159.toInt ∧ ((otk.toInt = 3 ∧ nmV mtp ofr.toNatClampNeg (oti.toNatClampNeg - ofr.toNatClampNeg) ≤ (100 : Int32).toInt ∧ r158.toInt = nmV mtp ofr.toNatClampNeg (oti.toNatClampNeg - ofr.toNatClampNeg) ∧ mfa_163.toInt = 0 ∧ mfr_161.toInt = (tS mtp ln.toNatClampNeg ocu.toNatClampNeg : Int) ∧ mcu_159.toInt = (tE mtp ln.toNatClampNeg ocu.toNatClampNeg : Int) ∧ mti_162.toInt = mcu_159.toInt ∧ mtk_160.toInt = mK mtp ln.toNatClampNeg ocu.toNatClampNeg) ∨ (otk.toInt = 3 ∧ (100 : Int32).toInt < nmV mtp ofr.toNatClampNeg (oti.toNatClampNeg - ofr.toNatClampNeg) ∧ mfa_163.toInt = 2 ∧ mfb_164.toInt = ofr.toInt) ∨ (¬ otk.toInt = 3 ∧ mfa_163.toInt = 1 ∧ mfb_164.toInt = ofr.toInt)) := hw157
                      replace hP : va_P D vwCl [(aI cI (md 31) 36 mli), (aI cI (md 33) 36 mnlq), (moC md sd (0) mst hn cn pn mq gn mln hnn (0) mlt ln mcu_159 mtk_160 mfr_161 mti_162 mfa_163 mfb_164 an un lc td mtn), (aI cI (md 34) 300 mtp)] H := hP
                      replace hD : va_D A [(aI cI (md 31) 36 mli), (aI cI (md 33) 36 mnlq), (moC md sd (0) mst hn cn pn mq gn mln hnn (0) mlt ln mcu_159 mtk_160 mfr_161 mti_162 mfa_163 mfb_164 an un lc td mtn), (aI cI (md 34) 300 mtp)] := hD
                      have clc165 := i_cl (x := ofr) (by omega)
                      have clc166 := i_cl (x := oti) (by omega)
                      have cphw157 := i_cl (x := ocu) (by omega)
                      have ephw157 : ocu.toNatClampNeg = tE mtp ln.toNatClampNeg (tE mtp ln.toNatClampNeg (acP mtp ln.toNatClampNeg (tE mtp ln.toNatClampNeg (poL mtp ln.toNatClampNeg hnn.toNatClampNeg)))) := by omega
                      have enhw157 : nmV mtp ofr.toNatClampNeg (oti.toNatClampNeg - ofr.toNatClampNeg) = tN mtp ln.toNatClampNeg (tE mtp ln.toNatClampNeg (acP mtp ln.toNatClampNeg (tE mtp ln.toNatClampNeg (poL mtp ln.toNatClampNeg hnn.toNatClampNeg)))) := by unfold tN; rw [show ofr.toNatClampNeg = tS mtp ln.toNatClampNeg (tE mtp ln.toNatClampNeg (acP mtp ln.toNatClampNeg (tE mtp ln.toNatClampNeg (poL mtp ln.toNatClampNeg hnn.toNatClampNeg)))) by omega, show oti.toNatClampNeg = tE mtp ln.toNatClampNeg (tE mtp ln.toNatClampNeg (acP mtp ln.toNatClampNeg (tE mtp ln.toNatClampNeg (poL mtp ln.toNatClampNeg hnn.toNatClampNeg)))) by omega]
                      rw [ephw157, enhw157] at hw157
                      have clc167 := i_cl (x := hnn) (by omega)
                      obtain ⟨hb2a, hb2b, hb2c⟩ := du_b2 (T := mtp) (L := ln.toNatClampNeg) (n := hnn.toNatClampNeg) (by omega) (by omega) (by omega) (by omega)
                      have hpa9 : ¬ tK mtp ln.toNatClampNeg (tE mtp ln.toNatClampNeg (acP mtp ln.toNatClampNeg (tE mtp ln.toNatClampNeg (poL mtp ln.toNatClampNeg hnn.toNatClampNeg)))) = 5 → paR mtp ln.toNatClampNeg (tE mtp ln.toNatClampNeg (acP mtp ln.toNatClampNeg (tE mtp ln.toNatClampNeg (poL mtp ln.toNatClampNeg hnn.toNatClampNeg)))) = 1 ∧ tS mtp ln.toNatClampNeg (lnN mtp ln.toNatClampNeg (poL mtp ln.toNatClampNeg hnn.toNatClampNeg)) = tS mtp ln.toNatClampNeg (tE mtp ln.toNatClampNeg (acP mtp ln.toNatClampNeg (tE mtp ln.toNatClampNeg (poL mtp ln.toNatClampNeg hnn.toNatClampNeg)))) := fun h => ⟨by unfold paR; rw [if_pos h], by unfold lnN paP; rw [if_pos h]⟩
                      have hpb9 : tK mtp ln.toNatClampNeg (tE mtp ln.toNatClampNeg (acP mtp ln.toNatClampNeg (tE mtp ln.toNatClampNeg (poL mtp ln.toNatClampNeg hnn.toNatClampNeg)))) = 5 → 100 < tN mtp ln.toNatClampNeg (tE mtp ln.toNatClampNeg (acP mtp ln.toNatClampNeg (tE mtp ln.toNatClampNeg (poL mtp ln.toNatClampNeg hnn.toNatClampNeg)))) → paR mtp ln.toNatClampNeg (tE mtp ln.toNatClampNeg (acP mtp ln.toNatClampNeg (tE mtp ln.toNatClampNeg (poL mtp ln.toNatClampNeg hnn.toNatClampNeg)))) = 2 ∧ tS mtp ln.toNatClampNeg (lnN mtp ln.toNatClampNeg (poL mtp ln.toNatClampNeg hnn.toNatClampNeg)) = tS mtp ln.toNatClampNeg (tE mtp ln.toNatClampNeg (acP mtp ln.toNatClampNeg (tE mtp ln.toNatClampNeg (poL mtp ln.toNatClampNeg hnn.toNatClampNeg)))) := fun h h2 => ⟨by unfold paR; rw [if_neg (by omega), if_pos h2], by unfold lnN paP; rw [if_neg (by omega), if_pos h2]⟩
                      refine lv_goto (tgt := 219) hx hb dX11_duties_215 (by decide) ?_
                      exact hj96 (mcu_159, mtk_160, mfr_161, mti_162, mfa_163, mfb_164, r158) ls _ _ ⟨(by omega), (by omega), (by omega), (by omega), (by omega), lv_sub hl [0, 1, 2] rfl, hP.sub [0, 1, 2, 3] rfl, hD.sub [0, 1, 2, 3] (by decide +kernel) rfl, hS⟩
                · intro hj89
                  refine lv_aload_n hx hb dX11_duties_175 rfl (lv_at hl 0 rfl) ?_
                  refine va_get (D := D) (ci := 11) (v := .int lfa) (C := RX11) (T := TX11) (N := 64) hx hb hts inX11_duties_X11 hown hK hP 2 rfl rfl 42 (by decide) (hts (Cond.fieldLink RX11 271 "PortRoomsModel" "fault" "I") (wm_t (wm_l (wm_l (wm_i 4 rfl))))) (fun _ h9 => h9) rfl dX11_duties_176 ?_
                  refine lv_if_ne (tgt := 202) hx hb dX11_duties_179 (by decide) (fun c168 => ?_) (fun c168 => ?_)
                  · skip
                    have f169 := i_ne c168
                    exact hj89 (lcu, ltk, lfr, lti, lfa, lfb) ls _ _ ⟨(by omega), (by omega), (by omega), (by omega), (by omega), lv_sub hl [0, 1, 2] rfl, hP.sub [0, 1, 2, 3] rfl, hD.sub [0, 1, 2, 3] (by decide +kernel) rfl, hS⟩
                  · skip
                    have f170 := i_eq c168
                    have hT2 : lfa.toInt = 0 ∧ lfr.toInt = (tS mtp ln.toNatClampNeg (acP mtp ln.toNatClampNeg (tE mtp ln.toNatClampNeg (poL mtp ln.toNatClampNeg hnn.toNatClampNeg))) : Int) ∧ lcu.toInt = (tE mtp ln.toNatClampNeg (acP mtp ln.toNatClampNeg (tE mtp ln.toNatClampNeg (poL mtp ln.toNatClampNeg hnn.toNatClampNeg))) : Int) ∧ ltk.toInt = mK mtp ln.toNatClampNeg (acP mtp ln.toNatClampNeg (tE mtp ln.toNatClampNeg (poL mtp ln.toNatClampNeg hnn.toNatClampNeg))) ∧ hnn.toInt < 12 ∧ tK mtp ln.toNatClampNeg (poL mtp ln.toNatClampNeg hnn.toNatClampNeg) < 4 ∧ acR mtp ln.toNatClampNeg (tE mtp ln.toNatClampNeg (poL mtp ln.toNatClampNeg hnn.toNatClampNeg)) = 0 ∧ jdays.toInt = acD mtp ln.toNatClampNeg (tE mtp ln.toNatClampNeg (poL mtp ln.toNatClampNeg hnn.toNatClampNeg)) := by rcases g82 with h9 | h9 <;> first | exact h9 | (exfalso; omega)
                    have hel9 := tE_le (T := mtp) (L := ln.toNatClampNeg) hpl9
                    have hal9 := acP_le (T := mtp) (L := ln.toNatClampNeg) (c := (tE mtp ln.toNatClampNeg (poL mtp ln.toNatClampNeg hnn.toNatClampNeg))) (by omega)
                    have hle2 : (acP mtp ln.toNatClampNeg (tE mtp ln.toNatClampNeg (poL mtp ln.toNatClampNeg hnn.toNatClampNeg))) ≤ ln.toNatClampNeg := by omega
                    have hel2 := tE_le (T := mtp) (L := ln.toNatClampNeg) hle2
                    have hlen62 := (tk_f (T := mtp) (L := ln.toNatClampNeg) hle2).2.2.2.2.2.1
                    refine lv_aload_n hx hb dX11_duties_182 rfl (lv_at hl 0 rfl) ?_
                    refine lv_aload_n hx hb dX11_duties_183 rfl (lv_at hl 0 rfl) ?_
                    refine st_l1 (va_runV (C := RX11) (As := []) (rest := [.ref (md 64)]) ⟨hx, hb, hml, hown, hts⟩ (ct_X11_word l D cI cY cJ cQ _ md sd 0 mst hn cn pn mq gn mln hnn 0 mlt ln lcu ltk lfr lti lfa lfb an un lc td mtn mtp (by omega) (by omega) (by omega) (by omega) h5 (by omega)) (cwV 0 hts gX11_duties_X11_word rfl rfl rfl ⟨rfl, cdX11_word⟩ ⟨Nat.le_of_ble_eq_true rfl, Nat.le_of_ble_eq_true rfl⟩) (cPreV (hP.sub [2, 3] rfl) hK (hD.sub [2, 3] (by decide +kernel) rfl) hN (ci := 11) (q0 := 0) rfl rfl) rfl rfl hl.1 rfl (lv_room (Nat.le_of_ble_eq_true rfl)) dX11_duties_184 ⟨Nat.le_of_ble_eq_true rfl, Nat.le_of_ble_eq_true rfl⟩) hP hD hS hA [2, 3] rfl (fun _ => rfl) (fun r173 u171 H locs hw172 => ?_)
                    clear hP hS
                    intro hP hS
                    replace hw172 : r173.toInt = (if ltk.toInt = 2 then wvV mtp lfr.toNatClampNeg (lti.toNatClampNeg - lfr.toNatClampNeg) else 0) := hw172
                    have clc174 := i_cl (x := lfr) (by omega)
                    have clc175 := i_cl (x := lti) (by omega)
                    have hwc2 := wd_tk (z := r173.toInt) hle2 (by rw [hw172, show ltk.toInt = mK mtp ln.toNatClampNeg (acP mtp ln.toNatClampNeg (tE mtp ln.toNatClampNeg (poL mtp ln.toNatClampNeg hnn.toNatClampNeg))) by omega, show lfr.toNatClampNeg = tS mtp ln.toNatClampNeg (acP mtp ln.toNatClampNeg (tE mtp ln.toNatClampNeg (poL mtp ln.toNatClampNeg hnn.toNatClampNeg))) by omega, show lti.toNatClampNeg = tE mtp ln.toNatClampNeg (acP mtp ln.toNatClampNeg (tE mtp ln.toNatClampNeg (poL mtp ln.toNatClampNeg hnn.toNatClampNeg))) by omega])
                    clear hw172
                    replace hwc2 := hwc2.2.2.2.2
                    refine lv_ldc2 hx hb hown (hts (Cond.constantLong RX11 308 (1885434484)) (wm_t (wm_l (wm_l (wm_i 12 rfl))))) dX11_duties_187 ?_
                    refine W.lcmp hx hb dX11_duties_190 ?_
                    refine lv_topi (fun v176 ev176 => ?_)
                    refine lv_if_ne (tgt := 198) hx hb dX11_duties_191 (by decide) (fun c177 => ?_) (fun c177 => ?_)
                    · skip
                      have f178 := lc_ne ev176 c177
                      refine lv_iconst (v := 0) hx hb dX11_duties_198 (by decide) ?_
                      refine st_v (wr := [(aI cI (md 31) 36 mli), (aI cI (md 33) 36 mnlq)]) (va_runV (C := RX11) (As := [.int 0]) (rest := []) ⟨hx, hb, hml, hown, hts⟩ (ct_X11_need l D cI cY cJ cQ _ md sd 0 mst hn cn pn mq gn mln hnn 0 mlt ln lcu ltk lfr lti lfa lfb an un lc td mtn mtp (0 : Int32) h1 h2 (by omega) (by omega) (by omega) (by omega) (by omega) h5) (cwV 1 hts gX11_duties_X11_need rfl rfl rfl ⟨rfl, cdX11_need⟩ ⟨Nat.le_of_ble_eq_true rfl, Nat.le_of_ble_eq_true rfl⟩) (cPreV (hP.sub [2, 3] rfl) hK (hD.sub [2, 3] (by decide +kernel) rfl) hN (ci := 11) (q0 := 0) rfl rfl) rfl rfl hl.1 rfl (lv_room (Nat.le_of_ble_eq_true rfl)) dX11_duties_199 ⟨Nat.le_of_ble_eq_true rfl, Nat.le_of_ble_eq_true rfl⟩) hP hD hS hA [2, 3] [0, 1] rfl rfl (by decide +kernel) (by decide +kernel) (fun u179 H locs hw180 => ?_)
                      clear hP hD hS
                      intro hP hD hS
                      obtain ⟨mcu_182, mtk_183, mfr_184, mti_185, mfa_186, mfb_187⟩ := u179
                      replace hw180 : 0 ≤ mfr_184.toInt ∧ mfr_184.toInt ≤ mcu_182.toInt ∧ mcu_182.toInt ≤ ln.toInt ∧ mti_185.toInt = mcu_182.toInt ∧ ((¬ lfa.toInt = 0 ∧ mfa_186.toInt = lfa.toInt ∧ mfb_187.toInt = lfb.toInt ∧ mfr_184.toInt = lfr.toInt ∧ mcu_182.toInt = lcu.toInt ∧ mtk_183.toInt = ltk.toInt) ∨ (lfa.toInt = 0 ∧ ¬ (0 : Int32).toInt = 0 ∧ mfa_186.toInt = 0 ∧ mfr_184.toInt = (tS mtp ln.toNatClampNeg lcu.toNatClampNeg : Int) ∧ mcu_182.toInt = (tE mtp ln.toNatClampNeg lcu.toNatClampNeg : Int) ∧ mti_185.toInt = mcu_182.toInt ∧ mtk_183.toInt = mK mtp ln.toNatClampNeg lcu.toNatClampNeg) ∨ (lfa.toInt = 0 ∧ (0 : Int32).toInt = 0 ∧ mfa_186.toInt = 1 ∧ mfb_187.toInt = lfr.toInt ∧ mfr_184.toInt = lfr.toInt ∧ mcu_182.toInt = lcu.toInt ∧ mtk_183.toInt = ltk.toInt)) := hw180
                      replace hP : va_P D vwCl [(aI cI (md 31) 36 mli), (aI cI (md 33) 36 mnlq), (moC md sd (0) mst hn cn pn mq gn mln hnn (0) mlt ln mcu_182 mtk_183 mfr_184 mti_185 mfa_186 mfb_187 an un lc td mtn), (aI cI (md 34) 300 mtp)] H := hP
                      replace hD : va_D A [(aI cI (md 31) 36 mli), (aI cI (md 33) 36 mnlq), (moC md sd (0) mst hn cn pn mq gn mln hnn (0) mlt ln mcu_182 mtk_183 mfr_184 mti_185 mfa_186 mfb_187 an un lc td mtn), (aI cI (md 34) 300 mtp)] := hD
                      have cphw180 := i_cl (x := lcu) (by omega)
                      have ephw180 : lcu.toNatClampNeg = tE mtp ln.toNatClampNeg (acP mtp ln.toNatClampNeg (tE mtp ln.toNatClampNeg (poL mtp ln.toNatClampNeg hnn.toNatClampNeg))) := by omega
                      rw [ephw180] at hw180
                      have clc188 := i_cl (x := hnn) (by omega)
                      have hb19 : ¬ tK mtp ln.toNatClampNeg (acP mtp ln.toNatClampNeg (tE mtp ln.toNatClampNeg (poL mtp ln.toNatClampNeg hnn.toNatClampNeg))) = 4 → dcF mtp ln.toNatClampNeg hnn.toNatClampNeg = 1 ∧ dpF mtp ln.toNatClampNeg hnn.toNatClampNeg = tS mtp ln.toNatClampNeg (acP mtp ln.toNatClampNeg (tE mtp ln.toNatClampNeg (poL mtp ln.toNatClampNeg hnn.toNatClampNeg))) := fun h => du_b1 (by omega) (by omega) (by omega) h
                      exact hj89 (mcu_182, mtk_183, mfr_184, mti_185, mfa_186, mfb_187) ls _ _ ⟨(by omega), (by omega), (by omega), (by omega), (by omega), lv_sub hl [0, 1, 2] rfl, hP.sub [0, 1, 2, 3] rfl, hD.sub [0, 1, 2, 3] (by decide +kernel) rfl, hS⟩
                    · skip
                      have f189 := lc_eq ev176 c177
                      refine lv_iconst (v := 1) hx hb dX11_duties_194 (by decide) ?_
                      refine lv_goto (tgt := 199) hx hb dX11_duties_195 (by decide) ?_
                      refine st_v (wr := [(aI cI (md 31) 36 mli), (aI cI (md 33) 36 mnlq)]) (va_runV (C := RX11) (As := [.int 1]) (rest := []) ⟨hx, hb, hml, hown, hts⟩ (ct_X11_need l D cI cY cJ cQ _ md sd 0 mst hn cn pn mq gn mln hnn 0 mlt ln lcu ltk lfr lti lfa lfb an un lc td mtn mtp (1 : Int32) h1 h2 (by omega) (by omega) (by omega) (by omega) (by omega) h5) (cwV 1 hts gX11_duties_X11_need rfl rfl rfl ⟨rfl, cdX11_need⟩ ⟨Nat.le_of_ble_eq_true rfl, Nat.le_of_ble_eq_true rfl⟩) (cPreV (hP.sub [2, 3] rfl) hK (hD.sub [2, 3] (by decide +kernel) rfl) hN (ci := 11) (q0 := 0) rfl rfl) rfl rfl hl.1 rfl (lv_room (Nat.le_of_ble_eq_true rfl)) dX11_duties_199 ⟨Nat.le_of_ble_eq_true rfl, Nat.le_of_ble_eq_true rfl⟩) hP hD hS hA [2, 3] [0, 1] rfl rfl (by decide +kernel) (by decide +kernel) (fun u190 H locs hw191 => ?_)
                      clear hP hD hS
                      intro hP hD hS
                      obtain ⟨mcu_193, mtk_194, mfr_195, mti_196, mfa_197, mfb_198⟩ := u190
                      replace hw191 : 0 ≤ mfr_195.toInt ∧ mfr_195.toInt ≤ mcu_193.toInt ∧ mcu_193.toInt ≤ ln.toInt ∧ mti_196.toInt = mcu_193.toInt ∧ ((¬ lfa.toInt = 0 ∧ mfa_197.toInt = lfa.toInt ∧ mfb_198.toInt = lfb.toInt ∧ mfr_195.toInt = lfr.toInt ∧ mcu_193.toInt = lcu.toInt ∧ mtk_194.toInt = ltk.toInt) ∨ (lfa.toInt = 0 ∧ ¬ (1 : Int32).toInt = 0 ∧ mfa_197.toInt = 0 ∧ mfr_195.toInt = (tS mtp ln.toNatClampNeg lcu.toNatClampNeg : Int) ∧ mcu_193.toInt = (tE mtp ln.toNatClampNeg lcu.toNatClampNeg : Int) ∧ mti_196.toInt = mcu_193.toInt ∧ mtk_194.toInt = mK mtp ln.toNatClampNeg lcu.toNatClampNeg) ∨ (lfa.toInt = 0 ∧ (1 : Int32).toInt = 0 ∧ mfa_197.toInt = 1 ∧ mfb_198.toInt = lfr.toInt ∧ mfr_195.toInt = lfr.toInt ∧ mcu_193.toInt = lcu.toInt ∧ mtk_194.toInt = ltk.toInt)) := hw191
                      replace hP : va_P D vwCl [(aI cI (md 31) 36 mli), (aI cI (md 33) 36 mnlq), (moC md sd (0) mst hn cn pn mq gn mln hnn (0) mlt ln mcu_193 mtk_194 mfr_195 mti_196 mfa_197 mfb_198 an un lc td mtn), (aI cI (md 34) 300 mtp)] H := hP
                      replace hD : va_D A [(aI cI (md 31) 36 mli), (aI cI (md 33) 36 mnlq), (moC md sd (0) mst hn cn pn mq gn mln hnn (0) mlt ln mcu_193 mtk_194 mfr_195 mti_196 mfa_197 mfb_198 an un lc td mtn), (aI cI (md 34) 300 mtp)] := hD
                      have cphw191 := i_cl (x := lcu) (by omega)
                      have ephw191 : lcu.toNatClampNeg = tE mtp ln.toNatClampNeg (acP mtp ln.toNatClampNeg (tE mtp ln.toNatClampNeg (poL mtp ln.toNatClampNeg hnn.toNatClampNeg))) := by omega
                      rw [ephw191] at hw191
                      have clc199 := i_cl (x := hnn) (by omega)
                      have hb19 : ¬ tK mtp ln.toNatClampNeg (acP mtp ln.toNatClampNeg (tE mtp ln.toNatClampNeg (poL mtp ln.toNatClampNeg hnn.toNatClampNeg))) = 4 → dcF mtp ln.toNatClampNeg hnn.toNatClampNeg = 1 ∧ dpF mtp ln.toNatClampNeg hnn.toNatClampNeg = tS mtp ln.toNatClampNeg (acP mtp ln.toNatClampNeg (tE mtp ln.toNatClampNeg (poL mtp ln.toNatClampNeg hnn.toNatClampNeg))) := fun h => du_b1 (by omega) (by omega) (by omega) h
                      exact hj89 (mcu_193, mtk_194, mfr_195, mti_196, mfa_197, mfb_198) ls _ _ ⟨(by omega), (by omega), (by omega), (by omega), (by omega), lv_sub hl [0, 1, 2] rfl, hP.sub [0, 1, 2, 3] rfl, hD.sub [0, 1, 2, 3] (by decide +kernel) rfl, hS⟩
              · intro hj83
                refine lv_aload_n hx hb dX11_duties_146 rfl (lv_at hl 1 rfl) ?_
                refine va_get (D := D) (ci := 11) (v := .int kfa) (C := RX11) (T := TX11) (N := 64) hx hb hts inX11_duties_X11 hown hK hP 2 rfl rfl 42 (by decide) (hts (Cond.fieldLink RX11 271 "PortRoomsModel" "fault" "I") (wm_t (wm_l (wm_l (wm_i 4 rfl))))) (fun _ h9 => h9) rfl dX11_duties_147 ?_
                refine lv_if_ne (tgt := 175) hx hb dX11_duties_150 (by decide) (fun c200 => ?_) (fun c200 => ?_)
                · skip
                  have f201 := i_ne c200
                  exact hj83 (((-1) : Int32), kcu, ktk, kfr, kti, kfa, kfb) ls _ _ ⟨(by omega), (by omega), (by omega), (by omega), (by omega), lv_sub hl [1, 2, 0] rfl, hP.sub [0, 1, 2, 3] rfl, hD.sub [0, 1, 2, 3] (by decide +kernel) rfl, hS⟩
                · skip
                  have f202 := i_eq c200
                  have hT1 : kfa.toInt = 0 ∧ kfr.toInt = (tS mtp ln.toNatClampNeg (tE mtp ln.toNatClampNeg (poL mtp ln.toNatClampNeg hnn.toNatClampNeg)) : Int) ∧ kcu.toInt = (tE mtp ln.toNatClampNeg (tE mtp ln.toNatClampNeg (poL mtp ln.toNatClampNeg hnn.toNatClampNeg)) : Int) ∧ ktk.toInt = mK mtp ln.toNatClampNeg (tE mtp ln.toNatClampNeg (poL mtp ln.toNatClampNeg hnn.toNatClampNeg)) ∧ hnn.toInt < 12 ∧ tK mtp ln.toNatClampNeg (poL mtp ln.toNatClampNeg hnn.toNatClampNeg) < 4 := by rcases g76 with h9 | h9 <;> first | exact h9 | (exfalso; omega)
                  have hle1 : (tE mtp ln.toNatClampNeg (poL mtp ln.toNatClampNeg hnn.toNatClampNeg)) ≤ ln.toNatClampNeg := by omega
                  have hel1 := tE_le (T := mtp) (L := ln.toNatClampNeg) hle1
                  have hmore1 := (tk_f (T := mtp) (L := ln.toNatClampNeg) hle1).2.2.2.1
                  have hlt1 := (tk_f (T := mtp) (L := ln.toNatClampNeg) hle1).2.2.2.2.2.2
                  refine lv_aload_n hx hb dX11_duties_153 rfl (lv_at hl 1 rfl) ?_
                  refine lv_bipush (v := 62) hx hb dX11_duties_154 (by decide) ?_
                  refine st_i1 (va_runV (C := RX11) (As := [.int 62]) (rest := []) ⟨hx, hb, hml, hown, hts⟩ (ct_X11_is l D cI cY cJ cQ _ md sd 0 mst hn cn pn mq gn mln hnn 0 mlt ln kcu ktk kfr kti kfa kfb an un lc td mtn mtp (62 : Int32) (by omega) (by omega) (by omega)) (cwV 1 hts gX11_duties_X11_is rfl rfl rfl ⟨rfl, cdX11_is⟩ ⟨Nat.le_of_ble_eq_true rfl, Nat.le_of_ble_eq_true rfl⟩) (cPreV (hP.sub [2, 3] rfl) hK (hD.sub [2, 3] (by decide +kernel) rfl) hN (ci := 11) (q0 := 0) rfl rfl) rfl rfl hl.1 rfl (lv_room (Nat.le_of_ble_eq_true rfl)) dX11_duties_156 ⟨Nat.le_of_ble_eq_true rfl, Nat.le_of_ble_eq_true rfl⟩) hP hD hS hA [2, 3] rfl (fun _ => rfl) (fun r205 u203 H locs hw204 => ?_)
                  clear hP hS
                  intro hP hS
                  replace hw204 : r205 = if ktk.toInt = 4 ∧ (mtp kfr.toNatClampNeg).toInt = (62 : Int32).toInt then 1 else 0 := hw204
                  have clc206 := i_cl (x := kfr) (by omega)
                  have hix9 : (mtp kfr.toNatClampNeg).toInt = (mtp (tS mtp ln.toNatClampNeg (tE mtp ln.toNatClampNeg (poL mtp ln.toNatClampNeg hnn.toNatClampNeg)))).toInt := by rw [show kfr.toNatClampNeg = tS mtp ln.toNatClampNeg (tE mtp ln.toNatClampNeg (poL mtp ln.toNatClampNeg hnn.toNatClampNeg)) by omega]
                  refine lv_if_eq (tgt := 175) hx hb dX11_duties_159 (by decide) (fun c207 => ?_) (fun c207 => ?_)
                  · skip
                    have f208 := bo_f hw204 c207
                    have h79 : ¬ tK mtp ln.toNatClampNeg (tE mtp ln.toNatClampNeg (poL mtp ln.toNatClampNeg hnn.toNatClampNeg)) = 7 := by omega
                    clear hmore1 hix9
                    have ea9 : acP mtp ln.toNatClampNeg (tE mtp ln.toNatClampNeg (poL mtp ln.toNatClampNeg hnn.toNatClampNeg)) = tE mtp ln.toNatClampNeg (poL mtp ln.toNatClampNeg hnn.toNatClampNeg) := by unfold acP; rw [if_neg h79]
                    have er9 : acR mtp ln.toNatClampNeg (tE mtp ln.toNatClampNeg (poL mtp ln.toNatClampNeg hnn.toNatClampNeg)) = 0 := by unfold acR; rw [if_neg (fun h8 => h79 h8.1)]
                    have ed9 : acD mtp ln.toNatClampNeg (tE mtp ln.toNatClampNeg (poL mtp ln.toNatClampNeg hnn.toNatClampNeg)) = -1 := by unfold acD; rw [if_neg h79]
                    have et9 : tS mtp ln.toNatClampNeg (acP mtp ln.toNatClampNeg (tE mtp ln.toNatClampNeg (poL mtp ln.toNatClampNeg hnn.toNatClampNeg))) = tS mtp ln.toNatClampNeg (tE mtp ln.toNatClampNeg (poL mtp ln.toNatClampNeg hnn.toNatClampNeg)) ∧ tE mtp ln.toNatClampNeg (acP mtp ln.toNatClampNeg (tE mtp ln.toNatClampNeg (poL mtp ln.toNatClampNeg hnn.toNatClampNeg))) = tE mtp ln.toNatClampNeg (tE mtp ln.toNatClampNeg (poL mtp ln.toNatClampNeg hnn.toNatClampNeg)) ∧ mK mtp ln.toNatClampNeg (acP mtp ln.toNatClampNeg (tE mtp ln.toNatClampNeg (poL mtp ln.toNatClampNeg hnn.toNatClampNeg))) = mK mtp ln.toNatClampNeg (tE mtp ln.toNatClampNeg (poL mtp ln.toNatClampNeg hnn.toNatClampNeg)) := by rw [ea9]; exact ⟨rfl, rfl, rfl⟩
                    exact hj83 (((-1) : Int32), kcu, ktk, kfr, kti, kfa, kfb) ls _ _ ⟨(by omega), (by omega), (by omega), (by omega), (by omega), lv_sub hl [1, 2, 0] rfl, hP.sub [0, 1, 2, 3] rfl, hD.sub [0, 1, 2, 3] (by decide +kernel) rfl, hS⟩
                  · skip
                    have f209 := bo_t hw204 c207
                    have h79 : tK mtp ln.toNatClampNeg (tE mtp ln.toNatClampNeg (poL mtp ln.toNatClampNeg hnn.toNatClampNeg)) = 7 := by omega
                    clear hmore1 hix9
                    refine lv_aload_n hx hb dX11_duties_162 rfl (lv_at hl 1 rfl) ?_
                    refine st_v (wr := [(aI cI (md 31) 36 mli), (aI cI (md 33) 36 mnlq)]) (va_runV (C := RX11) (As := []) (rest := []) ⟨hx, hb, hml, hown, hts⟩ (ct_X11_step l D cI cY cJ cQ _ md sd 0 mst hn cn pn mq gn mln hnn 0 mlt ln kcu ktk kfr kti kfa kfb an un lc td mtn mtp h1 h2 (by omega) (by omega) h5) (cwV 0 hts gX11_duties_X11_step rfl rfl rfl ⟨rfl, cdX11_step⟩ ⟨Nat.le_of_ble_eq_true rfl, Nat.le_of_ble_eq_true rfl⟩) (cPreV (hP.sub [2, 3] rfl) hK (hD.sub [2, 3] (by decide +kernel) rfl) hN (ci := 11) (q0 := 0) rfl rfl) rfl rfl hl.1 rfl (lv_room (Nat.le_of_ble_eq_true rfl)) dX11_duties_163 ⟨Nat.le_of_ble_eq_true rfl, Nat.le_of_ble_eq_true rfl⟩) hP hD hS hA [2, 3] [0, 1] rfl rfl (by decide +kernel) (by decide +kernel) (fun u210 H locs hw211 => ?_)
                    clear hP hD hS
                    intro hP hD hS
                    obtain ⟨mcu_213, mtk_214, mfr_215, mti_216⟩ := u210
                    replace hw211 : mfr_215.toInt = (tS mtp ln.toNatClampNeg kcu.toNatClampNeg : Int) ∧ mcu_213.toInt = (tE mtp ln.toNatClampNeg kcu.toNatClampNeg : Int) ∧ mti_216.toInt = mcu_213.toInt ∧ mtk_214.toInt = mK mtp ln.toNatClampNeg kcu.toNatClampNeg ∧ kcu.toInt ≤ mfr_215.toInt ∧ mfr_215.toInt ≤ mcu_213.toInt ∧ mcu_213.toInt ≤ ln.toInt := hw211
                    replace hP : va_P D vwCl [(aI cI (md 31) 36 mli), (aI cI (md 33) 36 mnlq), (moC md sd (0) mst hn cn pn mq gn mln hnn (0) mlt ln mcu_213 mtk_214 mfr_215 mti_216 kfa kfb an un lc td mtn), (aI cI (md 34) 300 mtp)] H := hP
                    replace hD : va_D A [(aI cI (md 31) 36 mli), (aI cI (md 33) 36 mnlq), (moC md sd (0) mst hn cn pn mq gn mln hnn (0) mlt ln mcu_213 mtk_214 mfr_215 mti_216 kfa kfb an un lc td mtn), (aI cI (md 34) 300 mtp)] := hD
                    have cphw211 := i_cl (x := kcu) (by omega)
                    have ephw211 : kcu.toNatClampNeg = tE mtp ln.toNatClampNeg (tE mtp ln.toNatClampNeg (poL mtp ln.toNatClampNeg hnn.toNatClampNeg)) := by omega
                    rw [ephw211] at hw211
                    have hlex : (tE mtp ln.toNatClampNeg (tE mtp ln.toNatClampNeg (poL mtp ln.toNatClampNeg hnn.toNatClampNeg))) ≤ ln.toNatClampNeg := by omega
                    have helx := tE_le (T := mtp) (L := ln.toNatClampNeg) hlex
                    have hnumx := (tk_f (T := mtp) (L := ln.toNatClampNeg) hlex).2.1
                    have hlen4x := (tk_f (T := mtp) (L := ln.toNatClampNeg) hlex).2.2.2.2.1
                    have hltx := (tk_f (T := mtp) (L := ln.toNatClampNeg) hlex).2.2.2.2.2.2
                    refine lv_aload_n hx hb dX11_duties_166 rfl (lv_at hl 1 rfl) ?_
                    refine lv_sipush (v := 9999) hx hb dX11_duties_167 (by decide) ?_
                    refine st_i (wr := [(aI cI (md 31) 36 mli), (aI cI (md 33) 36 mnlq)]) (va_runV (C := RX11) (As := [.int 9999]) (rest := []) ⟨hx, hb, hml, hown, hts⟩ (ct_X11_numberUpTo l D cI cY cJ cQ _ md sd 0 mst hn cn pn mq gn mln hnn 0 mlt ln mcu_213 mtk_214 mfr_215 mti_216 kfa kfb an un lc td mtn mtp (9999 : Int32) h1 h2 (by omega) (by omega) (by omega) (by omega) (by omega) h5 (by omega) (by omega)) (cwV 1 hts gX11_duties_X11_numberUpTo rfl rfl rfl ⟨rfl, cdX11_numberUpTo⟩ ⟨Nat.le_of_ble_eq_true rfl, Nat.le_of_ble_eq_true rfl⟩) (cPreV (hP.sub [2, 3] rfl) hK (hD.sub [2, 3] (by decide +kernel) rfl) hN (ci := 11) (q0 := 0) rfl rfl) rfl rfl hl.1 rfl (lv_room (Nat.le_of_ble_eq_true rfl)) dX11_duties_170 ⟨Nat.le_of_ble_eq_true rfl, Nat.le_of_ble_eq_true rfl⟩) hP hD hS hA [2, 3] [0, 1] rfl rfl (by decide +kernel) (by decide +kernel) (fun r219 u217 H locs hw218 => ?_)
                    clear hP hD hS
                    intro hP hD hS
                    obtain ⟨mcu_220, mtk_221, mfr_222, mti_223, mfa_224, mfb_225⟩ := u217
                    replace hw218 : 0 ≤ mfr_222.toInt ∧ mfr_222.toInt ≤ mcu_220.toInt ∧ mcu_220.toInt ≤ ln.toInt ∧ mti_223.toInt = mcu_220.toInt ∧ ((mtk_214.toInt = 3 ∧ nmV mtp mfr_215.toNatClampNeg (mti_216.toNatClampNeg - mfr_215.toNatClampNeg) ≤ (9999 : Int32).toInt ∧ r219.toInt = nmV mtp mfr_215.toNatClampNeg (mti_216.toNatClampNeg - mfr_215.toNatClampNeg) ∧ mfa_224.toInt = 0 ∧ mfr_222.toInt = (tS mtp ln.toNatClampNeg mcu_213.toNatClampNeg : Int) ∧ mcu_220.toInt = (tE mtp ln.toNatClampNeg mcu_213.toNatClampNeg : Int) ∧ mti_223.toInt = mcu_220.toInt ∧ mtk_221.toInt = mK mtp ln.toNatClampNeg mcu_213.toNatClampNeg) ∨ (mtk_214.toInt = 3 ∧ (9999 : Int32).toInt < nmV mtp mfr_215.toNatClampNeg (mti_216.toNatClampNeg - mfr_215.toNatClampNeg) ∧ mfa_224.toInt = 2 ∧ mfb_225.toInt = mfr_215.toInt) ∨ (¬ mtk_214.toInt = 3 ∧ mfa_224.toInt = 1 ∧ mfb_225.toInt = mfr_215.toInt)) := hw218
                    replace hP : va_P D vwCl [(aI cI (md 31) 36 mli), (aI cI (md 33) 36 mnlq), (moC md sd (0) mst hn cn pn mq gn mln hnn (0) mlt ln mcu_220 mtk_221 mfr_222 mti_223 mfa_224 mfb_225 an un lc td mtn), (aI cI (md 34) 300 mtp)] H := hP
                    replace hD : va_D A [(aI cI (md 31) 36 mli), (aI cI (md 33) 36 mnlq), (moC md sd (0) mst hn cn pn mq gn mln hnn (0) mlt ln mcu_220 mtk_221 mfr_222 mti_223 mfa_224 mfb_225 an un lc td mtn), (aI cI (md 34) 300 mtp)] := hD
                    have clc226 := i_cl (x := mfr_215) (by omega)
                    have clc227 := i_cl (x := mti_216) (by omega)
                    have cphw218 := i_cl (x := mcu_213) (by omega)
                    have ephw218 : mcu_213.toNatClampNeg = tE mtp ln.toNatClampNeg (tE mtp ln.toNatClampNeg (tE mtp ln.toNatClampNeg (poL mtp ln.toNatClampNeg hnn.toNatClampNeg))) := by omega
                    have enhw218 : nmV mtp mfr_215.toNatClampNeg (mti_216.toNatClampNeg - mfr_215.toNatClampNeg) = tN mtp ln.toNatClampNeg (tE mtp ln.toNatClampNeg (tE mtp ln.toNatClampNeg (poL mtp ln.toNatClampNeg hnn.toNatClampNeg))) := by unfold tN; rw [show mfr_215.toNatClampNeg = tS mtp ln.toNatClampNeg (tE mtp ln.toNatClampNeg (tE mtp ln.toNatClampNeg (poL mtp ln.toNatClampNeg hnn.toNatClampNeg))) by omega, show mti_216.toNatClampNeg = tE mtp ln.toNatClampNeg (tE mtp ln.toNatClampNeg (tE mtp ln.toNatClampNeg (poL mtp ln.toNatClampNeg hnn.toNatClampNeg))) by omega]
                    rw [ephw218, enhw218] at hw218
                    have hnr9 : mK mtp ln.toNatClampNeg (tE mtp ln.toNatClampNeg (tE mtp ln.toNatClampNeg (poL mtp ln.toNatClampNeg hnn.toNatClampNeg))) = 3 → 0 ≤ tN mtp ln.toNatClampNeg (tE mtp ln.toNatClampNeg (tE mtp ln.toNatClampNeg (poL mtp ln.toNatClampNeg hnn.toNatClampNeg))) ∧ tN mtp ln.toNatClampNeg (tE mtp ln.toNatClampNeg (tE mtp ln.toNatClampNeg (poL mtp ln.toNatClampNeg hnn.toNatClampNeg))) ≤ 9999 := fun h => tN_rng hlex h
                    have hac9 : tK mtp ln.toNatClampNeg (tE mtp ln.toNatClampNeg (tE mtp ln.toNatClampNeg (poL mtp ln.toNatClampNeg hnn.toNatClampNeg))) = 5 → acR mtp ln.toNatClampNeg (tE mtp ln.toNatClampNeg (poL mtp ln.toNatClampNeg hnn.toNatClampNeg)) = 0 ∧ acD mtp ln.toNatClampNeg (tE mtp ln.toNatClampNeg (poL mtp ln.toNatClampNeg hnn.toNatClampNeg)) = tN mtp ln.toNatClampNeg (tE mtp ln.toNatClampNeg (tE mtp ln.toNatClampNeg (poL mtp ln.toNatClampNeg hnn.toNatClampNeg))) ∧ tS mtp ln.toNatClampNeg (acP mtp ln.toNatClampNeg (tE mtp ln.toNatClampNeg (poL mtp ln.toNatClampNeg hnn.toNatClampNeg))) = tS mtp ln.toNatClampNeg (tE mtp ln.toNatClampNeg (tE mtp ln.toNatClampNeg (tE mtp ln.toNatClampNeg (poL mtp ln.toNatClampNeg hnn.toNatClampNeg)))) ∧ tE mtp ln.toNatClampNeg (acP mtp ln.toNatClampNeg (tE mtp ln.toNatClampNeg (poL mtp ln.toNatClampNeg hnn.toNatClampNeg))) = tE mtp ln.toNatClampNeg (tE mtp ln.toNatClampNeg (tE mtp ln.toNatClampNeg (tE mtp ln.toNatClampNeg (poL mtp ln.toNatClampNeg hnn.toNatClampNeg)))) ∧ mK mtp ln.toNatClampNeg (acP mtp ln.toNatClampNeg (tE mtp ln.toNatClampNeg (poL mtp ln.toNatClampNeg hnn.toNatClampNeg))) = mK mtp ln.toNatClampNeg (tE mtp ln.toNatClampNeg (tE mtp ln.toNatClampNeg (tE mtp ln.toNatClampNeg (poL mtp ln.toNatClampNeg hnn.toNatClampNeg)))) := fun h2 => by have ea : acP mtp ln.toNatClampNeg (tE mtp ln.toNatClampNeg (poL mtp ln.toNatClampNeg hnn.toNatClampNeg)) = tE mtp ln.toNatClampNeg (tE mtp ln.toNatClampNeg (tE mtp ln.toNatClampNeg (poL mtp ln.toNatClampNeg hnn.toNatClampNeg))) := (by unfold acP; rw [if_pos h79, if_pos h2]); rw [ea]; exact ⟨by unfold acR; rw [if_neg (fun h8 => h8.2 h2)], by unfold acD; rw [if_pos h79], rfl, rfl, rfl⟩
                    have clc228 := i_cl (x := hnn) (by omega)
                    have h49 : tK mtp ln.toNatClampNeg (poL mtp ln.toNatClampNeg hnn.toNatClampNeg) < 4 := by omega
                    have h129 : hnn.toNatClampNeg < 12 := by omega
                    have hac8 : ¬ tK mtp ln.toNatClampNeg (tE mtp ln.toNatClampNeg (tE mtp ln.toNatClampNeg (poL mtp ln.toNatClampNeg hnn.toNatClampNeg))) = 5 → dcF mtp ln.toNatClampNeg hnn.toNatClampNeg = 1 ∧ dpF mtp ln.toNatClampNeg hnn.toNatClampNeg = tS mtp ln.toNatClampNeg (tE mtp ln.toNatClampNeg (tE mtp ln.toNatClampNeg (poL mtp ln.toNatClampNeg hnn.toNatClampNeg))) := fun h2 => by have ea : acP mtp ln.toNatClampNeg (tE mtp ln.toNatClampNeg (poL mtp ln.toNatClampNeg hnn.toNatClampNeg)) = tE mtp ln.toNatClampNeg (tE mtp ln.toNatClampNeg (poL mtp ln.toNatClampNeg hnn.toNatClampNeg)) := (by unfold acP; rw [if_pos h79, if_neg h2]); have q := du_a3 (T := mtp) (L := ln.toNatClampNeg) h49 h129 (by unfold acR; rw [if_pos ⟨h79, h2⟩]); rw [ea] at q; exact q
                    refine lv_istore (lv' := [(4, .int r219), (0, .ref (md 64)), (3, .int sk67)]) hx hb dX11_duties_173 hl (by decide) rfl (fun ls hl => ?_)
                    exact hj83 (r219, mcu_220, mtk_221, mfr_222, mti_223, mfa_224, mfb_225) ls _ _ ⟨(by omega), (by omega), (by omega), (by omega), (by omega), lv_sub hl [1, 2, 0] rfl, hP.sub [0, 1, 2, 3] rfl, hD.sub [0, 1, 2, 3] (by decide +kernel) rfl, hS⟩
            · intro hj77
              refine lv_aload_n hx hb dX11_duties_128 rfl (lv_at hl 0 rfl) ?_
              refine lv_iload_n hx hb dX11_duties_129 rfl (lv_at hl 1 rfl) ?_
              refine lv_ldc hx hb hown (hts (Cond.constant RX11 139 (-1000000)) (wm_t (wm_l (wm_l (wm_i 11 rfl))))) dX11_duties_130 ?_
              refine lv_icmp_eq (tgt := 139) hx hb dX11_duties_132 (by decide) (fun c229 => ?_) (fun c229 => ?_)
              · skip
                have f230 := i_eq c229
                refine lv_iconst (v := 0) hx hb dX11_duties_139 (by decide) ?_
                refine st_v (wr := [(aI cI (md 31) 36 mli), (aI cI (md 33) 36 mnlq)]) (va_runV (C := RX11) (As := [.int 0]) (rest := []) ⟨hx, hb, hml, hown, hts⟩ (ct_X11_need l D cI cY cJ cQ _ md sd 0 mst hn cn pn mq gn mln hnn 0 mlt ln hcu htk hfr hti jfa jfb an un lc td mtn mtp (0 : Int32) h1 h2 (by omega) (by omega) (by omega) (by omega) (by omega) h5) (cwV 1 hts gX11_duties_X11_need rfl rfl rfl ⟨rfl, cdX11_need⟩ ⟨Nat.le_of_ble_eq_true rfl, Nat.le_of_ble_eq_true rfl⟩) (cPreV (hP.sub [2, 3] rfl) hK (hD.sub [2, 3] (by decide +kernel) rfl) hN (ci := 11) (q0 := 0) rfl rfl) rfl rfl hl.1 rfl (lv_room (Nat.le_of_ble_eq_true rfl)) dX11_duties_140 ⟨Nat.le_of_ble_eq_true rfl, Nat.le_of_ble_eq_true rfl⟩) hP hD hS hA [2, 3] [0, 1] rfl rfl (by decide +kernel) (by decide +kernel) (fun u231 H locs hw232 => ?_)
                clear hP hD hS
                intro hP hD hS
                obtain ⟨mcu_234, mtk_235, mfr_236, mti_237, mfa_238, mfb_239⟩ := u231
                replace hw232 : 0 ≤ mfr_236.toInt ∧ mfr_236.toInt ≤ mcu_234.toInt ∧ mcu_234.toInt ≤ ln.toInt ∧ mti_237.toInt = mcu_234.toInt ∧ ((¬ jfa.toInt = 0 ∧ mfa_238.toInt = jfa.toInt ∧ mfb_239.toInt = jfb.toInt ∧ mfr_236.toInt = hfr.toInt ∧ mcu_234.toInt = hcu.toInt ∧ mtk_235.toInt = htk.toInt) ∨ (jfa.toInt = 0 ∧ ¬ (0 : Int32).toInt = 0 ∧ mfa_238.toInt = 0 ∧ mfr_236.toInt = (tS mtp ln.toNatClampNeg hcu.toNatClampNeg : Int) ∧ mcu_234.toInt = (tE mtp ln.toNatClampNeg hcu.toNatClampNeg : Int) ∧ mti_237.toInt = mcu_234.toInt ∧ mtk_235.toInt = mK mtp ln.toNatClampNeg hcu.toNatClampNeg) ∨ (jfa.toInt = 0 ∧ (0 : Int32).toInt = 0 ∧ mfa_238.toInt = 1 ∧ mfb_239.toInt = hfr.toInt ∧ mfr_236.toInt = hfr.toInt ∧ mcu_234.toInt = hcu.toInt ∧ mtk_235.toInt = htk.toInt)) := hw232
                replace hP : va_P D vwCl [(aI cI (md 31) 36 mli), (aI cI (md 33) 36 mnlq), (moC md sd (0) mst hn cn pn mq gn mln hnn (0) mlt ln mcu_234 mtk_235 mfr_236 mti_237 mfa_238 mfb_239 an un lc td mtn), (aI cI (md 34) 300 mtp)] H := hP
                replace hD : va_D A [(aI cI (md 31) 36 mli), (aI cI (md 33) 36 mnlq), (moC md sd (0) mst hn cn pn mq gn mln hnn (0) mlt ln mcu_234 mtk_235 mfr_236 mti_237 mfa_238 mfb_239 an un lc td mtn), (aI cI (md 34) 300 mtp)] := hD
                have cphw232 := i_cl (x := hcu) (by omega)
                have ephw232 : hcu.toNatClampNeg = tE mtp ln.toNatClampNeg (poL mtp ln.toNatClampNeg hnn.toNatClampNeg) := by omega
                rw [ephw232] at hw232
                have ha19 : 4 ≤ tK mtp ln.toNatClampNeg (poL mtp ln.toNatClampNeg hnn.toNatClampNeg) → dcF mtp ln.toNatClampNeg hnn.toNatClampNeg = 1 ∧ dpF mtp ln.toNatClampNeg hnn.toNatClampNeg = tS mtp ln.toNatClampNeg (poL mtp ln.toNatClampNeg hnn.toNatClampNeg) := fun h => du_a1 h
                have ha29 : tK mtp ln.toNatClampNeg (poL mtp ln.toNatClampNeg hnn.toNatClampNeg) < 4 → ¬ hnn.toNatClampNeg < 12 → dcF mtp ln.toNatClampNeg hnn.toNatClampNeg = 3 ∧ dpF mtp ln.toNatClampNeg hnn.toNatClampNeg = tS mtp ln.toNatClampNeg (poL mtp ln.toNatClampNeg hnn.toNatClampNeg) := fun h h2 => du_a2 h h2
                have clc240 := i_cl (x := hnn) (by omega)
                exact hj77 (mcu_234, mtk_235, mfr_236, mti_237, mfa_238, mfb_239) ls _ _ ⟨(by omega), (by omega), (by omega), (by omega), (by omega), lv_sub hl [0, 1] rfl, hP.sub [0, 1, 2, 3] rfl, hD.sub [0, 1, 2, 3] (by decide +kernel) rfl, hS⟩
              · skip
                have f241 := i_ne c229
                refine lv_iconst (v := 1) hx hb dX11_duties_135 (by decide) ?_
                refine lv_goto (tgt := 140) hx hb dX11_duties_136 (by decide) ?_
                refine st_v (wr := [(aI cI (md 31) 36 mli), (aI cI (md 33) 36 mnlq)]) (va_runV (C := RX11) (As := [.int 1]) (rest := []) ⟨hx, hb, hml, hown, hts⟩ (ct_X11_need l D cI cY cJ cQ _ md sd 0 mst hn cn pn mq gn mln hnn 0 mlt ln hcu htk hfr hti jfa jfb an un lc td mtn mtp (1 : Int32) h1 h2 (by omega) (by omega) (by omega) (by omega) (by omega) h5) (cwV 1 hts gX11_duties_X11_need rfl rfl rfl ⟨rfl, cdX11_need⟩ ⟨Nat.le_of_ble_eq_true rfl, Nat.le_of_ble_eq_true rfl⟩) (cPreV (hP.sub [2, 3] rfl) hK (hD.sub [2, 3] (by decide +kernel) rfl) hN (ci := 11) (q0 := 0) rfl rfl) rfl rfl hl.1 rfl (lv_room (Nat.le_of_ble_eq_true rfl)) dX11_duties_140 ⟨Nat.le_of_ble_eq_true rfl, Nat.le_of_ble_eq_true rfl⟩) hP hD hS hA [2, 3] [0, 1] rfl rfl (by decide +kernel) (by decide +kernel) (fun u242 H locs hw243 => ?_)
                clear hP hD hS
                intro hP hD hS
                obtain ⟨mcu_245, mtk_246, mfr_247, mti_248, mfa_249, mfb_250⟩ := u242
                replace hw243 : 0 ≤ mfr_247.toInt ∧ mfr_247.toInt ≤ mcu_245.toInt ∧ mcu_245.toInt ≤ ln.toInt ∧ mti_248.toInt = mcu_245.toInt ∧ ((¬ jfa.toInt = 0 ∧ mfa_249.toInt = jfa.toInt ∧ mfb_250.toInt = jfb.toInt ∧ mfr_247.toInt = hfr.toInt ∧ mcu_245.toInt = hcu.toInt ∧ mtk_246.toInt = htk.toInt) ∨ (jfa.toInt = 0 ∧ ¬ (1 : Int32).toInt = 0 ∧ mfa_249.toInt = 0 ∧ mfr_247.toInt = (tS mtp ln.toNatClampNeg hcu.toNatClampNeg : Int) ∧ mcu_245.toInt = (tE mtp ln.toNatClampNeg hcu.toNatClampNeg : Int) ∧ mti_248.toInt = mcu_245.toInt ∧ mtk_246.toInt = mK mtp ln.toNatClampNeg hcu.toNatClampNeg) ∨ (jfa.toInt = 0 ∧ (1 : Int32).toInt = 0 ∧ mfa_249.toInt = 1 ∧ mfb_250.toInt = hfr.toInt ∧ mfr_247.toInt = hfr.toInt ∧ mcu_245.toInt = hcu.toInt ∧ mtk_246.toInt = htk.toInt)) := hw243
                replace hP : va_P D vwCl [(aI cI (md 31) 36 mli), (aI cI (md 33) 36 mnlq), (moC md sd (0) mst hn cn pn mq gn mln hnn (0) mlt ln mcu_245 mtk_246 mfr_247 mti_248 mfa_249 mfb_250 an un lc td mtn), (aI cI (md 34) 300 mtp)] H := hP
                replace hD : va_D A [(aI cI (md 31) 36 mli), (aI cI (md 33) 36 mnlq), (moC md sd (0) mst hn cn pn mq gn mln hnn (0) mlt ln mcu_245 mtk_246 mfr_247 mti_248 mfa_249 mfb_250 an un lc td mtn), (aI cI (md 34) 300 mtp)] := hD
                have cphw243 := i_cl (x := hcu) (by omega)
                have ephw243 : hcu.toNatClampNeg = tE mtp ln.toNatClampNeg (poL mtp ln.toNatClampNeg hnn.toNatClampNeg) := by omega
                rw [ephw243] at hw243
                have ha19 : 4 ≤ tK mtp ln.toNatClampNeg (poL mtp ln.toNatClampNeg hnn.toNatClampNeg) → dcF mtp ln.toNatClampNeg hnn.toNatClampNeg = 1 ∧ dpF mtp ln.toNatClampNeg hnn.toNatClampNeg = tS mtp ln.toNatClampNeg (poL mtp ln.toNatClampNeg hnn.toNatClampNeg) := fun h => du_a1 h
                have ha29 : tK mtp ln.toNatClampNeg (poL mtp ln.toNatClampNeg hnn.toNatClampNeg) < 4 → ¬ hnn.toNatClampNeg < 12 → dcF mtp ln.toNatClampNeg hnn.toNatClampNeg = 3 ∧ dpF mtp ln.toNatClampNeg hnn.toNatClampNeg = tS mtp ln.toNatClampNeg (poL mtp ln.toNatClampNeg hnn.toNatClampNeg) := fun h h2 => du_a2 h h2
                have clc251 := i_cl (x := hnn) (by omega)
                exact hj77 (mcu_245, mtk_246, mfr_247, mti_248, mfa_249, mfb_250) ls _ _ ⟨(by omega), (by omega), (by omega), (by omega), (by omega), lv_sub hl [0, 1] rfl, hP.sub [0, 1, 2, 3] rfl, hD.sub [0, 1, 2, 3] (by decide +kernel) rfl, hS⟩
          · intro hj71
            refine lv_iload_n hx hb dX11_duties_108 rfl (lv_at hl 0 rfl) ?_
            refine lv_ldc hx hb hown (hts (Cond.constant RX11 139 (-1000000)) (wm_t (wm_l (wm_l (wm_i 11 rfl))))) dX11_duties_109 ?_
            refine lv_icmp_eq (tgt := 128) hx hb dX11_duties_111 (by decide) (fun c252 => ?_) (fun c252 => ?_)
            · skip
              have f253 := i_eq c252
              exact hj71 (hfa, hfb) ls _ _ ⟨(by omega), lv_sub hl [1, 0] rfl, hP.sub [0, 1, 2, 3] rfl, hD.sub [0, 1, 2, 3] (by decide +kernel) rfl, hS⟩
            · skip
              have f254 := i_ne c252
              refine lv_aload_n hx hb dX11_duties_114 rfl (lv_at hl 1 rfl) ?_
              refine va_get (D := D) (ci := 11) (v := .int hnn) (C := RX11) (T := TX11) (N := 64) hx hb hts inX11_duties_X11 hown hK hP 2 rfl rfl 32 (by decide) (hts (Cond.fieldLink RX11 287 "PortRoomsModel" "newLines" "I") (wm_t (wm_l (wm_l (wm_i 5 rfl))))) (fun _ h9 => h9) rfl dX11_duties_115 ?_
              refine lv_bipush (v := 12) hx hb dX11_duties_118 (by decide) ?_
              refine lv_icmp_ne (tgt := 128) hx hb dX11_duties_120 (by decide) (fun c255 => ?_) (fun c255 => ?_)
              · skip
                have f256 := i_ne c255
                exact hj71 (hfa, hfb) ls _ _ ⟨(by omega), lv_sub hl [1, 0] rfl, hP.sub [0, 1, 2, 3] rfl, hD.sub [0, 1, 2, 3] (by decide +kernel) rfl, hS⟩
              · skip
                have f257 := i_eq c255
                refine lv_aload_n hx hb dX11_duties_123 rfl (lv_at hl 1 rfl) ?_
                refine lv_iconst (v := 3) hx hb dX11_duties_124 (by decide) ?_
                refine st_v (wr := [(aI cI (md 31) 36 mli), (aI cI (md 33) 36 mnlq), (aI cI (md 34) 300 mtp)]) (va_runV (C := RX11) (As := [.int 3]) (rest := []) ⟨hx, hb, hml, hown, hts⟩ (ct_X11_bad l D cI cY cJ cQ _ md sd 0 mst hn cn pn mq gn mln hnn 0 mlt ln hcu htk hfr hti hfa hfb an un lc td mtn (3 : Int32)) (cwV 1 hts gX11_duties_X11_bad rfl rfl rfl ⟨rfl, cdX11_bad⟩ ⟨Nat.le_of_ble_eq_true rfl, Nat.le_of_ble_eq_true rfl⟩) (cPreV (hP.sub [2] rfl) hK (hD.sub [2] (by decide +kernel) rfl) hN (ci := 11) (q0 := 0) rfl rfl) rfl rfl hl.1 rfl (lv_room (Nat.le_of_ble_eq_true rfl)) dX11_duties_125 ⟨Nat.le_of_ble_eq_true rfl, Nat.le_of_ble_eq_true rfl⟩) hP hD hS hA [2] [0, 1, 3] rfl rfl (by decide +kernel) (by decide +kernel) (fun u258 H locs hw259 => ?_)
                clear hP hD hS
                intro hP hD hS
                obtain ⟨mfa_261, mfb_262⟩ := u258
                replace hw259 : (hfa.toInt = 0 ∧ mfa_261.toInt = (3 : Int32).toInt ∧ mfb_262.toInt = hfr.toInt) ∨ (¬ hfa.toInt = 0 ∧ mfa_261.toInt = hfa.toInt ∧ mfb_262.toInt = hfb.toInt) := hw259
                replace hP : va_P D vwCl [(aI cI (md 31) 36 mli), (aI cI (md 33) 36 mnlq), (aI cI (md 34) 300 mtp), (moC md sd (0) mst hn cn pn mq gn mln hnn (0) mlt ln hcu htk hfr hti mfa_261 mfb_262 an un lc td mtn)] H := hP
                replace hD : va_D A [(aI cI (md 31) 36 mli), (aI cI (md 33) 36 mnlq), (aI cI (md 34) 300 mtp), (moC md sd (0) mst hn cn pn mq gn mln hnn (0) mlt ln hcu htk hfr hti mfa_261 mfb_262 an un lc td mtn)] := hD
                exact hj71 (mfa_261, mfb_262) ls _ _ ⟨(by omega), lv_sub hl [1, 0] rfl, hP.sub [0, 1, 3, 2] rfl, hD.sub [0, 1, 3, 2] (by decide +kernel) rfl, hS⟩
        · intro hj69
          refine lv_lload_n hx hb dX11_duties_57 rfl (lv_at hl 0 rfl) ?_
          refine lv_ldc2 hx hb hown (hts (Cond.constantLong RX11 294 (1936682084)) (wm_t (wm_l (wm_l (wm_i 7 rfl))))) dX11_duties_58 ?_
          refine W.lcmp hx hb dX11_duties_61 ?_
          refine lv_topi (fun v263 ev263 => ?_)
          refine lv_if_ne (tgt := 69) hx hb dX11_duties_62 (by decide) (fun c264 => ?_) (fun c264 => ?_)
          · skip
            have f265 := lc_ne ev263 c264
            refine lv_lload_n hx hb dX11_duties_69 rfl (lv_at hl 0 rfl) ?_
            refine lv_ldc2 hx hb hown (hts (Cond.constantLong RX11 296 (495673374574)) (wm_t (wm_l (wm_l (wm_i 8 rfl))))) dX11_duties_70 ?_
            refine W.lcmp hx hb dX11_duties_73 ?_
            refine lv_topi (fun v266 ev266 => ?_)
            refine lv_if_ne (tgt := 81) hx hb dX11_duties_74 (by decide) (fun c267 => ?_) (fun c267 => ?_)
            · skip
              have f268 := lc_ne ev266 c267
              refine lv_lload_n hx hb dX11_duties_81 rfl (lv_at hl 0 rfl) ?_
              refine lv_ldc2 hx hb hown (hts (Cond.constantLong RX11 298 (7304564)) (wm_t (wm_l (wm_l (wm_i 9 rfl))))) dX11_duties_82 ?_
              refine W.lcmp hx hb dX11_duties_85 ?_
              refine lv_topi (fun v269 ev269 => ?_)
              refine lv_if_ne (tgt := 93) hx hb dX11_duties_86 (by decide) (fun c270 => ?_) (fun c270 => ?_)
              · skip
                have f271 := lc_ne ev269 c270
                refine lv_lload_n hx hb dX11_duties_93 rfl (lv_at hl 0 rfl) ?_
                refine lv_ldc2 hx hb hown (hts (Cond.constantLong RX11 300 (120282411197796)) (wm_t (wm_l (wm_l (wm_i 10 rfl))))) dX11_duties_94 ?_
                refine W.lcmp hx hb dX11_duties_97 ?_
                refine lv_topi (fun v272 ev272 => ?_)
                refine lv_if_ne (tgt := 105) hx hb dX11_duties_98 (by decide) (fun c273 => ?_) (fun c273 => ?_)
                · skip
                  have f274 := lc_ne ev272 c273
                  refine lv_ldc hx hb hown (hts (Cond.constant RX11 139 (-1000000)) (wm_t (wm_l (wm_l (wm_i 11 rfl))))) dX11_duties_105 ?_
                  exact hj69 ((-1000000) : Int32) ls _ _ ⟨(by omega), lv_sub hl [1] rfl, hP.sub [0, 1, 2, 3] rfl, hD.sub [0, 1, 2, 3] (by decide +kernel) rfl, hS⟩
                · skip
                  have f275 := lc_eq ev272 c273
                  refine lv_iconst (v := 3) hx hb dX11_duties_101 (by decide) ?_
                  refine lv_goto (tgt := 107) hx hb dX11_duties_102 (by decide) ?_
                  exact hj69 (3 : Int32) ls _ _ ⟨(by omega), lv_sub hl [1] rfl, hP.sub [0, 1, 2, 3] rfl, hD.sub [0, 1, 2, 3] (by decide +kernel) rfl, hS⟩
              · skip
                have f276 := lc_eq ev269 c270
                refine lv_iconst (v := 2) hx hb dX11_duties_89 (by decide) ?_
                refine lv_goto (tgt := 107) hx hb dX11_duties_90 (by decide) ?_
                exact hj69 (2 : Int32) ls _ _ ⟨(by omega), lv_sub hl [1] rfl, hP.sub [0, 1, 2, 3] rfl, hD.sub [0, 1, 2, 3] (by decide +kernel) rfl, hS⟩
            · skip
              have f277 := lc_eq ev266 c267
              refine lv_iconst (v := 1) hx hb dX11_duties_77 (by decide) ?_
              refine lv_goto (tgt := 107) hx hb dX11_duties_78 (by decide) ?_
              exact hj69 (1 : Int32) ls _ _ ⟨(by omega), lv_sub hl [1] rfl, hP.sub [0, 1, 2, 3] rfl, hD.sub [0, 1, 2, 3] (by decide +kernel) rfl, hS⟩
          · skip
            have f278 := lc_eq ev263 c264
            refine lv_iconst (v := 0) hx hb dX11_duties_65 (by decide) ?_
            refine lv_goto (tgt := 107) hx hb dX11_duties_66 (by decide) ?_
            exact hj69 (0 : Int32) ls _ _ ⟨(by omega), lv_sub hl [1] rfl, hP.sub [0, 1, 2, 3] rfl, hD.sub [0, 1, 2, 3] (by decide +kernel) rfl, hS⟩
end

section
def lw_ch : List (List Cond) := [k2_sels lw_privs, tables_1_1, tables_1_2, tables_1_3, tables_1_4, tables_1_5, tables_1_6, tables_1_7]
theorem lw_flat : lw_tbl = lw_ch.flatten := by simp only [lw_tbl, tables_1, lw_ch, List.flatten_cons, List.flatten_nil, List.append_nil]
theorem lw_mem (ws : List Cond) (rs : List (Nat × Nat × Nat)) (h : ws = rs.flatMap (fun q => ((lw_ch[q.1]?.getD []).drop q.2.1).take q.2.2)) : ∀ w ∈ ws, w ∈ lw_tbl := by
  intro w hw
  rw [h] at hw
  obtain ⟨q, -, hq⟩ := List.mem_flatMap.mp hw
  have hm := List.mem_of_mem_drop (List.mem_of_mem_take hq)
  rw [lw_flat]
  cases hc : lw_ch[q.1]? with
  | none => rw [hc] at hm; exact absurd hm (by simp)
  | some c => rw [hc] at hm; exact List.mem_flatten.mpr ⟨c, List.mem_of_getElem? hc, hm⟩
def inT (ws : List Cond) : Prop := ∀ w ∈ ws, w ∈ lw_tbl
theorem it_cons {c : Cond} {ws : List Cond} (h : inT [c]) (g : inT ws) : inT (c :: ws) := fun w h1 => (List.mem_cons.mp h1).elim (fun e => by rw [e]; exact h c List.mem_cons_self) (g w)
theorem it_app {a b : List Cond} (ga : inT a) (gb : inT b) : inT (a ++ b) := fun w h1 => (List.mem_append.mp h1).elim (ga w) (gb w)
set_option maxRecDepth 20000 in
theorem it_X40 : inT wsX40 := lw_mem _ [(2, 57, 1), (2, 59, 1), (2, 61, 1), (2, 63, 1)] rfl
set_option maxRecDepth 20000 in
theorem it_X50 : inT wsX50 := lw_mem _ [(2, 74, 1), (2, 76, 1)] rfl
set_option maxRecDepth 20000 in
theorem it_X30 : inT wsX30 := lw_mem _ [(1, 71, 1), (1, 73, 1), (1, 75, 1), (1, 77, 1), (1, 79, 1), (1, 81, 1), (1, 83, 1), (1, 85, 1), (1, 87, 1)] rfl
set_option maxRecDepth 20000 in
theorem it_X80 : inT wsX80 := lw_mem _ [(1, 167, 1), (1, 169, 1), (1, 171, 1), (1, 173, 1), (1, 175, 1), (1, 177, 1)] rfl
set_option maxRecDepth 20000 in
theorem it_X00 : inT wsX00 := lw_mem _ [(2, 12, 1), (2, 14, 1), (2, 16, 1), (2, 18, 1), (2, 20, 1)] rfl
set_option maxRecDepth 20000 in
theorem it_X20 : inT wsX20 := lw_mem _ [(1, 205, 1), (1, 207, 1), (1, 209, 1), (1, 211, 1), (1, 213, 1), (1, 215, 1), (1, 217, 1), (1, 219, 1), (1, 221, 1), (1, 223, 1), (1, 225, 1), (1, 227, 1), (1, 229, 1), (1, 231, 1), (1, 233, 1)] rfl
set_option maxRecDepth 20000 in
theorem it_X70 : inT wsX70 := lw_mem _ [(1, 138, 1), (1, 140, 1), (1, 142, 1), (1, 144, 1), (1, 146, 1), (1, 148, 1), (1, 150, 1)] rfl
set_option maxRecDepth 20000 in
theorem it_X60 : inT wsX60 := lw_mem _ [(2, 35, 1), (2, 37, 1), (2, 39, 1), (2, 41, 1), (2, 43, 1)] rfl
set_option maxRecDepth 20000 in
theorem it_X90 : inT wsX90 := lw_mem _ [(1, 46, 1), (1, 48, 1), (1, 50, 1)] rfl
set_option maxRecDepth 20000 in
theorem it_X10 : inT wsX10 := lw_mem _ [(1, 111, 1), (1, 113, 1), (1, 115, 1), (1, 117, 1), (1, 119, 1), (1, 121, 1)] rfl
set_option maxRecDepth 20000 in
theorem it_X0_init : inT wsX0_init := it_cons (lw_mem [Cond.code yX0_init cX0_init 1 none] [(2, 1, 1)] rfl) (it_app (lw_mem wsX0_init_o1 [(2, 2, 1), (1, 27, 2), (1, 53, 1), (2, 3, 2), (2, 6, 1), (2, 8, 1)] rfl) it_X00)
set_option maxRecDepth 20000 in
theorem it_X0_tell : inT wsX0_tell := it_cons (lw_mem [Cond.code yX0_tell cX0_tell 5 (some .int)] [(3, 210, 1)] rfl) (it_app (lw_mem wsX0_tell_o1 [(2, 3, 1), (2, 10, 1), (2, 4, 1), (2, 6, 1), (2, 8, 1)] rfl) it_X00)
set_option maxRecDepth 20000 in
theorem it_X2_lineFor : inT wsX2_lineFor := it_cons (lw_mem [Cond.code yX2_lineFor cX2_lineFor 4 (some .int)] [(3, 222, 1)] rfl) (it_app (lw_mem wsX2_lineFor_o1 [(1, 195, 1), (1, 191, 2)] rfl) it_X20)
set_option maxRecDepth 20000 in
theorem it_X0_firstWaking : inT wsX0_firstWaking := it_cons (lw_mem [Cond.code yX0_firstWaking cX0_firstWaking 6 (some .int)] [(3, 218, 1)] rfl) (it_app (lw_mem wsX0_firstWaking_o1 [(2, 10, 1), (2, 6, 1), (2, 3, 2), (2, 8, 1), (3, 219, 3), (1, 8, 1)] rfl) (it_app (it_app it_X00 it_X20) it_X2_lineFor))
set_option maxRecDepth 20000 in
theorem it_J7_fill_53178 : inT wsJ7_fill_53178 := it_cons (lw_mem [Cond.code yJ7_fill_53178 cJ7_fill_53178 4 none] [(1, 39, 1)] rfl) (lw_mem [] [] rfl)
set_option maxRecDepth 20000 in
theorem it_X1_init : inT wsX1_init := it_cons (lw_mem [Cond.code yX1_init cX1_init 1 none] [(1, 94, 1)] rfl) (it_app (lw_mem wsX1_init_o1 [(1, 95, 1), (1, 27, 2), (1, 53, 1), (1, 99, 1), (1, 101, 1), (1, 103, 1), (1, 107, 1), (1, 109, 1), (1, 96, 1), (1, 98, 1), (1, 97, 1), (1, 38, 1), (1, 3, 1)] rfl) (it_app it_X10 it_J7_fill_53178))
set_option maxRecDepth 20000 in
theorem it_X1_tell : inT wsX1_tell := it_cons (lw_mem [Cond.code yX1_tell cX1_tell 3 (some .int)] [(3, 31, 1)] rfl) (it_app (lw_mem wsX1_tell_o1 [(1, 99, 1), (1, 105, 1), (1, 101, 1)] rfl) it_X10)
set_option maxRecDepth 20000 in
theorem it_X1_setIn : inT wsX1_setIn := it_cons (lw_mem [Cond.code yX1_setIn cX1_setIn 4 (some .int)] [(4, 1, 1)] rfl) (it_app (lw_mem wsX1_setIn_o1 [(1, 105, 1), (1, 103, 1)] rfl) it_X10)
set_option maxRecDepth 20000 in
theorem it_X1_setInRooms : inT wsX1_setInRooms := it_cons (lw_mem [Cond.code yX1_setInRooms cX1_setInRooms 2 (some .int)] [(4, 40, 1)] rfl) (it_app (lw_mem wsX1_setInRooms_o1 [(1, 105, 1), (1, 96, 1), (3, 238, 2), (4, 0, 1), (1, 5, 1)] rfl) (it_app it_X10 it_X1_setIn))
set_option maxRecDepth 20000 in
theorem it_X10_hasBit : inT wsX10_hasBit := it_cons (lw_mem [Cond.code yX10_hasBit cX10_hasBit 2 (some .boolean)] [(2, 227, 1)] rfl) (lw_mem [] [] rfl)
set_option maxRecDepth 20000 in
theorem it_X1_worthsOf : inT wsX1_worthsOf := it_cons (lw_mem [Cond.code yX1_worthsOf cX1_worthsOf 4 (some .int)] [(4, 11, 1)] rfl) (it_app (lw_mem wsX1_worthsOf_o1 [(1, 105, 1), (1, 101, 1), (2, 226, 1), (1, 1, 1)] rfl) (it_app it_X10 it_X10_hasBit))
set_option maxRecDepth 20000 in
theorem it_J6_bitCount_0f7a4 : inT wsJ6_bitCount_0f7a4 := it_cons (lw_mem [Cond.code yJ6_bitCount_0f7a4 cJ6_bitCount_0f7a4 1 (some .int)] [(4, 4, 1)] rfl) (lw_mem wsJ6_bitCount_0f7a4_o1 [(4, 5, 3)] rfl)
set_option maxRecDepth 20000 in
theorem it_X1_fits : inT wsX1_fits := it_cons (lw_mem [Cond.code yX1_fits cX1_fits 4 (some .boolean)] [(3, 237, 1)] rfl) (it_app (lw_mem wsX1_fits_o1 [(1, 107, 1), (1, 101, 1), (1, 109, 1), (3, 238, 2), (4, 0, 1), (1, 5, 1), (4, 2, 2), (1, 20, 1), (4, 8, 3)] rfl) (it_app (it_app it_X10 it_X1_setIn) (it_app it_J6_bitCount_0f7a4 it_X1_worthsOf)))
set_option maxRecDepth 20000 in
theorem it_X2_init : inT wsX2_init := it_cons (lw_mem [Cond.code yX2_init cX2_init 1 none] [(1, 184, 1)] rfl) (it_app (lw_mem wsX2_init_o1 [(1, 185, 1), (1, 27, 2), (1, 236, 1), (1, 186, 1), (1, 53, 1), (1, 191, 3), (1, 197, 3)] rfl) it_X20)
set_option maxRecDepth 20000 in
theorem it_X2_take : inT wsX2_take := it_cons (lw_mem [Cond.code yX2_take cX2_take 2 none] [(3, 113, 1)] rfl) (it_app (lw_mem wsX2_take_o1 [(1, 187, 1), (1, 186, 1)] rfl) it_X20)
set_option maxRecDepth 20000 in
theorem it_X2_isLetter : inT wsX2_isLetter := it_cons (lw_mem [Cond.code yX2_isLetter cX2_isLetter 1 (some .boolean)] [(3, 128, 1)] rfl) (lw_mem [] [] rfl)
set_option maxRecDepth 20000 in
theorem it_J0_isLatin1_aae02 : inT wsJ0_isLatin1_aae02 := it_cons (lw_mem [Cond.code yJ0_isLatin1_aae02 cJ0_isLatin1_aae02 1 (some .boolean)] [(3, 145, 1)] rfl) (lw_mem wsJ0_isLatin1_aae02_o1 [(3, 146, 1), (7, 9, 1)] rfl)
set_option maxRecDepth 20000 in
theorem it_J3_checkIndex_8e157 : inT wsJ3_checkIndex_8e157 := it_cons (lw_mem [Cond.code yJ3_checkIndex_8e157 cJ3_checkIndex_8e157 3 (some .int)] [(3, 158, 1)] rfl) (lw_mem [] [] rfl)
set_option maxRecDepth 20000 in
theorem it_J0_checkIndex_df160 : inT wsJ0_checkIndex_df160 := it_cons (lw_mem [Cond.code yJ0_checkIndex_df160 cJ0_checkIndex_df160 2 none] [(3, 153, 1)] rfl) (it_app (lw_mem wsJ0_checkIndex_df160_o1 [(3, 154, 1), (3, 156, 2), (1, 18, 1)] rfl) it_J3_checkIndex_8e157)
set_option maxRecDepth 20000 in
theorem it_J1_charAt_3b067 : inT wsJ1_charAt_3b067 := it_cons (lw_mem [Cond.code yJ1_charAt_3b067 cJ1_charAt_3b067 2 (some .char)] [(3, 150, 1)] rfl) (it_app (lw_mem wsJ1_charAt_3b067_o1 [(3, 151, 2), (1, 16, 1)] rfl) it_J0_checkIndex_df160)
set_option maxRecDepth 20000 in
theorem it_J2_length_9d52b : inT wsJ2_length_9d52b := it_cons (lw_mem [Cond.code yJ2_length_9d52b cJ2_length_9d52b 1 (some .int)] [(3, 167, 1)] rfl) (lw_mem [] [] rfl)
set_option maxRecDepth 20000 in
theorem it_J2_checkIndex_2214a : inT wsJ2_checkIndex_2214a := it_cons (lw_mem [Cond.code yJ2_checkIndex_2214a cJ2_checkIndex_2214a 2 none] [(3, 164, 1)] rfl) (it_app (lw_mem wsJ2_checkIndex_2214a_o1 [(3, 165, 2), (1, 19, 1), (3, 168, 1), (3, 152, 1), (1, 16, 1)] rfl) (it_app it_J2_length_9d52b it_J0_checkIndex_df160))
set_option maxRecDepth 20000 in
theorem it_J2_getChar_3b067 : inT wsJ2_getChar_3b067 := it_cons (lw_mem [Cond.code yJ2_getChar_3b067 cJ2_getChar_3b067 2 (some .char)] [(3, 171, 1)] rfl) (it_app (lw_mem wsJ2_getChar_3b067_o1 [(3, 172, 1), (3, 174, 1), (3, 176, 1), (3, 165, 2), (1, 19, 1)] rfl) it_J2_length_9d52b)
set_option maxRecDepth 20000 in
theorem it_J2_charAt_3b067 : inT wsJ2_charAt_3b067 := it_cons (lw_mem [Cond.code yJ2_charAt_3b067 cJ2_charAt_3b067 2 (some .char)] [(3, 161, 1)] rfl) (it_app (lw_mem wsJ2_charAt_3b067_o1 [(3, 162, 2), (1, 19, 1), (3, 169, 2)] rfl) (it_app it_J2_checkIndex_2214a it_J2_getChar_3b067))
set_option maxRecDepth 20000 in
theorem it_J0_charAt_5068e : inT wsJ0_charAt_5068e := it_cons (lw_mem [Cond.code yJ0_charAt_5068e cJ0_charAt_5068e 2 (some .char)] [(3, 141, 1)] rfl) (it_app (lw_mem wsJ0_charAt_5068e_o1 [(7, 10, 1), (3, 142, 3), (1, 16, 1), (3, 148, 2), (1, 17, 1), (3, 159, 2), (1, 19, 1)] rfl) (it_app (it_app it_J0_isLatin1_aae02 it_J1_charAt_3b067) it_J2_charAt_3b067))
set_option maxRecDepth 20000 in
theorem it_X2_isWord : inT wsX2_isWord := it_cons (lw_mem [Cond.code yX2_isWord cX2_isWord 4 (some .boolean)] [(3, 136, 1)] rfl) (it_app (lw_mem wsX2_isWord_o1 [(1, 201, 2), (1, 186, 1), (3, 138, 3), (1, 16, 1)] rfl) (it_app it_X20 it_J0_charAt_5068e))
set_option maxRecDepth 20000 in
theorem it_X2_readName : inT wsX2_readName := it_cons (lw_mem [Cond.code yX2_readName cX2_readName 2 none] [(3, 132, 1)] rfl) (it_app (lw_mem wsX2_readName_o1 [(1, 202, 1), (1, 187, 1), (1, 186, 1), (1, 203, 1), (1, 201, 1), (3, 126, 2), (1, 8, 1), (3, 133, 1), (3, 135, 1), (0, 13, 1)] rfl) (it_app (it_app it_X20 it_X2_isLetter) it_X2_isWord))
set_option maxRecDepth 20000 in
theorem it_X2_isFigure : inT wsX2_isFigure := it_cons (lw_mem [Cond.code yX2_isFigure cX2_isFigure 1 (some .boolean)] [(3, 180, 1)] rfl) (lw_mem [] [] rfl)
set_option maxRecDepth 20000 in
theorem it_X2_readNumber : inT wsX2_readNumber := it_cons (lw_mem [Cond.code yX2_readNumber cX2_readNumber 1 none] [(3, 184, 1)] rfl) (it_app (lw_mem wsX2_readNumber_o1 [(1, 204, 1), (1, 202, 1), (1, 187, 1), (1, 186, 1), (1, 201, 1), (1, 203, 1), (3, 178, 2), (1, 8, 1)] rfl) (it_app it_X20 it_X2_isFigure))
set_option maxRecDepth 20000 in
theorem it_X2_next : inT wsX2_next := it_cons (lw_mem [Cond.code yX2_next cX2_next 1 none] [(3, 125, 1)] rfl) (it_app (lw_mem wsX2_next_o1 [(1, 202, 1), (1, 201, 1), (1, 187, 1), (1, 186, 1), (1, 203, 1), (3, 126, 2), (1, 8, 1), (3, 129, 1), (3, 131, 1), (0, 12, 1), (3, 178, 2), (3, 181, 1), (3, 183, 1), (0, 14, 1)] rfl) (it_app (it_app (it_app it_X20 it_X2_isLetter) it_X2_readName) (it_app it_X2_isFigure it_X2_readNumber)))
set_option maxRecDepth 20000 in
theorem it_X2_readAct : inT wsX2_readAct := it_cons (lw_mem [Cond.code yX2_readAct cX2_readAct 1 (some .int)] [(3, 188, 1)] rfl) (it_app (lw_mem wsX2_readAct_o1 [(1, 203, 1), (1, 200, 1), (1, 197, 2), (1, 204, 1), (3, 122, 1), (3, 124, 1), (0, 11, 1), (1, 8, 1), (1, 187, 1)] rfl) (it_app it_X20 it_X2_next))
set_option maxRecDepth 20000 in
theorem it_X2_readPart : inT wsX2_readPart := it_cons (lw_mem [Cond.code yX2_readPart cX2_readPart 1 (some .int)] [(3, 192, 1)] rfl) (it_app (lw_mem wsX2_readPart_o1 [(1, 203, 2), (1, 199, 2), (3, 122, 1), (3, 124, 1), (0, 11, 1), (1, 8, 1)] rfl) (it_app it_X20 it_X2_next))
set_option maxRecDepth 20000 in
theorem it_X2_keepDraft : inT wsX2_keepDraft := it_cons (lw_mem [Cond.code yX2_keepDraft cX2_keepDraft 1 none] [(3, 197, 1)] rfl) (it_app (lw_mem wsX2_keepDraft_o1 [(1, 197, 1), (1, 191, 1), (1, 200, 1), (3, 198, 1), (2, 166, 1), (2, 165, 1), (1, 14, 1), (1, 198, 1), (1, 192, 1), (1, 199, 1), (1, 193, 1), (1, 195, 1)] rfl) it_X20)
set_option maxRecDepth 20000 in
theorem it_X2_read : inT wsX2_read := it_cons (lw_mem [Cond.code yX2_read cX2_read 3 (some .int)] [(3, 121, 1)] rfl) (it_app (lw_mem wsX2_read_o1 [(1, 202, 1), (1, 200, 1), (1, 203, 1), (1, 187, 1), (1, 189, 1), (3, 193, 1), (1, 201, 1), (1, 195, 1), (3, 122, 1), (3, 124, 1), (1, 8, 1), (3, 185, 1), (3, 187, 1), (0, 15, 1), (3, 189, 1), (3, 191, 1), (0, 16, 1), (3, 194, 1), (3, 196, 1), (0, 17, 1)] rfl) (it_app (it_app (it_app it_X20 it_X2_next) it_X2_readAct) (it_app it_X2_readPart it_X2_keepDraft)))
set_option maxRecDepth 20000 in
theorem it_X3_init : inT wsX3_init := it_cons (lw_mem [Cond.code yX3_init cX3_init 1 none] [(1, 58, 1)] rfl) (it_app (lw_mem wsX3_init_o1 [(1, 59, 1), (1, 27, 2), (1, 53, 1), (1, 60, 4), (1, 66, 4)] rfl) it_X30)
set_option maxRecDepth 20000 in
theorem it_X3_tell : inT wsX3_tell := it_cons (lw_mem [Cond.code yX3_tell cX3_tell 5 (some .int)] [(2, 198, 1)] rfl) (it_app (lw_mem wsX3_tell_o1 [(1, 60, 1), (1, 64, 1), (1, 61, 3)] rfl) it_X30)
set_option maxRecDepth 20000 in
theorem it_X3_place : inT wsX3_place := it_cons (lw_mem [Cond.code yX3_place cX3_place 2 (some .int)] [(2, 215, 1)] rfl) (lw_mem [] [] rfl)
set_option maxRecDepth 20000 in
theorem it_X3_gatherWhoHas : inT wsX3_gatherWhoHas := it_cons (lw_mem [Cond.code yX3_gatherWhoHas cX3_gatherWhoHas 2 none] [(2, 219, 1)] rfl) (it_app (lw_mem wsX3_gatherWhoHas_o1 [(1, 68, 1), (1, 64, 1), (1, 66, 1), (1, 60, 2), (2, 212, 1), (1, 38, 1), (1, 3, 1), (2, 213, 2), (1, 4, 1)] rfl) (it_app (it_app it_X30 it_J7_fill_53178) it_X3_place))
set_option maxRecDepth 20000 in
theorem it_X3_closeReach : inT wsX3_closeReach := it_cons (lw_mem [Cond.code yX3_closeReach cX3_closeReach 3 none] [(2, 223, 1)] rfl) (it_app (lw_mem wsX3_closeReach_o1 [(1, 68, 2), (2, 224, 1), (2, 166, 1), (2, 165, 1), (1, 14, 1), (2, 226, 1), (1, 1, 1)] rfl) (it_app it_X30 it_X10_hasBit))
set_option maxRecDepth 20000 in
theorem it_X3_lookAt : inT wsX3_lookAt := it_cons (lw_mem [Cond.code yX3_lookAt cX3_lookAt 4 none] [(2, 211, 1)] rfl) (it_app (lw_mem wsX3_lookAt_o1 [(1, 66, 2), (1, 64, 1), (1, 60, 2), (1, 63, 1), (1, 62, 1), (2, 212, 1), (1, 38, 1), (1, 3, 1), (2, 213, 2), (1, 4, 1), (2, 216, 1), (2, 218, 1), (0, 2, 1), (2, 220, 1), (2, 222, 1), (0, 3, 1)] rfl) (it_app (it_app (it_app it_X30 it_J7_fill_53178) it_X3_place) (it_app it_X3_gatherWhoHas it_X3_closeReach)))
set_option maxRecDepth 20000 in
theorem it_X3_partOf : inT wsX3_partOf := it_cons (lw_mem [Cond.code yX3_partOf cX3_partOf 3 (some .int)] [(2, 231, 1)] rfl) (it_app (lw_mem wsX3_partOf_o1 [(1, 66, 1), (2, 213, 2), (1, 4, 1)] rfl) (it_app it_X30 it_X3_place))
set_option maxRecDepth 20000 in
theorem it_X3_leadingTo : inT wsX3_leadingTo := it_cons (lw_mem [Cond.code yX3_leadingTo cX3_leadingTo 4 (some .int)] [(3, 4, 1)] rfl) (it_app (lw_mem wsX3_leadingTo_o1 [(1, 69, 1), (2, 226, 1), (1, 1, 1)] rfl) (it_app it_X30 it_X10_hasBit))
set_option maxRecDepth 20000 in
theorem it_X3_along : inT wsX3_along := it_cons (lw_mem [Cond.code yX3_along cX3_along 11 (some .long)] [(3, 7, 1)] rfl) (it_app (lw_mem wsX3_along_o1 [(1, 68, 1), (2, 226, 1), (1, 1, 1), (3, 8, 1), (2, 229, 2), (1, 4, 1), (3, 5, 2)] rfl) (it_app (it_app it_X30 it_X10_hasBit) it_X3_partOf))
set_option maxRecDepth 20000 in
theorem it_X3_shareOf : inT wsX3_shareOf := it_cons (lw_mem [Cond.code yX3_shareOf cX3_shareOf 6 (some .int)] [(2, 239, 1)] rfl) (it_app (lw_mem wsX3_shareOf_o1 [(3, 0, 1), (3, 9, 3), (1, 15, 1), (3, 12, 1), (3, 1, 1), (3, 3, 1), (0, 4, 1), (1, 4, 1), (3, 5, 2)] rfl) (it_app (it_app it_X30 it_X3_leadingTo) it_X3_along))
set_option maxRecDepth 20000 in
theorem it_X4_init : inT wsX4_init := it_cons (lw_mem [Cond.code yX4_init cX4_init 1 none] [(2, 50, 1)] rfl) (it_app (lw_mem wsX4_init_o1 [(2, 51, 1), (1, 27, 2), (1, 53, 1), (2, 52, 3)] rfl) it_X40)
set_option maxRecDepth 20000 in
theorem it_X4_tell : inT wsX4_tell := it_cons (lw_mem [Cond.code yX4_tell cX4_tell 4 (some .int)] [(4, 93, 1)] rfl) (it_app (lw_mem wsX4_tell_o1 [(2, 52, 1), (2, 55, 1), (2, 53, 2)] rfl) it_X40)
set_option maxRecDepth 20000 in
theorem it_X4_peopleOn : inT wsX4_peopleOn := it_cons (lw_mem [Cond.code yX4_peopleOn cX4_peopleOn 4 (some .int)] [(4, 105, 1)] rfl) (it_app (lw_mem wsX4_peopleOn_o1 [(2, 55, 1), (2, 53, 2), (2, 52, 1)] rfl) it_X40)
set_option maxRecDepth 20000 in
theorem it_X5_init : inT wsX5_init := it_cons (lw_mem [Cond.code yX5_init cX5_init 2 none] [(2, 70, 1)] rfl) (it_app (lw_mem wsX5_init_o1 [(2, 71, 1), (1, 27, 2), (2, 79, 1), (2, 73, 1), (2, 72, 1)] rfl) it_X50)
set_option maxRecDepth 20000 in
theorem it_X5_lotOf : inT wsX5_lotOf := it_cons (lw_mem [Cond.code yX5_lotOf cX5_lotOf 5 (some .long)] [(4, 27, 1)] rfl) (it_app (lw_mem wsX5_lotOf_o1 [(2, 72, 1), (4, 28, 5)] rfl) it_X50)
set_option maxRecDepth 20000 in
theorem it_X5_drawLots : inT wsX5_drawLots := it_cons (lw_mem [Cond.code yX5_drawLots cX5_drawLots 4 none] [(4, 44, 1)] rfl) (it_app (lw_mem wsX5_drawLots_o1 [(2, 73, 1), (2, 226, 1), (1, 1, 1), (4, 46, 1), (4, 25, 2), (1, 12, 1), (2, 72, 1)] rfl) (it_app (it_app it_X50 it_X10_hasBit) it_X5_lotOf))
set_option maxRecDepth 20000 in
theorem it_X5_howManyAhead : inT wsX5_howManyAhead := it_cons (lw_mem [Cond.code yX5_howManyAhead cX5_howManyAhead 5 (some .int)] [(4, 50, 1)] rfl) (it_app (lw_mem wsX5_howManyAhead_o1 [(2, 73, 1), (2, 226, 1), (1, 1, 1)] rfl) (it_app it_X50 it_X10_hasBit))
set_option maxRecDepth 20000 in
theorem it_X6_init : inT wsX6_init := it_cons (lw_mem [Cond.code yX6_init cX6_init 1 none] [(2, 27, 1)] rfl) (it_app (lw_mem wsX6_init_o1 [(2, 28, 1), (1, 27, 2), (1, 53, 1), (2, 29, 4)] rfl) it_X60)
set_option maxRecDepth 20000 in
theorem it_X6_tell : inT wsX6_tell := it_cons (lw_mem [Cond.code yX6_tell cX6_tell 5 (some .int)] [(4, 62, 1)] rfl) (it_app (lw_mem wsX6_tell_o1 [(2, 29, 1), (2, 33, 1), (2, 30, 3)] rfl) it_X60)
set_option maxRecDepth 20000 in
theorem it_X6_firstOf : inT wsX6_firstOf := it_cons (lw_mem [Cond.code yX6_firstOf cX6_firstOf 4 (some .int)] [(4, 74, 1)] rfl) (it_app (lw_mem wsX6_firstOf_o1 [(2, 33, 1), (2, 29, 2)] rfl) it_X60)
set_option maxRecDepth 20000 in
theorem it_X6_compared : inT wsX6_compared := it_cons (lw_mem [Cond.code yX6_compared cX6_compared 5 (some .int)] [(4, 78, 1)] rfl) (it_app (lw_mem wsX6_compared_o1 [(2, 31, 1), (4, 79, 2), (1, 15, 1), (4, 81, 1), (2, 32, 1), (4, 82, 1), (4, 3, 1), (1, 20, 1)] rfl) (it_app it_X60 it_J6_bitCount_0f7a4))
set_option maxRecDepth 20000 in
theorem it_X6_worstOf : inT wsX6_worstOf := it_cons (lw_mem [Cond.code yX6_worstOf cX6_worstOf 5 (some .int)] [(4, 70, 1)] rfl) (it_app (lw_mem wsX6_worstOf_o1 [(2, 33, 1), (2, 29, 1), (4, 83, 3), (4, 71, 1), (4, 73, 1), (0, 18, 1), (1, 10, 1), (2, 30, 1), (4, 75, 1), (4, 77, 1), (0, 19, 1)] rfl) (it_app (it_app it_X60 it_X6_firstOf) it_X6_compared))
set_option maxRecDepth 20000 in
theorem it_X7_init : inT wsX7_init := it_cons (lw_mem [Cond.code yX7_init cX7_init 1 none] [(1, 128, 1)] rfl) (it_app (lw_mem wsX7_init_o1 [(1, 129, 1), (1, 27, 2), (1, 53, 1), (1, 130, 6)] rfl) it_X70)
set_option maxRecDepth 20000 in
theorem it_X7_isAhead : inT wsX7_isAhead := it_cons (lw_mem [Cond.code yX7_isAhead cX7_isAhead 3 (some .boolean)] [(3, 50, 1)] rfl) (it_app (lw_mem wsX7_isAhead_o1 [(1, 133, 2)] rfl) it_X70)
set_option maxRecDepth 20000 in
theorem it_X7_tell : inT wsX7_tell := it_cons (lw_mem [Cond.code yX7_tell cX7_tell 7 (some .int)] [(3, 46, 1)] rfl) (it_app (lw_mem wsX7_tell_o1 [(1, 130, 1), (1, 136, 1), (1, 131, 5), (3, 47, 1), (3, 49, 1), (0, 6, 1), (1, 6, 1)] rfl) (it_app it_X70 it_X7_isAhead))
set_option maxRecDepth 20000 in
theorem it_X7_isKnown : inT wsX7_isKnown := it_cons (lw_mem [Cond.code yX7_isKnown cX7_isKnown 4 (some .boolean)] [(3, 62, 1)] rfl) (it_app (lw_mem wsX7_isKnown_o1 [(1, 130, 1), (1, 134, 1)] rfl) it_X70)
set_option maxRecDepth 20000 in
theorem it_X7_ownerOf : inT wsX7_ownerOf := it_cons (lw_mem [Cond.code yX7_ownerOf cX7_ownerOf 8 (some .int)] [(3, 58, 1)] rfl) (it_app (lw_mem wsX7_ownerOf_o1 [(1, 136, 1), (1, 135, 1), (1, 133, 1), (1, 131, 2), (3, 59, 1), (3, 61, 1), (0, 7, 1), (1, 6, 1), (1, 134, 1)] rfl) (it_app it_X70 it_X7_isKnown))
set_option maxRecDepth 20000 in
theorem it_X7_notGood : inT wsX7_notGood := it_cons (lw_mem [Cond.code yX7_notGood cX7_notGood 8 (some .int)] [(3, 70, 1)] rfl) (it_app (lw_mem wsX7_notGood_o1 [(1, 136, 1), (1, 135, 1), (1, 131, 2), (3, 59, 1), (3, 61, 1), (0, 7, 1), (1, 6, 1)] rfl) (it_app it_X70 it_X7_isKnown))
set_option maxRecDepth 20000 in
theorem it_X8_init : inT wsX8_init := it_cons (lw_mem [Cond.code yX8_init cX8_init 1 none] [(1, 157, 1)] rfl) (it_app (lw_mem wsX8_init_o1 [(1, 158, 1), (1, 27, 2), (1, 53, 1), (1, 159, 4), (1, 165, 1)] rfl) it_X80)
set_option maxRecDepth 20000 in
theorem it_X8_tell : inT wsX8_tell := it_cons (lw_mem [Cond.code yX8_tell cX8_tell 5 (some .int)] [(3, 78, 1)] rfl) (it_app (lw_mem wsX8_tell_o1 [(1, 159, 1), (1, 163, 1), (1, 160, 3)] rfl) it_X80)
set_option maxRecDepth 20000 in
theorem it_X8_isKnown : inT wsX8_isKnown := it_cons (lw_mem [Cond.code yX8_isKnown cX8_isKnown 4 (some .boolean)] [(3, 90, 1)] rfl) (it_app (lw_mem wsX8_isKnown_o1 [(1, 159, 1), (1, 162, 1)] rfl) it_X80)
set_option maxRecDepth 20000 in
theorem it_X8_sumsOn : inT wsX8_sumsOn := it_cons (lw_mem [Cond.code yX8_sumsOn cX8_sumsOn 5 (some .int)] [(4, 122, 1)] rfl) (it_app (lw_mem wsX8_sumsOn_o1 [(1, 163, 1), (1, 160, 1), (3, 87, 1), (3, 89, 1), (0, 8, 1), (1, 7, 1)] rfl) (it_app it_X80 it_X8_isKnown))
set_option maxRecDepth 20000 in
theorem it_X8_isAhead : inT wsX8_isAhead := it_cons (lw_mem [Cond.code yX8_isAhead cX8_isAhead 4 (some .boolean)] [(3, 98, 1)] rfl) (it_app (lw_mem wsX8_isAhead_o1 [(1, 162, 1), (1, 161, 1), (1, 160, 1)] rfl) it_X80)
set_option maxRecDepth 20000 in
theorem it_X8_putBehind : inT wsX8_putBehind := it_cons (lw_mem [Cond.code yX8_putBehind cX8_putBehind 5 none] [(3, 94, 1)] rfl) (it_app (lw_mem wsX8_putBehind_o1 [(1, 165, 1), (3, 95, 1), (3, 97, 1), (0, 10, 1), (1, 7, 1)] rfl) (it_app it_X80 it_X8_isAhead))
set_option maxRecDepth 20000 in
theorem it_X8_putInOrder : inT wsX8_putInOrder := it_cons (lw_mem [Cond.code yX8_putInOrder cX8_putInOrder 6 (some .int)] [(3, 86, 1)] rfl) (it_app (lw_mem wsX8_putInOrder_o1 [(1, 163, 1), (3, 87, 1), (3, 89, 1), (0, 8, 1), (1, 7, 1), (3, 91, 1), (3, 93, 1), (0, 9, 1), (1, 160, 1)] rfl) (it_app (it_app it_X80 it_X8_isKnown) it_X8_putBehind))
set_option maxRecDepth 20000 in
theorem it_X8_paidTo : inT wsX8_paidTo := it_cons (lw_mem [Cond.code yX8_paidTo cX8_paidTo 5 (some .int)] [(3, 102, 1)] rfl) (it_app (lw_mem wsX8_paidTo_o1 [(1, 160, 1), (1, 165, 1), (3, 103, 2), (1, 15, 1), (3, 105, 1)] rfl) it_X80)
set_option maxRecDepth 20000 in
theorem it_X9_init : inT wsX9_init := it_cons (lw_mem [Cond.code yX9_init cX9_init 1 none] [(1, 33, 1)] rfl) (it_app (lw_mem wsX9_init_o1 [(1, 34, 1), (1, 27, 2), (1, 35, 1), (1, 53, 1), (1, 40, 1), (1, 42, 1), (1, 44, 1), (1, 37, 2), (1, 3, 1)] rfl) (it_app it_X90 it_J7_fill_53178))
set_option maxRecDepth 20000 in
theorem it_X9_isMissing : inT wsX9_isMissing := it_cons (lw_mem [Cond.code yX9_isMissing cX9_isMissing 2 (some .boolean)] [(2, 151, 1)] rfl) (it_app (lw_mem wsX9_isMissing_o1 [(1, 44, 1)] rfl) it_X90)
set_option maxRecDepth 20000 in
theorem it_X9_hasPlaces : inT wsX9_hasPlaces := it_cons (lw_mem [Cond.code yX9_hasPlaces cX9_hasPlaces 4 (some .boolean)] [(2, 155, 1)] rfl) (it_app (lw_mem wsX9_hasPlaces_o1 [(1, 44, 1)] rfl) it_X90)
set_option maxRecDepth 20000 in
theorem it_X9_lay : inT wsX9_lay := it_cons (lw_mem [Cond.code yX9_lay cX9_lay 4 none] [(2, 139, 1)] rfl) (it_app (lw_mem wsX9_lay_o1 [(1, 40, 1), (1, 42, 1), (1, 44, 1), (1, 37, 2), (1, 3, 1)] rfl) (it_app it_X90 it_J7_fill_53178))
set_option maxRecDepth 20000 in
theorem it_X9_put : inT wsX9_put := it_cons (lw_mem [Cond.code yX9_put cX9_put 5 (some .int)] [(2, 159, 1)] rfl) (it_app (lw_mem wsX9_put_o1 [(1, 42, 1), (1, 40, 1)] rfl) it_X90)
set_option maxRecDepth 20000 in
theorem it_X9_takeAway : inT wsX9_takeAway := it_cons (lw_mem [Cond.code yX9_takeAway cX9_takeAway 2 none] [(2, 174, 1)] rfl) (it_app (lw_mem wsX9_takeAway_o1 [(1, 44, 1)] rfl) it_X90)
set_option maxRecDepth 20000 in
theorem it_X9_howMany : inT wsX9_howMany := it_cons (lw_mem [Cond.code yX9_howMany cX9_howMany 3 (some .int)] [(4, 189, 1)] rfl) (it_app (lw_mem wsX9_howMany_o1 [(4, 190, 1), (2, 149, 2), (1, 2, 1), (1, 44, 1)] rfl) (it_app it_X90 it_X9_isMissing))
set_option maxRecDepth 20000 in
theorem it_J9_abs_0f7a4 : inT wsJ9_abs_0f7a4 := it_cons (lw_mem [Cond.code yJ9_abs_0f7a4 cJ9_abs_0f7a4 1 (some .int)] [(4, 81, 1)] rfl) (lw_mem [] [] rfl)
set_option maxRecDepth 20000 in
theorem it_J9_max_7cf53 : inT wsJ9_max_7cf53 := it_cons (lw_mem [Cond.code yJ9_max_7cf53 cJ9_max_7cf53 2 (some .int)] [(4, 85, 1)] rfl) (lw_mem [] [] rfl)
set_option maxRecDepth 20000 in
theorem it_J9_min_7cf53 : inT wsJ9_min_7cf53 := it_cons (lw_mem [Cond.code yJ9_min_7cf53 cJ9_min_7cf53 2 (some .int)] [(3, 105, 1)] rfl) (lw_mem [] [] rfl)
set_option maxRecDepth 20000 in
theorem it_J9_min_f86c9 : inT wsJ9_min_f86c9 := it_cons (lw_mem [Cond.code yJ9_min_f86c9 cJ9_min_f86c9 4 (some .long)] [(3, 12, 1)] rfl) (lw_mem [] [] rfl)
-- it_X0_init it_X0_tell it_X2_lineFor it_X0_firstWaking it_J7_fill_53178 it_X1_init it_X1_tell it_X1_setIn it_X1_setInRooms it_X1_worthsOf it_J6_bitCount_0f7a4 it_X1_fits it_X2_init it_X2_take it_X2_isLetter it_J0_isLatin1_aae02 it_J3_checkIndex_8e157 it_J0_checkIndex_df160 it_J1_charAt_3b067 it_J2_length_9d52b it_J2_checkIndex_2214a it_J2_getChar_3b067 it_J2_charAt_3b067 it_J0_charAt_5068e it_X2_isWord it_X2_readName it_X2_isFigure it_X2_readNumber it_X2_next it_X2_readAct it_X2_readPart it_X2_keepDraft it_X2_read it_X3_init it_X3_tell it_X3_place it_X3_gatherWhoHas it_X3_closeReach it_X3_lookAt it_X3_partOf it_X3_leadingTo it_X3_along it_X3_shareOf it_X4_init it_X4_tell it_X4_peopleOn it_X5_init it_X5_lotOf it_X5_drawLots it_X5_howManyAhead it_X6_init it_X6_tell it_X6_firstOf it_X6_compared it_X6_worstOf it_X7_init it_X7_isAhead it_X7_tell it_X7_isKnown it_X7_ownerOf it_X7_notGood it_X8_init it_X8_tell it_X8_isKnown it_X8_sumsOn it_X8_isAhead it_X8_putBehind it_X8_putInOrder it_X8_paidTo it_X9_init it_X9_isMissing it_X9_hasPlaces it_X9_lay it_X9_put it_X9_takeAway it_X9_howMany it_J9_abs_0f7a4 it_J9_max_7cf53 it_J9_min_7cf53 it_J9_min_f86c9
end

section
set_option maxRecDepth 20000 in
theorem it_X100 : inT wsX100 := lw_mem _ [(2, 94, 1), (2, 96, 1), (2, 98, 1), (2, 100, 1), (2, 102, 1), (2, 104, 1), (2, 106, 1), (2, 108, 1), (2, 110, 1), (2, 112, 1), (2, 114, 1), (2, 116, 1), (2, 118, 1), (2, 120, 1)] rfl
set_option maxRecDepth 20000 in
theorem it_X10_init : inT wsX10_init := it_cons (lw_mem [Cond.code yX10_init cX10_init 2 none] [(1, 25, 1)] rfl) (it_app (it_app (it_app (lw_mem wsX10_init_o1 [(1, 26, 1), (1, 29, 2), (1, 2, 1), (2, 80, 1), (1, 54, 2), (1, 4, 1), (2, 81, 1), (1, 90, 2), (1, 5, 1), (2, 82, 1), (1, 124, 2), (1, 6, 1), (2, 83, 1), (1, 153, 2), (1, 7, 1), (2, 84, 1), (1, 180, 2), (1, 8, 1)] rfl) (lw_mem wsX10_init_o2 [(2, 85, 1), (1, 237, 2), (1, 9, 1), (2, 86, 1), (2, 23, 2), (1, 10, 1), (2, 88, 1), (2, 46, 2), (1, 11, 1), (2, 89, 2), (2, 66, 2), (1, 12, 1), (2, 87, 1), (1, 31, 2), (1, 57, 1), (1, 92, 2), (1, 127, 1)] rfl)) (lw_mem wsX10_init_o3 [(1, 156, 1), (1, 183, 1), (2, 0, 1), (2, 26, 1), (2, 49, 1), (2, 68, 2)] rfl)) (it_app (it_app (it_app (it_app (it_app it_X90 it_X100) it_X30) (it_app (it_app it_X10 it_X70) it_X80)) (it_app (it_app (it_app it_X20 it_X00) it_X60) (it_app it_X40 it_X50))) (it_app (it_app (it_app (it_app it_X9_init it_X3_init) it_X1_init) (it_app it_X7_init it_X8_init)) (it_app (it_app (it_app it_X2_init it_X0_init) it_X6_init) (it_app it_X4_init it_X5_init)))))
set_option maxRecDepth 20000 in
theorem it_X10_isBelow : inT wsX10_isBelow := it_cons (lw_mem [Cond.code yX10_isBelow cX10_isBelow 2 (some .boolean)] [(2, 129, 1)] rfl) (lw_mem [] [] rfl)
set_option maxRecDepth 20000 in
theorem it_X10_finding : inT wsX10_finding := it_cons (lw_mem [Cond.code yX10_finding cX10_finding 2 (some .int)] [(2, 134, 1)] rfl) (it_app (lw_mem wsX10_finding_o1 [(2, 93, 1), (2, 135, 1)] rfl) it_X100)
set_option maxRecDepth 20000 in
theorem it_X10_passed : inT wsX10_passed := it_cons (lw_mem [Cond.code yX10_passed cX10_passed 2 (some .int)] [(2, 143, 1)] rfl) (it_app (lw_mem wsX10_passed_o1 [(2, 93, 1)] rfl) it_X100)
set_option maxRecDepth 20000 in
theorem it_X10_sheet : inT wsX10_sheet := it_cons (lw_mem [Cond.code yX10_sheet cX10_sheet 4 (some .int)] [(2, 126, 1)] rfl) (it_app (lw_mem wsX10_sheet_o1 [(2, 130, 1), (2, 80, 1), (2, 127, 2), (1, 1, 1), (2, 131, 1), (2, 133, 1), (0, 0, 1), (2, 136, 3), (1, 2, 1), (2, 140, 1), (2, 142, 1), (0, 1, 1)] rfl) (it_app (it_app (it_app it_X100 it_X90) it_X10_isBelow) (it_app (it_app it_X10_finding it_X9_lay) it_X10_passed)))
set_option maxRecDepth 20000 in
theorem it_X10_set : inT wsX10_set := it_cons (lw_mem [Cond.code yX10_set cX10_set 4 (some .int)] [(2, 147, 1)] rfl) (it_app (lw_mem wsX10_set_o1 [(2, 130, 1), (2, 80, 1), (2, 127, 2), (1, 1, 1), (2, 148, 3), (1, 2, 1), (2, 131, 1), (2, 133, 1), (0, 0, 1), (2, 152, 3), (2, 156, 3), (2, 140, 1), (2, 142, 1), (0, 1, 1)] rfl) (it_app (it_app (it_app it_X100 it_X90) (it_app it_X10_isBelow it_X9_isMissing)) (it_app (it_app it_X10_finding it_X9_hasPlaces) (it_app it_X9_put it_X10_passed))))
set_option maxRecDepth 20000 in
theorem it_X10_copy : inT wsX10_copy := it_cons (lw_mem [Cond.code yX10_copy cX10_copy 6 (some .int)] [(2, 163, 1)] rfl) (it_app (lw_mem wsX10_copy_o1 [(2, 130, 1), (2, 80, 1), (1, 43, 1), (1, 41, 1), (2, 164, 1), (2, 166, 1), (2, 165, 1), (1, 14, 1), (2, 127, 2), (1, 1, 1), (2, 148, 3), (1, 2, 1), (2, 131, 1), (2, 133, 1), (0, 0, 1), (2, 152, 3), (2, 140, 1), (2, 142, 1), (0, 1, 1)] rfl) (it_app (it_app (it_app it_X100 it_X90) (it_app it_X10_isBelow it_X9_isMissing)) (it_app (it_app it_X10_finding it_X9_hasPlaces) it_X10_passed)))
set_option maxRecDepth 20000 in
theorem it_X10_drop : inT wsX10_drop := it_cons (lw_mem [Cond.code yX10_drop cX10_drop 3 (some .int)] [(2, 170, 1)] rfl) (it_app (lw_mem wsX10_drop_o1 [(2, 130, 1), (2, 80, 1), (1, 45, 1), (2, 127, 2), (1, 1, 1), (2, 148, 3), (1, 2, 1), (2, 131, 1), (2, 133, 1), (0, 0, 1), (2, 171, 3), (2, 140, 1), (2, 142, 1), (0, 1, 1)] rfl) (it_app (it_app (it_app it_X100 it_X90) (it_app it_X10_isBelow it_X9_isMissing)) (it_app (it_app it_X10_finding it_X9_takeAway) it_X10_passed)))
set_option maxRecDepth 20000 in
theorem it_X10_isOwner : inT wsX10_isOwner := it_cons (lw_mem [Cond.code yX10_isOwner cX10_isOwner 1 (some .boolean)] [(2, 184, 1)] rfl) (it_app (lw_mem wsX10_isOwner_o1 [(2, 127, 2), (1, 1, 1)] rfl) it_X10_isBelow)
set_option maxRecDepth 20000 in
theorem it_X10_isPerson : inT wsX10_isPerson := it_cons (lw_mem [Cond.code yX10_isPerson cX10_isPerson 1 (some .boolean)] [(2, 187, 1)] rfl) (it_app (lw_mem wsX10_isPerson_o1 [(2, 127, 2), (1, 1, 1)] rfl) it_X10_isBelow)
set_option maxRecDepth 20000 in
theorem it_X10_isPair : inT wsX10_isPair := it_cons (lw_mem [Cond.code yX10_isPair cX10_isPair 2 (some .boolean)] [(2, 181, 1)] rfl) (it_app (lw_mem wsX10_isPair_o1 [(2, 182, 2), (1, 1, 1), (2, 185, 2)] rfl) (it_app it_X10_isOwner it_X10_isPerson))
set_option maxRecDepth 20000 in
theorem it_X10_isFrom : inT wsX10_isFrom := it_cons (lw_mem [Cond.code yX10_isFrom cX10_isFrom 3 (some .boolean)] [(2, 190, 1)] rfl) (lw_mem [] [] rfl)
set_option maxRecDepth 20000 in
theorem it_X10_isDay : inT wsX10_isDay := it_cons (lw_mem [Cond.code yX10_isDay cX10_isDay 1 (some .boolean)] [(2, 193, 1)] rfl) (it_app (lw_mem wsX10_isDay_o1 [(2, 127, 2), (1, 1, 1)] rfl) it_X10_isBelow)
set_option maxRecDepth 20000 in
theorem it_X10_hold : inT wsX10_hold := it_cons (lw_mem [Cond.code yX10_hold cX10_hold 5 (some .int)] [(2, 178, 1)] rfl) (it_app (lw_mem wsX10_hold_o1 [(2, 130, 1), (2, 81, 1), (1, 65, 1), (2, 194, 1), (2, 179, 2), (1, 1, 1), (2, 188, 2), (2, 191, 2), (2, 195, 3), (1, 4, 1)] rfl) (it_app (it_app (it_app it_X100 it_X30) it_X10_isPair) (it_app (it_app it_X10_isFrom it_X10_isDay) it_X3_tell)))
set_option maxRecDepth 20000 in
theorem it_X10_holds : inT wsX10_holds := it_cons (lw_mem [Cond.code yX10_holds cX10_holds 8 (some .int)] [(2, 202, 1)] rfl) (it_app (lw_mem wsX10_holds_o1 [(2, 130, 1), (2, 80, 1), (1, 41, 1), (2, 127, 2), (1, 1, 1), (2, 188, 2), (2, 148, 3), (1, 2, 1), (2, 131, 1), (2, 133, 1), (0, 0, 1), (2, 152, 3), (2, 203, 1), (2, 176, 2), (2, 140, 1), (2, 142, 1), (0, 1, 1)] rfl) (it_app (it_app (it_app (it_app it_X100 it_X90) it_X30) (it_app it_X10_isBelow it_X10_isFrom)) (it_app (it_app (it_app it_X9_isMissing it_X10_finding) it_X9_hasPlaces) (it_app it_X10_hold it_X10_passed))))
set_option maxRecDepth 20000 in
theorem it_X10_percent : inT wsX10_percent := it_cons (lw_mem [Cond.code yX10_percent cX10_percent 4 (some .int)] [(2, 207, 1)] rfl) (it_app (lw_mem wsX10_percent_o1 [(2, 130, 1), (2, 81, 1), (2, 179, 2), (1, 1, 1), (2, 191, 2), (2, 208, 3), (1, 4, 1), (2, 228, 3)] rfl) (it_app (it_app (it_app it_X100 it_X30) it_X10_isPair) (it_app (it_app it_X10_isDay it_X3_lookAt) it_X3_partOf)))
set_option maxRecDepth 20000 in
theorem it_X10_share : inT wsX10_share := it_cons (lw_mem [Cond.code yX10_share cX10_share 4 (some .int)] [(2, 235, 1)] rfl) (it_app (lw_mem wsX10_share_o1 [(2, 130, 1), (2, 81, 1), (2, 185, 2), (1, 1, 1), (2, 182, 2), (2, 191, 2), (2, 208, 3), (1, 4, 1), (2, 236, 3)] rfl) (it_app (it_app (it_app it_X100 it_X30) (it_app it_X10_isPerson it_X10_isOwner)) (it_app (it_app it_X10_isDay it_X3_lookAt) it_X3_shareOf)))
set_option maxRecDepth 20000 in
theorem it_X10_truly : inT wsX10_truly := it_cons (lw_mem [Cond.code yX10_truly cX10_truly 7 (some .int)] [(3, 16, 1)] rfl) (it_app (lw_mem wsX10_truly_o1 [(2, 130, 1), (2, 81, 1), (3, 17, 1), (2, 182, 2), (1, 1, 1), (2, 191, 2), (2, 208, 3), (1, 4, 1), (2, 236, 3)] rfl) (it_app (it_app (it_app it_X100 it_X30) it_X10_isOwner) (it_app (it_app it_X10_isDay it_X3_lookAt) it_X3_shareOf)))
set_option maxRecDepth 20000 in
theorem it_X10_rings : inT wsX10_rings := it_cons (lw_mem [Cond.code yX10_rings cX10_rings 4 (some .int)] [(3, 21, 1)] rfl) (it_app (lw_mem wsX10_rings_o1 [(2, 130, 1), (2, 81, 1), (1, 70, 1), (2, 191, 2), (1, 1, 1), (2, 208, 3), (1, 4, 1), (2, 226, 1), (3, 22, 1)] rfl) (it_app (it_app (it_app it_X100 it_X30) it_X10_isDay) (it_app it_X3_lookAt it_X10_hasBit)))
set_option maxRecDepth 20000 in
theorem it_X10_crate : inT wsX10_crate := it_cons (lw_mem [Cond.code yX10_crate cX10_crate 3 (some .int)] [(3, 26, 1)] rfl) (it_app (lw_mem wsX10_crate_o1 [(3, 27, 1), (2, 130, 1), (2, 82, 1), (1, 106, 1), (2, 194, 1), (2, 182, 2), (1, 1, 1), (2, 188, 2), (3, 28, 3), (1, 5, 1)] rfl) (it_app (it_app (it_app it_X100 it_X10) it_X10_isOwner) (it_app it_X10_isFrom it_X1_tell)))
set_option maxRecDepth 20000 in
theorem it_X10_isCrate : inT wsX10_isCrate := it_cons (lw_mem [Cond.code yX10_isCrate cX10_isCrate 2 (some .boolean)] [(3, 39, 1)] rfl) (it_app (lw_mem wsX10_isCrate_o1 [(2, 82, 1), (1, 106, 1), (2, 127, 2), (1, 1, 1)] rfl) (it_app (it_app it_X100 it_X10) it_X10_isBelow))
set_option maxRecDepth 20000 in
theorem it_X10_areDays : inT wsX10_areDays := it_cons (lw_mem [Cond.code yX10_areDays cX10_areDays 2 (some .boolean)] [(3, 42, 1)] rfl) (it_app (lw_mem wsX10_areDays_o1 [(2, 191, 2), (1, 1, 1)] rfl) it_X10_isDay)
set_option maxRecDepth 20000 in
theorem it_X10_paper : inT wsX10_paper := it_cons (lw_mem [Cond.code yX10_paper cX10_paper 6 (some .int)] [(3, 35, 1)] rfl) (it_app (lw_mem wsX10_paper_o1 [(2, 130, 1), (2, 83, 1), (1, 137, 1), (2, 194, 1), (3, 36, 1), (3, 38, 1), (0, 5, 1), (1, 1, 1), (2, 182, 2), (3, 40, 2), (3, 43, 3), (1, 6, 1)] rfl) (it_app (it_app (it_app it_X100 it_X70) (it_app it_X10 it_X10_isCrate)) (it_app (it_app it_X10_isOwner it_X10_areDays) it_X7_tell)))
set_option maxRecDepth 20000 in
theorem it_X10_owner : inT wsX10_owner := it_cons (lw_mem [Cond.code yX10_owner cX10_owner 4 (some .int)] [(3, 54, 1)] rfl) (it_app (lw_mem wsX10_owner_o1 [(2, 130, 1), (2, 83, 1), (2, 82, 1), (1, 100, 1), (3, 36, 1), (3, 38, 1), (0, 5, 1), (1, 1, 1), (2, 191, 2), (3, 55, 3), (1, 6, 1)] rfl) (it_app (it_app (it_app it_X100 it_X10) it_X70) (it_app (it_app it_X10_isCrate it_X10_isDay) it_X7_ownerOf)))
set_option maxRecDepth 20000 in
theorem it_X10_quarrels : inT wsX10_quarrels := it_cons (lw_mem [Cond.code yX10_quarrels cX10_quarrels 3 (some .int)] [(3, 66, 1)] rfl) (it_app (lw_mem wsX10_quarrels_o1 [(2, 130, 1), (2, 83, 1), (2, 82, 1), (1, 100, 1), (3, 36, 1), (3, 38, 1), (0, 5, 1), (1, 1, 1), (2, 191, 2), (3, 67, 3), (1, 6, 1)] rfl) (it_app (it_app (it_app it_X100 it_X10) it_X70) (it_app (it_app it_X10_isCrate it_X10_isDay) it_X7_notGood)))
set_option maxRecDepth 20000 in
theorem it_X10_pledge : inT wsX10_pledge := it_cons (lw_mem [Cond.code yX10_pledge cX10_pledge 6 (some .int)] [(3, 74, 1)] rfl) (it_app (lw_mem wsX10_pledge_o1 [(3, 27, 1), (2, 130, 1), (2, 84, 1), (1, 164, 1), (2, 194, 1), (3, 36, 1), (3, 38, 1), (0, 5, 1), (1, 1, 1), (2, 185, 2), (2, 188, 2), (3, 40, 2), (3, 75, 3), (1, 7, 1)] rfl) (it_app (it_app (it_app it_X100 it_X80) (it_app it_X10 it_X10_isCrate)) (it_app (it_app it_X10_isPerson it_X10_isFrom) (it_app it_X10_areDays it_X8_tell))))
set_option maxRecDepth 20000 in
theorem it_X10_rank : inT wsX10_rank := it_cons (lw_mem [Cond.code yX10_rank cX10_rank 7 (some .int)] [(3, 82, 1)] rfl) (it_app (lw_mem wsX10_rank_o1 [(2, 130, 1), (2, 84, 1), (3, 17, 1), (1, 166, 1), (2, 82, 1), (1, 102, 1), (3, 36, 1), (3, 38, 1), (0, 5, 1), (1, 1, 1), (2, 127, 2), (2, 191, 2), (3, 83, 3), (1, 7, 1), (3, 99, 3)] rfl) (it_app (it_app (it_app it_X100 it_X80) (it_app it_X10 it_X10_isCrate)) (it_app (it_app it_X10_isDay it_X10_isBelow) (it_app it_X8_putInOrder it_X8_paidTo))))
set_option maxRecDepth 20000 in
theorem it_X10_feed : inT wsX10_feed := it_cons (lw_mem [Cond.code yX10_feed cX10_feed 5 (some .int)] [(3, 109, 1)] rfl) (it_app (lw_mem wsX10_feed_o1 [(2, 130, 1), (2, 85, 1), (1, 188, 1), (2, 194, 1), (2, 188, 2), (1, 1, 1), (3, 110, 3), (1, 8, 1)] rfl) (it_app (it_app it_X100 it_X20) (it_app it_X10_isFrom it_X2_take)))
set_option maxRecDepth 20000 in
theorem it_X10_duties : inT wsX10_duties := it_cons (lw_mem [Cond.code yX10_duties cX10_duties 1 (some .int)] [(3, 117, 1)] rfl) (it_app (lw_mem wsX10_duties_o1 [(2, 85, 1), (3, 118, 3), (1, 8, 1)] rfl) (it_app (it_app it_X100 it_X20) it_X2_read))
set_option maxRecDepth 20000 in
theorem it_X10_fault : inT wsX10_fault := it_cons (lw_mem [Cond.code yX10_fault cX10_fault 1 (some .int)] [(3, 202, 1)] rfl) (it_app (lw_mem wsX10_fault_o1 [(2, 85, 1), (1, 190, 1)] rfl) (it_app it_X100 it_X20))
set_option maxRecDepth 20000 in
theorem it_X10_act : inT wsX10_act := it_cons (lw_mem [Cond.code yX10_act cX10_act 5 (some .int)] [(3, 206, 1)] rfl) (it_app (lw_mem wsX10_act_o1 [(2, 130, 1), (2, 86, 1), (2, 11, 1), (2, 194, 1), (3, 36, 1), (3, 38, 1), (0, 5, 1), (1, 1, 1), (2, 127, 2), (2, 191, 2), (2, 188, 2), (3, 207, 3), (1, 9, 1)] rfl) (it_app (it_app (it_app it_X100 it_X00) (it_app it_X10 it_X10_isCrate)) (it_app (it_app it_X10_isBelow it_X10_isDay) (it_app it_X10_isFrom it_X0_tell))))
set_option maxRecDepth 20000 in
theorem it_X10_duty : inT wsX10_duty := it_cons (lw_mem [Cond.code yX10_duty cX10_duty 5 (some .int)] [(3, 214, 1)] rfl) (it_app (lw_mem wsX10_duty_o1 [(2, 130, 1), (2, 86, 1), (2, 85, 1), (2, 5, 1), (2, 9, 1), (3, 17, 1), (2, 82, 1), (1, 102, 1), (1, 194, 1), (2, 7, 1), (3, 36, 1), (3, 38, 1), (0, 5, 1), (1, 1, 1), (2, 127, 2), (3, 215, 3), (1, 9, 1), (3, 220, 1), (1, 8, 1), (3, 223, 1)] rfl) (it_app (it_app (it_app it_X100 it_X00) (it_app it_X10 it_X20)) (it_app (it_app it_X10_isCrate it_X10_isBelow) (it_app it_X0_firstWaking it_X2_lineFor))))
set_option maxRecDepth 20000 in
theorem it_X10_room : inT wsX10_room := it_cons (lw_mem [Cond.code yX10_room cX10_room 6 (some .int)] [(3, 227, 1)] rfl) (it_app (lw_mem wsX10_room_o1 [(3, 228, 1), (2, 130, 1), (2, 82, 1), (1, 108, 1), (1, 110, 1), (2, 127, 2), (1, 1, 1), (2, 188, 2)] rfl) (it_app (it_app it_X100 it_X10) (it_app it_X10_isBelow it_X10_isFrom)))
set_option maxRecDepth 20000 in
theorem it_X10_move : inT wsX10_move := it_cons (lw_mem [Cond.code yX10_move cX10_move 4 (some .int)] [(3, 232, 1)] rfl) (it_app (lw_mem wsX10_move_o1 [(3, 17, 1), (2, 130, 1), (2, 82, 1), (1, 104, 1), (3, 233, 1), (2, 194, 1), (3, 36, 1), (3, 38, 1), (0, 5, 1), (1, 1, 1), (2, 127, 2), (3, 234, 3), (1, 5, 1)] rfl) (it_app (it_app (it_app it_X100 it_X10) it_X10_isCrate) (it_app it_X10_isBelow it_X1_fits)))
set_option maxRecDepth 20000 in
theorem it_X10_inside : inT wsX10_inside := it_cons (lw_mem [Cond.code yX10_inside cX10_inside 4 (some .int)] [(4, 16, 1)] rfl) (it_app (lw_mem wsX10_inside_o1 [(2, 130, 1), (2, 82, 1), (2, 127, 2), (1, 1, 1), (4, 17, 1), (3, 239, 1), (4, 0, 1), (1, 5, 1), (4, 18, 1), (4, 3, 1), (1, 20, 1), (4, 19, 1), (4, 9, 2)] rfl) (it_app (it_app (it_app it_X100 it_X10) it_X10_isBelow) (it_app (it_app it_X1_setIn it_J6_bitCount_0f7a4) it_X1_worthsOf)))
set_option maxRecDepth 20000 in
theorem it_X10_lot : inT wsX10_lot := it_cons (lw_mem [Cond.code yX10_lot cX10_lot 4 (some .int)] [(4, 23, 1)] rfl) (it_app (lw_mem wsX10_lot_o1 [(3, 228, 1), (2, 130, 1), (2, 87, 1), (2, 127, 2), (1, 1, 1), (2, 191, 2), (2, 188, 2), (4, 24, 3), (1, 12, 1)] rfl) (it_app (it_app (it_app it_X100 it_X50) it_X10_isBelow) (it_app (it_app it_X10_isDay it_X10_isFrom) it_X5_lotOf)))
set_option maxRecDepth 20000 in
theorem it_X10_drawn : inT wsX10_drawn := it_cons (lw_mem [Cond.code yX10_drawn cX10_drawn 6 (some .int)] [(4, 36, 1)] rfl) (it_app (lw_mem wsX10_drawn_o1 [(2, 130, 1), (2, 82, 1), (2, 87, 1), (2, 191, 2), (1, 1, 1), (2, 188, 2), (4, 37, 3), (1, 5, 1), (4, 41, 3), (1, 12, 1), (2, 226, 1), (3, 22, 1), (4, 47, 3)] rfl) (it_app (it_app (it_app (it_app it_X100 it_X10) it_X50) (it_app it_X10_isDay it_X10_isFrom)) (it_app (it_app it_X1_setInRooms it_X5_drawLots) (it_app it_X10_hasBit it_X5_howManyAhead))))
set_option maxRecDepth 20000 in
theorem it_X10_often : inT wsX10_often := it_cons (lw_mem [Cond.code yX10_often cX10_often 8 (some .int)] [(4, 54, 1)] rfl) (it_app (lw_mem wsX10_often_o1 [(2, 130, 1), (2, 82, 1), (2, 87, 1), (3, 36, 1), (3, 38, 1), (0, 5, 1), (1, 1, 1), (3, 40, 2), (2, 188, 2), (4, 37, 3), (1, 5, 1), (3, 22, 1), (2, 226, 1), (4, 41, 3), (1, 12, 1), (4, 47, 3)] rfl) (it_app (it_app (it_app (it_app it_X100 it_X10) it_X50) (it_app it_X10_isCrate it_X10_areDays)) (it_app (it_app (it_app it_X10_isFrom it_X1_setInRooms) it_X10_hasBit) (it_app it_X5_drawLots it_X5_howManyAhead))))
set_option maxRecDepth 20000 in
theorem it_X10_opened : inT wsX10_opened := it_cons (lw_mem [Cond.code yX10_opened cX10_opened 5 (some .int)] [(4, 58, 1)] rfl) (it_app (lw_mem wsX10_opened_o1 [(3, 27, 1), (2, 130, 1), (2, 88, 1), (2, 34, 1), (2, 194, 1), (3, 36, 1), (3, 38, 1), (0, 5, 1), (1, 1, 1), (2, 191, 2), (2, 188, 2), (4, 59, 3), (1, 10, 1)] rfl) (it_app (it_app (it_app it_X100 it_X60) (it_app it_X10 it_X10_isCrate)) (it_app (it_app it_X10_isDay it_X10_isFrom) it_X6_tell)))
set_option maxRecDepth 20000 in
theorem it_X10_verdict : inT wsX10_verdict := it_cons (lw_mem [Cond.code yX10_verdict cX10_verdict 2 (some .int)] [(4, 66, 1)] rfl) (it_app (lw_mem wsX10_verdict_o1 [(2, 130, 1), (2, 88, 1), (3, 36, 1), (3, 38, 1), (0, 5, 1), (1, 1, 1), (4, 67, 3), (1, 10, 1)] rfl) (it_app (it_app (it_app it_X100 it_X10) it_X60) (it_app it_X10_isCrate it_X6_worstOf)))
set_option maxRecDepth 20000 in
theorem it_X10_list : inT wsX10_list := it_cons (lw_mem [Cond.code yX10_list cX10_list 4 (some .int)] [(4, 89, 1)] rfl) (it_app (lw_mem wsX10_list_o1 [(2, 130, 1), (2, 89, 1), (2, 56, 1), (2, 194, 1), (2, 185, 2), (1, 1, 1), (3, 40, 2), (4, 90, 3), (1, 11, 1)] rfl) (it_app (it_app (it_app it_X100 it_X40) it_X10_isPerson) (it_app it_X10_areDays it_X4_tell)))
set_option maxRecDepth 20000 in
theorem it_X10_isBarred : inT wsX10_isBarred := it_cons (lw_mem [Cond.code yX10_isBarred cX10_isBarred 8 (some .boolean)] [(4, 101, 1)] rfl) (it_app (lw_mem wsX10_isBarred_o1 [(2, 89, 1), (2, 83, 1), (2, 82, 1), (1, 100, 1), (2, 81, 1), (4, 106, 1), (4, 102, 3), (1, 11, 1), (3, 55, 3), (1, 6, 1), (2, 208, 3), (1, 4, 1), (2, 226, 1), (1, 1, 1), (3, 22, 1), (2, 236, 3)] rfl) (it_app (it_app (it_app (it_app it_X100 it_X10) it_X40) (it_app it_X70 it_X30)) (it_app (it_app (it_app it_X4_peopleOn it_X7_ownerOf) it_X3_lookAt) (it_app it_X10_hasBit it_X3_shareOf))))
set_option maxRecDepth 20000 in
theorem it_X10_barred : inT wsX10_barred := it_cons (lw_mem [Cond.code yX10_barred cX10_barred 3 (some .int)] [(4, 97, 1)] rfl) (it_app (lw_mem wsX10_barred_o1 [(2, 130, 1), (3, 36, 1), (3, 38, 1), (0, 5, 1), (1, 1, 1), (2, 191, 2), (4, 98, 1), (4, 100, 1), (0, 20, 1)] rfl) (it_app (it_app (it_app it_X100 it_X10) (it_app it_X40 it_X70)) (it_app (it_app it_X30 it_X10_isCrate) (it_app it_X10_isDay it_X10_isBarred))))
set_option maxRecDepth 20000 in
theorem it_X10_day : inT wsX10_day := it_cons (lw_mem [Cond.code yX10_day cX10_day 3 (some .int)] [(4, 110, 1)] rfl) (it_app (lw_mem wsX10_day_o1 [(2, 130, 1), (2, 92, 1), (2, 191, 2), (1, 1, 1)] rfl) (it_app it_X100 it_X10_isDay))
set_option maxRecDepth 20000 in
theorem it_X10_kindToday : inT wsX10_kindToday := it_cons (lw_mem [Cond.code yX10_kindToday cX10_kindToday 3 (some .int)] [(4, 118, 1)] rfl) (it_app (lw_mem wsX10_kindToday_o1 [(2, 92, 1), (2, 84, 1), (2, 82, 1), (1, 102, 1), (4, 98, 1), (4, 100, 1), (0, 20, 1), (1, 1, 1), (4, 119, 3), (1, 7, 1)] rfl) (it_app (it_app (it_app it_X100 it_X10) (it_app it_X40 it_X70)) (it_app (it_app it_X30 it_X80) (it_app it_X10_isBarred it_X8_sumsOn))))
set_option maxRecDepth 20000 in
theorem it_X10_kind : inT wsX10_kind := it_cons (lw_mem [Cond.code yX10_kind cX10_kind 2 (some .int)] [(4, 114, 1)] rfl) (it_app (lw_mem wsX10_kind_o1 [(2, 130, 1), (3, 36, 1), (3, 38, 1), (0, 5, 1), (1, 1, 1), (4, 115, 1), (4, 117, 1), (0, 21, 1)] rfl) (it_app (it_app (it_app it_X100 it_X10) (it_app it_X40 it_X70)) (it_app (it_app it_X30 it_X80) (it_app it_X10_isCrate it_X10_kindToday))))
set_option maxRecDepth 20000 in
theorem it_X10_isOfKind : inT wsX10_isOfKind := it_cons (lw_mem [Cond.code yX10_isOfKind cX10_isOfKind 2 (some .boolean)] [(4, 129, 1)] rfl) (lw_mem [] [] rfl)
set_option maxRecDepth 20000 in
theorem it_X10_as : inT wsX10_as := it_cons (lw_mem [Cond.code yX10_as cX10_as 3 (some .int)] [(4, 126, 1)] rfl) (it_app (lw_mem wsX10_as_o1 [(2, 130, 1), (2, 82, 1), (1, 102, 1), (3, 36, 1), (3, 38, 1), (0, 5, 1), (1, 1, 1), (2, 127, 2), (4, 115, 1), (4, 117, 1), (0, 21, 1), (4, 127, 2), (2, 131, 1), (2, 133, 1), (0, 0, 1), (2, 140, 1), (2, 142, 1), (0, 1, 1)] rfl) (it_app (it_app (it_app (it_app it_X100 it_X10) it_X40) (it_app (it_app it_X70 it_X30) it_X80)) (it_app (it_app (it_app it_X10_isCrate it_X10_isBelow) it_X10_kindToday) (it_app (it_app it_X10_isOfKind it_X10_finding) it_X10_passed))))
set_option maxRecDepth 20000 in
theorem it_X10_leave : inT wsX10_leave := it_cons (lw_mem [Cond.code yX10_leave cX10_leave 2 none] [(4, 145, 1)] rfl) (it_app (lw_mem wsX10_leave_o1 [(2, 91, 1), (2, 90, 1)] rfl) it_X100)
set_option maxRecDepth 20000 in
theorem it_X10_sizeLent : inT wsX10_sizeLent := it_cons (lw_mem [Cond.code yX10_sizeLent cX10_sizeLent 2 (some .int)] [(4, 149, 1)] rfl) (it_app (lw_mem wsX10_sizeLent_o1 [(2, 82, 1), (1, 102, 1), (4, 142, 1), (4, 144, 1), (0, 24, 1), (1, 1, 1)] rfl) (it_app (it_app it_X100 it_X10) it_X10_leave))
set_option maxRecDepth 20000 in
theorem it_X10_sizeOfOwed : inT wsX10_sizeOfOwed := it_cons (lw_mem [Cond.code yX10_sizeOfOwed cX10_sizeOfOwed 2 (some .int)] [(4, 141, 1)] rfl) (it_app (lw_mem wsX10_sizeOfOwed_o1 [(2, 84, 1), (2, 92, 1), (4, 142, 1), (4, 144, 1), (1, 1, 1), (4, 146, 1), (4, 148, 1), (0, 25, 1), (4, 119, 3), (1, 7, 1)] rfl) (it_app (it_app (it_app it_X100 it_X10) it_X80) (it_app (it_app it_X10_leave it_X10_sizeLent) it_X8_sumsOn)))
set_option maxRecDepth 20000 in
theorem it_X10_sizeOfDeep : inT wsX10_sizeOfDeep := it_cons (lw_mem [Cond.code yX10_sizeOfDeep cX10_sizeOfDeep 2 (some .int)] [(4, 153, 1)] rfl) (it_app (lw_mem wsX10_sizeOfDeep_o1 [(4, 142, 1), (4, 144, 1), (1, 1, 1), (4, 138, 1), (4, 140, 1), (0, 23, 1)] rfl) (it_app (it_app (it_app it_X100 it_X10) it_X80) (it_app it_X10_leave it_X10_sizeOfOwed)))
set_option maxRecDepth 20000 in
theorem it_X10_markLent : inT wsX10_markLent := it_cons (lw_mem [Cond.code yX10_markLent cX10_markLent 2 (some .int)] [(4, 165, 1)] rfl) (it_app (lw_mem wsX10_markLent_o1 [(2, 83, 1), (2, 82, 1), (1, 100, 1), (2, 92, 1), (4, 142, 1), (4, 144, 1), (0, 24, 1), (1, 1, 1), (3, 55, 3), (1, 6, 1)] rfl) (it_app (it_app (it_app it_X100 it_X10) it_X70) (it_app it_X10_leave it_X7_ownerOf)))
set_option maxRecDepth 20000 in
theorem it_X10_markOfStopped : inT wsX10_markOfStopped := it_cons (lw_mem [Cond.code yX10_markOfStopped cX10_markOfStopped 2 (some .int)] [(4, 161, 1)] rfl) (it_app (lw_mem wsX10_markOfStopped_o1 [(4, 142, 1), (4, 144, 1), (1, 1, 1), (4, 162, 1), (4, 164, 1), (0, 29, 1)] rfl) (it_app (it_app (it_app it_X100 it_X10) it_X70) (it_app it_X10_leave it_X10_markLent)))
set_option maxRecDepth 20000 in
theorem it_X10_sizeOfStopped : inT wsX10_sizeOfStopped := it_cons (lw_mem [Cond.code yX10_sizeOfStopped cX10_sizeOfStopped 2 (some .int)] [(4, 157, 1)] rfl) (it_app (lw_mem wsX10_sizeOfStopped_o1 [(4, 142, 1), (4, 144, 1), (1, 1, 1), (4, 158, 1), (4, 160, 1), (0, 28, 1)] rfl) (it_app (it_app (it_app it_X100 it_X10) it_X70) (it_app it_X10_leave it_X10_markOfStopped)))
set_option maxRecDepth 20000 in
theorem it_X10_askSize : inT wsX10_askSize := it_cons (lw_mem [Cond.code yX10_askSize cX10_askSize 3 (some .int)] [(4, 137, 1)] rfl) (it_app (lw_mem wsX10_askSize_o1 [(4, 138, 1), (4, 140, 1), (1, 1, 1), (4, 146, 1), (4, 148, 1), (4, 150, 1), (4, 152, 1), (0, 26, 1), (4, 154, 1), (4, 156, 1), (0, 27, 1), (2, 83, 1)] rfl) (it_app (it_app (it_app it_X100 it_X10) (it_app it_X80 it_X70)) (it_app (it_app it_X10_sizeOfOwed it_X10_sizeOfDeep) (it_app it_X10_sizeOfStopped it_X10_sizeLent))))
set_option maxRecDepth 20000 in
theorem it_X10_markOfOwed : inT wsX10_markOfOwed := it_cons (lw_mem [Cond.code yX10_markOfOwed cX10_markOfOwed 2 (some .int)] [(4, 173, 1)] rfl) (it_app (lw_mem wsX10_markOfOwed_o1 [(4, 142, 1), (4, 144, 1), (1, 1, 1), (4, 162, 1), (4, 164, 1), (0, 29, 1)] rfl) (it_app (it_app (it_app it_X100 it_X10) it_X70) (it_app it_X10_leave it_X10_markLent)))
set_option maxRecDepth 20000 in
theorem it_X10_markOfClean : inT wsX10_markOfClean := it_cons (lw_mem [Cond.code yX10_markOfClean cX10_markOfClean 2 (some .int)] [(4, 177, 1)] rfl) (it_app (lw_mem wsX10_markOfClean_o1 [(4, 142, 1), (4, 144, 1), (1, 1, 1), (4, 162, 1), (4, 164, 1), (0, 29, 1), (4, 146, 1), (4, 148, 1), (0, 25, 1)] rfl) (it_app (it_app (it_app it_X100 it_X10) it_X70) (it_app (it_app it_X10_leave it_X10_markLent) it_X10_sizeLent)))
set_option maxRecDepth 20000 in
theorem it_X10_askMark : inT wsX10_askMark := it_cons (lw_mem [Cond.code yX10_askMark cX10_askMark 3 (some .int)] [(4, 169, 1)] rfl) (it_app (lw_mem wsX10_askMark_o1 [(4, 170, 1), (4, 172, 1), (0, 31, 1), (1, 1, 1), (4, 162, 1), (4, 164, 1), (4, 158, 1), (4, 160, 1), (0, 28, 1), (4, 174, 1), (4, 176, 1), (0, 32, 1)] rfl) (it_app (it_app (it_app it_X100 it_X10) (it_app it_X70 it_X10_markOfOwed)) (it_app (it_app it_X10_markOfStopped it_X10_markOfClean) it_X10_markLent)))
set_option maxRecDepth 20000 in
theorem it_X10_ask : inT wsX10_ask := it_cons (lw_mem [Cond.code yX10_ask cX10_ask 4 (some .int)] [(4, 133, 1)] rfl) (it_app (lw_mem wsX10_ask_o1 [(2, 130, 1), (2, 91, 1), (3, 36, 1), (3, 38, 1), (0, 5, 1), (1, 1, 1), (2, 127, 2), (4, 115, 1), (4, 117, 1), (0, 21, 1), (4, 134, 1), (4, 136, 1), (0, 22, 1), (4, 166, 1), (4, 168, 1), (0, 30, 1)] rfl) (it_app (it_app (it_app (it_app it_X100 it_X10) it_X40) (it_app (it_app it_X70 it_X30) it_X80)) (it_app (it_app (it_app it_X10_isCrate it_X10_isBelow) it_X10_kindToday) (it_app it_X10_askSize it_X10_askMark))))
set_option maxRecDepth 20000 in
theorem it_X10_trace : inT wsX10_trace := it_cons (lw_mem [Cond.code yX10_trace cX10_trace 2 (some .int)] [(4, 181, 1)] rfl) (it_app (lw_mem wsX10_trace_o1 [(2, 91, 1), (2, 90, 1), (3, 17, 1), (2, 127, 2), (1, 1, 1)] rfl) (it_app it_X100 it_X10_isBelow))
set_option maxRecDepth 20000 in
theorem it_X10_count : inT wsX10_count := it_cons (lw_mem [Cond.code yX10_count cX10_count 2 (some .int)] [(4, 185, 1)] rfl) (it_app (lw_mem wsX10_count_o1 [(2, 80, 2), (1, 65, 1), (2, 82, 1), (1, 106, 1), (2, 83, 1), (1, 137, 1), (2, 84, 1), (1, 164, 1), (2, 85, 1), (1, 196, 1), (2, 86, 1), (2, 11, 1), (2, 88, 1), (2, 34, 1), (2, 89, 1), (2, 56, 1), (1, 188, 1), (2, 130, 1), (4, 186, 3), (1, 2, 1)] rfl) (it_app (it_app (it_app (it_app it_X100 it_X30) it_X10) (it_app (it_app it_X70 it_X80) it_X20)) (it_app (it_app (it_app it_X00 it_X60) it_X40) (it_app it_X90 it_X9_howMany))))
set_option maxRecDepth 20000 in
theorem it_X10_status : inT wsX10_status := it_cons (lw_mem [Cond.code yX10_status cX10_status 1 (some .int)] [(4, 194, 1)] rfl) (it_app (lw_mem wsX10_status_o1 [(2, 93, 1)] rfl) it_X100)
-- it_X10_hasBit it_X10_init it_X10_isBelow it_X10_finding it_X10_passed it_X10_sheet it_X10_set it_X10_copy it_X10_drop it_X10_isOwner it_X10_isPerson it_X10_isPair it_X10_isFrom it_X10_isDay it_X10_hold it_X10_holds it_X10_percent it_X10_share it_X10_truly it_X10_rings it_X10_crate it_X10_isCrate it_X10_areDays it_X10_paper it_X10_owner it_X10_quarrels it_X10_pledge it_X10_rank it_X10_feed it_X10_duties it_X10_fault it_X10_act it_X10_duty it_X10_room it_X10_move it_X10_inside it_X10_lot it_X10_drawn it_X10_often it_X10_opened it_X10_verdict it_X10_list it_X10_isBarred it_X10_barred it_X10_day it_X10_kindToday it_X10_kind it_X10_isOfKind it_X10_as it_X10_leave it_X10_sizeLent it_X10_sizeOfOwed it_X10_sizeOfDeep it_X10_markLent it_X10_markOfStopped it_X10_sizeOfStopped it_X10_askSize it_X10_markOfOwed it_X10_markOfClean it_X10_askMark it_X10_ask it_X10_trace it_X10_count it_X10_status
end

section
set_option maxRecDepth 20000 in
theorem it_X110 : inT wsX110 := lw_mem _ [(5, 30, 1), (5, 32, 1), (5, 34, 1), (5, 36, 1), (5, 38, 1), (5, 40, 1), (5, 42, 1), (5, 44, 1), (5, 46, 1), (5, 48, 1), (5, 50, 1), (5, 52, 1), (5, 54, 1), (5, 56, 1), (5, 58, 1), (5, 60, 1), (5, 62, 1), (5, 64, 1), (5, 66, 1), (5, 68, 1), (5, 70, 1), (5, 72, 1), (5, 74, 1), (5, 76, 1), (5, 78, 1), (5, 80, 1), (5, 82, 1), (5, 84, 1), (5, 86, 1), (5, 88, 1), (5, 90, 1), (5, 92, 1), (5, 94, 1), (5, 96, 1), (5, 98, 1), (5, 100, 1), (5, 102, 1), (5, 104, 1), (5, 106, 1), (5, 108, 1), (5, 110, 1), (5, 112, 1), (5, 114, 1), (5, 116, 1), (5, 118, 1), (5, 120, 1), (5, 122, 1), (5, 124, 1), (5, 126, 1), (5, 128, 1), (5, 130, 1), (5, 132, 1), (5, 134, 1), (5, 136, 1), (5, 138, 1), (5, 140, 1), (5, 142, 1), (5, 144, 1), (5, 146, 1), (5, 148, 1), (5, 150, 1), (5, 152, 1), (5, 154, 1), (5, 156, 1)] rfl
set_option maxRecDepth 20000 in
theorem it_X11_in : inT wsX11_in := it_cons (lw_mem [Cond.code yX11_in cX11_in 6 (some .boolean)] [(5, 169, 1)] rfl) (lw_mem [] [] rfl)
set_option maxRecDepth 20000 in
theorem it_X11_init : inT wsX11_init := it_cons (lw_mem [Cond.code yX11_init cX11_init 3 none] [(4, 202, 1)] rfl) (it_app (it_app (lw_mem wsX11_init_o1 [(4, 203, 1), (1, 27, 2), (1, 53, 1), (4, 209, 3), (4, 213, 7), (2, 79, 1), (4, 220, 1), (4, 222, 2), (4, 225, 5), (4, 232, 1)] rfl) (lw_mem wsX11_init_o2 [(4, 233, 3), (4, 237, 1), (4, 239, 1), (5, 0, 1), (5, 11, 7), (5, 19, 4), (5, 24, 3), (5, 28, 1), (4, 207, 1), (4, 204, 2)] rfl)) it_X110)
set_option maxRecDepth 20000 in
theorem it_X11_found : inT wsX11_found := it_cons (lw_mem [Cond.code yX11_found cX11_found 2 (some .int)] [(5, 175, 1)] rfl) (it_app (lw_mem wsX11_found_o1 [(4, 208, 1), (5, 176, 1)] rfl) it_X110)
set_option maxRecDepth 20000 in
theorem it_X11_isSheet : inT wsX11_isSheet := it_cons (lw_mem [Cond.code yX11_isSheet cX11_isSheet 1 (some .boolean)] [(5, 165, 1)] rfl) (it_app (lw_mem wsX11_isSheet_o1 [(5, 166, 3), (1, 13, 1)] rfl) it_X11_in)
set_option maxRecDepth 20000 in
theorem it_X11_sheet : inT wsX11_sheet := it_cons (lw_mem [Cond.code yX11_sheet cX11_sheet 5 (some .int)] [(5, 162, 1)] rfl) (it_app (lw_mem wsX11_sheet_o1 [(4, 206, 1), (5, 170, 2), (4, 208, 4), (5, 163, 2), (1, 13, 1), (5, 167, 2), (5, 172, 1), (5, 174, 1), (0, 33, 1)] rfl) (it_app (it_app it_X110 it_X11_isSheet) (it_app it_X11_in it_X11_found)))
set_option maxRecDepth 20000 in
theorem it_X11_set : inT wsX11_set := it_cons (lw_mem [Cond.code yX11_set cX11_set 4 (some .int)] [(5, 180, 1)] rfl) (it_app (lw_mem wsX11_set_o1 [(4, 206, 1), (5, 171, 1), (4, 208, 4), (5, 163, 2), (1, 13, 1), (5, 167, 2), (5, 172, 1), (5, 174, 1), (0, 33, 1)] rfl) (it_app (it_app it_X110 it_X11_isSheet) (it_app it_X11_found it_X11_in)))
set_option maxRecDepth 20000 in
theorem it_X11_copy : inT wsX11_copy := it_cons (lw_mem [Cond.code yX11_copy cX11_copy 9 (some .int)] [(5, 184, 1)] rfl) (it_app (lw_mem wsX11_copy_o1 [(4, 206, 1), (5, 171, 1), (4, 208, 4), (5, 163, 2), (1, 13, 1), (5, 172, 1), (5, 174, 1), (0, 33, 1)] rfl) (it_app (it_app it_X110 it_X11_isSheet) it_X11_found))
set_option maxRecDepth 20000 in
theorem it_X11_drop : inT wsX11_drop := it_cons (lw_mem [Cond.code yX11_drop cX11_drop 2 (some .int)] [(5, 188, 1)] rfl) (it_app (lw_mem wsX11_drop_o1 [(4, 206, 1), (5, 171, 1), (4, 208, 3), (5, 163, 2), (1, 13, 1), (5, 172, 1), (5, 174, 1), (0, 33, 1)] rfl) (it_app (it_app it_X110 it_X11_isSheet) it_X11_found))
set_option maxRecDepth 20000 in
theorem it_X11_isOwner : inT wsX11_isOwner := it_cons (lw_mem [Cond.code yX11_isOwner cX11_isOwner 1 (some .boolean)] [(5, 199, 1)] rfl) (it_app (lw_mem wsX11_isOwner_o1 [(5, 200, 1), (5, 167, 2), (1, 13, 1)] rfl) it_X11_in)
set_option maxRecDepth 20000 in
theorem it_X11_isPerson : inT wsX11_isPerson := it_cons (lw_mem [Cond.code yX11_isPerson cX11_isPerson 1 (some .boolean)] [(5, 230, 1)] rfl) (it_app (lw_mem wsX11_isPerson_o1 [(5, 231, 1), (5, 167, 2), (1, 13, 1)] rfl) it_X11_in)
set_option maxRecDepth 20000 in
theorem it_X11_isCompany : inT wsX11_isCompany := it_cons (lw_mem [Cond.code yX11_isCompany cX11_isCompany 1 (some .boolean)] [(5, 203, 1)] rfl) (it_app (lw_mem wsX11_isCompany_o1 [(5, 204, 1), (5, 200, 1), (5, 167, 2), (1, 13, 1)] rfl) it_X11_in)
set_option maxRecDepth 20000 in
theorem it_X11_isDay : inT wsX11_isDay := it_cons (lw_mem [Cond.code yX11_isDay cX11_isDay 1 (some .boolean)] [(5, 208, 1)] rfl) (it_app (lw_mem wsX11_isDay_o1 [(5, 209, 1), (5, 167, 2), (1, 13, 1)] rfl) it_X11_in)
set_option maxRecDepth 20000 in
theorem it_X11_holding : inT wsX11_holding := it_cons (lw_mem [Cond.code yX11_holding cX11_holding 5 (some .int)] [(5, 196, 1)] rfl) (it_app (lw_mem wsX11_holding_o1 [(5, 205, 1), (5, 171, 1), (4, 212, 1), (5, 210, 1), (4, 213, 4), (5, 197, 2), (1, 13, 1), (5, 167, 2), (5, 201, 2), (5, 206, 2)] rfl) (it_app (it_app (it_app it_X110 it_X11_isOwner) it_X11_isCompany) (it_app it_X11_in it_X11_isDay)))
set_option maxRecDepth 20000 in
theorem it_X11_hold : inT wsX11_hold := it_cons (lw_mem [Cond.code yX11_hold cX11_hold 5 (some .int)] [(5, 192, 1)] rfl) (it_app (lw_mem wsX11_hold_o1 [(4, 206, 1), (5, 193, 1), (5, 195, 1), (0, 34, 1), (1, 13, 1)] rfl) (it_app it_X110 it_X11_holding))
set_option maxRecDepth 20000 in
theorem it_X11_holds : inT wsX11_holds := it_cons (lw_mem [Cond.code yX11_holds cX11_holds 7 (some .int)] [(5, 214, 1)] rfl) (it_app (lw_mem wsX11_holds_o1 [(4, 206, 1), (5, 215, 1), (5, 171, 1), (4, 208, 4), (5, 163, 2), (1, 13, 1), (5, 167, 2), (5, 172, 1), (5, 174, 1), (0, 33, 1), (5, 193, 1), (5, 195, 1), (0, 34, 1)] rfl) (it_app (it_app (it_app it_X110 it_X11_isSheet) it_X11_in) (it_app it_X11_found it_X11_holding)))
set_option maxRecDepth 20000 in
theorem it_X11_percentOf : inT wsX11_percentOf := it_cons (lw_mem [Cond.code yX11_percentOf cX11_percentOf 6 (some .int)] [(5, 223, 1)] rfl) (it_app (lw_mem wsX11_percentOf_o1 [(4, 204, 1), (4, 212, 3), (4, 216, 1), (4, 215, 1)] rfl) it_X110)
set_option maxRecDepth 20000 in
theorem it_X11_percent : inT wsX11_percent := it_cons (lw_mem [Cond.code yX11_percent cX11_percent 4 (some .int)] [(5, 219, 1)] rfl) (it_app (lw_mem wsX11_percent_o1 [(4, 206, 1), (5, 171, 1), (5, 197, 2), (1, 13, 1), (5, 201, 2), (5, 206, 2), (5, 220, 1), (5, 222, 1), (0, 35, 1)] rfl) (it_app (it_app (it_app it_X110 it_X11_isOwner) it_X11_isCompany) (it_app it_X11_isDay it_X11_percentOf)))
set_option maxRecDepth 20000 in
theorem it_X11_findHas : inT wsX11_findHas := it_cons (lw_mem [Cond.code yX11_findHas cX11_findHas 4 none] [(6, 0, 1)] rfl) (it_app (lw_mem wsX11_findHas_o1 [(4, 217, 1), (5, 220, 1), (5, 222, 1), (0, 35, 1), (1, 13, 1)] rfl) (it_app it_X110 it_X11_percentOf))
set_option maxRecDepth 20000 in
theorem it_X11_rowsTo : inT wsX11_rowsTo := it_cons (lw_mem [Cond.code yX11_rowsTo cX11_rowsTo 11 (some .long)] [(6, 4, 1)] rfl) (it_app (lw_mem wsX11_rowsTo_o1 [(4, 218, 1), (4, 220, 1), (6, 5, 1), (4, 219, 1), (4, 217, 1), (5, 205, 1), (6, 6, 1)] rfl) it_X110)
set_option maxRecDepth 20000 in
theorem it_X11_shareOf : inT wsX11_shareOf := it_cons (lw_mem [Cond.code yX11_shareOf cX11_shareOf 4 (some .int)] [(5, 235, 1)] rfl) (it_app (lw_mem wsX11_shareOf_o1 [(5, 236, 2), (5, 239, 1), (0, 37, 1), (1, 13, 1), (6, 1, 1), (6, 3, 1), (0, 38, 1)] rfl) (it_app (it_app it_X110 it_X11_findHas) it_X11_rowsTo))
set_option maxRecDepth 20000 in
theorem it_X11_share : inT wsX11_share := it_cons (lw_mem [Cond.code yX11_share cX11_share 4 (some .int)] [(5, 227, 1)] rfl) (it_app (lw_mem wsX11_share_o1 [(4, 206, 1), (5, 171, 1), (5, 228, 2), (1, 13, 1), (5, 197, 2), (5, 206, 2), (5, 232, 1), (5, 234, 1), (0, 36, 1)] rfl) (it_app (it_app (it_app it_X110 it_X11_isPerson) it_X11_isOwner) (it_app it_X11_isDay it_X11_shareOf)))
set_option maxRecDepth 20000 in
theorem it_X11_truly : inT wsX11_truly := it_cons (lw_mem [Cond.code yX11_truly cX11_truly 7 (some .int)] [(6, 10, 1)] rfl) (it_app (lw_mem wsX11_truly_o1 [(4, 206, 1), (5, 171, 1), (4, 204, 1), (5, 197, 2), (1, 13, 1), (5, 206, 2), (5, 232, 1), (5, 234, 1), (0, 36, 1)] rfl) (it_app (it_app it_X110 it_X11_isOwner) (it_app it_X11_isDay it_X11_shareOf)))
set_option maxRecDepth 20000 in
theorem it_X11_rings : inT wsX11_rings := it_cons (lw_mem [Cond.code yX11_rings cX11_rings 10 (some .int)] [(6, 14, 1)] rfl) (it_app (lw_mem wsX11_rings_o1 [(4, 206, 1), (5, 171, 1), (4, 217, 1), (5, 206, 2), (1, 13, 1), (5, 237, 1), (5, 239, 1), (0, 37, 1), (4, 204, 1)] rfl) (it_app (it_app it_X110 it_X11_isDay) it_X11_findHas))
set_option maxRecDepth 20000 in
theorem it_X11_isCrate : inT wsX11_isCrate := it_cons (lw_mem [Cond.code yX11_isCrate cX11_isCrate 2 (some .boolean)] [(6, 27, 1)] rfl) (it_app (lw_mem wsX11_isCrate_o1 [(4, 221, 1), (5, 167, 2), (1, 13, 1)] rfl) (it_app it_X110 it_X11_in))
set_option maxRecDepth 20000 in
theorem it_X11_crate : inT wsX11_crate := it_cons (lw_mem [Cond.code yX11_crate cX11_crate 3 (some .int)] [(6, 18, 1)] rfl) (it_app (lw_mem wsX11_crate_o1 [(4, 206, 1), (6, 19, 1), (5, 171, 1), (4, 221, 1), (5, 210, 1), (4, 222, 2), (5, 197, 2), (1, 13, 1), (5, 167, 2)] rfl) (it_app (it_app it_X110 it_X11_isOwner) it_X11_in))
set_option maxRecDepth 20000 in
theorem it_X11_paper : inT wsX11_paper := it_cons (lw_mem [Cond.code yX11_paper cX11_paper 6 (some .int)] [(6, 23, 1)] rfl) (it_app (lw_mem wsX11_paper_o1 [(4, 206, 1), (5, 209, 1), (5, 171, 1), (4, 224, 1), (5, 210, 1), (4, 225, 5), (6, 24, 1), (6, 26, 1), (0, 39, 1), (1, 13, 1), (5, 167, 2), (5, 197, 2), (5, 206, 2)] rfl) (it_app (it_app (it_app it_X110 it_X11_isCrate) it_X11_isOwner) (it_app it_X11_isDay it_X11_in)))
set_option maxRecDepth 20000 in
theorem it_X11_ownerOf : inT wsX11_ownerOf := it_cons (lw_mem [Cond.code yX11_ownerOf cX11_ownerOf 12 (some .int)] [(6, 35, 1)] rfl) (it_app (lw_mem wsX11_ownerOf_o1 [(4, 222, 1), (4, 230, 1), (4, 204, 1), (4, 224, 2), (4, 229, 1), (4, 228, 1), (4, 226, 2)] rfl) it_X110)
set_option maxRecDepth 20000 in
theorem it_X11_owner : inT wsX11_owner := it_cons (lw_mem [Cond.code yX11_owner cX11_owner 4 (some .int)] [(6, 31, 1)] rfl) (it_app (lw_mem wsX11_owner_o1 [(4, 206, 1), (5, 171, 1), (6, 24, 1), (6, 26, 1), (0, 39, 1), (1, 13, 1), (5, 206, 2), (6, 32, 1), (6, 34, 1), (0, 40, 1)] rfl) (it_app (it_app it_X110 it_X11_isCrate) (it_app it_X11_isDay it_X11_ownerOf)))
set_option maxRecDepth 20000 in
theorem it_X11_quarrels : inT wsX11_quarrels := it_cons (lw_mem [Cond.code yX11_quarrels cX11_quarrels 4 (some .int)] [(6, 39, 1)] rfl) (it_app (lw_mem wsX11_quarrels_o1 [(4, 206, 1), (5, 171, 1), (4, 230, 1), (6, 24, 1), (6, 26, 1), (0, 39, 1), (1, 13, 1), (5, 206, 2), (6, 32, 1), (6, 34, 1), (0, 40, 1)] rfl) (it_app (it_app it_X110 it_X11_isCrate) (it_app it_X11_isDay it_X11_ownerOf)))
set_option maxRecDepth 20000 in
theorem it_X11_pledge : inT wsX11_pledge := it_cons (lw_mem [Cond.code yX11_pledge cX11_pledge 6 (some .int)] [(6, 43, 1)] rfl) (it_app (lw_mem wsX11_pledge_o1 [(4, 206, 1), (6, 19, 1), (5, 209, 1), (5, 171, 1), (4, 231, 1), (5, 210, 1), (4, 232, 4), (6, 24, 1), (6, 26, 1), (0, 39, 1), (1, 13, 1), (5, 167, 2), (5, 228, 2), (5, 206, 2)] rfl) (it_app (it_app (it_app it_X110 it_X11_isCrate) it_X11_isPerson) (it_app it_X11_in it_X11_isDay)))
set_option maxRecDepth 20000 in
theorem it_X11_keyOf : inT wsX11_keyOf := it_cons (lw_mem [Cond.code yX11_keyOf cX11_keyOf 3 (some .int)] [(6, 52, 1)] rfl) (it_app (lw_mem wsX11_keyOf_o1 [(4, 235, 1), (4, 234, 1), (4, 233, 1)] rfl) it_X110)
set_option maxRecDepth 20000 in
theorem it_X11_rank : inT wsX11_rank := it_cons (lw_mem [Cond.code yX11_rank cX11_rank 13 (some .int)] [(6, 47, 1)] rfl) (it_app (lw_mem wsX11_rank_o1 [(4, 206, 1), (6, 48, 1), (5, 171, 1), (4, 223, 1), (4, 204, 1), (4, 231, 2), (4, 235, 1), (4, 233, 1), (6, 24, 1), (6, 26, 1), (0, 39, 1), (1, 13, 1), (5, 167, 2), (5, 206, 2), (6, 49, 1), (6, 51, 1), (0, 41, 1)] rfl) (it_app (it_app (it_app it_X110 it_X11_isCrate) it_X11_isDay) (it_app it_X11_in it_X11_keyOf)))
set_option maxRecDepth 20000 in
theorem it_X11_feed : inT wsX11_feed := it_cons (lw_mem [Cond.code yX11_feed cX11_feed 5 (some .int)] [(6, 56, 1)] rfl) (it_app (lw_mem wsX11_feed_o1 [(4, 206, 1), (6, 57, 1), (5, 171, 1), (5, 1, 1), (5, 210, 1), (5, 0, 1), (6, 58, 1), (5, 167, 2), (1, 13, 1)] rfl) (it_app it_X110 it_X11_in))
set_option maxRecDepth 20000 in
theorem it_X11_byteAt : inT wsX11_byteAt := it_cons (lw_mem [Cond.code yX11_byteAt cX11_byteAt 2 (some .int)] [(6, 70, 1)] rfl) (it_app (lw_mem wsX11_byteAt_o1 [(5, 3, 1), (5, 0, 1), (4, 204, 1)] rfl) it_X110)
set_option maxRecDepth 20000 in
theorem it_X11_isLetter : inT wsX11_isLetter := it_cons (lw_mem [Cond.code yX11_isLetter cX11_isLetter 1 (some .boolean)] [(6, 73, 1)] rfl) (lw_mem [] [] rfl)
set_option maxRecDepth 20000 in
theorem it_X11_isFigure : inT wsX11_isFigure := it_cons (lw_mem [Cond.code yX11_isFigure cX11_isFigure 1 (some .boolean)] [(6, 76, 1)] rfl) (lw_mem [] [] rfl)
set_option maxRecDepth 20000 in
theorem it_X11_step : inT wsX11_step := it_cons (lw_mem [Cond.code yX11_step cX11_step 2 none] [(6, 66, 1)] rfl) (it_app (lw_mem wsX11_step_o1 [(5, 4, 1), (5, 6, 1), (4, 204, 1), (5, 5, 1), (5, 7, 1), (6, 67, 1), (6, 69, 1), (0, 43, 1), (1, 13, 1), (6, 71, 2), (6, 74, 2)] rfl) (it_app (it_app it_X110 it_X11_byteAt) (it_app it_X11_isLetter it_X11_isFigure)))
set_option maxRecDepth 20000 in
theorem it_X11_bad : inT wsX11_bad := it_cons (lw_mem [Cond.code yX11_bad cX11_bad 2 none] [(6, 88, 1)] rfl) (it_app (lw_mem wsX11_bad_o1 [(5, 8, 1), (5, 6, 1), (5, 9, 1)] rfl) it_X110)
set_option maxRecDepth 20000 in
theorem it_X11_need : inT wsX11_need := it_cons (lw_mem [Cond.code yX11_need cX11_need 2 none] [(6, 92, 1)] rfl) (it_app (lw_mem wsX11_need_o1 [(5, 8, 1), (6, 85, 1), (6, 87, 1), (0, 45, 1), (1, 13, 1), (6, 63, 1), (6, 65, 1), (0, 42, 1)] rfl) (it_app (it_app it_X110 it_X11_bad) it_X11_step))
set_option maxRecDepth 20000 in
theorem it_X11_is : inT wsX11_is := it_cons (lw_mem [Cond.code yX11_is cX11_is 2 (some .boolean)] [(6, 96, 1)] rfl) (it_app (lw_mem wsX11_is_o1 [(5, 5, 1), (5, 0, 1), (5, 6, 1)] rfl) it_X110)
set_option maxRecDepth 20000 in
theorem it_X11_word : inT wsX11_word := it_cons (lw_mem [Cond.code yX11_word cX11_word 4 (some .long)] [(6, 80, 1)] rfl) (it_app (lw_mem wsX11_word_o1 [(5, 6, 2), (5, 5, 1), (5, 0, 1)] rfl) it_X110)
set_option maxRecDepth 20000 in
theorem it_X11_numberUpTo : inT wsX11_numberUpTo := it_cons (lw_mem [Cond.code yX11_numberUpTo cX11_numberUpTo 4 (some .int)] [(6, 100, 1)] rfl) (it_app (lw_mem wsX11_numberUpTo_o1 [(5, 6, 2), (5, 5, 1), (5, 0, 1), (6, 85, 1), (6, 87, 1), (1, 13, 1), (6, 89, 1), (6, 91, 1), (0, 46, 1)] rfl) (it_app (it_app it_X110 it_X11_bad) it_X11_need))
set_option maxRecDepth 20000 in
theorem it_X11_duties : inT wsX11_duties := it_cons (lw_mem [Cond.code yX11_duties cX11_duties 6 (some .int)] [(6, 62, 1)] rfl) (it_app (it_app (lw_mem wsX11_duties_o1 [(4, 206, 1), (5, 1, 1), (5, 3, 2), (5, 8, 1), (4, 238, 1), (5, 5, 1), (6, 81, 4), (4, 204, 1), (6, 101, 1), (4, 239, 1), (5, 2, 1), (6, 102, 1), (5, 9, 1), (4, 236, 2), (6, 63, 1), (6, 65, 1), (1, 13, 1), (6, 77, 1), (6, 79, 1)] rfl) (lw_mem wsX11_duties_o2 [(0, 44, 1), (6, 85, 1), (6, 87, 1), (6, 89, 1), (6, 91, 1), (6, 93, 1), (6, 95, 1), (0, 47, 1), (6, 97, 1), (6, 99, 1), (0, 48, 1)] rfl)) (it_app (it_app (it_app it_X110 it_X11_step) (it_app it_X11_word it_X11_bad)) (it_app (it_app it_X11_need it_X11_is) it_X11_numberUpTo)))
set_option maxRecDepth 20000 in
theorem it_X11_fault : inT wsX11_fault := it_cons (lw_mem [Cond.code yX11_fault cX11_fault 1 (some .int)] [(6, 106, 1)] rfl) (it_app (lw_mem wsX11_fault_o1 [(4, 206, 1), (5, 2, 1)] rfl) it_X110)
set_option maxRecDepth 20000 in
theorem it_X11_act : inT wsX11_act := it_cons (lw_mem [Cond.code yX11_act cX11_act 5 (some .int)] [(6, 110, 1)] rfl) (it_app (lw_mem wsX11_act_o1 [(4, 206, 1), (6, 48, 1), (6, 111, 1), (5, 171, 1), (5, 10, 1), (5, 210, 1), (5, 11, 4), (6, 24, 1), (6, 26, 1), (0, 39, 1), (1, 13, 1), (5, 167, 2), (5, 206, 2)] rfl) (it_app (it_app it_X110 it_X11_isCrate) (it_app it_X11_in it_X11_isDay)))
set_option maxRecDepth 20000 in
theorem it_X11_wakes : inT wsX11_wakes := it_cons (lw_mem [Cond.code yX11_wakes cX11_wakes 3 (some .int)] [(6, 119, 1)] rfl) (it_app (lw_mem wsX11_wakes_o1 [(4, 236, 2), (5, 12, 1), (5, 14, 1), (4, 204, 1)] rfl) it_X110)
set_option maxRecDepth 20000 in
theorem it_X11_duty : inT wsX11_duty := it_cons (lw_mem [Cond.code yX11_duty cX11_duty 6 (some .int)] [(6, 115, 1)] rfl) (it_app (lw_mem wsX11_duty_o1 [(4, 206, 1), (5, 170, 2), (4, 204, 1), (5, 10, 2), (5, 13, 1), (4, 223, 1), (4, 237, 1), (6, 24, 1), (6, 26, 1), (0, 39, 1), (1, 13, 1), (5, 167, 2), (6, 116, 1), (6, 118, 1), (0, 49, 1)] rfl) (it_app (it_app it_X110 it_X11_isCrate) (it_app it_X11_in it_X11_wakes)))
set_option maxRecDepth 20000 in
theorem it_X11_isRoom : inT wsX11_isRoom := it_cons (lw_mem [Cond.code yX11_isRoom cX11_isRoom 1 (some .boolean)] [(6, 126, 1)] rfl) (it_app (lw_mem wsX11_isRoom_o1 [(6, 127, 1), (5, 167, 2), (1, 13, 1)] rfl) it_X11_in)
set_option maxRecDepth 20000 in
theorem it_X11_room : inT wsX11_room := it_cons (lw_mem [Cond.code yX11_room cX11_room 5 (some .int)] [(6, 123, 1)] rfl) (it_app (lw_mem wsX11_room_o1 [(4, 206, 1), (6, 128, 1), (6, 5, 1), (5, 171, 1), (5, 15, 2), (6, 124, 2), (1, 13, 1), (5, 167, 2)] rfl) (it_app (it_app it_X110 it_X11_isRoom) it_X11_in))
set_option maxRecDepth 20000 in
theorem it_X11_insideOf : inT wsX11_insideOf := it_cons (lw_mem [Cond.code yX11_insideOf cX11_insideOf 5 (some .int)] [(6, 137, 1)] rfl) (it_app (lw_mem wsX11_insideOf_o1 [(4, 221, 1), (5, 17, 1), (4, 223, 1)] rfl) it_X110)
set_option maxRecDepth 20000 in
theorem it_X11_move : inT wsX11_move := it_cons (lw_mem [Cond.code yX11_move cX11_move 4 (some .int)] [(6, 132, 1)] rfl) (it_app (lw_mem wsX11_move_o1 [(4, 206, 1), (4, 204, 1), (5, 171, 1), (5, 17, 1), (6, 133, 1), (5, 15, 1), (4, 223, 1), (5, 16, 1), (5, 210, 1), (6, 24, 1), (6, 26, 1), (0, 39, 1), (1, 13, 1), (6, 124, 2), (6, 134, 1), (6, 136, 1), (0, 50, 1)] rfl) (it_app (it_app it_X110 it_X11_isCrate) (it_app it_X11_isRoom it_X11_insideOf)))
set_option maxRecDepth 20000 in
theorem it_X11_inside : inT wsX11_inside := it_cons (lw_mem [Cond.code yX11_inside cX11_inside 3 (some .int)] [(6, 141, 1)] rfl) (it_app (lw_mem wsX11_inside_o1 [(4, 206, 1), (5, 170, 2), (6, 124, 2), (1, 13, 1), (5, 167, 2), (6, 134, 1), (6, 136, 1), (0, 50, 1)] rfl) (it_app (it_app it_X110 it_X11_isRoom) (it_app it_X11_in it_X11_insideOf)))
set_option maxRecDepth 20000 in
theorem it_X11_lotOf : inT wsX11_lotOf := it_cons (lw_mem [Cond.code yX11_lotOf cX11_lotOf 5 (some .long)] [(6, 150, 1)] rfl) (it_app (lw_mem wsX11_lotOf_o1 [(4, 207, 1), (6, 151, 5)] rfl) it_X110)
set_option maxRecDepth 20000 in
theorem it_X11_lot : inT wsX11_lot := it_cons (lw_mem [Cond.code yX11_lot cX11_lot 4 (some .int)] [(6, 145, 1)] rfl) (it_app (lw_mem wsX11_lot_o1 [(4, 206, 1), (6, 146, 1), (6, 5, 1), (5, 171, 1), (5, 167, 2), (1, 13, 1), (5, 206, 2), (6, 147, 1), (6, 149, 1), (0, 51, 1)] rfl) (it_app (it_app it_X110 it_X11_in) (it_app it_X11_isDay it_X11_lotOf)))
set_option maxRecDepth 20000 in
theorem it_X11_drawnOn : inT wsX11_drawnOn := it_cons (lw_mem [Cond.code yX11_drawnOn cX11_drawnOn 8 (some .int)] [(6, 163, 1)] rfl) (it_app (lw_mem wsX11_drawnOn_o1 [(4, 204, 1), (4, 221, 1), (5, 17, 1), (6, 147, 1), (6, 149, 1), (0, 51, 1), (1, 13, 1)] rfl) (it_app it_X110 it_X11_lotOf))
set_option maxRecDepth 20000 in
theorem it_X11_drawn : inT wsX11_drawn := it_cons (lw_mem [Cond.code yX11_drawn cX11_drawn 3 (some .int)] [(6, 159, 1)] rfl) (it_app (lw_mem wsX11_drawn_o1 [(4, 206, 1), (6, 128, 1), (5, 171, 1), (5, 206, 2), (1, 13, 1), (5, 167, 2), (6, 160, 1), (6, 162, 1), (0, 52, 1)] rfl) (it_app (it_app it_X110 it_X11_isDay) (it_app it_X11_in it_X11_drawnOn)))
set_option maxRecDepth 20000 in
theorem it_X11_often : inT wsX11_often := it_cons (lw_mem [Cond.code yX11_often cX11_often 7 (some .int)] [(6, 167, 1)] rfl) (it_app (lw_mem wsX11_often_o1 [(4, 206, 1), (6, 128, 1), (5, 171, 1), (6, 24, 1), (6, 26, 1), (0, 39, 1), (1, 13, 1), (5, 167, 2), (5, 206, 2), (6, 160, 1), (6, 162, 1), (0, 52, 1)] rfl) (it_app (it_app (it_app it_X110 it_X11_isCrate) it_X11_isDay) (it_app it_X11_in it_X11_drawnOn)))
set_option maxRecDepth 20000 in
theorem it_X11_opened : inT wsX11_opened := it_cons (lw_mem [Cond.code yX11_opened cX11_opened 5 (some .int)] [(6, 171, 1)] rfl) (it_app (lw_mem wsX11_opened_o1 [(4, 206, 1), (6, 19, 1), (6, 58, 1), (5, 171, 1), (5, 18, 1), (5, 210, 1), (5, 19, 4), (6, 24, 1), (6, 26, 1), (0, 39, 1), (1, 13, 1), (5, 167, 2), (5, 206, 2)] rfl) (it_app (it_app it_X110 it_X11_isCrate) (it_app it_X11_isDay it_X11_in)))
set_option maxRecDepth 20000 in
theorem it_X11_bits : inT wsX11_bits := it_cons (lw_mem [Cond.code yX11_bits cX11_bits 3 (some .int)] [(6, 178, 1)] rfl) (lw_mem [] [] rfl)
set_option maxRecDepth 20000 in
theorem it_X11_verdict : inT wsX11_verdict := it_cons (lw_mem [Cond.code yX11_verdict cX11_verdict 8 (some .int)] [(6, 175, 1)] rfl) (it_app (lw_mem wsX11_verdict_o1 [(4, 206, 1), (5, 171, 1), (4, 204, 1), (5, 18, 5), (6, 24, 1), (6, 26, 1), (0, 39, 1), (1, 13, 1), (6, 176, 2)] rfl) (it_app (it_app it_X110 it_X11_isCrate) it_X11_bits))
set_option maxRecDepth 20000 in
theorem it_X11_list : inT wsX11_list := it_cons (lw_mem [Cond.code yX11_list cX11_list 4 (some .int)] [(6, 182, 1)] rfl) (it_app (lw_mem wsX11_list_o1 [(4, 206, 1), (5, 209, 1), (5, 171, 1), (5, 23, 1), (5, 210, 1), (5, 24, 3), (5, 228, 2), (1, 13, 1), (5, 167, 2), (5, 206, 2)] rfl) (it_app (it_app it_X110 it_X11_isPerson) (it_app it_X11_isDay it_X11_in)))
set_option maxRecDepth 20000 in
theorem it_X11_isBarred : inT wsX11_isBarred := it_cons (lw_mem [Cond.code yX11_isBarred cX11_isBarred 8 (some .boolean)] [(6, 190, 1)] rfl) (it_app (lw_mem wsX11_isBarred_o1 [(5, 23, 1), (5, 25, 2), (5, 24, 1), (6, 191, 1), (6, 32, 1), (6, 34, 1), (0, 40, 1), (1, 13, 1), (5, 232, 1), (5, 234, 1), (0, 36, 1), (4, 214, 1), (4, 218, 1)] rfl) (it_app (it_app it_X110 it_X11_ownerOf) it_X11_shareOf))
set_option maxRecDepth 20000 in
theorem it_X11_barred : inT wsX11_barred := it_cons (lw_mem [Cond.code yX11_barred cX11_barred 3 (some .int)] [(6, 186, 1)] rfl) (it_app (lw_mem wsX11_barred_o1 [(4, 206, 1), (5, 171, 1), (6, 24, 1), (6, 26, 1), (0, 39, 1), (1, 13, 1), (5, 206, 2), (6, 187, 1), (6, 189, 1), (0, 53, 1)] rfl) (it_app (it_app it_X110 it_X11_isCrate) (it_app it_X11_isDay it_X11_isBarred)))
set_option maxRecDepth 20000 in
theorem it_X11_day : inT wsX11_day := it_cons (lw_mem [Cond.code yX11_day cX11_day 3 (some .int)] [(6, 195, 1)] rfl) (it_app (lw_mem wsX11_day_o1 [(4, 206, 1), (5, 171, 1), (5, 27, 1), (5, 206, 2), (1, 13, 1)] rfl) (it_app it_X110 it_X11_isDay))
set_option maxRecDepth 20000 in
theorem it_X11_owes : inT wsX11_owes := it_cons (lw_mem [Cond.code yX11_owes cX11_owes 4 (some .int)] [(6, 207, 1)] rfl) (it_app (lw_mem wsX11_owes_o1 [(4, 231, 2), (4, 235, 1), (5, 27, 1), (4, 233, 1)] rfl) it_X110)
set_option maxRecDepth 20000 in
theorem it_X11_kindOf : inT wsX11_kindOf := it_cons (lw_mem [Cond.code yX11_kindOf cX11_kindOf 3 (some .int)] [(6, 203, 1)] rfl) (it_app (lw_mem wsX11_kindOf_o1 [(5, 27, 1), (4, 223, 1), (6, 204, 1), (6, 206, 1), (0, 55, 1), (1, 13, 1), (6, 187, 1), (6, 189, 1), (0, 53, 1), (4, 214, 1)] rfl) (it_app (it_app it_X110 it_X11_owes) it_X11_isBarred))
set_option maxRecDepth 20000 in
theorem it_X11_isOf : inT wsX11_isOf := it_cons (lw_mem [Cond.code yX11_isOf cX11_isOf 2 (some .boolean)] [(6, 215, 1)] rfl) (lw_mem [] [] rfl)
set_option maxRecDepth 20000 in
theorem it_X11_kind : inT wsX11_kind := it_cons (lw_mem [Cond.code yX11_kind cX11_kind 2 (some .int)] [(6, 199, 1)] rfl) (it_app (lw_mem wsX11_kind_o1 [(4, 206, 1), (5, 171, 1), (6, 24, 1), (6, 26, 1), (0, 39, 1), (1, 13, 1), (6, 200, 1), (6, 202, 1), (0, 54, 1)] rfl) (it_app (it_app it_X110 it_X11_isCrate) it_X11_kindOf))
set_option maxRecDepth 20000 in
theorem it_X11_as : inT wsX11_as := it_cons (lw_mem [Cond.code yX11_as cX11_as 3 (some .int)] [(6, 211, 1)] rfl) (it_app (lw_mem wsX11_as_o1 [(4, 206, 1), (6, 212, 1), (5, 171, 1), (4, 208, 1), (4, 223, 1), (6, 24, 1), (6, 26, 1), (0, 39, 1), (1, 13, 1), (5, 167, 2), (6, 200, 1), (6, 202, 1), (0, 54, 1), (6, 213, 2), (5, 172, 1), (5, 174, 1), (0, 33, 1)] rfl) (it_app (it_app (it_app it_X110 it_X11_isCrate) it_X11_in) (it_app (it_app it_X11_kindOf it_X11_isOf) it_X11_found)))
set_option maxRecDepth 20000 in
theorem it_X11_began : inT wsX11_began := it_cons (lw_mem [Cond.code yX11_began cX11_began 2 none] [(6, 227, 1)] rfl) (it_app (lw_mem wsX11_began_o1 [(5, 29, 1), (5, 28, 1)] rfl) it_X110)
set_option maxRecDepth 20000 in
theorem it_X11_plainSize : inT wsX11_plainSize := it_cons (lw_mem [Cond.code yX11_plainSize cX11_plainSize 2 (some .int)] [(6, 235, 1)] rfl) (it_app (lw_mem wsX11_plainSize_o1 [(4, 223, 1), (6, 224, 1), (6, 226, 1), (0, 57, 1), (1, 13, 1)] rfl) (it_app it_X110 it_X11_began))
set_option maxRecDepth 20000 in
theorem it_X11_markOf : inT wsX11_markOf := it_cons (lw_mem [Cond.code yX11_markOf cX11_markOf 3 (some .int)] [(6, 231, 1)] rfl) (it_app (lw_mem wsX11_markOf_o1 [(5, 27, 1), (6, 213, 2), (1, 13, 1), (6, 224, 1), (6, 226, 1), (6, 32, 1), (6, 34, 1), (0, 40, 1), (6, 232, 1), (6, 234, 1), (0, 59, 1)] rfl) (it_app (it_app (it_app it_X110 it_X11_isOf) it_X11_began) (it_app it_X11_ownerOf it_X11_plainSize)))
set_option maxRecDepth 20000 in
theorem it_X11_sizeOf : inT wsX11_sizeOf := it_cons (lw_mem [Cond.code yX11_sizeOf cX11_sizeOf 4 (some .int)] [(6, 223, 1)] rfl) (it_app (lw_mem wsX11_sizeOf_o1 [(6, 224, 1), (6, 226, 1), (1, 13, 1), (6, 228, 1), (6, 230, 1), (0, 58, 1), (6, 213, 2), (6, 232, 1), (6, 234, 1), (6, 204, 1), (6, 206, 1), (0, 55, 1)] rfl) (it_app (it_app (it_app it_X110 it_X11_began) it_X11_markOf) (it_app (it_app it_X11_isOf it_X11_plainSize) it_X11_owes)))
set_option maxRecDepth 20000 in
theorem it_X11_ask : inT wsX11_ask := it_cons (lw_mem [Cond.code yX11_ask cX11_ask 3 (some .int)] [(6, 219, 1)] rfl) (it_app (lw_mem wsX11_ask_o1 [(4, 206, 1), (5, 171, 1), (5, 29, 1), (6, 24, 1), (6, 26, 1), (0, 39, 1), (1, 13, 1), (5, 167, 2), (6, 200, 1), (6, 202, 1), (0, 54, 1), (6, 220, 1), (6, 222, 1), (0, 56, 1), (6, 228, 1), (6, 230, 1)] rfl) (it_app (it_app (it_app it_X110 it_X11_isCrate) it_X11_in) (it_app (it_app it_X11_kindOf it_X11_sizeOf) it_X11_markOf)))
set_option maxRecDepth 20000 in
theorem it_X11_trace : inT wsX11_trace := it_cons (lw_mem [Cond.code yX11_trace cX11_trace 2 (some .int)] [(6, 239, 1)] rfl) (it_app (lw_mem wsX11_trace_o1 [(4, 206, 1), (5, 29, 1), (5, 28, 1), (4, 204, 1), (5, 167, 2), (1, 13, 1)] rfl) (it_app it_X110 it_X11_in))
set_option maxRecDepth 20000 in
theorem it_X11_count : inT wsX11_count := it_cons (lw_mem [Cond.code yX11_count cX11_count 4 (some .int)] [(7, 3, 1)] rfl) (it_app (lw_mem wsX11_count_o1 [(4, 206, 1), (4, 209, 1), (4, 212, 1), (4, 221, 1), (4, 224, 1), (4, 231, 1), (4, 236, 1), (5, 10, 1), (5, 18, 1), (5, 23, 1), (5, 1, 1), (5, 171, 1)] rfl) it_X110)
set_option maxRecDepth 20000 in
theorem it_X11_status : inT wsX11_status := it_cons (lw_mem [Cond.code yX11_status cX11_status 1 (some .int)] [(7, 7, 1)] rfl) (it_app (lw_mem wsX11_status_o1 [(4, 206, 1), (4, 208, 1)] rfl) it_X110)
-- it_X11_in it_X11_init it_X11_found it_X11_isSheet it_X11_sheet it_X11_set it_X11_copy it_X11_drop it_X11_isOwner it_X11_isPerson it_X11_isCompany it_X11_isDay it_X11_holding it_X11_hold it_X11_holds it_X11_percentOf it_X11_percent it_X11_findHas it_X11_rowsTo it_X11_shareOf it_X11_share it_X11_truly it_X11_rings it_X11_isCrate it_X11_crate it_X11_paper it_X11_ownerOf it_X11_owner it_X11_quarrels it_X11_pledge it_X11_keyOf it_X11_rank it_X11_feed it_X11_byteAt it_X11_isLetter it_X11_isFigure it_X11_step it_X11_bad it_X11_need it_X11_is it_X11_word it_X11_numberUpTo it_X11_duties it_X11_fault it_X11_act it_X11_wakes it_X11_duty it_X11_isRoom it_X11_room it_X11_insideOf it_X11_move it_X11_inside it_X11_lotOf it_X11_lot it_X11_drawnOn it_X11_drawn it_X11_often it_X11_opened it_X11_bits it_X11_verdict it_X11_list it_X11_isBarred it_X11_barred it_X11_day it_X11_owes it_X11_kindOf it_X11_isOf it_X11_kind it_X11_as it_X11_began it_X11_plainSize it_X11_markOf it_X11_sizeOf it_X11_ask it_X11_trace it_X11_count it_X11_status
end
