theorem cdX11_is : yX11_is.cls ≠ "java/lang/invoke/MethodHandle" ∧ yX11_is.cls ≠ "java/lang/invoke/VarHandle" ∧ (parseMethodDescriptor yX11_is.desc).map (fun d => d.parameters.length) = some 1 := by decide +kernel
theorem cdX11_word : yX11_word.cls ≠ "java/lang/invoke/MethodHandle" ∧ yX11_word.cls ≠ "java/lang/invoke/VarHandle" ∧ (parseMethodDescriptor yX11_word.desc).map (fun d => d.parameters.length) = some 0 := by decide +kernel
theorem cdX11_numberUpTo : yX11_numberUpTo.cls ≠ "java/lang/invoke/MethodHandle" ∧ yX11_numberUpTo.cls ≠ "java/lang/invoke/VarHandle" ∧ (parseMethodDescriptor yX11_numberUpTo.desc).map (fun d => d.parameters.length) = some 1 := by decide +kernel
theorem Gd_X11_is : gdA wsX11_is := gd_cons (by decide +kernel) (gd_app (gd_all (ws := wsX11_is_o1) (by decide +kernel)) Gd_X110)
theorem Gd_X11_word : gdA wsX11_word := gd_cons (by decide +kernel) (gd_app (gd_all (ws := wsX11_word_o1) (by decide +kernel)) Gd_X110)
theorem Gd_X11_numberUpTo : gdA wsX11_numberUpTo := gd_cons (by decide +kernel) (gd_app (gd_all (ws := wsX11_numberUpTo_o1) (by decide +kernel)) (gd_app (gd_app Gd_X110 Gd_X11_bad) Gd_X11_need))
theorem inX11_duties_X11 : ∀ w ∈ u_ws RX11 TX11 64, w ∈ wsX11_duties := fun _ h => (List.mem_cons_of_mem _ (List.mem_append_right _ (List.mem_append_left _ (List.mem_append_left _ (List.mem_append_left _ h)))))
theorem ggX11_duties_X11_step : GoodIn wsX11_duties wsX11_step := goodIn_s (fun _ h => wm_t (wm_r (wm_l (wm_l (wm_r h))))) Gd_X11_step
theorem gX11_duties_X11_step : GoodIn wsX11_duties (wsV RX11 280 RX11 yX11_step wsX11_step) := goodIn_V (own := RX11) (idx := 280) (C := RX11) (y := yX11_step) (wm_t (wm_l (wm_l (wm_i 19 rfl)))) (wm_t (wm_l (wm_l (wm_i 20 rfl)))) (wm_t (wm_r (wm_r (wm_l (wm_l (wm_t (wm_l (wm_i 7 rfl)))))))) (wm_t (wm_l (wm_l (wm_i 21 rfl)))) ggX11_duties_X11_step
theorem ggX11_duties_X11_word : GoodIn wsX11_duties wsX11_word := goodIn_s (fun _ h => wm_t (wm_r (wm_l (wm_r (wm_l h))))) Gd_X11_word
theorem gX11_duties_X11_word : GoodIn wsX11_duties (wsV RX11 290 RX11 yX11_word wsX11_word) := goodIn_V (own := RX11) (idx := 290) (C := RX11) (y := yX11_word) (wm_t (wm_l (wm_l (wm_i 22 rfl)))) (wm_t (wm_l (wm_l (wm_i 23 rfl)))) (wm_t (wm_l (wm_r (wm_i 0 rfl)))) (wm_t (wm_l (wm_l (wm_i 21 rfl)))) ggX11_duties_X11_word
theorem ggX11_duties_X11_bad : GoodIn wsX11_duties wsX11_bad := goodIn_s (fun _ h => wm_t (wm_r (wm_l (wm_r (wm_r h))))) Gd_X11_bad
theorem gX11_duties_X11_bad : GoodIn wsX11_duties (wsV RX11 277 RX11 yX11_bad wsX11_bad) := goodIn_V (own := RX11) (idx := 277) (C := RX11) (y := yX11_bad) (wm_t (wm_l (wm_r (wm_i 1 rfl)))) (wm_t (wm_l (wm_r (wm_i 2 rfl)))) (wm_t (wm_r (wm_r (wm_l (wm_l (wm_t (wm_l (wm_i 3 rfl)))))))) (wm_t (wm_l (wm_l (wm_i 21 rfl)))) ggX11_duties_X11_bad
theorem ggX11_duties_X11_need : GoodIn wsX11_duties wsX11_need := goodIn_s (fun _ h => wm_t (wm_r (wm_r (wm_l (wm_l h))))) Gd_X11_need
theorem gX11_duties_X11_need : GoodIn wsX11_duties (wsV RX11 283 RX11 yX11_need wsX11_need) := goodIn_V (own := RX11) (idx := 283) (C := RX11) (y := yX11_need) (wm_t (wm_l (wm_r (wm_i 3 rfl)))) (wm_t (wm_l (wm_r (wm_i 4 rfl)))) (wm_t (wm_r (wm_r (wm_r (wm_t (wm_l (wm_i 9 rfl))))))) (wm_t (wm_l (wm_l (wm_i 21 rfl)))) ggX11_duties_X11_need
theorem ggX11_duties_X11_is : GoodIn wsX11_duties wsX11_is := goodIn_s (fun _ h => wm_t (wm_r (wm_r (wm_l (wm_r h))))) Gd_X11_is
theorem gX11_duties_X11_is : GoodIn wsX11_duties (wsV RX11 302 RX11 yX11_is wsX11_is) := goodIn_V (own := RX11) (idx := 302) (C := RX11) (y := yX11_is) (wm_t (wm_l (wm_r (wm_i 5 rfl)))) (wm_t (wm_l (wm_r (wm_i 6 rfl)))) (wm_t (wm_l (wm_r (wm_i 7 rfl)))) (wm_t (wm_l (wm_l (wm_i 21 rfl)))) ggX11_duties_X11_is
theorem ggX11_duties_X11_numberUpTo : GoodIn wsX11_duties wsX11_numberUpTo := goodIn_s (fun _ h => wm_t (wm_r (wm_r (wm_r h)))) Gd_X11_numberUpTo
theorem gX11_duties_X11_numberUpTo : GoodIn wsX11_duties (wsV RX11 305 RX11 yX11_numberUpTo wsX11_numberUpTo) := goodIn_V (own := RX11) (idx := 305) (C := RX11) (y := yX11_numberUpTo) (wm_t (wm_l (wm_r (wm_i 8 rfl)))) (wm_t (wm_l (wm_r (wm_i 9 rfl)))) (wm_t (wm_l (wm_r (wm_i 10 rfl)))) (wm_t (wm_l (wm_l (wm_i 21 rfl)))) ggX11_duties_X11_numberUpTo
theorem dX11_duties_all0 : decode cX11_duties 0 = .ok (.aload_n 0, 1) ∧ decode cX11_duties 1 = .ok (.iconst 0, 1) ∧ decode cX11_duties 2 = .ok (.putfield 1, 3) ∧ decode cX11_duties 5 = .ok (.aload_n 0, 1) ∧ decode cX11_duties 6 = .ok (.aload_n 0, 1) ∧ decode cX11_duties 7 = .ok (.getfield 242, 3) ∧ decode cX11_duties 10 = .ok (.putfield 247, 3) ∧ decode cX11_duties 13 = .ok (.aload_n 0, 1) ∧ decode cX11_duties 14 = .ok (.iconst 0, 1) ∧ decode cX11_duties 15 = .ok (.putfield 242, 3) ∧ decode cX11_duties 18 = .ok (.aload_n 0, 1) ∧ decode cX11_duties 19 = .ok (.iconst 0, 1) := by decide +kernel
theorem dX11_duties_0 : decode cX11_duties 0 = .ok (.aload_n 0, 1) := dX11_duties_all0.1
theorem dX11_duties_1 : decode cX11_duties 1 = .ok (.iconst 0, 1) := dX11_duties_all0.2.1
theorem dX11_duties_2 : decode cX11_duties 2 = .ok (.putfield 1, 3) := dX11_duties_all0.2.2.1
theorem dX11_duties_5 : decode cX11_duties 5 = .ok (.aload_n 0, 1) := dX11_duties_all0.2.2.2.1
theorem dX11_duties_6 : decode cX11_duties 6 = .ok (.aload_n 0, 1) := dX11_duties_all0.2.2.2.2.1
theorem dX11_duties_7 : decode cX11_duties 7 = .ok (.getfield 242, 3) := dX11_duties_all0.2.2.2.2.2.1
theorem dX11_duties_10 : decode cX11_duties 10 = .ok (.putfield 247, 3) := dX11_duties_all0.2.2.2.2.2.2.1
theorem dX11_duties_13 : decode cX11_duties 13 = .ok (.aload_n 0, 1) := dX11_duties_all0.2.2.2.2.2.2.2.1
theorem dX11_duties_14 : decode cX11_duties 14 = .ok (.iconst 0, 1) := dX11_duties_all0.2.2.2.2.2.2.2.2.1
theorem dX11_duties_15 : decode cX11_duties 15 = .ok (.putfield 242, 3) := dX11_duties_all0.2.2.2.2.2.2.2.2.2.1
theorem dX11_duties_18 : decode cX11_duties 18 = .ok (.aload_n 0, 1) := dX11_duties_all0.2.2.2.2.2.2.2.2.2.2.1
theorem dX11_duties_19 : decode cX11_duties 19 = .ok (.iconst 0, 1) := dX11_duties_all0.2.2.2.2.2.2.2.2.2.2.2
theorem dX11_duties_all1 : decode cX11_duties 20 = .ok (.putfield 250, 3) ∧ decode cX11_duties 23 = .ok (.aload_n 0, 1) ∧ decode cX11_duties 24 = .ok (.iconst 0, 1) ∧ decode cX11_duties 25 = .ok (.putfield 271, 3) ∧ decode cX11_duties 28 = .ok (.aload_n 0, 1) ∧ decode cX11_duties 29 = .ok (.iconst 0, 1) ∧ decode cX11_duties 30 = .ok (.putfield 287, 3) ∧ decode cX11_duties 33 = .ok (.aload_n 0, 1) ∧ decode cX11_duties 34 = .ok (.invokevirtual 280, 3) ∧ decode cX11_duties 37 = .ok (.aload_n 0, 1) ∧ decode cX11_duties 38 = .ok (.getfield 271, 3) ∧ decode cX11_duties 41 = .ok (.ifCond .ne 259, 3) := by decide +kernel
theorem dX11_duties_20 : decode cX11_duties 20 = .ok (.putfield 250, 3) := dX11_duties_all1.1
theorem dX11_duties_23 : decode cX11_duties 23 = .ok (.aload_n 0, 1) := dX11_duties_all1.2.1
theorem dX11_duties_24 : decode cX11_duties 24 = .ok (.iconst 0, 1) := dX11_duties_all1.2.2.1
theorem dX11_duties_25 : decode cX11_duties 25 = .ok (.putfield 271, 3) := dX11_duties_all1.2.2.2.1
theorem dX11_duties_28 : decode cX11_duties 28 = .ok (.aload_n 0, 1) := dX11_duties_all1.2.2.2.2.1
theorem dX11_duties_29 : decode cX11_duties 29 = .ok (.iconst 0, 1) := dX11_duties_all1.2.2.2.2.2.1
theorem dX11_duties_30 : decode cX11_duties 30 = .ok (.putfield 287, 3) := dX11_duties_all1.2.2.2.2.2.2.1
theorem dX11_duties_33 : decode cX11_duties 33 = .ok (.aload_n 0, 1) := dX11_duties_all1.2.2.2.2.2.2.2.1
theorem dX11_duties_34 : decode cX11_duties 34 = .ok (.invokevirtual 280, 3) := dX11_duties_all1.2.2.2.2.2.2.2.2.1
theorem dX11_duties_37 : decode cX11_duties 37 = .ok (.aload_n 0, 1) := dX11_duties_all1.2.2.2.2.2.2.2.2.2.1
theorem dX11_duties_38 : decode cX11_duties 38 = .ok (.getfield 271, 3) := dX11_duties_all1.2.2.2.2.2.2.2.2.2.2.1
theorem dX11_duties_41 : decode cX11_duties 41 = .ok (.ifCond .ne 259, 3) := dX11_duties_all1.2.2.2.2.2.2.2.2.2.2.2
theorem dX11_duties_all2 : decode cX11_duties 44 = .ok (.aload_n 0, 1) ∧ decode cX11_duties 45 = .ok (.getfield 259, 3) ∧ decode cX11_duties 48 = .ok (.iconst 1, 1) ∧ decode cX11_duties 49 = .ok (.if_icmp .eq 251, 3) ∧ decode cX11_duties 52 = .ok (.aload_n 0, 1) ∧ decode cX11_duties 53 = .ok (.invokevirtual 290, 3) ∧ decode cX11_duties 56 = .ok (.lstore_n 1, 1) ∧ decode cX11_duties 57 = .ok (.lload_n 1, 1) ∧ decode cX11_duties 58 = .ok (.ldc2_w 294, 3) ∧ decode cX11_duties 61 = .ok (.lcmp, 1) ∧ decode cX11_duties 62 = .ok (.ifCond .ne 7, 3) ∧ decode cX11_duties 65 = .ok (.iconst 0, 1) := by decide +kernel
theorem dX11_duties_44 : decode cX11_duties 44 = .ok (.aload_n 0, 1) := dX11_duties_all2.1
theorem dX11_duties_45 : decode cX11_duties 45 = .ok (.getfield 259, 3) := dX11_duties_all2.2.1
theorem dX11_duties_48 : decode cX11_duties 48 = .ok (.iconst 1, 1) := dX11_duties_all2.2.2.1
theorem dX11_duties_49 : decode cX11_duties 49 = .ok (.if_icmp .eq 251, 3) := dX11_duties_all2.2.2.2.1
theorem dX11_duties_52 : decode cX11_duties 52 = .ok (.aload_n 0, 1) := dX11_duties_all2.2.2.2.2.1
theorem dX11_duties_53 : decode cX11_duties 53 = .ok (.invokevirtual 290, 3) := dX11_duties_all2.2.2.2.2.2.1
theorem dX11_duties_56 : decode cX11_duties 56 = .ok (.lstore_n 1, 1) := dX11_duties_all2.2.2.2.2.2.2.1
theorem dX11_duties_57 : decode cX11_duties 57 = .ok (.lload_n 1, 1) := dX11_duties_all2.2.2.2.2.2.2.2.1
theorem dX11_duties_58 : decode cX11_duties 58 = .ok (.ldc2_w 294, 3) := dX11_duties_all2.2.2.2.2.2.2.2.2.1
theorem dX11_duties_61 : decode cX11_duties 61 = .ok (.lcmp, 1) := dX11_duties_all2.2.2.2.2.2.2.2.2.2.1
theorem dX11_duties_62 : decode cX11_duties 62 = .ok (.ifCond .ne 7, 3) := dX11_duties_all2.2.2.2.2.2.2.2.2.2.2.1
theorem dX11_duties_65 : decode cX11_duties 65 = .ok (.iconst 0, 1) := dX11_duties_all2.2.2.2.2.2.2.2.2.2.2.2
theorem dX11_duties_all3 : decode cX11_duties 66 = .ok (.goto 41, 3) ∧ decode cX11_duties 69 = .ok (.lload_n 1, 1) ∧ decode cX11_duties 70 = .ok (.ldc2_w 296, 3) ∧ decode cX11_duties 73 = .ok (.lcmp, 1) ∧ decode cX11_duties 74 = .ok (.ifCond .ne 7, 3) ∧ decode cX11_duties 77 = .ok (.iconst 1, 1) ∧ decode cX11_duties 78 = .ok (.goto 29, 3) ∧ decode cX11_duties 81 = .ok (.lload_n 1, 1) ∧ decode cX11_duties 82 = .ok (.ldc2_w 298, 3) ∧ decode cX11_duties 85 = .ok (.lcmp, 1) ∧ decode cX11_duties 86 = .ok (.ifCond .ne 7, 3) ∧ decode cX11_duties 89 = .ok (.iconst 2, 1) := by decide +kernel
theorem dX11_duties_66 : decode cX11_duties 66 = .ok (.goto 41, 3) := dX11_duties_all3.1
theorem dX11_duties_69 : decode cX11_duties 69 = .ok (.lload_n 1, 1) := dX11_duties_all3.2.1
theorem dX11_duties_70 : decode cX11_duties 70 = .ok (.ldc2_w 296, 3) := dX11_duties_all3.2.2.1
theorem dX11_duties_73 : decode cX11_duties 73 = .ok (.lcmp, 1) := dX11_duties_all3.2.2.2.1
theorem dX11_duties_74 : decode cX11_duties 74 = .ok (.ifCond .ne 7, 3) := dX11_duties_all3.2.2.2.2.1
theorem dX11_duties_77 : decode cX11_duties 77 = .ok (.iconst 1, 1) := dX11_duties_all3.2.2.2.2.2.1
theorem dX11_duties_78 : decode cX11_duties 78 = .ok (.goto 29, 3) := dX11_duties_all3.2.2.2.2.2.2.1
theorem dX11_duties_81 : decode cX11_duties 81 = .ok (.lload_n 1, 1) := dX11_duties_all3.2.2.2.2.2.2.2.1
theorem dX11_duties_82 : decode cX11_duties 82 = .ok (.ldc2_w 298, 3) := dX11_duties_all3.2.2.2.2.2.2.2.2.1
theorem dX11_duties_85 : decode cX11_duties 85 = .ok (.lcmp, 1) := dX11_duties_all3.2.2.2.2.2.2.2.2.2.1
theorem dX11_duties_86 : decode cX11_duties 86 = .ok (.ifCond .ne 7, 3) := dX11_duties_all3.2.2.2.2.2.2.2.2.2.2.1
theorem dX11_duties_89 : decode cX11_duties 89 = .ok (.iconst 2, 1) := dX11_duties_all3.2.2.2.2.2.2.2.2.2.2.2
theorem dX11_duties_all4 : decode cX11_duties 90 = .ok (.goto 17, 3) ∧ decode cX11_duties 93 = .ok (.lload_n 1, 1) ∧ decode cX11_duties 94 = .ok (.ldc2_w 300, 3) ∧ decode cX11_duties 97 = .ok (.lcmp, 1) ∧ decode cX11_duties 98 = .ok (.ifCond .ne 7, 3) ∧ decode cX11_duties 101 = .ok (.iconst 3, 1) ∧ decode cX11_duties 102 = .ok (.goto 5, 3) ∧ decode cX11_duties 105 = .ok (.ldc 139, 2) ∧ decode cX11_duties 107 = .ok (.istore_n 3, 1) ∧ decode cX11_duties 108 = .ok (.iload_n 3, 1) ∧ decode cX11_duties 109 = .ok (.ldc 139, 2) ∧ decode cX11_duties 111 = .ok (.if_icmp .eq 17, 3) := by decide +kernel
theorem dX11_duties_90 : decode cX11_duties 90 = .ok (.goto 17, 3) := dX11_duties_all4.1
theorem dX11_duties_93 : decode cX11_duties 93 = .ok (.lload_n 1, 1) := dX11_duties_all4.2.1
theorem dX11_duties_94 : decode cX11_duties 94 = .ok (.ldc2_w 300, 3) := dX11_duties_all4.2.2.1
theorem dX11_duties_97 : decode cX11_duties 97 = .ok (.lcmp, 1) := dX11_duties_all4.2.2.2.1
theorem dX11_duties_98 : decode cX11_duties 98 = .ok (.ifCond .ne 7, 3) := dX11_duties_all4.2.2.2.2.1
theorem dX11_duties_101 : decode cX11_duties 101 = .ok (.iconst 3, 1) := dX11_duties_all4.2.2.2.2.2.1
theorem dX11_duties_102 : decode cX11_duties 102 = .ok (.goto 5, 3) := dX11_duties_all4.2.2.2.2.2.2.1
theorem dX11_duties_105 : decode cX11_duties 105 = .ok (.ldc 139, 2) := dX11_duties_all4.2.2.2.2.2.2.2.1
theorem dX11_duties_107 : decode cX11_duties 107 = .ok (.istore_n 3, 1) := dX11_duties_all4.2.2.2.2.2.2.2.2.1
theorem dX11_duties_108 : decode cX11_duties 108 = .ok (.iload_n 3, 1) := dX11_duties_all4.2.2.2.2.2.2.2.2.2.1
theorem dX11_duties_109 : decode cX11_duties 109 = .ok (.ldc 139, 2) := dX11_duties_all4.2.2.2.2.2.2.2.2.2.2.1
theorem dX11_duties_111 : decode cX11_duties 111 = .ok (.if_icmp .eq 17, 3) := dX11_duties_all4.2.2.2.2.2.2.2.2.2.2.2
theorem dX11_duties_all5 : decode cX11_duties 114 = .ok (.aload_n 0, 1) ∧ decode cX11_duties 115 = .ok (.getfield 287, 3) ∧ decode cX11_duties 118 = .ok (.bipush 12, 2) ∧ decode cX11_duties 120 = .ok (.if_icmp .ne 8, 3) ∧ decode cX11_duties 123 = .ok (.aload_n 0, 1) ∧ decode cX11_duties 124 = .ok (.iconst 3, 1) ∧ decode cX11_duties 125 = .ok (.invokevirtual 277, 3) ∧ decode cX11_duties 128 = .ok (.aload_n 0, 1) ∧ decode cX11_duties 129 = .ok (.iload_n 3, 1) ∧ decode cX11_duties 130 = .ok (.ldc 139, 2) ∧ decode cX11_duties 132 = .ok (.if_icmp .eq 7, 3) ∧ decode cX11_duties 135 = .ok (.iconst 1, 1) := by decide +kernel
theorem dX11_duties_114 : decode cX11_duties 114 = .ok (.aload_n 0, 1) := dX11_duties_all5.1
theorem dX11_duties_115 : decode cX11_duties 115 = .ok (.getfield 287, 3) := dX11_duties_all5.2.1
theorem dX11_duties_118 : decode cX11_duties 118 = .ok (.bipush 12, 2) := dX11_duties_all5.2.2.1
theorem dX11_duties_120 : decode cX11_duties 120 = .ok (.if_icmp .ne 8, 3) := dX11_duties_all5.2.2.2.1
theorem dX11_duties_123 : decode cX11_duties 123 = .ok (.aload_n 0, 1) := dX11_duties_all5.2.2.2.2.1
theorem dX11_duties_124 : decode cX11_duties 124 = .ok (.iconst 3, 1) := dX11_duties_all5.2.2.2.2.2.1
theorem dX11_duties_125 : decode cX11_duties 125 = .ok (.invokevirtual 277, 3) := dX11_duties_all5.2.2.2.2.2.2.1
theorem dX11_duties_128 : decode cX11_duties 128 = .ok (.aload_n 0, 1) := dX11_duties_all5.2.2.2.2.2.2.2.1
theorem dX11_duties_129 : decode cX11_duties 129 = .ok (.iload_n 3, 1) := dX11_duties_all5.2.2.2.2.2.2.2.2.1
theorem dX11_duties_130 : decode cX11_duties 130 = .ok (.ldc 139, 2) := dX11_duties_all5.2.2.2.2.2.2.2.2.2.1
theorem dX11_duties_132 : decode cX11_duties 132 = .ok (.if_icmp .eq 7, 3) := dX11_duties_all5.2.2.2.2.2.2.2.2.2.2.1
theorem dX11_duties_135 : decode cX11_duties 135 = .ok (.iconst 1, 1) := dX11_duties_all5.2.2.2.2.2.2.2.2.2.2.2
theorem dX11_duties_all6 : decode cX11_duties 136 = .ok (.goto 4, 3) ∧ decode cX11_duties 139 = .ok (.iconst 0, 1) ∧ decode cX11_duties 140 = .ok (.invokevirtual 283, 3) ∧ decode cX11_duties 143 = .ok (.iconst (-1), 1) ∧ decode cX11_duties 144 = .ok (.istore 4, 2) ∧ decode cX11_duties 146 = .ok (.aload_n 0, 1) ∧ decode cX11_duties 147 = .ok (.getfield 271, 3) ∧ decode cX11_duties 150 = .ok (.ifCond .ne 25, 3) ∧ decode cX11_duties 153 = .ok (.aload_n 0, 1) ∧ decode cX11_duties 154 = .ok (.bipush 62, 2) ∧ decode cX11_duties 156 = .ok (.invokevirtual 302, 3) ∧ decode cX11_duties 159 = .ok (.ifCond .eq 16, 3) := by decide +kernel
theorem dX11_duties_136 : decode cX11_duties 136 = .ok (.goto 4, 3) := dX11_duties_all6.1
theorem dX11_duties_139 : decode cX11_duties 139 = .ok (.iconst 0, 1) := dX11_duties_all6.2.1
theorem dX11_duties_140 : decode cX11_duties 140 = .ok (.invokevirtual 283, 3) := dX11_duties_all6.2.2.1
theorem dX11_duties_143 : decode cX11_duties 143 = .ok (.iconst (-1), 1) := dX11_duties_all6.2.2.2.1
theorem dX11_duties_144 : decode cX11_duties 144 = .ok (.istore 4, 2) := dX11_duties_all6.2.2.2.2.1
theorem dX11_duties_146 : decode cX11_duties 146 = .ok (.aload_n 0, 1) := dX11_duties_all6.2.2.2.2.2.1
theorem dX11_duties_147 : decode cX11_duties 147 = .ok (.getfield 271, 3) := dX11_duties_all6.2.2.2.2.2.2.1
theorem dX11_duties_150 : decode cX11_duties 150 = .ok (.ifCond .ne 25, 3) := dX11_duties_all6.2.2.2.2.2.2.2.1
theorem dX11_duties_153 : decode cX11_duties 153 = .ok (.aload_n 0, 1) := dX11_duties_all6.2.2.2.2.2.2.2.2.1
theorem dX11_duties_154 : decode cX11_duties 154 = .ok (.bipush 62, 2) := dX11_duties_all6.2.2.2.2.2.2.2.2.2.1
theorem dX11_duties_156 : decode cX11_duties 156 = .ok (.invokevirtual 302, 3) := dX11_duties_all6.2.2.2.2.2.2.2.2.2.2.1
theorem dX11_duties_159 : decode cX11_duties 159 = .ok (.ifCond .eq 16, 3) := dX11_duties_all6.2.2.2.2.2.2.2.2.2.2.2
theorem dX11_duties_all7 : decode cX11_duties 162 = .ok (.aload_n 0, 1) ∧ decode cX11_duties 163 = .ok (.invokevirtual 280, 3) ∧ decode cX11_duties 166 = .ok (.aload_n 0, 1) ∧ decode cX11_duties 167 = .ok (.sipush 9999, 3) ∧ decode cX11_duties 170 = .ok (.invokevirtual 305, 3) ∧ decode cX11_duties 173 = .ok (.istore 4, 2) ∧ decode cX11_duties 175 = .ok (.aload_n 0, 1) ∧ decode cX11_duties 176 = .ok (.getfield 271, 3) ∧ decode cX11_duties 179 = .ok (.ifCond .ne 23, 3) ∧ decode cX11_duties 182 = .ok (.aload_n 0, 1) ∧ decode cX11_duties 183 = .ok (.aload_n 0, 1) ∧ decode cX11_duties 184 = .ok (.invokevirtual 290, 3) := by decide +kernel
theorem dX11_duties_162 : decode cX11_duties 162 = .ok (.aload_n 0, 1) := dX11_duties_all7.1
theorem dX11_duties_163 : decode cX11_duties 163 = .ok (.invokevirtual 280, 3) := dX11_duties_all7.2.1
theorem dX11_duties_166 : decode cX11_duties 166 = .ok (.aload_n 0, 1) := dX11_duties_all7.2.2.1
theorem dX11_duties_167 : decode cX11_duties 167 = .ok (.sipush 9999, 3) := dX11_duties_all7.2.2.2.1
theorem dX11_duties_170 : decode cX11_duties 170 = .ok (.invokevirtual 305, 3) := dX11_duties_all7.2.2.2.2.1
theorem dX11_duties_173 : decode cX11_duties 173 = .ok (.istore 4, 2) := dX11_duties_all7.2.2.2.2.2.1
theorem dX11_duties_175 : decode cX11_duties 175 = .ok (.aload_n 0, 1) := dX11_duties_all7.2.2.2.2.2.2.1
theorem dX11_duties_176 : decode cX11_duties 176 = .ok (.getfield 271, 3) := dX11_duties_all7.2.2.2.2.2.2.2.1
theorem dX11_duties_179 : decode cX11_duties 179 = .ok (.ifCond .ne 23, 3) := dX11_duties_all7.2.2.2.2.2.2.2.2.1
theorem dX11_duties_182 : decode cX11_duties 182 = .ok (.aload_n 0, 1) := dX11_duties_all7.2.2.2.2.2.2.2.2.2.1
theorem dX11_duties_183 : decode cX11_duties 183 = .ok (.aload_n 0, 1) := dX11_duties_all7.2.2.2.2.2.2.2.2.2.2.1
theorem dX11_duties_184 : decode cX11_duties 184 = .ok (.invokevirtual 290, 3) := dX11_duties_all7.2.2.2.2.2.2.2.2.2.2.2
theorem dX11_duties_all8 : decode cX11_duties 187 = .ok (.ldc2_w 308, 3) ∧ decode cX11_duties 190 = .ok (.lcmp, 1) ∧ decode cX11_duties 191 = .ok (.ifCond .ne 7, 3) ∧ decode cX11_duties 194 = .ok (.iconst 1, 1) ∧ decode cX11_duties 195 = .ok (.goto 4, 3) ∧ decode cX11_duties 198 = .ok (.iconst 0, 1) ∧ decode cX11_duties 199 = .ok (.invokevirtual 283, 3) ∧ decode cX11_duties 202 = .ok (.aload_n 0, 1) ∧ decode cX11_duties 203 = .ok (.getfield 271, 3) ∧ decode cX11_duties 206 = .ok (.ifCond .ne 12, 3) ∧ decode cX11_duties 209 = .ok (.aload_n 0, 1) ∧ decode cX11_duties 210 = .ok (.bipush 100, 2) := by decide +kernel
theorem dX11_duties_187 : decode cX11_duties 187 = .ok (.ldc2_w 308, 3) := dX11_duties_all8.1
theorem dX11_duties_190 : decode cX11_duties 190 = .ok (.lcmp, 1) := dX11_duties_all8.2.1
theorem dX11_duties_191 : decode cX11_duties 191 = .ok (.ifCond .ne 7, 3) := dX11_duties_all8.2.2.1
theorem dX11_duties_194 : decode cX11_duties 194 = .ok (.iconst 1, 1) := dX11_duties_all8.2.2.2.1
theorem dX11_duties_195 : decode cX11_duties 195 = .ok (.goto 4, 3) := dX11_duties_all8.2.2.2.2.1
theorem dX11_duties_198 : decode cX11_duties 198 = .ok (.iconst 0, 1) := dX11_duties_all8.2.2.2.2.2.1
theorem dX11_duties_199 : decode cX11_duties 199 = .ok (.invokevirtual 283, 3) := dX11_duties_all8.2.2.2.2.2.2.1
theorem dX11_duties_202 : decode cX11_duties 202 = .ok (.aload_n 0, 1) := dX11_duties_all8.2.2.2.2.2.2.2.1
theorem dX11_duties_203 : decode cX11_duties 203 = .ok (.getfield 271, 3) := dX11_duties_all8.2.2.2.2.2.2.2.2.1
theorem dX11_duties_206 : decode cX11_duties 206 = .ok (.ifCond .ne 12, 3) := dX11_duties_all8.2.2.2.2.2.2.2.2.2.1
theorem dX11_duties_209 : decode cX11_duties 209 = .ok (.aload_n 0, 1) := dX11_duties_all8.2.2.2.2.2.2.2.2.2.2.1
theorem dX11_duties_210 : decode cX11_duties 210 = .ok (.bipush 100, 2) := dX11_duties_all8.2.2.2.2.2.2.2.2.2.2.2
theorem dX11_duties_all9 : decode cX11_duties 212 = .ok (.invokevirtual 305, 3) ∧ decode cX11_duties 215 = .ok (.goto 4, 3) ∧ decode cX11_duties 218 = .ok (.iconst 0, 1) ∧ decode cX11_duties 219 = .ok (.istore 5, 2) ∧ decode cX11_duties 221 = .ok (.aload_n 0, 1) ∧ decode cX11_duties 222 = .ok (.getfield 271, 3) ∧ decode cX11_duties 225 = .ok (.ifCond .ne 13, 3) ∧ decode cX11_duties 228 = .ok (.aload_n 0, 1) ∧ decode cX11_duties 229 = .ok (.aload_n 0, 1) ∧ decode cX11_duties 230 = .ok (.bipush 59, 2) ∧ decode cX11_duties 232 = .ok (.invokevirtual 302, 3) ∧ decode cX11_duties 235 = .ok (.invokevirtual 283, 3) := by decide +kernel
theorem dX11_duties_212 : decode cX11_duties 212 = .ok (.invokevirtual 305, 3) := dX11_duties_all9.1
theorem dX11_duties_215 : decode cX11_duties 215 = .ok (.goto 4, 3) := dX11_duties_all9.2.1
theorem dX11_duties_218 : decode cX11_duties 218 = .ok (.iconst 0, 1) := dX11_duties_all9.2.2.1
theorem dX11_duties_219 : decode cX11_duties 219 = .ok (.istore 5, 2) := dX11_duties_all9.2.2.2.1
theorem dX11_duties_221 : decode cX11_duties 221 = .ok (.aload_n 0, 1) := dX11_duties_all9.2.2.2.2.1
theorem dX11_duties_222 : decode cX11_duties 222 = .ok (.getfield 271, 3) := dX11_duties_all9.2.2.2.2.2.1
theorem dX11_duties_225 : decode cX11_duties 225 = .ok (.ifCond .ne 13, 3) := dX11_duties_all9.2.2.2.2.2.2.1
theorem dX11_duties_228 : decode cX11_duties 228 = .ok (.aload_n 0, 1) := dX11_duties_all9.2.2.2.2.2.2.2.1
theorem dX11_duties_229 : decode cX11_duties 229 = .ok (.aload_n 0, 1) := dX11_duties_all9.2.2.2.2.2.2.2.2.1
theorem dX11_duties_230 : decode cX11_duties 230 = .ok (.bipush 59, 2) := dX11_duties_all9.2.2.2.2.2.2.2.2.2.1
theorem dX11_duties_232 : decode cX11_duties 232 = .ok (.invokevirtual 302, 3) := dX11_duties_all9.2.2.2.2.2.2.2.2.2.2.1
theorem dX11_duties_235 : decode cX11_duties 235 = .ok (.invokevirtual 283, 3) := dX11_duties_all9.2.2.2.2.2.2.2.2.2.2.2
theorem dX11_duties_all10 : decode cX11_duties 238 = .ok (.aload_n 0, 1) ∧ decode cX11_duties 239 = .ok (.getfield 271, 3) ∧ decode cX11_duties 242 = .ok (.ifCond .ne 55, 3) ∧ decode cX11_duties 245 = .ok (.aload_n 0, 1) ∧ decode cX11_duties 246 = .ok (.getfield 84, 3) ∧ decode cX11_duties 249 = .ok (.iconst 3, 1) ∧ decode cX11_duties 250 = .ok (.aload_n 0, 1) ∧ decode cX11_duties 251 = .ok (.getfield 287, 3) ∧ decode cX11_duties 254 = .ok (.imul, 1) ∧ decode cX11_duties 255 = .ok (.iload_n 3, 1) ∧ decode cX11_duties 256 = .ok (.iastore, 1) ∧ decode cX11_duties 257 = .ok (.aload_n 0, 1) := by decide +kernel
theorem dX11_duties_238 : decode cX11_duties 238 = .ok (.aload_n 0, 1) := dX11_duties_all10.1
theorem dX11_duties_239 : decode cX11_duties 239 = .ok (.getfield 271, 3) := dX11_duties_all10.2.1
theorem dX11_duties_242 : decode cX11_duties 242 = .ok (.ifCond .ne 55, 3) := dX11_duties_all10.2.2.1
theorem dX11_duties_245 : decode cX11_duties 245 = .ok (.aload_n 0, 1) := dX11_duties_all10.2.2.2.1
theorem dX11_duties_246 : decode cX11_duties 246 = .ok (.getfield 84, 3) := dX11_duties_all10.2.2.2.2.1
theorem dX11_duties_249 : decode cX11_duties 249 = .ok (.iconst 3, 1) := dX11_duties_all10.2.2.2.2.2.1
theorem dX11_duties_250 : decode cX11_duties 250 = .ok (.aload_n 0, 1) := dX11_duties_all10.2.2.2.2.2.2.1
theorem dX11_duties_251 : decode cX11_duties 251 = .ok (.getfield 287, 3) := dX11_duties_all10.2.2.2.2.2.2.2.1
theorem dX11_duties_254 : decode cX11_duties 254 = .ok (.imul, 1) := dX11_duties_all10.2.2.2.2.2.2.2.2.1
theorem dX11_duties_255 : decode cX11_duties 255 = .ok (.iload_n 3, 1) := dX11_duties_all10.2.2.2.2.2.2.2.2.2.1
theorem dX11_duties_256 : decode cX11_duties 256 = .ok (.iastore, 1) := dX11_duties_all10.2.2.2.2.2.2.2.2.2.2.1
theorem dX11_duties_257 : decode cX11_duties 257 = .ok (.aload_n 0, 1) := dX11_duties_all10.2.2.2.2.2.2.2.2.2.2.2
theorem dX11_duties_all11 : decode cX11_duties 258 = .ok (.getfield 84, 3) ∧ decode cX11_duties 261 = .ok (.iconst 3, 1) ∧ decode cX11_duties 262 = .ok (.aload_n 0, 1) ∧ decode cX11_duties 263 = .ok (.getfield 287, 3) ∧ decode cX11_duties 266 = .ok (.imul, 1) ∧ decode cX11_duties 267 = .ok (.iconst 1, 1) ∧ decode cX11_duties 268 = .ok (.iadd, 1) ∧ decode cX11_duties 269 = .ok (.iload 4, 2) ∧ decode cX11_duties 271 = .ok (.iastore, 1) ∧ decode cX11_duties 272 = .ok (.aload_n 0, 1) ∧ decode cX11_duties 273 = .ok (.getfield 84, 3) ∧ decode cX11_duties 276 = .ok (.iconst 3, 1) := by decide +kernel
theorem dX11_duties_258 : decode cX11_duties 258 = .ok (.getfield 84, 3) := dX11_duties_all11.1
theorem dX11_duties_261 : decode cX11_duties 261 = .ok (.iconst 3, 1) := dX11_duties_all11.2.1
theorem dX11_duties_262 : decode cX11_duties 262 = .ok (.aload_n 0, 1) := dX11_duties_all11.2.2.1
theorem dX11_duties_263 : decode cX11_duties 263 = .ok (.getfield 287, 3) := dX11_duties_all11.2.2.2.1
theorem dX11_duties_266 : decode cX11_duties 266 = .ok (.imul, 1) := dX11_duties_all11.2.2.2.2.1
theorem dX11_duties_267 : decode cX11_duties 267 = .ok (.iconst 1, 1) := dX11_duties_all11.2.2.2.2.2.1
theorem dX11_duties_268 : decode cX11_duties 268 = .ok (.iadd, 1) := dX11_duties_all11.2.2.2.2.2.2.1
theorem dX11_duties_269 : decode cX11_duties 269 = .ok (.iload 4, 2) := dX11_duties_all11.2.2.2.2.2.2.2.1
theorem dX11_duties_271 : decode cX11_duties 271 = .ok (.iastore, 1) := dX11_duties_all11.2.2.2.2.2.2.2.2.1
theorem dX11_duties_272 : decode cX11_duties 272 = .ok (.aload_n 0, 1) := dX11_duties_all11.2.2.2.2.2.2.2.2.2.1
theorem dX11_duties_273 : decode cX11_duties 273 = .ok (.getfield 84, 3) := dX11_duties_all11.2.2.2.2.2.2.2.2.2.2.1
theorem dX11_duties_276 : decode cX11_duties 276 = .ok (.iconst 3, 1) := dX11_duties_all11.2.2.2.2.2.2.2.2.2.2.2
theorem dX11_duties_all12 : decode cX11_duties 277 = .ok (.aload_n 0, 1) ∧ decode cX11_duties 278 = .ok (.getfield 287, 3) ∧ decode cX11_duties 281 = .ok (.imul, 1) ∧ decode cX11_duties 282 = .ok (.iconst 2, 1) ∧ decode cX11_duties 283 = .ok (.iadd, 1) ∧ decode cX11_duties 284 = .ok (.iload 5, 2) ∧ decode cX11_duties 286 = .ok (.iastore, 1) ∧ decode cX11_duties 287 = .ok (.aload_n 0, 1) ∧ decode cX11_duties 288 = .ok (.dup, 1) ∧ decode cX11_duties 289 = .ok (.getfield 287, 3) ∧ decode cX11_duties 292 = .ok (.iconst 1, 1) ∧ decode cX11_duties 293 = .ok (.iadd, 1) := by decide +kernel
theorem dX11_duties_277 : decode cX11_duties 277 = .ok (.aload_n 0, 1) := dX11_duties_all12.1
theorem dX11_duties_278 : decode cX11_duties 278 = .ok (.getfield 287, 3) := dX11_duties_all12.2.1
theorem dX11_duties_281 : decode cX11_duties 281 = .ok (.imul, 1) := dX11_duties_all12.2.2.1
theorem dX11_duties_282 : decode cX11_duties 282 = .ok (.iconst 2, 1) := dX11_duties_all12.2.2.2.1
theorem dX11_duties_283 : decode cX11_duties 283 = .ok (.iadd, 1) := dX11_duties_all12.2.2.2.2.1
theorem dX11_duties_284 : decode cX11_duties 284 = .ok (.iload 5, 2) := dX11_duties_all12.2.2.2.2.2.1
theorem dX11_duties_286 : decode cX11_duties 286 = .ok (.iastore, 1) := dX11_duties_all12.2.2.2.2.2.2.1
theorem dX11_duties_287 : decode cX11_duties 287 = .ok (.aload_n 0, 1) := dX11_duties_all12.2.2.2.2.2.2.2.1
theorem dX11_duties_288 : decode cX11_duties 288 = .ok (.dup, 1) := dX11_duties_all12.2.2.2.2.2.2.2.2.1
theorem dX11_duties_289 : decode cX11_duties 289 = .ok (.getfield 287, 3) := dX11_duties_all12.2.2.2.2.2.2.2.2.2.1
theorem dX11_duties_292 : decode cX11_duties 292 = .ok (.iconst 1, 1) := dX11_duties_all12.2.2.2.2.2.2.2.2.2.2.1
theorem dX11_duties_293 : decode cX11_duties 293 = .ok (.iadd, 1) := dX11_duties_all12.2.2.2.2.2.2.2.2.2.2.2
theorem dX11_duties_all13 : decode cX11_duties 294 = .ok (.putfield 287, 3) ∧ decode cX11_duties 297 = .ok (.goto (-260), 3) ∧ decode cX11_duties 300 = .ok (.aload_n 0, 1) ∧ decode cX11_duties 301 = .ok (.getfield 271, 3) ∧ decode cX11_duties 304 = .ok (.ifCond .le 20, 3) ∧ decode cX11_duties 307 = .ok (.aload_n 0, 1) ∧ decode cX11_duties 308 = .ok (.aload_n 0, 1) ∧ decode cX11_duties 309 = .ok (.getfield 271, 3) ∧ decode cX11_duties 312 = .ok (.putfield 310, 3) ∧ decode cX11_duties 315 = .ok (.ldc_w 313, 3) ∧ decode cX11_duties 318 = .ok (.aload_n 0, 1) ∧ decode cX11_duties 319 = .ok (.getfield 274, 3) := by decide +kernel
theorem dX11_duties_294 : decode cX11_duties 294 = .ok (.putfield 287, 3) := dX11_duties_all13.1
theorem dX11_duties_297 : decode cX11_duties 297 = .ok (.goto (-260), 3) := dX11_duties_all13.2.1
theorem dX11_duties_300 : decode cX11_duties 300 = .ok (.aload_n 0, 1) := dX11_duties_all13.2.2.1
theorem dX11_duties_301 : decode cX11_duties 301 = .ok (.getfield 271, 3) := dX11_duties_all13.2.2.2.1
theorem dX11_duties_304 : decode cX11_duties 304 = .ok (.ifCond .le 20, 3) := dX11_duties_all13.2.2.2.2.1
theorem dX11_duties_307 : decode cX11_duties 307 = .ok (.aload_n 0, 1) := dX11_duties_all13.2.2.2.2.2.1
theorem dX11_duties_308 : decode cX11_duties 308 = .ok (.aload_n 0, 1) := dX11_duties_all13.2.2.2.2.2.2.1
theorem dX11_duties_309 : decode cX11_duties 309 = .ok (.getfield 271, 3) := dX11_duties_all13.2.2.2.2.2.2.2.1
theorem dX11_duties_312 : decode cX11_duties 312 = .ok (.putfield 310, 3) := dX11_duties_all13.2.2.2.2.2.2.2.2.1
theorem dX11_duties_315 : decode cX11_duties 315 = .ok (.ldc_w 313, 3) := dX11_duties_all13.2.2.2.2.2.2.2.2.2.1
theorem dX11_duties_318 : decode cX11_duties 318 = .ok (.aload_n 0, 1) := dX11_duties_all13.2.2.2.2.2.2.2.2.2.2.1
theorem dX11_duties_319 : decode cX11_duties 319 = .ok (.getfield 274, 3) := dX11_duties_all13.2.2.2.2.2.2.2.2.2.2.2
theorem dX11_duties_all14 : decode cX11_duties 322 = .ok (.isub, 1) ∧ decode cX11_duties 323 = .ok (.ireturn, 1) ∧ decode cX11_duties 324 = .ok (.aload_n 0, 1) ∧ decode cX11_duties 325 = .ok (.aload_n 0, 1) ∧ decode cX11_duties 326 = .ok (.getfield 287, 3) ∧ decode cX11_duties 329 = .ok (.putfield 314, 3) ∧ decode cX11_duties 332 = .ok (.iconst 0, 1) ∧ decode cX11_duties 333 = .ok (.istore_n 1, 1) ∧ decode cX11_duties 334 = .ok (.iload_n 1, 1) ∧ decode cX11_duties 335 = .ok (.bipush 36, 2) ∧ decode cX11_duties 337 = .ok (.if_icmp .ge 21, 3) ∧ decode cX11_duties 340 = .ok (.aload_n 0, 1) := by decide +kernel
theorem dX11_duties_322 : decode cX11_duties 322 = .ok (.isub, 1) := dX11_duties_all14.1
theorem dX11_duties_323 : decode cX11_duties 323 = .ok (.ireturn, 1) := dX11_duties_all14.2.1
theorem dX11_duties_324 : decode cX11_duties 324 = .ok (.aload_n 0, 1) := dX11_duties_all14.2.2.1
theorem dX11_duties_325 : decode cX11_duties 325 = .ok (.aload_n 0, 1) := dX11_duties_all14.2.2.2.1
theorem dX11_duties_326 : decode cX11_duties 326 = .ok (.getfield 287, 3) := dX11_duties_all14.2.2.2.2.1
theorem dX11_duties_329 : decode cX11_duties 329 = .ok (.putfield 314, 3) := dX11_duties_all14.2.2.2.2.2.1
theorem dX11_duties_332 : decode cX11_duties 332 = .ok (.iconst 0, 1) := dX11_duties_all14.2.2.2.2.2.2.1
theorem dX11_duties_333 : decode cX11_duties 333 = .ok (.istore_n 1, 1) := dX11_duties_all14.2.2.2.2.2.2.2.1
theorem dX11_duties_334 : decode cX11_duties 334 = .ok (.iload_n 1, 1) := dX11_duties_all14.2.2.2.2.2.2.2.2.1
theorem dX11_duties_335 : decode cX11_duties 335 = .ok (.bipush 36, 2) := dX11_duties_all14.2.2.2.2.2.2.2.2.2.1
theorem dX11_duties_337 : decode cX11_duties 337 = .ok (.if_icmp .ge 21, 3) := dX11_duties_all14.2.2.2.2.2.2.2.2.2.2.1
theorem dX11_duties_340 : decode cX11_duties 340 = .ok (.aload_n 0, 1) := dX11_duties_all14.2.2.2.2.2.2.2.2.2.2.2
theorem dX11_duties_all15 : decode cX11_duties 341 = .ok (.getfield 81, 3) ∧ decode cX11_duties 344 = .ok (.iload_n 1, 1) ∧ decode cX11_duties 345 = .ok (.aload_n 0, 1) ∧ decode cX11_duties 346 = .ok (.getfield 84, 3) ∧ decode cX11_duties 349 = .ok (.iload_n 1, 1) ∧ decode cX11_duties 350 = .ok (.iaload, 1) ∧ decode cX11_duties 351 = .ok (.iastore, 1) ∧ decode cX11_duties 352 = .ok (.iinc 1 1, 3) ∧ decode cX11_duties 355 = .ok (.goto (-21), 3) ∧ decode cX11_duties 358 = .ok (.aload_n 0, 1) ∧ decode cX11_duties 359 = .ok (.getfield 314, 3) ∧ decode cX11_duties 362 = .ok (.ireturn, 1) := by decide +kernel
theorem dX11_duties_341 : decode cX11_duties 341 = .ok (.getfield 81, 3) := dX11_duties_all15.1
theorem dX11_duties_344 : decode cX11_duties 344 = .ok (.iload_n 1, 1) := dX11_duties_all15.2.1
theorem dX11_duties_345 : decode cX11_duties 345 = .ok (.aload_n 0, 1) := dX11_duties_all15.2.2.1
theorem dX11_duties_346 : decode cX11_duties 346 = .ok (.getfield 84, 3) := dX11_duties_all15.2.2.2.1
theorem dX11_duties_349 : decode cX11_duties 349 = .ok (.iload_n 1, 1) := dX11_duties_all15.2.2.2.2.1
theorem dX11_duties_350 : decode cX11_duties 350 = .ok (.iaload, 1) := dX11_duties_all15.2.2.2.2.2.1
theorem dX11_duties_351 : decode cX11_duties 351 = .ok (.iastore, 1) := dX11_duties_all15.2.2.2.2.2.2.1
theorem dX11_duties_352 : decode cX11_duties 352 = .ok (.iinc 1 1, 3) := dX11_duties_all15.2.2.2.2.2.2.2.1
theorem dX11_duties_355 : decode cX11_duties 355 = .ok (.goto (-21), 3) := dX11_duties_all15.2.2.2.2.2.2.2.2.1
theorem dX11_duties_358 : decode cX11_duties 358 = .ok (.aload_n 0, 1) := dX11_duties_all15.2.2.2.2.2.2.2.2.2.1
theorem dX11_duties_359 : decode cX11_duties 359 = .ok (.getfield 314, 3) := dX11_duties_all15.2.2.2.2.2.2.2.2.2.2.1
theorem dX11_duties_362 : decode cX11_duties 362 = .ok (.ireturn, 1) := dX11_duties_all15.2.2.2.2.2.2.2.2.2.2.2
set_option maxHeartbeats 4000000 in
set_option maxRecDepth 100000 in
theorem ct_X11_duties (l : Launch) (D : va_G) (cI cY cJ cQ : ClassId) (sz : Nat) (md : Nat → Nat) (sd : Int32) (mth mst hn cn pn mq gn mln mnn ln mlt msz mcu mtk mfr mti mfa mfb an un lc td mtn : Int32) (mli mnl mtp : Nat → Int32)  (h1 : 0 ≤ ln.toInt) (h2 : ln.toInt ≤ 300) (h3 : 0 ≤ mln.toInt) (h4 : mln.toInt ≤ 12)  : Met l yX11_duties wsX11_duties ({ frames := 4, cells := 0, slots := 0, locals := 86 }) (cPre D (ty4 cI cY cJ cQ) [(moC md sd mth mst hn cn pn mq gn mln mnn ln mlt msz mcu mtk mfr mti mfa mfb an un lc td mtn), (aI cI (md 31) 36 mli), (aI cI (md 33) 36 mnl), (aI cI (md 34) 300 mtp)] sz [.ref (md 64)]) (va_Qi (fun (r : Int32) (u : Int32 × (Nat → Int32) × Int32 × (Nat → Int32) × Int32 × Int32 × Int32 × Int32 × Int32 × Int32 × Int32 × Int32) => 0 ≤ u.1.toInt ∧ u.1.toInt ≤ 12) (cB D (ty4 cI cY cJ cQ) (fun (u : Int32 × (Nat → Int32) × Int32 × (Nat → Int32) × Int32 × Int32 × Int32 × Int32 × Int32 × Int32 × Int32 × Int32) => [(moC md sd 0 mst hn cn pn mq gn u.1 u.2.2.1 0 u.2.2.2.2.1 u.2.2.2.2.2.1 u.2.2.2.2.2.2.1 u.2.2.2.2.2.2.2.1 u.2.2.2.2.2.2.2.2.1 u.2.2.2.2.2.2.2.2.2.1 u.2.2.2.2.2.2.2.2.2.2.1 u.2.2.2.2.2.2.2.2.2.2.2 an un lc td mtn), (aI cI (md 31) 36 u.2.1), (aI cI (md 33) 36 u.2.2.2.1), (aI cI (md 34) 300 mtp)]) (va_A [(moC md sd mth mst hn cn pn mq gn mln mnn ln mlt msz mcu mtk mfr mti mfa mfb an un lc td mtn), (aI cI (md 31) 36 mli), (aI cI (md 33) 36 mnl), (aI cI (md 34) 300 mtp)] sz)) (va_A [(moC md sd mth mst hn cn pn mq gn mln mnn ln mlt msz mcu mtk mfr mti mfa mfb an un lc td mtn), (aI cI (md 31) 36 mli), (aI cI (md 33) 36 mnl), (aI cI (md 34) 300 mtp)] sz)) 0 0 (va_A [(moC md sd mth mst hn cn pn mq gn mln mnn ln mlt msz mcu mtk mfr mti mfa mfb an un lc td mtn), (aI cI (md 31) 36 mli), (aI cI (md 33) 36 mnl), (aI cI (md 34) 300 mtp)] sz) := by
  refine Met.ofW (cc := cX11_duties) (maxL := 6) (ret := (some .int)) (by decide) rfl ?_
  intro p e s m args below meth c s₁ B hml hv
  obtain ⟨rfl, hsz, hP, hK, hD0, hN⟩ := hv
  have hx := B.exec
  have hb := B.bytes
  have hr := B.returns
  have hts := atoms_spec (ws := wsX11_duties) B.pre
  have hown : s.vm.findClass RX11 = some m.cls := findClass_of_methodNamed B.named
  have hlocks := B.notSynchronized
  subst hsz
  have hD := hD0.self (sz := s.heap.size)
  generalize hAe : va_A [(moC md sd mth mst hn cn pn mq gn mln mnn ln mlt msz mcu mtk mfr mti mfa mfb an un lc td mtn), (aI cI (md 31) 36 mli), (aI cI (md 33) 36 mnl), (aI cI (md 34) 300 mtp)] s.heap.size = A at hD ⊢
  have hA : ∀ q : Nat, s.heap.size ≤ q → A q := fun q h => by rw [← hAe]; exact Or.inr h
  have hS : va_S A s.heap s.heap [] := va_S.rf
  have hP : va_P D vwCl [(moC md sd mth mst hn cn pn mq gn mln mnn ln mlt msz mcu mtk mfr mti mfa mfb an un lc td mtn), (aI cI (md 31) 36 mli), (aI cI (md 33) 36 mnl), (aI cI (md 34) 300 mtp)] s.heap := hP
  have hl := lv_entry ([.ref (md 64)]) (n := 6) (Nat.le_of_ble_eq_true rfl)
  rw [lg_entry_eq]
  generalize (lg_sl ([.ref (md 64)]) ++ List.replicate (6 - (lg_sl ([.ref (md 64)])).length) Slot.unset).toArray = ls at hl ⊢
  have hl : lv_has ls 6 [(0, .ref (md 64))] := hl
  have km1000100 : (-1000100 : Int32).toInt = -1000100 := by decide
  have km1000000 : (-1000000 : Int32).toInt = -1000000 := by decide
  have km1 : (-1 : Int32).toInt = -1 := by decide
  have k0 : (0 : Int32).toInt = 0 := by decide
  have k1 : (1 : Int32).toInt = 1 := by decide
  have k2 : (2 : Int32).toInt = 2 := by decide
  have k3 : (3 : Int32).toInt = 3 := by decide
  have k12 : (12 : Int32).toInt = 12 := by decide
  have k36 : (36 : Int32).toInt = 36 := by decide
  have k59 : (59 : Int32).toInt = 59 := by decide
  have k62 : (62 : Int32).toInt = 62 := by decide
  have k100 : (100 : Int32).toInt = 100 := by decide
  have k9999 : (9999 : Int32).toInt = 9999 := by decide
  have kl7304564 : (7304564 : Int64).toInt = 7304564 := by decide
  have kl1885434484 : (1885434484 : Int64).toInt = 1885434484 := by decide
  have kl1936682084 : (1936682084 : Int64).toInt = 1936682084 := by decide
  have kl495673374574 : (495673374574 : Int64).toInt = 495673374574 := by decide
  have kl120282411197796 : (120282411197796 : Int64).toInt = 120282411197796 := by decide
  refine lv_aload_n hx hb dX11_duties_0 rfl (lv_at hl 0 rfl) ?_
  refine lv_iconst (v := 0) hx hb dX11_duties_1 (by decide) ?_
  refine va_put (D := D) (ci := 11) (v := .int 0) (ty := .int) (C := RX11) (T := TX11) (N := 64) hx hb hts inX11_duties_X11 tyX11 tyX11_ok nmX11 hown hK hP hD hS 0 rfl rfl 0 (by decide) (hts (Cond.fieldLink RX11 1 "PortRoomsModel" "thrown" "I") (wm_t (wm_l (wm_l (wm_i 0 rfl))))) (fun _ h9 => h9) rfl (tyX11_ok 0 (by decide)) rfl rfl (Nat.le_of_ble_eq_true rfl) dX11_duties_2 (fun H locs => ?_)
  clear hP hD hS
  intro hP hD hS
  replace hP : va_P D vwCl [(moC md sd (0) mst hn cn pn mq gn mln mnn ln mlt msz mcu mtk mfr mti mfa mfb an un lc td mtn), (aI cI (md 31) 36 mli), (aI cI (md 33) 36 mnl), (aI cI (md 34) 300 mtp)] H := hP
  replace hD : va_D A [(moC md sd (0) mst hn cn pn mq gn mln mnn ln mlt msz mcu mtk mfr mti mfa mfb an un lc td mtn), (aI cI (md 31) 36 mli), (aI cI (md 33) 36 mnl), (aI cI (md 34) 300 mtp)] := hD
  refine lv_aload_n hx hb dX11_duties_5 rfl (lv_at hl 0 rfl) ?_
  refine lv_aload_n hx hb dX11_duties_6 rfl (lv_at hl 0 rfl) ?_
  refine va_get (D := D) (ci := 11) (v := .int ln) (C := RX11) (T := TX11) (N := 64) hx hb hts inX11_duties_X11 hown hK hP 0 rfl rfl 35 (by decide) (hts (Cond.fieldLink RX11 242 "PortRoomsModel" "taped" "I") (wm_t (wm_l (wm_l (wm_i 1 rfl))))) (fun _ h9 => h9) rfl dX11_duties_7 ?_
  refine va_put (D := D) (ci := 11) (v := .int ln) (ty := .int) (C := RX11) (T := TX11) (N := 64) hx hb hts inX11_duties_X11 tyX11 tyX11_ok nmX11 hown hK hP hD hS 0 rfl rfl 37 (by decide) (hts (Cond.fieldLink RX11 247 "PortRoomsModel" "size" "I") (wm_t (wm_l (wm_l (wm_i 2 rfl))))) (fun _ h9 => h9) rfl (tyX11_ok 37 (by decide)) rfl rfl (Nat.le_of_ble_eq_true rfl) dX11_duties_10 (fun H locs => ?_)
  clear hP hD hS
  intro hP hD hS
  replace hP : va_P D vwCl [(moC md sd (0) mst hn cn pn mq gn mln mnn ln mlt ln mcu mtk mfr mti mfa mfb an un lc td mtn), (aI cI (md 31) 36 mli), (aI cI (md 33) 36 mnl), (aI cI (md 34) 300 mtp)] H := hP
  replace hD : va_D A [(moC md sd (0) mst hn cn pn mq gn mln mnn ln mlt ln mcu mtk mfr mti mfa mfb an un lc td mtn), (aI cI (md 31) 36 mli), (aI cI (md 33) 36 mnl), (aI cI (md 34) 300 mtp)] := hD
  refine lv_aload_n hx hb dX11_duties_13 rfl (lv_at hl 0 rfl) ?_
  refine lv_iconst (v := 0) hx hb dX11_duties_14 (by decide) ?_
  refine va_put (D := D) (ci := 11) (v := .int 0) (ty := .int) (C := RX11) (T := TX11) (N := 64) hx hb hts inX11_duties_X11 tyX11 tyX11_ok nmX11 hown hK hP hD hS 0 rfl rfl 35 (by decide) (hts (Cond.fieldLink RX11 242 "PortRoomsModel" "taped" "I") (wm_t (wm_l (wm_l (wm_i 1 rfl))))) (fun _ h9 => h9) rfl (tyX11_ok 35 (by decide)) rfl rfl (Nat.le_of_ble_eq_true rfl) dX11_duties_15 (fun H locs => ?_)
  clear hP hD hS
  intro hP hD hS
  replace hP : va_P D vwCl [(moC md sd (0) mst hn cn pn mq gn mln mnn (0) mlt ln mcu mtk mfr mti mfa mfb an un lc td mtn), (aI cI (md 31) 36 mli), (aI cI (md 33) 36 mnl), (aI cI (md 34) 300 mtp)] H := hP
  replace hD : va_D A [(moC md sd (0) mst hn cn pn mq gn mln mnn (0) mlt ln mcu mtk mfr mti mfa mfb an un lc td mtn), (aI cI (md 31) 36 mli), (aI cI (md 33) 36 mnl), (aI cI (md 34) 300 mtp)] := hD
  refine lv_aload_n hx hb dX11_duties_18 rfl (lv_at hl 0 rfl) ?_
  refine lv_iconst (v := 0) hx hb dX11_duties_19 (by decide) ?_
  refine va_put (D := D) (ci := 11) (v := .int 0) (ty := .int) (C := RX11) (T := TX11) (N := 64) hx hb hts inX11_duties_X11 tyX11 tyX11_ok nmX11 hown hK hP hD hS 0 rfl rfl 38 (by decide) (hts (Cond.fieldLink RX11 250 "PortRoomsModel" "cursor" "I") (wm_t (wm_l (wm_l (wm_i 3 rfl))))) (fun _ h9 => h9) rfl (tyX11_ok 38 (by decide)) rfl rfl (Nat.le_of_ble_eq_true rfl) dX11_duties_20 (fun H locs => ?_)
  clear hP hD hS
  intro hP hD hS
  replace hP : va_P D vwCl [(moC md sd (0) mst hn cn pn mq gn mln mnn (0) mlt ln (0) mtk mfr mti mfa mfb an un lc td mtn), (aI cI (md 31) 36 mli), (aI cI (md 33) 36 mnl), (aI cI (md 34) 300 mtp)] H := hP
  replace hD : va_D A [(moC md sd (0) mst hn cn pn mq gn mln mnn (0) mlt ln (0) mtk mfr mti mfa mfb an un lc td mtn), (aI cI (md 31) 36 mli), (aI cI (md 33) 36 mnl), (aI cI (md 34) 300 mtp)] := hD
  refine lv_aload_n hx hb dX11_duties_23 rfl (lv_at hl 0 rfl) ?_
  refine lv_iconst (v := 0) hx hb dX11_duties_24 (by decide) ?_
  refine va_put (D := D) (ci := 11) (v := .int 0) (ty := .int) (C := RX11) (T := TX11) (N := 64) hx hb hts inX11_duties_X11 tyX11 tyX11_ok nmX11 hown hK hP hD hS 0 rfl rfl 42 (by decide) (hts (Cond.fieldLink RX11 271 "PortRoomsModel" "fault" "I") (wm_t (wm_l (wm_l (wm_i 4 rfl))))) (fun _ h9 => h9) rfl (tyX11_ok 42 (by decide)) rfl rfl (Nat.le_of_ble_eq_true rfl) dX11_duties_25 (fun H locs => ?_)
  clear hP hD hS
  intro hP hD hS
  replace hP : va_P D vwCl [(moC md sd (0) mst hn cn pn mq gn mln mnn (0) mlt ln (0) mtk mfr mti (0) mfb an un lc td mtn), (aI cI (md 31) 36 mli), (aI cI (md 33) 36 mnl), (aI cI (md 34) 300 mtp)] H := hP
  replace hD : va_D A [(moC md sd (0) mst hn cn pn mq gn mln mnn (0) mlt ln (0) mtk mfr mti (0) mfb an un lc td mtn), (aI cI (md 31) 36 mli), (aI cI (md 33) 36 mnl), (aI cI (md 34) 300 mtp)] := hD
  refine lv_aload_n hx hb dX11_duties_28 rfl (lv_at hl 0 rfl) ?_
  refine lv_iconst (v := 0) hx hb dX11_duties_29 (by decide) ?_
  refine va_put (D := D) (ci := 11) (v := .int 0) (ty := .int) (C := RX11) (T := TX11) (N := 64) hx hb hts inX11_duties_X11 tyX11 tyX11_ok nmX11 hown hK hP hD hS 0 rfl rfl 32 (by decide) (hts (Cond.fieldLink RX11 287 "PortRoomsModel" "newLines" "I") (wm_t (wm_l (wm_l (wm_i 5 rfl))))) (fun _ h9 => h9) rfl (tyX11_ok 32 (by decide)) rfl rfl (Nat.le_of_ble_eq_true rfl) dX11_duties_30 (fun H locs => ?_)
  clear hP hD hS
  intro hP hD hS
  replace hP : va_P D vwCl [(moC md sd (0) mst hn cn pn mq gn mln (0) (0) mlt ln (0) mtk mfr mti (0) mfb an un lc td mtn), (aI cI (md 31) 36 mli), (aI cI (md 33) 36 mnl), (aI cI (md 34) 300 mtp)] H := hP
  replace hD : va_D A [(moC md sd (0) mst hn cn pn mq gn mln (0) (0) mlt ln (0) mtk mfr mti (0) mfb an un lc td mtn), (aI cI (md 31) 36 mli), (aI cI (md 33) 36 mnl), (aI cI (md 34) 300 mtp)] := hD
  refine lv_aload_n hx hb dX11_duties_33 rfl (lv_at hl 0 rfl) ?_
  refine st_v (wr := [(aI cI (md 31) 36 mli), (aI cI (md 33) 36 mnl)]) (va_runV (C := RX11) (As := []) (rest := []) ⟨hx, hb, hml, hown, hts⟩ (ct_X11_step l D cI cY cJ cQ _ md sd 0 mst hn cn pn mq gn mln 0 0 mlt ln 0 mtk mfr mti 0 mfb an un lc td mtn mtp h1 h2 (by omega) (by omega)) (cwV 0 hts gX11_duties_X11_step rfl rfl rfl ⟨rfl, cdX11_step⟩ ⟨Nat.le_of_ble_eq_true rfl, Nat.le_of_ble_eq_true rfl⟩) (cPreV (hP.sub [0, 3] rfl) hK (hD.sub [0, 3] (by decide +kernel) rfl) hN (ci := 11) (q0 := 0) rfl rfl) rfl rfl hl.1 rfl (lv_room (Nat.le_of_ble_eq_true rfl)) dX11_duties_34 ⟨Nat.le_of_ble_eq_true rfl, Nat.le_of_ble_eq_true rfl⟩) hP hD hS hA [0, 3] [1, 2] rfl rfl (by decide +kernel) (by decide +kernel) (fun u1 H locs hw2 => ?_)
  clear hP hD hS
  intro hP hD hS
  obtain ⟨mcu_4, mtk_5, mfr_6, mti_7⟩ := u1
  replace hw2 : (0 : Int32).toInt ≤ mfr_6.toInt ∧ mfr_6.toInt ≤ mcu_4.toInt ∧ mcu_4.toInt ≤ ln.toInt ∧ mti_7.toInt = mcu_4.toInt ∧ (mtk_5.toInt = 1 ∨ mfr_6.toInt < mcu_4.toInt) := hw2
  replace hP : va_P D vwCl [(aI cI (md 31) 36 mli), (aI cI (md 33) 36 mnl), (moC md sd (0) mst hn cn pn mq gn mln (0) (0) mlt ln mcu_4 mtk_5 mfr_6 mti_7 (0) mfb an un lc td mtn), (aI cI (md 34) 300 mtp)] H := hP
  replace hD : va_D A [(aI cI (md 31) 36 mli), (aI cI (md 33) 36 mnl), (moC md sd (0) mst hn cn pn mq gn mln (0) (0) mlt ln mcu_4 mtk_5 mfr_6 mti_7 (0) mfb an un lc td mtn), (aI cI (md 34) 300 mtp)] := hD
  refine st_loop 37 (fun _ => []) (fun (z : (Nat → Int32) × Int32 × Int32 × Int32 × Int32 × Int32 × Int32 × Int32) (ls : Array Slot) (H : Heap) (locs : List Loc) => match z with | (mnlq, hcu, htk, hfr, hti, hfa, hfb, hnn) => (0 ≤ hfr.toInt) ∧ (hfr.toInt ≤ hcu.toInt) ∧ (hcu.toInt ≤ ln.toInt) ∧ (hti.toInt = hcu.toInt) ∧ (¬ hfa.toInt = 0 ∨ htk.toInt = 1 ∨ hfr.toInt < hcu.toInt) ∧ (0 ≤ hnn.toInt) ∧ (hnn.toInt ≤ 12) ∧ lv_has ls 6 [(0, .ref (md 64))] ∧ va_P D vwCl [(aI cI (md 31) 36 mli), (aI cI (md 33) 36 mnlq), (moC md sd (0) mst hn cn pn mq gn mln hnn (0) mlt ln hcu htk hfr hti hfa hfb an un lc td mtn), (aI cI (md 34) 300 mtp)] H ∧ va_D A [(aI cI (md 31) 36 mli), (aI cI (md 33) 36 mnlq), (moC md sd (0) mst hn cn pn mq gn mln hnn (0) mlt ln hcu htk hfr hti hfa hfb an un lc td mtn), (aI cI (md 34) 300 mtp)] ∧ va_S A s.heap H locs) (fun (z : (Nat → Int32) × Int32 × Int32 × Int32 × Int32 × Int32 × Int32 × Int32) => match z with | (mnlq, hcu, htk, hfr, hti, hfa, hfb, hnn) => 301 - hfr.toInt) ?_ ?_ (mnl, mcu_4, mtk_5, mfr_6, mti_7, (0 : Int32), mfb, (0 : Int32)) ⟨(by omega), (by omega), (by omega), (by omega), (by omega), (by omega), (by omega), lv_sub hl [0] rfl, hP, hD, hS⟩
  · rintro ⟨mnlq, hcu, htk, hfr, hti, hfa, hfb, hnn⟩ ls H locs ⟨g8, g9, g10, g11, g12, g13, g14, hl, hP, hD, hS⟩
    show (0 : Int) ≤ 301 - hfr.toInt
    omega
  · rintro n17 ih15 ⟨mnlq, hcu, htk, hfr, hti, hfa, hfb, hnn⟩ ls H locs ⟨g8, g9, g10, g11, g12, g13, g14, hl, hP, hD, hS⟩ hm16
    have hm16 : 301 - hfr.toInt < (n17 : Int) + 1 := hm16
    replace hl : lv_has ls 6 [(0, .ref (md 64))] := hl
    replace hP : va_P D vwCl [(aI cI (md 31) 36 mli), (aI cI (md 33) 36 mnlq), (moC md sd (0) mst hn cn pn mq gn mln hnn (0) mlt ln hcu htk hfr hti hfa hfb an un lc td mtn), (aI cI (md 34) 300 mtp)] H := hP
    replace hD : va_D A [(aI cI (md 31) 36 mli), (aI cI (md 33) 36 mnlq), (moC md sd (0) mst hn cn pn mq gn mln hnn (0) mlt ln hcu htk hfr hti hfa hfb an un lc td mtn), (aI cI (md 34) 300 mtp)] := hD
    show W _ _ _ _ _ _ _ _ _ _ _ _ _ _ _ (F0 m 37 ls [])
    refine lv_aload_n hx hb dX11_duties_37 rfl (lv_at hl 0 rfl) ?_
    refine va_get (D := D) (ci := 11) (v := .int hfa) (C := RX11) (T := TX11) (N := 64) hx hb hts inX11_duties_X11 hown hK hP 2 rfl rfl 42 (by decide) (hts (Cond.fieldLink RX11 271 "PortRoomsModel" "fault" "I") (wm_t (wm_l (wm_l (wm_i 4 rfl))))) (fun _ h9 => h9) rfl dX11_duties_38 ?_
    refine lv_if_ne (tgt := 300) hx hb dX11_duties_41 (by decide) (fun c18 => ?_) (fun c18 => ?_)
    · skip
      have f19 := i_ne c18
      refine lv_aload_n hx hb dX11_duties_300 rfl (lv_at hl 0 rfl) ?_
      refine va_get (D := D) (ci := 11) (v := .int hfa) (C := RX11) (T := TX11) (N := 64) hx hb hts inX11_duties_X11 hown hK hP 2 rfl rfl 42 (by decide) (hts (Cond.fieldLink RX11 271 "PortRoomsModel" "fault" "I") (wm_t (wm_l (wm_l (wm_i 4 rfl))))) (fun _ h9 => h9) rfl dX11_duties_301 ?_
      refine lv_if_le (tgt := 324) hx hb dX11_duties_304 (by decide) (fun c20 => ?_) (fun c20 => ?_)
      · skip
        have f21 := i_le c20
        refine lv_aload_n hx hb dX11_duties_324 rfl (lv_at hl 0 rfl) ?_
        refine lv_aload_n hx hb dX11_duties_325 rfl (lv_at hl 0 rfl) ?_
        refine va_get (D := D) (ci := 11) (v := .int hnn) (C := RX11) (T := TX11) (N := 64) hx hb hts inX11_duties_X11 hown hK hP 2 rfl rfl 32 (by decide) (hts (Cond.fieldLink RX11 287 "PortRoomsModel" "newLines" "I") (wm_t (wm_l (wm_l (wm_i 5 rfl))))) (fun _ h9 => h9) rfl dX11_duties_326 ?_
        refine va_put (D := D) (ci := 11) (v := .int hnn) (ty := .int) (C := RX11) (T := TX11) (N := 64) hx hb hts inX11_duties_X11 tyX11 tyX11_ok nmX11 hown hK hP hD hS 2 rfl rfl 30 (by decide) (hts (Cond.fieldLink RX11 314 "PortRoomsModel" "lines" "I") (wm_t (wm_l (wm_l (wm_i 17 rfl))))) (fun _ h9 => h9) rfl (tyX11_ok 30 (by decide)) rfl rfl (Nat.le_of_ble_eq_true rfl) dX11_duties_329 (fun H locs => ?_)
        clear hP hD hS
        intro hP hD hS
        replace hP : va_P D vwCl [(aI cI (md 31) 36 mli), (aI cI (md 33) 36 mnlq), (moC md sd (0) mst hn cn pn mq gn hnn hnn (0) mlt ln hcu htk hfr hti hfa hfb an un lc td mtn), (aI cI (md 34) 300 mtp)] H := hP
        replace hD : va_D A [(aI cI (md 31) 36 mli), (aI cI (md 33) 36 mnlq), (moC md sd (0) mst hn cn pn mq gn hnn hnn (0) mlt ln hcu htk hfr hti hfa hfb an un lc td mtn), (aI cI (md 34) 300 mtp)] := hD
        refine lv_iconst (v := 0) hx hb dX11_duties_332 (by decide) ?_
        refine lv_istore_n (lv' := [(1, .int 0), (0, .ref (md 64))]) hx hb dX11_duties_333 rfl hl (by decide) rfl (fun ls hl => ?_)
        refine st_loop 334 (fun _ => []) (fun (z : Int32 × (Nat → Int32)) (ls : Array Slot) (H : Heap) (locs : List Loc) => match z with | (q334_1, mliq) => (0 ≤ q334_1.toInt) ∧ (q334_1.toInt ≤ 36) ∧ lv_has ls 6 [(0, .ref (md 64)), (1, .int q334_1)] ∧ va_P D vwCl [(aI cI (md 31) 36 mliq), (aI cI (md 33) 36 mnlq), (moC md sd (0) mst hn cn pn mq gn hnn hnn (0) mlt ln hcu htk hfr hti hfa hfb an un lc td mtn), (aI cI (md 34) 300 mtp)] H ∧ va_D A [(aI cI (md 31) 36 mliq), (aI cI (md 33) 36 mnlq), (moC md sd (0) mst hn cn pn mq gn hnn hnn (0) mlt ln hcu htk hfr hti hfa hfb an un lc td mtn), (aI cI (md 34) 300 mtp)] ∧ va_S A s.heap H locs) (fun (z : Int32 × (Nat → Int32)) => match z with | (q334_1, mliq) => 36 - q334_1.toInt) ?_ ?_ ((0 : Int32), mli) ⟨(by omega), (by omega), lv_sub hl [1, 0] rfl, hP, hD, hS⟩
        · rintro ⟨q334_1, mliq⟩ ls H locs ⟨g22, g23, hl, hP, hD, hS⟩
          show (0 : Int) ≤ 36 - q334_1.toInt
          omega
        · rintro n26 ih24 ⟨q334_1, mliq⟩ ls H locs ⟨g22, g23, hl, hP, hD, hS⟩ hm25
          have hm25 : 36 - q334_1.toInt < (n26 : Int) + 1 := hm25
          replace hl : lv_has ls 6 [(0, .ref (md 64)), (1, .int q334_1)] := hl
          replace hP : va_P D vwCl [(aI cI (md 31) 36 mliq), (aI cI (md 33) 36 mnlq), (moC md sd (0) mst hn cn pn mq gn hnn hnn (0) mlt ln hcu htk hfr hti hfa hfb an un lc td mtn), (aI cI (md 34) 300 mtp)] H := hP
          replace hD : va_D A [(aI cI (md 31) 36 mliq), (aI cI (md 33) 36 mnlq), (moC md sd (0) mst hn cn pn mq gn hnn hnn (0) mlt ln hcu htk hfr hti hfa hfb an un lc td mtn), (aI cI (md 34) 300 mtp)] := hD
          show W _ _ _ _ _ _ _ _ _ _ _ _ _ _ _ (F0 m 334 ls [])
          refine lv_iload_n hx hb dX11_duties_334 rfl (lv_at hl 1 rfl) ?_
          refine lv_bipush (v := 36) hx hb dX11_duties_335 (by decide) ?_
          refine lv_icmp_ge (tgt := 358) hx hb dX11_duties_337 (by decide) (fun c27 => ?_) (fun c27 => ?_)
          · skip
            have f28 := i_le c27
            refine lv_aload_n hx hb dX11_duties_358 rfl (lv_at hl 0 rfl) ?_
            refine va_get (D := D) (ci := 11) (v := .int hnn) (C := RX11) (T := TX11) (N := 64) hx hb hts inX11_duties_X11 hown hK hP 2 rfl rfl 30 (by decide) (hts (Cond.fieldLink RX11 314 "PortRoomsModel" "lines" "I") (wm_t (wm_l (wm_l (wm_i 17 rfl))))) (fun _ h9 => h9) rfl dX11_duties_359 ?_
            have hP9 := hP.sub (ws' := [(moC md sd (0) mst hn cn pn mq gn hnn hnn (0) mlt ln hcu htk hfr hti hfa hfb an un lc td mtn), (aI cI (md 31) 36 mliq), (aI cI (md 33) 36 mnlq), (aI cI (md 34) 300 mtp)]) [2, 0, 1, 3] rfl
            have hD9 := hD.sub (ws' := [(moC md sd (0) mst hn cn pn mq gn hnn hnn (0) mlt ln hcu htk hfr hti hfa hfb an un lc td mtn), (aI cI (md 31) 36 mliq), (aI cI (md 33) 36 mnlq), (aI cI (md 34) 300 mtp)]) [2, 0, 1, 3] (by decide +kernel) rfl
            exact W.iret (v := hnn) hx hb hr (fun t ht hW => ⟨⟨hnn, (hnn, mliq, hnn, mnlq, mlt, ln, hcu, htk, hfr, hti, hfa, hfb), rfl, (by show 0 ≤ hnn.toInt ∧ hnn.toInt ≤ 12; omega), by rw [ht]; exact hP9, va_K.moved hW.alike hK, hD9⟩, hS.F ht⟩) hS.2.2 dX11_duties_362
          · skip
            have f29 := i_nle c27
            refine lv_aload_n hx hb dX11_duties_340 rfl (lv_at hl 0 rfl) ?_
            refine va_get (D := D) (ci := 11) (v := .ref (md 31)) (C := RX11) (T := TX11) (N := 64) hx hb hts inX11_duties_X11 hown hK hP 2 rfl rfl 31 (by decide) (hts (Cond.fieldLink RX11 81 "PortRoomsModel" "line" "[I") (wm_t (wm_l (wm_l (wm_i 18 rfl))))) (fun _ h9 => h9) rfl dX11_duties_341 ?_
            refine lv_iload_n hx hb dX11_duties_344 rfl (lv_at hl 1 rfl) ?_
            refine lv_aload_n hx hb dX11_duties_345 rfl (lv_at hl 0 rfl) ?_
            refine va_get (D := D) (ci := 11) (v := .ref (md 33)) (C := RX11) (T := TX11) (N := 64) hx hb hts inX11_duties_X11 hown hK hP 2 rfl rfl 33 (by decide) (hts (Cond.fieldLink RX11 84 "PortRoomsModel" "newLine" "[I") (wm_t (wm_l (wm_l (wm_i 13 rfl))))) (fun _ h9 => h9) rfl dX11_duties_346 ?_
            refine lv_iload_n hx hb dX11_duties_349 rfl (lv_at hl 1 rfl) ?_
            refine va_iald hx hb hK hP 1 0 rfl rfl (i_in (by omega) (by omega)) dX11_duties_350 ?_
            refine lv_topi (fun v30 ev30 => ?_)
            refine va_iast hx hb hK hP hD hS 0 0 rfl rfl (i_in (by omega) (by omega)) dX11_duties_351 (fun H locs => ?_)
            clear hP hD hS
            intro hP hD hS
            replace hP : va_P D vwCl [(aI cI (md 31) 36 (upd mliq q334_1.toNatClampNeg v30)), (aI cI (md 33) 36 mnlq), (moC md sd (0) mst hn cn pn mq gn hnn hnn (0) mlt ln hcu htk hfr hti hfa hfb an un lc td mtn), (aI cI (md 34) 300 mtp)] H := hP
            replace hD : va_D A [(aI cI (md 31) 36 (upd mliq q334_1.toNatClampNeg v30)), (aI cI (md 33) 36 mnlq), (moC md sd (0) mst hn cn pn mq gn hnn hnn (0) mlt ln hcu htk hfr hti hfa hfb an un lc td mtn), (aI cI (md 34) 300 mtp)] := hD
            obtain ⟨v31, ev31⟩ : ∃ y : Int32, y = q334_1 + 1 := ⟨_, rfl⟩
            try have tv31 : v31.toInt = q334_1.toInt + 1 := by rw [ev31]; exact (i_add (x := q334_1) (y := (1 : Int32)) (by rw [k1]; omega) (by rw [k1]; omega)).trans (by rw [k1])
            refine lv_iinc (v := v31) (lv' := [(1, .int v31), (0, .ref (md 64))]) hx hb dX11_duties_352 hl (k := 1) rfl (by rw [ev31]; rfl) (by decide) rfl (fun ls hl => ?_)
            refine lv_goto (tgt := 334) hx hb dX11_duties_355 (by decide) ?_
            exact ih24 (v31, upd mliq q334_1.toNatClampNeg v30) ls H locs ⟨(by omega), (by omega), lv_sub hl [1, 0] rfl, hP.sub [0, 1, 2, 3] rfl, hD.sub [0, 1, 2, 3] (by decide +kernel) rfl, hS⟩ (by show 36 - v31.toInt < _; omega)
      · skip
        have f32 := i_nle c20
        refine lv_aload_n hx hb dX11_duties_307 rfl (lv_at hl 0 rfl) ?_
        refine lv_aload_n hx hb dX11_duties_308 rfl (lv_at hl 0 rfl) ?_
        refine va_get (D := D) (ci := 11) (v := .int hfa) (C := RX11) (T := TX11) (N := 64) hx hb hts inX11_duties_X11 hown hK hP 2 rfl rfl 42 (by decide) (hts (Cond.fieldLink RX11 271 "PortRoomsModel" "fault" "I") (wm_t (wm_l (wm_l (wm_i 4 rfl))))) (fun _ h9 => h9) rfl dX11_duties_309 ?_
        refine va_put (D := D) (ci := 11) (v := .int hfa) (ty := .int) (C := RX11) (T := TX11) (N := 64) hx hb hts inX11_duties_X11 tyX11 tyX11_ok nmX11 hown hK hP hD hS 2 rfl rfl 36 (by decide) (hts (Cond.fieldLink RX11 310 "PortRoomsModel" "latest" "I") (wm_t (wm_l (wm_l (wm_i 14 rfl))))) (fun _ h9 => h9) rfl (tyX11_ok 36 (by decide)) rfl rfl (Nat.le_of_ble_eq_true rfl) dX11_duties_312 (fun H locs => ?_)
        clear hP hD hS
        intro hP hD hS
        replace hP : va_P D vwCl [(aI cI (md 31) 36 mli), (aI cI (md 33) 36 mnlq), (moC md sd (0) mst hn cn pn mq gn mln hnn (0) hfa ln hcu htk hfr hti hfa hfb an un lc td mtn), (aI cI (md 34) 300 mtp)] H := hP
        replace hD : va_D A [(aI cI (md 31) 36 mli), (aI cI (md 33) 36 mnlq), (moC md sd (0) mst hn cn pn mq gn mln hnn (0) hfa ln hcu htk hfr hti hfa hfb an un lc td mtn), (aI cI (md 34) 300 mtp)] := hD
        refine lv_ldcw hx hb hown (hts (Cond.constant RX11 313 (-1000100)) (wm_t (wm_l (wm_l (wm_i 15 rfl))))) dX11_duties_315 ?_
        refine lv_aload_n hx hb dX11_duties_318 rfl (lv_at hl 0 rfl) ?_
        refine va_get (D := D) (ci := 11) (v := .int hfb) (C := RX11) (T := TX11) (N := 64) hx hb hts inX11_duties_X11 hown hK hP 2 rfl rfl 43 (by decide) (hts (Cond.fieldLink RX11 274 "PortRoomsModel" "faultAt" "I") (wm_t (wm_l (wm_l (wm_i 16 rfl))))) (fun _ h9 => h9) rfl dX11_duties_319 ?_
        refine lv_isub hx hb dX11_duties_322 ?_
        refine lv_topi (fun v33 ev33 => ?_)
        have hP9 := hP.sub (ws' := [(moC md sd (0) mst hn cn pn mq gn mln hnn (0) hfa ln hcu htk hfr hti hfa hfb an un lc td mtn), (aI cI (md 31) 36 mli), (aI cI (md 33) 36 mnlq), (aI cI (md 34) 300 mtp)]) [2, 0, 1, 3] rfl
        have hD9 := hD.sub (ws' := [(moC md sd (0) mst hn cn pn mq gn mln hnn (0) hfa ln hcu htk hfr hti hfa hfb an un lc td mtn), (aI cI (md 31) 36 mli), (aI cI (md 33) 36 mnlq), (aI cI (md 34) 300 mtp)]) [2, 0, 1, 3] (by decide +kernel) rfl
        exact W.iret (v := v33) hx hb hr (fun t ht hW => ⟨⟨v33, (mln, mli, hnn, mnlq, hfa, ln, hcu, htk, hfr, hti, hfa, hfb), rfl, (by show 0 ≤ mln.toInt ∧ mln.toInt ≤ 12; omega), by rw [ht]; exact hP9, va_K.moved hW.alike hK, hD9⟩, hS.F ht⟩) hS.2.2 dX11_duties_323
    · skip
      have f34 := i_eq c18
      refine lv_aload_n hx hb dX11_duties_44 rfl (lv_at hl 0 rfl) ?_
      refine va_get (D := D) (ci := 11) (v := .int htk) (C := RX11) (T := TX11) (N := 64) hx hb hts inX11_duties_X11 hown hK hP 2 rfl rfl 39 (by decide) (hts (Cond.fieldLink RX11 259 "PortRoomsModel" "token" "I") (wm_t (wm_l (wm_l (wm_i 6 rfl))))) (fun _ h9 => h9) rfl dX11_duties_45 ?_
      refine lv_iconst (v := 1) hx hb dX11_duties_48 (by decide) ?_
      refine lv_icmp_eq (tgt := 300) hx hb dX11_duties_49 (by decide) (fun c35 => ?_) (fun c35 => ?_)
      · skip
        have f36 := i_eq c35
        refine lv_aload_n hx hb dX11_duties_300 rfl (lv_at hl 0 rfl) ?_
        refine va_get (D := D) (ci := 11) (v := .int hfa) (C := RX11) (T := TX11) (N := 64) hx hb hts inX11_duties_X11 hown hK hP 2 rfl rfl 42 (by decide) (hts (Cond.fieldLink RX11 271 "PortRoomsModel" "fault" "I") (wm_t (wm_l (wm_l (wm_i 4 rfl))))) (fun _ h9 => h9) rfl dX11_duties_301 ?_
        refine lv_if_le (tgt := 324) hx hb dX11_duties_304 (by decide) (fun c37 => ?_) (fun c37 => ?_)
        · skip
          have f38 := i_le c37
          refine lv_aload_n hx hb dX11_duties_324 rfl (lv_at hl 0 rfl) ?_
          refine lv_aload_n hx hb dX11_duties_325 rfl (lv_at hl 0 rfl) ?_
          refine va_get (D := D) (ci := 11) (v := .int hnn) (C := RX11) (T := TX11) (N := 64) hx hb hts inX11_duties_X11 hown hK hP 2 rfl rfl 32 (by decide) (hts (Cond.fieldLink RX11 287 "PortRoomsModel" "newLines" "I") (wm_t (wm_l (wm_l (wm_i 5 rfl))))) (fun _ h9 => h9) rfl dX11_duties_326 ?_
          refine va_put (D := D) (ci := 11) (v := .int hnn) (ty := .int) (C := RX11) (T := TX11) (N := 64) hx hb hts inX11_duties_X11 tyX11 tyX11_ok nmX11 hown hK hP hD hS 2 rfl rfl 30 (by decide) (hts (Cond.fieldLink RX11 314 "PortRoomsModel" "lines" "I") (wm_t (wm_l (wm_l (wm_i 17 rfl))))) (fun _ h9 => h9) rfl (tyX11_ok 30 (by decide)) rfl rfl (Nat.le_of_ble_eq_true rfl) dX11_duties_329 (fun H locs => ?_)
          clear hP hD hS
          intro hP hD hS
          replace hP : va_P D vwCl [(aI cI (md 31) 36 mli), (aI cI (md 33) 36 mnlq), (moC md sd (0) mst hn cn pn mq gn hnn hnn (0) mlt ln hcu htk hfr hti hfa hfb an un lc td mtn), (aI cI (md 34) 300 mtp)] H := hP
          replace hD : va_D A [(aI cI (md 31) 36 mli), (aI cI (md 33) 36 mnlq), (moC md sd (0) mst hn cn pn mq gn hnn hnn (0) mlt ln hcu htk hfr hti hfa hfb an un lc td mtn), (aI cI (md 34) 300 mtp)] := hD
          refine lv_iconst (v := 0) hx hb dX11_duties_332 (by decide) ?_
          refine lv_istore_n (lv' := [(1, .int 0), (0, .ref (md 64))]) hx hb dX11_duties_333 rfl hl (by decide) rfl (fun ls hl => ?_)
          refine st_loop 334 (fun _ => []) (fun (z : Int32 × (Nat → Int32)) (ls : Array Slot) (H : Heap) (locs : List Loc) => match z with | (q334_1, mliq) => (0 ≤ q334_1.toInt) ∧ (q334_1.toInt ≤ 36) ∧ lv_has ls 6 [(0, .ref (md 64)), (1, .int q334_1)] ∧ va_P D vwCl [(aI cI (md 31) 36 mliq), (aI cI (md 33) 36 mnlq), (moC md sd (0) mst hn cn pn mq gn hnn hnn (0) mlt ln hcu htk hfr hti hfa hfb an un lc td mtn), (aI cI (md 34) 300 mtp)] H ∧ va_D A [(aI cI (md 31) 36 mliq), (aI cI (md 33) 36 mnlq), (moC md sd (0) mst hn cn pn mq gn hnn hnn (0) mlt ln hcu htk hfr hti hfa hfb an un lc td mtn), (aI cI (md 34) 300 mtp)] ∧ va_S A s.heap H locs) (fun (z : Int32 × (Nat → Int32)) => match z with | (q334_1, mliq) => 36 - q334_1.toInt) ?_ ?_ ((0 : Int32), mli) ⟨(by omega), (by omega), lv_sub hl [1, 0] rfl, hP, hD, hS⟩
          · rintro ⟨q334_1, mliq⟩ ls H locs ⟨g39, g40, hl, hP, hD, hS⟩
            show (0 : Int) ≤ 36 - q334_1.toInt
            omega
          · rintro n43 ih41 ⟨q334_1, mliq⟩ ls H locs ⟨g39, g40, hl, hP, hD, hS⟩ hm42
            have hm42 : 36 - q334_1.toInt < (n43 : Int) + 1 := hm42
            replace hl : lv_has ls 6 [(0, .ref (md 64)), (1, .int q334_1)] := hl
            replace hP : va_P D vwCl [(aI cI (md 31) 36 mliq), (aI cI (md 33) 36 mnlq), (moC md sd (0) mst hn cn pn mq gn hnn hnn (0) mlt ln hcu htk hfr hti hfa hfb an un lc td mtn), (aI cI (md 34) 300 mtp)] H := hP
            replace hD : va_D A [(aI cI (md 31) 36 mliq), (aI cI (md 33) 36 mnlq), (moC md sd (0) mst hn cn pn mq gn hnn hnn (0) mlt ln hcu htk hfr hti hfa hfb an un lc td mtn), (aI cI (md 34) 300 mtp)] := hD
            show W _ _ _ _ _ _ _ _ _ _ _ _ _ _ _ (F0 m 334 ls [])
            refine lv_iload_n hx hb dX11_duties_334 rfl (lv_at hl 1 rfl) ?_
            refine lv_bipush (v := 36) hx hb dX11_duties_335 (by decide) ?_
            refine lv_icmp_ge (tgt := 358) hx hb dX11_duties_337 (by decide) (fun c44 => ?_) (fun c44 => ?_)
            · skip
              have f45 := i_le c44
              refine lv_aload_n hx hb dX11_duties_358 rfl (lv_at hl 0 rfl) ?_
              refine va_get (D := D) (ci := 11) (v := .int hnn) (C := RX11) (T := TX11) (N := 64) hx hb hts inX11_duties_X11 hown hK hP 2 rfl rfl 30 (by decide) (hts (Cond.fieldLink RX11 314 "PortRoomsModel" "lines" "I") (wm_t (wm_l (wm_l (wm_i 17 rfl))))) (fun _ h9 => h9) rfl dX11_duties_359 ?_
              have hP9 := hP.sub (ws' := [(moC md sd (0) mst hn cn pn mq gn hnn hnn (0) mlt ln hcu htk hfr hti hfa hfb an un lc td mtn), (aI cI (md 31) 36 mliq), (aI cI (md 33) 36 mnlq), (aI cI (md 34) 300 mtp)]) [2, 0, 1, 3] rfl
              have hD9 := hD.sub (ws' := [(moC md sd (0) mst hn cn pn mq gn hnn hnn (0) mlt ln hcu htk hfr hti hfa hfb an un lc td mtn), (aI cI (md 31) 36 mliq), (aI cI (md 33) 36 mnlq), (aI cI (md 34) 300 mtp)]) [2, 0, 1, 3] (by decide +kernel) rfl
              exact W.iret (v := hnn) hx hb hr (fun t ht hW => ⟨⟨hnn, (hnn, mliq, hnn, mnlq, mlt, ln, hcu, htk, hfr, hti, hfa, hfb), rfl, (by show 0 ≤ hnn.toInt ∧ hnn.toInt ≤ 12; omega), by rw [ht]; exact hP9, va_K.moved hW.alike hK, hD9⟩, hS.F ht⟩) hS.2.2 dX11_duties_362
            · skip
              have f46 := i_nle c44
              refine lv_aload_n hx hb dX11_duties_340 rfl (lv_at hl 0 rfl) ?_
              refine va_get (D := D) (ci := 11) (v := .ref (md 31)) (C := RX11) (T := TX11) (N := 64) hx hb hts inX11_duties_X11 hown hK hP 2 rfl rfl 31 (by decide) (hts (Cond.fieldLink RX11 81 "PortRoomsModel" "line" "[I") (wm_t (wm_l (wm_l (wm_i 18 rfl))))) (fun _ h9 => h9) rfl dX11_duties_341 ?_
              refine lv_iload_n hx hb dX11_duties_344 rfl (lv_at hl 1 rfl) ?_
              refine lv_aload_n hx hb dX11_duties_345 rfl (lv_at hl 0 rfl) ?_
              refine va_get (D := D) (ci := 11) (v := .ref (md 33)) (C := RX11) (T := TX11) (N := 64) hx hb hts inX11_duties_X11 hown hK hP 2 rfl rfl 33 (by decide) (hts (Cond.fieldLink RX11 84 "PortRoomsModel" "newLine" "[I") (wm_t (wm_l (wm_l (wm_i 13 rfl))))) (fun _ h9 => h9) rfl dX11_duties_346 ?_
              refine lv_iload_n hx hb dX11_duties_349 rfl (lv_at hl 1 rfl) ?_
              refine va_iald hx hb hK hP 1 0 rfl rfl (i_in (by omega) (by omega)) dX11_duties_350 ?_
              refine lv_topi (fun v47 ev47 => ?_)
              refine va_iast hx hb hK hP hD hS 0 0 rfl rfl (i_in (by omega) (by omega)) dX11_duties_351 (fun H locs => ?_)
              clear hP hD hS
              intro hP hD hS
              replace hP : va_P D vwCl [(aI cI (md 31) 36 (upd mliq q334_1.toNatClampNeg v47)), (aI cI (md 33) 36 mnlq), (moC md sd (0) mst hn cn pn mq gn hnn hnn (0) mlt ln hcu htk hfr hti hfa hfb an un lc td mtn), (aI cI (md 34) 300 mtp)] H := hP
              replace hD : va_D A [(aI cI (md 31) 36 (upd mliq q334_1.toNatClampNeg v47)), (aI cI (md 33) 36 mnlq), (moC md sd (0) mst hn cn pn mq gn hnn hnn (0) mlt ln hcu htk hfr hti hfa hfb an un lc td mtn), (aI cI (md 34) 300 mtp)] := hD
              obtain ⟨v48, ev48⟩ : ∃ y : Int32, y = q334_1 + 1 := ⟨_, rfl⟩
              try have tv48 : v48.toInt = q334_1.toInt + 1 := by rw [ev48]; exact (i_add (x := q334_1) (y := (1 : Int32)) (by rw [k1]; omega) (by rw [k1]; omega)).trans (by rw [k1])
              refine lv_iinc (v := v48) (lv' := [(1, .int v48), (0, .ref (md 64))]) hx hb dX11_duties_352 hl (k := 1) rfl (by rw [ev48]; rfl) (by decide) rfl (fun ls hl => ?_)
              refine lv_goto (tgt := 334) hx hb dX11_duties_355 (by decide) ?_
              exact ih41 (v48, upd mliq q334_1.toNatClampNeg v47) ls H locs ⟨(by omega), (by omega), lv_sub hl [1, 0] rfl, hP.sub [0, 1, 2, 3] rfl, hD.sub [0, 1, 2, 3] (by decide +kernel) rfl, hS⟩ (by show 36 - v48.toInt < _; omega)
        · skip
          have f49 := i_nle c37
          refine lv_aload_n hx hb dX11_duties_307 rfl (lv_at hl 0 rfl) ?_
          refine lv_aload_n hx hb dX11_duties_308 rfl (lv_at hl 0 rfl) ?_
          refine va_get (D := D) (ci := 11) (v := .int hfa) (C := RX11) (T := TX11) (N := 64) hx hb hts inX11_duties_X11 hown hK hP 2 rfl rfl 42 (by decide) (hts (Cond.fieldLink RX11 271 "PortRoomsModel" "fault" "I") (wm_t (wm_l (wm_l (wm_i 4 rfl))))) (fun _ h9 => h9) rfl dX11_duties_309 ?_
          refine va_put (D := D) (ci := 11) (v := .int hfa) (ty := .int) (C := RX11) (T := TX11) (N := 64) hx hb hts inX11_duties_X11 tyX11 tyX11_ok nmX11 hown hK hP hD hS 2 rfl rfl 36 (by decide) (hts (Cond.fieldLink RX11 310 "PortRoomsModel" "latest" "I") (wm_t (wm_l (wm_l (wm_i 14 rfl))))) (fun _ h9 => h9) rfl (tyX11_ok 36 (by decide)) rfl rfl (Nat.le_of_ble_eq_true rfl) dX11_duties_312 (fun H locs => ?_)
          clear hP hD hS
          intro hP hD hS
          replace hP : va_P D vwCl [(aI cI (md 31) 36 mli), (aI cI (md 33) 36 mnlq), (moC md sd (0) mst hn cn pn mq gn mln hnn (0) hfa ln hcu htk hfr hti hfa hfb an un lc td mtn), (aI cI (md 34) 300 mtp)] H := hP
          replace hD : va_D A [(aI cI (md 31) 36 mli), (aI cI (md 33) 36 mnlq), (moC md sd (0) mst hn cn pn mq gn mln hnn (0) hfa ln hcu htk hfr hti hfa hfb an un lc td mtn), (aI cI (md 34) 300 mtp)] := hD
          refine lv_ldcw hx hb hown (hts (Cond.constant RX11 313 (-1000100)) (wm_t (wm_l (wm_l (wm_i 15 rfl))))) dX11_duties_315 ?_
          refine lv_aload_n hx hb dX11_duties_318 rfl (lv_at hl 0 rfl) ?_
          refine va_get (D := D) (ci := 11) (v := .int hfb) (C := RX11) (T := TX11) (N := 64) hx hb hts inX11_duties_X11 hown hK hP 2 rfl rfl 43 (by decide) (hts (Cond.fieldLink RX11 274 "PortRoomsModel" "faultAt" "I") (wm_t (wm_l (wm_l (wm_i 16 rfl))))) (fun _ h9 => h9) rfl dX11_duties_319 ?_
          refine lv_isub hx hb dX11_duties_322 ?_
          refine lv_topi (fun v50 ev50 => ?_)
          have hP9 := hP.sub (ws' := [(moC md sd (0) mst hn cn pn mq gn mln hnn (0) hfa ln hcu htk hfr hti hfa hfb an un lc td mtn), (aI cI (md 31) 36 mli), (aI cI (md 33) 36 mnlq), (aI cI (md 34) 300 mtp)]) [2, 0, 1, 3] rfl
          have hD9 := hD.sub (ws' := [(moC md sd (0) mst hn cn pn mq gn mln hnn (0) hfa ln hcu htk hfr hti hfa hfb an un lc td mtn), (aI cI (md 31) 36 mli), (aI cI (md 33) 36 mnlq), (aI cI (md 34) 300 mtp)]) [2, 0, 1, 3] (by decide +kernel) rfl
          exact W.iret (v := v50) hx hb hr (fun t ht hW => ⟨⟨v50, (mln, mli, hnn, mnlq, hfa, ln, hcu, htk, hfr, hti, hfa, hfb), rfl, (by show 0 ≤ mln.toInt ∧ mln.toInt ≤ 12; omega), by rw [ht]; exact hP9, va_K.moved hW.alike hK, hD9⟩, hS.F ht⟩) hS.2.2 dX11_duties_323
      · skip
        have f51 := i_ne c35
        refine lv_aload_n hx hb dX11_duties_52 rfl (lv_at hl 0 rfl) ?_
        refine st_l1 (va_runV (C := RX11) (As := []) (rest := []) ⟨hx, hb, hml, hown, hts⟩ (ct_X11_word l D cI cY cJ cQ _ md sd 0 mst hn cn pn mq gn mln hnn 0 mlt ln hcu htk hfr hti hfa hfb an un lc td mtn mtp (by omega) (by omega) (by omega)) (cwV 0 hts gX11_duties_X11_word rfl rfl rfl ⟨rfl, cdX11_word⟩ ⟨Nat.le_of_ble_eq_true rfl, Nat.le_of_ble_eq_true rfl⟩) (cPreV (hP.sub [2, 3] rfl) hK (hD.sub [2, 3] (by decide +kernel) rfl) hN (ci := 11) (q0 := 0) rfl rfl) rfl rfl hl.1 rfl (lv_room (Nat.le_of_ble_eq_true rfl)) dX11_duties_53 ⟨Nat.le_of_ble_eq_true rfl, Nat.le_of_ble_eq_true rfl⟩) hP hD hS hA [2, 3] rfl (fun _ => rfl) (fun r54 u52 H locs hw53 => ?_)
        clear hP hS
        intro hP hS
        replace hw53 : True := hw53
        refine lv_lstore_n (lv' := [(1, .long r54), (0, .ref (md 64))]) hx hb dX11_duties_56 rfl hl (by decide) rfl (fun ls hl => ?_)
        refine st_join 107 (fun (sk55 : Int32) => [.int sk55]) (fun (sk55 : Int32) (ls : Array Slot) (H : Heap) (locs : List Loc) => lv_has ls 6 [(0, .ref (md 64))] ∧ va_P D vwCl [(aI cI (md 31) 36 mli), (aI cI (md 33) 36 mnlq), (moC md sd (0) mst hn cn pn mq gn mln hnn (0) mlt ln hcu htk hfr hti hfa hfb an un lc td mtn), (aI cI (md 34) 300 mtp)] H ∧ va_D A [(aI cI (md 31) 36 mli), (aI cI (md 33) 36 mnlq), (moC md sd (0) mst hn cn pn mq gn mln hnn (0) mlt ln hcu htk hfr hti hfa hfb an un lc td mtn), (aI cI (md 34) 300 mtp)] ∧ va_S A s.heap H locs) ?_ ?_
        · rintro sk55 ls H locs ⟨hl, hP, hD, hS⟩
          replace hl : lv_has ls 6 [(0, .ref (md 64))] := hl
          replace hP : va_P D vwCl [(aI cI (md 31) 36 mli), (aI cI (md 33) 36 mnlq), (moC md sd (0) mst hn cn pn mq gn mln hnn (0) mlt ln hcu htk hfr hti hfa hfb an un lc td mtn), (aI cI (md 34) 300 mtp)] H := hP
          replace hD : va_D A [(aI cI (md 31) 36 mli), (aI cI (md 33) 36 mnlq), (moC md sd (0) mst hn cn pn mq gn mln hnn (0) mlt ln hcu htk hfr hti hfa hfb an un lc td mtn), (aI cI (md 34) 300 mtp)] := hD
          show W _ _ _ _ _ _ _ _ _ _ _ _ _ _ _ (F0 m 107 ls [.int sk55])
          refine lv_istore_n (lv' := [(3, .int sk55), (0, .ref (md 64))]) hx hb dX11_duties_107 rfl hl (by decide) rfl (fun ls hl => ?_)
          refine st_join 128 (fun (z : Int32 × Int32) => match z with | (jfa, jfb) => []) (fun (z : Int32 × Int32) (ls : Array Slot) (H : Heap) (locs : List Loc) => match z with | (jfa, jfb) => ((jfa.toInt = 0 ∧ (sk55.toInt = -1000000 ∨ ¬ hnn.toInt = 12)) ∨ ¬ jfa.toInt = 0) ∧ lv_has ls 6 [(0, .ref (md 64)), (3, .int sk55)] ∧ va_P D vwCl [(aI cI (md 31) 36 mli), (aI cI (md 33) 36 mnlq), (moC md sd (0) mst hn cn pn mq gn mln hnn (0) mlt ln hcu htk hfr hti jfa jfb an un lc td mtn), (aI cI (md 34) 300 mtp)] H ∧ va_D A [(aI cI (md 31) 36 mli), (aI cI (md 33) 36 mnlq), (moC md sd (0) mst hn cn pn mq gn mln hnn (0) mlt ln hcu htk hfr hti jfa jfb an un lc td mtn), (aI cI (md 34) 300 mtp)] ∧ va_S A s.heap H locs) ?_ ?_
          · rintro ⟨jfa, jfb⟩ ls H locs ⟨g57, hl, hP, hD, hS⟩
            replace hl : lv_has ls 6 [(0, .ref (md 64)), (3, .int sk55)] := hl
            replace hP : va_P D vwCl [(aI cI (md 31) 36 mli), (aI cI (md 33) 36 mnlq), (moC md sd (0) mst hn cn pn mq gn mln hnn (0) mlt ln hcu htk hfr hti jfa jfb an un lc td mtn), (aI cI (md 34) 300 mtp)] H := hP
            replace hD : va_D A [(aI cI (md 31) 36 mli), (aI cI (md 33) 36 mnlq), (moC md sd (0) mst hn cn pn mq gn mln hnn (0) mlt ln hcu htk hfr hti jfa jfb an un lc td mtn), (aI cI (md 34) 300 mtp)] := hD
            show W _ _ _ _ _ _ _ _ _ _ _ _ _ _ _ (F0 m 128 ls [])
            refine st_join 143 (fun (z : Int32 × Int32 × Int32 × Int32 × Int32 × Int32) => match z with | (kcu, ktk, kfr, kti, kfa, kfb) => []) (fun (z : Int32 × Int32 × Int32 × Int32 × Int32 × Int32) (ls : Array Slot) (H : Heap) (locs : List Loc) => match z with | (kcu, ktk, kfr, kti, kfa, kfb) => (0 ≤ kfr.toInt) ∧ (kfr.toInt ≤ kcu.toInt) ∧ (kcu.toInt ≤ ln.toInt) ∧ (kti.toInt = kcu.toInt) ∧ (¬ kfa.toInt = 0 ∨ ktk.toInt = 1 ∨ kfr.toInt < kcu.toInt) ∧ (hfr.toInt ≤ kfr.toInt) ∧ (¬ kfa.toInt = 0 ∨ (¬ hnn.toInt = 12 ∧ hfr.toInt < kfr.toInt)) ∧ lv_has ls 6 [(0, .ref (md 64)), (3, .int sk55)] ∧ va_P D vwCl [(aI cI (md 31) 36 mli), (aI cI (md 33) 36 mnlq), (moC md sd (0) mst hn cn pn mq gn mln hnn (0) mlt ln kcu ktk kfr kti kfa kfb an un lc td mtn), (aI cI (md 34) 300 mtp)] H ∧ va_D A [(aI cI (md 31) 36 mli), (aI cI (md 33) 36 mnlq), (moC md sd (0) mst hn cn pn mq gn mln hnn (0) mlt ln kcu ktk kfr kti kfa kfb an un lc td mtn), (aI cI (md 34) 300 mtp)] ∧ va_S A s.heap H locs) ?_ ?_
            · rintro ⟨kcu, ktk, kfr, kti, kfa, kfb⟩ ls H locs ⟨g59, g60, g61, g62, g63, g64, g65, hl, hP, hD, hS⟩
              replace hl : lv_has ls 6 [(0, .ref (md 64)), (3, .int sk55)] := hl
              replace hP : va_P D vwCl [(aI cI (md 31) 36 mli), (aI cI (md 33) 36 mnlq), (moC md sd (0) mst hn cn pn mq gn mln hnn (0) mlt ln kcu ktk kfr kti kfa kfb an un lc td mtn), (aI cI (md 34) 300 mtp)] H := hP
              replace hD : va_D A [(aI cI (md 31) 36 mli), (aI cI (md 33) 36 mnlq), (moC md sd (0) mst hn cn pn mq gn mln hnn (0) mlt ln kcu ktk kfr kti kfa kfb an un lc td mtn), (aI cI (md 34) 300 mtp)] := hD
              show W _ _ _ _ _ _ _ _ _ _ _ _ _ _ _ (F0 m 143 ls [])
              refine lv_iconst (v := (-1)) hx hb dX11_duties_143 (by decide) ?_
              refine lv_istore (lv' := [(4, .int (-1)), (0, .ref (md 64)), (3, .int sk55)]) hx hb dX11_duties_144 hl (by decide) rfl (fun ls hl => ?_)
              refine st_join 175 (fun (z : Int32 × Int32 × Int32 × Int32 × Int32 × Int32 × Int32) => match z with | (jdays, lcu, ltk, lfr, lti, lfa, lfb) => []) (fun (z : Int32 × Int32 × Int32 × Int32 × Int32 × Int32 × Int32) (ls : Array Slot) (H : Heap) (locs : List Loc) => match z with | (jdays, lcu, ltk, lfr, lti, lfa, lfb) => (0 ≤ lfr.toInt) ∧ (lfr.toInt ≤ lcu.toInt) ∧ (lcu.toInt ≤ ln.toInt) ∧ (lti.toInt = lcu.toInt) ∧ (¬ lfa.toInt = 0 ∨ ltk.toInt = 1 ∨ lfr.toInt < lcu.toInt) ∧ (hfr.toInt ≤ lfr.toInt) ∧ (¬ lfa.toInt = 0 ∨ (¬ hnn.toInt = 12 ∧ hfr.toInt < lfr.toInt)) ∧ lv_has ls 6 [(0, .ref (md 64)), (3, .int sk55), (4, .int jdays)] ∧ va_P D vwCl [(aI cI (md 31) 36 mli), (aI cI (md 33) 36 mnlq), (moC md sd (0) mst hn cn pn mq gn mln hnn (0) mlt ln lcu ltk lfr lti lfa lfb an un lc td mtn), (aI cI (md 34) 300 mtp)] H ∧ va_D A [(aI cI (md 31) 36 mli), (aI cI (md 33) 36 mnlq), (moC md sd (0) mst hn cn pn mq gn mln hnn (0) mlt ln lcu ltk lfr lti lfa lfb an un lc td mtn), (aI cI (md 34) 300 mtp)] ∧ va_S A s.heap H locs) ?_ ?_
              · rintro ⟨jdays, lcu, ltk, lfr, lti, lfa, lfb⟩ ls H locs ⟨g67, g68, g69, g70, g71, g72, g73, hl, hP, hD, hS⟩
                replace hl : lv_has ls 6 [(0, .ref (md 64)), (3, .int sk55), (4, .int jdays)] := hl
                replace hP : va_P D vwCl [(aI cI (md 31) 36 mli), (aI cI (md 33) 36 mnlq), (moC md sd (0) mst hn cn pn mq gn mln hnn (0) mlt ln lcu ltk lfr lti lfa lfb an un lc td mtn), (aI cI (md 34) 300 mtp)] H := hP
                replace hD : va_D A [(aI cI (md 31) 36 mli), (aI cI (md 33) 36 mnlq), (moC md sd (0) mst hn cn pn mq gn mln hnn (0) mlt ln lcu ltk lfr lti lfa lfb an un lc td mtn), (aI cI (md 34) 300 mtp)] := hD
                show W _ _ _ _ _ _ _ _ _ _ _ _ _ _ _ (F0 m 175 ls [])
                refine st_join 202 (fun (z : Int32 × Int32 × Int32 × Int32 × Int32 × Int32) => match z with | (ocu, otk, ofr, oti, ofa, ofb) => []) (fun (z : Int32 × Int32 × Int32 × Int32 × Int32 × Int32) (ls : Array Slot) (H : Heap) (locs : List Loc) => match z with | (ocu, otk, ofr, oti, ofa, ofb) => (0 ≤ ofr.toInt) ∧ (ofr.toInt ≤ ocu.toInt) ∧ (ocu.toInt ≤ ln.toInt) ∧ (oti.toInt = ocu.toInt) ∧ (¬ ofa.toInt = 0 ∨ otk.toInt = 1 ∨ ofr.toInt < ocu.toInt) ∧ (hfr.toInt ≤ ofr.toInt) ∧ (¬ ofa.toInt = 0 ∨ (¬ hnn.toInt = 12 ∧ hfr.toInt < ofr.toInt)) ∧ lv_has ls 6 [(0, .ref (md 64)), (3, .int sk55), (4, .int jdays)] ∧ va_P D vwCl [(aI cI (md 31) 36 mli), (aI cI (md 33) 36 mnlq), (moC md sd (0) mst hn cn pn mq gn mln hnn (0) mlt ln ocu otk ofr oti ofa ofb an un lc td mtn), (aI cI (md 34) 300 mtp)] H ∧ va_D A [(aI cI (md 31) 36 mli), (aI cI (md 33) 36 mnlq), (moC md sd (0) mst hn cn pn mq gn mln hnn (0) mlt ln ocu otk ofr oti ofa ofb an un lc td mtn), (aI cI (md 34) 300 mtp)] ∧ va_S A s.heap H locs) ?_ ?_
                · rintro ⟨ocu, otk, ofr, oti, ofa, ofb⟩ ls H locs ⟨g75, g76, g77, g78, g79, g80, g81, hl, hP, hD, hS⟩
                  replace hl : lv_has ls 6 [(0, .ref (md 64)), (3, .int sk55), (4, .int jdays)] := hl
                  replace hP : va_P D vwCl [(aI cI (md 31) 36 mli), (aI cI (md 33) 36 mnlq), (moC md sd (0) mst hn cn pn mq gn mln hnn (0) mlt ln ocu otk ofr oti ofa ofb an un lc td mtn), (aI cI (md 34) 300 mtp)] H := hP
                  replace hD : va_D A [(aI cI (md 31) 36 mli), (aI cI (md 33) 36 mnlq), (moC md sd (0) mst hn cn pn mq gn mln hnn (0) mlt ln ocu otk ofr oti ofa ofb an un lc td mtn), (aI cI (md 34) 300 mtp)] := hD
                  show W _ _ _ _ _ _ _ _ _ _ _ _ _ _ _ (F0 m 202 ls [])
                  refine st_join 219 (fun (z : Int32 × Int32 × Int32 × Int32 × Int32 × Int32 × Int32) => match z with | (pcu, ptk, pfr, pti, pfa, pfb, sk83) => [.int sk83]) (fun (z : Int32 × Int32 × Int32 × Int32 × Int32 × Int32 × Int32) (ls : Array Slot) (H : Heap) (locs : List Loc) => match z with | (pcu, ptk, pfr, pti, pfa, pfb, sk83) => (0 ≤ pfr.toInt) ∧ (pfr.toInt ≤ pcu.toInt) ∧ (pcu.toInt ≤ ln.toInt) ∧ (pti.toInt = pcu.toInt) ∧ (¬ pfa.toInt = 0 ∨ ptk.toInt = 1 ∨ pfr.toInt < pcu.toInt) ∧ (hfr.toInt ≤ pfr.toInt) ∧ (¬ pfa.toInt = 0 ∨ (¬ hnn.toInt = 12 ∧ hfr.toInt < pfr.toInt)) ∧ lv_has ls 6 [(0, .ref (md 64)), (3, .int sk55), (4, .int jdays)] ∧ va_P D vwCl [(aI cI (md 31) 36 mli), (aI cI (md 33) 36 mnlq), (moC md sd (0) mst hn cn pn mq gn mln hnn (0) mlt ln pcu ptk pfr pti pfa pfb an un lc td mtn), (aI cI (md 34) 300 mtp)] H ∧ va_D A [(aI cI (md 31) 36 mli), (aI cI (md 33) 36 mnlq), (moC md sd (0) mst hn cn pn mq gn mln hnn (0) mlt ln pcu ptk pfr pti pfa pfb an un lc td mtn), (aI cI (md 34) 300 mtp)] ∧ va_S A s.heap H locs) ?_ ?_
                  · rintro ⟨pcu, ptk, pfr, pti, pfa, pfb, sk83⟩ ls H locs ⟨g84, g85, g86, g87, g88, g89, g90, hl, hP, hD, hS⟩
                    replace hl : lv_has ls 6 [(0, .ref (md 64)), (3, .int sk55), (4, .int jdays)] := hl
                    replace hP : va_P D vwCl [(aI cI (md 31) 36 mli), (aI cI (md 33) 36 mnlq), (moC md sd (0) mst hn cn pn mq gn mln hnn (0) mlt ln pcu ptk pfr pti pfa pfb an un lc td mtn), (aI cI (md 34) 300 mtp)] H := hP
                    replace hD : va_D A [(aI cI (md 31) 36 mli), (aI cI (md 33) 36 mnlq), (moC md sd (0) mst hn cn pn mq gn mln hnn (0) mlt ln pcu ptk pfr pti pfa pfb an un lc td mtn), (aI cI (md 34) 300 mtp)] := hD
                    show W _ _ _ _ _ _ _ _ _ _ _ _ _ _ _ (F0 m 219 ls [.int sk83])
                    refine lv_istore (lv' := [(5, .int sk83), (0, .ref (md 64)), (3, .int sk55), (4, .int jdays)]) hx hb dX11_duties_219 hl (by decide) rfl (fun ls hl => ?_)
                    refine st_join 238 (fun (z : Int32 × Int32 × Int32 × Int32 × Int32 × Int32) => match z with | (ycu, ytk, yfr, yti, yfa, yfb) => []) (fun (z : Int32 × Int32 × Int32 × Int32 × Int32 × Int32) (ls : Array Slot) (H : Heap) (locs : List Loc) => match z with | (ycu, ytk, yfr, yti, yfa, yfb) => (0 ≤ yfr.toInt) ∧ (yfr.toInt ≤ ycu.toInt) ∧ (ycu.toInt ≤ ln.toInt) ∧ (yti.toInt = ycu.toInt) ∧ (¬ yfa.toInt = 0 ∨ ytk.toInt = 1 ∨ yfr.toInt < ycu.toInt) ∧ (hfr.toInt ≤ yfr.toInt) ∧ (¬ yfa.toInt = 0 ∨ (¬ hnn.toInt = 12 ∧ hfr.toInt < yfr.toInt)) ∧ lv_has ls 6 [(0, .ref (md 64)), (3, .int sk55), (4, .int jdays), (5, .int sk83)] ∧ va_P D vwCl [(aI cI (md 31) 36 mli), (aI cI (md 33) 36 mnlq), (moC md sd (0) mst hn cn pn mq gn mln hnn (0) mlt ln ycu ytk yfr yti yfa yfb an un lc td mtn), (aI cI (md 34) 300 mtp)] H ∧ va_D A [(aI cI (md 31) 36 mli), (aI cI (md 33) 36 mnlq), (moC md sd (0) mst hn cn pn mq gn mln hnn (0) mlt ln ycu ytk yfr yti yfa yfb an un lc td mtn), (aI cI (md 34) 300 mtp)] ∧ va_S A s.heap H locs) ?_ ?_
                    · rintro ⟨ycu, ytk, yfr, yti, yfa, yfb⟩ ls H locs ⟨g92, g93, g94, g95, g96, g97, g98, hl, hP, hD, hS⟩
                      replace hl : lv_has ls 6 [(0, .ref (md 64)), (3, .int sk55), (4, .int jdays), (5, .int sk83)] := hl
                      replace hP : va_P D vwCl [(aI cI (md 31) 36 mli), (aI cI (md 33) 36 mnlq), (moC md sd (0) mst hn cn pn mq gn mln hnn (0) mlt ln ycu ytk yfr yti yfa yfb an un lc td mtn), (aI cI (md 34) 300 mtp)] H := hP
                      replace hD : va_D A [(aI cI (md 31) 36 mli), (aI cI (md 33) 36 mnlq), (moC md sd (0) mst hn cn pn mq gn mln hnn (0) mlt ln ycu ytk yfr yti yfa yfb an un lc td mtn), (aI cI (md 34) 300 mtp)] := hD
                      show W _ _ _ _ _ _ _ _ _ _ _ _ _ _ _ (F0 m 238 ls [])
                      refine lv_aload_n hx hb dX11_duties_238 rfl (lv_at hl 0 rfl) ?_
                      refine va_get (D := D) (ci := 11) (v := .int yfa) (C := RX11) (T := TX11) (N := 64) hx hb hts inX11_duties_X11 hown hK hP 2 rfl rfl 42 (by decide) (hts (Cond.fieldLink RX11 271 "PortRoomsModel" "fault" "I") (wm_t (wm_l (wm_l (wm_i 4 rfl))))) (fun _ h9 => h9) rfl dX11_duties_239 ?_
                      refine lv_if_ne (tgt := 297) hx hb dX11_duties_242 (by decide) (fun c100 => ?_) (fun c100 => ?_)
                      · skip
                        have f101 := i_ne c100
                        refine lv_goto (tgt := 37) hx hb dX11_duties_297 (by decide) ?_
                        refine lv_aload_n hx hb dX11_duties_37 rfl (lv_at hl 0 rfl) ?_
                        refine va_get (D := D) (ci := 11) (v := .int yfa) (C := RX11) (T := TX11) (N := 64) hx hb hts inX11_duties_X11 hown hK hP 2 rfl rfl 42 (by decide) (hts (Cond.fieldLink RX11 271 "PortRoomsModel" "fault" "I") (wm_t (wm_l (wm_l (wm_i 4 rfl))))) (fun _ h9 => h9) rfl dX11_duties_38 ?_
                        refine lv_if_ne (tgt := 300) hx hb dX11_duties_41 (by decide) (fun _ => ?_) (fun c102 => by exfalso; have h8 := i_eq c102; omega)
                        refine lv_aload_n hx hb dX11_duties_300 rfl (lv_at hl 0 rfl) ?_
                        refine va_get (D := D) (ci := 11) (v := .int yfa) (C := RX11) (T := TX11) (N := 64) hx hb hts inX11_duties_X11 hown hK hP 2 rfl rfl 42 (by decide) (hts (Cond.fieldLink RX11 271 "PortRoomsModel" "fault" "I") (wm_t (wm_l (wm_l (wm_i 4 rfl))))) (fun _ h9 => h9) rfl dX11_duties_301 ?_
                        refine lv_if_le (tgt := 324) hx hb dX11_duties_304 (by decide) (fun c103 => ?_) (fun c103 => ?_)
                        · skip
                          have f104 := i_le c103
                          refine lv_aload_n hx hb dX11_duties_324 rfl (lv_at hl 0 rfl) ?_
                          refine lv_aload_n hx hb dX11_duties_325 rfl (lv_at hl 0 rfl) ?_
                          refine va_get (D := D) (ci := 11) (v := .int hnn) (C := RX11) (T := TX11) (N := 64) hx hb hts inX11_duties_X11 hown hK hP 2 rfl rfl 32 (by decide) (hts (Cond.fieldLink RX11 287 "PortRoomsModel" "newLines" "I") (wm_t (wm_l (wm_l (wm_i 5 rfl))))) (fun _ h9 => h9) rfl dX11_duties_326 ?_
                          refine va_put (D := D) (ci := 11) (v := .int hnn) (ty := .int) (C := RX11) (T := TX11) (N := 64) hx hb hts inX11_duties_X11 tyX11 tyX11_ok nmX11 hown hK hP hD hS 2 rfl rfl 30 (by decide) (hts (Cond.fieldLink RX11 314 "PortRoomsModel" "lines" "I") (wm_t (wm_l (wm_l (wm_i 17 rfl))))) (fun _ h9 => h9) rfl (tyX11_ok 30 (by decide)) rfl rfl (Nat.le_of_ble_eq_true rfl) dX11_duties_329 (fun H locs => ?_)
                          clear hP hD hS
                          intro hP hD hS
                          replace hP : va_P D vwCl [(aI cI (md 31) 36 mli), (aI cI (md 33) 36 mnlq), (moC md sd (0) mst hn cn pn mq gn hnn hnn (0) mlt ln ycu ytk yfr yti yfa yfb an un lc td mtn), (aI cI (md 34) 300 mtp)] H := hP
                          replace hD : va_D A [(aI cI (md 31) 36 mli), (aI cI (md 33) 36 mnlq), (moC md sd (0) mst hn cn pn mq gn hnn hnn (0) mlt ln ycu ytk yfr yti yfa yfb an un lc td mtn), (aI cI (md 34) 300 mtp)] := hD
                          refine lv_iconst (v := 0) hx hb dX11_duties_332 (by decide) ?_
                          refine lv_istore_n (lv' := [(1, .int 0), (0, .ref (md 64)), (3, .int sk55), (4, .int jdays), (5, .int sk83)]) hx hb dX11_duties_333 rfl hl (by decide) rfl (fun ls hl => ?_)
                          refine st_loop 334 (fun _ => []) (fun (z : Int32 × (Nat → Int32)) (ls : Array Slot) (H : Heap) (locs : List Loc) => match z with | (q334_1, mliq) => (0 ≤ q334_1.toInt) ∧ (q334_1.toInt ≤ 36) ∧ lv_has ls 6 [(0, .ref (md 64)), (1, .int q334_1), (3, .int sk55), (4, .int jdays), (5, .int sk83)] ∧ va_P D vwCl [(aI cI (md 31) 36 mliq), (aI cI (md 33) 36 mnlq), (moC md sd (0) mst hn cn pn mq gn hnn hnn (0) mlt ln ycu ytk yfr yti yfa yfb an un lc td mtn), (aI cI (md 34) 300 mtp)] H ∧ va_D A [(aI cI (md 31) 36 mliq), (aI cI (md 33) 36 mnlq), (moC md sd (0) mst hn cn pn mq gn hnn hnn (0) mlt ln ycu ytk yfr yti yfa yfb an un lc td mtn), (aI cI (md 34) 300 mtp)] ∧ va_S A s.heap H locs) (fun (z : Int32 × (Nat → Int32)) => match z with | (q334_1, mliq) => 36 - q334_1.toInt) ?_ ?_ ((0 : Int32), mli) ⟨(by omega), (by omega), lv_sub hl [1, 0, 2, 3, 4] rfl, hP, hD, hS⟩
                          · rintro ⟨q334_1, mliq⟩ ls H locs ⟨g105, g106, hl, hP, hD, hS⟩
                            show (0 : Int) ≤ 36 - q334_1.toInt
                            omega
                          · rintro n109 ih107 ⟨q334_1, mliq⟩ ls H locs ⟨g105, g106, hl, hP, hD, hS⟩ hm108
                            have hm108 : 36 - q334_1.toInt < (n109 : Int) + 1 := hm108
                            replace hl : lv_has ls 6 [(0, .ref (md 64)), (1, .int q334_1), (3, .int sk55), (4, .int jdays), (5, .int sk83)] := hl
                            replace hP : va_P D vwCl [(aI cI (md 31) 36 mliq), (aI cI (md 33) 36 mnlq), (moC md sd (0) mst hn cn pn mq gn hnn hnn (0) mlt ln ycu ytk yfr yti yfa yfb an un lc td mtn), (aI cI (md 34) 300 mtp)] H := hP
                            replace hD : va_D A [(aI cI (md 31) 36 mliq), (aI cI (md 33) 36 mnlq), (moC md sd (0) mst hn cn pn mq gn hnn hnn (0) mlt ln ycu ytk yfr yti yfa yfb an un lc td mtn), (aI cI (md 34) 300 mtp)] := hD
                            show W _ _ _ _ _ _ _ _ _ _ _ _ _ _ _ (F0 m 334 ls [])
                            refine lv_iload_n hx hb dX11_duties_334 rfl (lv_at hl 1 rfl) ?_
                            refine lv_bipush (v := 36) hx hb dX11_duties_335 (by decide) ?_
                            refine lv_icmp_ge (tgt := 358) hx hb dX11_duties_337 (by decide) (fun c110 => ?_) (fun c110 => ?_)
                            · skip
                              have f111 := i_le c110
                              refine lv_aload_n hx hb dX11_duties_358 rfl (lv_at hl 0 rfl) ?_
                              refine va_get (D := D) (ci := 11) (v := .int hnn) (C := RX11) (T := TX11) (N := 64) hx hb hts inX11_duties_X11 hown hK hP 2 rfl rfl 30 (by decide) (hts (Cond.fieldLink RX11 314 "PortRoomsModel" "lines" "I") (wm_t (wm_l (wm_l (wm_i 17 rfl))))) (fun _ h9 => h9) rfl dX11_duties_359 ?_
                              have hP9 := hP.sub (ws' := [(moC md sd (0) mst hn cn pn mq gn hnn hnn (0) mlt ln ycu ytk yfr yti yfa yfb an un lc td mtn), (aI cI (md 31) 36 mliq), (aI cI (md 33) 36 mnlq), (aI cI (md 34) 300 mtp)]) [2, 0, 1, 3] rfl
                              have hD9 := hD.sub (ws' := [(moC md sd (0) mst hn cn pn mq gn hnn hnn (0) mlt ln ycu ytk yfr yti yfa yfb an un lc td mtn), (aI cI (md 31) 36 mliq), (aI cI (md 33) 36 mnlq), (aI cI (md 34) 300 mtp)]) [2, 0, 1, 3] (by decide +kernel) rfl
                              exact W.iret (v := hnn) hx hb hr (fun t ht hW => ⟨⟨hnn, (hnn, mliq, hnn, mnlq, mlt, ln, ycu, ytk, yfr, yti, yfa, yfb), rfl, (by show 0 ≤ hnn.toInt ∧ hnn.toInt ≤ 12; omega), by rw [ht]; exact hP9, va_K.moved hW.alike hK, hD9⟩, hS.F ht⟩) hS.2.2 dX11_duties_362
                            · skip
                              have f112 := i_nle c110
                              refine lv_aload_n hx hb dX11_duties_340 rfl (lv_at hl 0 rfl) ?_
                              refine va_get (D := D) (ci := 11) (v := .ref (md 31)) (C := RX11) (T := TX11) (N := 64) hx hb hts inX11_duties_X11 hown hK hP 2 rfl rfl 31 (by decide) (hts (Cond.fieldLink RX11 81 "PortRoomsModel" "line" "[I") (wm_t (wm_l (wm_l (wm_i 18 rfl))))) (fun _ h9 => h9) rfl dX11_duties_341 ?_
                              refine lv_iload_n hx hb dX11_duties_344 rfl (lv_at hl 1 rfl) ?_
                              refine lv_aload_n hx hb dX11_duties_345 rfl (lv_at hl 0 rfl) ?_
                              refine va_get (D := D) (ci := 11) (v := .ref (md 33)) (C := RX11) (T := TX11) (N := 64) hx hb hts inX11_duties_X11 hown hK hP 2 rfl rfl 33 (by decide) (hts (Cond.fieldLink RX11 84 "PortRoomsModel" "newLine" "[I") (wm_t (wm_l (wm_l (wm_i 13 rfl))))) (fun _ h9 => h9) rfl dX11_duties_346 ?_
                              refine lv_iload_n hx hb dX11_duties_349 rfl (lv_at hl 1 rfl) ?_
                              refine va_iald hx hb hK hP 1 0 rfl rfl (i_in (by omega) (by omega)) dX11_duties_350 ?_
                              refine lv_topi (fun v113 ev113 => ?_)
                              refine va_iast hx hb hK hP hD hS 0 0 rfl rfl (i_in (by omega) (by omega)) dX11_duties_351 (fun H locs => ?_)
                              clear hP hD hS
                              intro hP hD hS
                              replace hP : va_P D vwCl [(aI cI (md 31) 36 (upd mliq q334_1.toNatClampNeg v113)), (aI cI (md 33) 36 mnlq), (moC md sd (0) mst hn cn pn mq gn hnn hnn (0) mlt ln ycu ytk yfr yti yfa yfb an un lc td mtn), (aI cI (md 34) 300 mtp)] H := hP
                              replace hD : va_D A [(aI cI (md 31) 36 (upd mliq q334_1.toNatClampNeg v113)), (aI cI (md 33) 36 mnlq), (moC md sd (0) mst hn cn pn mq gn hnn hnn (0) mlt ln ycu ytk yfr yti yfa yfb an un lc td mtn), (aI cI (md 34) 300 mtp)] := hD
                              obtain ⟨v114, ev114⟩ : ∃ y : Int32, y = q334_1 + 1 := ⟨_, rfl⟩
                              try have tv114 : v114.toInt = q334_1.toInt + 1 := by rw [ev114]; exact (i_add (x := q334_1) (y := (1 : Int32)) (by rw [k1]; omega) (by rw [k1]; omega)).trans (by rw [k1])
                              refine lv_iinc (v := v114) (lv' := [(1, .int v114), (0, .ref (md 64)), (3, .int sk55), (4, .int jdays), (5, .int sk83)]) hx hb dX11_duties_352 hl (k := 1) rfl (by rw [ev114]; rfl) (by decide) rfl (fun ls hl => ?_)
                              refine lv_goto (tgt := 334) hx hb dX11_duties_355 (by decide) ?_
                              exact ih107 (v114, upd mliq q334_1.toNatClampNeg v113) ls H locs ⟨(by omega), (by omega), lv_sub hl [1, 0, 2, 3, 4] rfl, hP.sub [0, 1, 2, 3] rfl, hD.sub [0, 1, 2, 3] (by decide +kernel) rfl, hS⟩ (by show 36 - v114.toInt < _; omega)
                        · skip
                          have f115 := i_nle c103
                          refine lv_aload_n hx hb dX11_duties_307 rfl (lv_at hl 0 rfl) ?_
                          refine lv_aload_n hx hb dX11_duties_308 rfl (lv_at hl 0 rfl) ?_
                          refine va_get (D := D) (ci := 11) (v := .int yfa) (C := RX11) (T := TX11) (N := 64) hx hb hts inX11_duties_X11 hown hK hP 2 rfl rfl 42 (by decide) (hts (Cond.fieldLink RX11 271 "PortRoomsModel" "fault" "I") (wm_t (wm_l (wm_l (wm_i 4 rfl))))) (fun _ h9 => h9) rfl dX11_duties_309 ?_
                          refine va_put (D := D) (ci := 11) (v := .int yfa) (ty := .int) (C := RX11) (T := TX11) (N := 64) hx hb hts inX11_duties_X11 tyX11 tyX11_ok nmX11 hown hK hP hD hS 2 rfl rfl 36 (by decide) (hts (Cond.fieldLink RX11 310 "PortRoomsModel" "latest" "I") (wm_t (wm_l (wm_l (wm_i 14 rfl))))) (fun _ h9 => h9) rfl (tyX11_ok 36 (by decide)) rfl rfl (Nat.le_of_ble_eq_true rfl) dX11_duties_312 (fun H locs => ?_)
                          clear hP hD hS
                          intro hP hD hS
                          replace hP : va_P D vwCl [(aI cI (md 31) 36 mli), (aI cI (md 33) 36 mnlq), (moC md sd (0) mst hn cn pn mq gn mln hnn (0) yfa ln ycu ytk yfr yti yfa yfb an un lc td mtn), (aI cI (md 34) 300 mtp)] H := hP
                          replace hD : va_D A [(aI cI (md 31) 36 mli), (aI cI (md 33) 36 mnlq), (moC md sd (0) mst hn cn pn mq gn mln hnn (0) yfa ln ycu ytk yfr yti yfa yfb an un lc td mtn), (aI cI (md 34) 300 mtp)] := hD
                          refine lv_ldcw hx hb hown (hts (Cond.constant RX11 313 (-1000100)) (wm_t (wm_l (wm_l (wm_i 15 rfl))))) dX11_duties_315 ?_
                          refine lv_aload_n hx hb dX11_duties_318 rfl (lv_at hl 0 rfl) ?_
                          refine va_get (D := D) (ci := 11) (v := .int yfb) (C := RX11) (T := TX11) (N := 64) hx hb hts inX11_duties_X11 hown hK hP 2 rfl rfl 43 (by decide) (hts (Cond.fieldLink RX11 274 "PortRoomsModel" "faultAt" "I") (wm_t (wm_l (wm_l (wm_i 16 rfl))))) (fun _ h9 => h9) rfl dX11_duties_319 ?_
                          refine lv_isub hx hb dX11_duties_322 ?_
                          refine lv_topi (fun v116 ev116 => ?_)
                          have hP9 := hP.sub (ws' := [(moC md sd (0) mst hn cn pn mq gn mln hnn (0) yfa ln ycu ytk yfr yti yfa yfb an un lc td mtn), (aI cI (md 31) 36 mli), (aI cI (md 33) 36 mnlq), (aI cI (md 34) 300 mtp)]) [2, 0, 1, 3] rfl
                          have hD9 := hD.sub (ws' := [(moC md sd (0) mst hn cn pn mq gn mln hnn (0) yfa ln ycu ytk yfr yti yfa yfb an un lc td mtn), (aI cI (md 31) 36 mli), (aI cI (md 33) 36 mnlq), (aI cI (md 34) 300 mtp)]) [2, 0, 1, 3] (by decide +kernel) rfl
                          exact W.iret (v := v116) hx hb hr (fun t ht hW => ⟨⟨v116, (mln, mli, hnn, mnlq, yfa, ln, ycu, ytk, yfr, yti, yfa, yfb), rfl, (by show 0 ≤ mln.toInt ∧ mln.toInt ≤ 12; omega), by rw [ht]; exact hP9, va_K.moved hW.alike hK, hD9⟩, hS.F ht⟩) hS.2.2 dX11_duties_323
                      · skip
                        have f117 := i_eq c100
                        refine lv_aload_n hx hb dX11_duties_245 rfl (lv_at hl 0 rfl) ?_
                        refine va_get (D := D) (ci := 11) (v := .ref (md 33)) (C := RX11) (T := TX11) (N := 64) hx hb hts inX11_duties_X11 hown hK hP 2 rfl rfl 33 (by decide) (hts (Cond.fieldLink RX11 84 "PortRoomsModel" "newLine" "[I") (wm_t (wm_l (wm_l (wm_i 13 rfl))))) (fun _ h9 => h9) rfl dX11_duties_246 ?_
                        refine lv_iconst (v := 3) hx hb dX11_duties_249 (by decide) ?_
                        refine lv_aload_n hx hb dX11_duties_250 rfl (lv_at hl 0 rfl) ?_
                        refine va_get (D := D) (ci := 11) (v := .int hnn) (C := RX11) (T := TX11) (N := 64) hx hb hts inX11_duties_X11 hown hK hP 2 rfl rfl 32 (by decide) (hts (Cond.fieldLink RX11 287 "PortRoomsModel" "newLines" "I") (wm_t (wm_l (wm_l (wm_i 5 rfl))))) (fun _ h9 => h9) rfl dX11_duties_251 ?_
                        refine lv_imul hx hb dX11_duties_254 ?_
                        refine lv_topi (fun v118 ev118 => ?_)
                        try have tv118 : v118.toInt = 3 * hnn.toInt := by rw [ev118]; exact (i_mul (x := (3 : Int32)) (y := hnn) (by rw [k3]; omega) (by rw [k3]; omega)).trans (by rw [k3])
                        refine lv_iload_n hx hb dX11_duties_255 rfl (lv_at hl 1 rfl) ?_
                        refine va_iast hx hb hK hP hD hS 1 0 rfl rfl (i_in (by omega) (by omega)) dX11_duties_256 (fun H locs => ?_)
                        clear hP hD hS
                        intro hP hD hS
                        replace hP : va_P D vwCl [(aI cI (md 31) 36 mli), (aI cI (md 33) 36 (upd mnlq v118.toNatClampNeg sk55)), (moC md sd (0) mst hn cn pn mq gn mln hnn (0) mlt ln ycu ytk yfr yti yfa yfb an un lc td mtn), (aI cI (md 34) 300 mtp)] H := hP
                        replace hD : va_D A [(aI cI (md 31) 36 mli), (aI cI (md 33) 36 (upd mnlq v118.toNatClampNeg sk55)), (moC md sd (0) mst hn cn pn mq gn mln hnn (0) mlt ln ycu ytk yfr yti yfa yfb an un lc td mtn), (aI cI (md 34) 300 mtp)] := hD
                        refine lv_aload_n hx hb dX11_duties_257 rfl (lv_at hl 0 rfl) ?_
                        refine va_get (D := D) (ci := 11) (v := .ref (md 33)) (C := RX11) (T := TX11) (N := 64) hx hb hts inX11_duties_X11 hown hK hP 2 rfl rfl 33 (by decide) (hts (Cond.fieldLink RX11 84 "PortRoomsModel" "newLine" "[I") (wm_t (wm_l (wm_l (wm_i 13 rfl))))) (fun _ h9 => h9) rfl dX11_duties_258 ?_
                        refine lv_iconst (v := 3) hx hb dX11_duties_261 (by decide) ?_
                        refine lv_aload_n hx hb dX11_duties_262 rfl (lv_at hl 0 rfl) ?_
                        refine va_get (D := D) (ci := 11) (v := .int hnn) (C := RX11) (T := TX11) (N := 64) hx hb hts inX11_duties_X11 hown hK hP 2 rfl rfl 32 (by decide) (hts (Cond.fieldLink RX11 287 "PortRoomsModel" "newLines" "I") (wm_t (wm_l (wm_l (wm_i 5 rfl))))) (fun _ h9 => h9) rfl dX11_duties_263 ?_
                        refine lv_imul hx hb dX11_duties_266 ?_
                        refine lv_topi (fun v119 ev119 => ?_)
                        try have tv119 : v119.toInt = 3 * hnn.toInt := by rw [ev119]; exact (i_mul (x := (3 : Int32)) (y := hnn) (by rw [k3]; omega) (by rw [k3]; omega)).trans (by rw [k3])
                        refine lv_iconst (v := 1) hx hb dX11_duties_267 (by decide) ?_
                        refine lv_iadd hx hb dX11_duties_268 ?_
                        refine lv_topi (fun v120 ev120 => ?_)
                        try have tv120 : v120.toInt = v119.toInt + 1 := by rw [ev120]; exact (i_add (x := v119) (y := (1 : Int32)) (by rw [k1]; omega) (by rw [k1]; omega)).trans (by rw [k1])
                        refine lv_iload hx hb dX11_duties_269 (lv_at hl 2 rfl) ?_
                        refine va_iast hx hb hK hP hD hS 1 0 rfl rfl (i_in (by omega) (by omega)) dX11_duties_271 (fun H locs => ?_)
                        clear hP hD hS
                        intro hP hD hS
                        replace hP : va_P D vwCl [(aI cI (md 31) 36 mli), (aI cI (md 33) 36 (upd (upd mnlq v118.toNatClampNeg sk55) v120.toNatClampNeg jdays)), (moC md sd (0) mst hn cn pn mq gn mln hnn (0) mlt ln ycu ytk yfr yti yfa yfb an un lc td mtn), (aI cI (md 34) 300 mtp)] H := hP
                        replace hD : va_D A [(aI cI (md 31) 36 mli), (aI cI (md 33) 36 (upd (upd mnlq v118.toNatClampNeg sk55) v120.toNatClampNeg jdays)), (moC md sd (0) mst hn cn pn mq gn mln hnn (0) mlt ln ycu ytk yfr yti yfa yfb an un lc td mtn), (aI cI (md 34) 300 mtp)] := hD
                        refine lv_aload_n hx hb dX11_duties_272 rfl (lv_at hl 0 rfl) ?_
                        refine va_get (D := D) (ci := 11) (v := .ref (md 33)) (C := RX11) (T := TX11) (N := 64) hx hb hts inX11_duties_X11 hown hK hP 2 rfl rfl 33 (by decide) (hts (Cond.fieldLink RX11 84 "PortRoomsModel" "newLine" "[I") (wm_t (wm_l (wm_l (wm_i 13 rfl))))) (fun _ h9 => h9) rfl dX11_duties_273 ?_
                        refine lv_iconst (v := 3) hx hb dX11_duties_276 (by decide) ?_
                        refine lv_aload_n hx hb dX11_duties_277 rfl (lv_at hl 0 rfl) ?_
                        refine va_get (D := D) (ci := 11) (v := .int hnn) (C := RX11) (T := TX11) (N := 64) hx hb hts inX11_duties_X11 hown hK hP 2 rfl rfl 32 (by decide) (hts (Cond.fieldLink RX11 287 "PortRoomsModel" "newLines" "I") (wm_t (wm_l (wm_l (wm_i 5 rfl))))) (fun _ h9 => h9) rfl dX11_duties_278 ?_
                        refine lv_imul hx hb dX11_duties_281 ?_
                        refine lv_topi (fun v121 ev121 => ?_)
                        try have tv121 : v121.toInt = 3 * hnn.toInt := by rw [ev121]; exact (i_mul (x := (3 : Int32)) (y := hnn) (by rw [k3]; omega) (by rw [k3]; omega)).trans (by rw [k3])
                        refine lv_iconst (v := 2) hx hb dX11_duties_282 (by decide) ?_
                        refine lv_iadd hx hb dX11_duties_283 ?_
                        refine lv_topi (fun v122 ev122 => ?_)
                        try have tv122 : v122.toInt = v121.toInt + 2 := by rw [ev122]; exact (i_add (x := v121) (y := (2 : Int32)) (by rw [k2]; omega) (by rw [k2]; omega)).trans (by rw [k2])
                        refine lv_iload hx hb dX11_duties_284 (lv_at hl 3 rfl) ?_
                        refine va_iast hx hb hK hP hD hS 1 0 rfl rfl (i_in (by omega) (by omega)) dX11_duties_286 (fun H locs => ?_)
                        clear hP hD hS
                        intro hP hD hS
                        replace hP : va_P D vwCl [(aI cI (md 31) 36 mli), (aI cI (md 33) 36 (upd (upd (upd mnlq v118.toNatClampNeg sk55) v120.toNatClampNeg jdays) v122.toNatClampNeg sk83)), (moC md sd (0) mst hn cn pn mq gn mln hnn (0) mlt ln ycu ytk yfr yti yfa yfb an un lc td mtn), (aI cI (md 34) 300 mtp)] H := hP
                        replace hD : va_D A [(aI cI (md 31) 36 mli), (aI cI (md 33) 36 (upd (upd (upd mnlq v118.toNatClampNeg sk55) v120.toNatClampNeg jdays) v122.toNatClampNeg sk83)), (moC md sd (0) mst hn cn pn mq gn mln hnn (0) mlt ln ycu ytk yfr yti yfa yfb an un lc td mtn), (aI cI (md 34) 300 mtp)] := hD
                        refine lv_aload_n hx hb dX11_duties_287 rfl (lv_at hl 0 rfl) ?_
                        refine lv_dup hx hb dX11_duties_288 rfl ?_
                        refine va_get (D := D) (ci := 11) (v := .int hnn) (C := RX11) (T := TX11) (N := 64) hx hb hts inX11_duties_X11 hown hK hP 2 rfl rfl 32 (by decide) (hts (Cond.fieldLink RX11 287 "PortRoomsModel" "newLines" "I") (wm_t (wm_l (wm_l (wm_i 5 rfl))))) (fun _ h9 => h9) rfl dX11_duties_289 ?_
                        refine lv_iconst (v := 1) hx hb dX11_duties_292 (by decide) ?_
                        refine lv_iadd hx hb dX11_duties_293 ?_
                        refine lv_topi (fun v123 ev123 => ?_)
                        try have tv123 : v123.toInt = hnn.toInt + 1 := by rw [ev123]; exact (i_add (x := hnn) (y := (1 : Int32)) (by rw [k1]; omega) (by rw [k1]; omega)).trans (by rw [k1])
                        refine va_put (D := D) (ci := 11) (v := .int v123) (ty := .int) (C := RX11) (T := TX11) (N := 64) hx hb hts inX11_duties_X11 tyX11 tyX11_ok nmX11 hown hK hP hD hS 2 rfl rfl 32 (by decide) (hts (Cond.fieldLink RX11 287 "PortRoomsModel" "newLines" "I") (wm_t (wm_l (wm_l (wm_i 5 rfl))))) (fun _ h9 => h9) rfl (tyX11_ok 32 (by decide)) rfl rfl (Nat.le_of_ble_eq_true rfl) dX11_duties_294 (fun H locs => ?_)
                        clear hP hD hS
                        intro hP hD hS
                        replace hP : va_P D vwCl [(aI cI (md 31) 36 mli), (aI cI (md 33) 36 (upd (upd (upd mnlq v118.toNatClampNeg sk55) v120.toNatClampNeg jdays) v122.toNatClampNeg sk83)), (moC md sd (0) mst hn cn pn mq gn mln v123 (0) mlt ln ycu ytk yfr yti yfa yfb an un lc td mtn), (aI cI (md 34) 300 mtp)] H := hP
                        replace hD : va_D A [(aI cI (md 31) 36 mli), (aI cI (md 33) 36 (upd (upd (upd mnlq v118.toNatClampNeg sk55) v120.toNatClampNeg jdays) v122.toNatClampNeg sk83)), (moC md sd (0) mst hn cn pn mq gn mln v123 (0) mlt ln ycu ytk yfr yti yfa yfb an un lc td mtn), (aI cI (md 34) 300 mtp)] := hD
                        refine lv_goto (tgt := 37) hx hb dX11_duties_297 (by decide) ?_
                        exact ih15 (upd (upd (upd mnlq v118.toNatClampNeg sk55) v120.toNatClampNeg jdays) v122.toNatClampNeg sk83, ycu, ytk, yfr, yti, yfa, yfb, v123) ls H locs ⟨(by omega), (by omega), (by omega), (by omega), (by omega), (by omega), (by omega), lv_sub hl [0] rfl, hP.sub [0, 1, 2, 3] rfl, hD.sub [0, 1, 2, 3] (by decide +kernel) rfl, hS⟩ (by show 301 - yfr.toInt < _; omega)
                    · intro hj99
                      refine lv_aload_n hx hb dX11_duties_221 rfl (lv_at hl 1 rfl) ?_
                      refine va_get (D := D) (ci := 11) (v := .int pfa) (C := RX11) (T := TX11) (N := 64) hx hb hts inX11_duties_X11 hown hK hP 2 rfl rfl 42 (by decide) (hts (Cond.fieldLink RX11 271 "PortRoomsModel" "fault" "I") (wm_t (wm_l (wm_l (wm_i 4 rfl))))) (fun _ h9 => h9) rfl dX11_duties_222 ?_
                      refine lv_if_ne (tgt := 238) hx hb dX11_duties_225 (by decide) (fun c124 => ?_) (fun c124 => ?_)
                      · skip
                        have f125 := i_ne c124
                        exact hj99 (pcu, ptk, pfr, pti, pfa, pfb) ls _ _ ⟨(by omega), (by omega), (by omega), (by omega), (by omega), (by omega), (by omega), lv_sub hl [1, 2, 3, 0] rfl, hP.sub [0, 1, 2, 3] rfl, hD.sub [0, 1, 2, 3] (by decide +kernel) rfl, hS⟩
                      · skip
                        have f126 := i_eq c124
                        refine lv_aload_n hx hb dX11_duties_228 rfl (lv_at hl 1 rfl) ?_
                        refine lv_aload_n hx hb dX11_duties_229 rfl (lv_at hl 1 rfl) ?_
                        refine lv_bipush (v := 59) hx hb dX11_duties_230 (by decide) ?_
                        refine st_i1 (va_runV (C := RX11) (As := [.int 59]) (rest := [.ref (md 64)]) ⟨hx, hb, hml, hown, hts⟩ (ct_X11_is l D cI cY cJ cQ _ md sd 0 mst hn cn pn mq gn mln hnn 0 mlt ln pcu ptk pfr pti pfa pfb an un lc td mtn mtp (59 : Int32) (by omega) (by omega) (by omega)) (cwV 1 hts gX11_duties_X11_is rfl rfl rfl ⟨rfl, cdX11_is⟩ ⟨Nat.le_of_ble_eq_true rfl, Nat.le_of_ble_eq_true rfl⟩) (cPreV (hP.sub [2, 3] rfl) hK (hD.sub [2, 3] (by decide +kernel) rfl) hN (ci := 11) (q0 := 0) rfl rfl) rfl rfl hl.1 rfl (lv_room (Nat.le_of_ble_eq_true rfl)) dX11_duties_232 ⟨Nat.le_of_ble_eq_true rfl, Nat.le_of_ble_eq_true rfl⟩) hP hD hS hA [2, 3] rfl (fun _ => rfl) (fun r129 u127 H locs hw128 => ?_)
                        clear hP hS
                        intro hP hS
                        replace hw128 : r129 = 0 ∨ r129 = 1 := hw128
                        refine st_v (wr := [(aI cI (md 31) 36 mli), (aI cI (md 33) 36 mnlq)]) (va_runV (C := RX11) (As := [.int r129]) (rest := []) ⟨hx, hb, hml, hown, hts⟩ (ct_X11_need l D cI cY cJ cQ _ md sd 0 mst hn cn pn mq gn mln hnn 0 mlt ln pcu ptk pfr pti pfa pfb an un lc td mtn mtp r129 h1 h2 (by omega) (by omega) (by omega) (by omega) (by omega)) (cwV 1 hts gX11_duties_X11_need rfl rfl rfl ⟨rfl, cdX11_need⟩ ⟨Nat.le_of_ble_eq_true rfl, Nat.le_of_ble_eq_true rfl⟩) (cPreV (hP.sub [2, 3] rfl) hK (hD.sub [2, 3] (by decide +kernel) rfl) hN (ci := 11) (q0 := 0) rfl rfl) rfl rfl hl.1 rfl (lv_room (Nat.le_of_ble_eq_true rfl)) dX11_duties_235 ⟨Nat.le_of_ble_eq_true rfl, Nat.le_of_ble_eq_true rfl⟩) hP hD hS hA [2, 3] [0, 1] rfl rfl (by decide +kernel) (by decide +kernel) (fun u130 H locs hw131 => ?_)
                        clear hP hD hS
                        intro hP hD hS
                        obtain ⟨mcu_133, mtk_134, mfr_135, mti_136, mfa_137, mfb_138⟩ := u130
                        replace hw131 : 0 ≤ mfr_135.toInt ∧ mfr_135.toInt ≤ mcu_133.toInt ∧ mcu_133.toInt ≤ ln.toInt ∧ mti_136.toInt = mcu_133.toInt ∧ ((pfa.toInt = 0 ∧ ¬ r129.toInt = 0 ∧ mfa_137.toInt = 0 ∧ pcu.toInt ≤ mfr_135.toInt ∧ (mtk_134.toInt = 1 ∨ mfr_135.toInt < mcu_133.toInt)) ∨ (¬ mfa_137.toInt = 0 ∧ mfr_135.toInt = pfr.toInt ∧ mtk_134.toInt = ptk.toInt ∧ mcu_133.toInt = pcu.toInt)) := hw131
                        replace hP : va_P D vwCl [(aI cI (md 31) 36 mli), (aI cI (md 33) 36 mnlq), (moC md sd (0) mst hn cn pn mq gn mln hnn (0) mlt ln mcu_133 mtk_134 mfr_135 mti_136 mfa_137 mfb_138 an un lc td mtn), (aI cI (md 34) 300 mtp)] H := hP
                        replace hD : va_D A [(aI cI (md 31) 36 mli), (aI cI (md 33) 36 mnlq), (moC md sd (0) mst hn cn pn mq gn mln hnn (0) mlt ln mcu_133 mtk_134 mfr_135 mti_136 mfa_137 mfb_138 an un lc td mtn), (aI cI (md 34) 300 mtp)] := hD
                        exact hj99 (mcu_133, mtk_134, mfr_135, mti_136, mfa_137, mfb_138) ls _ _ ⟨(by omega), (by omega), (by omega), (by omega), (by omega), (by omega), (by omega), lv_sub hl [1, 2, 3, 0] rfl, hP.sub [0, 1, 2, 3] rfl, hD.sub [0, 1, 2, 3] (by decide +kernel) rfl, hS⟩
                  · intro hj91
                    refine lv_aload_n hx hb dX11_duties_202 rfl (lv_at hl 0 rfl) ?_
                    refine va_get (D := D) (ci := 11) (v := .int ofa) (C := RX11) (T := TX11) (N := 64) hx hb hts inX11_duties_X11 hown hK hP 2 rfl rfl 42 (by decide) (hts (Cond.fieldLink RX11 271 "PortRoomsModel" "fault" "I") (wm_t (wm_l (wm_l (wm_i 4 rfl))))) (fun _ h9 => h9) rfl dX11_duties_203 ?_
                    refine lv_if_ne (tgt := 218) hx hb dX11_duties_206 (by decide) (fun c139 => ?_) (fun c139 => ?_)
                    · skip
                      have f140 := i_ne c139
                      refine lv_iconst (v := 0) hx hb dX11_duties_218 (by decide) ?_
                      exact hj91 (ocu, otk, ofr, oti, ofa, ofb, (0 : Int32)) ls _ _ ⟨(by omega), (by omega), (by omega), (by omega), (by omega), (by omega), (by omega), lv_sub hl [0, 1, 2] rfl, hP.sub [0, 1, 2, 3] rfl, hD.sub [0, 1, 2, 3] (by decide +kernel) rfl, hS⟩
                    · skip
                      have f141 := i_eq c139
                      refine lv_aload_n hx hb dX11_duties_209 rfl (lv_at hl 0 rfl) ?_
                      refine lv_bipush (v := 100) hx hb dX11_duties_210 (by decide) ?_
                      refine st_i (wr := [(aI cI (md 31) 36 mli), (aI cI (md 33) 36 mnlq)]) (va_runV (C := RX11) (As := [.int 100]) (rest := []) ⟨hx, hb, hml, hown, hts⟩ (ct_X11_numberUpTo l D cI cY cJ cQ _ md sd 0 mst hn cn pn mq gn mln hnn 0 mlt ln ocu otk ofr oti ofa ofb an un lc td mtn mtp (100 : Int32) h1 h2 (by omega) (by omega) (by omega) (by omega) (by omega)) (cwV 1 hts gX11_duties_X11_numberUpTo rfl rfl rfl ⟨rfl, cdX11_numberUpTo⟩ ⟨Nat.le_of_ble_eq_true rfl, Nat.le_of_ble_eq_true rfl⟩) (cPreV (hP.sub [2, 3] rfl) hK (hD.sub [2, 3] (by decide +kernel) rfl) hN (ci := 11) (q0 := 0) rfl rfl) rfl rfl hl.1 rfl (lv_room (Nat.le_of_ble_eq_true rfl)) dX11_duties_212 ⟨Nat.le_of_ble_eq_true rfl, Nat.le_of_ble_eq_true rfl⟩) hP hD hS hA [2, 3] [0, 1] rfl rfl (by decide +kernel) (by decide +kernel) (fun r144 u142 H locs hw143 => ?_)
                      clear hP hD hS
                      intro hP hD hS
                      obtain ⟨mcu_145, mtk_146, mfr_147, mti_148, mfa_149, mfb_150⟩ := u142
                      replace hw143 : 0 ≤ mfr_147.toInt ∧ mfr_147.toInt ≤ mcu_145.toInt ∧ mcu_145.toInt ≤ ln.toInt ∧ mti_148.toInt = mcu_145.toInt ∧ ofr.toInt ≤ mfr_147.toInt ∧ ((ofa.toInt = 0 ∧ mfa_149.toInt = 0 ∧ ocu.toInt ≤ mfr_147.toInt ∧ (mtk_146.toInt = 1 ∨ mfr_147.toInt < mcu_145.toInt)) ∨ ¬ mfa_149.toInt = 0) := hw143
                      replace hP : va_P D vwCl [(aI cI (md 31) 36 mli), (aI cI (md 33) 36 mnlq), (moC md sd (0) mst hn cn pn mq gn mln hnn (0) mlt ln mcu_145 mtk_146 mfr_147 mti_148 mfa_149 mfb_150 an un lc td mtn), (aI cI (md 34) 300 mtp)] H := hP
                      replace hD : va_D A [(aI cI (md 31) 36 mli), (aI cI (md 33) 36 mnlq), (moC md sd (0) mst hn cn pn mq gn mln hnn (0) mlt ln mcu_145 mtk_146 mfr_147 mti_148 mfa_149 mfb_150 an un lc td mtn), (aI cI (md 34) 300 mtp)] := hD
                      refine lv_goto (tgt := 219) hx hb dX11_duties_215 (by decide) ?_
                      exact hj91 (mcu_145, mtk_146, mfr_147, mti_148, mfa_149, mfb_150, r144) ls _ _ ⟨(by omega), (by omega), (by omega), (by omega), (by omega), (by omega), (by omega), lv_sub hl [0, 1, 2] rfl, hP.sub [0, 1, 2, 3] rfl, hD.sub [0, 1, 2, 3] (by decide +kernel) rfl, hS⟩
                · intro hj82
                  refine lv_aload_n hx hb dX11_duties_175 rfl (lv_at hl 0 rfl) ?_
                  refine va_get (D := D) (ci := 11) (v := .int lfa) (C := RX11) (T := TX11) (N := 64) hx hb hts inX11_duties_X11 hown hK hP 2 rfl rfl 42 (by decide) (hts (Cond.fieldLink RX11 271 "PortRoomsModel" "fault" "I") (wm_t (wm_l (wm_l (wm_i 4 rfl))))) (fun _ h9 => h9) rfl dX11_duties_176 ?_
                  refine lv_if_ne (tgt := 202) hx hb dX11_duties_179 (by decide) (fun c151 => ?_) (fun c151 => ?_)
                  · skip
                    have f152 := i_ne c151
                    exact hj82 (lcu, ltk, lfr, lti, lfa, lfb) ls _ _ ⟨(by omega), (by omega), (by omega), (by omega), (by omega), (by omega), (by omega), lv_sub hl [0, 1, 2] rfl, hP.sub [0, 1, 2, 3] rfl, hD.sub [0, 1, 2, 3] (by decide +kernel) rfl, hS⟩
                  · skip
                    have f153 := i_eq c151
                    refine lv_aload_n hx hb dX11_duties_182 rfl (lv_at hl 0 rfl) ?_
                    refine lv_aload_n hx hb dX11_duties_183 rfl (lv_at hl 0 rfl) ?_
                    refine st_l1 (va_runV (C := RX11) (As := []) (rest := [.ref (md 64)]) ⟨hx, hb, hml, hown, hts⟩ (ct_X11_word l D cI cY cJ cQ _ md sd 0 mst hn cn pn mq gn mln hnn 0 mlt ln lcu ltk lfr lti lfa lfb an un lc td mtn mtp (by omega) (by omega) (by omega)) (cwV 0 hts gX11_duties_X11_word rfl rfl rfl ⟨rfl, cdX11_word⟩ ⟨Nat.le_of_ble_eq_true rfl, Nat.le_of_ble_eq_true rfl⟩) (cPreV (hP.sub [2, 3] rfl) hK (hD.sub [2, 3] (by decide +kernel) rfl) hN (ci := 11) (q0 := 0) rfl rfl) rfl rfl hl.1 rfl (lv_room (Nat.le_of_ble_eq_true rfl)) dX11_duties_184 ⟨Nat.le_of_ble_eq_true rfl, Nat.le_of_ble_eq_true rfl⟩) hP hD hS hA [2, 3] rfl (fun _ => rfl) (fun r156 u154 H locs hw155 => ?_)
                    clear hP hS
                    intro hP hS
                    replace hw155 : True := hw155
                    refine lv_ldc2 hx hb hown (hts (Cond.constantLong RX11 308 (1885434484)) (wm_t (wm_l (wm_l (wm_i 12 rfl))))) dX11_duties_187 ?_
                    refine W.lcmp hx hb dX11_duties_190 ?_
                    refine lv_topi (fun v157 ev157 => ?_)
                    refine lv_if_ne (tgt := 198) hx hb dX11_duties_191 (by decide) (fun c158 => ?_) (fun c158 => ?_)
                    · skip
                      have f159 := lc_ne ev157 c158
                      refine lv_iconst (v := 0) hx hb dX11_duties_198 (by decide) ?_
                      refine st_v (wr := [(aI cI (md 31) 36 mli), (aI cI (md 33) 36 mnlq)]) (va_runV (C := RX11) (As := [.int 0]) (rest := []) ⟨hx, hb, hml, hown, hts⟩ (ct_X11_need l D cI cY cJ cQ _ md sd 0 mst hn cn pn mq gn mln hnn 0 mlt ln lcu ltk lfr lti lfa lfb an un lc td mtn mtp (0 : Int32) h1 h2 (by omega) (by omega) (by omega) (by omega) (by omega)) (cwV 1 hts gX11_duties_X11_need rfl rfl rfl ⟨rfl, cdX11_need⟩ ⟨Nat.le_of_ble_eq_true rfl, Nat.le_of_ble_eq_true rfl⟩) (cPreV (hP.sub [2, 3] rfl) hK (hD.sub [2, 3] (by decide +kernel) rfl) hN (ci := 11) (q0 := 0) rfl rfl) rfl rfl hl.1 rfl (lv_room (Nat.le_of_ble_eq_true rfl)) dX11_duties_199 ⟨Nat.le_of_ble_eq_true rfl, Nat.le_of_ble_eq_true rfl⟩) hP hD hS hA [2, 3] [0, 1] rfl rfl (by decide +kernel) (by decide +kernel) (fun u160 H locs hw161 => ?_)
                      clear hP hD hS
                      intro hP hD hS
                      obtain ⟨mcu_163, mtk_164, mfr_165, mti_166, mfa_167, mfb_168⟩ := u160
                      replace hw161 : 0 ≤ mfr_165.toInt ∧ mfr_165.toInt ≤ mcu_163.toInt ∧ mcu_163.toInt ≤ ln.toInt ∧ mti_166.toInt = mcu_163.toInt ∧ ((lfa.toInt = 0 ∧ ¬ (0 : Int32).toInt = 0 ∧ mfa_167.toInt = 0 ∧ lcu.toInt ≤ mfr_165.toInt ∧ (mtk_164.toInt = 1 ∨ mfr_165.toInt < mcu_163.toInt)) ∨ (¬ mfa_167.toInt = 0 ∧ mfr_165.toInt = lfr.toInt ∧ mtk_164.toInt = ltk.toInt ∧ mcu_163.toInt = lcu.toInt)) := hw161
                      replace hP : va_P D vwCl [(aI cI (md 31) 36 mli), (aI cI (md 33) 36 mnlq), (moC md sd (0) mst hn cn pn mq gn mln hnn (0) mlt ln mcu_163 mtk_164 mfr_165 mti_166 mfa_167 mfb_168 an un lc td mtn), (aI cI (md 34) 300 mtp)] H := hP
                      replace hD : va_D A [(aI cI (md 31) 36 mli), (aI cI (md 33) 36 mnlq), (moC md sd (0) mst hn cn pn mq gn mln hnn (0) mlt ln mcu_163 mtk_164 mfr_165 mti_166 mfa_167 mfb_168 an un lc td mtn), (aI cI (md 34) 300 mtp)] := hD
                      exact hj82 (mcu_163, mtk_164, mfr_165, mti_166, mfa_167, mfb_168) ls _ _ ⟨(by omega), (by omega), (by omega), (by omega), (by omega), (by omega), (by omega), lv_sub hl [0, 1, 2] rfl, hP.sub [0, 1, 2, 3] rfl, hD.sub [0, 1, 2, 3] (by decide +kernel) rfl, hS⟩
                    · skip
                      have f169 := lc_eq ev157 c158
                      refine lv_iconst (v := 1) hx hb dX11_duties_194 (by decide) ?_
                      refine lv_goto (tgt := 199) hx hb dX11_duties_195 (by decide) ?_
                      refine st_v (wr := [(aI cI (md 31) 36 mli), (aI cI (md 33) 36 mnlq)]) (va_runV (C := RX11) (As := [.int 1]) (rest := []) ⟨hx, hb, hml, hown, hts⟩ (ct_X11_need l D cI cY cJ cQ _ md sd 0 mst hn cn pn mq gn mln hnn 0 mlt ln lcu ltk lfr lti lfa lfb an un lc td mtn mtp (1 : Int32) h1 h2 (by omega) (by omega) (by omega) (by omega) (by omega)) (cwV 1 hts gX11_duties_X11_need rfl rfl rfl ⟨rfl, cdX11_need⟩ ⟨Nat.le_of_ble_eq_true rfl, Nat.le_of_ble_eq_true rfl⟩) (cPreV (hP.sub [2, 3] rfl) hK (hD.sub [2, 3] (by decide +kernel) rfl) hN (ci := 11) (q0 := 0) rfl rfl) rfl rfl hl.1 rfl (lv_room (Nat.le_of_ble_eq_true rfl)) dX11_duties_199 ⟨Nat.le_of_ble_eq_true rfl, Nat.le_of_ble_eq_true rfl⟩) hP hD hS hA [2, 3] [0, 1] rfl rfl (by decide +kernel) (by decide +kernel) (fun u170 H locs hw171 => ?_)
                      clear hP hD hS
                      intro hP hD hS
                      obtain ⟨mcu_173, mtk_174, mfr_175, mti_176, mfa_177, mfb_178⟩ := u170
                      replace hw171 : 0 ≤ mfr_175.toInt ∧ mfr_175.toInt ≤ mcu_173.toInt ∧ mcu_173.toInt ≤ ln.toInt ∧ mti_176.toInt = mcu_173.toInt ∧ ((lfa.toInt = 0 ∧ ¬ (1 : Int32).toInt = 0 ∧ mfa_177.toInt = 0 ∧ lcu.toInt ≤ mfr_175.toInt ∧ (mtk_174.toInt = 1 ∨ mfr_175.toInt < mcu_173.toInt)) ∨ (¬ mfa_177.toInt = 0 ∧ mfr_175.toInt = lfr.toInt ∧ mtk_174.toInt = ltk.toInt ∧ mcu_173.toInt = lcu.toInt)) := hw171
                      replace hP : va_P D vwCl [(aI cI (md 31) 36 mli), (aI cI (md 33) 36 mnlq), (moC md sd (0) mst hn cn pn mq gn mln hnn (0) mlt ln mcu_173 mtk_174 mfr_175 mti_176 mfa_177 mfb_178 an un lc td mtn), (aI cI (md 34) 300 mtp)] H := hP
                      replace hD : va_D A [(aI cI (md 31) 36 mli), (aI cI (md 33) 36 mnlq), (moC md sd (0) mst hn cn pn mq gn mln hnn (0) mlt ln mcu_173 mtk_174 mfr_175 mti_176 mfa_177 mfb_178 an un lc td mtn), (aI cI (md 34) 300 mtp)] := hD
                      exact hj82 (mcu_173, mtk_174, mfr_175, mti_176, mfa_177, mfb_178) ls _ _ ⟨(by omega), (by omega), (by omega), (by omega), (by omega), (by omega), (by omega), lv_sub hl [0, 1, 2] rfl, hP.sub [0, 1, 2, 3] rfl, hD.sub [0, 1, 2, 3] (by decide +kernel) rfl, hS⟩
              · intro hj74
                refine lv_aload_n hx hb dX11_duties_146 rfl (lv_at hl 1 rfl) ?_
                refine va_get (D := D) (ci := 11) (v := .int kfa) (C := RX11) (T := TX11) (N := 64) hx hb hts inX11_duties_X11 hown hK hP 2 rfl rfl 42 (by decide) (hts (Cond.fieldLink RX11 271 "PortRoomsModel" "fault" "I") (wm_t (wm_l (wm_l (wm_i 4 rfl))))) (fun _ h9 => h9) rfl dX11_duties_147 ?_
                refine lv_if_ne (tgt := 175) hx hb dX11_duties_150 (by decide) (fun c179 => ?_) (fun c179 => ?_)
                · skip
                  have f180 := i_ne c179
                  exact hj74 (((-1) : Int32), kcu, ktk, kfr, kti, kfa, kfb) ls _ _ ⟨(by omega), (by omega), (by omega), (by omega), (by omega), (by omega), (by omega), lv_sub hl [1, 2, 0] rfl, hP.sub [0, 1, 2, 3] rfl, hD.sub [0, 1, 2, 3] (by decide +kernel) rfl, hS⟩
                · skip
                  have f181 := i_eq c179
                  refine lv_aload_n hx hb dX11_duties_153 rfl (lv_at hl 1 rfl) ?_
                  refine lv_bipush (v := 62) hx hb dX11_duties_154 (by decide) ?_
                  refine st_i1 (va_runV (C := RX11) (As := [.int 62]) (rest := []) ⟨hx, hb, hml, hown, hts⟩ (ct_X11_is l D cI cY cJ cQ _ md sd 0 mst hn cn pn mq gn mln hnn 0 mlt ln kcu ktk kfr kti kfa kfb an un lc td mtn mtp (62 : Int32) (by omega) (by omega) (by omega)) (cwV 1 hts gX11_duties_X11_is rfl rfl rfl ⟨rfl, cdX11_is⟩ ⟨Nat.le_of_ble_eq_true rfl, Nat.le_of_ble_eq_true rfl⟩) (cPreV (hP.sub [2, 3] rfl) hK (hD.sub [2, 3] (by decide +kernel) rfl) hN (ci := 11) (q0 := 0) rfl rfl) rfl rfl hl.1 rfl (lv_room (Nat.le_of_ble_eq_true rfl)) dX11_duties_156 ⟨Nat.le_of_ble_eq_true rfl, Nat.le_of_ble_eq_true rfl⟩) hP hD hS hA [2, 3] rfl (fun _ => rfl) (fun r184 u182 H locs hw183 => ?_)
                  clear hP hS
                  intro hP hS
                  replace hw183 : r184 = 0 ∨ r184 = 1 := hw183
                  refine lv_if_eq (tgt := 175) hx hb dX11_duties_159 (by decide) (fun c185 => ?_) (fun c185 => ?_)
                  · skip
                    have f186 := i_eq c185
                    exact hj74 (((-1) : Int32), kcu, ktk, kfr, kti, kfa, kfb) ls _ _ ⟨(by omega), (by omega), (by omega), (by omega), (by omega), (by omega), (by omega), lv_sub hl [1, 2, 0] rfl, hP.sub [0, 1, 2, 3] rfl, hD.sub [0, 1, 2, 3] (by decide +kernel) rfl, hS⟩
                  · skip
                    have f187 := i_ne c185
                    refine lv_aload_n hx hb dX11_duties_162 rfl (lv_at hl 1 rfl) ?_
                    refine st_v (wr := [(aI cI (md 31) 36 mli), (aI cI (md 33) 36 mnlq)]) (va_runV (C := RX11) (As := []) (rest := []) ⟨hx, hb, hml, hown, hts⟩ (ct_X11_step l D cI cY cJ cQ _ md sd 0 mst hn cn pn mq gn mln hnn 0 mlt ln kcu ktk kfr kti kfa kfb an un lc td mtn mtp h1 h2 (by omega) (by omega)) (cwV 0 hts gX11_duties_X11_step rfl rfl rfl ⟨rfl, cdX11_step⟩ ⟨Nat.le_of_ble_eq_true rfl, Nat.le_of_ble_eq_true rfl⟩) (cPreV (hP.sub [2, 3] rfl) hK (hD.sub [2, 3] (by decide +kernel) rfl) hN (ci := 11) (q0 := 0) rfl rfl) rfl rfl hl.1 rfl (lv_room (Nat.le_of_ble_eq_true rfl)) dX11_duties_163 ⟨Nat.le_of_ble_eq_true rfl, Nat.le_of_ble_eq_true rfl⟩) hP hD hS hA [2, 3] [0, 1] rfl rfl (by decide +kernel) (by decide +kernel) (fun u188 H locs hw189 => ?_)
                    clear hP hD hS
                    intro hP hD hS
                    obtain ⟨mcu_191, mtk_192, mfr_193, mti_194⟩ := u188
                    replace hw189 : kcu.toInt ≤ mfr_193.toInt ∧ mfr_193.toInt ≤ mcu_191.toInt ∧ mcu_191.toInt ≤ ln.toInt ∧ mti_194.toInt = mcu_191.toInt ∧ (mtk_192.toInt = 1 ∨ mfr_193.toInt < mcu_191.toInt) := hw189
                    replace hP : va_P D vwCl [(aI cI (md 31) 36 mli), (aI cI (md 33) 36 mnlq), (moC md sd (0) mst hn cn pn mq gn mln hnn (0) mlt ln mcu_191 mtk_192 mfr_193 mti_194 kfa kfb an un lc td mtn), (aI cI (md 34) 300 mtp)] H := hP
                    replace hD : va_D A [(aI cI (md 31) 36 mli), (aI cI (md 33) 36 mnlq), (moC md sd (0) mst hn cn pn mq gn mln hnn (0) mlt ln mcu_191 mtk_192 mfr_193 mti_194 kfa kfb an un lc td mtn), (aI cI (md 34) 300 mtp)] := hD
                    refine lv_aload_n hx hb dX11_duties_166 rfl (lv_at hl 1 rfl) ?_
                    refine lv_sipush (v := 9999) hx hb dX11_duties_167 (by decide) ?_
                    refine st_i (wr := [(aI cI (md 31) 36 mli), (aI cI (md 33) 36 mnlq)]) (va_runV (C := RX11) (As := [.int 9999]) (rest := []) ⟨hx, hb, hml, hown, hts⟩ (ct_X11_numberUpTo l D cI cY cJ cQ _ md sd 0 mst hn cn pn mq gn mln hnn 0 mlt ln mcu_191 mtk_192 mfr_193 mti_194 kfa kfb an un lc td mtn mtp (9999 : Int32) h1 h2 (by omega) (by omega) (by omega) (by omega) (by omega)) (cwV 1 hts gX11_duties_X11_numberUpTo rfl rfl rfl ⟨rfl, cdX11_numberUpTo⟩ ⟨Nat.le_of_ble_eq_true rfl, Nat.le_of_ble_eq_true rfl⟩) (cPreV (hP.sub [2, 3] rfl) hK (hD.sub [2, 3] (by decide +kernel) rfl) hN (ci := 11) (q0 := 0) rfl rfl) rfl rfl hl.1 rfl (lv_room (Nat.le_of_ble_eq_true rfl)) dX11_duties_170 ⟨Nat.le_of_ble_eq_true rfl, Nat.le_of_ble_eq_true rfl⟩) hP hD hS hA [2, 3] [0, 1] rfl rfl (by decide +kernel) (by decide +kernel) (fun r197 u195 H locs hw196 => ?_)
                    clear hP hD hS
                    intro hP hD hS
                    obtain ⟨mcu_198, mtk_199, mfr_200, mti_201, mfa_202, mfb_203⟩ := u195
                    replace hw196 : 0 ≤ mfr_200.toInt ∧ mfr_200.toInt ≤ mcu_198.toInt ∧ mcu_198.toInt ≤ ln.toInt ∧ mti_201.toInt = mcu_198.toInt ∧ mfr_193.toInt ≤ mfr_200.toInt ∧ ((kfa.toInt = 0 ∧ mfa_202.toInt = 0 ∧ mcu_191.toInt ≤ mfr_200.toInt ∧ (mtk_199.toInt = 1 ∨ mfr_200.toInt < mcu_198.toInt)) ∨ ¬ mfa_202.toInt = 0) := hw196
                    replace hP : va_P D vwCl [(aI cI (md 31) 36 mli), (aI cI (md 33) 36 mnlq), (moC md sd (0) mst hn cn pn mq gn mln hnn (0) mlt ln mcu_198 mtk_199 mfr_200 mti_201 mfa_202 mfb_203 an un lc td mtn), (aI cI (md 34) 300 mtp)] H := hP
                    replace hD : va_D A [(aI cI (md 31) 36 mli), (aI cI (md 33) 36 mnlq), (moC md sd (0) mst hn cn pn mq gn mln hnn (0) mlt ln mcu_198 mtk_199 mfr_200 mti_201 mfa_202 mfb_203 an un lc td mtn), (aI cI (md 34) 300 mtp)] := hD
                    refine lv_istore (lv' := [(4, .int r197), (0, .ref (md 64)), (3, .int sk55)]) hx hb dX11_duties_173 hl (by decide) rfl (fun ls hl => ?_)
                    exact hj74 (r197, mcu_198, mtk_199, mfr_200, mti_201, mfa_202, mfb_203) ls _ _ ⟨(by omega), (by omega), (by omega), (by omega), (by omega), (by omega), (by omega), lv_sub hl [1, 2, 0] rfl, hP.sub [0, 1, 2, 3] rfl, hD.sub [0, 1, 2, 3] (by decide +kernel) rfl, hS⟩
            · intro hj66
              refine lv_aload_n hx hb dX11_duties_128 rfl (lv_at hl 0 rfl) ?_
              refine lv_iload_n hx hb dX11_duties_129 rfl (lv_at hl 1 rfl) ?_
              refine lv_ldc hx hb hown (hts (Cond.constant RX11 139 (-1000000)) (wm_t (wm_l (wm_l (wm_i 11 rfl))))) dX11_duties_130 ?_
              refine lv_icmp_eq (tgt := 139) hx hb dX11_duties_132 (by decide) (fun c204 => ?_) (fun c204 => ?_)
              · skip
                have f205 := i_eq c204
                refine lv_iconst (v := 0) hx hb dX11_duties_139 (by decide) ?_
                refine st_v (wr := [(aI cI (md 31) 36 mli), (aI cI (md 33) 36 mnlq)]) (va_runV (C := RX11) (As := [.int 0]) (rest := []) ⟨hx, hb, hml, hown, hts⟩ (ct_X11_need l D cI cY cJ cQ _ md sd 0 mst hn cn pn mq gn mln hnn 0 mlt ln hcu htk hfr hti jfa jfb an un lc td mtn mtp (0 : Int32) h1 h2 (by omega) (by omega) (by omega) (by omega) (by omega)) (cwV 1 hts gX11_duties_X11_need rfl rfl rfl ⟨rfl, cdX11_need⟩ ⟨Nat.le_of_ble_eq_true rfl, Nat.le_of_ble_eq_true rfl⟩) (cPreV (hP.sub [2, 3] rfl) hK (hD.sub [2, 3] (by decide +kernel) rfl) hN (ci := 11) (q0 := 0) rfl rfl) rfl rfl hl.1 rfl (lv_room (Nat.le_of_ble_eq_true rfl)) dX11_duties_140 ⟨Nat.le_of_ble_eq_true rfl, Nat.le_of_ble_eq_true rfl⟩) hP hD hS hA [2, 3] [0, 1] rfl rfl (by decide +kernel) (by decide +kernel) (fun u206 H locs hw207 => ?_)
                clear hP hD hS
                intro hP hD hS
                obtain ⟨mcu_209, mtk_210, mfr_211, mti_212, mfa_213, mfb_214⟩ := u206
                replace hw207 : 0 ≤ mfr_211.toInt ∧ mfr_211.toInt ≤ mcu_209.toInt ∧ mcu_209.toInt ≤ ln.toInt ∧ mti_212.toInt = mcu_209.toInt ∧ ((jfa.toInt = 0 ∧ ¬ (0 : Int32).toInt = 0 ∧ mfa_213.toInt = 0 ∧ hcu.toInt ≤ mfr_211.toInt ∧ (mtk_210.toInt = 1 ∨ mfr_211.toInt < mcu_209.toInt)) ∨ (¬ mfa_213.toInt = 0 ∧ mfr_211.toInt = hfr.toInt ∧ mtk_210.toInt = htk.toInt ∧ mcu_209.toInt = hcu.toInt)) := hw207
                replace hP : va_P D vwCl [(aI cI (md 31) 36 mli), (aI cI (md 33) 36 mnlq), (moC md sd (0) mst hn cn pn mq gn mln hnn (0) mlt ln mcu_209 mtk_210 mfr_211 mti_212 mfa_213 mfb_214 an un lc td mtn), (aI cI (md 34) 300 mtp)] H := hP
                replace hD : va_D A [(aI cI (md 31) 36 mli), (aI cI (md 33) 36 mnlq), (moC md sd (0) mst hn cn pn mq gn mln hnn (0) mlt ln mcu_209 mtk_210 mfr_211 mti_212 mfa_213 mfb_214 an un lc td mtn), (aI cI (md 34) 300 mtp)] := hD
                exact hj66 (mcu_209, mtk_210, mfr_211, mti_212, mfa_213, mfb_214) ls _ _ ⟨(by omega), (by omega), (by omega), (by omega), (by omega), (by omega), (by omega), lv_sub hl [0, 1] rfl, hP.sub [0, 1, 2, 3] rfl, hD.sub [0, 1, 2, 3] (by decide +kernel) rfl, hS⟩
              · skip
                have f215 := i_ne c204
                refine lv_iconst (v := 1) hx hb dX11_duties_135 (by decide) ?_
                refine lv_goto (tgt := 140) hx hb dX11_duties_136 (by decide) ?_
                refine st_v (wr := [(aI cI (md 31) 36 mli), (aI cI (md 33) 36 mnlq)]) (va_runV (C := RX11) (As := [.int 1]) (rest := []) ⟨hx, hb, hml, hown, hts⟩ (ct_X11_need l D cI cY cJ cQ _ md sd 0 mst hn cn pn mq gn mln hnn 0 mlt ln hcu htk hfr hti jfa jfb an un lc td mtn mtp (1 : Int32) h1 h2 (by omega) (by omega) (by omega) (by omega) (by omega)) (cwV 1 hts gX11_duties_X11_need rfl rfl rfl ⟨rfl, cdX11_need⟩ ⟨Nat.le_of_ble_eq_true rfl, Nat.le_of_ble_eq_true rfl⟩) (cPreV (hP.sub [2, 3] rfl) hK (hD.sub [2, 3] (by decide +kernel) rfl) hN (ci := 11) (q0 := 0) rfl rfl) rfl rfl hl.1 rfl (lv_room (Nat.le_of_ble_eq_true rfl)) dX11_duties_140 ⟨Nat.le_of_ble_eq_true rfl, Nat.le_of_ble_eq_true rfl⟩) hP hD hS hA [2, 3] [0, 1] rfl rfl (by decide +kernel) (by decide +kernel) (fun u216 H locs hw217 => ?_)
                clear hP hD hS
                intro hP hD hS
                obtain ⟨mcu_219, mtk_220, mfr_221, mti_222, mfa_223, mfb_224⟩ := u216
                replace hw217 : 0 ≤ mfr_221.toInt ∧ mfr_221.toInt ≤ mcu_219.toInt ∧ mcu_219.toInt ≤ ln.toInt ∧ mti_222.toInt = mcu_219.toInt ∧ ((jfa.toInt = 0 ∧ ¬ (1 : Int32).toInt = 0 ∧ mfa_223.toInt = 0 ∧ hcu.toInt ≤ mfr_221.toInt ∧ (mtk_220.toInt = 1 ∨ mfr_221.toInt < mcu_219.toInt)) ∨ (¬ mfa_223.toInt = 0 ∧ mfr_221.toInt = hfr.toInt ∧ mtk_220.toInt = htk.toInt ∧ mcu_219.toInt = hcu.toInt)) := hw217
                replace hP : va_P D vwCl [(aI cI (md 31) 36 mli), (aI cI (md 33) 36 mnlq), (moC md sd (0) mst hn cn pn mq gn mln hnn (0) mlt ln mcu_219 mtk_220 mfr_221 mti_222 mfa_223 mfb_224 an un lc td mtn), (aI cI (md 34) 300 mtp)] H := hP
                replace hD : va_D A [(aI cI (md 31) 36 mli), (aI cI (md 33) 36 mnlq), (moC md sd (0) mst hn cn pn mq gn mln hnn (0) mlt ln mcu_219 mtk_220 mfr_221 mti_222 mfa_223 mfb_224 an un lc td mtn), (aI cI (md 34) 300 mtp)] := hD
                exact hj66 (mcu_219, mtk_220, mfr_221, mti_222, mfa_223, mfb_224) ls _ _ ⟨(by omega), (by omega), (by omega), (by omega), (by omega), (by omega), (by omega), lv_sub hl [0, 1] rfl, hP.sub [0, 1, 2, 3] rfl, hD.sub [0, 1, 2, 3] (by decide +kernel) rfl, hS⟩
          · intro hj58
            refine lv_iload_n hx hb dX11_duties_108 rfl (lv_at hl 0 rfl) ?_
            refine lv_ldc hx hb hown (hts (Cond.constant RX11 139 (-1000000)) (wm_t (wm_l (wm_l (wm_i 11 rfl))))) dX11_duties_109 ?_
            refine lv_icmp_eq (tgt := 128) hx hb dX11_duties_111 (by decide) (fun c225 => ?_) (fun c225 => ?_)
            · skip
              have f226 := i_eq c225
              exact hj58 (hfa, hfb) ls _ _ ⟨(by omega), lv_sub hl [1, 0] rfl, hP.sub [0, 1, 2, 3] rfl, hD.sub [0, 1, 2, 3] (by decide +kernel) rfl, hS⟩
            · skip
              have f227 := i_ne c225
              refine lv_aload_n hx hb dX11_duties_114 rfl (lv_at hl 1 rfl) ?_
              refine va_get (D := D) (ci := 11) (v := .int hnn) (C := RX11) (T := TX11) (N := 64) hx hb hts inX11_duties_X11 hown hK hP 2 rfl rfl 32 (by decide) (hts (Cond.fieldLink RX11 287 "PortRoomsModel" "newLines" "I") (wm_t (wm_l (wm_l (wm_i 5 rfl))))) (fun _ h9 => h9) rfl dX11_duties_115 ?_
              refine lv_bipush (v := 12) hx hb dX11_duties_118 (by decide) ?_
              refine lv_icmp_ne (tgt := 128) hx hb dX11_duties_120 (by decide) (fun c228 => ?_) (fun c228 => ?_)
              · skip
                have f229 := i_ne c228
                exact hj58 (hfa, hfb) ls _ _ ⟨(by omega), lv_sub hl [1, 0] rfl, hP.sub [0, 1, 2, 3] rfl, hD.sub [0, 1, 2, 3] (by decide +kernel) rfl, hS⟩
              · skip
                have f230 := i_eq c228
                refine lv_aload_n hx hb dX11_duties_123 rfl (lv_at hl 1 rfl) ?_
                refine lv_iconst (v := 3) hx hb dX11_duties_124 (by decide) ?_
                refine st_v (wr := [(aI cI (md 31) 36 mli), (aI cI (md 33) 36 mnlq), (aI cI (md 34) 300 mtp)]) (va_runV (C := RX11) (As := [.int 3]) (rest := []) ⟨hx, hb, hml, hown, hts⟩ (ct_X11_bad l D cI cY cJ cQ _ md sd 0 mst hn cn pn mq gn mln hnn 0 mlt ln hcu htk hfr hti hfa hfb an un lc td mtn (3 : Int32)) (cwV 1 hts gX11_duties_X11_bad rfl rfl rfl ⟨rfl, cdX11_bad⟩ ⟨Nat.le_of_ble_eq_true rfl, Nat.le_of_ble_eq_true rfl⟩) (cPreV (hP.sub [2] rfl) hK (hD.sub [2] (by decide +kernel) rfl) hN (ci := 11) (q0 := 0) rfl rfl) rfl rfl hl.1 rfl (lv_room (Nat.le_of_ble_eq_true rfl)) dX11_duties_125 ⟨Nat.le_of_ble_eq_true rfl, Nat.le_of_ble_eq_true rfl⟩) hP hD hS hA [2] [0, 1, 3] rfl rfl (by decide +kernel) (by decide +kernel) (fun u231 H locs hw232 => ?_)
                clear hP hD hS
                intro hP hD hS
                obtain ⟨mfa_234, mfb_235⟩ := u231
                replace hw232 : (hfa.toInt = 0 ∧ mfa_234.toInt = (3 : Int32).toInt) ∨ (¬ hfa.toInt = 0 ∧ mfa_234.toInt = hfa.toInt) := hw232
                replace hP : va_P D vwCl [(aI cI (md 31) 36 mli), (aI cI (md 33) 36 mnlq), (aI cI (md 34) 300 mtp), (moC md sd (0) mst hn cn pn mq gn mln hnn (0) mlt ln hcu htk hfr hti mfa_234 mfb_235 an un lc td mtn)] H := hP
                replace hD : va_D A [(aI cI (md 31) 36 mli), (aI cI (md 33) 36 mnlq), (aI cI (md 34) 300 mtp), (moC md sd (0) mst hn cn pn mq gn mln hnn (0) mlt ln hcu htk hfr hti mfa_234 mfb_235 an un lc td mtn)] := hD
                exact hj58 (mfa_234, mfb_235) ls _ _ ⟨(by omega), lv_sub hl [1, 0] rfl, hP.sub [0, 1, 3, 2] rfl, hD.sub [0, 1, 3, 2] (by decide +kernel) rfl, hS⟩
        · intro hj56
          refine lv_lload_n hx hb dX11_duties_57 rfl (lv_at hl 0 rfl) ?_
          refine lv_ldc2 hx hb hown (hts (Cond.constantLong RX11 294 (1936682084)) (wm_t (wm_l (wm_l (wm_i 7 rfl))))) dX11_duties_58 ?_
          refine W.lcmp hx hb dX11_duties_61 ?_
          refine lv_topi (fun v236 ev236 => ?_)
          refine lv_if_ne (tgt := 69) hx hb dX11_duties_62 (by decide) (fun c237 => ?_) (fun c237 => ?_)
          · skip
            have f238 := lc_ne ev236 c237
            refine lv_lload_n hx hb dX11_duties_69 rfl (lv_at hl 0 rfl) ?_
            refine lv_ldc2 hx hb hown (hts (Cond.constantLong RX11 296 (495673374574)) (wm_t (wm_l (wm_l (wm_i 8 rfl))))) dX11_duties_70 ?_
            refine W.lcmp hx hb dX11_duties_73 ?_
            refine lv_topi (fun v239 ev239 => ?_)
            refine lv_if_ne (tgt := 81) hx hb dX11_duties_74 (by decide) (fun c240 => ?_) (fun c240 => ?_)
            · skip
              have f241 := lc_ne ev239 c240
              refine lv_lload_n hx hb dX11_duties_81 rfl (lv_at hl 0 rfl) ?_
              refine lv_ldc2 hx hb hown (hts (Cond.constantLong RX11 298 (7304564)) (wm_t (wm_l (wm_l (wm_i 9 rfl))))) dX11_duties_82 ?_
              refine W.lcmp hx hb dX11_duties_85 ?_
              refine lv_topi (fun v242 ev242 => ?_)
              refine lv_if_ne (tgt := 93) hx hb dX11_duties_86 (by decide) (fun c243 => ?_) (fun c243 => ?_)
              · skip
                have f244 := lc_ne ev242 c243
                refine lv_lload_n hx hb dX11_duties_93 rfl (lv_at hl 0 rfl) ?_
                refine lv_ldc2 hx hb hown (hts (Cond.constantLong RX11 300 (120282411197796)) (wm_t (wm_l (wm_l (wm_i 10 rfl))))) dX11_duties_94 ?_
                refine W.lcmp hx hb dX11_duties_97 ?_
                refine lv_topi (fun v245 ev245 => ?_)
                refine lv_if_ne (tgt := 105) hx hb dX11_duties_98 (by decide) (fun c246 => ?_) (fun c246 => ?_)
                · skip
                  have f247 := lc_ne ev245 c246
                  refine lv_ldc hx hb hown (hts (Cond.constant RX11 139 (-1000000)) (wm_t (wm_l (wm_l (wm_i 11 rfl))))) dX11_duties_105 ?_
                  exact hj56 ((-1000000) : Int32) ls _ _ ⟨lv_sub hl [1] rfl, hP.sub [0, 1, 2, 3] rfl, hD.sub [0, 1, 2, 3] (by decide +kernel) rfl, hS⟩
                · skip
                  have f248 := lc_eq ev245 c246
                  refine lv_iconst (v := 3) hx hb dX11_duties_101 (by decide) ?_
                  refine lv_goto (tgt := 107) hx hb dX11_duties_102 (by decide) ?_
                  exact hj56 (3 : Int32) ls _ _ ⟨lv_sub hl [1] rfl, hP.sub [0, 1, 2, 3] rfl, hD.sub [0, 1, 2, 3] (by decide +kernel) rfl, hS⟩
              · skip
                have f249 := lc_eq ev242 c243
                refine lv_iconst (v := 2) hx hb dX11_duties_89 (by decide) ?_
                refine lv_goto (tgt := 107) hx hb dX11_duties_90 (by decide) ?_
                exact hj56 (2 : Int32) ls _ _ ⟨lv_sub hl [1] rfl, hP.sub [0, 1, 2, 3] rfl, hD.sub [0, 1, 2, 3] (by decide +kernel) rfl, hS⟩
            · skip
              have f250 := lc_eq ev239 c240
              refine lv_iconst (v := 1) hx hb dX11_duties_77 (by decide) ?_
              refine lv_goto (tgt := 107) hx hb dX11_duties_78 (by decide) ?_
              exact hj56 (1 : Int32) ls _ _ ⟨lv_sub hl [1] rfl, hP.sub [0, 1, 2, 3] rfl, hD.sub [0, 1, 2, 3] (by decide +kernel) rfl, hS⟩
          · skip
            have f251 := lc_eq ev236 c237
            refine lv_iconst (v := 0) hx hb dX11_duties_65 (by decide) ?_
            refine lv_goto (tgt := 107) hx hb dX11_duties_66 (by decide) ?_
            exact hj56 (0 : Int32) ls _ _ ⟨lv_sub hl [1] rfl, hP.sub [0, 1, 2, 3] rfl, hD.sub [0, 1, 2, 3] (by decide +kernel) rfl, hS⟩
