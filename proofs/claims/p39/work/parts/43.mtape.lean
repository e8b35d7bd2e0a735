section
theorem cdX11_byteAt : yX11_byteAt.cls ≠ "java/lang/invoke/MethodHandle" ∧ yX11_byteAt.cls ≠ "java/lang/invoke/VarHandle" ∧ (parseMethodDescriptor yX11_byteAt.desc).map (fun d => d.parameters.length) = some 1 := by decide +kernel
theorem cdX11_isLetter : yX11_isLetter.cls ≠ "java/lang/invoke/MethodHandle" ∧ yX11_isLetter.cls ≠ "java/lang/invoke/VarHandle" ∧ (parseMethodDescriptor yX11_isLetter.desc).map (fun d => d.parameters.length) = some 1 := by decide +kernel
theorem cdX11_isFigure : yX11_isFigure.cls ≠ "java/lang/invoke/MethodHandle" ∧ yX11_isFigure.cls ≠ "java/lang/invoke/VarHandle" ∧ (parseMethodDescriptor yX11_isFigure.desc).map (fun d => d.parameters.length) = some 1 := by decide +kernel
theorem cdX11_step : yX11_step.cls ≠ "java/lang/invoke/MethodHandle" ∧ yX11_step.cls ≠ "java/lang/invoke/VarHandle" ∧ (parseMethodDescriptor yX11_step.desc).map (fun d => d.parameters.length) = some 0 := by decide +kernel
theorem cdX11_bad : yX11_bad.cls ≠ "java/lang/invoke/MethodHandle" ∧ yX11_bad.cls ≠ "java/lang/invoke/VarHandle" ∧ (parseMethodDescriptor yX11_bad.desc).map (fun d => d.parameters.length) = some 1 := by decide +kernel
theorem cdX11_need : yX11_need.cls ≠ "java/lang/invoke/MethodHandle" ∧ yX11_need.cls ≠ "java/lang/invoke/VarHandle" ∧ (parseMethodDescriptor yX11_need.desc).map (fun d => d.parameters.length) = some 1 := by decide +kernel
theorem inX11_feed_X11 : ∀ w ∈ u_ws RX11 TX11 64, w ∈ wsX11_feed := fun _ h => (List.mem_cons_of_mem _ (List.mem_append_right _ (List.mem_append_left _ h)))
theorem Gd_X11_byteAt : gdA wsX11_byteAt := gd_cons (by decide +kernel) (gd_app (gd_all (ws := wsX11_byteAt_o1) (by decide +kernel)) Gd_X110)
theorem inX11_byteAt_X11 : ∀ w ∈ u_ws RX11 TX11 64, w ∈ wsX11_byteAt := fun _ h => (List.mem_cons_of_mem _ (List.mem_append_right _ h))
theorem Gd_X11_isLetter : gdA wsX11_isLetter := gd_cons (by decide +kernel) (gd_all (ws := []) rfl)
theorem Gd_X11_isFigure : gdA wsX11_isFigure := gd_cons (by decide +kernel) (gd_all (ws := []) rfl)
theorem Gd_X11_step : gdA wsX11_step := gd_cons (by decide +kernel) (gd_app (gd_all (ws := wsX11_step_o1) (by decide +kernel)) (gd_app (gd_app Gd_X110 Gd_X11_byteAt) (gd_app Gd_X11_isLetter Gd_X11_isFigure)))
theorem inX11_step_X11 : ∀ w ∈ u_ws RX11 TX11 64, w ∈ wsX11_step := fun _ h => (List.mem_cons_of_mem _ (List.mem_append_right _ (List.mem_append_left _ (List.mem_append_left _ h))))
theorem Gd_X11_bad : gdA wsX11_bad := gd_cons (by decide +kernel) (gd_app (gd_all (ws := wsX11_bad_o1) (by decide +kernel)) Gd_X110)
theorem inX11_bad_X11 : ∀ w ∈ u_ws RX11 TX11 64, w ∈ wsX11_bad := fun _ h => (List.mem_cons_of_mem _ (List.mem_append_right _ h))
theorem Gd_X11_need : gdA wsX11_need := gd_cons (by decide +kernel) (gd_app (gd_all (ws := wsX11_need_o1) (by decide +kernel)) (gd_app (gd_app Gd_X110 Gd_X11_bad) Gd_X11_step))
theorem inX11_need_X11 : ∀ w ∈ u_ws RX11 TX11 64, w ∈ wsX11_need := fun _ h => (List.mem_cons_of_mem _ (List.mem_append_right _ (List.mem_append_left _ (List.mem_append_left _ h))))
theorem inX11_is_X11 : ∀ w ∈ u_ws RX11 TX11 64, w ∈ wsX11_is := fun _ h => (List.mem_cons_of_mem _ (List.mem_append_right _ h))
theorem inX11_word_X11 : ∀ w ∈ u_ws RX11 TX11 64, w ∈ wsX11_word := fun _ h => (List.mem_cons_of_mem _ (List.mem_append_right _ h))
theorem inX11_numberUpTo_X11 : ∀ w ∈ u_ws RX11 TX11 64, w ∈ wsX11_numberUpTo := fun _ h => (List.mem_cons_of_mem _ (List.mem_append_right _ (List.mem_append_left _ (List.mem_append_left _ h))))
theorem ggX11_feed_X11_in : GoodIn wsX11_feed wsX11_in := goodIn_s (fun _ h => wm_t (wm_r (wm_r h))) Gd_X11_in
theorem gX11_feed_X11_in : GoodIn wsX11_feed (va_wsS RX11 147 yX11_in wsX11_in) := goodIn_S (own := RX11) (idx := 147) (y := yX11_in) (wm_t (wm_l (wm_i 7 rfl))) (wm_t (wm_l (wm_i 8 rfl))) (wm_t (wm_l (wm_i 9 rfl))) ggX11_feed_X11_in
theorem dX11_feed_all0 : decode cX11_feed 0 = .ok (.aload_n 0, 1) ∧ decode cX11_feed 1 = .ok (.iconst 0, 1) ∧ decode cX11_feed 2 = .ok (.putfield 1, 3) ∧ decode cX11_feed 5 = .ok (.iload_n 3, 1) ∧ decode cX11_feed 6 = .ok (.i2l, 1) ∧ decode cX11_feed 7 = .ok (.lconst 1, 1) ∧ decode cX11_feed 8 = .ok (.ldc2_w 240, 3) ∧ decode cX11_feed 11 = .ok (.invokestatic 147, 3) ∧ decode cX11_feed 14 = .ok (.ifCond .ne 6, 3) ∧ decode cX11_feed 17 = .ok (.ldc 157, 2) ∧ decode cX11_feed 19 = .ok (.ireturn, 1) ∧ decode cX11_feed 20 = .ok (.aload_n 0, 1) := by decide +kernel
theorem dX11_feed_0 : decode cX11_feed 0 = .ok (.aload_n 0, 1) := dX11_feed_all0.1
theorem dX11_feed_1 : decode cX11_feed 1 = .ok (.iconst 0, 1) := dX11_feed_all0.2.1
theorem dX11_feed_2 : decode cX11_feed 2 = .ok (.putfield 1, 3) := dX11_feed_all0.2.2.1
theorem dX11_feed_5 : decode cX11_feed 5 = .ok (.iload_n 3, 1) := dX11_feed_all0.2.2.2.1
theorem dX11_feed_6 : decode cX11_feed 6 = .ok (.i2l, 1) := dX11_feed_all0.2.2.2.2.1
theorem dX11_feed_7 : decode cX11_feed 7 = .ok (.lconst 1, 1) := dX11_feed_all0.2.2.2.2.2.1
theorem dX11_feed_8 : decode cX11_feed 8 = .ok (.ldc2_w 240, 3) := dX11_feed_all0.2.2.2.2.2.2.1
theorem dX11_feed_11 : decode cX11_feed 11 = .ok (.invokestatic 147, 3) := dX11_feed_all0.2.2.2.2.2.2.2.1
theorem dX11_feed_14 : decode cX11_feed 14 = .ok (.ifCond .ne 6, 3) := dX11_feed_all0.2.2.2.2.2.2.2.2.1
theorem dX11_feed_17 : decode cX11_feed 17 = .ok (.ldc 157, 2) := dX11_feed_all0.2.2.2.2.2.2.2.2.2.1
theorem dX11_feed_19 : decode cX11_feed 19 = .ok (.ireturn, 1) := dX11_feed_all0.2.2.2.2.2.2.2.2.2.2.1
theorem dX11_feed_20 : decode cX11_feed 20 = .ok (.aload_n 0, 1) := dX11_feed_all0.2.2.2.2.2.2.2.2.2.2.2
theorem dX11_feed_all1 : decode cX11_feed 21 = .ok (.getfield 242, 3) ∧ decode cX11_feed 24 = .ok (.iload_n 3, 1) ∧ decode cX11_feed 25 = .ok (.iadd, 1) ∧ decode cX11_feed 26 = .ok (.sipush 300, 3) ∧ decode cX11_feed 29 = .ok (.if_icmp .le 6, 3) ∧ decode cX11_feed 32 = .ok (.ldc 184, 2) ∧ decode cX11_feed 34 = .ok (.ireturn, 1) ∧ decode cX11_feed 35 = .ok (.iload_n 3, 1) ∧ decode cX11_feed 36 = .ok (.iconst 1, 1) ∧ decode cX11_feed 37 = .ok (.isub, 1) ∧ decode cX11_feed 38 = .ok (.istore 4, 2) ∧ decode cX11_feed 40 = .ok (.iload 4, 2) := by decide +kernel
theorem dX11_feed_21 : decode cX11_feed 21 = .ok (.getfield 242, 3) := dX11_feed_all1.1
theorem dX11_feed_24 : decode cX11_feed 24 = .ok (.iload_n 3, 1) := dX11_feed_all1.2.1
theorem dX11_feed_25 : decode cX11_feed 25 = .ok (.iadd, 1) := dX11_feed_all1.2.2.1
theorem dX11_feed_26 : decode cX11_feed 26 = .ok (.sipush 300, 3) := dX11_feed_all1.2.2.2.1
theorem dX11_feed_29 : decode cX11_feed 29 = .ok (.if_icmp .le 6, 3) := dX11_feed_all1.2.2.2.2.1
theorem dX11_feed_32 : decode cX11_feed 32 = .ok (.ldc 184, 2) := dX11_feed_all1.2.2.2.2.2.1
theorem dX11_feed_34 : decode cX11_feed 34 = .ok (.ireturn, 1) := dX11_feed_all1.2.2.2.2.2.2.1
theorem dX11_feed_35 : decode cX11_feed 35 = .ok (.iload_n 3, 1) := dX11_feed_all1.2.2.2.2.2.2.2.1
theorem dX11_feed_36 : decode cX11_feed 36 = .ok (.iconst 1, 1) := dX11_feed_all1.2.2.2.2.2.2.2.2.1
theorem dX11_feed_37 : decode cX11_feed 37 = .ok (.isub, 1) := dX11_feed_all1.2.2.2.2.2.2.2.2.2.1
theorem dX11_feed_38 : decode cX11_feed 38 = .ok (.istore 4, 2) := dX11_feed_all1.2.2.2.2.2.2.2.2.2.2.1
theorem dX11_feed_40 : decode cX11_feed 40 = .ok (.iload 4, 2) := dX11_feed_all1.2.2.2.2.2.2.2.2.2.2.2
theorem dX11_feed_all2 : decode cX11_feed 42 = .ok (.ifCond .lt 40, 3) ∧ decode cX11_feed 45 = .ok (.aload_n 0, 1) ∧ decode cX11_feed 46 = .ok (.getfield 87, 3) ∧ decode cX11_feed 49 = .ok (.aload_n 0, 1) ∧ decode cX11_feed 50 = .ok (.getfield 242, 3) ∧ decode cX11_feed 53 = .ok (.lload_n 1, 1) ∧ decode cX11_feed 54 = .ok (.bipush 8, 2) ∧ decode cX11_feed 56 = .ok (.iload 4, 2) ∧ decode cX11_feed 58 = .ok (.imul, 1) ∧ decode cX11_feed 59 = .ok (.lshr, 1) ∧ decode cX11_feed 60 = .ok (.ldc2_w 245, 3) ∧ decode cX11_feed 63 = .ok (.land, 1) := by decide +kernel
theorem dX11_feed_42 : decode cX11_feed 42 = .ok (.ifCond .lt 40, 3) := dX11_feed_all2.1
theorem dX11_feed_45 : decode cX11_feed 45 = .ok (.aload_n 0, 1) := dX11_feed_all2.2.1
theorem dX11_feed_46 : decode cX11_feed 46 = .ok (.getfield 87, 3) := dX11_feed_all2.2.2.1
theorem dX11_feed_49 : decode cX11_feed 49 = .ok (.aload_n 0, 1) := dX11_feed_all2.2.2.2.1
theorem dX11_feed_50 : decode cX11_feed 50 = .ok (.getfield 242, 3) := dX11_feed_all2.2.2.2.2.1
theorem dX11_feed_53 : decode cX11_feed 53 = .ok (.lload_n 1, 1) := dX11_feed_all2.2.2.2.2.2.1
theorem dX11_feed_54 : decode cX11_feed 54 = .ok (.bipush 8, 2) := dX11_feed_all2.2.2.2.2.2.2.1
theorem dX11_feed_56 : decode cX11_feed 56 = .ok (.iload 4, 2) := dX11_feed_all2.2.2.2.2.2.2.2.1
theorem dX11_feed_58 : decode cX11_feed 58 = .ok (.imul, 1) := dX11_feed_all2.2.2.2.2.2.2.2.2.1
theorem dX11_feed_59 : decode cX11_feed 59 = .ok (.lshr, 1) := dX11_feed_all2.2.2.2.2.2.2.2.2.2.1
theorem dX11_feed_60 : decode cX11_feed 60 = .ok (.ldc2_w 245, 3) := dX11_feed_all2.2.2.2.2.2.2.2.2.2.2.1
theorem dX11_feed_63 : decode cX11_feed 63 = .ok (.land, 1) := dX11_feed_all2.2.2.2.2.2.2.2.2.2.2.2
theorem dX11_feed_all3 : decode cX11_feed 64 = .ok (.l2i, 1) ∧ decode cX11_feed 65 = .ok (.iastore, 1) ∧ decode cX11_feed 66 = .ok (.aload_n 0, 1) ∧ decode cX11_feed 67 = .ok (.dup, 1) ∧ decode cX11_feed 68 = .ok (.getfield 242, 3) ∧ decode cX11_feed 71 = .ok (.iconst 1, 1) ∧ decode cX11_feed 72 = .ok (.iadd, 1) ∧ decode cX11_feed 73 = .ok (.putfield 242, 3) ∧ decode cX11_feed 76 = .ok (.iinc 4 (-1), 3) ∧ decode cX11_feed 79 = .ok (.goto (-39), 3) ∧ decode cX11_feed 82 = .ok (.aload_n 0, 1) ∧ decode cX11_feed 83 = .ok (.getfield 242, 3) := by decide +kernel
theorem dX11_feed_64 : decode cX11_feed 64 = .ok (.l2i, 1) := dX11_feed_all3.1
theorem dX11_feed_65 : decode cX11_feed 65 = .ok (.iastore, 1) := dX11_feed_all3.2.1
theorem dX11_feed_66 : decode cX11_feed 66 = .ok (.aload_n 0, 1) := dX11_feed_all3.2.2.1
theorem dX11_feed_67 : decode cX11_feed 67 = .ok (.dup, 1) := dX11_feed_all3.2.2.2.1
theorem dX11_feed_68 : decode cX11_feed 68 = .ok (.getfield 242, 3) := dX11_feed_all3.2.2.2.2.1
theorem dX11_feed_71 : decode cX11_feed 71 = .ok (.iconst 1, 1) := dX11_feed_all3.2.2.2.2.2.1
theorem dX11_feed_72 : decode cX11_feed 72 = .ok (.iadd, 1) := dX11_feed_all3.2.2.2.2.2.2.1
theorem dX11_feed_73 : decode cX11_feed 73 = .ok (.putfield 242, 3) := dX11_feed_all3.2.2.2.2.2.2.2.1
theorem dX11_feed_76 : decode cX11_feed 76 = .ok (.iinc 4 (-1), 3) := dX11_feed_all3.2.2.2.2.2.2.2.2.1
theorem dX11_feed_79 : decode cX11_feed 79 = .ok (.goto (-39), 3) := dX11_feed_all3.2.2.2.2.2.2.2.2.2.1
theorem dX11_feed_82 : decode cX11_feed 82 = .ok (.aload_n 0, 1) := dX11_feed_all3.2.2.2.2.2.2.2.2.2.2.1
theorem dX11_feed_83 : decode cX11_feed 83 = .ok (.getfield 242, 3) := dX11_feed_all3.2.2.2.2.2.2.2.2.2.2.2
theorem dX11_feed_86 : decode cX11_feed 86 = .ok (.ireturn, 1) := by decide +kernel
theorem dX11_byteAt_all0 : decode cX11_byteAt 0 = .ok (.iload_n 1, 1) ∧ decode cX11_byteAt 1 = .ok (.aload_n 0, 1) ∧ decode cX11_byteAt 2 = .ok (.getfield 247, 3) ∧ decode cX11_byteAt 5 = .ok (.if_icmp .ge 12, 3) ∧ decode cX11_byteAt 8 = .ok (.aload_n 0, 1) ∧ decode cX11_byteAt 9 = .ok (.getfield 87, 3) ∧ decode cX11_byteAt 12 = .ok (.iload_n 1, 1) ∧ decode cX11_byteAt 13 = .ok (.iaload, 1) ∧ decode cX11_byteAt 14 = .ok (.goto 5, 3) ∧ decode cX11_byteAt 17 = .ok (.ldc 139, 2) ∧ decode cX11_byteAt 19 = .ok (.ireturn, 1) := by decide +kernel
theorem dX11_byteAt_0 : decode cX11_byteAt 0 = .ok (.iload_n 1, 1) := dX11_byteAt_all0.1
theorem dX11_byteAt_1 : decode cX11_byteAt 1 = .ok (.aload_n 0, 1) := dX11_byteAt_all0.2.1
theorem dX11_byteAt_2 : decode cX11_byteAt 2 = .ok (.getfield 247, 3) := dX11_byteAt_all0.2.2.1
theorem dX11_byteAt_5 : decode cX11_byteAt 5 = .ok (.if_icmp .ge 12, 3) := dX11_byteAt_all0.2.2.2.1
theorem dX11_byteAt_8 : decode cX11_byteAt 8 = .ok (.aload_n 0, 1) := dX11_byteAt_all0.2.2.2.2.1
theorem dX11_byteAt_9 : decode cX11_byteAt 9 = .ok (.getfield 87, 3) := dX11_byteAt_all0.2.2.2.2.2.1
theorem dX11_byteAt_12 : decode cX11_byteAt 12 = .ok (.iload_n 1, 1) := dX11_byteAt_all0.2.2.2.2.2.2.1
theorem dX11_byteAt_13 : decode cX11_byteAt 13 = .ok (.iaload, 1) := dX11_byteAt_all0.2.2.2.2.2.2.2.1
theorem dX11_byteAt_14 : decode cX11_byteAt 14 = .ok (.goto 5, 3) := dX11_byteAt_all0.2.2.2.2.2.2.2.2.1
theorem dX11_byteAt_17 : decode cX11_byteAt 17 = .ok (.ldc 139, 2) := dX11_byteAt_all0.2.2.2.2.2.2.2.2.2.1
theorem dX11_byteAt_19 : decode cX11_byteAt 19 = .ok (.ireturn, 1) := dX11_byteAt_all0.2.2.2.2.2.2.2.2.2.2
theorem ggX11_step_X11_byteAt : GoodIn wsX11_step wsX11_byteAt := goodIn_s (fun _ h => wm_t (wm_r (wm_l (wm_r h)))) Gd_X11_byteAt
theorem gX11_step_X11_byteAt : GoodIn wsX11_step (wsV RX11 253 RX11 yX11_byteAt wsX11_byteAt) := goodIn_V (own := RX11) (idx := 253) (C := RX11) (y := yX11_byteAt) (wm_t (wm_l (wm_i 5 rfl))) (wm_t (wm_l (wm_i 6 rfl))) (wm_t (wm_l (wm_i 7 rfl))) (wm_t (wm_l (wm_i 8 rfl))) ggX11_step_X11_byteAt
theorem ggX11_step_X11_isLetter : GoodIn wsX11_step wsX11_isLetter := goodIn_s (fun _ h => wm_t (wm_r (wm_r (wm_l h)))) Gd_X11_isLetter
theorem gX11_step_X11_isLetter : GoodIn wsX11_step (va_wsS RX11 262 yX11_isLetter wsX11_isLetter) := goodIn_S (own := RX11) (idx := 262) (y := yX11_isLetter) (wm_t (wm_l (wm_i 9 rfl))) (wm_t (wm_l (wm_i 10 rfl))) (wm_t (wm_l (wm_i 8 rfl))) ggX11_step_X11_isLetter
theorem ggX11_step_X11_isFigure : GoodIn wsX11_step wsX11_isFigure := goodIn_s (fun _ h => wm_t (wm_r (wm_r (wm_r h)))) Gd_X11_isFigure
theorem gX11_step_X11_isFigure : GoodIn wsX11_step (va_wsS RX11 265 yX11_isFigure wsX11_isFigure) := goodIn_S (own := RX11) (idx := 265) (y := yX11_isFigure) (wm_t (wm_l (wm_i 11 rfl))) (wm_t (wm_l (wm_i 12 rfl))) (wm_t (wm_l (wm_i 8 rfl))) ggX11_step_X11_isFigure
theorem dX11_step_all0 : decode cX11_step 0 = .ok (.aload_n 0, 1) ∧ decode cX11_step 1 = .ok (.aload_n 0, 1) ∧ decode cX11_step 2 = .ok (.getfield 250, 3) ∧ decode cX11_step 5 = .ok (.invokevirtual 253, 3) ∧ decode cX11_step 8 = .ok (.bipush 32, 2) ∧ decode cX11_step 10 = .ok (.if_icmp .eq 16, 3) ∧ decode cX11_step 13 = .ok (.aload_n 0, 1) ∧ decode cX11_step 14 = .ok (.aload_n 0, 1) ∧ decode cX11_step 15 = .ok (.getfield 250, 3) ∧ decode cX11_step 18 = .ok (.invokevirtual 253, 3) ∧ decode cX11_step 21 = .ok (.bipush 10, 2) ∧ decode cX11_step 23 = .ok (.if_icmp .ne 16, 3) := by decide +kernel
theorem dX11_step_0 : decode cX11_step 0 = .ok (.aload_n 0, 1) := dX11_step_all0.1
theorem dX11_step_1 : decode cX11_step 1 = .ok (.aload_n 0, 1) := dX11_step_all0.2.1
theorem dX11_step_2 : decode cX11_step 2 = .ok (.getfield 250, 3) := dX11_step_all0.2.2.1
theorem dX11_step_5 : decode cX11_step 5 = .ok (.invokevirtual 253, 3) := dX11_step_all0.2.2.2.1
theorem dX11_step_8 : decode cX11_step 8 = .ok (.bipush 32, 2) := dX11_step_all0.2.2.2.2.1
theorem dX11_step_10 : decode cX11_step 10 = .ok (.if_icmp .eq 16, 3) := dX11_step_all0.2.2.2.2.2.1
theorem dX11_step_13 : decode cX11_step 13 = .ok (.aload_n 0, 1) := dX11_step_all0.2.2.2.2.2.2.1
theorem dX11_step_14 : decode cX11_step 14 = .ok (.aload_n 0, 1) := dX11_step_all0.2.2.2.2.2.2.2.1
theorem dX11_step_15 : decode cX11_step 15 = .ok (.getfield 250, 3) := dX11_step_all0.2.2.2.2.2.2.2.2.1
theorem dX11_step_18 : decode cX11_step 18 = .ok (.invokevirtual 253, 3) := dX11_step_all0.2.2.2.2.2.2.2.2.2.1
theorem dX11_step_21 : decode cX11_step 21 = .ok (.bipush 10, 2) := dX11_step_all0.2.2.2.2.2.2.2.2.2.2.1
theorem dX11_step_23 : decode cX11_step 23 = .ok (.if_icmp .ne 16, 3) := dX11_step_all0.2.2.2.2.2.2.2.2.2.2.2
theorem dX11_step_all1 : decode cX11_step 26 = .ok (.aload_n 0, 1) ∧ decode cX11_step 27 = .ok (.dup, 1) ∧ decode cX11_step 28 = .ok (.getfield 250, 3) ∧ decode cX11_step 31 = .ok (.iconst 1, 1) ∧ decode cX11_step 32 = .ok (.iadd, 1) ∧ decode cX11_step 33 = .ok (.putfield 250, 3) ∧ decode cX11_step 36 = .ok (.goto (-36), 3) ∧ decode cX11_step 39 = .ok (.aload_n 0, 1) ∧ decode cX11_step 40 = .ok (.aload_n 0, 1) ∧ decode cX11_step 41 = .ok (.getfield 250, 3) ∧ decode cX11_step 44 = .ok (.putfield 256, 3) ∧ decode cX11_step 47 = .ok (.aload_n 0, 1) := by decide +kernel
theorem dX11_step_26 : decode cX11_step 26 = .ok (.aload_n 0, 1) := dX11_step_all1.1
theorem dX11_step_27 : decode cX11_step 27 = .ok (.dup, 1) := dX11_step_all1.2.1
theorem dX11_step_28 : decode cX11_step 28 = .ok (.getfield 250, 3) := dX11_step_all1.2.2.1
theorem dX11_step_31 : decode cX11_step 31 = .ok (.iconst 1, 1) := dX11_step_all1.2.2.2.1
theorem dX11_step_32 : decode cX11_step 32 = .ok (.iadd, 1) := dX11_step_all1.2.2.2.2.1
theorem dX11_step_33 : decode cX11_step 33 = .ok (.putfield 250, 3) := dX11_step_all1.2.2.2.2.2.1
theorem dX11_step_36 : decode cX11_step 36 = .ok (.goto (-36), 3) := dX11_step_all1.2.2.2.2.2.2.1
theorem dX11_step_39 : decode cX11_step 39 = .ok (.aload_n 0, 1) := dX11_step_all1.2.2.2.2.2.2.2.1
theorem dX11_step_40 : decode cX11_step 40 = .ok (.aload_n 0, 1) := dX11_step_all1.2.2.2.2.2.2.2.2.1
theorem dX11_step_41 : decode cX11_step 41 = .ok (.getfield 250, 3) := dX11_step_all1.2.2.2.2.2.2.2.2.2.1
theorem dX11_step_44 : decode cX11_step 44 = .ok (.putfield 256, 3) := dX11_step_all1.2.2.2.2.2.2.2.2.2.2.1
theorem dX11_step_47 : decode cX11_step 47 = .ok (.aload_n 0, 1) := dX11_step_all1.2.2.2.2.2.2.2.2.2.2.2
theorem dX11_step_all2 : decode cX11_step 48 = .ok (.aload_n 0, 1) ∧ decode cX11_step 49 = .ok (.getfield 250, 3) ∧ decode cX11_step 52 = .ok (.invokevirtual 253, 3) ∧ decode cX11_step 55 = .ok (.istore_n 1, 1) ∧ decode cX11_step 56 = .ok (.iload_n 1, 1) ∧ decode cX11_step 57 = .ok (.ldc 139, 2) ∧ decode cX11_step 59 = .ok (.if_icmp .ne 11, 3) ∧ decode cX11_step 62 = .ok (.aload_n 0, 1) ∧ decode cX11_step 63 = .ok (.iconst 1, 1) ∧ decode cX11_step 64 = .ok (.putfield 259, 3) ∧ decode cX11_step 67 = .ok (.goto 153, 3) ∧ decode cX11_step 70 = .ok (.iload_n 1, 1) := by decide +kernel
theorem dX11_step_48 : decode cX11_step 48 = .ok (.aload_n 0, 1) := dX11_step_all2.1
theorem dX11_step_49 : decode cX11_step 49 = .ok (.getfield 250, 3) := dX11_step_all2.2.1
theorem dX11_step_52 : decode cX11_step 52 = .ok (.invokevirtual 253, 3) := dX11_step_all2.2.2.1
theorem dX11_step_55 : decode cX11_step 55 = .ok (.istore_n 1, 1) := dX11_step_all2.2.2.2.1
theorem dX11_step_56 : decode cX11_step 56 = .ok (.iload_n 1, 1) := dX11_step_all2.2.2.2.2.1
theorem dX11_step_57 : decode cX11_step 57 = .ok (.ldc 139, 2) := dX11_step_all2.2.2.2.2.2.1
theorem dX11_step_59 : decode cX11_step 59 = .ok (.if_icmp .ne 11, 3) := dX11_step_all2.2.2.2.2.2.2.1
theorem dX11_step_62 : decode cX11_step 62 = .ok (.aload_n 0, 1) := dX11_step_all2.2.2.2.2.2.2.2.1
theorem dX11_step_63 : decode cX11_step 63 = .ok (.iconst 1, 1) := dX11_step_all2.2.2.2.2.2.2.2.2.1
theorem dX11_step_64 : decode cX11_step 64 = .ok (.putfield 259, 3) := dX11_step_all2.2.2.2.2.2.2.2.2.2.1
theorem dX11_step_67 : decode cX11_step 67 = .ok (.goto 153, 3) := dX11_step_all2.2.2.2.2.2.2.2.2.2.2.1
theorem dX11_step_70 : decode cX11_step 70 = .ok (.iload_n 1, 1) := dX11_step_all2.2.2.2.2.2.2.2.2.2.2.2
theorem dX11_step_all3 : decode cX11_step 71 = .ok (.invokestatic 262, 3) ∧ decode cX11_step 74 = .ok (.ifCond .eq 56, 3) ∧ decode cX11_step 77 = .ok (.aload_n 0, 1) ∧ decode cX11_step 78 = .ok (.aload_n 0, 1) ∧ decode cX11_step 79 = .ok (.getfield 250, 3) ∧ decode cX11_step 82 = .ok (.invokevirtual 253, 3) ∧ decode cX11_step 85 = .ok (.invokestatic 262, 3) ∧ decode cX11_step 88 = .ok (.ifCond .eq 16, 3) ∧ decode cX11_step 91 = .ok (.aload_n 0, 1) ∧ decode cX11_step 92 = .ok (.dup, 1) ∧ decode cX11_step 93 = .ok (.getfield 250, 3) ∧ decode cX11_step 96 = .ok (.iconst 1, 1) := by decide +kernel
theorem dX11_step_71 : decode cX11_step 71 = .ok (.invokestatic 262, 3) := dX11_step_all3.1
theorem dX11_step_74 : decode cX11_step 74 = .ok (.ifCond .eq 56, 3) := dX11_step_all3.2.1
theorem dX11_step_77 : decode cX11_step 77 = .ok (.aload_n 0, 1) := dX11_step_all3.2.2.1
theorem dX11_step_78 : decode cX11_step 78 = .ok (.aload_n 0, 1) := dX11_step_all3.2.2.2.1
theorem dX11_step_79 : decode cX11_step 79 = .ok (.getfield 250, 3) := dX11_step_all3.2.2.2.2.1
theorem dX11_step_82 : decode cX11_step 82 = .ok (.invokevirtual 253, 3) := dX11_step_all3.2.2.2.2.2.1
theorem dX11_step_85 : decode cX11_step 85 = .ok (.invokestatic 262, 3) := dX11_step_all3.2.2.2.2.2.2.1
theorem dX11_step_88 : decode cX11_step 88 = .ok (.ifCond .eq 16, 3) := dX11_step_all3.2.2.2.2.2.2.2.1
theorem dX11_step_91 : decode cX11_step 91 = .ok (.aload_n 0, 1) := dX11_step_all3.2.2.2.2.2.2.2.2.1
theorem dX11_step_92 : decode cX11_step 92 = .ok (.dup, 1) := dX11_step_all3.2.2.2.2.2.2.2.2.2.1
theorem dX11_step_93 : decode cX11_step 93 = .ok (.getfield 250, 3) := dX11_step_all3.2.2.2.2.2.2.2.2.2.2.1
theorem dX11_step_96 : decode cX11_step 96 = .ok (.iconst 1, 1) := dX11_step_all3.2.2.2.2.2.2.2.2.2.2.2
theorem dX11_step_all4 : decode cX11_step 97 = .ok (.iadd, 1) ∧ decode cX11_step 98 = .ok (.putfield 250, 3) ∧ decode cX11_step 101 = .ok (.goto (-24), 3) ∧ decode cX11_step 104 = .ok (.aload_n 0, 1) ∧ decode cX11_step 105 = .ok (.aload_n 0, 1) ∧ decode cX11_step 106 = .ok (.getfield 250, 3) ∧ decode cX11_step 109 = .ok (.aload_n 0, 1) ∧ decode cX11_step 110 = .ok (.getfield 256, 3) ∧ decode cX11_step 113 = .ok (.isub, 1) ∧ decode cX11_step 114 = .ok (.bipush 6, 2) ∧ decode cX11_step 116 = .ok (.if_icmp .le 7, 3) ∧ decode cX11_step 119 = .ok (.iconst 0, 1) := by decide +kernel
theorem dX11_step_97 : decode cX11_step 97 = .ok (.iadd, 1) := dX11_step_all4.1
theorem dX11_step_98 : decode cX11_step 98 = .ok (.putfield 250, 3) := dX11_step_all4.2.1
theorem dX11_step_101 : decode cX11_step 101 = .ok (.goto (-24), 3) := dX11_step_all4.2.2.1
theorem dX11_step_104 : decode cX11_step 104 = .ok (.aload_n 0, 1) := dX11_step_all4.2.2.2.1
theorem dX11_step_105 : decode cX11_step 105 = .ok (.aload_n 0, 1) := dX11_step_all4.2.2.2.2.1
theorem dX11_step_106 : decode cX11_step 106 = .ok (.getfield 250, 3) := dX11_step_all4.2.2.2.2.2.1
theorem dX11_step_109 : decode cX11_step 109 = .ok (.aload_n 0, 1) := dX11_step_all4.2.2.2.2.2.2.1
theorem dX11_step_110 : decode cX11_step 110 = .ok (.getfield 256, 3) := dX11_step_all4.2.2.2.2.2.2.2.1
theorem dX11_step_113 : decode cX11_step 113 = .ok (.isub, 1) := dX11_step_all4.2.2.2.2.2.2.2.2.1
theorem dX11_step_114 : decode cX11_step 114 = .ok (.bipush 6, 2) := dX11_step_all4.2.2.2.2.2.2.2.2.2.1
theorem dX11_step_116 : decode cX11_step 116 = .ok (.if_icmp .le 7, 3) := dX11_step_all4.2.2.2.2.2.2.2.2.2.2.1
theorem dX11_step_119 : decode cX11_step 119 = .ok (.iconst 0, 1) := dX11_step_all4.2.2.2.2.2.2.2.2.2.2.2
theorem dX11_step_all5 : decode cX11_step 120 = .ok (.goto 4, 3) ∧ decode cX11_step 123 = .ok (.iconst 2, 1) ∧ decode cX11_step 124 = .ok (.putfield 259, 3) ∧ decode cX11_step 127 = .ok (.goto 93, 3) ∧ decode cX11_step 130 = .ok (.iload_n 1, 1) ∧ decode cX11_step 131 = .ok (.invokestatic 265, 3) ∧ decode cX11_step 134 = .ok (.ifCond .eq 55, 3) ∧ decode cX11_step 137 = .ok (.aload_n 0, 1) ∧ decode cX11_step 138 = .ok (.aload_n 0, 1) ∧ decode cX11_step 139 = .ok (.getfield 250, 3) ∧ decode cX11_step 142 = .ok (.invokevirtual 253, 3) ∧ decode cX11_step 145 = .ok (.invokestatic 265, 3) := by decide +kernel
theorem dX11_step_120 : decode cX11_step 120 = .ok (.goto 4, 3) := dX11_step_all5.1
theorem dX11_step_123 : decode cX11_step 123 = .ok (.iconst 2, 1) := dX11_step_all5.2.1
theorem dX11_step_124 : decode cX11_step 124 = .ok (.putfield 259, 3) := dX11_step_all5.2.2.1
theorem dX11_step_127 : decode cX11_step 127 = .ok (.goto 93, 3) := dX11_step_all5.2.2.2.1
theorem dX11_step_130 : decode cX11_step 130 = .ok (.iload_n 1, 1) := dX11_step_all5.2.2.2.2.1
theorem dX11_step_131 : decode cX11_step 131 = .ok (.invokestatic 265, 3) := dX11_step_all5.2.2.2.2.2.1
theorem dX11_step_134 : decode cX11_step 134 = .ok (.ifCond .eq 55, 3) := dX11_step_all5.2.2.2.2.2.2.1
theorem dX11_step_137 : decode cX11_step 137 = .ok (.aload_n 0, 1) := dX11_step_all5.2.2.2.2.2.2.2.1
theorem dX11_step_138 : decode cX11_step 138 = .ok (.aload_n 0, 1) := dX11_step_all5.2.2.2.2.2.2.2.2.1
theorem dX11_step_139 : decode cX11_step 139 = .ok (.getfield 250, 3) := dX11_step_all5.2.2.2.2.2.2.2.2.2.1
theorem dX11_step_142 : decode cX11_step 142 = .ok (.invokevirtual 253, 3) := dX11_step_all5.2.2.2.2.2.2.2.2.2.2.1
theorem dX11_step_145 : decode cX11_step 145 = .ok (.invokestatic 265, 3) := dX11_step_all5.2.2.2.2.2.2.2.2.2.2.2
theorem dX11_step_all6 : decode cX11_step 148 = .ok (.ifCond .eq 16, 3) ∧ decode cX11_step 151 = .ok (.aload_n 0, 1) ∧ decode cX11_step 152 = .ok (.dup, 1) ∧ decode cX11_step 153 = .ok (.getfield 250, 3) ∧ decode cX11_step 156 = .ok (.iconst 1, 1) ∧ decode cX11_step 157 = .ok (.iadd, 1) ∧ decode cX11_step 158 = .ok (.putfield 250, 3) ∧ decode cX11_step 161 = .ok (.goto (-24), 3) ∧ decode cX11_step 164 = .ok (.aload_n 0, 1) ∧ decode cX11_step 165 = .ok (.aload_n 0, 1) ∧ decode cX11_step 166 = .ok (.getfield 250, 3) ∧ decode cX11_step 169 = .ok (.aload_n 0, 1) := by decide +kernel
theorem dX11_step_148 : decode cX11_step 148 = .ok (.ifCond .eq 16, 3) := dX11_step_all6.1
theorem dX11_step_151 : decode cX11_step 151 = .ok (.aload_n 0, 1) := dX11_step_all6.2.1
theorem dX11_step_152 : decode cX11_step 152 = .ok (.dup, 1) := dX11_step_all6.2.2.1
theorem dX11_step_153 : decode cX11_step 153 = .ok (.getfield 250, 3) := dX11_step_all6.2.2.2.1
theorem dX11_step_156 : decode cX11_step 156 = .ok (.iconst 1, 1) := dX11_step_all6.2.2.2.2.1
theorem dX11_step_157 : decode cX11_step 157 = .ok (.iadd, 1) := dX11_step_all6.2.2.2.2.2.1
theorem dX11_step_158 : decode cX11_step 158 = .ok (.putfield 250, 3) := dX11_step_all6.2.2.2.2.2.2.1
theorem dX11_step_161 : decode cX11_step 161 = .ok (.goto (-24), 3) := dX11_step_all6.2.2.2.2.2.2.2.1
theorem dX11_step_164 : decode cX11_step 164 = .ok (.aload_n 0, 1) := dX11_step_all6.2.2.2.2.2.2.2.2.1
theorem dX11_step_165 : decode cX11_step 165 = .ok (.aload_n 0, 1) := dX11_step_all6.2.2.2.2.2.2.2.2.2.1
theorem dX11_step_166 : decode cX11_step 166 = .ok (.getfield 250, 3) := dX11_step_all6.2.2.2.2.2.2.2.2.2.2.1
theorem dX11_step_169 : decode cX11_step 169 = .ok (.aload_n 0, 1) := dX11_step_all6.2.2.2.2.2.2.2.2.2.2.2
theorem dX11_step_all7 : decode cX11_step 170 = .ok (.getfield 256, 3) ∧ decode cX11_step 173 = .ok (.isub, 1) ∧ decode cX11_step 174 = .ok (.iconst 4, 1) ∧ decode cX11_step 175 = .ok (.if_icmp .le 7, 3) ∧ decode cX11_step 178 = .ok (.iconst 0, 1) ∧ decode cX11_step 179 = .ok (.goto 4, 3) ∧ decode cX11_step 182 = .ok (.iconst 3, 1) ∧ decode cX11_step 183 = .ok (.putfield 259, 3) ∧ decode cX11_step 186 = .ok (.goto 34, 3) ∧ decode cX11_step 189 = .ok (.aload_n 0, 1) ∧ decode cX11_step 190 = .ok (.dup, 1) ∧ decode cX11_step 191 = .ok (.getfield 250, 3) := by decide +kernel
theorem dX11_step_170 : decode cX11_step 170 = .ok (.getfield 256, 3) := dX11_step_all7.1
theorem dX11_step_173 : decode cX11_step 173 = .ok (.isub, 1) := dX11_step_all7.2.1
theorem dX11_step_174 : decode cX11_step 174 = .ok (.iconst 4, 1) := dX11_step_all7.2.2.1
theorem dX11_step_175 : decode cX11_step 175 = .ok (.if_icmp .le 7, 3) := dX11_step_all7.2.2.2.1
theorem dX11_step_178 : decode cX11_step 178 = .ok (.iconst 0, 1) := dX11_step_all7.2.2.2.2.1
theorem dX11_step_179 : decode cX11_step 179 = .ok (.goto 4, 3) := dX11_step_all7.2.2.2.2.2.1
theorem dX11_step_182 : decode cX11_step 182 = .ok (.iconst 3, 1) := dX11_step_all7.2.2.2.2.2.2.1
theorem dX11_step_183 : decode cX11_step 183 = .ok (.putfield 259, 3) := dX11_step_all7.2.2.2.2.2.2.2.1
theorem dX11_step_186 : decode cX11_step 186 = .ok (.goto 34, 3) := dX11_step_all7.2.2.2.2.2.2.2.2.1
theorem dX11_step_189 : decode cX11_step 189 = .ok (.aload_n 0, 1) := dX11_step_all7.2.2.2.2.2.2.2.2.2.1
theorem dX11_step_190 : decode cX11_step 190 = .ok (.dup, 1) := dX11_step_all7.2.2.2.2.2.2.2.2.2.2.1
theorem dX11_step_191 : decode cX11_step 191 = .ok (.getfield 250, 3) := dX11_step_all7.2.2.2.2.2.2.2.2.2.2.2
theorem dX11_step_all8 : decode cX11_step 194 = .ok (.iconst 1, 1) ∧ decode cX11_step 195 = .ok (.iadd, 1) ∧ decode cX11_step 196 = .ok (.putfield 250, 3) ∧ decode cX11_step 199 = .ok (.aload_n 0, 1) ∧ decode cX11_step 200 = .ok (.iload_n 1, 1) ∧ decode cX11_step 201 = .ok (.bipush 59, 2) ∧ decode cX11_step 203 = .ok (.if_icmp .eq 9, 3) ∧ decode cX11_step 206 = .ok (.iload_n 1, 1) ∧ decode cX11_step 207 = .ok (.bipush 62, 2) ∧ decode cX11_step 209 = .ok (.if_icmp .ne 7, 3) ∧ decode cX11_step 212 = .ok (.iconst 4, 1) ∧ decode cX11_step 213 = .ok (.goto 4, 3) := by decide +kernel
theorem dX11_step_194 : decode cX11_step 194 = .ok (.iconst 1, 1) := dX11_step_all8.1
theorem dX11_step_195 : decode cX11_step 195 = .ok (.iadd, 1) := dX11_step_all8.2.1
theorem dX11_step_196 : decode cX11_step 196 = .ok (.putfield 250, 3) := dX11_step_all8.2.2.1
theorem dX11_step_199 : decode cX11_step 199 = .ok (.aload_n 0, 1) := dX11_step_all8.2.2.2.1
theorem dX11_step_200 : decode cX11_step 200 = .ok (.iload_n 1, 1) := dX11_step_all8.2.2.2.2.1
theorem dX11_step_201 : decode cX11_step 201 = .ok (.bipush 59, 2) := dX11_step_all8.2.2.2.2.2.1
theorem dX11_step_203 : decode cX11_step 203 = .ok (.if_icmp .eq 9, 3) := dX11_step_all8.2.2.2.2.2.2.1
theorem dX11_step_206 : decode cX11_step 206 = .ok (.iload_n 1, 1) := dX11_step_all8.2.2.2.2.2.2.2.1
theorem dX11_step_207 : decode cX11_step 207 = .ok (.bipush 62, 2) := dX11_step_all8.2.2.2.2.2.2.2.2.1
theorem dX11_step_209 : decode cX11_step 209 = .ok (.if_icmp .ne 7, 3) := dX11_step_all8.2.2.2.2.2.2.2.2.2.1
theorem dX11_step_212 : decode cX11_step 212 = .ok (.iconst 4, 1) := dX11_step_all8.2.2.2.2.2.2.2.2.2.2.1
theorem dX11_step_213 : decode cX11_step 213 = .ok (.goto 4, 3) := dX11_step_all8.2.2.2.2.2.2.2.2.2.2.2
theorem dX11_step_all9 : decode cX11_step 216 = .ok (.iconst 0, 1) ∧ decode cX11_step 217 = .ok (.putfield 259, 3) ∧ decode cX11_step 220 = .ok (.aload_n 0, 1) ∧ decode cX11_step 221 = .ok (.aload_n 0, 1) ∧ decode cX11_step 222 = .ok (.getfield 250, 3) ∧ decode cX11_step 225 = .ok (.putfield 268, 3) ∧ decode cX11_step 228 = .ok (.return_, 1) := by decide +kernel
theorem dX11_step_216 : decode cX11_step 216 = .ok (.iconst 0, 1) := dX11_step_all9.1
theorem dX11_step_217 : decode cX11_step 217 = .ok (.putfield 259, 3) := dX11_step_all9.2.1
theorem dX11_step_220 : decode cX11_step 220 = .ok (.aload_n 0, 1) := dX11_step_all9.2.2.1
theorem dX11_step_221 : decode cX11_step 221 = .ok (.aload_n 0, 1) := dX11_step_all9.2.2.2.1
theorem dX11_step_222 : decode cX11_step 222 = .ok (.getfield 250, 3) := dX11_step_all9.2.2.2.2.1
theorem dX11_step_225 : decode cX11_step 225 = .ok (.putfield 268, 3) := dX11_step_all9.2.2.2.2.2.1
theorem dX11_step_228 : decode cX11_step 228 = .ok (.return_, 1) := dX11_step_all9.2.2.2.2.2.2
theorem dX11_bad_all0 : decode cX11_bad 0 = .ok (.aload_n 0, 1) ∧ decode cX11_bad 1 = .ok (.getfield 271, 3) ∧ decode cX11_bad 4 = .ok (.ifCond .ne 16, 3) ∧ decode cX11_bad 7 = .ok (.aload_n 0, 1) ∧ decode cX11_bad 8 = .ok (.iload_n 1, 1) ∧ decode cX11_bad 9 = .ok (.putfield 271, 3) ∧ decode cX11_bad 12 = .ok (.aload_n 0, 1) ∧ decode cX11_bad 13 = .ok (.aload_n 0, 1) ∧ decode cX11_bad 14 = .ok (.getfield 256, 3) ∧ decode cX11_bad 17 = .ok (.putfield 274, 3) ∧ decode cX11_bad 20 = .ok (.return_, 1) := by decide +kernel
theorem dX11_bad_0 : decode cX11_bad 0 = .ok (.aload_n 0, 1) := dX11_bad_all0.1
theorem dX11_bad_1 : decode cX11_bad 1 = .ok (.getfield 271, 3) := dX11_bad_all0.2.1
theorem dX11_bad_4 : decode cX11_bad 4 = .ok (.ifCond .ne 16, 3) := dX11_bad_all0.2.2.1
theorem dX11_bad_7 : decode cX11_bad 7 = .ok (.aload_n 0, 1) := dX11_bad_all0.2.2.2.1
theorem dX11_bad_8 : decode cX11_bad 8 = .ok (.iload_n 1, 1) := dX11_bad_all0.2.2.2.2.1
theorem dX11_bad_9 : decode cX11_bad 9 = .ok (.putfield 271, 3) := dX11_bad_all0.2.2.2.2.2.1
theorem dX11_bad_12 : decode cX11_bad 12 = .ok (.aload_n 0, 1) := dX11_bad_all0.2.2.2.2.2.2.1
theorem dX11_bad_13 : decode cX11_bad 13 = .ok (.aload_n 0, 1) := dX11_bad_all0.2.2.2.2.2.2.2.1
theorem dX11_bad_14 : decode cX11_bad 14 = .ok (.getfield 256, 3) := dX11_bad_all0.2.2.2.2.2.2.2.2.1
theorem dX11_bad_17 : decode cX11_bad 17 = .ok (.putfield 274, 3) := dX11_bad_all0.2.2.2.2.2.2.2.2.2.1
theorem dX11_bad_20 : decode cX11_bad 20 = .ok (.return_, 1) := dX11_bad_all0.2.2.2.2.2.2.2.2.2.2
theorem ggX11_need_X11_bad : GoodIn wsX11_need wsX11_bad := goodIn_s (fun _ h => wm_t (wm_r (wm_l (wm_r h)))) Gd_X11_bad
theorem gX11_need_X11_bad : GoodIn wsX11_need (wsV RX11 277 RX11 yX11_bad wsX11_bad) := goodIn_V (own := RX11) (idx := 277) (C := RX11) (y := yX11_bad) (wm_t (wm_l (wm_i 1 rfl))) (wm_t (wm_l (wm_i 2 rfl))) (wm_t (wm_l (wm_i 3 rfl))) (wm_t (wm_l (wm_i 4 rfl))) ggX11_need_X11_bad
theorem ggX11_need_X11_step : GoodIn wsX11_need wsX11_step := goodIn_s (fun _ h => wm_t (wm_r (wm_r h))) Gd_X11_step
theorem gX11_need_X11_step : GoodIn wsX11_need (wsV RX11 280 RX11 yX11_step wsX11_step) := goodIn_V (own := RX11) (idx := 280) (C := RX11) (y := yX11_step) (wm_t (wm_l (wm_i 5 rfl))) (wm_t (wm_l (wm_i 6 rfl))) (wm_t (wm_l (wm_i 7 rfl))) (wm_t (wm_l (wm_i 4 rfl))) ggX11_need_X11_step
theorem dX11_need_all0 : decode cX11_need 0 = .ok (.iload_n 1, 1) ∧ decode cX11_need 1 = .ok (.ifCond .ne 8, 3) ∧ decode cX11_need 4 = .ok (.aload_n 0, 1) ∧ decode cX11_need 5 = .ok (.iconst 1, 1) ∧ decode cX11_need 6 = .ok (.invokevirtual 277, 3) ∧ decode cX11_need 9 = .ok (.aload_n 0, 1) ∧ decode cX11_need 10 = .ok (.getfield 271, 3) ∧ decode cX11_need 13 = .ok (.ifCond .ne 7, 3) ∧ decode cX11_need 16 = .ok (.aload_n 0, 1) ∧ decode cX11_need 17 = .ok (.invokevirtual 280, 3) ∧ decode cX11_need 20 = .ok (.return_, 1) := by decide +kernel
theorem dX11_need_0 : decode cX11_need 0 = .ok (.iload_n 1, 1) := dX11_need_all0.1
theorem dX11_need_1 : decode cX11_need 1 = .ok (.ifCond .ne 8, 3) := dX11_need_all0.2.1
theorem dX11_need_4 : decode cX11_need 4 = .ok (.aload_n 0, 1) := dX11_need_all0.2.2.1
theorem dX11_need_5 : decode cX11_need 5 = .ok (.iconst 1, 1) := dX11_need_all0.2.2.2.1
theorem dX11_need_6 : decode cX11_need 6 = .ok (.invokevirtual 277, 3) := dX11_need_all0.2.2.2.2.1
theorem dX11_need_9 : decode cX11_need 9 = .ok (.aload_n 0, 1) := dX11_need_all0.2.2.2.2.2.1
theorem dX11_need_10 : decode cX11_need 10 = .ok (.getfield 271, 3) := dX11_need_all0.2.2.2.2.2.2.1
theorem dX11_need_13 : decode cX11_need 13 = .ok (.ifCond .ne 7, 3) := dX11_need_all0.2.2.2.2.2.2.2.1
theorem dX11_need_16 : decode cX11_need 16 = .ok (.aload_n 0, 1) := dX11_need_all0.2.2.2.2.2.2.2.2.1
theorem dX11_need_17 : decode cX11_need 17 = .ok (.invokevirtual 280, 3) := dX11_need_all0.2.2.2.2.2.2.2.2.2.1
theorem dX11_need_20 : decode cX11_need 20 = .ok (.return_, 1) := dX11_need_all0.2.2.2.2.2.2.2.2.2.2
theorem dX11_is_all0 : decode cX11_is 0 = .ok (.aload_n 0, 1) ∧ decode cX11_is 1 = .ok (.getfield 259, 3) ∧ decode cX11_is 4 = .ok (.iconst 4, 1) ∧ decode cX11_is 5 = .ok (.if_icmp .ne 20, 3) ∧ decode cX11_is 8 = .ok (.aload_n 0, 1) ∧ decode cX11_is 9 = .ok (.getfield 87, 3) ∧ decode cX11_is 12 = .ok (.aload_n 0, 1) ∧ decode cX11_is 13 = .ok (.getfield 256, 3) ∧ decode cX11_is 16 = .ok (.iaload, 1) ∧ decode cX11_is 17 = .ok (.iload_n 1, 1) ∧ decode cX11_is 18 = .ok (.if_icmp .ne 7, 3) ∧ decode cX11_is 21 = .ok (.iconst 1, 1) := by decide +kernel
theorem dX11_is_0 : decode cX11_is 0 = .ok (.aload_n 0, 1) := dX11_is_all0.1
theorem dX11_is_1 : decode cX11_is 1 = .ok (.getfield 259, 3) := dX11_is_all0.2.1
theorem dX11_is_4 : decode cX11_is 4 = .ok (.iconst 4, 1) := dX11_is_all0.2.2.1
theorem dX11_is_5 : decode cX11_is 5 = .ok (.if_icmp .ne 20, 3) := dX11_is_all0.2.2.2.1
theorem dX11_is_8 : decode cX11_is 8 = .ok (.aload_n 0, 1) := dX11_is_all0.2.2.2.2.1
theorem dX11_is_9 : decode cX11_is 9 = .ok (.getfield 87, 3) := dX11_is_all0.2.2.2.2.2.1
theorem dX11_is_12 : decode cX11_is 12 = .ok (.aload_n 0, 1) := dX11_is_all0.2.2.2.2.2.2.1
theorem dX11_is_13 : decode cX11_is 13 = .ok (.getfield 256, 3) := dX11_is_all0.2.2.2.2.2.2.2.1
theorem dX11_is_16 : decode cX11_is 16 = .ok (.iaload, 1) := dX11_is_all0.2.2.2.2.2.2.2.2.1
theorem dX11_is_17 : decode cX11_is 17 = .ok (.iload_n 1, 1) := dX11_is_all0.2.2.2.2.2.2.2.2.2.1
theorem dX11_is_18 : decode cX11_is 18 = .ok (.if_icmp .ne 7, 3) := dX11_is_all0.2.2.2.2.2.2.2.2.2.2.1
theorem dX11_is_21 : decode cX11_is 21 = .ok (.iconst 1, 1) := dX11_is_all0.2.2.2.2.2.2.2.2.2.2.2
theorem dX11_is_all1 : decode cX11_is 22 = .ok (.goto 4, 3) ∧ decode cX11_is 25 = .ok (.iconst 0, 1) ∧ decode cX11_is 26 = .ok (.ireturn, 1) := by decide +kernel
theorem dX11_is_22 : decode cX11_is 22 = .ok (.goto 4, 3) := dX11_is_all1.1
theorem dX11_is_25 : decode cX11_is 25 = .ok (.iconst 0, 1) := dX11_is_all1.2.1
theorem dX11_is_26 : decode cX11_is 26 = .ok (.ireturn, 1) := dX11_is_all1.2.2
theorem dX11_word_all0 : decode cX11_word 0 = .ok (.lconst 0, 1) ∧ decode cX11_word 1 = .ok (.lstore_n 1, 1) ∧ decode cX11_word 2 = .ok (.aload_n 0, 1) ∧ decode cX11_word 3 = .ok (.getfield 256, 3) ∧ decode cX11_word 6 = .ok (.istore_n 3, 1) ∧ decode cX11_word 7 = .ok (.iload_n 3, 1) ∧ decode cX11_word 8 = .ok (.aload_n 0, 1) ∧ decode cX11_word 9 = .ok (.getfield 268, 3) ∧ decode cX11_word 12 = .ok (.if_icmp .ge 30, 3) ∧ decode cX11_word 15 = .ok (.aload_n 0, 1) ∧ decode cX11_word 16 = .ok (.getfield 259, 3) ∧ decode cX11_word 19 = .ok (.iconst 2, 1) := by decide +kernel
theorem dX11_word_0 : decode cX11_word 0 = .ok (.lconst 0, 1) := dX11_word_all0.1
theorem dX11_word_1 : decode cX11_word 1 = .ok (.lstore_n 1, 1) := dX11_word_all0.2.1
theorem dX11_word_2 : decode cX11_word 2 = .ok (.aload_n 0, 1) := dX11_word_all0.2.2.1
theorem dX11_word_3 : decode cX11_word 3 = .ok (.getfield 256, 3) := dX11_word_all0.2.2.2.1
theorem dX11_word_6 : decode cX11_word 6 = .ok (.istore_n 3, 1) := dX11_word_all0.2.2.2.2.1
theorem dX11_word_7 : decode cX11_word 7 = .ok (.iload_n 3, 1) := dX11_word_all0.2.2.2.2.2.1
theorem dX11_word_8 : decode cX11_word 8 = .ok (.aload_n 0, 1) := dX11_word_all0.2.2.2.2.2.2.1
theorem dX11_word_9 : decode cX11_word 9 = .ok (.getfield 268, 3) := dX11_word_all0.2.2.2.2.2.2.2.1
theorem dX11_word_12 : decode cX11_word 12 = .ok (.if_icmp .ge 30, 3) := dX11_word_all0.2.2.2.2.2.2.2.2.1
theorem dX11_word_15 : decode cX11_word 15 = .ok (.aload_n 0, 1) := dX11_word_all0.2.2.2.2.2.2.2.2.2.1
theorem dX11_word_16 : decode cX11_word 16 = .ok (.getfield 259, 3) := dX11_word_all0.2.2.2.2.2.2.2.2.2.2.1
theorem dX11_word_19 : decode cX11_word 19 = .ok (.iconst 2, 1) := dX11_word_all0.2.2.2.2.2.2.2.2.2.2.2
theorem dX11_word_all1 : decode cX11_word 20 = .ok (.if_icmp .ne 22, 3) ∧ decode cX11_word 23 = .ok (.lload_n 1, 1) ∧ decode cX11_word 24 = .ok (.bipush 8, 2) ∧ decode cX11_word 26 = .ok (.lshl, 1) ∧ decode cX11_word 27 = .ok (.aload_n 0, 1) ∧ decode cX11_word 28 = .ok (.getfield 87, 3) ∧ decode cX11_word 31 = .ok (.iload_n 3, 1) ∧ decode cX11_word 32 = .ok (.iaload, 1) ∧ decode cX11_word 33 = .ok (.i2l, 1) ∧ decode cX11_word 34 = .ok (.lor, 1) ∧ decode cX11_word 35 = .ok (.lstore_n 1, 1) ∧ decode cX11_word 36 = .ok (.iinc 3 1, 3) := by decide +kernel
theorem dX11_word_20 : decode cX11_word 20 = .ok (.if_icmp .ne 22, 3) := dX11_word_all1.1
theorem dX11_word_23 : decode cX11_word 23 = .ok (.lload_n 1, 1) := dX11_word_all1.2.1
theorem dX11_word_24 : decode cX11_word 24 = .ok (.bipush 8, 2) := dX11_word_all1.2.2.1
theorem dX11_word_26 : decode cX11_word 26 = .ok (.lshl, 1) := dX11_word_all1.2.2.2.1
theorem dX11_word_27 : decode cX11_word 27 = .ok (.aload_n 0, 1) := dX11_word_all1.2.2.2.2.1
theorem dX11_word_28 : decode cX11_word 28 = .ok (.getfield 87, 3) := dX11_word_all1.2.2.2.2.2.1
theorem dX11_word_31 : decode cX11_word 31 = .ok (.iload_n 3, 1) := dX11_word_all1.2.2.2.2.2.2.1
theorem dX11_word_32 : decode cX11_word 32 = .ok (.iaload, 1) := dX11_word_all1.2.2.2.2.2.2.2.1
theorem dX11_word_33 : decode cX11_word 33 = .ok (.i2l, 1) := dX11_word_all1.2.2.2.2.2.2.2.2.1
theorem dX11_word_34 : decode cX11_word 34 = .ok (.lor, 1) := dX11_word_all1.2.2.2.2.2.2.2.2.2.1
theorem dX11_word_35 : decode cX11_word 35 = .ok (.lstore_n 1, 1) := dX11_word_all1.2.2.2.2.2.2.2.2.2.2.1
theorem dX11_word_36 : decode cX11_word 36 = .ok (.iinc 3 1, 3) := dX11_word_all1.2.2.2.2.2.2.2.2.2.2.2
theorem dX11_word_all2 : decode cX11_word 39 = .ok (.goto (-32), 3) ∧ decode cX11_word 42 = .ok (.lload_n 1, 1) ∧ decode cX11_word 43 = .ok (.lreturn, 1) := by decide +kernel
theorem dX11_word_39 : decode cX11_word 39 = .ok (.goto (-32), 3) := dX11_word_all2.1
theorem dX11_word_42 : decode cX11_word 42 = .ok (.lload_n 1, 1) := dX11_word_all2.2.1
theorem dX11_word_43 : decode cX11_word 43 = .ok (.lreturn, 1) := dX11_word_all2.2.2
theorem ggX11_numberUpTo_X11_bad : GoodIn wsX11_numberUpTo wsX11_bad := goodIn_s (fun _ h => wm_t (wm_r (wm_l (wm_r h)))) Gd_X11_bad
theorem gX11_numberUpTo_X11_bad : GoodIn wsX11_numberUpTo (wsV RX11 277 RX11 yX11_bad wsX11_bad) := goodIn_V (own := RX11) (idx := 277) (C := RX11) (y := yX11_bad) (wm_t (wm_l (wm_i 4 rfl))) (wm_t (wm_l (wm_i 5 rfl))) (wm_t (wm_r (wm_r (wm_t (wm_l (wm_i 3 rfl)))))) (wm_t (wm_l (wm_i 6 rfl))) ggX11_numberUpTo_X11_bad
theorem ggX11_numberUpTo_X11_need : GoodIn wsX11_numberUpTo wsX11_need := goodIn_s (fun _ h => wm_t (wm_r (wm_r h))) Gd_X11_need
theorem gX11_numberUpTo_X11_need : GoodIn wsX11_numberUpTo (wsV RX11 283 RX11 yX11_need wsX11_need) := goodIn_V (own := RX11) (idx := 283) (C := RX11) (y := yX11_need) (wm_t (wm_l (wm_i 7 rfl))) (wm_t (wm_l (wm_i 8 rfl))) (wm_t (wm_l (wm_i 9 rfl))) (wm_t (wm_l (wm_i 6 rfl))) ggX11_numberUpTo_X11_need
theorem dX11_numberUpTo_all0 : decode cX11_numberUpTo 0 = .ok (.iconst 0, 1) ∧ decode cX11_numberUpTo 1 = .ok (.istore_n 2, 1) ∧ decode cX11_numberUpTo 2 = .ok (.aload_n 0, 1) ∧ decode cX11_numberUpTo 3 = .ok (.getfield 256, 3) ∧ decode cX11_numberUpTo 6 = .ok (.istore_n 3, 1) ∧ decode cX11_numberUpTo 7 = .ok (.iload_n 3, 1) ∧ decode cX11_numberUpTo 8 = .ok (.aload_n 0, 1) ∧ decode cX11_numberUpTo 9 = .ok (.getfield 268, 3) ∧ decode cX11_numberUpTo 12 = .ok (.if_icmp .ge 32, 3) ∧ decode cX11_numberUpTo 15 = .ok (.aload_n 0, 1) ∧ decode cX11_numberUpTo 16 = .ok (.getfield 259, 3) ∧ decode cX11_numberUpTo 19 = .ok (.iconst 3, 1) := by decide +kernel
theorem dX11_numberUpTo_0 : decode cX11_numberUpTo 0 = .ok (.iconst 0, 1) := dX11_numberUpTo_all0.1
theorem dX11_numberUpTo_1 : decode cX11_numberUpTo 1 = .ok (.istore_n 2, 1) := dX11_numberUpTo_all0.2.1
theorem dX11_numberUpTo_2 : decode cX11_numberUpTo 2 = .ok (.aload_n 0, 1) := dX11_numberUpTo_all0.2.2.1
theorem dX11_numberUpTo_3 : decode cX11_numberUpTo 3 = .ok (.getfield 256, 3) := dX11_numberUpTo_all0.2.2.2.1
theorem dX11_numberUpTo_6 : decode cX11_numberUpTo 6 = .ok (.istore_n 3, 1) := dX11_numberUpTo_all0.2.2.2.2.1
theorem dX11_numberUpTo_7 : decode cX11_numberUpTo 7 = .ok (.iload_n 3, 1) := dX11_numberUpTo_all0.2.2.2.2.2.1
theorem dX11_numberUpTo_8 : decode cX11_numberUpTo 8 = .ok (.aload_n 0, 1) := dX11_numberUpTo_all0.2.2.2.2.2.2.1
theorem dX11_numberUpTo_9 : decode cX11_numberUpTo 9 = .ok (.getfield 268, 3) := dX11_numberUpTo_all0.2.2.2.2.2.2.2.1
theorem dX11_numberUpTo_12 : decode cX11_numberUpTo 12 = .ok (.if_icmp .ge 32, 3) := dX11_numberUpTo_all0.2.2.2.2.2.2.2.2.1
theorem dX11_numberUpTo_15 : decode cX11_numberUpTo 15 = .ok (.aload_n 0, 1) := dX11_numberUpTo_all0.2.2.2.2.2.2.2.2.2.1
theorem dX11_numberUpTo_16 : decode cX11_numberUpTo 16 = .ok (.getfield 259, 3) := dX11_numberUpTo_all0.2.2.2.2.2.2.2.2.2.2.1
theorem dX11_numberUpTo_19 : decode cX11_numberUpTo 19 = .ok (.iconst 3, 1) := dX11_numberUpTo_all0.2.2.2.2.2.2.2.2.2.2.2
theorem dX11_numberUpTo_all1 : decode cX11_numberUpTo 20 = .ok (.if_icmp .ne 24, 3) ∧ decode cX11_numberUpTo 23 = .ok (.bipush 10, 2) ∧ decode cX11_numberUpTo 25 = .ok (.iload_n 2, 1) ∧ decode cX11_numberUpTo 26 = .ok (.imul, 1) ∧ decode cX11_numberUpTo 27 = .ok (.aload_n 0, 1) ∧ decode cX11_numberUpTo 28 = .ok (.getfield 87, 3) ∧ decode cX11_numberUpTo 31 = .ok (.iload_n 3, 1) ∧ decode cX11_numberUpTo 32 = .ok (.iaload, 1) ∧ decode cX11_numberUpTo 33 = .ok (.iadd, 1) ∧ decode cX11_numberUpTo 34 = .ok (.bipush 48, 2) ∧ decode cX11_numberUpTo 36 = .ok (.isub, 1) ∧ decode cX11_numberUpTo 37 = .ok (.istore_n 2, 1) := by decide +kernel
theorem dX11_numberUpTo_20 : decode cX11_numberUpTo 20 = .ok (.if_icmp .ne 24, 3) := dX11_numberUpTo_all1.1
theorem dX11_numberUpTo_23 : decode cX11_numberUpTo 23 = .ok (.bipush 10, 2) := dX11_numberUpTo_all1.2.1
theorem dX11_numberUpTo_25 : decode cX11_numberUpTo 25 = .ok (.iload_n 2, 1) := dX11_numberUpTo_all1.2.2.1
theorem dX11_numberUpTo_26 : decode cX11_numberUpTo 26 = .ok (.imul, 1) := dX11_numberUpTo_all1.2.2.2.1
theorem dX11_numberUpTo_27 : decode cX11_numberUpTo 27 = .ok (.aload_n 0, 1) := dX11_numberUpTo_all1.2.2.2.2.1
theorem dX11_numberUpTo_28 : decode cX11_numberUpTo 28 = .ok (.getfield 87, 3) := dX11_numberUpTo_all1.2.2.2.2.2.1
theorem dX11_numberUpTo_31 : decode cX11_numberUpTo 31 = .ok (.iload_n 3, 1) := dX11_numberUpTo_all1.2.2.2.2.2.2.1
theorem dX11_numberUpTo_32 : decode cX11_numberUpTo 32 = .ok (.iaload, 1) := dX11_numberUpTo_all1.2.2.2.2.2.2.2.1
theorem dX11_numberUpTo_33 : decode cX11_numberUpTo 33 = .ok (.iadd, 1) := dX11_numberUpTo_all1.2.2.2.2.2.2.2.2.1
theorem dX11_numberUpTo_34 : decode cX11_numberUpTo 34 = .ok (.bipush 48, 2) := dX11_numberUpTo_all1.2.2.2.2.2.2.2.2.2.1
theorem dX11_numberUpTo_36 : decode cX11_numberUpTo 36 = .ok (.isub, 1) := dX11_numberUpTo_all1.2.2.2.2.2.2.2.2.2.2.1
theorem dX11_numberUpTo_37 : decode cX11_numberUpTo 37 = .ok (.istore_n 2, 1) := dX11_numberUpTo_all1.2.2.2.2.2.2.2.2.2.2.2
theorem dX11_numberUpTo_all2 : decode cX11_numberUpTo 38 = .ok (.iinc 3 1, 3) ∧ decode cX11_numberUpTo 41 = .ok (.goto (-34), 3) ∧ decode cX11_numberUpTo 44 = .ok (.aload_n 0, 1) ∧ decode cX11_numberUpTo 45 = .ok (.getfield 259, 3) ∧ decode cX11_numberUpTo 48 = .ok (.iconst 3, 1) ∧ decode cX11_numberUpTo 49 = .ok (.if_icmp .ne 13, 3) ∧ decode cX11_numberUpTo 52 = .ok (.iload_n 2, 1) ∧ decode cX11_numberUpTo 53 = .ok (.iload_n 1, 1) ∧ decode cX11_numberUpTo 54 = .ok (.if_icmp .le 8, 3) ∧ decode cX11_numberUpTo 57 = .ok (.aload_n 0, 1) ∧ decode cX11_numberUpTo 58 = .ok (.iconst 2, 1) ∧ decode cX11_numberUpTo 59 = .ok (.invokevirtual 277, 3) := by decide +kernel
theorem dX11_numberUpTo_38 : decode cX11_numberUpTo 38 = .ok (.iinc 3 1, 3) := dX11_numberUpTo_all2.1
theorem dX11_numberUpTo_41 : decode cX11_numberUpTo 41 = .ok (.goto (-34), 3) := dX11_numberUpTo_all2.2.1
theorem dX11_numberUpTo_44 : decode cX11_numberUpTo 44 = .ok (.aload_n 0, 1) := dX11_numberUpTo_all2.2.2.1
theorem dX11_numberUpTo_45 : decode cX11_numberUpTo 45 = .ok (.getfield 259, 3) := dX11_numberUpTo_all2.2.2.2.1
theorem dX11_numberUpTo_48 : decode cX11_numberUpTo 48 = .ok (.iconst 3, 1) := dX11_numberUpTo_all2.2.2.2.2.1
theorem dX11_numberUpTo_49 : decode cX11_numberUpTo 49 = .ok (.if_icmp .ne 13, 3) := dX11_numberUpTo_all2.2.2.2.2.2.1
theorem dX11_numberUpTo_52 : decode cX11_numberUpTo 52 = .ok (.iload_n 2, 1) := dX11_numberUpTo_all2.2.2.2.2.2.2.1
theorem dX11_numberUpTo_53 : decode cX11_numberUpTo 53 = .ok (.iload_n 1, 1) := dX11_numberUpTo_all2.2.2.2.2.2.2.2.1
theorem dX11_numberUpTo_54 : decode cX11_numberUpTo 54 = .ok (.if_icmp .le 8, 3) := dX11_numberUpTo_all2.2.2.2.2.2.2.2.2.1
theorem dX11_numberUpTo_57 : decode cX11_numberUpTo 57 = .ok (.aload_n 0, 1) := dX11_numberUpTo_all2.2.2.2.2.2.2.2.2.2.1
theorem dX11_numberUpTo_58 : decode cX11_numberUpTo 58 = .ok (.iconst 2, 1) := dX11_numberUpTo_all2.2.2.2.2.2.2.2.2.2.2.1
theorem dX11_numberUpTo_59 : decode cX11_numberUpTo 59 = .ok (.invokevirtual 277, 3) := dX11_numberUpTo_all2.2.2.2.2.2.2.2.2.2.2.2
theorem dX11_numberUpTo_all3 : decode cX11_numberUpTo 62 = .ok (.aload_n 0, 1) ∧ decode cX11_numberUpTo 63 = .ok (.aload_n 0, 1) ∧ decode cX11_numberUpTo 64 = .ok (.getfield 259, 3) ∧ decode cX11_numberUpTo 67 = .ok (.iconst 3, 1) ∧ decode cX11_numberUpTo 68 = .ok (.if_icmp .ne 7, 3) ∧ decode cX11_numberUpTo 71 = .ok (.iconst 1, 1) ∧ decode cX11_numberUpTo 72 = .ok (.goto 4, 3) ∧ decode cX11_numberUpTo 75 = .ok (.iconst 0, 1) ∧ decode cX11_numberUpTo 76 = .ok (.invokevirtual 283, 3) ∧ decode cX11_numberUpTo 79 = .ok (.iload_n 2, 1) ∧ decode cX11_numberUpTo 80 = .ok (.ireturn, 1) := by decide +kernel
theorem dX11_numberUpTo_62 : decode cX11_numberUpTo 62 = .ok (.aload_n 0, 1) := dX11_numberUpTo_all3.1
theorem dX11_numberUpTo_63 : decode cX11_numberUpTo 63 = .ok (.aload_n 0, 1) := dX11_numberUpTo_all3.2.1
theorem dX11_numberUpTo_64 : decode cX11_numberUpTo 64 = .ok (.getfield 259, 3) := dX11_numberUpTo_all3.2.2.1
theorem dX11_numberUpTo_67 : decode cX11_numberUpTo 67 = .ok (.iconst 3, 1) := dX11_numberUpTo_all3.2.2.2.1
theorem dX11_numberUpTo_68 : decode cX11_numberUpTo 68 = .ok (.if_icmp .ne 7, 3) := dX11_numberUpTo_all3.2.2.2.2.1
theorem dX11_numberUpTo_71 : decode cX11_numberUpTo 71 = .ok (.iconst 1, 1) := dX11_numberUpTo_all3.2.2.2.2.2.1
theorem dX11_numberUpTo_72 : decode cX11_numberUpTo 72 = .ok (.goto 4, 3) := dX11_numberUpTo_all3.2.2.2.2.2.2.1
theorem dX11_numberUpTo_75 : decode cX11_numberUpTo 75 = .ok (.iconst 0, 1) := dX11_numberUpTo_all3.2.2.2.2.2.2.2.1
theorem dX11_numberUpTo_76 : decode cX11_numberUpTo 76 = .ok (.invokevirtual 283, 3) := dX11_numberUpTo_all3.2.2.2.2.2.2.2.2.1
theorem dX11_numberUpTo_79 : decode cX11_numberUpTo 79 = .ok (.iload_n 2, 1) := dX11_numberUpTo_all3.2.2.2.2.2.2.2.2.2.1
theorem dX11_numberUpTo_80 : decode cX11_numberUpTo 80 = .ok (.ireturn, 1) := dX11_numberUpTo_all3.2.2.2.2.2.2.2.2.2.2
set_option maxHeartbeats 4000000 in
set_option maxRecDepth 100000 in
theorem ct_X11_feed (l : Launch) (D : va_G) (cI cY cJ cQ : ClassId) (sz : Nat) (md : Nat → Nat) (sd : Int32) (mth mst hn cn pn mq gn mln mnn ln mlt msz mcu mtk mfr mti mfa mfb an un lc td mtn : Int32) (mtp : Nat → Int32) (w : Int64) (n : Int32)  (h1 : 0 ≤ ln.toInt) (h2 : ln.toInt ≤ 300)  : Met l yX11_feed wsX11_feed ({ frames := 1, cells := 0, slots := 0, locals := 25 }) (cPre D (ty4 cI cY cJ cQ) [(moC md sd mth mst hn cn pn mq gn mln mnn ln mlt msz mcu mtk mfr mti mfa mfb an un lc td mtn), (aI cI (md 34) 300 mtp)] sz [.ref (md 64), .long w, .int n]) (va_Qi (fun (r : Int32) (u : Int32 × (Nat → Int32)) => r = sp_feed ln n ∧ u.1 = sq_feed ln n) (cB D (ty4 cI cY cJ cQ) (fun (u : Int32 × (Nat → Int32)) => [(moC md sd 0 mst hn cn pn mq gn mln mnn u.1 mlt msz mcu mtk mfr mti mfa mfb an un lc td mtn), (aI cI (md 34) 300 u.2)]) (va_A [(moC md sd mth mst hn cn pn mq gn mln mnn ln mlt msz mcu mtk mfr mti mfa mfb an un lc td mtn), (aI cI (md 34) 300 mtp)] sz)) (va_A [(moC md sd mth mst hn cn pn mq gn mln mnn ln mlt msz mcu mtk mfr mti mfa mfb an un lc td mtn), (aI cI (md 34) 300 mtp)] sz)) 0 0 (va_A [(moC md sd mth mst hn cn pn mq gn mln mnn ln mlt msz mcu mtk mfr mti mfa mfb an un lc td mtn), (aI cI (md 34) 300 mtp)] sz) := by
  refine Met.ofW (cc := cX11_feed) (maxL := 5) (ret := (some .int)) (by decide) rfl ?_
  intro p e s m args below meth c s₁ B hml hv
  obtain ⟨rfl, hsz, hP, hK, hD0, hN⟩ := hv
  have hx := B.exec
  have hb := B.bytes
  have hr := B.returns
  have hts := atoms_spec (ws := wsX11_feed) B.pre
  have hown : s.vm.findClass RX11 = some m.cls := findClass_of_methodNamed B.named
  have hlocks := B.notSynchronized
  subst hsz
  have hD := hD0.self (sz := s.heap.size)
  generalize hAe : va_A [(moC md sd mth mst hn cn pn mq gn mln mnn ln mlt msz mcu mtk mfr mti mfa mfb an un lc td mtn), (aI cI (md 34) 300 mtp)] s.heap.size = A at hD ⊢
  have hA : ∀ q : Nat, s.heap.size ≤ q → A q := fun q h => by rw [← hAe]; exact Or.inr h
  have hS : va_S A s.heap s.heap [] := va_S.rf
  have hP : va_P D vwCl [(moC md sd mth mst hn cn pn mq gn mln mnn ln mlt msz mcu mtk mfr mti mfa mfb an un lc td mtn), (aI cI (md 34) 300 mtp)] s.heap := hP
  have hl := lv_entry ([.ref (md 64), .long w, .int n]) (n := 5) (Nat.le_of_ble_eq_true rfl)
  rw [lg_entry_eq]
  generalize (lg_sl ([.ref (md 64), .long w, .int n]) ++ List.replicate (5 - (lg_sl ([.ref (md 64), .long w, .int n])).length) Slot.unset).toArray = ls at hl ⊢
  have hl : lv_has ls 5 [(0, .ref (md 64)), (1, .long w), (3, .int n)] := hl
  have km1000003 : (-1000003 : Int32).toInt = -1000003 := by decide
  have km1000001 : (-1000001 : Int32).toInt = -1000001 := by decide
  have km1 : (-1 : Int32).toInt = -1 := by decide
  have k0 : (0 : Int32).toInt = 0 := by decide
  have k1 : (1 : Int32).toInt = 1 := by decide
  have k8 : (8 : Int32).toInt = 8 := by decide
  have k300 : (300 : Int32).toInt = 300 := by decide
  have kl1 : (1 : Int64).toInt = 1 := by decide
  have kl8 : (8 : Int64).toInt = 8 := by decide
  refine lv_aload_n hx hb dX11_feed_0 rfl (lv_at hl 0 rfl) ?_
  refine lv_iconst (v := 0) hx hb dX11_feed_1 (by decide) ?_
  refine va_put (D := D) (ci := 11) (v := .int 0) (ty := .int) (C := RX11) (T := TX11) (N := 64) hx hb hts inX11_feed_X11 tyX11 tyX11_ok nmX11 hown hK hP hD hS 0 rfl rfl 0 (by decide) (hts (Cond.fieldLink RX11 1 "PortRoomsModel" "thrown" "I") (wm_t (wm_l (wm_i 0 rfl)))) (fun _ h9 => h9) rfl (tyX11_ok 0 (by decide)) rfl rfl (Nat.le_of_ble_eq_true rfl) dX11_feed_2 (fun H locs => ?_)
  clear hP hD hS
  intro hP hD hS
  replace hP : va_P D vwCl [(moC md sd (0) mst hn cn pn mq gn mln mnn ln mlt msz mcu mtk mfr mti mfa mfb an un lc td mtn), (aI cI (md 34) 300 mtp)] H := hP
  replace hD : va_D A [(moC md sd (0) mst hn cn pn mq gn mln mnn ln mlt msz mcu mtk mfr mti mfa mfb an un lc td mtn), (aI cI (md 34) 300 mtp)] := hD
  refine lv_iload_n hx hb dX11_feed_5 rfl (lv_at hl 2 rfl) ?_
  refine lv_i2l hx hb dX11_feed_6 rfl ?_
  have w1 := i_w n
  have w2 := i_rng n
  refine lv_lconst (v := 1) hx hb dX11_feed_7 (by decide) ?_
  refine lv_ldc2 hx hb hown (hts (Cond.constantLong RX11 240 (8)) (wm_t (wm_l (wm_i 1 rfl)))) dX11_feed_8 ?_
  refine st_i1 (va_runS (As := [.long (n.toInt64), .long 1, .long 8]) (rest := []) ⟨hx, hb, hml, hown, hts⟩ (ct_X11_in l D cI cY cJ cQ _ n.toInt64 (1 : Int64) (8 : Int64)) (va_cwS 3 hts gX11_feed_X11_in rfl rfl rfl cdX11_in ⟨Nat.le_of_ble_eq_true rfl, Nat.le_of_ble_eq_true rfl⟩) (cPreS (hP.sub [] rfl) hK (hD.sub [] (by decide +kernel) rfl) hN) rfl rfl hl.1 rfl (lv_room (Nat.le_of_ble_eq_true rfl)) dX11_feed_11 ⟨Nat.le_of_ble_eq_true rfl, Nat.le_of_ble_eq_true rfl⟩) hP hD hS hA [] rfl (fun _ => rfl) (fun r5 u3 H locs hw4 => ?_)
  clear hP hS
  intro hP hS
  replace hw4 : r5 = if (1 : Int64).toInt ≤ n.toInt64.toInt ∧ n.toInt64.toInt ≤ (8 : Int64).toInt then 1 else 0 := hw4
  refine lv_if_ne (tgt := 20) hx hb dX11_feed_14 (by decide) (fun c6 => ?_) (fun c6 => ?_)
  · skip
    have f7 := bo_t hw4 c6
    refine lv_aload_n hx hb dX11_feed_20 rfl (lv_at hl 0 rfl) ?_
    refine va_get (D := D) (ci := 11) (v := .int ln) (C := RX11) (T := TX11) (N := 64) hx hb hts inX11_feed_X11 hown hK hP 0 rfl rfl 35 (by decide) (hts (Cond.fieldLink RX11 242 "PortRoomsModel" "taped" "I") (wm_t (wm_l (wm_i 3 rfl)))) (fun _ h9 => h9) rfl dX11_feed_21 ?_
    refine lv_iload_n hx hb dX11_feed_24 rfl (lv_at hl 2 rfl) ?_
    refine lv_iadd hx hb dX11_feed_25 ?_
    refine lv_topi (fun v8 ev8 => ?_)
    try have tv8 : v8.toInt = ln.toInt + n.toInt := by rw [ev8]; exact (i_add (x := ln) (y := n) (by omega) (by omega))
    refine lv_sipush (v := 300) hx hb dX11_feed_26 (by decide) ?_
    refine lv_icmp_le (tgt := 35) hx hb dX11_feed_29 (by decide) (fun c9 => ?_) (fun c9 => ?_)
    · skip
      have f10 := i_le c9
      refine lv_iload_n hx hb dX11_feed_35 rfl (lv_at hl 2 rfl) ?_
      refine lv_iconst (v := 1) hx hb dX11_feed_36 (by decide) ?_
      refine lv_isub hx hb dX11_feed_37 ?_
      refine lv_topi (fun v11 ev11 => ?_)
      try have tv11 : v11.toInt = n.toInt - 1 := by rw [ev11]; exact (i_sub (x := n) (y := (1 : Int32)) (by rw [k1]; omega) (by rw [k1]; omega)).trans (by rw [k1])
      refine lv_istore (lv' := [(4, .int v11), (0, .ref (md 64)), (1, .long w), (3, .int n)]) hx hb dX11_feed_38 hl (by decide) rfl (fun ls hl => ?_)
      refine st_loop 40 (fun _ => []) (fun (z : Int32 × (Nat → Int32) × Int32) (ls : Array Slot) (H : Heap) (locs : List Loc) => match z with | (q40_4, mtpq, lnq) => (-1 ≤ q40_4.toInt) ∧ (q40_4.toInt < n.toInt) ∧ (lnq.toInt = ln.toInt + n.toInt - 1 - q40_4.toInt) ∧ lv_has ls 5 [(0, .ref (md 64)), (1, .long w), (3, .int n), (4, .int q40_4)] ∧ va_P D vwCl [(moC md sd (0) mst hn cn pn mq gn mln mnn lnq mlt msz mcu mtk mfr mti mfa mfb an un lc td mtn), (aI cI (md 34) 300 mtpq)] H ∧ va_D A [(moC md sd (0) mst hn cn pn mq gn mln mnn lnq mlt msz mcu mtk mfr mti mfa mfb an un lc td mtn), (aI cI (md 34) 300 mtpq)] ∧ va_S A s.heap H locs) (fun (z : Int32 × (Nat → Int32) × Int32) => match z with | (q40_4, mtpq, lnq) => q40_4.toInt + 1) ?_ ?_ (v11, mtp, ln) ⟨(by omega), (by omega), (by omega), lv_sub hl [1, 2, 3, 0] rfl, hP, hD, hS⟩
      · rintro ⟨q40_4, mtpq, lnq⟩ ls H locs ⟨g12, g13, g14, hl, hP, hD, hS⟩
        show (0 : Int) ≤ q40_4.toInt + 1
        omega
      · rintro n17 ih15 ⟨q40_4, mtpq, lnq⟩ ls H locs ⟨g12, g13, g14, hl, hP, hD, hS⟩ hm16
        have hm16 : q40_4.toInt + 1 < (n17 : Int) + 1 := hm16
        replace hl : lv_has ls 5 [(0, .ref (md 64)), (1, .long w), (3, .int n), (4, .int q40_4)] := hl
        replace hP : va_P D vwCl [(moC md sd (0) mst hn cn pn mq gn mln mnn lnq mlt msz mcu mtk mfr mti mfa mfb an un lc td mtn), (aI cI (md 34) 300 mtpq)] H := hP
        replace hD : va_D A [(moC md sd (0) mst hn cn pn mq gn mln mnn lnq mlt msz mcu mtk mfr mti mfa mfb an un lc td mtn), (aI cI (md 34) 300 mtpq)] := hD
        show W _ _ _ _ _ _ _ _ _ _ _ _ _ _ _ (F0 m 40 ls [])
        refine lv_iload hx hb dX11_feed_40 (lv_at hl 3 rfl) ?_
        refine lv_if_lt (tgt := 82) hx hb dX11_feed_42 (by decide) (fun c18 => ?_) (fun c18 => ?_)
        · skip
          have f19 := i_lt c18
          refine lv_aload_n hx hb dX11_feed_82 rfl (lv_at hl 0 rfl) ?_
          refine va_get (D := D) (ci := 11) (v := .int lnq) (C := RX11) (T := TX11) (N := 64) hx hb hts inX11_feed_X11 hown hK hP 0 rfl rfl 35 (by decide) (hts (Cond.fieldLink RX11 242 "PortRoomsModel" "taped" "I") (wm_t (wm_l (wm_i 3 rfl)))) (fun _ h9 => h9) rfl dX11_feed_83 ?_
          have tln9 : 1 ≤ n.toInt → n.toInt ≤ 8 → (ln + n).toInt = ln.toInt + n.toInt := fun h8 h9 => i_add (by omega) (by omega)
          have hP9 := hP
          have hD9 := hD
          exact W.iret (v := lnq) hx hb hr (fun t ht hW => ⟨⟨lnq, (lnq, mtpq), rfl, ⟨i_of (by unfold sp_feed; (repeat' split) <;> omega), i_of (by unfold sq_feed; (repeat' split) <;> (show lnq.toInt = _; omega))⟩, by rw [ht]; exact hP9, va_K.moved hW.alike hK, hD9⟩, hS.F ht⟩) hS.2.2 dX11_feed_86
        · skip
          have f20 := i_nlt c18
          refine lv_aload_n hx hb dX11_feed_45 rfl (lv_at hl 0 rfl) ?_
          refine va_get (D := D) (ci := 11) (v := .ref (md 34)) (C := RX11) (T := TX11) (N := 64) hx hb hts inX11_feed_X11 hown hK hP 0 rfl rfl 34 (by decide) (hts (Cond.fieldLink RX11 87 "PortRoomsModel" "tape" "[I") (wm_t (wm_l (wm_i 5 rfl)))) (fun _ h9 => h9) rfl dX11_feed_46 ?_
          refine lv_aload_n hx hb dX11_feed_49 rfl (lv_at hl 0 rfl) ?_
          refine va_get (D := D) (ci := 11) (v := .int lnq) (C := RX11) (T := TX11) (N := 64) hx hb hts inX11_feed_X11 hown hK hP 0 rfl rfl 35 (by decide) (hts (Cond.fieldLink RX11 242 "PortRoomsModel" "taped" "I") (wm_t (wm_l (wm_i 3 rfl)))) (fun _ h9 => h9) rfl dX11_feed_50 ?_
          refine lv_lload_n hx hb dX11_feed_53 rfl (lv_at hl 1 rfl) ?_
          refine lv_bipush (v := 8) hx hb dX11_feed_54 (by decide) ?_
          refine lv_iload hx hb dX11_feed_56 (lv_at hl 3 rfl) ?_
          refine lv_imul hx hb dX11_feed_58 ?_
          refine lv_topi (fun v21 ev21 => ?_)
          try have tv21 : v21.toInt = 8 * q40_4.toInt := by rw [ev21]; exact (i_mul (x := (8 : Int32)) (y := q40_4) (by rw [k8]; omega) (by rw [k8]; omega)).trans (by rw [k8])
          refine lv_lshr hx hb dX11_feed_59 rfl ?_
          refine lv_topl (fun z22 ez22 => ?_)
          refine lv_ldc2 hx hb hown (hts (Cond.constantLong RX11 245 (255)) (wm_t (wm_l (wm_i 6 rfl)))) dX11_feed_60 ?_
          refine lv_land hx hb dX11_feed_63 ?_
          refine lv_topl (fun z23 ez23 => ?_)
          refine lv_l2i hx hb dX11_feed_64 rfl ?_
          refine lv_topi (fun v24 ev24 => ?_)
          refine va_iast hx hb hK hP hD hS 1 0 rfl rfl (i_in (by omega) (by omega)) dX11_feed_65 (fun H locs => ?_)
          clear hP hD hS
          intro hP hD hS
          replace hP : va_P D vwCl [(moC md sd (0) mst hn cn pn mq gn mln mnn lnq mlt msz mcu mtk mfr mti mfa mfb an un lc td mtn), (aI cI (md 34) 300 (upd mtpq lnq.toNatClampNeg v24))] H := hP
          replace hD : va_D A [(moC md sd (0) mst hn cn pn mq gn mln mnn lnq mlt msz mcu mtk mfr mti mfa mfb an un lc td mtn), (aI cI (md 34) 300 (upd mtpq lnq.toNatClampNeg v24))] := hD
          refine lv_aload_n hx hb dX11_feed_66 rfl (lv_at hl 0 rfl) ?_
          refine lv_dup hx hb dX11_feed_67 rfl ?_
          refine va_get (D := D) (ci := 11) (v := .int lnq) (C := RX11) (T := TX11) (N := 64) hx hb hts inX11_feed_X11 hown hK hP 0 rfl rfl 35 (by decide) (hts (Cond.fieldLink RX11 242 "PortRoomsModel" "taped" "I") (wm_t (wm_l (wm_i 3 rfl)))) (fun _ h9 => h9) rfl dX11_feed_68 ?_
          refine lv_iconst (v := 1) hx hb dX11_feed_71 (by decide) ?_
          refine lv_iadd hx hb dX11_feed_72 ?_
          refine lv_topi (fun v25 ev25 => ?_)
          try have tv25 : v25.toInt = lnq.toInt + 1 := by rw [ev25]; exact (i_add (x := lnq) (y := (1 : Int32)) (by rw [k1]; omega) (by rw [k1]; omega)).trans (by rw [k1])
          refine va_put (D := D) (ci := 11) (v := .int v25) (ty := .int) (C := RX11) (T := TX11) (N := 64) hx hb hts inX11_feed_X11 tyX11 tyX11_ok nmX11 hown hK hP hD hS 0 rfl rfl 35 (by decide) (hts (Cond.fieldLink RX11 242 "PortRoomsModel" "taped" "I") (wm_t (wm_l (wm_i 3 rfl)))) (fun _ h9 => h9) rfl (tyX11_ok 35 (by decide)) rfl rfl (Nat.le_of_ble_eq_true rfl) dX11_feed_73 (fun H locs => ?_)
          clear hP hD hS
          intro hP hD hS
          replace hP : va_P D vwCl [(moC md sd (0) mst hn cn pn mq gn mln mnn v25 mlt msz mcu mtk mfr mti mfa mfb an un lc td mtn), (aI cI (md 34) 300 (upd mtpq lnq.toNatClampNeg v24))] H := hP
          replace hD : va_D A [(moC md sd (0) mst hn cn pn mq gn mln mnn v25 mlt msz mcu mtk mfr mti mfa mfb an un lc td mtn), (aI cI (md 34) 300 (upd mtpq lnq.toNatClampNeg v24))] := hD
          obtain ⟨v26, ev26⟩ : ∃ y : Int32, y = q40_4 + (-1) := ⟨_, rfl⟩
          try have tv26 : v26.toInt = q40_4.toInt + (-1) := by rw [ev26]; exact (i_add (x := q40_4) (y := ((-1) : Int32)) (by rw [km1]; omega) (by rw [km1]; omega)).trans (by rw [km1])
          refine lv_iinc (v := v26) (lv' := [(4, .int v26), (0, .ref (md 64)), (1, .long w), (3, .int n)]) hx hb dX11_feed_76 hl (k := 3) rfl (by rw [ev26]; rfl) (by decide) rfl (fun ls hl => ?_)
          refine lv_goto (tgt := 40) hx hb dX11_feed_79 (by decide) ?_
          exact ih15 (v26, upd mtpq lnq.toNatClampNeg v24, v25) ls H locs ⟨(by omega), (by omega), (by omega), lv_sub hl [1, 2, 3, 0] rfl, hP.sub [0, 1] rfl, hD.sub [0, 1] (by decide +kernel) rfl, hS⟩ (by show v26.toInt + 1 < _; omega)
    · skip
      have f27 := i_nle c9
      refine lv_ldc hx hb hown (hts (Cond.constant RX11 184 (-1000003)) (wm_t (wm_l (wm_i 4 rfl)))) dX11_feed_32 ?_
      have tln9 : 1 ≤ n.toInt → n.toInt ≤ 8 → (ln + n).toInt = ln.toInt + n.toInt := fun h8 h9 => i_add (by omega) (by omega)
      have hP9 := hP
      have hD9 := hD
      exact W.iret (v := (-1000003)) hx hb hr (fun t ht hW => ⟨⟨(-1000003), (ln, mtp), rfl, ⟨i_of (by unfold sp_feed; (repeat' split) <;> omega), i_of (by unfold sq_feed; (repeat' split) <;> (show ln.toInt = _; omega))⟩, by rw [ht]; exact hP9, va_K.moved hW.alike hK, hD9⟩, hS.F ht⟩) hS.2.2 dX11_feed_34
  · skip
    have f28 := bo_f hw4 c6
    refine lv_ldc hx hb hown (hts (Cond.constant RX11 157 (-1000001)) (wm_t (wm_l (wm_i 2 rfl)))) dX11_feed_17 ?_
    have tln9 : 1 ≤ n.toInt → n.toInt ≤ 8 → (ln + n).toInt = ln.toInt + n.toInt := fun h8 h9 => i_add (by omega) (by omega)
    have hP9 := hP
    have hD9 := hD
    exact W.iret (v := (-1000001)) hx hb hr (fun t ht hW => ⟨⟨(-1000001), (ln, mtp), rfl, ⟨i_of (by unfold sp_feed; (repeat' split) <;> omega), i_of (by unfold sq_feed; (repeat' split) <;> (show ln.toInt = _; omega))⟩, by rw [ht]; exact hP9, va_K.moved hW.alike hK, hD9⟩, hS.F ht⟩) hS.2.2 dX11_feed_19


/-- the byte at a place of the tape -/
def bAt (msz : Int32) (mtp : Nat → Int32) (a : Int32) : Int32 := if a.toInt < msz.toInt then mtp a.toNatClampNeg else -1000000
theorem bAt_rng (msz : Int32) (mtp : Nat → Int32) (a : Int32) : a.toInt < msz.toInt ∨ (bAt msz mtp a).toInt = -1000000 := by
  by_cases h : a.toInt < msz.toInt
  · exact Or.inl h
  · right; unfold bAt; rw [if_neg h]; rfl

set_option maxHeartbeats 4000000 in
set_option maxRecDepth 100000 in
theorem ct_X11_byteAt (l : Launch) (D : va_G) (cI cY cJ cQ : ClassId) (sz : Nat) (md : Nat → Nat) (sd : Int32) (mth mst hn cn pn mq gn mln mnn ln mlt msz mcu mtk mfr mti mfa mfb an un lc td mtn : Int32) (mtp : Nat → Int32) (a : Int32)  (h1 : 0 ≤ msz.toInt) (h2 : msz.toInt ≤ 300) (h3 : 0 ≤ a.toInt)  : Met l yX11_byteAt wsX11_byteAt ({ frames := 0, cells := 0, slots := 0, locals := 0 }) (cPre D (ty4 cI cY cJ cQ) [(moC md sd mth mst hn cn pn mq gn mln mnn ln mlt msz mcu mtk mfr mti mfa mfb an un lc td mtn), (aI cI (md 34) 300 mtp)] sz [.ref (md 64), .int a]) (va_Qi (fun (r : Int32) (u : Unit) => r = bAt msz mtp a) (cB D (ty4 cI cY cJ cQ) (fun (u : Unit) => [(moC md sd mth mst hn cn pn mq gn mln mnn ln mlt msz mcu mtk mfr mti mfa mfb an un lc td mtn), (aI cI (md 34) 300 mtp)]) (va_A [(moC md sd mth mst hn cn pn mq gn mln mnn ln mlt msz mcu mtk mfr mti mfa mfb an un lc td mtn), (aI cI (md 34) 300 mtp)] sz)) (va_A [(moC md sd mth mst hn cn pn mq gn mln mnn ln mlt msz mcu mtk mfr mti mfa mfb an un lc td mtn), (aI cI (md 34) 300 mtp)] sz)) 0 0 (va_A [(moC md sd mth mst hn cn pn mq gn mln mnn ln mlt msz mcu mtk mfr mti mfa mfb an un lc td mtn), (aI cI (md 34) 300 mtp)] sz) := by
  refine Met.ofW (cc := cX11_byteAt) (maxL := 2) (ret := (some .int)) (by decide) rfl ?_
  intro p e s m args below meth c s₁ B hml hv
  obtain ⟨rfl, hsz, hP, hK, hD0, hN⟩ := hv
  have hx := B.exec
  have hb := B.bytes
  have hr := B.returns
  have hts := atoms_spec (ws := wsX11_byteAt) B.pre
  have hown : s.vm.findClass RX11 = some m.cls := findClass_of_methodNamed B.named
  have hlocks := B.notSynchronized
  subst hsz
  have hD := hD0.self (sz := s.heap.size)
  generalize hAe : va_A [(moC md sd mth mst hn cn pn mq gn mln mnn ln mlt msz mcu mtk mfr mti mfa mfb an un lc td mtn), (aI cI (md 34) 300 mtp)] s.heap.size = A at hD ⊢
  have hA : ∀ q : Nat, s.heap.size ≤ q → A q := fun q h => by rw [← hAe]; exact Or.inr h
  have hS : va_S A s.heap s.heap [] := va_S.rf
  have hP : va_P D vwCl [(moC md sd mth mst hn cn pn mq gn mln mnn ln mlt msz mcu mtk mfr mti mfa mfb an un lc td mtn), (aI cI (md 34) 300 mtp)] s.heap := hP
  have hl := lv_entry ([.ref (md 64), .int a]) (n := 2) (Nat.le_of_ble_eq_true rfl)
  rw [lg_entry_eq]
  generalize (lg_sl ([.ref (md 64), .int a]) ++ List.replicate (2 - (lg_sl ([.ref (md 64), .int a])).length) Slot.unset).toArray = ls at hl ⊢
  have hl : lv_has ls 2 [(0, .ref (md 64)), (1, .int a)] := hl
  refine lv_iload_n hx hb dX11_byteAt_0 rfl (lv_at hl 1 rfl) ?_
  refine lv_aload_n hx hb dX11_byteAt_1 rfl (lv_at hl 0 rfl) ?_
  refine va_get (D := D) (ci := 11) (v := .int msz) (C := RX11) (T := TX11) (N := 64) hx hb hts inX11_byteAt_X11 hown hK hP 0 rfl rfl 37 (by decide) (hts (Cond.fieldLink RX11 247 "PortRoomsModel" "size" "I") (wm_t (wm_l (wm_i 0 rfl)))) (fun _ h9 => h9) rfl dX11_byteAt_2 ?_
  refine lv_icmp_ge (tgt := 17) hx hb dX11_byteAt_5 (by decide) (fun c1 => ?_) (fun c1 => ?_)
  · skip
    have f2 := i_le c1
    refine lv_ldc hx hb hown (hts (Cond.constant RX11 139 (-1000000)) (wm_t (wm_l (wm_i 2 rfl)))) dX11_byteAt_17 ?_
    have hP9 := hP
    have hD9 := hD
    exact W.iret (v := (-1000000)) hx hb hr (fun t ht hW => ⟨⟨(-1000000), (), rfl, (by unfold bAt; first | (rw [if_pos (by omega)]; assumption) | (rw [if_neg (by omega)]) ), by rw [ht]; exact hP9, va_K.moved hW.alike hK, hD9⟩, hS.F ht⟩) hS.2.2 dX11_byteAt_19
  · skip
    have f3 := i_nle c1
    refine lv_aload_n hx hb dX11_byteAt_8 rfl (lv_at hl 0 rfl) ?_
    refine va_get (D := D) (ci := 11) (v := .ref (md 34)) (C := RX11) (T := TX11) (N := 64) hx hb hts inX11_byteAt_X11 hown hK hP 0 rfl rfl 34 (by decide) (hts (Cond.fieldLink RX11 87 "PortRoomsModel" "tape" "[I") (wm_t (wm_l (wm_i 1 rfl)))) (fun _ h9 => h9) rfl dX11_byteAt_9 ?_
    refine lv_iload_n hx hb dX11_byteAt_12 rfl (lv_at hl 1 rfl) ?_
    refine va_iald hx hb hK hP 1 0 rfl rfl (i_in (by omega) (by omega)) dX11_byteAt_13 ?_
    refine lv_topi (fun v4 ev4 => ?_)
    refine lv_goto (tgt := 19) hx hb dX11_byteAt_14 (by decide) ?_
    have hP9 := hP
    have hD9 := hD
    exact W.iret (v := v4) hx hb hr (fun t ht hW => ⟨⟨v4, (), rfl, (by unfold bAt; first | (rw [if_pos (by omega)]; assumption) | (rw [if_neg (by omega)]) ), by rw [ht]; exact hP9, va_K.moved hW.alike hK, hD9⟩, hS.F ht⟩) hS.2.2 dX11_byteAt_19

set_option maxHeartbeats 4000000 in
set_option maxRecDepth 100000 in
theorem ct_X11_step (l : Launch) (D : va_G) (cI cY cJ cQ : ClassId) (sz : Nat) (md : Nat → Nat) (sd : Int32) (mth mst hn cn pn mq gn mln mnn ln mlt msz mcu mtk mfr mti mfa mfb an un lc td mtn : Int32) (mtp : Nat → Int32)  (h1 : 0 ≤ msz.toInt) (h2 : msz.toInt ≤ 300) (h3 : 0 ≤ mcu.toInt) (h4 : mcu.toInt ≤ msz.toInt)  : Met l yX11_step wsX11_step ({ frames := 1, cells := 0, slots := 0, locals := 21 }) (cPre D (ty4 cI cY cJ cQ) [(moC md sd mth mst hn cn pn mq gn mln mnn ln mlt msz mcu mtk mfr mti mfa mfb an un lc td mtn), (aI cI (md 34) 300 mtp)] sz [.ref (md 64)]) (va_Qv (fun (u : Int32 × Int32 × Int32 × Int32) => mcu.toInt ≤ u.2.2.1.toInt ∧ u.2.2.1.toInt ≤ u.1.toInt ∧ u.1.toInt ≤ msz.toInt ∧ u.2.2.2.toInt = u.1.toInt ∧ (u.2.1.toInt = 1 ∨ u.2.2.1.toInt < u.1.toInt)) (cB D (ty4 cI cY cJ cQ) (fun (u : Int32 × Int32 × Int32 × Int32) => [(moC md sd mth mst hn cn pn mq gn mln mnn ln mlt msz u.1 u.2.1 u.2.2.1 u.2.2.2 mfa mfb an un lc td mtn), (aI cI (md 34) 300 mtp)]) (va_A [(moC md sd mth mst hn cn pn mq gn mln mnn ln mlt msz mcu mtk mfr mti mfa mfb an un lc td mtn), (aI cI (md 34) 300 mtp)] sz)) (va_A [(moC md sd mth mst hn cn pn mq gn mln mnn ln mlt msz mcu mtk mfr mti mfa mfb an un lc td mtn), (aI cI (md 34) 300 mtp)] sz)) 0 0 (va_A [(moC md sd mth mst hn cn pn mq gn mln mnn ln mlt msz mcu mtk mfr mti mfa mfb an un lc td mtn), (aI cI (md 34) 300 mtp)] sz) := by
  refine Met.ofW (cc := cX11_step) (maxL := 2) (ret := none) (by decide) rfl ?_
  intro p e s m args below meth c s₁ B hml hv
  obtain ⟨rfl, hsz, hP, hK, hD0, hN⟩ := hv
  have hx := B.exec
  have hb := B.bytes
  have hr := B.returns
  have hts := atoms_spec (ws := wsX11_step) B.pre
  have hown : s.vm.findClass RX11 = some m.cls := findClass_of_methodNamed B.named
  have hlocks := B.notSynchronized
  subst hsz
  have hD := hD0.self (sz := s.heap.size)
  generalize hAe : va_A [(moC md sd mth mst hn cn pn mq gn mln mnn ln mlt msz mcu mtk mfr mti mfa mfb an un lc td mtn), (aI cI (md 34) 300 mtp)] s.heap.size = A at hD ⊢
  have hA : ∀ q : Nat, s.heap.size ≤ q → A q := fun q h => by rw [← hAe]; exact Or.inr h
  have hS : va_S A s.heap s.heap [] := va_S.rf
  have hP : va_P D vwCl [(moC md sd mth mst hn cn pn mq gn mln mnn ln mlt msz mcu mtk mfr mti mfa mfb an un lc td mtn), (aI cI (md 34) 300 mtp)] s.heap := hP
  have hl := lv_entry ([.ref (md 64)]) (n := 2) (Nat.le_of_ble_eq_true rfl)
  rw [lg_entry_eq]
  generalize (lg_sl ([.ref (md 64)]) ++ List.replicate (2 - (lg_sl ([.ref (md 64)])).length) Slot.unset).toArray = ls at hl ⊢
  have hl : lv_has ls 2 [(0, .ref (md 64))] := hl
  have km1000000 : (-1000000 : Int32).toInt = -1000000 := by decide
  have k0 : (0 : Int32).toInt = 0 := by decide
  have k1 : (1 : Int32).toInt = 1 := by decide
  have k2 : (2 : Int32).toInt = 2 := by decide
  have k3 : (3 : Int32).toInt = 3 := by decide
  have k4 : (4 : Int32).toInt = 4 := by decide
  have k6 : (6 : Int32).toInt = 6 := by decide
  have k10 : (10 : Int32).toInt = 10 := by decide
  have k32 : (32 : Int32).toInt = 32 := by decide
  have k59 : (59 : Int32).toInt = 59 := by decide
  have k62 : (62 : Int32).toInt = 62 := by decide
  refine st_loop 0 (fun _ => []) (fun (c0q : Int32) (ls : Array Slot) (H : Heap) (locs : List Loc) => (mcu.toInt ≤ c0q.toInt) ∧ (c0q.toInt ≤ msz.toInt) ∧ lv_has ls 2 [(0, .ref (md 64))] ∧ va_P D vwCl [(moC md sd mth mst hn cn pn mq gn mln mnn ln mlt msz c0q mtk mfr mti mfa mfb an un lc td mtn), (aI cI (md 34) 300 mtp)] H ∧ va_D A [(moC md sd mth mst hn cn pn mq gn mln mnn ln mlt msz c0q mtk mfr mti mfa mfb an un lc td mtn), (aI cI (md 34) 300 mtp)] ∧ va_S A s.heap H locs) (fun (c0q : Int32) => msz.toInt - c0q.toInt) ?_ ?_ mcu ⟨(by omega), (by omega), lv_sub hl [0] rfl, hP, hD, hS⟩
  · rintro c0q ls H locs ⟨g1, g2, hl, hP, hD, hS⟩
    show (0 : Int) ≤ msz.toInt - c0q.toInt
    omega
  · rintro n5 ih3 c0q ls H locs ⟨g1, g2, hl, hP, hD, hS⟩ hm4
    have hm4 : msz.toInt - c0q.toInt < (n5 : Int) + 1 := hm4
    replace hl : lv_has ls 2 [(0, .ref (md 64))] := hl
    replace hP : va_P D vwCl [(moC md sd mth mst hn cn pn mq gn mln mnn ln mlt msz c0q mtk mfr mti mfa mfb an un lc td mtn), (aI cI (md 34) 300 mtp)] H := hP
    replace hD : va_D A [(moC md sd mth mst hn cn pn mq gn mln mnn ln mlt msz c0q mtk mfr mti mfa mfb an un lc td mtn), (aI cI (md 34) 300 mtp)] := hD
    show W _ _ _ _ _ _ _ _ _ _ _ _ _ _ _ (F0 m 0 ls [])
    refine lv_aload_n hx hb dX11_step_0 rfl (lv_at hl 0 rfl) ?_
    refine lv_aload_n hx hb dX11_step_1 rfl (lv_at hl 0 rfl) ?_
    refine va_get (D := D) (ci := 11) (v := .int c0q) (C := RX11) (T := TX11) (N := 64) hx hb hts inX11_step_X11 hown hK hP 0 rfl rfl 38 (by decide) (hts (Cond.fieldLink RX11 250 "PortRoomsModel" "cursor" "I") (wm_t (wm_l (wm_i 0 rfl)))) (fun _ h9 => h9) rfl dX11_step_2 ?_
    refine st_i1 (va_runV (C := RX11) (As := [.int c0q]) (rest := []) ⟨hx, hb, hml, hown, hts⟩ (ct_X11_byteAt l D cI cY cJ cQ _ md sd mth mst hn cn pn mq gn mln mnn ln mlt msz c0q mtk mfr mti mfa mfb an un lc td mtn mtp c0q h1 h2 (by omega)) (cwV 1 hts gX11_step_X11_byteAt rfl rfl rfl ⟨rfl, cdX11_byteAt⟩ ⟨Nat.le_of_ble_eq_true rfl, Nat.le_of_ble_eq_true rfl⟩) (cPreV (hP.sub [0, 1] rfl) hK (hD.sub [0, 1] (by decide +kernel) rfl) hN (ci := 11) (q0 := 0) rfl rfl) rfl rfl hl.1 rfl (lv_room (Nat.le_of_ble_eq_true rfl)) dX11_step_5 ⟨Nat.le_of_ble_eq_true rfl, Nat.le_of_ble_eq_true rfl⟩) hP hD hS hA [0, 1] rfl (fun _ => rfl) (fun r8 u6 H locs hw7 => ?_)
    clear hP hS
    intro hP hS
    replace hw7 : r8 = bAt msz mtp c0q := hw7
    have hw7t := i_eq hw7
    have hw7r := bAt_rng msz mtp c0q
    refine lv_bipush (v := 32) hx hb dX11_step_8 (by decide) ?_
    refine lv_icmp_eq (tgt := 26) hx hb dX11_step_10 (by decide) (fun c9 => ?_) (fun c9 => ?_)
    · skip
      have f10 := i_eq c9
      refine lv_aload_n hx hb dX11_step_26 rfl (lv_at hl 0 rfl) ?_
      refine lv_dup hx hb dX11_step_27 rfl ?_
      refine va_get (D := D) (ci := 11) (v := .int c0q) (C := RX11) (T := TX11) (N := 64) hx hb hts inX11_step_X11 hown hK hP 0 rfl rfl 38 (by decide) (hts (Cond.fieldLink RX11 250 "PortRoomsModel" "cursor" "I") (wm_t (wm_l (wm_i 0 rfl)))) (fun _ h9 => h9) rfl dX11_step_28 ?_
      refine lv_iconst (v := 1) hx hb dX11_step_31 (by decide) ?_
      refine lv_iadd hx hb dX11_step_32 ?_
      refine lv_topi (fun v11 ev11 => ?_)
      try have tv11 : v11.toInt = c0q.toInt + 1 := by rw [ev11]; exact (i_add (x := c0q) (y := (1 : Int32)) (by rw [k1]; omega) (by rw [k1]; omega)).trans (by rw [k1])
      refine va_put (D := D) (ci := 11) (v := .int v11) (ty := .int) (C := RX11) (T := TX11) (N := 64) hx hb hts inX11_step_X11 tyX11 tyX11_ok nmX11 hown hK hP hD hS 0 rfl rfl 38 (by decide) (hts (Cond.fieldLink RX11 250 "PortRoomsModel" "cursor" "I") (wm_t (wm_l (wm_i 0 rfl)))) (fun _ h9 => h9) rfl (tyX11_ok 38 (by decide)) rfl rfl (Nat.le_of_ble_eq_true rfl) dX11_step_33 (fun H locs => ?_)
      clear hP hD hS
      intro hP hD hS
      replace hP : va_P D vwCl [(moC md sd mth mst hn cn pn mq gn mln mnn ln mlt msz v11 mtk mfr mti mfa mfb an un lc td mtn), (aI cI (md 34) 300 mtp)] H := hP
      replace hD : va_D A [(moC md sd mth mst hn cn pn mq gn mln mnn ln mlt msz v11 mtk mfr mti mfa mfb an un lc td mtn), (aI cI (md 34) 300 mtp)] := hD
      refine lv_goto (tgt := 0) hx hb dX11_step_36 (by decide) ?_
      exact ih3 v11 ls H locs ⟨(by omega), (by omega), lv_sub hl [0] rfl, hP.sub [0, 1] rfl, hD.sub [0, 1] (by decide +kernel) rfl, hS⟩ (by show msz.toInt - v11.toInt < _; omega)
    · skip
      have f12 := i_ne c9
      refine lv_aload_n hx hb dX11_step_13 rfl (lv_at hl 0 rfl) ?_
      refine lv_aload_n hx hb dX11_step_14 rfl (lv_at hl 0 rfl) ?_
      refine va_get (D := D) (ci := 11) (v := .int c0q) (C := RX11) (T := TX11) (N := 64) hx hb hts inX11_step_X11 hown hK hP 0 rfl rfl 38 (by decide) (hts (Cond.fieldLink RX11 250 "PortRoomsModel" "cursor" "I") (wm_t (wm_l (wm_i 0 rfl)))) (fun _ h9 => h9) rfl dX11_step_15 ?_
      refine st_i1 (va_runV (C := RX11) (As := [.int c0q]) (rest := []) ⟨hx, hb, hml, hown, hts⟩ (ct_X11_byteAt l D cI cY cJ cQ _ md sd mth mst hn cn pn mq gn mln mnn ln mlt msz c0q mtk mfr mti mfa mfb an un lc td mtn mtp c0q h1 h2 (by omega)) (cwV 1 hts gX11_step_X11_byteAt rfl rfl rfl ⟨rfl, cdX11_byteAt⟩ ⟨Nat.le_of_ble_eq_true rfl, Nat.le_of_ble_eq_true rfl⟩) (cPreV (hP.sub [0, 1] rfl) hK (hD.sub [0, 1] (by decide +kernel) rfl) hN (ci := 11) (q0 := 0) rfl rfl) rfl rfl hl.1 rfl (lv_room (Nat.le_of_ble_eq_true rfl)) dX11_step_18 ⟨Nat.le_of_ble_eq_true rfl, Nat.le_of_ble_eq_true rfl⟩) hP hD hS hA [0, 1] rfl (fun _ => rfl) (fun r15 u13 H locs hw14 => ?_)
      clear hP hS
      intro hP hS
      replace hw14 : r15 = bAt msz mtp c0q := hw14
      have hw14t := i_eq hw14
      have hw14r := bAt_rng msz mtp c0q
      refine lv_bipush (v := 10) hx hb dX11_step_21 (by decide) ?_
      refine lv_icmp_ne (tgt := 39) hx hb dX11_step_23 (by decide) (fun c16 => ?_) (fun c16 => ?_)
      · skip
        have f17 := i_ne c16
        refine lv_aload_n hx hb dX11_step_39 rfl (lv_at hl 0 rfl) ?_
        refine lv_aload_n hx hb dX11_step_40 rfl (lv_at hl 0 rfl) ?_
        refine va_get (D := D) (ci := 11) (v := .int c0q) (C := RX11) (T := TX11) (N := 64) hx hb hts inX11_step_X11 hown hK hP 0 rfl rfl 38 (by decide) (hts (Cond.fieldLink RX11 250 "PortRoomsModel" "cursor" "I") (wm_t (wm_l (wm_i 0 rfl)))) (fun _ h9 => h9) rfl dX11_step_41 ?_
        refine va_put (D := D) (ci := 11) (v := .int c0q) (ty := .int) (C := RX11) (T := TX11) (N := 64) hx hb hts inX11_step_X11 tyX11 tyX11_ok nmX11 hown hK hP hD hS 0 rfl rfl 40 (by decide) (hts (Cond.fieldLink RX11 256 "PortRoomsModel" "from" "I") (wm_t (wm_l (wm_i 1 rfl)))) (fun _ h9 => h9) rfl (tyX11_ok 40 (by decide)) rfl rfl (Nat.le_of_ble_eq_true rfl) dX11_step_44 (fun H locs => ?_)
        clear hP hD hS
        intro hP hD hS
        replace hP : va_P D vwCl [(moC md sd mth mst hn cn pn mq gn mln mnn ln mlt msz c0q mtk c0q mti mfa mfb an un lc td mtn), (aI cI (md 34) 300 mtp)] H := hP
        replace hD : va_D A [(moC md sd mth mst hn cn pn mq gn mln mnn ln mlt msz c0q mtk c0q mti mfa mfb an un lc td mtn), (aI cI (md 34) 300 mtp)] := hD
        refine lv_aload_n hx hb dX11_step_47 rfl (lv_at hl 0 rfl) ?_
        refine lv_aload_n hx hb dX11_step_48 rfl (lv_at hl 0 rfl) ?_
        refine va_get (D := D) (ci := 11) (v := .int c0q) (C := RX11) (T := TX11) (N := 64) hx hb hts inX11_step_X11 hown hK hP 0 rfl rfl 38 (by decide) (hts (Cond.fieldLink RX11 250 "PortRoomsModel" "cursor" "I") (wm_t (wm_l (wm_i 0 rfl)))) (fun _ h9 => h9) rfl dX11_step_49 ?_
        refine st_i1 (va_runV (C := RX11) (As := [.int c0q]) (rest := []) ⟨hx, hb, hml, hown, hts⟩ (ct_X11_byteAt l D cI cY cJ cQ _ md sd mth mst hn cn pn mq gn mln mnn ln mlt msz c0q mtk c0q mti mfa mfb an un lc td mtn mtp c0q h1 h2 (by omega)) (cwV 1 hts gX11_step_X11_byteAt rfl rfl rfl ⟨rfl, cdX11_byteAt⟩ ⟨Nat.le_of_ble_eq_true rfl, Nat.le_of_ble_eq_true rfl⟩) (cPreV (hP.sub [0, 1] rfl) hK (hD.sub [0, 1] (by decide +kernel) rfl) hN (ci := 11) (q0 := 0) rfl rfl) rfl rfl hl.1 rfl (lv_room (Nat.le_of_ble_eq_true rfl)) dX11_step_52 ⟨Nat.le_of_ble_eq_true rfl, Nat.le_of_ble_eq_true rfl⟩) hP hD hS hA [0, 1] rfl (fun _ => rfl) (fun r20 u18 H locs hw19 => ?_)
        clear hP hS
        intro hP hS
        replace hw19 : r20 = bAt msz mtp c0q := hw19
        have hw19t := i_eq hw19
        have hw19r := bAt_rng msz mtp c0q
        refine lv_istore_n (lv' := [(1, .int r20), (0, .ref (md 64))]) hx hb dX11_step_55 rfl hl (by decide) rfl (fun ls hl => ?_)
        refine lv_iload_n hx hb dX11_step_56 rfl (lv_at hl 0 rfl) ?_
        refine lv_ldc hx hb hown (hts (Cond.constant RX11 139 (-1000000)) (wm_t (wm_l (wm_i 2 rfl)))) dX11_step_57 ?_
        refine lv_icmp_ne (tgt := 70) hx hb dX11_step_59 (by decide) (fun c21 => ?_) (fun c21 => ?_)
        · skip
          have f22 := i_ne c21
          refine lv_iload_n hx hb dX11_step_70 rfl (lv_at hl 0 rfl) ?_
          refine st_i1 (va_runS (As := [.int r20]) (rest := []) ⟨hx, hb, hml, hown, hts⟩ (ct_X11_isLetter l D cI cY cJ cQ _ r20) (va_cwS 1 hts gX11_step_X11_isLetter rfl rfl rfl cdX11_isLetter ⟨Nat.le_of_ble_eq_true rfl, Nat.le_of_ble_eq_true rfl⟩) (cPreS (hP.sub [] rfl) hK (hD.sub [] (by decide +kernel) rfl) hN) rfl rfl hl.1 rfl (lv_room (Nat.le_of_ble_eq_true rfl)) dX11_step_71 ⟨Nat.le_of_ble_eq_true rfl, Nat.le_of_ble_eq_true rfl⟩) hP hD hS hA [] rfl (fun _ => rfl) (fun r25 u23 H locs hw24 => ?_)
          clear hP hS
          intro hP hS
          replace hw24 : r25 = if 97 ≤ r20.toInt ∧ r20.toInt ≤ 122 then 1 else 0 := hw24
          refine lv_if_eq (tgt := 130) hx hb dX11_step_74 (by decide) (fun c26 => ?_) (fun c26 => ?_)
          · skip
            have f27 := bo_f hw24 c26
            refine lv_iload_n hx hb dX11_step_130 rfl (lv_at hl 0 rfl) ?_
            refine st_i1 (va_runS (As := [.int r20]) (rest := []) ⟨hx, hb, hml, hown, hts⟩ (ct_X11_isFigure l D cI cY cJ cQ _ r20) (va_cwS 1 hts gX11_step_X11_isFigure rfl rfl rfl cdX11_isFigure ⟨Nat.le_of_ble_eq_true rfl, Nat.le_of_ble_eq_true rfl⟩) (cPreS (hP.sub [] rfl) hK (hD.sub [] (by decide +kernel) rfl) hN) rfl rfl hl.1 rfl (lv_room (Nat.le_of_ble_eq_true rfl)) dX11_step_131 ⟨Nat.le_of_ble_eq_true rfl, Nat.le_of_ble_eq_true rfl⟩) hP hD hS hA [] rfl (fun _ => rfl) (fun r30 u28 H locs hw29 => ?_)
            clear hP hS
            intro hP hS
            replace hw29 : r30 = if 48 ≤ r20.toInt ∧ r20.toInt ≤ 57 then 1 else 0 := hw29
            refine lv_if_eq (tgt := 189) hx hb dX11_step_134 (by decide) (fun c31 => ?_) (fun c31 => ?_)
            · skip
              have f32 := bo_f hw29 c31
              refine lv_aload_n hx hb dX11_step_189 rfl (lv_at hl 1 rfl) ?_
              refine lv_dup hx hb dX11_step_190 rfl ?_
              refine va_get (D := D) (ci := 11) (v := .int c0q) (C := RX11) (T := TX11) (N := 64) hx hb hts inX11_step_X11 hown hK hP 0 rfl rfl 38 (by decide) (hts (Cond.fieldLink RX11 250 "PortRoomsModel" "cursor" "I") (wm_t (wm_l (wm_i 0 rfl)))) (fun _ h9 => h9) rfl dX11_step_191 ?_
              refine lv_iconst (v := 1) hx hb dX11_step_194 (by decide) ?_
              refine lv_iadd hx hb dX11_step_195 ?_
              refine lv_topi (fun v33 ev33 => ?_)
              try have tv33 : v33.toInt = c0q.toInt + 1 := by rw [ev33]; exact (i_add (x := c0q) (y := (1 : Int32)) (by rw [k1]; omega) (by rw [k1]; omega)).trans (by rw [k1])
              refine va_put (D := D) (ci := 11) (v := .int v33) (ty := .int) (C := RX11) (T := TX11) (N := 64) hx hb hts inX11_step_X11 tyX11 tyX11_ok nmX11 hown hK hP hD hS 0 rfl rfl 38 (by decide) (hts (Cond.fieldLink RX11 250 "PortRoomsModel" "cursor" "I") (wm_t (wm_l (wm_i 0 rfl)))) (fun _ h9 => h9) rfl (tyX11_ok 38 (by decide)) rfl rfl (Nat.le_of_ble_eq_true rfl) dX11_step_196 (fun H locs => ?_)
              clear hP hD hS
              intro hP hD hS
              replace hP : va_P D vwCl [(moC md sd mth mst hn cn pn mq gn mln mnn ln mlt msz v33 mtk c0q mti mfa mfb an un lc td mtn), (aI cI (md 34) 300 mtp)] H := hP
              replace hD : va_D A [(moC md sd mth mst hn cn pn mq gn mln mnn ln mlt msz v33 mtk c0q mti mfa mfb an un lc td mtn), (aI cI (md 34) 300 mtp)] := hD
              refine lv_aload_n hx hb dX11_step_199 rfl (lv_at hl 1 rfl) ?_
              refine lv_iload_n hx hb dX11_step_200 rfl (lv_at hl 0 rfl) ?_
              refine lv_bipush (v := 59) hx hb dX11_step_201 (by decide) ?_
              refine lv_icmp_eq (tgt := 212) hx hb dX11_step_203 (by decide) (fun c34 => ?_) (fun c34 => ?_)
              · skip
                have f35 := i_eq c34
                refine lv_iconst (v := 4) hx hb dX11_step_212 (by decide) ?_
                refine lv_goto (tgt := 217) hx hb dX11_step_213 (by decide) ?_
                refine va_put (D := D) (ci := 11) (v := .int 4) (ty := .int) (C := RX11) (T := TX11) (N := 64) hx hb hts inX11_step_X11 tyX11 tyX11_ok nmX11 hown hK hP hD hS 0 rfl rfl 39 (by decide) (hts (Cond.fieldLink RX11 259 "PortRoomsModel" "token" "I") (wm_t (wm_l (wm_i 3 rfl)))) (fun _ h9 => h9) rfl (tyX11_ok 39 (by decide)) rfl rfl (Nat.le_of_ble_eq_true rfl) dX11_step_217 (fun H locs => ?_)
                clear hP hD hS
                intro hP hD hS
                replace hP : va_P D vwCl [(moC md sd mth mst hn cn pn mq gn mln mnn ln mlt msz v33 (4) c0q mti mfa mfb an un lc td mtn), (aI cI (md 34) 300 mtp)] H := hP
                replace hD : va_D A [(moC md sd mth mst hn cn pn mq gn mln mnn ln mlt msz v33 (4) c0q mti mfa mfb an un lc td mtn), (aI cI (md 34) 300 mtp)] := hD
                refine lv_aload_n hx hb dX11_step_220 rfl (lv_at hl 1 rfl) ?_
                refine lv_aload_n hx hb dX11_step_221 rfl (lv_at hl 1 rfl) ?_
                refine va_get (D := D) (ci := 11) (v := .int v33) (C := RX11) (T := TX11) (N := 64) hx hb hts inX11_step_X11 hown hK hP 0 rfl rfl 38 (by decide) (hts (Cond.fieldLink RX11 250 "PortRoomsModel" "cursor" "I") (wm_t (wm_l (wm_i 0 rfl)))) (fun _ h9 => h9) rfl dX11_step_222 ?_
                refine va_put (D := D) (ci := 11) (v := .int v33) (ty := .int) (C := RX11) (T := TX11) (N := 64) hx hb hts inX11_step_X11 tyX11 tyX11_ok nmX11 hown hK hP hD hS 0 rfl rfl 41 (by decide) (hts (Cond.fieldLink RX11 268 "PortRoomsModel" "till" "I") (wm_t (wm_l (wm_i 4 rfl)))) (fun _ h9 => h9) rfl (tyX11_ok 41 (by decide)) rfl rfl (Nat.le_of_ble_eq_true rfl) dX11_step_225 (fun H locs => ?_)
                clear hP hD hS
                intro hP hD hS
                replace hP : va_P D vwCl [(moC md sd mth mst hn cn pn mq gn mln mnn ln mlt msz v33 (4) c0q v33 mfa mfb an un lc td mtn), (aI cI (md 34) 300 mtp)] H := hP
                replace hD : va_D A [(moC md sd mth mst hn cn pn mq gn mln mnn ln mlt msz v33 (4) c0q v33 mfa mfb an un lc td mtn), (aI cI (md 34) 300 mtp)] := hD
                have hP9 := hP
                have hD9 := hD
                exact W.vret hx hb hr (fun t ht hW => ⟨⟨(v33, 4, c0q, v33), rfl, (by show mcu.toInt ≤ c0q.toInt ∧ c0q.toInt ≤ v33.toInt ∧ v33.toInt ≤ msz.toInt ∧ v33.toInt = v33.toInt ∧ ((4 : Int32).toInt = 1 ∨ c0q.toInt < v33.toInt); omega), by rw [ht]; exact hP9, va_K.moved hW.alike hK, hD9⟩, hS.F ht⟩) hS.2.2 dX11_step_228
              · skip
                have f36 := i_ne c34
                refine lv_iload_n hx hb dX11_step_206 rfl (lv_at hl 0 rfl) ?_
                refine lv_bipush (v := 62) hx hb dX11_step_207 (by decide) ?_
                refine lv_icmp_ne (tgt := 216) hx hb dX11_step_209 (by decide) (fun c37 => ?_) (fun c37 => ?_)
                · skip
                  have f38 := i_ne c37
                  refine lv_iconst (v := 0) hx hb dX11_step_216 (by decide) ?_
                  refine va_put (D := D) (ci := 11) (v := .int 0) (ty := .int) (C := RX11) (T := TX11) (N := 64) hx hb hts inX11_step_X11 tyX11 tyX11_ok nmX11 hown hK hP hD hS 0 rfl rfl 39 (by decide) (hts (Cond.fieldLink RX11 259 "PortRoomsModel" "token" "I") (wm_t (wm_l (wm_i 3 rfl)))) (fun _ h9 => h9) rfl (tyX11_ok 39 (by decide)) rfl rfl (Nat.le_of_ble_eq_true rfl) dX11_step_217 (fun H locs => ?_)
                  clear hP hD hS
                  intro hP hD hS
                  replace hP : va_P D vwCl [(moC md sd mth mst hn cn pn mq gn mln mnn ln mlt msz v33 (0) c0q mti mfa mfb an un lc td mtn), (aI cI (md 34) 300 mtp)] H := hP
                  replace hD : va_D A [(moC md sd mth mst hn cn pn mq gn mln mnn ln mlt msz v33 (0) c0q mti mfa mfb an un lc td mtn), (aI cI (md 34) 300 mtp)] := hD
                  refine lv_aload_n hx hb dX11_step_220 rfl (lv_at hl 1 rfl) ?_
                  refine lv_aload_n hx hb dX11_step_221 rfl (lv_at hl 1 rfl) ?_
                  refine va_get (D := D) (ci := 11) (v := .int v33) (C := RX11) (T := TX11) (N := 64) hx hb hts inX11_step_X11 hown hK hP 0 rfl rfl 38 (by decide) (hts (Cond.fieldLink RX11 250 "PortRoomsModel" "cursor" "I") (wm_t (wm_l (wm_i 0 rfl)))) (fun _ h9 => h9) rfl dX11_step_222 ?_
                  refine va_put (D := D) (ci := 11) (v := .int v33) (ty := .int) (C := RX11) (T := TX11) (N := 64) hx hb hts inX11_step_X11 tyX11 tyX11_ok nmX11 hown hK hP hD hS 0 rfl rfl 41 (by decide) (hts (Cond.fieldLink RX11 268 "PortRoomsModel" "till" "I") (wm_t (wm_l (wm_i 4 rfl)))) (fun _ h9 => h9) rfl (tyX11_ok 41 (by decide)) rfl rfl (Nat.le_of_ble_eq_true rfl) dX11_step_225 (fun H locs => ?_)
                  clear hP hD hS
                  intro hP hD hS
                  replace hP : va_P D vwCl [(moC md sd mth mst hn cn pn mq gn mln mnn ln mlt msz v33 (0) c0q v33 mfa mfb an un lc td mtn), (aI cI (md 34) 300 mtp)] H := hP
                  replace hD : va_D A [(moC md sd mth mst hn cn pn mq gn mln mnn ln mlt msz v33 (0) c0q v33 mfa mfb an un lc td mtn), (aI cI (md 34) 300 mtp)] := hD
                  have hP9 := hP
                  have hD9 := hD
                  exact W.vret hx hb hr (fun t ht hW => ⟨⟨(v33, 0, c0q, v33), rfl, (by show mcu.toInt ≤ c0q.toInt ∧ c0q.toInt ≤ v33.toInt ∧ v33.toInt ≤ msz.toInt ∧ v33.toInt = v33.toInt ∧ ((0 : Int32).toInt = 1 ∨ c0q.toInt < v33.toInt); omega), by rw [ht]; exact hP9, va_K.moved hW.alike hK, hD9⟩, hS.F ht⟩) hS.2.2 dX11_step_228
                · skip
                  have f39 := i_eq c37
                  refine lv_iconst (v := 4) hx hb dX11_step_212 (by decide) ?_
                  refine lv_goto (tgt := 217) hx hb dX11_step_213 (by decide) ?_
                  refine va_put (D := D) (ci := 11) (v := .int 4) (ty := .int) (C := RX11) (T := TX11) (N := 64) hx hb hts inX11_step_X11 tyX11 tyX11_ok nmX11 hown hK hP hD hS 0 rfl rfl 39 (by decide) (hts (Cond.fieldLink RX11 259 "PortRoomsModel" "token" "I") (wm_t (wm_l (wm_i 3 rfl)))) (fun _ h9 => h9) rfl (tyX11_ok 39 (by decide)) rfl rfl (Nat.le_of_ble_eq_true rfl) dX11_step_217 (fun H locs => ?_)
                  clear hP hD hS
                  intro hP hD hS
                  replace hP : va_P D vwCl [(moC md sd mth mst hn cn pn mq gn mln mnn ln mlt msz v33 (4) c0q mti mfa mfb an un lc td mtn), (aI cI (md 34) 300 mtp)] H := hP
                  replace hD : va_D A [(moC md sd mth mst hn cn pn mq gn mln mnn ln mlt msz v33 (4) c0q mti mfa mfb an un lc td mtn), (aI cI (md 34) 300 mtp)] := hD
                  refine lv_aload_n hx hb dX11_step_220 rfl (lv_at hl 1 rfl) ?_
                  refine lv_aload_n hx hb dX11_step_221 rfl (lv_at hl 1 rfl) ?_
                  refine va_get (D := D) (ci := 11) (v := .int v33) (C := RX11) (T := TX11) (N := 64) hx hb hts inX11_step_X11 hown hK hP 0 rfl rfl 38 (by decide) (hts (Cond.fieldLink RX11 250 "PortRoomsModel" "cursor" "I") (wm_t (wm_l (wm_i 0 rfl)))) (fun _ h9 => h9) rfl dX11_step_222 ?_
                  refine va_put (D := D) (ci := 11) (v := .int v33) (ty := .int) (C := RX11) (T := TX11) (N := 64) hx hb hts inX11_step_X11 tyX11 tyX11_ok nmX11 hown hK hP hD hS 0 rfl rfl 41 (by decide) (hts (Cond.fieldLink RX11 268 "PortRoomsModel" "till" "I") (wm_t (wm_l (wm_i 4 rfl)))) (fun _ h9 => h9) rfl (tyX11_ok 41 (by decide)) rfl rfl (Nat.le_of_ble_eq_true rfl) dX11_step_225 (fun H locs => ?_)
                  clear hP hD hS
                  intro hP hD hS
                  replace hP : va_P D vwCl [(moC md sd mth mst hn cn pn mq gn mln mnn ln mlt msz v33 (4) c0q v33 mfa mfb an un lc td mtn), (aI cI (md 34) 300 mtp)] H := hP
                  replace hD : va_D A [(moC md sd mth mst hn cn pn mq gn mln mnn ln mlt msz v33 (4) c0q v33 mfa mfb an un lc td mtn), (aI cI (md 34) 300 mtp)] := hD
                  have hP9 := hP
                  have hD9 := hD
                  exact W.vret hx hb hr (fun t ht hW => ⟨⟨(v33, 4, c0q, v33), rfl, (by show mcu.toInt ≤ c0q.toInt ∧ c0q.toInt ≤ v33.toInt ∧ v33.toInt ≤ msz.toInt ∧ v33.toInt = v33.toInt ∧ ((4 : Int32).toInt = 1 ∨ c0q.toInt < v33.toInt); omega), by rw [ht]; exact hP9, va_K.moved hW.alike hK, hD9⟩, hS.F ht⟩) hS.2.2 dX11_step_228
            · skip
              have f40 := bo_t hw29 c31
              refine st_loop 137 (fun _ => []) (fun (c2q : Int32) (ls : Array Slot) (H : Heap) (locs : List Loc) => (c0q.toInt ≤ c2q.toInt) ∧ (c2q.toInt ≤ msz.toInt) ∧ (c0q.toInt < c2q.toInt ∨ (bAt msz mtp c2q).toInt = (bAt msz mtp c0q).toInt) ∧ lv_has ls 2 [(0, .ref (md 64)), (1, .int r20)] ∧ va_P D vwCl [(moC md sd mth mst hn cn pn mq gn mln mnn ln mlt msz c2q mtk c0q mti mfa mfb an un lc td mtn), (aI cI (md 34) 300 mtp)] H ∧ va_D A [(moC md sd mth mst hn cn pn mq gn mln mnn ln mlt msz c2q mtk c0q mti mfa mfb an un lc td mtn), (aI cI (md 34) 300 mtp)] ∧ va_S A s.heap H locs) (fun (c2q : Int32) => msz.toInt - c2q.toInt) ?_ ?_ c0q ⟨(by omega), (by omega), (by omega), lv_sub hl [1, 0] rfl, hP, hD, hS⟩
              · rintro c2q ls H locs ⟨g41, g42, g43, hl, hP, hD, hS⟩
                show (0 : Int) ≤ msz.toInt - c2q.toInt
                omega
              · rintro n46 ih44 c2q ls H locs ⟨g41, g42, g43, hl, hP, hD, hS⟩ hm45
                have hm45 : msz.toInt - c2q.toInt < (n46 : Int) + 1 := hm45
                replace hl : lv_has ls 2 [(0, .ref (md 64)), (1, .int r20)] := hl
                replace hP : va_P D vwCl [(moC md sd mth mst hn cn pn mq gn mln mnn ln mlt msz c2q mtk c0q mti mfa mfb an un lc td mtn), (aI cI (md 34) 300 mtp)] H := hP
                replace hD : va_D A [(moC md sd mth mst hn cn pn mq gn mln mnn ln mlt msz c2q mtk c0q mti mfa mfb an un lc td mtn), (aI cI (md 34) 300 mtp)] := hD
                show W _ _ _ _ _ _ _ _ _ _ _ _ _ _ _ (F0 m 137 ls [])
                refine lv_aload_n hx hb dX11_step_137 rfl (lv_at hl 0 rfl) ?_
                refine lv_aload_n hx hb dX11_step_138 rfl (lv_at hl 0 rfl) ?_
                refine va_get (D := D) (ci := 11) (v := .int c2q) (C := RX11) (T := TX11) (N := 64) hx hb hts inX11_step_X11 hown hK hP 0 rfl rfl 38 (by decide) (hts (Cond.fieldLink RX11 250 "PortRoomsModel" "cursor" "I") (wm_t (wm_l (wm_i 0 rfl)))) (fun _ h9 => h9) rfl dX11_step_139 ?_
                refine st_i1 (va_runV (C := RX11) (As := [.int c2q]) (rest := []) ⟨hx, hb, hml, hown, hts⟩ (ct_X11_byteAt l D cI cY cJ cQ _ md sd mth mst hn cn pn mq gn mln mnn ln mlt msz c2q mtk c0q mti mfa mfb an un lc td mtn mtp c2q h1 h2 (by omega)) (cwV 1 hts gX11_step_X11_byteAt rfl rfl rfl ⟨rfl, cdX11_byteAt⟩ ⟨Nat.le_of_ble_eq_true rfl, Nat.le_of_ble_eq_true rfl⟩) (cPreV (hP.sub [0, 1] rfl) hK (hD.sub [0, 1] (by decide +kernel) rfl) hN (ci := 11) (q0 := 0) rfl rfl) rfl rfl hl.1 rfl (lv_room (Nat.le_of_ble_eq_true rfl)) dX11_step_142 ⟨Nat.le_of_ble_eq_true rfl, Nat.le_of_ble_eq_true rfl⟩) hP hD hS hA [0, 1] rfl (fun _ => rfl) (fun r49 u47 H locs hw48 => ?_)
                clear hP hS
                intro hP hS
                replace hw48 : r49 = bAt msz mtp c2q := hw48
                have hw48t := i_eq hw48
                have hw48r := bAt_rng msz mtp c2q
                refine st_i1 (va_runS (As := [.int r49]) (rest := []) ⟨hx, hb, hml, hown, hts⟩ (ct_X11_isFigure l D cI cY cJ cQ _ r49) (va_cwS 1 hts gX11_step_X11_isFigure rfl rfl rfl cdX11_isFigure ⟨Nat.le_of_ble_eq_true rfl, Nat.le_of_ble_eq_true rfl⟩) (cPreS (hP.sub [] rfl) hK (hD.sub [] (by decide +kernel) rfl) hN) rfl rfl hl.1 rfl (lv_room (Nat.le_of_ble_eq_true rfl)) dX11_step_145 ⟨Nat.le_of_ble_eq_true rfl, Nat.le_of_ble_eq_true rfl⟩) hP hD hS hA [] rfl (fun _ => rfl) (fun r52 u50 H locs hw51 => ?_)
                clear hP hS
                intro hP hS
                replace hw51 : r52 = if 48 ≤ r49.toInt ∧ r49.toInt ≤ 57 then 1 else 0 := hw51
                refine lv_if_eq (tgt := 164) hx hb dX11_step_148 (by decide) (fun c53 => ?_) (fun c53 => ?_)
                · skip
                  have f54 := bo_f hw51 c53
                  refine lv_aload_n hx hb dX11_step_164 rfl (lv_at hl 0 rfl) ?_
                  refine lv_aload_n hx hb dX11_step_165 rfl (lv_at hl 0 rfl) ?_
                  refine va_get (D := D) (ci := 11) (v := .int c2q) (C := RX11) (T := TX11) (N := 64) hx hb hts inX11_step_X11 hown hK hP 0 rfl rfl 38 (by decide) (hts (Cond.fieldLink RX11 250 "PortRoomsModel" "cursor" "I") (wm_t (wm_l (wm_i 0 rfl)))) (fun _ h9 => h9) rfl dX11_step_166 ?_
                  refine lv_aload_n hx hb dX11_step_169 rfl (lv_at hl 0 rfl) ?_
                  refine va_get (D := D) (ci := 11) (v := .int c0q) (C := RX11) (T := TX11) (N := 64) hx hb hts inX11_step_X11 hown hK hP 0 rfl rfl 40 (by decide) (hts (Cond.fieldLink RX11 256 "PortRoomsModel" "from" "I") (wm_t (wm_l (wm_i 1 rfl)))) (fun _ h9 => h9) rfl dX11_step_170 ?_
                  refine lv_isub hx hb dX11_step_173 ?_
                  refine lv_topi (fun v55 ev55 => ?_)
                  try have tv55 : v55.toInt = c2q.toInt - c0q.toInt := by rw [ev55]; exact (i_sub (x := c2q) (y := c0q) (by omega) (by omega))
                  refine lv_iconst (v := 4) hx hb dX11_step_174 (by decide) ?_
                  refine lv_icmp_le (tgt := 182) hx hb dX11_step_175 (by decide) (fun c56 => ?_) (fun c56 => ?_)
                  · skip
                    have f57 := i_le c56
                    refine lv_iconst (v := 3) hx hb dX11_step_182 (by decide) ?_
                    refine va_put (D := D) (ci := 11) (v := .int 3) (ty := .int) (C := RX11) (T := TX11) (N := 64) hx hb hts inX11_step_X11 tyX11 tyX11_ok nmX11 hown hK hP hD hS 0 rfl rfl 39 (by decide) (hts (Cond.fieldLink RX11 259 "PortRoomsModel" "token" "I") (wm_t (wm_l (wm_i 3 rfl)))) (fun _ h9 => h9) rfl (tyX11_ok 39 (by decide)) rfl rfl (Nat.le_of_ble_eq_true rfl) dX11_step_183 (fun H locs => ?_)
                    clear hP hD hS
                    intro hP hD hS
                    replace hP : va_P D vwCl [(moC md sd mth mst hn cn pn mq gn mln mnn ln mlt msz c2q (3) c0q mti mfa mfb an un lc td mtn), (aI cI (md 34) 300 mtp)] H := hP
                    replace hD : va_D A [(moC md sd mth mst hn cn pn mq gn mln mnn ln mlt msz c2q (3) c0q mti mfa mfb an un lc td mtn), (aI cI (md 34) 300 mtp)] := hD
                    refine lv_goto (tgt := 220) hx hb dX11_step_186 (by decide) ?_
                    refine lv_aload_n hx hb dX11_step_220 rfl (lv_at hl 0 rfl) ?_
                    refine lv_aload_n hx hb dX11_step_221 rfl (lv_at hl 0 rfl) ?_
                    refine va_get (D := D) (ci := 11) (v := .int c2q) (C := RX11) (T := TX11) (N := 64) hx hb hts inX11_step_X11 hown hK hP 0 rfl rfl 38 (by decide) (hts (Cond.fieldLink RX11 250 "PortRoomsModel" "cursor" "I") (wm_t (wm_l (wm_i 0 rfl)))) (fun _ h9 => h9) rfl dX11_step_222 ?_
                    refine va_put (D := D) (ci := 11) (v := .int c2q) (ty := .int) (C := RX11) (T := TX11) (N := 64) hx hb hts inX11_step_X11 tyX11 tyX11_ok nmX11 hown hK hP hD hS 0 rfl rfl 41 (by decide) (hts (Cond.fieldLink RX11 268 "PortRoomsModel" "till" "I") (wm_t (wm_l (wm_i 4 rfl)))) (fun _ h9 => h9) rfl (tyX11_ok 41 (by decide)) rfl rfl (Nat.le_of_ble_eq_true rfl) dX11_step_225 (fun H locs => ?_)
                    clear hP hD hS
                    intro hP hD hS
                    replace hP : va_P D vwCl [(moC md sd mth mst hn cn pn mq gn mln mnn ln mlt msz c2q (3) c0q c2q mfa mfb an un lc td mtn), (aI cI (md 34) 300 mtp)] H := hP
                    replace hD : va_D A [(moC md sd mth mst hn cn pn mq gn mln mnn ln mlt msz c2q (3) c0q c2q mfa mfb an un lc td mtn), (aI cI (md 34) 300 mtp)] := hD
                    have hP9 := hP
                    have hD9 := hD
                    exact W.vret hx hb hr (fun t ht hW => ⟨⟨(c2q, 3, c0q, c2q), rfl, (by show mcu.toInt ≤ c0q.toInt ∧ c0q.toInt ≤ c2q.toInt ∧ c2q.toInt ≤ msz.toInt ∧ c2q.toInt = c2q.toInt ∧ ((3 : Int32).toInt = 1 ∨ c0q.toInt < c2q.toInt); omega), by rw [ht]; exact hP9, va_K.moved hW.alike hK, hD9⟩, hS.F ht⟩) hS.2.2 dX11_step_228
                  · skip
                    have f58 := i_nle c56
                    refine lv_iconst (v := 0) hx hb dX11_step_178 (by decide) ?_
                    refine lv_goto (tgt := 183) hx hb dX11_step_179 (by decide) ?_
                    refine va_put (D := D) (ci := 11) (v := .int 0) (ty := .int) (C := RX11) (T := TX11) (N := 64) hx hb hts inX11_step_X11 tyX11 tyX11_ok nmX11 hown hK hP hD hS 0 rfl rfl 39 (by decide) (hts (Cond.fieldLink RX11 259 "PortRoomsModel" "token" "I") (wm_t (wm_l (wm_i 3 rfl)))) (fun _ h9 => h9) rfl (tyX11_ok 39 (by decide)) rfl rfl (Nat.le_of_ble_eq_true rfl) dX11_step_183 (fun H locs => ?_)
                    clear hP hD hS
                    intro hP hD hS
                    replace hP : va_P D vwCl [(moC md sd mth mst hn cn pn mq gn mln mnn ln mlt msz c2q (0) c0q mti mfa mfb an un lc td mtn), (aI cI (md 34) 300 mtp)] H := hP
                    replace hD : va_D A [(moC md sd mth mst hn cn pn mq gn mln mnn ln mlt msz c2q (0) c0q mti mfa mfb an un lc td mtn), (aI cI (md 34) 300 mtp)] := hD
                    refine lv_goto (tgt := 220) hx hb dX11_step_186 (by decide) ?_
                    refine lv_aload_n hx hb dX11_step_220 rfl (lv_at hl 0 rfl) ?_
                    refine lv_aload_n hx hb dX11_step_221 rfl (lv_at hl 0 rfl) ?_
                    refine va_get (D := D) (ci := 11) (v := .int c2q) (C := RX11) (T := TX11) (N := 64) hx hb hts inX11_step_X11 hown hK hP 0 rfl rfl 38 (by decide) (hts (Cond.fieldLink RX11 250 "PortRoomsModel" "cursor" "I") (wm_t (wm_l (wm_i 0 rfl)))) (fun _ h9 => h9) rfl dX11_step_222 ?_
                    refine va_put (D := D) (ci := 11) (v := .int c2q) (ty := .int) (C := RX11) (T := TX11) (N := 64) hx hb hts inX11_step_X11 tyX11 tyX11_ok nmX11 hown hK hP hD hS 0 rfl rfl 41 (by decide) (hts (Cond.fieldLink RX11 268 "PortRoomsModel" "till" "I") (wm_t (wm_l (wm_i 4 rfl)))) (fun _ h9 => h9) rfl (tyX11_ok 41 (by decide)) rfl rfl (Nat.le_of_ble_eq_true rfl) dX11_step_225 (fun H locs => ?_)
                    clear hP hD hS
                    intro hP hD hS
                    replace hP : va_P D vwCl [(moC md sd mth mst hn cn pn mq gn mln mnn ln mlt msz c2q (0) c0q c2q mfa mfb an un lc td mtn), (aI cI (md 34) 300 mtp)] H := hP
                    replace hD : va_D A [(moC md sd mth mst hn cn pn mq gn mln mnn ln mlt msz c2q (0) c0q c2q mfa mfb an un lc td mtn), (aI cI (md 34) 300 mtp)] := hD
                    have hP9 := hP
                    have hD9 := hD
                    exact W.vret hx hb hr (fun t ht hW => ⟨⟨(c2q, 0, c0q, c2q), rfl, (by show mcu.toInt ≤ c0q.toInt ∧ c0q.toInt ≤ c2q.toInt ∧ c2q.toInt ≤ msz.toInt ∧ c2q.toInt = c2q.toInt ∧ ((0 : Int32).toInt = 1 ∨ c0q.toInt < c2q.toInt); omega), by rw [ht]; exact hP9, va_K.moved hW.alike hK, hD9⟩, hS.F ht⟩) hS.2.2 dX11_step_228
                · skip
                  have f59 := bo_t hw51 c53
                  refine lv_aload_n hx hb dX11_step_151 rfl (lv_at hl 0 rfl) ?_
                  refine lv_dup hx hb dX11_step_152 rfl ?_
                  refine va_get (D := D) (ci := 11) (v := .int c2q) (C := RX11) (T := TX11) (N := 64) hx hb hts inX11_step_X11 hown hK hP 0 rfl rfl 38 (by decide) (hts (Cond.fieldLink RX11 250 "PortRoomsModel" "cursor" "I") (wm_t (wm_l (wm_i 0 rfl)))) (fun _ h9 => h9) rfl dX11_step_153 ?_
                  refine lv_iconst (v := 1) hx hb dX11_step_156 (by decide) ?_
                  refine lv_iadd hx hb dX11_step_157 ?_
                  refine lv_topi (fun v60 ev60 => ?_)
                  try have tv60 : v60.toInt = c2q.toInt + 1 := by rw [ev60]; exact (i_add (x := c2q) (y := (1 : Int32)) (by rw [k1]; omega) (by rw [k1]; omega)).trans (by rw [k1])
                  refine va_put (D := D) (ci := 11) (v := .int v60) (ty := .int) (C := RX11) (T := TX11) (N := 64) hx hb hts inX11_step_X11 tyX11 tyX11_ok nmX11 hown hK hP hD hS 0 rfl rfl 38 (by decide) (hts (Cond.fieldLink RX11 250 "PortRoomsModel" "cursor" "I") (wm_t (wm_l (wm_i 0 rfl)))) (fun _ h9 => h9) rfl (tyX11_ok 38 (by decide)) rfl rfl (Nat.le_of_ble_eq_true rfl) dX11_step_158 (fun H locs => ?_)
                  clear hP hD hS
                  intro hP hD hS
                  replace hP : va_P D vwCl [(moC md sd mth mst hn cn pn mq gn mln mnn ln mlt msz v60 mtk c0q mti mfa mfb an un lc td mtn), (aI cI (md 34) 300 mtp)] H := hP
                  replace hD : va_D A [(moC md sd mth mst hn cn pn mq gn mln mnn ln mlt msz v60 mtk c0q mti mfa mfb an un lc td mtn), (aI cI (md 34) 300 mtp)] := hD
                  refine lv_goto (tgt := 137) hx hb dX11_step_161 (by decide) ?_
                  exact ih44 v60 ls H locs ⟨(by omega), (by omega), (by omega), lv_sub hl [0, 1] rfl, hP.sub [0, 1] rfl, hD.sub [0, 1] (by decide +kernel) rfl, hS⟩ (by show msz.toInt - v60.toInt < _; omega)
          · skip
            have f61 := bo_t hw24 c26
            refine st_loop 77 (fun _ => []) (fun (c1q : Int32) (ls : Array Slot) (H : Heap) (locs : List Loc) => (c0q.toInt ≤ c1q.toInt) ∧ (c1q.toInt ≤ msz.toInt) ∧ (c0q.toInt < c1q.toInt ∨ (bAt msz mtp c1q).toInt = (bAt msz mtp c0q).toInt) ∧ lv_has ls 2 [(0, .ref (md 64)), (1, .int r20)] ∧ va_P D vwCl [(moC md sd mth mst hn cn pn mq gn mln mnn ln mlt msz c1q mtk c0q mti mfa mfb an un lc td mtn), (aI cI (md 34) 300 mtp)] H ∧ va_D A [(moC md sd mth mst hn cn pn mq gn mln mnn ln mlt msz c1q mtk c0q mti mfa mfb an un lc td mtn), (aI cI (md 34) 300 mtp)] ∧ va_S A s.heap H locs) (fun (c1q : Int32) => msz.toInt - c1q.toInt) ?_ ?_ c0q ⟨(by omega), (by omega), (by omega), lv_sub hl [1, 0] rfl, hP, hD, hS⟩
            · rintro c1q ls H locs ⟨g62, g63, g64, hl, hP, hD, hS⟩
              show (0 : Int) ≤ msz.toInt - c1q.toInt
              omega
            · rintro n67 ih65 c1q ls H locs ⟨g62, g63, g64, hl, hP, hD, hS⟩ hm66
              have hm66 : msz.toInt - c1q.toInt < (n67 : Int) + 1 := hm66
              replace hl : lv_has ls 2 [(0, .ref (md 64)), (1, .int r20)] := hl
              replace hP : va_P D vwCl [(moC md sd mth mst hn cn pn mq gn mln mnn ln mlt msz c1q mtk c0q mti mfa mfb an un lc td mtn), (aI cI (md 34) 300 mtp)] H := hP
              replace hD : va_D A [(moC md sd mth mst hn cn pn mq gn mln mnn ln mlt msz c1q mtk c0q mti mfa mfb an un lc td mtn), (aI cI (md 34) 300 mtp)] := hD
              show W _ _ _ _ _ _ _ _ _ _ _ _ _ _ _ (F0 m 77 ls [])
              refine lv_aload_n hx hb dX11_step_77 rfl (lv_at hl 0 rfl) ?_
              refine lv_aload_n hx hb dX11_step_78 rfl (lv_at hl 0 rfl) ?_
              refine va_get (D := D) (ci := 11) (v := .int c1q) (C := RX11) (T := TX11) (N := 64) hx hb hts inX11_step_X11 hown hK hP 0 rfl rfl 38 (by decide) (hts (Cond.fieldLink RX11 250 "PortRoomsModel" "cursor" "I") (wm_t (wm_l (wm_i 0 rfl)))) (fun _ h9 => h9) rfl dX11_step_79 ?_
              refine st_i1 (va_runV (C := RX11) (As := [.int c1q]) (rest := []) ⟨hx, hb, hml, hown, hts⟩ (ct_X11_byteAt l D cI cY cJ cQ _ md sd mth mst hn cn pn mq gn mln mnn ln mlt msz c1q mtk c0q mti mfa mfb an un lc td mtn mtp c1q h1 h2 (by omega)) (cwV 1 hts gX11_step_X11_byteAt rfl rfl rfl ⟨rfl, cdX11_byteAt⟩ ⟨Nat.le_of_ble_eq_true rfl, Nat.le_of_ble_eq_true rfl⟩) (cPreV (hP.sub [0, 1] rfl) hK (hD.sub [0, 1] (by decide +kernel) rfl) hN (ci := 11) (q0 := 0) rfl rfl) rfl rfl hl.1 rfl (lv_room (Nat.le_of_ble_eq_true rfl)) dX11_step_82 ⟨Nat.le_of_ble_eq_true rfl, Nat.le_of_ble_eq_true rfl⟩) hP hD hS hA [0, 1] rfl (fun _ => rfl) (fun r70 u68 H locs hw69 => ?_)
              clear hP hS
              intro hP hS
              replace hw69 : r70 = bAt msz mtp c1q := hw69
              have hw69t := i_eq hw69
              have hw69r := bAt_rng msz mtp c1q
              refine st_i1 (va_runS (As := [.int r70]) (rest := []) ⟨hx, hb, hml, hown, hts⟩ (ct_X11_isLetter l D cI cY cJ cQ _ r70) (va_cwS 1 hts gX11_step_X11_isLetter rfl rfl rfl cdX11_isLetter ⟨Nat.le_of_ble_eq_true rfl, Nat.le_of_ble_eq_true rfl⟩) (cPreS (hP.sub [] rfl) hK (hD.sub [] (by decide +kernel) rfl) hN) rfl rfl hl.1 rfl (lv_room (Nat.le_of_ble_eq_true rfl)) dX11_step_85 ⟨Nat.le_of_ble_eq_true rfl, Nat.le_of_ble_eq_true rfl⟩) hP hD hS hA [] rfl (fun _ => rfl) (fun r73 u71 H locs hw72 => ?_)
              clear hP hS
              intro hP hS
              replace hw72 : r73 = if 97 ≤ r70.toInt ∧ r70.toInt ≤ 122 then 1 else 0 := hw72
              refine lv_if_eq (tgt := 104) hx hb dX11_step_88 (by decide) (fun c74 => ?_) (fun c74 => ?_)
              · skip
                have f75 := bo_f hw72 c74
                refine lv_aload_n hx hb dX11_step_104 rfl (lv_at hl 0 rfl) ?_
                refine lv_aload_n hx hb dX11_step_105 rfl (lv_at hl 0 rfl) ?_
                refine va_get (D := D) (ci := 11) (v := .int c1q) (C := RX11) (T := TX11) (N := 64) hx hb hts inX11_step_X11 hown hK hP 0 rfl rfl 38 (by decide) (hts (Cond.fieldLink RX11 250 "PortRoomsModel" "cursor" "I") (wm_t (wm_l (wm_i 0 rfl)))) (fun _ h9 => h9) rfl dX11_step_106 ?_
                refine lv_aload_n hx hb dX11_step_109 rfl (lv_at hl 0 rfl) ?_
                refine va_get (D := D) (ci := 11) (v := .int c0q) (C := RX11) (T := TX11) (N := 64) hx hb hts inX11_step_X11 hown hK hP 0 rfl rfl 40 (by decide) (hts (Cond.fieldLink RX11 256 "PortRoomsModel" "from" "I") (wm_t (wm_l (wm_i 1 rfl)))) (fun _ h9 => h9) rfl dX11_step_110 ?_
                refine lv_isub hx hb dX11_step_113 ?_
                refine lv_topi (fun v76 ev76 => ?_)
                try have tv76 : v76.toInt = c1q.toInt - c0q.toInt := by rw [ev76]; exact (i_sub (x := c1q) (y := c0q) (by omega) (by omega))
                refine lv_bipush (v := 6) hx hb dX11_step_114 (by decide) ?_
                refine lv_icmp_le (tgt := 123) hx hb dX11_step_116 (by decide) (fun c77 => ?_) (fun c77 => ?_)
                · skip
                  have f78 := i_le c77
                  refine lv_iconst (v := 2) hx hb dX11_step_123 (by decide) ?_
                  refine va_put (D := D) (ci := 11) (v := .int 2) (ty := .int) (C := RX11) (T := TX11) (N := 64) hx hb hts inX11_step_X11 tyX11 tyX11_ok nmX11 hown hK hP hD hS 0 rfl rfl 39 (by decide) (hts (Cond.fieldLink RX11 259 "PortRoomsModel" "token" "I") (wm_t (wm_l (wm_i 3 rfl)))) (fun _ h9 => h9) rfl (tyX11_ok 39 (by decide)) rfl rfl (Nat.le_of_ble_eq_true rfl) dX11_step_124 (fun H locs => ?_)
                  clear hP hD hS
                  intro hP hD hS
                  replace hP : va_P D vwCl [(moC md sd mth mst hn cn pn mq gn mln mnn ln mlt msz c1q (2) c0q mti mfa mfb an un lc td mtn), (aI cI (md 34) 300 mtp)] H := hP
                  replace hD : va_D A [(moC md sd mth mst hn cn pn mq gn mln mnn ln mlt msz c1q (2) c0q mti mfa mfb an un lc td mtn), (aI cI (md 34) 300 mtp)] := hD
                  refine lv_goto (tgt := 220) hx hb dX11_step_127 (by decide) ?_
                  refine lv_aload_n hx hb dX11_step_220 rfl (lv_at hl 0 rfl) ?_
                  refine lv_aload_n hx hb dX11_step_221 rfl (lv_at hl 0 rfl) ?_
                  refine va_get (D := D) (ci := 11) (v := .int c1q) (C := RX11) (T := TX11) (N := 64) hx hb hts inX11_step_X11 hown hK hP 0 rfl rfl 38 (by decide) (hts (Cond.fieldLink RX11 250 "PortRoomsModel" "cursor" "I") (wm_t (wm_l (wm_i 0 rfl)))) (fun _ h9 => h9) rfl dX11_step_222 ?_
                  refine va_put (D := D) (ci := 11) (v := .int c1q) (ty := .int) (C := RX11) (T := TX11) (N := 64) hx hb hts inX11_step_X11 tyX11 tyX11_ok nmX11 hown hK hP hD hS 0 rfl rfl 41 (by decide) (hts (Cond.fieldLink RX11 268 "PortRoomsModel" "till" "I") (wm_t (wm_l (wm_i 4 rfl)))) (fun _ h9 => h9) rfl (tyX11_ok 41 (by decide)) rfl rfl (Nat.le_of_ble_eq_true rfl) dX11_step_225 (fun H locs => ?_)
                  clear hP hD hS
                  intro hP hD hS
                  replace hP : va_P D vwCl [(moC md sd mth mst hn cn pn mq gn mln mnn ln mlt msz c1q (2) c0q c1q mfa mfb an un lc td mtn), (aI cI (md 34) 300 mtp)] H := hP
                  replace hD : va_D A [(moC md sd mth mst hn cn pn mq gn mln mnn ln mlt msz c1q (2) c0q c1q mfa mfb an un lc td mtn), (aI cI (md 34) 300 mtp)] := hD
                  have hP9 := hP
                  have hD9 := hD
                  exact W.vret hx hb hr (fun t ht hW => ⟨⟨(c1q, 2, c0q, c1q), rfl, (by show mcu.toInt ≤ c0q.toInt ∧ c0q.toInt ≤ c1q.toInt ∧ c1q.toInt ≤ msz.toInt ∧ c1q.toInt = c1q.toInt ∧ ((2 : Int32).toInt = 1 ∨ c0q.toInt < c1q.toInt); omega), by rw [ht]; exact hP9, va_K.moved hW.alike hK, hD9⟩, hS.F ht⟩) hS.2.2 dX11_step_228
                · skip
                  have f79 := i_nle c77
                  refine lv_iconst (v := 0) hx hb dX11_step_119 (by decide) ?_
                  refine lv_goto (tgt := 124) hx hb dX11_step_120 (by decide) ?_
                  refine va_put (D := D) (ci := 11) (v := .int 0) (ty := .int) (C := RX11) (T := TX11) (N := 64) hx hb hts inX11_step_X11 tyX11 tyX11_ok nmX11 hown hK hP hD hS 0 rfl rfl 39 (by decide) (hts (Cond.fieldLink RX11 259 "PortRoomsModel" "token" "I") (wm_t (wm_l (wm_i 3 rfl)))) (fun _ h9 => h9) rfl (tyX11_ok 39 (by decide)) rfl rfl (Nat.le_of_ble_eq_true rfl) dX11_step_124 (fun H locs => ?_)
                  clear hP hD hS
                  intro hP hD hS
                  replace hP : va_P D vwCl [(moC md sd mth mst hn cn pn mq gn mln mnn ln mlt msz c1q (0) c0q mti mfa mfb an un lc td mtn), (aI cI (md 34) 300 mtp)] H := hP
                  replace hD : va_D A [(moC md sd mth mst hn cn pn mq gn mln mnn ln mlt msz c1q (0) c0q mti mfa mfb an un lc td mtn), (aI cI (md 34) 300 mtp)] := hD
                  refine lv_goto (tgt := 220) hx hb dX11_step_127 (by decide) ?_
                  refine lv_aload_n hx hb dX11_step_220 rfl (lv_at hl 0 rfl) ?_
                  refine lv_aload_n hx hb dX11_step_221 rfl (lv_at hl 0 rfl) ?_
                  refine va_get (D := D) (ci := 11) (v := .int c1q) (C := RX11) (T := TX11) (N := 64) hx hb hts inX11_step_X11 hown hK hP 0 rfl rfl 38 (by decide) (hts (Cond.fieldLink RX11 250 "PortRoomsModel" "cursor" "I") (wm_t (wm_l (wm_i 0 rfl)))) (fun _ h9 => h9) rfl dX11_step_222 ?_
                  refine va_put (D := D) (ci := 11) (v := .int c1q) (ty := .int) (C := RX11) (T := TX11) (N := 64) hx hb hts inX11_step_X11 tyX11 tyX11_ok nmX11 hown hK hP hD hS 0 rfl rfl 41 (by decide) (hts (Cond.fieldLink RX11 268 "PortRoomsModel" "till" "I") (wm_t (wm_l (wm_i 4 rfl)))) (fun _ h9 => h9) rfl (tyX11_ok 41 (by decide)) rfl rfl (Nat.le_of_ble_eq_true rfl) dX11_step_225 (fun H locs => ?_)
                  clear hP hD hS
                  intro hP hD hS
                  replace hP : va_P D vwCl [(moC md sd mth mst hn cn pn mq gn mln mnn ln mlt msz c1q (0) c0q c1q mfa mfb an un lc td mtn), (aI cI (md 34) 300 mtp)] H := hP
                  replace hD : va_D A [(moC md sd mth mst hn cn pn mq gn mln mnn ln mlt msz c1q (0) c0q c1q mfa mfb an un lc td mtn), (aI cI (md 34) 300 mtp)] := hD
                  have hP9 := hP
                  have hD9 := hD
                  exact W.vret hx hb hr (fun t ht hW => ⟨⟨(c1q, 0, c0q, c1q), rfl, (by show mcu.toInt ≤ c0q.toInt ∧ c0q.toInt ≤ c1q.toInt ∧ c1q.toInt ≤ msz.toInt ∧ c1q.toInt = c1q.toInt ∧ ((0 : Int32).toInt = 1 ∨ c0q.toInt < c1q.toInt); omega), by rw [ht]; exact hP9, va_K.moved hW.alike hK, hD9⟩, hS.F ht⟩) hS.2.2 dX11_step_228
              · skip
                have f80 := bo_t hw72 c74
                refine lv_aload_n hx hb dX11_step_91 rfl (lv_at hl 0 rfl) ?_
                refine lv_dup hx hb dX11_step_92 rfl ?_
                refine va_get (D := D) (ci := 11) (v := .int c1q) (C := RX11) (T := TX11) (N := 64) hx hb hts inX11_step_X11 hown hK hP 0 rfl rfl 38 (by decide) (hts (Cond.fieldLink RX11 250 "PortRoomsModel" "cursor" "I") (wm_t (wm_l (wm_i 0 rfl)))) (fun _ h9 => h9) rfl dX11_step_93 ?_
                refine lv_iconst (v := 1) hx hb dX11_step_96 (by decide) ?_
                refine lv_iadd hx hb dX11_step_97 ?_
                refine lv_topi (fun v81 ev81 => ?_)
                try have tv81 : v81.toInt = c1q.toInt + 1 := by rw [ev81]; exact (i_add (x := c1q) (y := (1 : Int32)) (by rw [k1]; omega) (by rw [k1]; omega)).trans (by rw [k1])
                refine va_put (D := D) (ci := 11) (v := .int v81) (ty := .int) (C := RX11) (T := TX11) (N := 64) hx hb hts inX11_step_X11 tyX11 tyX11_ok nmX11 hown hK hP hD hS 0 rfl rfl 38 (by decide) (hts (Cond.fieldLink RX11 250 "PortRoomsModel" "cursor" "I") (wm_t (wm_l (wm_i 0 rfl)))) (fun _ h9 => h9) rfl (tyX11_ok 38 (by decide)) rfl rfl (Nat.le_of_ble_eq_true rfl) dX11_step_98 (fun H locs => ?_)
                clear hP hD hS
                intro hP hD hS
                replace hP : va_P D vwCl [(moC md sd mth mst hn cn pn mq gn mln mnn ln mlt msz v81 mtk c0q mti mfa mfb an un lc td mtn), (aI cI (md 34) 300 mtp)] H := hP
                replace hD : va_D A [(moC md sd mth mst hn cn pn mq gn mln mnn ln mlt msz v81 mtk c0q mti mfa mfb an un lc td mtn), (aI cI (md 34) 300 mtp)] := hD
                refine lv_goto (tgt := 77) hx hb dX11_step_101 (by decide) ?_
                exact ih65 v81 ls H locs ⟨(by omega), (by omega), (by omega), lv_sub hl [0, 1] rfl, hP.sub [0, 1] rfl, hD.sub [0, 1] (by decide +kernel) rfl, hS⟩ (by show msz.toInt - v81.toInt < _; omega)
        · skip
          have f82 := i_eq c21
          refine lv_aload_n hx hb dX11_step_62 rfl (lv_at hl 1 rfl) ?_
          refine lv_iconst (v := 1) hx hb dX11_step_63 (by decide) ?_
          refine va_put (D := D) (ci := 11) (v := .int 1) (ty := .int) (C := RX11) (T := TX11) (N := 64) hx hb hts inX11_step_X11 tyX11 tyX11_ok nmX11 hown hK hP hD hS 0 rfl rfl 39 (by decide) (hts (Cond.fieldLink RX11 259 "PortRoomsModel" "token" "I") (wm_t (wm_l (wm_i 3 rfl)))) (fun _ h9 => h9) rfl (tyX11_ok 39 (by decide)) rfl rfl (Nat.le_of_ble_eq_true rfl) dX11_step_64 (fun H locs => ?_)
          clear hP hD hS
          intro hP hD hS
          replace hP : va_P D vwCl [(moC md sd mth mst hn cn pn mq gn mln mnn ln mlt msz c0q (1) c0q mti mfa mfb an un lc td mtn), (aI cI (md 34) 300 mtp)] H := hP
          replace hD : va_D A [(moC md sd mth mst hn cn pn mq gn mln mnn ln mlt msz c0q (1) c0q mti mfa mfb an un lc td mtn), (aI cI (md 34) 300 mtp)] := hD
          refine lv_goto (tgt := 220) hx hb dX11_step_67 (by decide) ?_
          refine lv_aload_n hx hb dX11_step_220 rfl (lv_at hl 1 rfl) ?_
          refine lv_aload_n hx hb dX11_step_221 rfl (lv_at hl 1 rfl) ?_
          refine va_get (D := D) (ci := 11) (v := .int c0q) (C := RX11) (T := TX11) (N := 64) hx hb hts inX11_step_X11 hown hK hP 0 rfl rfl 38 (by decide) (hts (Cond.fieldLink RX11 250 "PortRoomsModel" "cursor" "I") (wm_t (wm_l (wm_i 0 rfl)))) (fun _ h9 => h9) rfl dX11_step_222 ?_
          refine va_put (D := D) (ci := 11) (v := .int c0q) (ty := .int) (C := RX11) (T := TX11) (N := 64) hx hb hts inX11_step_X11 tyX11 tyX11_ok nmX11 hown hK hP hD hS 0 rfl rfl 41 (by decide) (hts (Cond.fieldLink RX11 268 "PortRoomsModel" "till" "I") (wm_t (wm_l (wm_i 4 rfl)))) (fun _ h9 => h9) rfl (tyX11_ok 41 (by decide)) rfl rfl (Nat.le_of_ble_eq_true rfl) dX11_step_225 (fun H locs => ?_)
          clear hP hD hS
          intro hP hD hS
          replace hP : va_P D vwCl [(moC md sd mth mst hn cn pn mq gn mln mnn ln mlt msz c0q (1) c0q c0q mfa mfb an un lc td mtn), (aI cI (md 34) 300 mtp)] H := hP
          replace hD : va_D A [(moC md sd mth mst hn cn pn mq gn mln mnn ln mlt msz c0q (1) c0q c0q mfa mfb an un lc td mtn), (aI cI (md 34) 300 mtp)] := hD
          have hP9 := hP
          have hD9 := hD
          exact W.vret hx hb hr (fun t ht hW => ⟨⟨(c0q, 1, c0q, c0q), rfl, (by show mcu.toInt ≤ c0q.toInt ∧ c0q.toInt ≤ c0q.toInt ∧ c0q.toInt ≤ msz.toInt ∧ c0q.toInt = c0q.toInt ∧ ((1 : Int32).toInt = 1 ∨ c0q.toInt < c0q.toInt); omega), by rw [ht]; exact hP9, va_K.moved hW.alike hK, hD9⟩, hS.F ht⟩) hS.2.2 dX11_step_228
      · skip
        have f83 := i_eq c16
        refine lv_aload_n hx hb dX11_step_26 rfl (lv_at hl 0 rfl) ?_
        refine lv_dup hx hb dX11_step_27 rfl ?_
        refine va_get (D := D) (ci := 11) (v := .int c0q) (C := RX11) (T := TX11) (N := 64) hx hb hts inX11_step_X11 hown hK hP 0 rfl rfl 38 (by decide) (hts (Cond.fieldLink RX11 250 "PortRoomsModel" "cursor" "I") (wm_t (wm_l (wm_i 0 rfl)))) (fun _ h9 => h9) rfl dX11_step_28 ?_
        refine lv_iconst (v := 1) hx hb dX11_step_31 (by decide) ?_
        refine lv_iadd hx hb dX11_step_32 ?_
        refine lv_topi (fun v84 ev84 => ?_)
        try have tv84 : v84.toInt = c0q.toInt + 1 := by rw [ev84]; exact (i_add (x := c0q) (y := (1 : Int32)) (by rw [k1]; omega) (by rw [k1]; omega)).trans (by rw [k1])
        refine va_put (D := D) (ci := 11) (v := .int v84) (ty := .int) (C := RX11) (T := TX11) (N := 64) hx hb hts inX11_step_X11 tyX11 tyX11_ok nmX11 hown hK hP hD hS 0 rfl rfl 38 (by decide) (hts (Cond.fieldLink RX11 250 "PortRoomsModel" "cursor" "I") (wm_t (wm_l (wm_i 0 rfl)))) (fun _ h9 => h9) rfl (tyX11_ok 38 (by decide)) rfl rfl (Nat.le_of_ble_eq_true rfl) dX11_step_33 (fun H locs => ?_)
        clear hP hD hS
        intro hP hD hS
        replace hP : va_P D vwCl [(moC md sd mth mst hn cn pn mq gn mln mnn ln mlt msz v84 mtk mfr mti mfa mfb an un lc td mtn), (aI cI (md 34) 300 mtp)] H := hP
        replace hD : va_D A [(moC md sd mth mst hn cn pn mq gn mln mnn ln mlt msz v84 mtk mfr mti mfa mfb an un lc td mtn), (aI cI (md 34) 300 mtp)] := hD
        refine lv_goto (tgt := 0) hx hb dX11_step_36 (by decide) ?_
        exact ih3 v84 ls H locs ⟨(by omega), (by omega), lv_sub hl [0] rfl, hP.sub [0, 1] rfl, hD.sub [0, 1] (by decide +kernel) rfl, hS⟩ (by show msz.toInt - v84.toInt < _; omega)

set_option maxHeartbeats 4000000 in
set_option maxRecDepth 100000 in
theorem ct_X11_bad (l : Launch) (D : va_G) (cI cY cJ cQ : ClassId) (sz : Nat) (md : Nat → Nat) (sd : Int32) (mth mst hn cn pn mq gn mln mnn ln mlt msz mcu mtk mfr mti mfa mfb an un lc td mtn : Int32) (a : Int32)   : Met l yX11_bad wsX11_bad ({ frames := 0, cells := 0, slots := 0, locals := 0 }) (cPre D (ty4 cI cY cJ cQ) [(moC md sd mth mst hn cn pn mq gn mln mnn ln mlt msz mcu mtk mfr mti mfa mfb an un lc td mtn)] sz [.ref (md 64), .int a]) (va_Qv (fun (u : Int32 × Int32) => (mfa.toInt = 0 ∧ u.1.toInt = a.toInt) ∨ (¬ mfa.toInt = 0 ∧ u.1.toInt = mfa.toInt)) (cB D (ty4 cI cY cJ cQ) (fun (u : Int32 × Int32) => [(moC md sd mth mst hn cn pn mq gn mln mnn ln mlt msz mcu mtk mfr mti u.1 u.2 an un lc td mtn)]) (va_A [(moC md sd mth mst hn cn pn mq gn mln mnn ln mlt msz mcu mtk mfr mti mfa mfb an un lc td mtn)] sz)) (va_A [(moC md sd mth mst hn cn pn mq gn mln mnn ln mlt msz mcu mtk mfr mti mfa mfb an un lc td mtn)] sz)) 0 0 (va_A [(moC md sd mth mst hn cn pn mq gn mln mnn ln mlt msz mcu mtk mfr mti mfa mfb an un lc td mtn)] sz) := by
  refine Met.ofW (cc := cX11_bad) (maxL := 2) (ret := none) (by decide) rfl ?_
  intro p e s m args below meth c s₁ B hml hv
  obtain ⟨rfl, hsz, hP, hK, hD0, hN⟩ := hv
  have hx := B.exec
  have hb := B.bytes
  have hr := B.returns
  have hts := atoms_spec (ws := wsX11_bad) B.pre
  have hown : s.vm.findClass RX11 = some m.cls := findClass_of_methodNamed B.named
  have hlocks := B.notSynchronized
  subst hsz
  have hD := hD0.self (sz := s.heap.size)
  generalize hAe : va_A [(moC md sd mth mst hn cn pn mq gn mln mnn ln mlt msz mcu mtk mfr mti mfa mfb an un lc td mtn)] s.heap.size = A at hD ⊢
  have hA : ∀ q : Nat, s.heap.size ≤ q → A q := fun q h => by rw [← hAe]; exact Or.inr h
  have hS : va_S A s.heap s.heap [] := va_S.rf
  have hP : va_P D vwCl [(moC md sd mth mst hn cn pn mq gn mln mnn ln mlt msz mcu mtk mfr mti mfa mfb an un lc td mtn)] s.heap := hP
  have hl := lv_entry ([.ref (md 64), .int a]) (n := 2) (Nat.le_of_ble_eq_true rfl)
  rw [lg_entry_eq]
  generalize (lg_sl ([.ref (md 64), .int a]) ++ List.replicate (2 - (lg_sl ([.ref (md 64), .int a])).length) Slot.unset).toArray = ls at hl ⊢
  have hl : lv_has ls 2 [(0, .ref (md 64)), (1, .int a)] := hl
  have k0 : (0 : Int32).toInt = 0 := by decide
  refine lv_aload_n hx hb dX11_bad_0 rfl (lv_at hl 0 rfl) ?_
  refine va_get (D := D) (ci := 11) (v := .int mfa) (C := RX11) (T := TX11) (N := 64) hx hb hts inX11_bad_X11 hown hK hP 0 rfl rfl 42 (by decide) (hts (Cond.fieldLink RX11 271 "PortRoomsModel" "fault" "I") (wm_t (wm_l (wm_i 0 rfl)))) (fun _ h9 => h9) rfl dX11_bad_1 ?_
  refine lv_if_ne (tgt := 20) hx hb dX11_bad_4 (by decide) (fun c1 => ?_) (fun c1 => ?_)
  · skip
    have f2 := i_ne c1
    have hP9 := hP
    have hD9 := hD
    exact W.vret hx hb hr (fun t ht hW => ⟨⟨(mfa, mfb), rfl, (by show (mfa.toInt = 0 ∧ mfa.toInt = a.toInt) ∨ (¬ mfa.toInt = 0 ∧ mfa.toInt = mfa.toInt); omega), by rw [ht]; exact hP9, va_K.moved hW.alike hK, hD9⟩, hS.F ht⟩) hS.2.2 dX11_bad_20
  · skip
    have f3 := i_eq c1
    refine lv_aload_n hx hb dX11_bad_7 rfl (lv_at hl 0 rfl) ?_
    refine lv_iload_n hx hb dX11_bad_8 rfl (lv_at hl 1 rfl) ?_
    refine va_put (D := D) (ci := 11) (v := .int a) (ty := .int) (C := RX11) (T := TX11) (N := 64) hx hb hts inX11_bad_X11 tyX11 tyX11_ok nmX11 hown hK hP hD hS 0 rfl rfl 42 (by decide) (hts (Cond.fieldLink RX11 271 "PortRoomsModel" "fault" "I") (wm_t (wm_l (wm_i 0 rfl)))) (fun _ h9 => h9) rfl (tyX11_ok 42 (by decide)) rfl rfl (Nat.le_of_ble_eq_true rfl) dX11_bad_9 (fun H locs => ?_)
    clear hP hD hS
    intro hP hD hS
    replace hP : va_P D vwCl [(moC md sd mth mst hn cn pn mq gn mln mnn ln mlt msz mcu mtk mfr mti a mfb an un lc td mtn)] H := hP
    replace hD : va_D A [(moC md sd mth mst hn cn pn mq gn mln mnn ln mlt msz mcu mtk mfr mti a mfb an un lc td mtn)] := hD
    refine lv_aload_n hx hb dX11_bad_12 rfl (lv_at hl 0 rfl) ?_
    refine lv_aload_n hx hb dX11_bad_13 rfl (lv_at hl 0 rfl) ?_
    refine va_get (D := D) (ci := 11) (v := .int mfr) (C := RX11) (T := TX11) (N := 64) hx hb hts inX11_bad_X11 hown hK hP 0 rfl rfl 40 (by decide) (hts (Cond.fieldLink RX11 256 "PortRoomsModel" "from" "I") (wm_t (wm_l (wm_i 1 rfl)))) (fun _ h9 => h9) rfl dX11_bad_14 ?_
    refine va_put (D := D) (ci := 11) (v := .int mfr) (ty := .int) (C := RX11) (T := TX11) (N := 64) hx hb hts inX11_bad_X11 tyX11 tyX11_ok nmX11 hown hK hP hD hS 0 rfl rfl 43 (by decide) (hts (Cond.fieldLink RX11 274 "PortRoomsModel" "faultAt" "I") (wm_t (wm_l (wm_i 2 rfl)))) (fun _ h9 => h9) rfl (tyX11_ok 43 (by decide)) rfl rfl (Nat.le_of_ble_eq_true rfl) dX11_bad_17 (fun H locs => ?_)
    clear hP hD hS
    intro hP hD hS
    replace hP : va_P D vwCl [(moC md sd mth mst hn cn pn mq gn mln mnn ln mlt msz mcu mtk mfr mti a mfr an un lc td mtn)] H := hP
    replace hD : va_D A [(moC md sd mth mst hn cn pn mq gn mln mnn ln mlt msz mcu mtk mfr mti a mfr an un lc td mtn)] := hD
    have hP9 := hP
    have hD9 := hD
    exact W.vret hx hb hr (fun t ht hW => ⟨⟨(a, mfr), rfl, (by show (mfa.toInt = 0 ∧ a.toInt = a.toInt) ∨ (¬ mfa.toInt = 0 ∧ a.toInt = mfa.toInt); omega), by rw [ht]; exact hP9, va_K.moved hW.alike hK, hD9⟩, hS.F ht⟩) hS.2.2 dX11_bad_20

set_option maxHeartbeats 4000000 in
set_option maxRecDepth 100000 in
theorem ct_X11_need (l : Launch) (D : va_G) (cI cY cJ cQ : ClassId) (sz : Nat) (md : Nat → Nat) (sd : Int32) (mth mst hn cn pn mq gn mln mnn ln mlt msz mcu mtk mfr mti mfa mfb an un lc td mtn : Int32) (mtp : Nat → Int32) (a : Int32)  (h1 : 0 ≤ msz.toInt) (h2 : msz.toInt ≤ 300) (h3 : 0 ≤ mcu.toInt) (h4 : mcu.toInt ≤ msz.toInt) (h5 : 0 ≤ mfr.toInt) (h6 : mfr.toInt ≤ mcu.toInt) (h7 : mti.toInt = mcu.toInt)  : Met l yX11_need wsX11_need ({ frames := 2, cells := 0, slots := 0, locals := 42 }) (cPre D (ty4 cI cY cJ cQ) [(moC md sd mth mst hn cn pn mq gn mln mnn ln mlt msz mcu mtk mfr mti mfa mfb an un lc td mtn), (aI cI (md 34) 300 mtp)] sz [.ref (md 64), .int a]) (va_Qv (fun (u : Int32 × Int32 × Int32 × Int32 × Int32 × Int32) => 0 ≤ u.2.2.1.toInt ∧ u.2.2.1.toInt ≤ u.1.toInt ∧ u.1.toInt ≤ msz.toInt ∧ u.2.2.2.1.toInt = u.1.toInt ∧ ((mfa.toInt = 0 ∧ ¬ a.toInt = 0 ∧ u.2.2.2.2.1.toInt = 0 ∧ mcu.toInt ≤ u.2.2.1.toInt ∧ (u.2.1.toInt = 1 ∨ u.2.2.1.toInt < u.1.toInt)) ∨ (¬ u.2.2.2.2.1.toInt = 0 ∧ u.2.2.1.toInt = mfr.toInt ∧ u.2.1.toInt = mtk.toInt ∧ u.1.toInt = mcu.toInt))) (cB D (ty4 cI cY cJ cQ) (fun (u : Int32 × Int32 × Int32 × Int32 × Int32 × Int32) => [(moC md sd mth mst hn cn pn mq gn mln mnn ln mlt msz u.1 u.2.1 u.2.2.1 u.2.2.2.1 u.2.2.2.2.1 u.2.2.2.2.2 an un lc td mtn), (aI cI (md 34) 300 mtp)]) (va_A [(moC md sd mth mst hn cn pn mq gn mln mnn ln mlt msz mcu mtk mfr mti mfa mfb an un lc td mtn), (aI cI (md 34) 300 mtp)] sz)) (va_A [(moC md sd mth mst hn cn pn mq gn mln mnn ln mlt msz mcu mtk mfr mti mfa mfb an un lc td mtn), (aI cI (md 34) 300 mtp)] sz)) 0 0 (va_A [(moC md sd mth mst hn cn pn mq gn mln mnn ln mlt msz mcu mtk mfr mti mfa mfb an un lc td mtn), (aI cI (md 34) 300 mtp)] sz) := by
  refine Met.ofW (cc := cX11_need) (maxL := 2) (ret := none) (by decide) rfl ?_
  intro p e s m args below meth c s₁ B hml hv
  obtain ⟨rfl, hsz, hP, hK, hD0, hN⟩ := hv
  have hx := B.exec
  have hb := B.bytes
  have hr := B.returns
  have hts := atoms_spec (ws := wsX11_need) B.pre
  have hown : s.vm.findClass RX11 = some m.cls := findClass_of_methodNamed B.named
  have hlocks := B.notSynchronized
  subst hsz
  have hD := hD0.self (sz := s.heap.size)
  generalize hAe : va_A [(moC md sd mth mst hn cn pn mq gn mln mnn ln mlt msz mcu mtk mfr mti mfa mfb an un lc td mtn), (aI cI (md 34) 300 mtp)] s.heap.size = A at hD ⊢
  have hA : ∀ q : Nat, s.heap.size ≤ q → A q := fun q h => by rw [← hAe]; exact Or.inr h
  have hS : va_S A s.heap s.heap [] := va_S.rf
  have hP : va_P D vwCl [(moC md sd mth mst hn cn pn mq gn mln mnn ln mlt msz mcu mtk mfr mti mfa mfb an un lc td mtn), (aI cI (md 34) 300 mtp)] s.heap := hP
  have hl := lv_entry ([.ref (md 64), .int a]) (n := 2) (Nat.le_of_ble_eq_true rfl)
  rw [lg_entry_eq]
  generalize (lg_sl ([.ref (md 64), .int a]) ++ List.replicate (2 - (lg_sl ([.ref (md 64), .int a])).length) Slot.unset).toArray = ls at hl ⊢
  have hl : lv_has ls 2 [(0, .ref (md 64)), (1, .int a)] := hl
  have k0 : (0 : Int32).toInt = 0 := by decide
  have k1 : (1 : Int32).toInt = 1 := by decide
  refine st_join 9 (fun (z : Int32 × Int32) => match z with | (jfa, jfb) => []) (fun (z : Int32 × Int32) (ls : Array Slot) (H : Heap) (locs : List Loc) => match z with | (jfa, jfb) => ((¬ a.toInt = 0 ∧ jfa.toInt = mfa.toInt) ∨ (a.toInt = 0 ∧ ¬ jfa.toInt = 0)) ∧ lv_has ls 2 [(0, .ref (md 64)), (1, .int a)] ∧ va_P D vwCl [(moC md sd mth mst hn cn pn mq gn mln mnn ln mlt msz mcu mtk mfr mti jfa jfb an un lc td mtn), (aI cI (md 34) 300 mtp)] H ∧ va_D A [(moC md sd mth mst hn cn pn mq gn mln mnn ln mlt msz mcu mtk mfr mti jfa jfb an un lc td mtn), (aI cI (md 34) 300 mtp)] ∧ va_S A s.heap H locs) ?_ ?_
  · rintro ⟨jfa, jfb⟩ ls H locs ⟨g1, hl, hP, hD, hS⟩
    replace hl : lv_has ls 2 [(0, .ref (md 64)), (1, .int a)] := hl
    replace hP : va_P D vwCl [(moC md sd mth mst hn cn pn mq gn mln mnn ln mlt msz mcu mtk mfr mti jfa jfb an un lc td mtn), (aI cI (md 34) 300 mtp)] H := hP
    replace hD : va_D A [(moC md sd mth mst hn cn pn mq gn mln mnn ln mlt msz mcu mtk mfr mti jfa jfb an un lc td mtn), (aI cI (md 34) 300 mtp)] := hD
    show W _ _ _ _ _ _ _ _ _ _ _ _ _ _ _ (F0 m 9 ls [])
    refine lv_aload_n hx hb dX11_need_9 rfl (lv_at hl 0 rfl) ?_
    refine va_get (D := D) (ci := 11) (v := .int jfa) (C := RX11) (T := TX11) (N := 64) hx hb hts inX11_need_X11 hown hK hP 0 rfl rfl 42 (by decide) (hts (Cond.fieldLink RX11 271 "PortRoomsModel" "fault" "I") (wm_t (wm_l (wm_i 0 rfl)))) (fun _ h9 => h9) rfl dX11_need_10 ?_
    refine lv_if_ne (tgt := 20) hx hb dX11_need_13 (by decide) (fun c3 => ?_) (fun c3 => ?_)
    · skip
      have f4 := i_ne c3
      have hP9 := hP
      have hD9 := hD
      exact W.vret hx hb hr (fun t ht hW => ⟨⟨(mcu, mtk, mfr, mti, jfa, jfb), rfl, (by show 0 ≤ mfr.toInt ∧ mfr.toInt ≤ mcu.toInt ∧ mcu.toInt ≤ msz.toInt ∧ mti.toInt = mcu.toInt ∧ ((mfa.toInt = 0 ∧ ¬ a.toInt = 0 ∧ jfa.toInt = 0 ∧ mcu.toInt ≤ mfr.toInt ∧ (mtk.toInt = 1 ∨ mfr.toInt < mcu.toInt)) ∨ (¬ jfa.toInt = 0 ∧ mfr.toInt = mfr.toInt ∧ mtk.toInt = mtk.toInt ∧ mcu.toInt = mcu.toInt)); omega), by rw [ht]; exact hP9, va_K.moved hW.alike hK, hD9⟩, hS.F ht⟩) hS.2.2 dX11_need_20
    · skip
      have f5 := i_eq c3
      refine lv_aload_n hx hb dX11_need_16 rfl (lv_at hl 0 rfl) ?_
      refine st_v (wr := []) (va_runV (C := RX11) (As := []) (rest := []) ⟨hx, hb, hml, hown, hts⟩ (ct_X11_step l D cI cY cJ cQ _ md sd mth mst hn cn pn mq gn mln mnn ln mlt msz mcu mtk mfr mti jfa jfb an un lc td mtn mtp h1 h2 h3 h4) (cwV 0 hts gX11_need_X11_step rfl rfl rfl ⟨rfl, cdX11_step⟩ ⟨Nat.le_of_ble_eq_true rfl, Nat.le_of_ble_eq_true rfl⟩) (cPreV (hP.sub [0, 1] rfl) hK (hD.sub [0, 1] (by decide +kernel) rfl) hN (ci := 11) (q0 := 0) rfl rfl) rfl rfl hl.1 rfl (lv_room (Nat.le_of_ble_eq_true rfl)) dX11_need_17 ⟨Nat.le_of_ble_eq_true rfl, Nat.le_of_ble_eq_true rfl⟩) hP hD hS hA [0, 1] [] rfl rfl (by decide +kernel) (by decide +kernel) (fun u6 H locs hw7 => ?_)
      clear hP hD hS
      intro hP hD hS
      obtain ⟨mcu_9, mtk_10, mfr_11, mti_12⟩ := u6
      replace hw7 : mcu.toInt ≤ mfr_11.toInt ∧ mfr_11.toInt ≤ mcu_9.toInt ∧ mcu_9.toInt ≤ msz.toInt ∧ mti_12.toInt = mcu_9.toInt ∧ (mtk_10.toInt = 1 ∨ mfr_11.toInt < mcu_9.toInt) := hw7
      replace hP : va_P D vwCl [(moC md sd mth mst hn cn pn mq gn mln mnn ln mlt msz mcu_9 mtk_10 mfr_11 mti_12 jfa jfb an un lc td mtn), (aI cI (md 34) 300 mtp)] H := hP
      replace hD : va_D A [(moC md sd mth mst hn cn pn mq gn mln mnn ln mlt msz mcu_9 mtk_10 mfr_11 mti_12 jfa jfb an un lc td mtn), (aI cI (md 34) 300 mtp)] := hD
      have hP9 := hP
      have hD9 := hD
      exact W.vret hx hb hr (fun t ht hW => ⟨⟨(mcu_9, mtk_10, mfr_11, mti_12, jfa, jfb), rfl, (by show 0 ≤ mfr_11.toInt ∧ mfr_11.toInt ≤ mcu_9.toInt ∧ mcu_9.toInt ≤ msz.toInt ∧ mti_12.toInt = mcu_9.toInt ∧ ((mfa.toInt = 0 ∧ ¬ a.toInt = 0 ∧ jfa.toInt = 0 ∧ mcu.toInt ≤ mfr_11.toInt ∧ (mtk_10.toInt = 1 ∨ mfr_11.toInt < mcu_9.toInt)) ∨ (¬ jfa.toInt = 0 ∧ mfr_11.toInt = mfr.toInt ∧ mtk_10.toInt = mtk.toInt ∧ mcu_9.toInt = mcu.toInt)); omega), by rw [ht]; exact hP9, va_K.moved hW.alike hK, hD9⟩, hS.F ht⟩) hS.2.2 dX11_need_20
  · intro hj2
    refine lv_iload_n hx hb dX11_need_0 rfl (lv_at hl 1 rfl) ?_
    refine lv_if_ne (tgt := 9) hx hb dX11_need_1 (by decide) (fun c13 => ?_) (fun c13 => ?_)
    · skip
      have f14 := i_ne c13
      exact hj2 (mfa, mfb) ls _ _ ⟨(by omega), lv_sub hl [0, 1] rfl, hP.sub [0, 1] rfl, hD.sub [0, 1] (by decide +kernel) rfl, hS⟩
    · skip
      have f15 := i_eq c13
      refine lv_aload_n hx hb dX11_need_4 rfl (lv_at hl 0 rfl) ?_
      refine lv_iconst (v := 1) hx hb dX11_need_5 (by decide) ?_
      refine st_v (wr := [(aI cI (md 34) 300 mtp)]) (va_runV (C := RX11) (As := [.int 1]) (rest := []) ⟨hx, hb, hml, hown, hts⟩ (ct_X11_bad l D cI cY cJ cQ _ md sd mth mst hn cn pn mq gn mln mnn ln mlt msz mcu mtk mfr mti mfa mfb an un lc td mtn (1 : Int32)) (cwV 1 hts gX11_need_X11_bad rfl rfl rfl ⟨rfl, cdX11_bad⟩ ⟨Nat.le_of_ble_eq_true rfl, Nat.le_of_ble_eq_true rfl⟩) (cPreV (hP.sub [0] rfl) hK (hD.sub [0] (by decide +kernel) rfl) hN (ci := 11) (q0 := 0) rfl rfl) rfl rfl hl.1 rfl (lv_room (Nat.le_of_ble_eq_true rfl)) dX11_need_6 ⟨Nat.le_of_ble_eq_true rfl, Nat.le_of_ble_eq_true rfl⟩) hP hD hS hA [0] [1] rfl rfl (by decide +kernel) (by decide +kernel) (fun u16 H locs hw17 => ?_)
      clear hP hD hS
      intro hP hD hS
      obtain ⟨mfa_19, mfb_20⟩ := u16
      replace hw17 : (mfa.toInt = 0 ∧ mfa_19.toInt = (1 : Int32).toInt) ∨ (¬ mfa.toInt = 0 ∧ mfa_19.toInt = mfa.toInt) := hw17
      replace hP : va_P D vwCl [(aI cI (md 34) 300 mtp), (moC md sd mth mst hn cn pn mq gn mln mnn ln mlt msz mcu mtk mfr mti mfa_19 mfb_20 an un lc td mtn)] H := hP
      replace hD : va_D A [(aI cI (md 34) 300 mtp), (moC md sd mth mst hn cn pn mq gn mln mnn ln mlt msz mcu mtk mfr mti mfa_19 mfb_20 an un lc td mtn)] := hD
      exact hj2 (mfa_19, mfb_20) ls _ _ ⟨(by omega), lv_sub hl [0, 1] rfl, hP.sub [1, 0] rfl, hD.sub [1, 0] (by decide +kernel) rfl, hS⟩

set_option maxHeartbeats 4000000 in
set_option maxRecDepth 100000 in
theorem ct_X11_is (l : Launch) (D : va_G) (cI cY cJ cQ : ClassId) (sz : Nat) (md : Nat → Nat) (sd : Int32) (mth mst hn cn pn mq gn mln mnn ln mlt msz mcu mtk mfr mti mfa mfb an un lc td mtn : Int32) (mtp : Nat → Int32) (a : Int32)  (h1 : 0 ≤ mfr.toInt) (h2 : mtk.toInt = 1 ∨ mfr.toInt < mcu.toInt) (h3 : mcu.toInt ≤ 300)  : Met l yX11_is wsX11_is ({ frames := 0, cells := 0, slots := 0, locals := 0 }) (cPre D (ty4 cI cY cJ cQ) [(moC md sd mth mst hn cn pn mq gn mln mnn ln mlt msz mcu mtk mfr mti mfa mfb an un lc td mtn), (aI cI (md 34) 300 mtp)] sz [.ref (md 64), .int a]) (va_Qi (fun (r : Int32) (u : Unit) => r = 0 ∨ r = 1) (cB D (ty4 cI cY cJ cQ) (fun (u : Unit) => [(moC md sd mth mst hn cn pn mq gn mln mnn ln mlt msz mcu mtk mfr mti mfa mfb an un lc td mtn), (aI cI (md 34) 300 mtp)]) (va_A [(moC md sd mth mst hn cn pn mq gn mln mnn ln mlt msz mcu mtk mfr mti mfa mfb an un lc td mtn), (aI cI (md 34) 300 mtp)] sz)) (va_A [(moC md sd mth mst hn cn pn mq gn mln mnn ln mlt msz mcu mtk mfr mti mfa mfb an un lc td mtn), (aI cI (md 34) 300 mtp)] sz)) 0 0 (va_A [(moC md sd mth mst hn cn pn mq gn mln mnn ln mlt msz mcu mtk mfr mti mfa mfb an un lc td mtn), (aI cI (md 34) 300 mtp)] sz) := by
  refine Met.ofW (cc := cX11_is) (maxL := 2) (ret := (some .boolean)) (by decide) rfl ?_
  intro p e s m args below meth c s₁ B hml hv
  obtain ⟨rfl, hsz, hP, hK, hD0, hN⟩ := hv
  have hx := B.exec
  have hb := B.bytes
  have hr := B.returns
  have hts := atoms_spec (ws := wsX11_is) B.pre
  have hown : s.vm.findClass RX11 = some m.cls := findClass_of_methodNamed B.named
  have hlocks := B.notSynchronized
  subst hsz
  have hD := hD0.self (sz := s.heap.size)
  generalize hAe : va_A [(moC md sd mth mst hn cn pn mq gn mln mnn ln mlt msz mcu mtk mfr mti mfa mfb an un lc td mtn), (aI cI (md 34) 300 mtp)] s.heap.size = A at hD ⊢
  have hA : ∀ q : Nat, s.heap.size ≤ q → A q := fun q h => by rw [← hAe]; exact Or.inr h
  have hS : va_S A s.heap s.heap [] := va_S.rf
  have hP : va_P D vwCl [(moC md sd mth mst hn cn pn mq gn mln mnn ln mlt msz mcu mtk mfr mti mfa mfb an un lc td mtn), (aI cI (md 34) 300 mtp)] s.heap := hP
  have hl := lv_entry ([.ref (md 64), .int a]) (n := 2) (Nat.le_of_ble_eq_true rfl)
  rw [lg_entry_eq]
  generalize (lg_sl ([.ref (md 64), .int a]) ++ List.replicate (2 - (lg_sl ([.ref (md 64), .int a])).length) Slot.unset).toArray = ls at hl ⊢
  have hl : lv_has ls 2 [(0, .ref (md 64)), (1, .int a)] := hl
  have k4 : (4 : Int32).toInt = 4 := by decide
  refine lv_aload_n hx hb dX11_is_0 rfl (lv_at hl 0 rfl) ?_
  refine va_get (D := D) (ci := 11) (v := .int mtk) (C := RX11) (T := TX11) (N := 64) hx hb hts inX11_is_X11 hown hK hP 0 rfl rfl 39 (by decide) (hts (Cond.fieldLink RX11 259 "PortRoomsModel" "token" "I") (wm_t (wm_l (wm_i 0 rfl)))) (fun _ h9 => h9) rfl dX11_is_1 ?_
  refine lv_iconst (v := 4) hx hb dX11_is_4 (by decide) ?_
  refine lv_icmp_ne (tgt := 25) hx hb dX11_is_5 (by decide) (fun c1 => ?_) (fun c1 => ?_)
  · skip
    have f2 := i_ne c1
    refine lv_iconst (v := 0) hx hb dX11_is_25 (by decide) ?_
    have hP9 := hP
    have hD9 := hD
    exact W.zret (v := 0) hx hb hr rfl (fun t ht hW => ⟨⟨0, (), rfl, (by first | exact Or.inl rfl | exact Or.inr rfl), by rw [ht]; exact hP9, va_K.moved hW.alike hK, hD9⟩, hS.F ht⟩) hS.2.2 dX11_is_26
  · skip
    have f3 := i_eq c1
    refine lv_aload_n hx hb dX11_is_8 rfl (lv_at hl 0 rfl) ?_
    refine va_get (D := D) (ci := 11) (v := .ref (md 34)) (C := RX11) (T := TX11) (N := 64) hx hb hts inX11_is_X11 hown hK hP 0 rfl rfl 34 (by decide) (hts (Cond.fieldLink RX11 87 "PortRoomsModel" "tape" "[I") (wm_t (wm_l (wm_i 1 rfl)))) (fun _ h9 => h9) rfl dX11_is_9 ?_
    refine lv_aload_n hx hb dX11_is_12 rfl (lv_at hl 0 rfl) ?_
    refine va_get (D := D) (ci := 11) (v := .int mfr) (C := RX11) (T := TX11) (N := 64) hx hb hts inX11_is_X11 hown hK hP 0 rfl rfl 40 (by decide) (hts (Cond.fieldLink RX11 256 "PortRoomsModel" "from" "I") (wm_t (wm_l (wm_i 2 rfl)))) (fun _ h9 => h9) rfl dX11_is_13 ?_
    refine va_iald hx hb hK hP 1 0 rfl rfl (i_in (by omega) (by omega)) dX11_is_16 ?_
    refine lv_topi (fun v4 ev4 => ?_)
    refine lv_iload_n hx hb dX11_is_17 rfl (lv_at hl 1 rfl) ?_
    refine lv_icmp_ne (tgt := 25) hx hb dX11_is_18 (by decide) (fun c5 => ?_) (fun c5 => ?_)
    · skip
      have f6 := i_ne c5
      refine lv_iconst (v := 0) hx hb dX11_is_25 (by decide) ?_
      have hP9 := hP
      have hD9 := hD
      exact W.zret (v := 0) hx hb hr rfl (fun t ht hW => ⟨⟨0, (), rfl, (by first | exact Or.inl rfl | exact Or.inr rfl), by rw [ht]; exact hP9, va_K.moved hW.alike hK, hD9⟩, hS.F ht⟩) hS.2.2 dX11_is_26
    · skip
      have f7 := i_eq c5
      refine lv_iconst (v := 1) hx hb dX11_is_21 (by decide) ?_
      refine lv_goto (tgt := 26) hx hb dX11_is_22 (by decide) ?_
      have hP9 := hP
      have hD9 := hD
      exact W.zret (v := 1) hx hb hr rfl (fun t ht hW => ⟨⟨1, (), rfl, (by first | exact Or.inl rfl | exact Or.inr rfl), by rw [ht]; exact hP9, va_K.moved hW.alike hK, hD9⟩, hS.F ht⟩) hS.2.2 dX11_is_26

set_option maxHeartbeats 4000000 in
set_option maxRecDepth 100000 in
theorem ct_X11_word (l : Launch) (D : va_G) (cI cY cJ cQ : ClassId) (sz : Nat) (md : Nat → Nat) (sd : Int32) (mth mst hn cn pn mq gn mln mnn ln mlt msz mcu mtk mfr mti mfa mfb an un lc td mtn : Int32) (mtp : Nat → Int32)  (h1 : 0 ≤ mfr.toInt) (h2 : mfr.toInt ≤ mti.toInt) (h3 : mti.toInt ≤ 300)  : Met l yX11_word wsX11_word ({ frames := 0, cells := 0, slots := 0, locals := 0 }) (cPre D (ty4 cI cY cJ cQ) [(moC md sd mth mst hn cn pn mq gn mln mnn ln mlt msz mcu mtk mfr mti mfa mfb an un lc td mtn), (aI cI (md 34) 300 mtp)] sz [.ref (md 64)]) (va_Ql (fun (r : Int64) (u : Unit) => True) (cB D (ty4 cI cY cJ cQ) (fun (u : Unit) => [(moC md sd mth mst hn cn pn mq gn mln mnn ln mlt msz mcu mtk mfr mti mfa mfb an un lc td mtn), (aI cI (md 34) 300 mtp)]) (va_A [(moC md sd mth mst hn cn pn mq gn mln mnn ln mlt msz mcu mtk mfr mti mfa mfb an un lc td mtn), (aI cI (md 34) 300 mtp)] sz)) (va_A [(moC md sd mth mst hn cn pn mq gn mln mnn ln mlt msz mcu mtk mfr mti mfa mfb an un lc td mtn), (aI cI (md 34) 300 mtp)] sz)) 0 0 (va_A [(moC md sd mth mst hn cn pn mq gn mln mnn ln mlt msz mcu mtk mfr mti mfa mfb an un lc td mtn), (aI cI (md 34) 300 mtp)] sz) := by
  refine Met.ofW (cc := cX11_word) (maxL := 4) (ret := (some .long)) (by decide) rfl ?_
  intro p e s m args below meth c s₁ B hml hv
  obtain ⟨rfl, hsz, hP, hK, hD0, hN⟩ := hv
  have hx := B.exec
  have hb := B.bytes
  have hr := B.returns
  have hts := atoms_spec (ws := wsX11_word) B.pre
  have hown : s.vm.findClass RX11 = some m.cls := findClass_of_methodNamed B.named
  have hlocks := B.notSynchronized
  subst hsz
  have hD := hD0.self (sz := s.heap.size)
  generalize hAe : va_A [(moC md sd mth mst hn cn pn mq gn mln mnn ln mlt msz mcu mtk mfr mti mfa mfb an un lc td mtn), (aI cI (md 34) 300 mtp)] s.heap.size = A at hD ⊢
  have hA : ∀ q : Nat, s.heap.size ≤ q → A q := fun q h => by rw [← hAe]; exact Or.inr h
  have hS : va_S A s.heap s.heap [] := va_S.rf
  have hP : va_P D vwCl [(moC md sd mth mst hn cn pn mq gn mln mnn ln mlt msz mcu mtk mfr mti mfa mfb an un lc td mtn), (aI cI (md 34) 300 mtp)] s.heap := hP
  have hl := lv_entry ([.ref (md 64)]) (n := 4) (Nat.le_of_ble_eq_true rfl)
  rw [lg_entry_eq]
  generalize (lg_sl ([.ref (md 64)]) ++ List.replicate (4 - (lg_sl ([.ref (md 64)])).length) Slot.unset).toArray = ls at hl ⊢
  have hl : lv_has ls 4 [(0, .ref (md 64))] := hl
  have k1 : (1 : Int32).toInt = 1 := by decide
  have k2 : (2 : Int32).toInt = 2 := by decide
  have kl0 : (0 : Int64).toInt = 0 := by decide
  refine lv_lconst (v := 0) hx hb dX11_word_0 (by decide) ?_
  refine lv_lstore_n (lv' := [(1, .long 0), (0, .ref (md 64))]) hx hb dX11_word_1 rfl hl (by decide) rfl (fun ls hl => ?_)
  refine lv_aload_n hx hb dX11_word_2 rfl (lv_at hl 1 rfl) ?_
  refine va_get (D := D) (ci := 11) (v := .int mfr) (C := RX11) (T := TX11) (N := 64) hx hb hts inX11_word_X11 hown hK hP 0 rfl rfl 40 (by decide) (hts (Cond.fieldLink RX11 256 "PortRoomsModel" "from" "I") (wm_t (wm_l (wm_i 0 rfl)))) (fun _ h9 => h9) rfl dX11_word_3 ?_
  refine lv_istore_n (lv' := [(3, .int mfr), (1, .long 0), (0, .ref (md 64))]) hx hb dX11_word_6 rfl hl (by decide) rfl (fun ls hl => ?_)
  refine st_loop 7 (fun _ => []) (fun (z : Int64 × Int32) (ls : Array Slot) (H : Heap) (locs : List Loc) => match z with | (q7_1, q7_3) => (mfr.toInt ≤ q7_3.toInt) ∧ (q7_3.toInt ≤ mti.toInt) ∧ lv_has ls 4 [(0, .ref (md 64)), (1, .long q7_1), (3, .int q7_3)] ∧ va_P D vwCl [(moC md sd mth mst hn cn pn mq gn mln mnn ln mlt msz mcu mtk mfr mti mfa mfb an un lc td mtn), (aI cI (md 34) 300 mtp)] H ∧ va_D A [(moC md sd mth mst hn cn pn mq gn mln mnn ln mlt msz mcu mtk mfr mti mfa mfb an un lc td mtn), (aI cI (md 34) 300 mtp)] ∧ va_S A s.heap H locs) (fun (z : Int64 × Int32) => match z with | (q7_1, q7_3) => mti.toInt - q7_3.toInt) ?_ ?_ ((0 : Int64), mfr) ⟨(by omega), (by omega), lv_sub hl [2, 1, 0] rfl, hP, hD, hS⟩
  · rintro ⟨q7_1, q7_3⟩ ls H locs ⟨g1, g2, hl, hP, hD, hS⟩
    show (0 : Int) ≤ mti.toInt - q7_3.toInt
    omega
  · rintro n5 ih3 ⟨q7_1, q7_3⟩ ls H locs ⟨g1, g2, hl, hP, hD, hS⟩ hm4
    have hm4 : mti.toInt - q7_3.toInt < (n5 : Int) + 1 := hm4
    replace hl : lv_has ls 4 [(0, .ref (md 64)), (1, .long q7_1), (3, .int q7_3)] := hl
    replace hP : va_P D vwCl [(moC md sd mth mst hn cn pn mq gn mln mnn ln mlt msz mcu mtk mfr mti mfa mfb an un lc td mtn), (aI cI (md 34) 300 mtp)] H := hP
    replace hD : va_D A [(moC md sd mth mst hn cn pn mq gn mln mnn ln mlt msz mcu mtk mfr mti mfa mfb an un lc td mtn), (aI cI (md 34) 300 mtp)] := hD
    show W _ _ _ _ _ _ _ _ _ _ _ _ _ _ _ (F0 m 7 ls [])
    refine lv_iload_n hx hb dX11_word_7 rfl (lv_at hl 2 rfl) ?_
    refine lv_aload_n hx hb dX11_word_8 rfl (lv_at hl 0 rfl) ?_
    refine va_get (D := D) (ci := 11) (v := .int mti) (C := RX11) (T := TX11) (N := 64) hx hb hts inX11_word_X11 hown hK hP 0 rfl rfl 41 (by decide) (hts (Cond.fieldLink RX11 268 "PortRoomsModel" "till" "I") (wm_t (wm_l (wm_i 1 rfl)))) (fun _ h9 => h9) rfl dX11_word_9 ?_
    refine lv_icmp_ge (tgt := 42) hx hb dX11_word_12 (by decide) (fun c6 => ?_) (fun c6 => ?_)
    · skip
      have f7 := i_le c6
      refine lv_lload_n hx hb dX11_word_42 rfl (lv_at hl 1 rfl) ?_
      have hP9 := hP
      have hD9 := hD
      exact W.lret (v := q7_1) hx hb hr (fun t ht hW => ⟨⟨q7_1, (), rfl, trivial, by rw [ht]; exact hP9, va_K.moved hW.alike hK, hD9⟩, hS.F ht⟩) hS.2.2 dX11_word_43
    · skip
      have f8 := i_nle c6
      refine lv_aload_n hx hb dX11_word_15 rfl (lv_at hl 0 rfl) ?_
      refine va_get (D := D) (ci := 11) (v := .int mtk) (C := RX11) (T := TX11) (N := 64) hx hb hts inX11_word_X11 hown hK hP 0 rfl rfl 39 (by decide) (hts (Cond.fieldLink RX11 259 "PortRoomsModel" "token" "I") (wm_t (wm_l (wm_i 2 rfl)))) (fun _ h9 => h9) rfl dX11_word_16 ?_
      refine lv_iconst (v := 2) hx hb dX11_word_19 (by decide) ?_
      refine lv_icmp_ne (tgt := 42) hx hb dX11_word_20 (by decide) (fun c9 => ?_) (fun c9 => ?_)
      · skip
        have f10 := i_ne c9
        refine lv_lload_n hx hb dX11_word_42 rfl (lv_at hl 1 rfl) ?_
        have hP9 := hP
        have hD9 := hD
        exact W.lret (v := q7_1) hx hb hr (fun t ht hW => ⟨⟨q7_1, (), rfl, trivial, by rw [ht]; exact hP9, va_K.moved hW.alike hK, hD9⟩, hS.F ht⟩) hS.2.2 dX11_word_43
      · skip
        have f11 := i_eq c9
        refine lv_lload_n hx hb dX11_word_23 rfl (lv_at hl 1 rfl) ?_
        refine lv_bipush (v := 8) hx hb dX11_word_24 (by decide) ?_
        refine lv_lshl hx hb dX11_word_26 rfl ?_
        refine lv_topl (fun z12 ez12 => ?_)
        refine lv_aload_n hx hb dX11_word_27 rfl (lv_at hl 0 rfl) ?_
        refine va_get (D := D) (ci := 11) (v := .ref (md 34)) (C := RX11) (T := TX11) (N := 64) hx hb hts inX11_word_X11 hown hK hP 0 rfl rfl 34 (by decide) (hts (Cond.fieldLink RX11 87 "PortRoomsModel" "tape" "[I") (wm_t (wm_l (wm_i 3 rfl)))) (fun _ h9 => h9) rfl dX11_word_28 ?_
        refine lv_iload_n hx hb dX11_word_31 rfl (lv_at hl 2 rfl) ?_
        refine va_iald hx hb hK hP 1 0 rfl rfl (i_in (by omega) (by omega)) dX11_word_32 ?_
        refine lv_topi (fun v13 ev13 => ?_)
        refine lv_i2l hx hb dX11_word_33 rfl ?_
        have w14 := i_w v13
        have w15 := i_rng v13
        refine lv_lor hx hb dX11_word_34 ?_
        refine lv_topl (fun z16 ez16 => ?_)
        refine lv_lstore_n (lv' := [(1, .long z16), (0, .ref (md 64)), (3, .int q7_3)]) hx hb dX11_word_35 rfl hl (by decide) rfl (fun ls hl => ?_)
        obtain ⟨v17, ev17⟩ : ∃ y : Int32, y = q7_3 + 1 := ⟨_, rfl⟩
        try have tv17 : v17.toInt = q7_3.toInt + 1 := by rw [ev17]; exact (i_add (x := q7_3) (y := (1 : Int32)) (by rw [k1]; omega) (by rw [k1]; omega)).trans (by rw [k1])
        refine lv_iinc (v := v17) (lv' := [(3, .int v17), (1, .long z16), (0, .ref (md 64))]) hx hb dX11_word_36 hl (k := 2) rfl (by rw [ev17]; rfl) (by decide) rfl (fun ls hl => ?_)
        refine lv_goto (tgt := 7) hx hb dX11_word_39 (by decide) ?_
        exact ih3 (z16, v17) ls H locs ⟨(by omega), (by omega), lv_sub hl [2, 1, 0] rfl, hP.sub [0, 1] rfl, hD.sub [0, 1] (by decide +kernel) rfl, hS⟩ (by show mti.toInt - v17.toInt < _; omega)

set_option maxHeartbeats 4000000 in
set_option maxRecDepth 100000 in
theorem ct_X11_numberUpTo (l : Launch) (D : va_G) (cI cY cJ cQ : ClassId) (sz : Nat) (md : Nat → Nat) (sd : Int32) (mth mst hn cn pn mq gn mln mnn ln mlt msz mcu mtk mfr mti mfa mfb an un lc td mtn : Int32) (mtp : Nat → Int32) (a : Int32)  (h1 : 0 ≤ msz.toInt) (h2 : msz.toInt ≤ 300) (h3 : 0 ≤ mcu.toInt) (h4 : mcu.toInt ≤ msz.toInt) (h5 : 0 ≤ mfr.toInt) (h6 : mfr.toInt ≤ mcu.toInt) (h7 : mti.toInt = mcu.toInt)  : Met l yX11_numberUpTo wsX11_numberUpTo ({ frames := 3, cells := 0, slots := 0, locals := 63 }) (cPre D (ty4 cI cY cJ cQ) [(moC md sd mth mst hn cn pn mq gn mln mnn ln mlt msz mcu mtk mfr mti mfa mfb an un lc td mtn), (aI cI (md 34) 300 mtp)] sz [.ref (md 64), .int a]) (va_Qi (fun (r : Int32) (u : Int32 × Int32 × Int32 × Int32 × Int32 × Int32) => 0 ≤ u.2.2.1.toInt ∧ u.2.2.1.toInt ≤ u.1.toInt ∧ u.1.toInt ≤ msz.toInt ∧ u.2.2.2.1.toInt = u.1.toInt ∧ mfr.toInt ≤ u.2.2.1.toInt ∧ ((mfa.toInt = 0 ∧ u.2.2.2.2.1.toInt = 0 ∧ mcu.toInt ≤ u.2.2.1.toInt ∧ (u.2.1.toInt = 1 ∨ u.2.2.1.toInt < u.1.toInt)) ∨ ¬ u.2.2.2.2.1.toInt = 0)) (cB D (ty4 cI cY cJ cQ) (fun (u : Int32 × Int32 × Int32 × Int32 × Int32 × Int32) => [(moC md sd mth mst hn cn pn mq gn mln mnn ln mlt msz u.1 u.2.1 u.2.2.1 u.2.2.2.1 u.2.2.2.2.1 u.2.2.2.2.2 an un lc td mtn), (aI cI (md 34) 300 mtp)]) (va_A [(moC md sd mth mst hn cn pn mq gn mln mnn ln mlt msz mcu mtk mfr mti mfa mfb an un lc td mtn), (aI cI (md 34) 300 mtp)] sz)) (va_A [(moC md sd mth mst hn cn pn mq gn mln mnn ln mlt msz mcu mtk mfr mti mfa mfb an un lc td mtn), (aI cI (md 34) 300 mtp)] sz)) 0 0 (va_A [(moC md sd mth mst hn cn pn mq gn mln mnn ln mlt msz mcu mtk mfr mti mfa mfb an un lc td mtn), (aI cI (md 34) 300 mtp)] sz) := by
  refine Met.ofW (cc := cX11_numberUpTo) (maxL := 4) (ret := (some .int)) (by decide) rfl ?_
  intro p e s m args below meth c s₁ B hml hv
  obtain ⟨rfl, hsz, hP, hK, hD0, hN⟩ := hv
  have hx := B.exec
  have hb := B.bytes
  have hr := B.returns
  have hts := atoms_spec (ws := wsX11_numberUpTo) B.pre
  have hown : s.vm.findClass RX11 = some m.cls := findClass_of_methodNamed B.named
  have hlocks := B.notSynchronized
  subst hsz
  have hD := hD0.self (sz := s.heap.size)
  generalize hAe : va_A [(moC md sd mth mst hn cn pn mq gn mln mnn ln mlt msz mcu mtk mfr mti mfa mfb an un lc td mtn), (aI cI (md 34) 300 mtp)] s.heap.size = A at hD ⊢
  have hA : ∀ q : Nat, s.heap.size ≤ q → A q := fun q h => by rw [← hAe]; exact Or.inr h
  have hS : va_S A s.heap s.heap [] := va_S.rf
  have hP : va_P D vwCl [(moC md sd mth mst hn cn pn mq gn mln mnn ln mlt msz mcu mtk mfr mti mfa mfb an un lc td mtn), (aI cI (md 34) 300 mtp)] s.heap := hP
  have hl := lv_entry ([.ref (md 64), .int a]) (n := 4) (Nat.le_of_ble_eq_true rfl)
  rw [lg_entry_eq]
  generalize (lg_sl ([.ref (md 64), .int a]) ++ List.replicate (4 - (lg_sl ([.ref (md 64), .int a])).length) Slot.unset).toArray = ls at hl ⊢
  have hl : lv_has ls 4 [(0, .ref (md 64)), (1, .int a)] := hl
  have k0 : (0 : Int32).toInt = 0 := by decide
  have k1 : (1 : Int32).toInt = 1 := by decide
  have k2 : (2 : Int32).toInt = 2 := by decide
  have k3 : (3 : Int32).toInt = 3 := by decide
  have k10 : (10 : Int32).toInt = 10 := by decide
  have k48 : (48 : Int32).toInt = 48 := by decide
  refine lv_iconst (v := 0) hx hb dX11_numberUpTo_0 (by decide) ?_
  refine lv_istore_n (lv' := [(2, .int 0), (0, .ref (md 64)), (1, .int a)]) hx hb dX11_numberUpTo_1 rfl hl (by decide) rfl (fun ls hl => ?_)
  refine lv_aload_n hx hb dX11_numberUpTo_2 rfl (lv_at hl 1 rfl) ?_
  refine va_get (D := D) (ci := 11) (v := .int mfr) (C := RX11) (T := TX11) (N := 64) hx hb hts inX11_numberUpTo_X11 hown hK hP 0 rfl rfl 40 (by decide) (hts (Cond.fieldLink RX11 256 "PortRoomsModel" "from" "I") (wm_t (wm_l (wm_i 0 rfl)))) (fun _ h9 => h9) rfl dX11_numberUpTo_3 ?_
  refine lv_istore_n (lv' := [(3, .int mfr), (2, .int 0), (0, .ref (md 64)), (1, .int a)]) hx hb dX11_numberUpTo_6 rfl hl (by decide) rfl (fun ls hl => ?_)
  refine st_loop 7 (fun _ => []) (fun (z : Int32 × Int32) (ls : Array Slot) (H : Heap) (locs : List Loc) => match z with | (q7_2, q7_3) => (mfr.toInt ≤ q7_3.toInt) ∧ (q7_3.toInt ≤ mti.toInt) ∧ lv_has ls 4 [(0, .ref (md 64)), (1, .int a), (2, .int q7_2), (3, .int q7_3)] ∧ va_P D vwCl [(moC md sd mth mst hn cn pn mq gn mln mnn ln mlt msz mcu mtk mfr mti mfa mfb an un lc td mtn), (aI cI (md 34) 300 mtp)] H ∧ va_D A [(moC md sd mth mst hn cn pn mq gn mln mnn ln mlt msz mcu mtk mfr mti mfa mfb an un lc td mtn), (aI cI (md 34) 300 mtp)] ∧ va_S A s.heap H locs) (fun (z : Int32 × Int32) => match z with | (q7_2, q7_3) => mti.toInt - q7_3.toInt) ?_ ?_ ((0 : Int32), mfr) ⟨(by omega), (by omega), lv_sub hl [2, 3, 1, 0] rfl, hP, hD, hS⟩
  · rintro ⟨q7_2, q7_3⟩ ls H locs ⟨g1, g2, hl, hP, hD, hS⟩
    show (0 : Int) ≤ mti.toInt - q7_3.toInt
    omega
  · rintro n5 ih3 ⟨q7_2, q7_3⟩ ls H locs ⟨g1, g2, hl, hP, hD, hS⟩ hm4
    have hm4 : mti.toInt - q7_3.toInt < (n5 : Int) + 1 := hm4
    replace hl : lv_has ls 4 [(0, .ref (md 64)), (1, .int a), (2, .int q7_2), (3, .int q7_3)] := hl
    replace hP : va_P D vwCl [(moC md sd mth mst hn cn pn mq gn mln mnn ln mlt msz mcu mtk mfr mti mfa mfb an un lc td mtn), (aI cI (md 34) 300 mtp)] H := hP
    replace hD : va_D A [(moC md sd mth mst hn cn pn mq gn mln mnn ln mlt msz mcu mtk mfr mti mfa mfb an un lc td mtn), (aI cI (md 34) 300 mtp)] := hD
    show W _ _ _ _ _ _ _ _ _ _ _ _ _ _ _ (F0 m 7 ls [])
    refine lv_iload_n hx hb dX11_numberUpTo_7 rfl (lv_at hl 3 rfl) ?_
    refine lv_aload_n hx hb dX11_numberUpTo_8 rfl (lv_at hl 0 rfl) ?_
    refine va_get (D := D) (ci := 11) (v := .int mti) (C := RX11) (T := TX11) (N := 64) hx hb hts inX11_numberUpTo_X11 hown hK hP 0 rfl rfl 41 (by decide) (hts (Cond.fieldLink RX11 268 "PortRoomsModel" "till" "I") (wm_t (wm_l (wm_i 1 rfl)))) (fun _ h9 => h9) rfl dX11_numberUpTo_9 ?_
    refine lv_icmp_ge (tgt := 44) hx hb dX11_numberUpTo_12 (by decide) (fun c6 => ?_) (fun c6 => ?_)
    · skip
      have f7 := i_le c6
      refine st_join 62 (fun (z : Int32 × Int32) => match z with | (jfa, jfb) => []) (fun (z : Int32 × Int32) (ls : Array Slot) (H : Heap) (locs : List Loc) => match z with | (jfa, jfb) => (¬ jfa.toInt = 0 ∨ jfa.toInt = mfa.toInt) ∧ lv_has ls 4 [(0, .ref (md 64)), (1, .int a), (2, .int q7_2), (3, .int q7_3)] ∧ va_P D vwCl [(moC md sd mth mst hn cn pn mq gn mln mnn ln mlt msz mcu mtk mfr mti jfa jfb an un lc td mtn), (aI cI (md 34) 300 mtp)] H ∧ va_D A [(moC md sd mth mst hn cn pn mq gn mln mnn ln mlt msz mcu mtk mfr mti jfa jfb an un lc td mtn), (aI cI (md 34) 300 mtp)] ∧ va_S A s.heap H locs) ?_ ?_
      · rintro ⟨jfa, jfb⟩ ls H locs ⟨g8, hl, hP, hD, hS⟩
        replace hl : lv_has ls 4 [(0, .ref (md 64)), (1, .int a), (2, .int q7_2), (3, .int q7_3)] := hl
        replace hP : va_P D vwCl [(moC md sd mth mst hn cn pn mq gn mln mnn ln mlt msz mcu mtk mfr mti jfa jfb an un lc td mtn), (aI cI (md 34) 300 mtp)] H := hP
        replace hD : va_D A [(moC md sd mth mst hn cn pn mq gn mln mnn ln mlt msz mcu mtk mfr mti jfa jfb an un lc td mtn), (aI cI (md 34) 300 mtp)] := hD
        show W _ _ _ _ _ _ _ _ _ _ _ _ _ _ _ (F0 m 62 ls [])
        refine lv_aload_n hx hb dX11_numberUpTo_62 rfl (lv_at hl 0 rfl) ?_
        refine st_join 76 (fun (sk10 : Int32) => [.int sk10, .ref (md 64)]) (fun (sk10 : Int32) (ls : Array Slot) (H : Heap) (locs : List Loc) => lv_has ls 4 [(0, .ref (md 64)), (1, .int a), (2, .int q7_2), (3, .int q7_3)] ∧ va_P D vwCl [(moC md sd mth mst hn cn pn mq gn mln mnn ln mlt msz mcu mtk mfr mti jfa jfb an un lc td mtn), (aI cI (md 34) 300 mtp)] H ∧ va_D A [(moC md sd mth mst hn cn pn mq gn mln mnn ln mlt msz mcu mtk mfr mti jfa jfb an un lc td mtn), (aI cI (md 34) 300 mtp)] ∧ va_S A s.heap H locs) ?_ ?_
        · rintro sk10 ls H locs ⟨hl, hP, hD, hS⟩
          replace hl : lv_has ls 4 [(0, .ref (md 64)), (1, .int a), (2, .int q7_2), (3, .int q7_3)] := hl
          replace hP : va_P D vwCl [(moC md sd mth mst hn cn pn mq gn mln mnn ln mlt msz mcu mtk mfr mti jfa jfb an un lc td mtn), (aI cI (md 34) 300 mtp)] H := hP
          replace hD : va_D A [(moC md sd mth mst hn cn pn mq gn mln mnn ln mlt msz mcu mtk mfr mti jfa jfb an un lc td mtn), (aI cI (md 34) 300 mtp)] := hD
          show W _ _ _ _ _ _ _ _ _ _ _ _ _ _ _ (F0 m 76 ls [.int sk10, .ref (md 64)])
          refine st_v (wr := []) (va_runV (C := RX11) (As := [.int sk10]) (rest := []) ⟨hx, hb, hml, hown, hts⟩ (ct_X11_need l D cI cY cJ cQ _ md sd mth mst hn cn pn mq gn mln mnn ln mlt msz mcu mtk mfr mti jfa jfb an un lc td mtn mtp sk10 h1 h2 h3 h4 h5 h6 h7) (cwV 1 hts gX11_numberUpTo_X11_need rfl rfl rfl ⟨rfl, cdX11_need⟩ ⟨Nat.le_of_ble_eq_true rfl, Nat.le_of_ble_eq_true rfl⟩) (cPreV (hP.sub [0, 1] rfl) hK (hD.sub [0, 1] (by decide +kernel) rfl) hN (ci := 11) (q0 := 0) rfl rfl) rfl rfl hl.1 rfl (lv_room (Nat.le_of_ble_eq_true rfl)) dX11_numberUpTo_76 ⟨Nat.le_of_ble_eq_true rfl, Nat.le_of_ble_eq_true rfl⟩) hP hD hS hA [0, 1] [] rfl rfl (by decide +kernel) (by decide +kernel) (fun u12 H locs hw13 => ?_)
          clear hP hD hS
          intro hP hD hS
          obtain ⟨mcu_15, mtk_16, mfr_17, mti_18, mfa_19, mfb_20⟩ := u12
          replace hw13 : 0 ≤ mfr_17.toInt ∧ mfr_17.toInt ≤ mcu_15.toInt ∧ mcu_15.toInt ≤ msz.toInt ∧ mti_18.toInt = mcu_15.toInt ∧ ((jfa.toInt = 0 ∧ ¬ sk10.toInt = 0 ∧ mfa_19.toInt = 0 ∧ mcu.toInt ≤ mfr_17.toInt ∧ (mtk_16.toInt = 1 ∨ mfr_17.toInt < mcu_15.toInt)) ∨ (¬ mfa_19.toInt = 0 ∧ mfr_17.toInt = mfr.toInt ∧ mtk_16.toInt = mtk.toInt ∧ mcu_15.toInt = mcu.toInt)) := hw13
          replace hP : va_P D vwCl [(moC md sd mth mst hn cn pn mq gn mln mnn ln mlt msz mcu_15 mtk_16 mfr_17 mti_18 mfa_19 mfb_20 an un lc td mtn), (aI cI (md 34) 300 mtp)] H := hP
          replace hD : va_D A [(moC md sd mth mst hn cn pn mq gn mln mnn ln mlt msz mcu_15 mtk_16 mfr_17 mti_18 mfa_19 mfb_20 an un lc td mtn), (aI cI (md 34) 300 mtp)] := hD
          refine lv_iload_n hx hb dX11_numberUpTo_79 rfl (lv_at hl 2 rfl) ?_
          have hP9 := hP
          have hD9 := hD
          exact W.iret (v := q7_2) hx hb hr (fun t ht hW => ⟨⟨q7_2, (mcu_15, mtk_16, mfr_17, mti_18, mfa_19, mfb_20), rfl, (by show 0 ≤ mfr_17.toInt ∧ mfr_17.toInt ≤ mcu_15.toInt ∧ mcu_15.toInt ≤ msz.toInt ∧ mti_18.toInt = mcu_15.toInt ∧ mfr.toInt ≤ mfr_17.toInt ∧ ((mfa.toInt = 0 ∧ mfa_19.toInt = 0 ∧ mcu.toInt ≤ mfr_17.toInt ∧ (mtk_16.toInt = 1 ∨ mfr_17.toInt < mcu_15.toInt)) ∨ ¬ mfa_19.toInt = 0); omega), by rw [ht]; exact hP9, va_K.moved hW.alike hK, hD9⟩, hS.F ht⟩) hS.2.2 dX11_numberUpTo_80
        · intro hj11
          refine lv_aload_n hx hb dX11_numberUpTo_63 rfl (lv_at hl 0 rfl) ?_
          refine va_get (D := D) (ci := 11) (v := .int mtk) (C := RX11) (T := TX11) (N := 64) hx hb hts inX11_numberUpTo_X11 hown hK hP 0 rfl rfl 39 (by decide) (hts (Cond.fieldLink RX11 259 "PortRoomsModel" "token" "I") (wm_t (wm_l (wm_i 2 rfl)))) (fun _ h9 => h9) rfl dX11_numberUpTo_64 ?_
          refine lv_iconst (v := 3) hx hb dX11_numberUpTo_67 (by decide) ?_
          refine lv_icmp_ne (tgt := 75) hx hb dX11_numberUpTo_68 (by decide) (fun c21 => ?_) (fun c21 => ?_)
          · skip
            have f22 := i_ne c21
            refine lv_iconst (v := 0) hx hb dX11_numberUpTo_75 (by decide) ?_
            exact hj11 (0 : Int32) ls _ _ ⟨lv_sub hl [0, 1, 2, 3] rfl, hP.sub [0, 1] rfl, hD.sub [0, 1] (by decide +kernel) rfl, hS⟩
          · skip
            have f23 := i_eq c21
            refine lv_iconst (v := 1) hx hb dX11_numberUpTo_71 (by decide) ?_
            refine lv_goto (tgt := 76) hx hb dX11_numberUpTo_72 (by decide) ?_
            exact hj11 (1 : Int32) ls _ _ ⟨lv_sub hl [0, 1, 2, 3] rfl, hP.sub [0, 1] rfl, hD.sub [0, 1] (by decide +kernel) rfl, hS⟩
      · intro hj9
        refine lv_aload_n hx hb dX11_numberUpTo_44 rfl (lv_at hl 0 rfl) ?_
        refine va_get (D := D) (ci := 11) (v := .int mtk) (C := RX11) (T := TX11) (N := 64) hx hb hts inX11_numberUpTo_X11 hown hK hP 0 rfl rfl 39 (by decide) (hts (Cond.fieldLink RX11 259 "PortRoomsModel" "token" "I") (wm_t (wm_l (wm_i 2 rfl)))) (fun _ h9 => h9) rfl dX11_numberUpTo_45 ?_
        refine lv_iconst (v := 3) hx hb dX11_numberUpTo_48 (by decide) ?_
        refine lv_icmp_ne (tgt := 62) hx hb dX11_numberUpTo_49 (by decide) (fun c24 => ?_) (fun c24 => ?_)
        · skip
          have f25 := i_ne c24
          exact hj9 (mfa, mfb) ls _ _ ⟨(by omega), lv_sub hl [0, 1, 2, 3] rfl, hP.sub [0, 1] rfl, hD.sub [0, 1] (by decide +kernel) rfl, hS⟩
        · skip
          have f26 := i_eq c24
          refine lv_iload_n hx hb dX11_numberUpTo_52 rfl (lv_at hl 2 rfl) ?_
          refine lv_iload_n hx hb dX11_numberUpTo_53 rfl (lv_at hl 1 rfl) ?_
          refine lv_icmp_le (tgt := 62) hx hb dX11_numberUpTo_54 (by decide) (fun c27 => ?_) (fun c27 => ?_)
          · skip
            have f28 := i_le c27
            exact hj9 (mfa, mfb) ls _ _ ⟨(by omega), lv_sub hl [0, 1, 2, 3] rfl, hP.sub [0, 1] rfl, hD.sub [0, 1] (by decide +kernel) rfl, hS⟩
          · skip
            have f29 := i_nle c27
            refine lv_aload_n hx hb dX11_numberUpTo_57 rfl (lv_at hl 0 rfl) ?_
            refine lv_iconst (v := 2) hx hb dX11_numberUpTo_58 (by decide) ?_
            refine st_v (wr := [(aI cI (md 34) 300 mtp)]) (va_runV (C := RX11) (As := [.int 2]) (rest := []) ⟨hx, hb, hml, hown, hts⟩ (ct_X11_bad l D cI cY cJ cQ _ md sd mth mst hn cn pn mq gn mln mnn ln mlt msz mcu mtk mfr mti mfa mfb an un lc td mtn (2 : Int32)) (cwV 1 hts gX11_numberUpTo_X11_bad rfl rfl rfl ⟨rfl, cdX11_bad⟩ ⟨Nat.le_of_ble_eq_true rfl, Nat.le_of_ble_eq_true rfl⟩) (cPreV (hP.sub [0] rfl) hK (hD.sub [0] (by decide +kernel) rfl) hN (ci := 11) (q0 := 0) rfl rfl) rfl rfl hl.1 rfl (lv_room (Nat.le_of_ble_eq_true rfl)) dX11_numberUpTo_59 ⟨Nat.le_of_ble_eq_true rfl, Nat.le_of_ble_eq_true rfl⟩) hP hD hS hA [0] [1] rfl rfl (by decide +kernel) (by decide +kernel) (fun u30 H locs hw31 => ?_)
            clear hP hD hS
            intro hP hD hS
            obtain ⟨mfa_33, mfb_34⟩ := u30
            replace hw31 : (mfa.toInt = 0 ∧ mfa_33.toInt = (2 : Int32).toInt) ∨ (¬ mfa.toInt = 0 ∧ mfa_33.toInt = mfa.toInt) := hw31
            replace hP : va_P D vwCl [(aI cI (md 34) 300 mtp), (moC md sd mth mst hn cn pn mq gn mln mnn ln mlt msz mcu mtk mfr mti mfa_33 mfb_34 an un lc td mtn)] H := hP
            replace hD : va_D A [(aI cI (md 34) 300 mtp), (moC md sd mth mst hn cn pn mq gn mln mnn ln mlt msz mcu mtk mfr mti mfa_33 mfb_34 an un lc td mtn)] := hD
            exact hj9 (mfa_33, mfb_34) ls _ _ ⟨(by omega), lv_sub hl [0, 1, 2, 3] rfl, hP.sub [1, 0] rfl, hD.sub [1, 0] (by decide +kernel) rfl, hS⟩
    · skip
      have f35 := i_nle c6
      refine lv_aload_n hx hb dX11_numberUpTo_15 rfl (lv_at hl 0 rfl) ?_
      refine va_get (D := D) (ci := 11) (v := .int mtk) (C := RX11) (T := TX11) (N := 64) hx hb hts inX11_numberUpTo_X11 hown hK hP 0 rfl rfl 39 (by decide) (hts (Cond.fieldLink RX11 259 "PortRoomsModel" "token" "I") (wm_t (wm_l (wm_i 2 rfl)))) (fun _ h9 => h9) rfl dX11_numberUpTo_16 ?_
      refine lv_iconst (v := 3) hx hb dX11_numberUpTo_19 (by decide) ?_
      refine lv_icmp_ne (tgt := 44) hx hb dX11_numberUpTo_20 (by decide) (fun c36 => ?_) (fun c36 => ?_)
      · skip
        have f37 := i_ne c36
        refine st_join 62 (fun (z : Int32 × Int32) => match z with | (jfa, jfb) => []) (fun (z : Int32 × Int32) (ls : Array Slot) (H : Heap) (locs : List Loc) => match z with | (jfa, jfb) => (¬ jfa.toInt = 0 ∨ jfa.toInt = mfa.toInt) ∧ lv_has ls 4 [(0, .ref (md 64)), (1, .int a), (2, .int q7_2), (3, .int q7_3)] ∧ va_P D vwCl [(moC md sd mth mst hn cn pn mq gn mln mnn ln mlt msz mcu mtk mfr mti jfa jfb an un lc td mtn), (aI cI (md 34) 300 mtp)] H ∧ va_D A [(moC md sd mth mst hn cn pn mq gn mln mnn ln mlt msz mcu mtk mfr mti jfa jfb an un lc td mtn), (aI cI (md 34) 300 mtp)] ∧ va_S A s.heap H locs) ?_ ?_
        · rintro ⟨jfa, jfb⟩ ls H locs ⟨g38, hl, hP, hD, hS⟩
          replace hl : lv_has ls 4 [(0, .ref (md 64)), (1, .int a), (2, .int q7_2), (3, .int q7_3)] := hl
          replace hP : va_P D vwCl [(moC md sd mth mst hn cn pn mq gn mln mnn ln mlt msz mcu mtk mfr mti jfa jfb an un lc td mtn), (aI cI (md 34) 300 mtp)] H := hP
          replace hD : va_D A [(moC md sd mth mst hn cn pn mq gn mln mnn ln mlt msz mcu mtk mfr mti jfa jfb an un lc td mtn), (aI cI (md 34) 300 mtp)] := hD
          show W _ _ _ _ _ _ _ _ _ _ _ _ _ _ _ (F0 m 62 ls [])
          refine lv_aload_n hx hb dX11_numberUpTo_62 rfl (lv_at hl 0 rfl) ?_
          refine st_join 76 (fun (sk40 : Int32) => [.int sk40, .ref (md 64)]) (fun (sk40 : Int32) (ls : Array Slot) (H : Heap) (locs : List Loc) => lv_has ls 4 [(0, .ref (md 64)), (1, .int a), (2, .int q7_2), (3, .int q7_3)] ∧ va_P D vwCl [(moC md sd mth mst hn cn pn mq gn mln mnn ln mlt msz mcu mtk mfr mti jfa jfb an un lc td mtn), (aI cI (md 34) 300 mtp)] H ∧ va_D A [(moC md sd mth mst hn cn pn mq gn mln mnn ln mlt msz mcu mtk mfr mti jfa jfb an un lc td mtn), (aI cI (md 34) 300 mtp)] ∧ va_S A s.heap H locs) ?_ ?_
          · rintro sk40 ls H locs ⟨hl, hP, hD, hS⟩
            replace hl : lv_has ls 4 [(0, .ref (md 64)), (1, .int a), (2, .int q7_2), (3, .int q7_3)] := hl
            replace hP : va_P D vwCl [(moC md sd mth mst hn cn pn mq gn mln mnn ln mlt msz mcu mtk mfr mti jfa jfb an un lc td mtn), (aI cI (md 34) 300 mtp)] H := hP
            replace hD : va_D A [(moC md sd mth mst hn cn pn mq gn mln mnn ln mlt msz mcu mtk mfr mti jfa jfb an un lc td mtn), (aI cI (md 34) 300 mtp)] := hD
            show W _ _ _ _ _ _ _ _ _ _ _ _ _ _ _ (F0 m 76 ls [.int sk40, .ref (md 64)])
            refine st_v (wr := []) (va_runV (C := RX11) (As := [.int sk40]) (rest := []) ⟨hx, hb, hml, hown, hts⟩ (ct_X11_need l D cI cY cJ cQ _ md sd mth mst hn cn pn mq gn mln mnn ln mlt msz mcu mtk mfr mti jfa jfb an un lc td mtn mtp sk40 h1 h2 h3 h4 h5 h6 h7) (cwV 1 hts gX11_numberUpTo_X11_need rfl rfl rfl ⟨rfl, cdX11_need⟩ ⟨Nat.le_of_ble_eq_true rfl, Nat.le_of_ble_eq_true rfl⟩) (cPreV (hP.sub [0, 1] rfl) hK (hD.sub [0, 1] (by decide +kernel) rfl) hN (ci := 11) (q0 := 0) rfl rfl) rfl rfl hl.1 rfl (lv_room (Nat.le_of_ble_eq_true rfl)) dX11_numberUpTo_76 ⟨Nat.le_of_ble_eq_true rfl, Nat.le_of_ble_eq_true rfl⟩) hP hD hS hA [0, 1] [] rfl rfl (by decide +kernel) (by decide +kernel) (fun u42 H locs hw43 => ?_)
            clear hP hD hS
            intro hP hD hS
            obtain ⟨mcu_45, mtk_46, mfr_47, mti_48, mfa_49, mfb_50⟩ := u42
            replace hw43 : 0 ≤ mfr_47.toInt ∧ mfr_47.toInt ≤ mcu_45.toInt ∧ mcu_45.toInt ≤ msz.toInt ∧ mti_48.toInt = mcu_45.toInt ∧ ((jfa.toInt = 0 ∧ ¬ sk40.toInt = 0 ∧ mfa_49.toInt = 0 ∧ mcu.toInt ≤ mfr_47.toInt ∧ (mtk_46.toInt = 1 ∨ mfr_47.toInt < mcu_45.toInt)) ∨ (¬ mfa_49.toInt = 0 ∧ mfr_47.toInt = mfr.toInt ∧ mtk_46.toInt = mtk.toInt ∧ mcu_45.toInt = mcu.toInt)) := hw43
            replace hP : va_P D vwCl [(moC md sd mth mst hn cn pn mq gn mln mnn ln mlt msz mcu_45 mtk_46 mfr_47 mti_48 mfa_49 mfb_50 an un lc td mtn), (aI cI (md 34) 300 mtp)] H := hP
            replace hD : va_D A [(moC md sd mth mst hn cn pn mq gn mln mnn ln mlt msz mcu_45 mtk_46 mfr_47 mti_48 mfa_49 mfb_50 an un lc td mtn), (aI cI (md 34) 300 mtp)] := hD
            refine lv_iload_n hx hb dX11_numberUpTo_79 rfl (lv_at hl 2 rfl) ?_
            have hP9 := hP
            have hD9 := hD
            exact W.iret (v := q7_2) hx hb hr (fun t ht hW => ⟨⟨q7_2, (mcu_45, mtk_46, mfr_47, mti_48, mfa_49, mfb_50), rfl, (by show 0 ≤ mfr_47.toInt ∧ mfr_47.toInt ≤ mcu_45.toInt ∧ mcu_45.toInt ≤ msz.toInt ∧ mti_48.toInt = mcu_45.toInt ∧ mfr.toInt ≤ mfr_47.toInt ∧ ((mfa.toInt = 0 ∧ mfa_49.toInt = 0 ∧ mcu.toInt ≤ mfr_47.toInt ∧ (mtk_46.toInt = 1 ∨ mfr_47.toInt < mcu_45.toInt)) ∨ ¬ mfa_49.toInt = 0); omega), by rw [ht]; exact hP9, va_K.moved hW.alike hK, hD9⟩, hS.F ht⟩) hS.2.2 dX11_numberUpTo_80
          · intro hj41
            refine lv_aload_n hx hb dX11_numberUpTo_63 rfl (lv_at hl 0 rfl) ?_
            refine va_get (D := D) (ci := 11) (v := .int mtk) (C := RX11) (T := TX11) (N := 64) hx hb hts inX11_numberUpTo_X11 hown hK hP 0 rfl rfl 39 (by decide) (hts (Cond.fieldLink RX11 259 "PortRoomsModel" "token" "I") (wm_t (wm_l (wm_i 2 rfl)))) (fun _ h9 => h9) rfl dX11_numberUpTo_64 ?_
            refine lv_iconst (v := 3) hx hb dX11_numberUpTo_67 (by decide) ?_
            refine lv_icmp_ne (tgt := 75) hx hb dX11_numberUpTo_68 (by decide) (fun c51 => ?_) (fun c51 => ?_)
            · skip
              have f52 := i_ne c51
              refine lv_iconst (v := 0) hx hb dX11_numberUpTo_75 (by decide) ?_
              exact hj41 (0 : Int32) ls _ _ ⟨lv_sub hl [0, 1, 2, 3] rfl, hP.sub [0, 1] rfl, hD.sub [0, 1] (by decide +kernel) rfl, hS⟩
            · skip
              have f53 := i_eq c51
              refine lv_iconst (v := 1) hx hb dX11_numberUpTo_71 (by decide) ?_
              refine lv_goto (tgt := 76) hx hb dX11_numberUpTo_72 (by decide) ?_
              exact hj41 (1 : Int32) ls _ _ ⟨lv_sub hl [0, 1, 2, 3] rfl, hP.sub [0, 1] rfl, hD.sub [0, 1] (by decide +kernel) rfl, hS⟩
        · intro hj39
          refine lv_aload_n hx hb dX11_numberUpTo_44 rfl (lv_at hl 0 rfl) ?_
          refine va_get (D := D) (ci := 11) (v := .int mtk) (C := RX11) (T := TX11) (N := 64) hx hb hts inX11_numberUpTo_X11 hown hK hP 0 rfl rfl 39 (by decide) (hts (Cond.fieldLink RX11 259 "PortRoomsModel" "token" "I") (wm_t (wm_l (wm_i 2 rfl)))) (fun _ h9 => h9) rfl dX11_numberUpTo_45 ?_
          refine lv_iconst (v := 3) hx hb dX11_numberUpTo_48 (by decide) ?_
          refine lv_icmp_ne (tgt := 62) hx hb dX11_numberUpTo_49 (by decide) (fun c54 => ?_) (fun c54 => ?_)
          · skip
            have f55 := i_ne c54
            exact hj39 (mfa, mfb) ls _ _ ⟨(by omega), lv_sub hl [0, 1, 2, 3] rfl, hP.sub [0, 1] rfl, hD.sub [0, 1] (by decide +kernel) rfl, hS⟩
          · skip
            have f56 := i_eq c54
            refine lv_iload_n hx hb dX11_numberUpTo_52 rfl (lv_at hl 2 rfl) ?_
            refine lv_iload_n hx hb dX11_numberUpTo_53 rfl (lv_at hl 1 rfl) ?_
            refine lv_icmp_le (tgt := 62) hx hb dX11_numberUpTo_54 (by decide) (fun c57 => ?_) (fun c57 => ?_)
            · skip
              have f58 := i_le c57
              exact hj39 (mfa, mfb) ls _ _ ⟨(by omega), lv_sub hl [0, 1, 2, 3] rfl, hP.sub [0, 1] rfl, hD.sub [0, 1] (by decide +kernel) rfl, hS⟩
            · skip
              have f59 := i_nle c57
              refine lv_aload_n hx hb dX11_numberUpTo_57 rfl (lv_at hl 0 rfl) ?_
              refine lv_iconst (v := 2) hx hb dX11_numberUpTo_58 (by decide) ?_
              refine st_v (wr := [(aI cI (md 34) 300 mtp)]) (va_runV (C := RX11) (As := [.int 2]) (rest := []) ⟨hx, hb, hml, hown, hts⟩ (ct_X11_bad l D cI cY cJ cQ _ md sd mth mst hn cn pn mq gn mln mnn ln mlt msz mcu mtk mfr mti mfa mfb an un lc td mtn (2 : Int32)) (cwV 1 hts gX11_numberUpTo_X11_bad rfl rfl rfl ⟨rfl, cdX11_bad⟩ ⟨Nat.le_of_ble_eq_true rfl, Nat.le_of_ble_eq_true rfl⟩) (cPreV (hP.sub [0] rfl) hK (hD.sub [0] (by decide +kernel) rfl) hN (ci := 11) (q0 := 0) rfl rfl) rfl rfl hl.1 rfl (lv_room (Nat.le_of_ble_eq_true rfl)) dX11_numberUpTo_59 ⟨Nat.le_of_ble_eq_true rfl, Nat.le_of_ble_eq_true rfl⟩) hP hD hS hA [0] [1] rfl rfl (by decide +kernel) (by decide +kernel) (fun u60 H locs hw61 => ?_)
              clear hP hD hS
              intro hP hD hS
              obtain ⟨mfa_63, mfb_64⟩ := u60
              replace hw61 : (mfa.toInt = 0 ∧ mfa_63.toInt = (2 : Int32).toInt) ∨ (¬ mfa.toInt = 0 ∧ mfa_63.toInt = mfa.toInt) := hw61
              replace hP : va_P D vwCl [(aI cI (md 34) 300 mtp), (moC md sd mth mst hn cn pn mq gn mln mnn ln mlt msz mcu mtk mfr mti mfa_63 mfb_64 an un lc td mtn)] H := hP
              replace hD : va_D A [(aI cI (md 34) 300 mtp), (moC md sd mth mst hn cn pn mq gn mln mnn ln mlt msz mcu mtk mfr mti mfa_63 mfb_64 an un lc td mtn)] := hD
              exact hj39 (mfa_63, mfb_64) ls _ _ ⟨(by omega), lv_sub hl [0, 1, 2, 3] rfl, hP.sub [1, 0] rfl, hD.sub [1, 0] (by decide +kernel) rfl, hS⟩
      · skip
        have f65 := i_eq c36
        refine lv_bipush (v := 10) hx hb dX11_numberUpTo_23 (by decide) ?_
        refine lv_iload_n hx hb dX11_numberUpTo_25 rfl (lv_at hl 2 rfl) ?_
        refine lv_imul hx hb dX11_numberUpTo_26 ?_
        refine lv_topi (fun v66 ev66 => ?_)
        refine lv_aload_n hx hb dX11_numberUpTo_27 rfl (lv_at hl 0 rfl) ?_
        refine va_get (D := D) (ci := 11) (v := .ref (md 34)) (C := RX11) (T := TX11) (N := 64) hx hb hts inX11_numberUpTo_X11 hown hK hP 0 rfl rfl 34 (by decide) (hts (Cond.fieldLink RX11 87 "PortRoomsModel" "tape" "[I") (wm_t (wm_l (wm_i 3 rfl)))) (fun _ h9 => h9) rfl dX11_numberUpTo_28 ?_
        refine lv_iload_n hx hb dX11_numberUpTo_31 rfl (lv_at hl 3 rfl) ?_
        refine va_iald hx hb hK hP 1 0 rfl rfl (i_in (by omega) (by omega)) dX11_numberUpTo_32 ?_
        refine lv_topi (fun v67 ev67 => ?_)
        refine lv_iadd hx hb dX11_numberUpTo_33 ?_
        refine lv_topi (fun v68 ev68 => ?_)
        refine lv_bipush (v := 48) hx hb dX11_numberUpTo_34 (by decide) ?_
        refine lv_isub hx hb dX11_numberUpTo_36 ?_
        refine lv_topi (fun v69 ev69 => ?_)
        refine lv_istore_n (lv' := [(2, .int v69), (0, .ref (md 64)), (1, .int a), (3, .int q7_3)]) hx hb dX11_numberUpTo_37 rfl hl (by decide) rfl (fun ls hl => ?_)
        obtain ⟨v70, ev70⟩ : ∃ y : Int32, y = q7_3 + 1 := ⟨_, rfl⟩
        try have tv70 : v70.toInt = q7_3.toInt + 1 := by rw [ev70]; exact (i_add (x := q7_3) (y := (1 : Int32)) (by rw [k1]; omega) (by rw [k1]; omega)).trans (by rw [k1])
        refine lv_iinc (v := v70) (lv' := [(3, .int v70), (2, .int v69), (0, .ref (md 64)), (1, .int a)]) hx hb dX11_numberUpTo_38 hl (k := 3) rfl (by rw [ev70]; rfl) (by decide) rfl (fun ls hl => ?_)
        refine lv_goto (tgt := 7) hx hb dX11_numberUpTo_41 (by decide) ?_
        exact ih3 (v69, v70) ls H locs ⟨(by omega), (by omega), lv_sub hl [2, 3, 1, 0] rfl, hP.sub [0, 1] rfl, hD.sub [0, 1] (by decide +kernel) rfl, hS⟩ (by show mti.toInt - v70.toInt < _; omega)
end

section
theorem cdX11_is : yX11_is.cls ≠ "java/lang/invoke/MethodHandle" ∧ yX11_is.cls ≠ "java/lang/invoke/VarHandle" ∧ (parseMethodDescriptor yX11_is.desc).map (fun d => d.parameters.length) = some 1 := by decide +kernel
theorem cdX11_word : yX11_word.cls ≠ "java/lang/invoke/MethodHandle" ∧ yX11_word.cls ≠ "java/lang/invoke/VarHandle" ∧ (parseMethodDescriptor yX11_word.desc).map (fun d => d.parameters.length) = some 0 := by decide +kernel
theorem cdX11_numberUpTo : yX11_numberUpTo.cls ≠ "java/lang/invoke/MethodHandle" ∧ yX11_numberUpTo.cls ≠ "java/lang/invoke/VarHandle" ∧ (parseMethodDescriptor yX11_numberUpTo.desc).map (fun d => d.parameters.length) = some 1 := by decide +kernel
theorem Gd_X11_is : gdA wsX11_is := gd_cons (by decide +kernel) (gd_app (gd_all (ws := wsX11_is_o1) (by decide +kernel)) Gd_X110)
theorem Gd_X11_word : gdA wsX11_word := gd_cons (by decide +kernel) (gd_app (gd_all (ws := wsX11_word_o1) (by decide +kernel)) Gd_X110)
theorem Gd_X11_numberUpTo : gdA wsX11_numberUpTo := gd_cons (by decide +kernel) (gd_app (gd_all (ws := wsX11_numberUpTo_o1) (by decide +kernel)) (gd_app (gd_app Gd_X110 Gd_X11_bad) Gd_X11_need))
theorem inX11_duties_X11 : ∀ w ∈ u_ws RX11 TX11 64, w ∈ wsX11_duties := fun _ h => (List.mem_cons_of_mem _ (List.mem_append_right _ (List.mem_append_left _ (List.mem_append_left _ (List.mem_append_left _ h)))))
theorem ggX11_duties_X11_step : GoodIn wsX11_duties wsX11_step := goodIn_s (fun _ h => wm_t (wm_r (wm_l (wm_l (wm_r h))))) Gd_X11_step
theorem gX11_duties_X11_step : GoodIn wsX11_duties (wsV RX11 280 RX11 yX11_step wsX11_step) := goodIn_V (own := RX11) (idx := 280) (C := RX11) (y := yX11_step) (wm_t (wm_l (wm_l (wm_i 19 rfl)))) (wm_t (wm_l (wm_l (wm_i 20 rfl)))) (wm_t (wm_r (wm_r (wm_l (wm_l (wm_t (wm_l (wm_i 7 rfl)))))))) (wm_t (wm_l (wm_l (wm_i 21 rfl)))) ggX11_duties_X11_step
theorem ggX11_duties_X11_word : GoodIn wsX11_duties wsX11_word := goodIn_s (fun _ h => wm_t (wm_r (wm_l (wm_r (wm_l h))))) Gd_X11_word
theorem gX11_duties_X11_word : GoodIn wsX11_duties (wsV RX11 290 RX11 yX11_word wsX11_word) := goodIn_V (own := RX11) (idx := 290) (C := RX11) (y := yX11_word) (wm_t (wm_l (wm_l (wm_i 22 rfl)))) (wm_t (wm_l (wm_l (wm_i 23 rfl)))) (wm_t (wm_l (wm_r (wm_i 0 rfl)))) (wm_t (wm_l (wm_l (wm_i 21 rfl)))) ggX11_duties_X11_word
theorem ggX11_duties_X11_bad : GoodIn wsX11_duties wsX11_bad := goodIn_s (fun _ h => wm_t (wm_r (wm_l (wm_r (wm_r h))))) Gd_X11_bad
theorem gX11_duties_X11_bad : GoodIn wsX11_duties (wsV RX11 277 RX11 yX11_bad wsX11_bad) := goodIn_V (own := RX11) (idx := 277) (C := RX11) (y := yX11_bad) (wm_t (wm_l (wm_r (wm_i 1 rfl)))) (wm_t (wm_l (wm_r (wm_i 2 rfl)))) (wm_t (wm_r (wm_r (wm_l (wm_l (wm_t (wm_l (wm_i 3 rfl)))))))) (wm_t (wm_l (wm_l (wm_i 21 rfl)))) ggX11_duties_X11_bad
theorem ggX11_duties_X11_need : GoodIn wsX11_duties wsX11_need := goodIn_s (fun _ h => wm_t (wm_r (wm_r (wm_l (wm_l h))))) Gd_X11_need
theorem gX11_duties_X11_need : GoodIn wsX11_duties (wsV RX11 283 RX11 yX11_need wsX11_need) := goodIn_V (own := RX11) (idx := 283) (C := RX11) (y := yX11_need) (wm_t (wm_l (wm_r (wm_i 3 rfl)))) (wm_t (wm_l (wm_r (wm_i 4 rfl)))) (wm_t (wm_r (wm_r (wm_r (wm_t (wm_l (wm_i 9 rfl))))))) (wm_t (wm_l (wm_l (wm_i 21 rfl)))) ggX11_duties_X11_need
theorem ggX11_duties_X11_is : GoodIn wsX11_duties wsX11_is := goodIn_s (fun _ h => wm_t (wm_r (wm_r (wm_l (wm_r h))))) Gd_X11_is
theorem gX11_duties_X11_is : GoodIn wsX11_duties (wsV RX11 302 RX11 yX11_is wsX11_is) := goodIn_V (own := RX11) (idx := 302) (C := RX11) (y := yX11_is) (wm_t (wm_l (wm_r (wm_i 5 rfl)))) (wm_t (wm_l (wm_r (wm_i 6 rfl)))) (wm_t (wm_l (wm_r (wm_i 7 rfl)))) (wm_t (wm_l (wm_l (wm_i 21 rfl)))) ggX11_duties_X11_is
theorem ggX11_duties_X11_numberUpTo : GoodIn wsX11_duties wsX11_numberUpTo := goodIn_s (fun _ h => wm_t (wm_r (wm_r (wm_r h)))) Gd_X11_numberUpTo
theorem gX11_duties_X11_numberUpTo : GoodIn wsX11_duties (wsV RX11 305 RX11 yX11_numberUpTo wsX11_numberUpTo) := goodIn_V (own := RX11) (idx := 305) (C := RX11) (y := yX11_numberUpTo) (wm_t (wm_l (wm_r (wm_i 8 rfl)))) (wm_t (wm_l (wm_r (wm_i 9 rfl)))) (wm_t (wm_l (wm_r (wm_i 10 rfl)))) (wm_t (wm_l (wm_l (wm_i 21 rfl)))) ggX11_duties_X11_numberUpTo
theorem dX11_duties_all0 : decode cX11_duties 0 = .ok (.aload_n 0, 1) ∧ decode cX11_duties 1 = .ok (.iconst 0, 1) ∧ decode cX11_duties 2 = .ok (.putfield 1, 3) ∧ decode cX11_duties 5 = .ok (.aload_n 0, 1) ∧ decode cX11_duties 6 = .ok (.aload_n 0, 1) ∧ decode cX11_duties 7 = .ok (.getfield 242, 3) ∧ decode cX11_duties 10 = .ok (.putfield 247, 3) ∧ decode cX11_duties 13 = .ok (.aload_n 0, 1) ∧ decode cX11_duties 14 = .ok (.iconst 0, 1) ∧ decode cX11_duties 15 = .ok (.putfield 242, 3) ∧ decode cX11_duties 18 = .ok (.aload_n 0, 1) ∧ decode cX11_duties 19 = .ok (.iconst 0, 1) := by decide +kernel
theorem dX11_duties_0 : decode cX11_duties 0 = .ok (.aload_n 0, 1) := dX11_duties_all0.1
theorem dX11_duties_1 : decode cX11_duties 1 = .ok (.iconst 0, 1) := dX11_duties_all0.2.1
theorem dX11_duties_2 : decode cX11_duties 2 = .ok (.putfield 1, 3) := dX11_duties_all0.2.2.1
theorem dX11_duties_5 : decode cX11_duties 5 = .ok (.aload_n 0, 1) := dX11_duties_all0.2.2.2.1
theorem dX11_duties_6 : decode cX11_duties 6 = .ok (.aload_n 0, 1) := dX11_duties_all0.2.2.2.2.1
theorem dX11_duties_7 : decode cX11_duties 7 = .ok (.getfield 242, 3) := dX11_duties_all0.2.2.2.2.2.1
theorem dX11_duties_10 : decode cX11_duties 10 = .ok (.putfield 247, 3) := dX11_duties_all0.2.2.2.2.2.2.1
theorem dX11_duties_13 : decode cX11_duties 13 = .ok (.aload_n 0, 1) := dX11_duties_all0.2.2.2.2.2.2.2.1
theorem dX11_duties_14 : decode cX11_duties 14 = .ok (.iconst 0, 1) := dX11_duties_all0.2.2.2.2.2.2.2.2.1
theorem dX11_duties_15 : decode cX11_duties 15 = .ok (.putfield 242, 3) := dX11_duties_all0.2.2.2.2.2.2.2.2.2.1
theorem dX11_duties_18 : decode cX11_duties 18 = .ok (.aload_n 0, 1) := dX11_duties_all0.2.2.2.2.2.2.2.2.2.2.1
theorem dX11_duties_19 : decode cX11_duties 19 = .ok (.iconst 0, 1) := dX11_duties_all0.2.2.2.2.2.2.2.2.2.2.2
theorem dX11_duties_all1 : decode cX11_duties 20 = .ok (.putfield 250, 3) ∧ decode cX11_duties 23 = .ok (.aload_n 0, 1) ∧ decode cX11_duties 24 = .ok (.iconst 0, 1) ∧ decode cX11_duties 25 = .ok (.putfield 271, 3) ∧ decode cX11_duties 28 = .ok (.aload_n 0, 1) ∧ decode cX11_duties 29 = .ok (.iconst 0, 1) ∧ decode cX11_duties 30 = .ok (.putfield 287, 3) ∧ decode cX11_duties 33 = .ok (.aload_n 0, 1) ∧ decode cX11_duties 34 = .ok (.invokevirtual 280, 3) ∧ decode cX11_duties 37 = .ok (.aload_n 0, 1) ∧ decode cX11_duties 38 = .ok (.getfield 271, 3) ∧ decode cX11_duties 41 = .ok (.ifCond .ne 259, 3) := by decide +kernel
theorem dX11_duties_20 : decode cX11_duties 20 = .ok (.putfield 250, 3) := dX11_duties_all1.1
theorem dX11_duties_23 : decode cX11_duties 23 = .ok (.aload_n 0, 1) := dX11_duties_all1.2.1
theorem dX11_duties_24 : decode cX11_duties 24 = .ok (.iconst 0, 1) := dX11_duties_all1.2.2.1
theorem dX11_duties_25 : decode cX11_duties 25 = .ok (.putfield 271, 3) := dX11_duties_all1.2.2.2.1
theorem dX11_duties_28 : decode cX11_duties 28 = .ok (.aload_n 0, 1) := dX11_duties_all1.2.2.2.2.1
theorem dX11_duties_29 : decode cX11_duties 29 = .ok (.iconst 0, 1) := dX11_duties_all1.2.2.2.2.2.1
theorem dX11_duties_30 : decode cX11_duties 30 = .ok (.putfield 287, 3) := dX11_duties_all1.2.2.2.2.2.2.1
theorem dX11_duties_33 : decode cX11_duties 33 = .ok (.aload_n 0, 1) := dX11_duties_all1.2.2.2.2.2.2.2.1
theorem dX11_duties_34 : decode cX11_duties 34 = .ok (.invokevirtual 280, 3) := dX11_duties_all1.2.2.2.2.2.2.2.2.1
theorem dX11_duties_37 : decode cX11_duties 37 = .ok (.aload_n 0, 1) := dX11_duties_all1.2.2.2.2.2.2.2.2.2.1
theorem dX11_duties_38 : decode cX11_duties 38 = .ok (.getfield 271, 3) := dX11_duties_all1.2.2.2.2.2.2.2.2.2.2.1
theorem dX11_duties_41 : decode cX11_duties 41 = .ok (.ifCond .ne 259, 3) := dX11_duties_all1.2.2.2.2.2.2.2.2.2.2.2
theorem dX11_duties_all2 : decode cX11_duties 44 = .ok (.aload_n 0, 1) ∧ decode cX11_duties 45 = .ok (.getfield 259, 3) ∧ decode cX11_duties 48 = .ok (.iconst 1, 1) ∧ decode cX11_duties 49 = .ok (.if_icmp .eq 251, 3) ∧ decode cX11_duties 52 = .ok (.aload_n 0, 1) ∧ decode cX11_duties 53 = .ok (.invokevirtual 290, 3) ∧ decode cX11_duties 56 = .ok (.lstore_n 1, 1) ∧ decode cX11_duties 57 = .ok (.lload_n 1, 1) ∧ decode cX11_duties 58 = .ok (.ldc2_w 294, 3) ∧ decode cX11_duties 61 = .ok (.lcmp, 1) ∧ decode cX11_duties 62 = .ok (.ifCond .ne 7, 3) ∧ decode cX11_duties 65 = .ok (.iconst 0, 1) := by decide +kernel
theorem dX11_duties_44 : decode cX11_duties 44 = .ok (.aload_n 0, 1) := dX11_duties_all2.1
theorem dX11_duties_45 : decode cX11_duties 45 = .ok (.getfield 259, 3) := dX11_duties_all2.2.1
theorem dX11_duties_48 : decode cX11_duties 48 = .ok (.iconst 1, 1) := dX11_duties_all2.2.2.1
theorem dX11_duties_49 : decode cX11_duties 49 = .ok (.if_icmp .eq 251, 3) := dX11_duties_all2.2.2.2.1
theorem dX11_duties_52 : decode cX11_duties 52 = .ok (.aload_n 0, 1) := dX11_duties_all2.2.2.2.2.1
theorem dX11_duties_53 : decode cX11_duties 53 = .ok (.invokevirtual 290, 3) := dX11_duties_all2.2.2.2.2.2.1
theorem dX11_duties_56 : decode cX11_duties 56 = .ok (.lstore_n 1, 1) := dX11_duties_all2.2.2.2.2.2.2.1
theorem dX11_duties_57 : decode cX11_duties 57 = .ok (.lload_n 1, 1) := dX11_duties_all2.2.2.2.2.2.2.2.1
theorem dX11_duties_58 : decode cX11_duties 58 = .ok (.ldc2_w 294, 3) := dX11_duties_all2.2.2.2.2.2.2.2.2.1
theorem dX11_duties_61 : decode cX11_duties 61 = .ok (.lcmp, 1) := dX11_duties_all2.2.2.2.2.2.2.2.2.2.1
theorem dX11_duties_62 : decode cX11_duties 62 = .ok (.ifCond .ne 7, 3) := dX11_duties_all2.2.2.2.2.2.2.2.2.2.2.1
theorem dX11_duties_65 : decode cX11_duties 65 = .ok (.iconst 0, 1) := dX11_duties_all2.2.2.2.2.2.2.2.2.2.2.2
theorem dX11_duties_all3 : decode cX11_duties 66 = .ok (.goto 41, 3) ∧ decode cX11_duties 69 = .ok (.lload_n 1, 1) ∧ decode cX11_duties 70 = .ok (.ldc2_w 296, 3) ∧ decode cX11_duties 73 = .ok (.lcmp, 1) ∧ decode cX11_duties 74 = .ok (.ifCond .ne 7, 3) ∧ decode cX11_duties 77 = .ok (.iconst 1, 1) ∧ decode cX11_duties 78 = .ok (.goto 29, 3) ∧ decode cX11_duties 81 = .ok (.lload_n 1, 1) ∧ decode cX11_duties 82 = .ok (.ldc2_w 298, 3) ∧ decode cX11_duties 85 = .ok (.lcmp, 1) ∧ decode cX11_duties 86 = .ok (.ifCond .ne 7, 3) ∧ decode cX11_duties 89 = .ok (.iconst 2, 1) := by decide +kernel
theorem dX11_duties_66 : decode cX11_duties 66 = .ok (.goto 41, 3) := dX11_duties_all3.1
theorem dX11_duties_69 : decode cX11_duties 69 = .ok (.lload_n 1, 1) := dX11_duties_all3.2.1
theorem dX11_duties_70 : decode cX11_duties 70 = .ok (.ldc2_w 296, 3) := dX11_duties_all3.2.2.1
theorem dX11_duties_73 : decode cX11_duties 73 = .ok (.lcmp, 1) := dX11_duties_all3.2.2.2.1
theorem dX11_duties_74 : decode cX11_duties 74 = .ok (.ifCond .ne 7, 3) := dX11_duties_all3.2.2.2.2.1
theorem dX11_duties_77 : decode cX11_duties 77 = .ok (.iconst 1, 1) := dX11_duties_all3.2.2.2.2.2.1
theorem dX11_duties_78 : decode cX11_duties 78 = .ok (.goto 29, 3) := dX11_duties_all3.2.2.2.2.2.2.1
theorem dX11_duties_81 : decode cX11_duties 81 = .ok (.lload_n 1, 1) := dX11_duties_all3.2.2.2.2.2.2.2.1
theorem dX11_duties_82 : decode cX11_duties 82 = .ok (.ldc2_w 298, 3) := dX11_duties_all3.2.2.2.2.2.2.2.2.1
theorem dX11_duties_85 : decode cX11_duties 85 = .ok (.lcmp, 1) := dX11_duties_all3.2.2.2.2.2.2.2.2.2.1
theorem dX11_duties_86 : decode cX11_duties 86 = .ok (.ifCond .ne 7, 3) := dX11_duties_all3.2.2.2.2.2.2.2.2.2.2.1
theorem dX11_duties_89 : decode cX11_duties 89 = .ok (.iconst 2, 1) := dX11_duties_all3.2.2.2.2.2.2.2.2.2.2.2
theorem dX11_duties_all4 : decode cX11_duties 90 = .ok (.goto 17, 3) ∧ decode cX11_duties 93 = .ok (.lload_n 1, 1) ∧ decode cX11_duties 94 = .ok (.ldc2_w 300, 3) ∧ decode cX11_duties 97 = .ok (.lcmp, 1) ∧ decode cX11_duties 98 = .ok (.ifCond .ne 7, 3) ∧ decode cX11_duties 101 = .ok (.iconst 3, 1) ∧ decode cX11_duties 102 = .ok (.goto 5, 3) ∧ decode cX11_duties 105 = .ok (.ldc 139, 2) ∧ decode cX11_duties 107 = .ok (.istore_n 3, 1) ∧ decode cX11_duties 108 = .ok (.iload_n 3, 1) ∧ decode cX11_duties 109 = .ok (.ldc 139, 2) ∧ decode cX11_duties 111 = .ok (.if_icmp .eq 17, 3) := by decide +kernel
theorem dX11_duties_90 : decode cX11_duties 90 = .ok (.goto 17, 3) := dX11_duties_all4.1
theorem dX11_duties_93 : decode cX11_duties 93 = .ok (.lload_n 1, 1) := dX11_duties_all4.2.1
theorem dX11_duties_94 : decode cX11_duties 94 = .ok (.ldc2_w 300, 3) := dX11_duties_all4.2.2.1
theorem dX11_duties_97 : decode cX11_duties 97 = .ok (.lcmp, 1) := dX11_duties_all4.2.2.2.1
theorem dX11_duties_98 : decode cX11_duties 98 = .ok (.ifCond .ne 7, 3) := dX11_duties_all4.2.2.2.2.1
theorem dX11_duties_101 : decode cX11_duties 101 = .ok (.iconst 3, 1) := dX11_duties_all4.2.2.2.2.2.1
theorem dX11_duties_102 : decode cX11_duties 102 = .ok (.goto 5, 3) := dX11_duties_all4.2.2.2.2.2.2.1
theorem dX11_duties_105 : decode cX11_duties 105 = .ok (.ldc 139, 2) := dX11_duties_all4.2.2.2.2.2.2.2.1
theorem dX11_duties_107 : decode cX11_duties 107 = .ok (.istore_n 3, 1) := dX11_duties_all4.2.2.2.2.2.2.2.2.1
theorem dX11_duties_108 : decode cX11_duties 108 = .ok (.iload_n 3, 1) := dX11_duties_all4.2.2.2.2.2.2.2.2.2.1
theorem dX11_duties_109 : decode cX11_duties 109 = .ok (.ldc 139, 2) := dX11_duties_all4.2.2.2.2.2.2.2.2.2.2.1
theorem dX11_duties_111 : decode cX11_duties 111 = .ok (.if_icmp .eq 17, 3) := dX11_duties_all4.2.2.2.2.2.2.2.2.2.2.2
theorem dX11_duties_all5 : decode cX11_duties 114 = .ok (.aload_n 0, 1) ∧ decode cX11_duties 115 = .ok (.getfield 287, 3) ∧ decode cX11_duties 118 = .ok (.bipush 12, 2) ∧ decode cX11_duties 120 = .ok (.if_icmp .ne 8, 3) ∧ decode cX11_duties 123 = .ok (.aload_n 0, 1) ∧ decode cX11_duties 124 = .ok (.iconst 3, 1) ∧ decode cX11_duties 125 = .ok (.invokevirtual 277, 3) ∧ decode cX11_duties 128 = .ok (.aload_n 0, 1) ∧ decode cX11_duties 129 = .ok (.iload_n 3, 1) ∧ decode cX11_duties 130 = .ok (.ldc 139, 2) ∧ decode cX11_duties 132 = .ok (.if_icmp .eq 7, 3) ∧ decode cX11_duties 135 = .ok (.iconst 1, 1) := by decide +kernel
theorem dX11_duties_114 : decode cX11_duties 114 = .ok (.aload_n 0, 1) := dX11_duties_all5.1
theorem dX11_duties_115 : decode cX11_duties 115 = .ok (.getfield 287, 3) := dX11_duties_all5.2.1
theorem dX11_duties_118 : decode cX11_duties 118 = .ok (.bipush 12, 2) := dX11_duties_all5.2.2.1
theorem dX11_duties_120 : decode cX11_duties 120 = .ok (.if_icmp .ne 8, 3) := dX11_duties_all5.2.2.2.1
theorem dX11_duties_123 : decode cX11_duties 123 = .ok (.aload_n 0, 1) := dX11_duties_all5.2.2.2.2.1
theorem dX11_duties_124 : decode cX11_duties 124 = .ok (.iconst 3, 1) := dX11_duties_all5.2.2.2.2.2.1
theorem dX11_duties_125 : decode cX11_duties 125 = .ok (.invokevirtual 277, 3) := dX11_duties_all5.2.2.2.2.2.2.1
theorem dX11_duties_128 : decode cX11_duties 128 = .ok (.aload_n 0, 1) := dX11_duties_all5.2.2.2.2.2.2.2.1
theorem dX11_duties_129 : decode cX11_duties 129 = .ok (.iload_n 3, 1) := dX11_duties_all5.2.2.2.2.2.2.2.2.1
theorem dX11_duties_130 : decode cX11_duties 130 = .ok (.ldc 139, 2) := dX11_duties_all5.2.2.2.2.2.2.2.2.2.1
theorem dX11_duties_132 : decode cX11_duties 132 = .ok (.if_icmp .eq 7, 3) := dX11_duties_all5.2.2.2.2.2.2.2.2.2.2.1
theorem dX11_duties_135 : decode cX11_duties 135 = .ok (.iconst 1, 1) := dX11_duties_all5.2.2.2.2.2.2.2.2.2.2.2
theorem dX11_duties_all6 : decode cX11_duties 136 = .ok (.goto 4, 3) ∧ decode cX11_duties 139 = .ok (.iconst 0, 1) ∧ decode cX11_duties 140 = .ok (.invokevirtual 283, 3) ∧ decode cX11_duties 143 = .ok (.iconst (-1), 1) ∧ decode cX11_duties 144 = .ok (.istore 4, 2) ∧ decode cX11_duties 146 = .ok (.aload_n 0, 1) ∧ decode cX11_duties 147 = .ok (.getfield 271, 3) ∧ decode cX11_duties 150 = .ok (.ifCond .ne 25, 3) ∧ decode cX11_duties 153 = .ok (.aload_n 0, 1) ∧ decode cX11_duties 154 = .ok (.bipush 62, 2) ∧ decode cX11_duties 156 = .ok (.invokevirtual 302, 3) ∧ decode cX11_duties 159 = .ok (.ifCond .eq 16, 3) := by decide +kernel
theorem dX11_duties_136 : decode cX11_duties 136 = .ok (.goto 4, 3) := dX11_duties_all6.1
theorem dX11_duties_139 : decode cX11_duties 139 = .ok (.iconst 0, 1) := dX11_duties_all6.2.1
theorem dX11_duties_140 : decode cX11_duties 140 = .ok (.invokevirtual 283, 3) := dX11_duties_all6.2.2.1
theorem dX11_duties_143 : decode cX11_duties 143 = .ok (.iconst (-1), 1) := dX11_duties_all6.2.2.2.1
theorem dX11_duties_144 : decode cX11_duties 144 = .ok (.istore 4, 2) := dX11_duties_all6.2.2.2.2.1
theorem dX11_duties_146 : decode cX11_duties 146 = .ok (.aload_n 0, 1) := dX11_duties_all6.2.2.2.2.2.1
theorem dX11_duties_147 : decode cX11_duties 147 = .ok (.getfield 271, 3) := dX11_duties_all6.2.2.2.2.2.2.1
theorem dX11_duties_150 : decode cX11_duties 150 = .ok (.ifCond .ne 25, 3) := dX11_duties_all6.2.2.2.2.2.2.2.1
theorem dX11_duties_153 : decode cX11_duties 153 = .ok (.aload_n 0, 1) := dX11_duties_all6.2.2.2.2.2.2.2.2.1
theorem dX11_duties_154 : decode cX11_duties 154 = .ok (.bipush 62, 2) := dX11_duties_all6.2.2.2.2.2.2.2.2.2.1
theorem dX11_duties_156 : decode cX11_duties 156 = .ok (.invokevirtual 302, 3) := dX11_duties_all6.2.2.2.2.2.2.2.2.2.2.1
theorem dX11_duties_159 : decode cX11_duties 159 = .ok (.ifCond .eq 16, 3) := dX11_duties_all6.2.2.2.2.2.2.2.2.2.2.2
theorem dX11_duties_all7 : decode cX11_duties 162 = .ok (.aload_n 0, 1) ∧ decode cX11_duties 163 = .ok (.invokevirtual 280, 3) ∧ decode cX11_duties 166 = .ok (.aload_n 0, 1) ∧ decode cX11_duties 167 = .ok (.sipush 9999, 3) ∧ decode cX11_duties 170 = .ok (.invokevirtual 305, 3) ∧ decode cX11_duties 173 = .ok (.istore 4, 2) ∧ decode cX11_duties 175 = .ok (.aload_n 0, 1) ∧ decode cX11_duties 176 = .ok (.getfield 271, 3) ∧ decode cX11_duties 179 = .ok (.ifCond .ne 23, 3) ∧ decode cX11_duties 182 = .ok (.aload_n 0, 1) ∧ decode cX11_duties 183 = .ok (.aload_n 0, 1) ∧ decode cX11_duties 184 = .ok (.invokevirtual 290, 3) := by decide +kernel
theorem dX11_duties_162 : decode cX11_duties 162 = .ok (.aload_n 0, 1) := dX11_duties_all7.1
theorem dX11_duties_163 : decode cX11_duties 163 = .ok (.invokevirtual 280, 3) := dX11_duties_all7.2.1
theorem dX11_duties_166 : decode cX11_duties 166 = .ok (.aload_n 0, 1) := dX11_duties_all7.2.2.1
theorem dX11_duties_167 : decode cX11_duties 167 = .ok (.sipush 9999, 3) := dX11_duties_all7.2.2.2.1
theorem dX11_duties_170 : decode cX11_duties 170 = .ok (.invokevirtual 305, 3) := dX11_duties_all7.2.2.2.2.1
theorem dX11_duties_173 : decode cX11_duties 173 = .ok (.istore 4, 2) := dX11_duties_all7.2.2.2.2.2.1
theorem dX11_duties_175 : decode cX11_duties 175 = .ok (.aload_n 0, 1) := dX11_duties_all7.2.2.2.2.2.2.1
theorem dX11_duties_176 : decode cX11_duties 176 = .ok (.getfield 271, 3) := dX11_duties_all7.2.2.2.2.2.2.2.1
theorem dX11_duties_179 : decode cX11_duties 179 = .ok (.ifCond .ne 23, 3) := dX11_duties_all7.2.2.2.2.2.2.2.2.1
theorem dX11_duties_182 : decode cX11_duties 182 = .ok (.aload_n 0, 1) := dX11_duties_all7.2.2.2.2.2.2.2.2.2.1
theorem dX11_duties_183 : decode cX11_duties 183 = .ok (.aload_n 0, 1) := dX11_duties_all7.2.2.2.2.2.2.2.2.2.2.1
theorem dX11_duties_184 : decode cX11_duties 184 = .ok (.invokevirtual 290, 3) := dX11_duties_all7.2.2.2.2.2.2.2.2.2.2.2
theorem dX11_duties_all8 : decode cX11_duties 187 = .ok (.ldc2_w 308, 3) ∧ decode cX11_duties 190 = .ok (.lcmp, 1) ∧ decode cX11_duties 191 = .ok (.ifCond .ne 7, 3) ∧ decode cX11_duties 194 = .ok (.iconst 1, 1) ∧ decode cX11_duties 195 = .ok (.goto 4, 3) ∧ decode cX11_duties 198 = .ok (.iconst 0, 1) ∧ decode cX11_duties 199 = .ok (.invokevirtual 283, 3) ∧ decode cX11_duties 202 = .ok (.aload_n 0, 1) ∧ decode cX11_duties 203 = .ok (.getfield 271, 3) ∧ decode cX11_duties 206 = .ok (.ifCond .ne 12, 3) ∧ decode cX11_duties 209 = .ok (.aload_n 0, 1) ∧ decode cX11_duties 210 = .ok (.bipush 100, 2) := by decide +kernel
theorem dX11_duties_187 : decode cX11_duties 187 = .ok (.ldc2_w 308, 3) := dX11_duties_all8.1
theorem dX11_duties_190 : decode cX11_duties 190 = .ok (.lcmp, 1) := dX11_duties_all8.2.1
theorem dX11_duties_191 : decode cX11_duties 191 = .ok (.ifCond .ne 7, 3) := dX11_duties_all8.2.2.1
theorem dX11_duties_194 : decode cX11_duties 194 = .ok (.iconst 1, 1) := dX11_duties_all8.2.2.2.1
theorem dX11_duties_195 : decode cX11_duties 195 = .ok (.goto 4, 3) := dX11_duties_all8.2.2.2.2.1
theorem dX11_duties_198 : decode cX11_duties 198 = .ok (.iconst 0, 1) := dX11_duties_all8.2.2.2.2.2.1
theorem dX11_duties_199 : decode cX11_duties 199 = .ok (.invokevirtual 283, 3) := dX11_duties_all8.2.2.2.2.2.2.1
theorem dX11_duties_202 : decode cX11_duties 202 = .ok (.aload_n 0, 1) := dX11_duties_all8.2.2.2.2.2.2.2.1
theorem dX11_duties_203 : decode cX11_duties 203 = .ok (.getfield 271, 3) := dX11_duties_all8.2.2.2.2.2.2.2.2.1
theorem dX11_duties_206 : decode cX11_duties 206 = .ok (.ifCond .ne 12, 3) := dX11_duties_all8.2.2.2.2.2.2.2.2.2.1
theorem dX11_duties_209 : decode cX11_duties 209 = .ok (.aload_n 0, 1) := dX11_duties_all8.2.2.2.2.2.2.2.2.2.2.1
theorem dX11_duties_210 : decode cX11_duties 210 = .ok (.bipush 100, 2) := dX11_duties_all8.2.2.2.2.2.2.2.2.2.2.2
theorem dX11_duties_all9 : decode cX11_duties 212 = .ok (.invokevirtual 305, 3) ∧ decode cX11_duties 215 = .ok (.goto 4, 3) ∧ decode cX11_duties 218 = .ok (.iconst 0, 1) ∧ decode cX11_duties 219 = .ok (.istore 5, 2) ∧ decode cX11_duties 221 = .ok (.aload_n 0, 1) ∧ decode cX11_duties 222 = .ok (.getfield 271, 3) ∧ decode cX11_duties 225 = .ok (.ifCond .ne 13, 3) ∧ decode cX11_duties 228 = .ok (.aload_n 0, 1) ∧ decode cX11_duties 229 = .ok (.aload_n 0, 1) ∧ decode cX11_duties 230 = .ok (.bipush 59, 2) ∧ decode cX11_duties 232 = .ok (.invokevirtual 302, 3) ∧ decode cX11_duties 235 = .ok (.invokevirtual 283, 3) := by decide +kernel
theorem dX11_duties_212 : decode cX11_duties 212 = .ok (.invokevirtual 305, 3) := dX11_duties_all9.1
theorem dX11_duties_215 : decode cX11_duties 215 = .ok (.goto 4, 3) := dX11_duties_all9.2.1
theorem dX11_duties_218 : decode cX11_duties 218 = .ok (.iconst 0, 1) := dX11_duties_all9.2.2.1
theorem dX11_duties_219 : decode cX11_duties 219 = .ok (.istore 5, 2) := dX11_duties_all9.2.2.2.1
theorem dX11_duties_221 : decode cX11_duties 221 = .ok (.aload_n 0, 1) := dX11_duties_all9.2.2.2.2.1
theorem dX11_duties_222 : decode cX11_duties 222 = .ok (.getfield 271, 3) := dX11_duties_all9.2.2.2.2.2.1
theorem dX11_duties_225 : decode cX11_duties 225 = .ok (.ifCond .ne 13, 3) := dX11_duties_all9.2.2.2.2.2.2.1
theorem dX11_duties_228 : decode cX11_duties 228 = .ok (.aload_n 0, 1) := dX11_duties_all9.2.2.2.2.2.2.2.1
theorem dX11_duties_229 : decode cX11_duties 229 = .ok (.aload_n 0, 1) := dX11_duties_all9.2.2.2.2.2.2.2.2.1
theorem dX11_duties_230 : decode cX11_duties 230 = .ok (.bipush 59, 2) := dX11_duties_all9.2.2.2.2.2.2.2.2.2.1
theorem dX11_duties_232 : decode cX11_duties 232 = .ok (.invokevirtual 302, 3) := dX11_duties_all9.2.2.2.2.2.2.2.2.2.2.1
theorem dX11_duties_235 : decode cX11_duties 235 = .ok (.invokevirtual 283, 3) := dX11_duties_all9.2.2.2.2.2.2.2.2.2.2.2
theorem dX11_duties_all10 : decode cX11_duties 238 = .ok (.aload_n 0, 1) ∧ decode cX11_duties 239 = .ok (.getfield 271, 3) ∧ decode cX11_duties 242 = .ok (.ifCond .ne 55, 3) ∧ decode cX11_duties 245 = .ok (.aload_n 0, 1) ∧ decode cX11_duties 246 = .ok (.getfield 84, 3) ∧ decode cX11_duties 249 = .ok (.iconst 3, 1) ∧ decode cX11_duties 250 = .ok (.aload_n 0, 1) ∧ decode cX11_duties 251 = .ok (.getfield 287, 3) ∧ decode cX11_duties 254 = .ok (.imul, 1) ∧ decode cX11_duties 255 = .ok (.iload_n 3, 1) ∧ decode cX11_duties 256 = .ok (.iastore, 1) ∧ decode cX11_duties 257 = .ok (.aload_n 0, 1) := by decide +kernel
theorem dX11_duties_238 : decode cX11_duties 238 = .ok (.aload_n 0, 1) := dX11_duties_all10.1
theorem dX11_duties_239 : decode cX11_duties 239 = .ok (.getfield 271, 3) := dX11_duties_all10.2.1
theorem dX11_duties_242 : decode cX11_duties 242 = .ok (.ifCond .ne 55, 3) := dX11_duties_all10.2.2.1
theorem dX11_duties_245 : decode cX11_duties 245 = .ok (.aload_n 0, 1) := dX11_duties_all10.2.2.2.1
theorem dX11_duties_246 : decode cX11_duties 246 = .ok (.getfield 84, 3) := dX11_duties_all10.2.2.2.2.1
theorem dX11_duties_249 : decode cX11_duties 249 = .ok (.iconst 3, 1) := dX11_duties_all10.2.2.2.2.2.1
theorem dX11_duties_250 : decode cX11_duties 250 = .ok (.aload_n 0, 1) := dX11_duties_all10.2.2.2.2.2.2.1
theorem dX11_duties_251 : decode cX11_duties 251 = .ok (.getfield 287, 3) := dX11_duties_all10.2.2.2.2.2.2.2.1
theorem dX11_duties_254 : decode cX11_duties 254 = .ok (.imul, 1) := dX11_duties_all10.2.2.2.2.2.2.2.2.1
theorem dX11_duties_255 : decode cX11_duties 255 = .ok (.iload_n 3, 1) := dX11_duties_all10.2.2.2.2.2.2.2.2.2.1
theorem dX11_duties_256 : decode cX11_duties 256 = .ok (.iastore, 1) := dX11_duties_all10.2.2.2.2.2.2.2.2.2.2.1
theorem dX11_duties_257 : decode cX11_duties 257 = .ok (.aload_n 0, 1) := dX11_duties_all10.2.2.2.2.2.2.2.2.2.2.2
theorem dX11_duties_all11 : decode cX11_duties 258 = .ok (.getfield 84, 3) ∧ decode cX11_duties 261 = .ok (.iconst 3, 1) ∧ decode cX11_duties 262 = .ok (.aload_n 0, 1) ∧ decode cX11_duties 263 = .ok (.getfield 287, 3) ∧ decode cX11_duties 266 = .ok (.imul, 1) ∧ decode cX11_duties 267 = .ok (.iconst 1, 1) ∧ decode cX11_duties 268 = .ok (.iadd, 1) ∧ decode cX11_duties 269 = .ok (.iload 4, 2) ∧ decode cX11_duties 271 = .ok (.iastore, 1) ∧ decode cX11_duties 272 = .ok (.aload_n 0, 1) ∧ decode cX11_duties 273 = .ok (.getfield 84, 3) ∧ decode cX11_duties 276 = .ok (.iconst 3, 1) := by decide +kernel
theorem dX11_duties_258 : decode cX11_duties 258 = .ok (.getfield 84, 3) := dX11_duties_all11.1
theorem dX11_duties_261 : decode cX11_duties 261 = .ok (.iconst 3, 1) := dX11_duties_all11.2.1
theorem dX11_duties_262 : decode cX11_duties 262 = .ok (.aload_n 0, 1) := dX11_duties_all11.2.2.1
theorem dX11_duties_263 : decode cX11_duties 263 = .ok (.getfield 287, 3) := dX11_duties_all11.2.2.2.1
theorem dX11_duties_266 : decode cX11_duties 266 = .ok (.imul, 1) := dX11_duties_all11.2.2.2.2.1
theorem dX11_duties_267 : decode cX11_duties 267 = .ok (.iconst 1, 1) := dX11_duties_all11.2.2.2.2.2.1
theorem dX11_duties_268 : decode cX11_duties 268 = .ok (.iadd, 1) := dX11_duties_all11.2.2.2.2.2.2.1
theorem dX11_duties_269 : decode cX11_duties 269 = .ok (.iload 4, 2) := dX11_duties_all11.2.2.2.2.2.2.2.1
theorem dX11_duties_271 : decode cX11_duties 271 = .ok (.iastore, 1) := dX11_duties_all11.2.2.2.2.2.2.2.2.1
theorem dX11_duties_272 : decode cX11_duties 272 = .ok (.aload_n 0, 1) := dX11_duties_all11.2.2.2.2.2.2.2.2.2.1
theorem dX11_duties_273 : decode cX11_duties 273 = .ok (.getfield 84, 3) := dX11_duties_all11.2.2.2.2.2.2.2.2.2.2.1
theorem dX11_duties_276 : decode cX11_duties 276 = .ok (.iconst 3, 1) := dX11_duties_all11.2.2.2.2.2.2.2.2.2.2.2
theorem dX11_duties_all12 : decode cX11_duties 277 = .ok (.aload_n 0, 1) ∧ decode cX11_duties 278 = .ok (.getfield 287, 3) ∧ decode cX11_duties 281 = .ok (.imul, 1) ∧ decode cX11_duties 282 = .ok (.iconst 2, 1) ∧ decode cX11_duties 283 = .ok (.iadd, 1) ∧ decode cX11_duties 284 = .ok (.iload 5, 2) ∧ decode cX11_duties 286 = .ok (.iastore, 1) ∧ decode cX11_duties 287 = .ok (.aload_n 0, 1) ∧ decode cX11_duties 288 = .ok (.dup, 1) ∧ decode cX11_duties 289 = .ok (.getfield 287, 3) ∧ decode cX11_duties 292 = .ok (.iconst 1, 1) ∧ decode cX11_duties 293 = .ok (.iadd, 1) := by decide +kernel
theorem dX11_duties_277 : decode cX11_duties 277 = .ok (.aload_n 0, 1) := dX11_duties_all12.1
theorem dX11_duties_278 : decode cX11_duties 278 = .ok (.getfield 287, 3) := dX11_duties_all12.2.1
theorem dX11_duties_281 : decode cX11_duties 281 = .ok (.imul, 1) := dX11_duties_all12.2.2.1
theorem dX11_duties_282 : decode cX11_duties 282 = .ok (.iconst 2, 1) := dX11_duties_all12.2.2.2.1
theorem dX11_duties_283 : decode cX11_duties 283 = .ok (.iadd, 1) := dX11_duties_all12.2.2.2.2.1
theorem dX11_duties_284 : decode cX11_duties 284 = .ok (.iload 5, 2) := dX11_duties_all12.2.2.2.2.2.1
theorem dX11_duties_286 : decode cX11_duties 286 = .ok (.iastore, 1) := dX11_duties_all12.2.2.2.2.2.2.1
theorem dX11_duties_287 : decode cX11_duties 287 = .ok (.aload_n 0, 1) := dX11_duties_all12.2.2.2.2.2.2.2.1
theorem dX11_duties_288 : decode cX11_duties 288 = .ok (.dup, 1) := dX11_duties_all12.2.2.2.2.2.2.2.2.1
theorem dX11_duties_289 : decode cX11_duties 289 = .ok (.getfield 287, 3) := dX11_duties_all12.2.2.2.2.2.2.2.2.2.1
theorem dX11_duties_292 : decode cX11_duties 292 = .ok (.iconst 1, 1) := dX11_duties_all12.2.2.2.2.2.2.2.2.2.2.1
theorem dX11_duties_293 : decode cX11_duties 293 = .ok (.iadd, 1) := dX11_duties_all12.2.2.2.2.2.2.2.2.2.2.2
theorem dX11_duties_all13 : decode cX11_duties 294 = .ok (.putfield 287, 3) ∧ decode cX11_duties 297 = .ok (.goto (-260), 3) ∧ decode cX11_duties 300 = .ok (.aload_n 0, 1) ∧ decode cX11_duties 301 = .ok (.getfield 271, 3) ∧ decode cX11_duties 304 = .ok (.ifCond .le 20, 3) ∧ decode cX11_duties 307 = .ok (.aload_n 0, 1) ∧ decode cX11_duties 308 = .ok (.aload_n 0, 1) ∧ decode cX11_duties 309 = .ok (.getfield 271, 3) ∧ decode cX11_duties 312 = .ok (.putfield 310, 3) ∧ decode cX11_duties 315 = .ok (.ldc_w 313, 3) ∧ decode cX11_duties 318 = .ok (.aload_n 0, 1) ∧ decode cX11_duties 319 = .ok (.getfield 274, 3) := by decide +kernel
theorem dX11_duties_294 : decode cX11_duties 294 = .ok (.putfield 287, 3) := dX11_duties_all13.1
theorem dX11_duties_297 : decode cX11_duties 297 = .ok (.goto (-260), 3) := dX11_duties_all13.2.1
theorem dX11_duties_300 : decode cX11_duties 300 = .ok (.aload_n 0, 1) := dX11_duties_all13.2.2.1
theorem dX11_duties_301 : decode cX11_duties 301 = .ok (.getfield 271, 3) := dX11_duties_all13.2.2.2.1
theorem dX11_duties_304 : decode cX11_duties 304 = .ok (.ifCond .le 20, 3) := dX11_duties_all13.2.2.2.2.1
theorem dX11_duties_307 : decode cX11_duties 307 = .ok (.aload_n 0, 1) := dX11_duties_all13.2.2.2.2.2.1
theorem dX11_duties_308 : decode cX11_duties 308 = .ok (.aload_n 0, 1) := dX11_duties_all13.2.2.2.2.2.2.1
theorem dX11_duties_309 : decode cX11_duties 309 = .ok (.getfield 271, 3) := dX11_duties_all13.2.2.2.2.2.2.2.1
theorem dX11_duties_312 : decode cX11_duties 312 = .ok (.putfield 310, 3) := dX11_duties_all13.2.2.2.2.2.2.2.2.1
theorem dX11_duties_315 : decode cX11_duties 315 = .ok (.ldc_w 313, 3) := dX11_duties_all13.2.2.2.2.2.2.2.2.2.1
theorem dX11_duties_318 : decode cX11_duties 318 = .ok (.aload_n 0, 1) := dX11_duties_all13.2.2.2.2.2.2.2.2.2.2.1
theorem dX11_duties_319 : decode cX11_duties 319 = .ok (.getfield 274, 3) := dX11_duties_all13.2.2.2.2.2.2.2.2.2.2.2
theorem dX11_duties_all14 : decode cX11_duties 322 = .ok (.isub, 1) ∧ decode cX11_duties 323 = .ok (.ireturn, 1) ∧ decode cX11_duties 324 = .ok (.aload_n 0, 1) ∧ decode cX11_duties 325 = .ok (.aload_n 0, 1) ∧ decode cX11_duties 326 = .ok (.getfield 287, 3) ∧ decode cX11_duties 329 = .ok (.putfield 314, 3) ∧ decode cX11_duties 332 = .ok (.iconst 0, 1) ∧ decode cX11_duties 333 = .ok (.istore_n 1, 1) ∧ decode cX11_duties 334 = .ok (.iload_n 1, 1) ∧ decode cX11_duties 335 = .ok (.bipush 36, 2) ∧ decode cX11_duties 337 = .ok (.if_icmp .ge 21, 3) ∧ decode cX11_duties 340 = .ok (.aload_n 0, 1) := by decide +kernel
theorem dX11_duties_322 : decode cX11_duties 322 = .ok (.isub, 1) := dX11_duties_all14.1
theorem dX11_duties_323 : decode cX11_duties 323 = .ok (.ireturn, 1) := dX11_duties_all14.2.1
theorem dX11_duties_324 : decode cX11_duties 324 = .ok (.aload_n 0, 1) := dX11_duties_all14.2.2.1
theorem dX11_duties_325 : decode cX11_duties 325 = .ok (.aload_n 0, 1) := dX11_duties_all14.2.2.2.1
theorem dX11_duties_326 : decode cX11_duties 326 = .ok (.getfield 287, 3) := dX11_duties_all14.2.2.2.2.1
theorem dX11_duties_329 : decode cX11_duties 329 = .ok (.putfield 314, 3) := dX11_duties_all14.2.2.2.2.2.1
theorem dX11_duties_332 : decode cX11_duties 332 = .ok (.iconst 0, 1) := dX11_duties_all14.2.2.2.2.2.2.1
theorem dX11_duties_333 : decode cX11_duties 333 = .ok (.istore_n 1, 1) := dX11_duties_all14.2.2.2.2.2.2.2.1
theorem dX11_duties_334 : decode cX11_duties 334 = .ok (.iload_n 1, 1) := dX11_duties_all14.2.2.2.2.2.2.2.2.1
theorem dX11_duties_335 : decode cX11_duties 335 = .ok (.bipush 36, 2) := dX11_duties_all14.2.2.2.2.2.2.2.2.2.1
theorem dX11_duties_337 : decode cX11_duties 337 = .ok (.if_icmp .ge 21, 3) := dX11_duties_all14.2.2.2.2.2.2.2.2.2.2.1
theorem dX11_duties_340 : decode cX11_duties 340 = .ok (.aload_n 0, 1) := dX11_duties_all14.2.2.2.2.2.2.2.2.2.2.2
theorem dX11_duties_all15 : decode cX11_duties 341 = .ok (.getfield 81, 3) ∧ decode cX11_duties 344 = .ok (.iload_n 1, 1) ∧ decode cX11_duties 345 = .ok (.aload_n 0, 1) ∧ decode cX11_duties 346 = .ok (.getfield 84, 3) ∧ decode cX11_duties 349 = .ok (.iload_n 1, 1) ∧ decode cX11_duties 350 = .ok (.iaload, 1) ∧ decode cX11_duties 351 = .ok (.iastore, 1) ∧ decode cX11_duties 352 = .ok (.iinc 1 1, 3) ∧ decode cX11_duties 355 = .ok (.goto (-21), 3) ∧ decode cX11_duties 358 = .ok (.aload_n 0, 1) ∧ decode cX11_duties 359 = .ok (.getfield 314, 3) ∧ decode cX11_duties 362 = .ok (.ireturn, 1) := by decide +kernel
theorem dX11_duties_341 : decode cX11_duties 341 = .ok (.getfield 81, 3) := dX11_duties_all15.1
theorem dX11_duties_344 : decode cX11_duties 344 = .ok (.iload_n 1, 1) := dX11_duties_all15.2.1
theorem dX11_duties_345 : decode cX11_duties 345 = .ok (.aload_n 0, 1) := dX11_duties_all15.2.2.1
theorem dX11_duties_346 : decode cX11_duties 346 = .ok (.getfield 84, 3) := dX11_duties_all15.2.2.2.1
theorem dX11_duties_349 : decode cX11_duties 349 = .ok (.iload_n 1, 1) := dX11_duties_all15.2.2.2.2.1
theorem dX11_duties_350 : decode cX11_duties 350 = .ok (.iaload, 1) := dX11_duties_all15.2.2.2.2.2.1
theorem dX11_duties_351 : decode cX11_duties 351 = .ok (.iastore, 1) := dX11_duties_all15.2.2.2.2.2.2.1
theorem dX11_duties_352 : decode cX11_duties 352 = .ok (.iinc 1 1, 3) := dX11_duties_all15.2.2.2.2.2.2.2.1
theorem dX11_duties_355 : decode cX11_duties 355 = .ok (.goto (-21), 3) := dX11_duties_all15.2.2.2.2.2.2.2.2.1
theorem dX11_duties_358 : decode cX11_duties 358 = .ok (.aload_n 0, 1) := dX11_duties_all15.2.2.2.2.2.2.2.2.2.1
theorem dX11_duties_359 : decode cX11_duties 359 = .ok (.getfield 314, 3) := dX11_duties_all15.2.2.2.2.2.2.2.2.2.2.1
theorem dX11_duties_362 : decode cX11_duties 362 = .ok (.ireturn, 1) := dX11_duties_all15.2.2.2.2.2.2.2.2.2.2.2
set_option maxHeartbeats 4000000 in
set_option maxRecDepth 100000 in
theorem ct_X11_duties (l : Launch) (D : va_G) (cI cY cJ cQ : ClassId) (sz : Nat) (md : Nat → Nat) (sd : Int32) (mth mst hn cn pn mq gn mln mnn ln mlt msz mcu mtk mfr mti mfa mfb an un lc td mtn : Int32) (mli mnl mtp : Nat → Int32)  (h1 : 0 ≤ ln.toInt) (h2 : ln.toInt ≤ 300) (h3 : 0 ≤ mln.toInt) (h4 : mln.toInt ≤ 12)  : Met l yX11_duties wsX11_duties ({ frames := 4, cells := 0, slots := 0, locals := 86 }) (cPre D (ty4 cI cY cJ cQ) [(moC md sd mth mst hn cn pn mq gn mln mnn ln mlt msz mcu mtk mfr mti mfa mfb an un lc td mtn), (aI cI (md 31) 36 mli), (aI cI (md 33) 36 mnl), (aI cI (md 34) 300 mtp)] sz [.ref (md 64)]) (va_Qi (fun (r : Int32) (u : Int32 × (Nat → Int32) × Int32 × (Nat → Int32) × Int32 × Int32 × Int32 × Int32 × Int32 × Int32 × Int32 × Int32) => 0 ≤ u.1.toInt ∧ u.1.toInt ≤ 12) (cB D (ty4 cI cY cJ cQ) (fun (u : Int32 × (Nat → Int32) × Int32 × (Nat → Int32) × Int32 × Int32 × Int32 × Int32 × Int32 × Int32 × Int32 × Int32) => [(moC md sd 0 mst hn cn pn mq gn u.1 u.2.2.1 0 u.2.2.2.2.1 u.2.2.2.2.2.1 u.2.2.2.2.2.2.1 u.2.2.2.2.2.2.2.1 u.2.2.2.2.2.2.2.2.1 u.2.2.2.2.2.2.2.2.2.1 u.2.2.2.2.2.2.2.2.2.2.1 u.2.2.2.2.2.2.2.2.2.2.2 an un lc td mtn), (aI cI (md 31) 36 u.2.1), (aI cI (md 33) 36 u.2.2.2.1), (aI cI (md 34) 300 mtp)]) (va_A [(moC md sd mth mst hn cn pn mq gn mln mnn ln mlt msz mcu mtk mfr mti mfa mfb an un lc td mtn), (aI cI (md 31) 36 mli), (aI cI (md 33) 36 mnl), (aI cI (md 34) 300 mtp)] sz)) (va_A [(moC md sd mth mst hn cn pn mq gn mln mnn ln mlt msz mcu mtk mfr mti mfa mfb an un lc td mtn), (aI cI (md 31) 36 mli), (aI cI (md 33) 36 mnl), (aI cI (md 34) 300 mtp)] sz)) 0 0 (va_A [(moC md sd mth mst hn cn pn mq gn mln mnn ln mlt msz mcu mtk mfr mti mfa mfb an un lc td mtn), (aI cI (md 31) 36 mli), (aI cI (md 33) 36 mnl), (aI cI (md 34) 300 mtp)] sz) := by
  refine Met.ofW (cc := cX11_duties) (maxL := 6) (ret := (some .int)) (by decide) rfl ?_
  intro p e s m args below meth c s₁ B hml hv
  obtain ⟨rfl, hsz, hP, hK, hD0, hN⟩ := hv
  have hx := B.exec
  have hb := B.bytes
  have hr := B.returns
  have hts := atoms_spec (ws := wsX11_duties) B.pre
  have hown : s.vm.findClass RX11 = some m.cls := findClass_of_methodNamed B.named
  have hlocks := B.notSynchronized
  subst hsz
  have hD := hD0.self (sz := s.heap.size)
  generalize hAe : va_A [(moC md sd mth mst hn cn pn mq gn mln mnn ln mlt msz mcu mtk mfr mti mfa mfb an un lc td mtn), (aI cI (md 31) 36 mli), (aI cI (md 33) 36 mnl), (aI cI (md 34) 300 mtp)] s.heap.size = A at hD ⊢
  have hA : ∀ q : Nat, s.heap.size ≤ q → A q := fun q h => by rw [← hAe]; exact Or.inr h
  have hS : va_S A s.heap s.heap [] := va_S.rf
  have hP : va_P D vwCl [(moC md sd mth mst hn cn pn mq gn mln mnn ln mlt msz mcu mtk mfr mti mfa mfb an un lc td mtn), (aI cI (md 31) 36 mli), (aI cI (md 33) 36 mnl), (aI cI (md 34) 300 mtp)] s.heap := hP
  have hl := lv_entry ([.ref (md 64)]) (n := 6) (Nat.le_of_ble_eq_true rfl)
  rw [lg_entry_eq]
  generalize (lg_sl ([.ref (md 64)]) ++ List.replicate (6 - (lg_sl ([.ref (md 64)])).length) Slot.unset).toArray = ls at hl ⊢
  have hl : lv_has ls 6 [(0, .ref (md 64))] := hl
  have km1000100 : (-1000100 : Int32).toInt = -1000100 := by decide
  have km1000000 : (-1000000 : Int32).toInt = -1000000 := by decide
  have km1 : (-1 : Int32).toInt = -1 := by decide
  have k0 : (0 : Int32).toInt = 0 := by decide
  have k1 : (1 : Int32).toInt = 1 := by decide
  have k2 : (2 : Int32).toInt = 2 := by decide
  have k3 : (3 : Int32).toInt = 3 := by decide
  have k12 : (12 : Int32).toInt = 12 := by decide
  have k36 : (36 : Int32).toInt = 36 := by decide
  have k59 : (59 : Int32).toInt = 59 := by decide
  have k62 : (62 : Int32).toInt = 62 := by decide
  have k100 : (100 : Int32).toInt = 100 := by decide
  have k9999 : (9999 : Int32).toInt = 9999 := by decide
  have kl7304564 : (7304564 : Int64).toInt = 7304564 := by decide
  have kl1885434484 : (1885434484 : Int64).toInt = 1885434484 := by decide
  have kl1936682084 : (1936682084 : Int64).toInt = 1936682084 := by decide
  have kl495673374574 : (495673374574 : Int64).toInt = 495673374574 := by decide
  have kl120282411197796 : (120282411197796 : Int64).toInt = 120282411197796 := by decide
  refine lv_aload_n hx hb dX11_duties_0 rfl (lv_at hl 0 rfl) ?_
  refine lv_iconst (v := 0) hx hb dX11_duties_1 (by decide) ?_
  refine va_put (D := D) (ci := 11) (v := .int 0) (ty := .int) (C := RX11) (T := TX11) (N := 64) hx hb hts inX11_duties_X11 tyX11 tyX11_ok nmX11 hown hK hP hD hS 0 rfl rfl 0 (by decide) (hts (Cond.fieldLink RX11 1 "PortRoomsModel" "thrown" "I") (wm_t (wm_l (wm_l (wm_i 0 rfl))))) (fun _ h9 => h9) rfl (tyX11_ok 0 (by decide)) rfl rfl (Nat.le_of_ble_eq_true rfl) dX11_duties_2 (fun H locs => ?_)
  clear hP hD hS
  intro hP hD hS
  replace hP : va_P D vwCl [(moC md sd (0) mst hn cn pn mq gn mln mnn ln mlt msz mcu mtk mfr mti mfa mfb an un lc td mtn), (aI cI (md 31) 36 mli), (aI cI (md 33) 36 mnl), (aI cI (md 34) 300 mtp)] H := hP
  replace hD : va_D A [(moC md sd (0) mst hn cn pn mq gn mln mnn ln mlt msz mcu mtk mfr mti mfa mfb an un lc td mtn), (aI cI (md 31) 36 mli), (aI cI (md 33) 36 mnl), (aI cI (md 34) 300 mtp)] := hD
  refine lv_aload_n hx hb dX11_duties_5 rfl (lv_at hl 0 rfl) ?_
  refine lv_aload_n hx hb dX11_duties_6 rfl (lv_at hl 0 rfl) ?_
  refine va_get (D := D) (ci := 11) (v := .int ln) (C := RX11) (T := TX11) (N := 64) hx hb hts inX11_duties_X11 hown hK hP 0 rfl rfl 35 (by decide) (hts (Cond.fieldLink RX11 242 "PortRoomsModel" "taped" "I") (wm_t (wm_l (wm_l (wm_i 1 rfl))))) (fun _ h9 => h9) rfl dX11_duties_7 ?_
  refine va_put (D := D) (ci := 11) (v := .int ln) (ty := .int) (C := RX11) (T := TX11) (N := 64) hx hb hts inX11_duties_X11 tyX11 tyX11_ok nmX11 hown hK hP hD hS 0 rfl rfl 37 (by decide) (hts (Cond.fieldLink RX11 247 "PortRoomsModel" "size" "I") (wm_t (wm_l (wm_l (wm_i 2 rfl))))) (fun _ h9 => h9) rfl (tyX11_ok 37 (by decide)) rfl rfl (Nat.le_of_ble_eq_true rfl) dX11_duties_10 (fun H locs => ?_)
  clear hP hD hS
  intro hP hD hS
  replace hP : va_P D vwCl [(moC md sd (0) mst hn cn pn mq gn mln mnn ln mlt ln mcu mtk mfr mti mfa mfb an un lc td mtn), (aI cI (md 31) 36 mli), (aI cI (md 33) 36 mnl), (aI cI (md 34) 300 mtp)] H := hP
  replace hD : va_D A [(moC md sd (0) mst hn cn pn mq gn mln mnn ln mlt ln mcu mtk mfr mti mfa mfb an un lc td mtn), (aI cI (md 31) 36 mli), (aI cI (md 33) 36 mnl), (aI cI (md 34) 300 mtp)] := hD
  refine lv_aload_n hx hb dX11_duties_13 rfl (lv_at hl 0 rfl) ?_
  refine lv_iconst (v := 0) hx hb dX11_duties_14 (by decide) ?_
  refine va_put (D := D) (ci := 11) (v := .int 0) (ty := .int) (C := RX11) (T := TX11) (N := 64) hx hb hts inX11_duties_X11 tyX11 tyX11_ok nmX11 hown hK hP hD hS 0 rfl rfl 35 (by decide) (hts (Cond.fieldLink RX11 242 "PortRoomsModel" "taped" "I") (wm_t (wm_l (wm_l (wm_i 1 rfl))))) (fun _ h9 => h9) rfl (tyX11_ok 35 (by decide)) rfl rfl (Nat.le_of_ble_eq_true rfl) dX11_duties_15 (fun H locs => ?_)
  clear hP hD hS
  intro hP hD hS
  replace hP : va_P D vwCl [(moC md sd (0) mst hn cn pn mq gn mln mnn (0) mlt ln mcu mtk mfr mti mfa mfb an un lc td mtn), (aI cI (md 31) 36 mli), (aI cI (md 33) 36 mnl), (aI cI (md 34) 300 mtp)] H := hP
  replace hD : va_D A [(moC md sd (0) mst hn cn pn mq gn mln mnn (0) mlt ln mcu mtk mfr mti mfa mfb an un lc td mtn), (aI cI (md 31) 36 mli), (aI cI (md 33) 36 mnl), (aI cI (md 34) 300 mtp)] := hD
  refine lv_aload_n hx hb dX11_duties_18 rfl (lv_at hl 0 rfl) ?_
  refine lv_iconst (v := 0) hx hb dX11_duties_19 (by decide) ?_
  refine va_put (D := D) (ci := 11) (v := .int 0) (ty := .int) (C := RX11) (T := TX11) (N := 64) hx hb hts inX11_duties_X11 tyX11 tyX11_ok nmX11 hown hK hP hD hS 0 rfl rfl 38 (by decide) (hts (Cond.fieldLink RX11 250 "PortRoomsModel" "cursor" "I") (wm_t (wm_l (wm_l (wm_i 3 rfl))))) (fun _ h9 => h9) rfl (tyX11_ok 38 (by decide)) rfl rfl (Nat.le_of_ble_eq_true rfl) dX11_duties_20 (fun H locs => ?_)
  clear hP hD hS
  intro hP hD hS
  replace hP : va_P D vwCl [(moC md sd (0) mst hn cn pn mq gn mln mnn (0) mlt ln (0) mtk mfr mti mfa mfb an un lc td mtn), (aI cI (md 31) 36 mli), (aI cI (md 33) 36 mnl), (aI cI (md 34) 300 mtp)] H := hP
  replace hD : va_D A [(moC md sd (0) mst hn cn pn mq gn mln mnn (0) mlt ln (0) mtk mfr mti mfa mfb an un lc td mtn), (aI cI (md 31) 36 mli), (aI cI (md 33) 36 mnl), (aI cI (md 34) 300 mtp)] := hD
  refine lv_aload_n hx hb dX11_duties_23 rfl (lv_at hl 0 rfl) ?_
  refine lv_iconst (v := 0) hx hb dX11_duties_24 (by decide) ?_
  refine va_put (D := D) (ci := 11) (v := .int 0) (ty := .int) (C := RX11) (T := TX11) (N := 64) hx hb hts inX11_duties_X11 tyX11 tyX11_ok nmX11 hown hK hP hD hS 0 rfl rfl 42 (by decide) (hts (Cond.fieldLink RX11 271 "PortRoomsModel" "fault" "I") (wm_t (wm_l (wm_l (wm_i 4 rfl))))) (fun _ h9 => h9) rfl (tyX11_ok 42 (by decide)) rfl rfl (Nat.le_of_ble_eq_true rfl) dX11_duties_25 (fun H locs => ?_)
  clear hP hD hS
  intro hP hD hS
  replace hP : va_P D vwCl [(moC md sd (0) mst hn cn pn mq gn mln mnn (0) mlt ln (0) mtk mfr mti (0) mfb an un lc td mtn), (aI cI (md 31) 36 mli), (aI cI (md 33) 36 mnl), (aI cI (md 34) 300 mtp)] H := hP
  replace hD : va_D A [(moC md sd (0) mst hn cn pn mq gn mln mnn (0) mlt ln (0) mtk mfr mti (0) mfb an un lc td mtn), (aI cI (md 31) 36 mli), (aI cI (md 33) 36 mnl), (aI cI (md 34) 300 mtp)] := hD
  refine lv_aload_n hx hb dX11_duties_28 rfl (lv_at hl 0 rfl) ?_
  refine lv_iconst (v := 0) hx hb dX11_duties_29 (by decide) ?_
  refine va_put (D := D) (ci := 11) (v := .int 0) (ty := .int) (C := RX11) (T := TX11) (N := 64) hx hb hts inX11_duties_X11 tyX11 tyX11_ok nmX11 hown hK hP hD hS 0 rfl rfl 32 (by decide) (hts (Cond.fieldLink RX11 287 "PortRoomsModel" "newLines" "I") (wm_t (wm_l (wm_l (wm_i 5 rfl))))) (fun _ h9 => h9) rfl (tyX11_ok 32 (by decide)) rfl rfl (Nat.le_of_ble_eq_true rfl) dX11_duties_30 (fun H locs => ?_)
  clear hP hD hS
  intro hP hD hS
  replace hP : va_P D vwCl [(moC md sd (0) mst hn cn pn mq gn mln (0) (0) mlt ln (0) mtk mfr mti (0) mfb an un lc td mtn), (aI cI (md 31) 36 mli), (aI cI (md 33) 36 mnl), (aI cI (md 34) 300 mtp)] H := hP
  replace hD : va_D A [(moC md sd (0) mst hn cn pn mq gn mln (0) (0) mlt ln (0) mtk mfr mti (0) mfb an un lc td mtn), (aI cI (md 31) 36 mli), (aI cI (md 33) 36 mnl), (aI cI (md 34) 300 mtp)] := hD
  refine lv_aload_n hx hb dX11_duties_33 rfl (lv_at hl 0 rfl) ?_
  refine st_v (wr := [(aI cI (md 31) 36 mli), (aI cI (md 33) 36 mnl)]) (va_runV (C := RX11) (As := []) (rest := []) ⟨hx, hb, hml, hown, hts⟩ (ct_X11_step l D cI cY cJ cQ _ md sd 0 mst hn cn pn mq gn mln 0 0 mlt ln 0 mtk mfr mti 0 mfb an un lc td mtn mtp h1 h2 (by omega) (by omega)) (cwV 0 hts gX11_duties_X11_step rfl rfl rfl ⟨rfl, cdX11_step⟩ ⟨Nat.le_of_ble_eq_true rfl, Nat.le_of_ble_eq_true rfl⟩) (cPreV (hP.sub [0, 3] rfl) hK (hD.sub [0, 3] (by decide +kernel) rfl) hN (ci := 11) (q0 := 0) rfl rfl) rfl rfl hl.1 rfl (lv_room (Nat.le_of_ble_eq_true rfl)) dX11_duties_34 ⟨Nat.le_of_ble_eq_true rfl, Nat.le_of_ble_eq_true rfl⟩) hP hD hS hA [0, 3] [1, 2] rfl rfl (by decide +kernel) (by decide +kernel) (fun u1 H locs hw2 => ?_)
  clear hP hD hS
  intro hP hD hS
  obtain ⟨mcu_4, mtk_5, mfr_6, mti_7⟩ := u1
  replace hw2 : (0 : Int32).toInt ≤ mfr_6.toInt ∧ mfr_6.toInt ≤ mcu_4.toInt ∧ mcu_4.toInt ≤ ln.toInt ∧ mti_7.toInt = mcu_4.toInt ∧ (mtk_5.toInt = 1 ∨ mfr_6.toInt < mcu_4.toInt) := hw2
  replace hP : va_P D vwCl [(aI cI (md 31) 36 mli), (aI cI (md 33) 36 mnl), (moC md sd (0) mst hn cn pn mq gn mln (0) (0) mlt ln mcu_4 mtk_5 mfr_6 mti_7 (0) mfb an un lc td mtn), (aI cI (md 34) 300 mtp)] H := hP
  replace hD : va_D A [(aI cI (md 31) 36 mli), (aI cI (md 33) 36 mnl), (moC md sd (0) mst hn cn pn mq gn mln (0) (0) mlt ln mcu_4 mtk_5 mfr_6 mti_7 (0) mfb an un lc td mtn), (aI cI (md 34) 300 mtp)] := hD
  refine st_loop 37 (fun _ => []) (fun (z : (Nat → Int32) × Int32 × Int32 × Int32 × Int32 × Int32 × Int32 × Int32) (ls : Array Slot) (H : Heap) (locs : List Loc) => match z with | (mnlq, hcu, htk, hfr, hti, hfa, hfb, hnn) => (0 ≤ hfr.toInt) ∧ (hfr.toInt ≤ hcu.toInt) ∧ (hcu.toInt ≤ ln.toInt) ∧ (hti.toInt = hcu.toInt) ∧ (¬ hfa.toInt = 0 ∨ htk.toInt = 1 ∨ hfr.toInt < hcu.toInt) ∧ (0 ≤ hnn.toInt) ∧ (hnn.toInt ≤ 12) ∧ lv_has ls 6 [(0, .ref (md 64))] ∧ va_P D vwCl [(aI cI (md 31) 36 mli), (aI cI (md 33) 36 mnlq), (moC md sd (0) mst hn cn pn mq gn mln hnn (0) mlt ln hcu htk hfr hti hfa hfb an un lc td mtn), (aI cI (md 34) 300 mtp)] H ∧ va_D A [(aI cI (md 31) 36 mli), (aI cI (md 33) 36 mnlq), (moC md sd (0) mst hn cn pn mq gn mln hnn (0) mlt ln hcu htk hfr hti hfa hfb an un lc td mtn), (aI cI (md 34) 300 mtp)] ∧ va_S A s.heap H locs) (fun (z : (Nat → Int32) × Int32 × Int32 × Int32 × Int32 × Int32 × Int32 × Int32) => match z with | (mnlq, hcu, htk, hfr, hti, hfa, hfb, hnn) => 301 - hfr.toInt) ?_ ?_ (mnl, mcu_4, mtk_5, mfr_6, mti_7, (0 : Int32), mfb, (0 : Int32)) ⟨(by omega), (by omega), (by omega), (by omega), (by omega), (by omega), (by omega), lv_sub hl [0] rfl, hP, hD, hS⟩
  · rintro ⟨mnlq, hcu, htk, hfr, hti, hfa, hfb, hnn⟩ ls H locs ⟨g8, g9, g10, g11, g12, g13, g14, hl, hP, hD, hS⟩
    show (0 : Int) ≤ 301 - hfr.toInt
    omega
  · rintro n17 ih15 ⟨mnlq, hcu, htk, hfr, hti, hfa, hfb, hnn⟩ ls H locs ⟨g8, g9, g10, g11, g12, g13, g14, hl, hP, hD, hS⟩ hm16
    have hm16 : 301 - hfr.toInt < (n17 : Int) + 1 := hm16
    replace hl : lv_has ls 6 [(0, .ref (md 64))] := hl
    replace hP : va_P D vwCl [(aI cI (md 31) 36 mli), (aI cI (md 33) 36 mnlq), (moC md sd (0) mst hn cn pn mq gn mln hnn (0) mlt ln hcu htk hfr hti hfa hfb an un lc td mtn), (aI cI (md 34) 300 mtp)] H := hP
    replace hD : va_D A [(aI cI (md 31) 36 mli), (aI cI (md 33) 36 mnlq), (moC md sd (0) mst hn cn pn mq gn mln hnn (0) mlt ln hcu htk hfr hti hfa hfb an un lc td mtn), (aI cI (md 34) 300 mtp)] := hD
    show W _ _ _ _ _ _ _ _ _ _ _ _ _ _ _ (F0 m 37 ls [])
    refine lv_aload_n hx hb dX11_duties_37 rfl (lv_at hl 0 rfl) ?_
    refine va_get (D := D) (ci := 11) (v := .int hfa) (C := RX11) (T := TX11) (N := 64) hx hb hts inX11_duties_X11 hown hK hP 2 rfl rfl 42 (by decide) (hts (Cond.fieldLink RX11 271 "PortRoomsModel" "fault" "I") (wm_t (wm_l (wm_l (wm_i 4 rfl))))) (fun _ h9 => h9) rfl dX11_duties_38 ?_
    refine lv_if_ne (tgt := 300) hx hb dX11_duties_41 (by decide) (fun c18 => ?_) (fun c18 => ?_)
    · skip
      have f19 := i_ne c18
      refine lv_aload_n hx hb dX11_duties_300 rfl (lv_at hl 0 rfl) ?_
      refine va_get (D := D) (ci := 11) (v := .int hfa) (C := RX11) (T := TX11) (N := 64) hx hb hts inX11_duties_X11 hown hK hP 2 rfl rfl 42 (by decide) (hts (Cond.fieldLink RX11 271 "PortRoomsModel" "fault" "I") (wm_t (wm_l (wm_l (wm_i 4 rfl))))) (fun _ h9 => h9) rfl dX11_duties_301 ?_
      refine lv_if_le (tgt := 324) hx hb dX11_duties_304 (by decide) (fun c20 => ?_) (fun c20 => ?_)
      · skip
        have f21 := i_le c20
        refine lv_aload_n hx hb dX11_duties_324 rfl (lv_at hl 0 rfl) ?_
        refine lv_aload_n hx hb dX11_duties_325 rfl (lv_at hl 0 rfl) ?_
        refine va_get (D := D) (ci := 11) (v := .int hnn) (C := RX11) (T := TX11) (N := 64) hx hb hts inX11_duties_X11 hown hK hP 2 rfl rfl 32 (by decide) (hts (Cond.fieldLink RX11 287 "PortRoomsModel" "newLines" "I") (wm_t (wm_l (wm_l (wm_i 5 rfl))))) (fun _ h9 => h9) rfl dX11_duties_326 ?_
        refine va_put (D := D) (ci := 11) (v := .int hnn) (ty := .int) (C := RX11) (T := TX11) (N := 64) hx hb hts inX11_duties_X11 tyX11 tyX11_ok nmX11 hown hK hP hD hS 2 rfl rfl 30 (by decide) (hts (Cond.fieldLink RX11 314 "PortRoomsModel" "lines" "I") (wm_t (wm_l (wm_l (wm_i 17 rfl))))) (fun _ h9 => h9) rfl (tyX11_ok 30 (by decide)) rfl rfl (Nat.le_of_ble_eq_true rfl) dX11_duties_329 (fun H locs => ?_)
        clear hP hD hS
        intro hP hD hS
        replace hP : va_P D vwCl [(aI cI (md 31) 36 mli), (aI cI (md 33) 36 mnlq), (moC md sd (0) mst hn cn pn mq gn hnn hnn (0) mlt ln hcu htk hfr hti hfa hfb an un lc td mtn), (aI cI (md 34) 300 mtp)] H := hP
        replace hD : va_D A [(aI cI (md 31) 36 mli), (aI cI (md 33) 36 mnlq), (moC md sd (0) mst hn cn pn mq gn hnn hnn (0) mlt ln hcu htk hfr hti hfa hfb an un lc td mtn), (aI cI (md 34) 300 mtp)] := hD
        refine lv_iconst (v := 0) hx hb dX11_duties_332 (by decide) ?_
        refine lv_istore_n (lv' := [(1, .int 0), (0, .ref (md 64))]) hx hb dX11_duties_333 rfl hl (by decide) rfl (fun ls hl => ?_)
        refine st_loop 334 (fun _ => []) (fun (z : Int32 × (Nat → Int32)) (ls : Array Slot) (H : Heap) (locs : List Loc) => match z with | (q334_1, mliq) => (0 ≤ q334_1.toInt) ∧ (q334_1.toInt ≤ 36) ∧ lv_has ls 6 [(0, .ref (md 64)), (1, .int q334_1)] ∧ va_P D vwCl [(aI cI (md 31) 36 mliq), (aI cI (md 33) 36 mnlq), (moC md sd (0) mst hn cn pn mq gn hnn hnn (0) mlt ln hcu htk hfr hti hfa hfb an un lc td mtn), (aI cI (md 34) 300 mtp)] H ∧ va_D A [(aI cI (md 31) 36 mliq), (aI cI (md 33) 36 mnlq), (moC md sd (0) mst hn cn pn mq gn hnn hnn (0) mlt ln hcu htk hfr hti hfa hfb an un lc td mtn), (aI cI (md 34) 300 mtp)] ∧ va_S A s.heap H locs) (fun (z : Int32 × (Nat → Int32)) => match z with | (q334_1, mliq) => 36 - q334_1.toInt) ?_ ?_ ((0 : Int32), mli) ⟨(by omega), (by omega), lv_sub hl [1, 0] rfl, hP, hD, hS⟩
        · rintro ⟨q334_1, mliq⟩ ls H locs ⟨g22, g23, hl, hP, hD, hS⟩
          show (0 : Int) ≤ 36 - q334_1.toInt
          omega
        · rintro n26 ih24 ⟨q334_1, mliq⟩ ls H locs ⟨g22, g23, hl, hP, hD, hS⟩ hm25
          have hm25 : 36 - q334_1.toInt < (n26 : Int) + 1 := hm25
          replace hl : lv_has ls 6 [(0, .ref (md 64)), (1, .int q334_1)] := hl
          replace hP : va_P D vwCl [(aI cI (md 31) 36 mliq), (aI cI (md 33) 36 mnlq), (moC md sd (0) mst hn cn pn mq gn hnn hnn (0) mlt ln hcu htk hfr hti hfa hfb an un lc td mtn), (aI cI (md 34) 300 mtp)] H := hP
          replace hD : va_D A [(aI cI (md 31) 36 mliq), (aI cI (md 33) 36 mnlq), (moC md sd (0) mst hn cn pn mq gn hnn hnn (0) mlt ln hcu htk hfr hti hfa hfb an un lc td mtn), (aI cI (md 34) 300 mtp)] := hD
          show W _ _ _ _ _ _ _ _ _ _ _ _ _ _ _ (F0 m 334 ls [])
          refine lv_iload_n hx hb dX11_duties_334 rfl (lv_at hl 1 rfl) ?_
          refine lv_bipush (v := 36) hx hb dX11_duties_335 (by decide) ?_
          refine lv_icmp_ge (tgt := 358) hx hb dX11_duties_337 (by decide) (fun c27 => ?_) (fun c27 => ?_)
          · skip
            have f28 := i_le c27
            refine lv_aload_n hx hb dX11_duties_358 rfl (lv_at hl 0 rfl) ?_
            refine va_get (D := D) (ci := 11) (v := .int hnn) (C := RX11) (T := TX11) (N := 64) hx hb hts inX11_duties_X11 hown hK hP 2 rfl rfl 30 (by decide) (hts (Cond.fieldLink RX11 314 "PortRoomsModel" "lines" "I") (wm_t (wm_l (wm_l (wm_i 17 rfl))))) (fun _ h9 => h9) rfl dX11_duties_359 ?_
            have hP9 := hP.sub (ws' := [(moC md sd (0) mst hn cn pn mq gn hnn hnn (0) mlt ln hcu htk hfr hti hfa hfb an un lc td mtn), (aI cI (md 31) 36 mliq), (aI cI (md 33) 36 mnlq), (aI cI (md 34) 300 mtp)]) [2, 0, 1, 3] rfl
            have hD9 := hD.sub (ws' := [(moC md sd (0) mst hn cn pn mq gn hnn hnn (0) mlt ln hcu htk hfr hti hfa hfb an un lc td mtn), (aI cI (md 31) 36 mliq), (aI cI (md 33) 36 mnlq), (aI cI (md 34) 300 mtp)]) [2, 0, 1, 3] (by decide +kernel) rfl
            exact W.iret (v := hnn) hx hb hr (fun t ht hW => ⟨⟨hnn, (hnn, mliq, hnn, mnlq, mlt, ln, hcu, htk, hfr, hti, hfa, hfb), rfl, (by show 0 ≤ hnn.toInt ∧ hnn.toInt ≤ 12; omega), by rw [ht]; exact hP9, va_K.moved hW.alike hK, hD9⟩, hS.F ht⟩) hS.2.2 dX11_duties_362
          · skip
            have f29 := i_nle c27
            refine lv_aload_n hx hb dX11_duties_340 rfl (lv_at hl 0 rfl) ?_
            refine va_get (D := D) (ci := 11) (v := .ref (md 31)) (C := RX11) (T := TX11) (N := 64) hx hb hts inX11_duties_X11 hown hK hP 2 rfl rfl 31 (by decide) (hts (Cond.fieldLink RX11 81 "PortRoomsModel" "line" "[I") (wm_t (wm_l (wm_l (wm_i 18 rfl))))) (fun _ h9 => h9) rfl dX11_duties_341 ?_
            refine lv_iload_n hx hb dX11_duties_344 rfl (lv_at hl 1 rfl) ?_
            refine lv_aload_n hx hb dX11_duties_345 rfl (lv_at hl 0 rfl) ?_
            refine va_get (D := D) (ci := 11) (v := .ref (md 33)) (C := RX11) (T := TX11) (N := 64) hx hb hts inX11_duties_X11 hown hK hP 2 rfl rfl 33 (by decide) (hts (Cond.fieldLink RX11 84 "PortRoomsModel" "newLine" "[I") (wm_t (wm_l (wm_l (wm_i 13 rfl))))) (fun _ h9 => h9) rfl dX11_duties_346 ?_
            refine lv_iload_n hx hb dX11_duties_349 rfl (lv_at hl 1 rfl) ?_
            refine va_iald hx hb hK hP 1 0 rfl rfl (i_in (by omega) (by omega)) dX11_duties_350 ?_
            refine lv_topi (fun v30 ev30 => ?_)
            refine va_iast hx hb hK hP hD hS 0 0 rfl rfl (i_in (by omega) (by omega)) dX11_duties_351 (fun H locs => ?_)
            clear hP hD hS
            intro hP hD hS
            replace hP : va_P D vwCl [(aI cI (md 31) 36 (upd mliq q334_1.toNatClampNeg v30)), (aI cI (md 33) 36 mnlq), (moC md sd (0) mst hn cn pn mq gn hnn hnn (0) mlt ln hcu htk hfr hti hfa hfb an un lc td mtn), (aI cI (md 34) 300 mtp)] H := hP
            replace hD : va_D A [(aI cI (md 31) 36 (upd mliq q334_1.toNatClampNeg v30)), (aI cI (md 33) 36 mnlq), (moC md sd (0) mst hn cn pn mq gn hnn hnn (0) mlt ln hcu htk hfr hti hfa hfb an un lc td mtn), (aI cI (md 34) 300 mtp)] := hD
            obtain ⟨v31, ev31⟩ : ∃ y : Int32, y = q334_1 + 1 := ⟨_, rfl⟩
            try have tv31 : v31.toInt = q334_1.toInt + 1 := by rw [ev31]; exact (i_add (x := q334_1) (y := (1 : Int32)) (by rw [k1]; omega) (by rw [k1]; omega)).trans (by rw [k1])
            refine lv_iinc (v := v31) (lv' := [(1, .int v31), (0, .ref (md 64))]) hx hb dX11_duties_352 hl (k := 1) rfl (by rw [ev31]; rfl) (by decide) rfl (fun ls hl => ?_)
            refine lv_goto (tgt := 334) hx hb dX11_duties_355 (by decide) ?_
            exact ih24 (v31, upd mliq q334_1.toNatClampNeg v30) ls H locs ⟨(by omega), (by omega), lv_sub hl [1, 0] rfl, hP.sub [0, 1, 2, 3] rfl, hD.sub [0, 1, 2, 3] (by decide +kernel) rfl, hS⟩ (by show 36 - v31.toInt < _; omega)
      · skip
        have f32 := i_nle c20
        refine lv_aload_n hx hb dX11_duties_307 rfl (lv_at hl 0 rfl) ?_
        refine lv_aload_n hx hb dX11_duties_308 rfl (lv_at hl 0 rfl) ?_
        refine va_get (D := D) (ci := 11) (v := .int hfa) (C := RX11) (T := TX11) (N := 64) hx hb hts inX11_duties_X11 hown hK hP 2 rfl rfl 42 (by decide) (hts (Cond.fieldLink RX11 271 "PortRoomsModel" "fault" "I") (wm_t (wm_l (wm_l (wm_i 4 rfl))))) (fun _ h9 => h9) rfl dX11_duties_309 ?_
        refine va_put (D := D) (ci := 11) (v := .int hfa) (ty := .int) (C := RX11) (T := TX11) (N := 64) hx hb hts inX11_duties_X11 tyX11 tyX11_ok nmX11 hown hK hP hD hS 2 rfl rfl 36 (by decide) (hts (Cond.fieldLink RX11 310 "PortRoomsModel" "latest" "I") (wm_t (wm_l (wm_l (wm_i 14 rfl))))) (fun _ h9 => h9) rfl (tyX11_ok 36 (by decide)) rfl rfl (Nat.le_of_ble_eq_true rfl) dX11_duties_312 (fun H locs => ?_)
        clear hP hD hS
        intro hP hD hS
        replace hP : va_P D vwCl [(aI cI (md 31) 36 mli), (aI cI (md 33) 36 mnlq), (moC md sd (0) mst hn cn pn mq gn mln hnn (0) hfa ln hcu htk hfr hti hfa hfb an un lc td mtn), (aI cI (md 34) 300 mtp)] H := hP
        replace hD : va_D A [(aI cI (md 31) 36 mli), (aI cI (md 33) 36 mnlq), (moC md sd (0) mst hn cn pn mq gn mln hnn (0) hfa ln hcu htk hfr hti hfa hfb an un lc td mtn), (aI cI (md 34) 300 mtp)] := hD
        refine lv_ldcw hx hb hown (hts (Cond.constant RX11 313 (-1000100)) (wm_t (wm_l (wm_l (wm_i 15 rfl))))) dX11_duties_315 ?_
        refine lv_aload_n hx hb dX11_duties_318 rfl (lv_at hl 0 rfl) ?_
        refine va_get (D := D) (ci := 11) (v := .int hfb) (C := RX11) (T := TX11) (N := 64) hx hb hts inX11_duties_X11 hown hK hP 2 rfl rfl 43 (by decide) (hts (Cond.fieldLink RX11 274 "PortRoomsModel" "faultAt" "I") (wm_t (wm_l (wm_l (wm_i 16 rfl))))) (fun _ h9 => h9) rfl dX11_duties_319 ?_
        refine lv_isub hx hb dX11_duties_322 ?_
        refine lv_topi (fun v33 ev33 => ?_)
        have hP9 := hP.sub (ws' := [(moC md sd (0) mst hn cn pn mq gn mln hnn (0) hfa ln hcu htk hfr hti hfa hfb an un lc td mtn), (aI cI (md 31) 36 mli), (aI cI (md 33) 36 mnlq), (aI cI (md 34) 300 mtp)]) [2, 0, 1, 3] rfl
        have hD9 := hD.sub (ws' := [(moC md sd (0) mst hn cn pn mq gn mln hnn (0) hfa ln hcu htk hfr hti hfa hfb an un lc td mtn), (aI cI (md 31) 36 mli), (aI cI (md 33) 36 mnlq), (aI cI (md 34) 300 mtp)]) [2, 0, 1, 3] (by decide +kernel) rfl
        exact W.iret (v := v33) hx hb hr (fun t ht hW => ⟨⟨v33, (mln, mli, hnn, mnlq, hfa, ln, hcu, htk, hfr, hti, hfa, hfb), rfl, (by show 0 ≤ mln.toInt ∧ mln.toInt ≤ 12; omega), by rw [ht]; exact hP9, va_K.moved hW.alike hK, hD9⟩, hS.F ht⟩) hS.2.2 dX11_duties_323
    · skip
      have f34 := i_eq c18
      refine lv_aload_n hx hb dX11_duties_44 rfl (lv_at hl 0 rfl) ?_
      refine va_get (D := D) (ci := 11) (v := .int htk) (C := RX11) (T := TX11) (N := 64) hx hb hts inX11_duties_X11 hown hK hP 2 rfl rfl 39 (by decide) (hts (Cond.fieldLink RX11 259 "PortRoomsModel" "token" "I") (wm_t (wm_l (wm_l (wm_i 6 rfl))))) (fun _ h9 => h9) rfl dX11_duties_45 ?_
      refine lv_iconst (v := 1) hx hb dX11_duties_48 (by decide) ?_
      refine lv_icmp_eq (tgt := 300) hx hb dX11_duties_49 (by decide) (fun c35 => ?_) (fun c35 => ?_)
      · skip
        have f36 := i_eq c35
        refine lv_aload_n hx hb dX11_duties_300 rfl (lv_at hl 0 rfl) ?_
        refine va_get (D := D) (ci := 11) (v := .int hfa) (C := RX11) (T := TX11) (N := 64) hx hb hts inX11_duties_X11 hown hK hP 2 rfl rfl 42 (by decide) (hts (Cond.fieldLink RX11 271 "PortRoomsModel" "fault" "I") (wm_t (wm_l (wm_l (wm_i 4 rfl))))) (fun _ h9 => h9) rfl dX11_duties_301 ?_
        refine lv_if_le (tgt := 324) hx hb dX11_duties_304 (by decide) (fun c37 => ?_) (fun c37 => ?_)
        · skip
          have f38 := i_le c37
          refine lv_aload_n hx hb dX11_duties_324 rfl (lv_at hl 0 rfl) ?_
          refine lv_aload_n hx hb dX11_duties_325 rfl (lv_at hl 0 rfl) ?_
          refine va_get (D := D) (ci := 11) (v := .int hnn) (C := RX11) (T := TX11) (N := 64) hx hb hts inX11_duties_X11 hown hK hP 2 rfl rfl 32 (by decide) (hts (Cond.fieldLink RX11 287 "PortRoomsModel" "newLines" "I") (wm_t (wm_l (wm_l (wm_i 5 rfl))))) (fun _ h9 => h9) rfl dX11_duties_326 ?_
          refine va_put (D := D) (ci := 11) (v := .int hnn) (ty := .int) (C := RX11) (T := TX11) (N := 64) hx hb hts inX11_duties_X11 tyX11 tyX11_ok nmX11 hown hK hP hD hS 2 rfl rfl 30 (by decide) (hts (Cond.fieldLink RX11 314 "PortRoomsModel" "lines" "I") (wm_t (wm_l (wm_l (wm_i 17 rfl))))) (fun _ h9 => h9) rfl (tyX11_ok 30 (by decide)) rfl rfl (Nat.le_of_ble_eq_true rfl) dX11_duties_329 (fun H locs => ?_)
          clear hP hD hS
          intro hP hD hS
          replace hP : va_P D vwCl [(aI cI (md 31) 36 mli), (aI cI (md 33) 36 mnlq), (moC md sd (0) mst hn cn pn mq gn hnn hnn (0) mlt ln hcu htk hfr hti hfa hfb an un lc td mtn), (aI cI (md 34) 300 mtp)] H := hP
          replace hD : va_D A [(aI cI (md 31) 36 mli), (aI cI (md 33) 36 mnlq), (moC md sd (0) mst hn cn pn mq gn hnn hnn (0) mlt ln hcu htk hfr hti hfa hfb an un lc td mtn), (aI cI (md 34) 300 mtp)] := hD
          refine lv_iconst (v := 0) hx hb dX11_duties_332 (by decide) ?_
          refine lv_istore_n (lv' := [(1, .int 0), (0, .ref (md 64))]) hx hb dX11_duties_333 rfl hl (by decide) rfl (fun ls hl => ?_)
          refine st_loop 334 (fun _ => []) (fun (z : Int32 × (Nat → Int32)) (ls : Array Slot) (H : Heap) (locs : List Loc) => match z with | (q334_1, mliq) => (0 ≤ q334_1.toInt) ∧ (q334_1.toInt ≤ 36) ∧ lv_has ls 6 [(0, .ref (md 64)), (1, .int q334_1)] ∧ va_P D vwCl [(aI cI (md 31) 36 mliq), (aI cI (md 33) 36 mnlq), (moC md sd (0) mst hn cn pn mq gn hnn hnn (0) mlt ln hcu htk hfr hti hfa hfb an un lc td mtn), (aI cI (md 34) 300 mtp)] H ∧ va_D A [(aI cI (md 31) 36 mliq), (aI cI (md 33) 36 mnlq), (moC md sd (0) mst hn cn pn mq gn hnn hnn (0) mlt ln hcu htk hfr hti hfa hfb an un lc td mtn), (aI cI (md 34) 300 mtp)] ∧ va_S A s.heap H locs) (fun (z : Int32 × (Nat → Int32)) => match z with | (q334_1, mliq) => 36 - q334_1.toInt) ?_ ?_ ((0 : Int32), mli) ⟨(by omega), (by omega), lv_sub hl [1, 0] rfl, hP, hD, hS⟩
          · rintro ⟨q334_1, mliq⟩ ls H locs ⟨g39, g40, hl, hP, hD, hS⟩
            show (0 : Int) ≤ 36 - q334_1.toInt
            omega
          · rintro n43 ih41 ⟨q334_1, mliq⟩ ls H locs ⟨g39, g40, hl, hP, hD, hS⟩ hm42
            have hm42 : 36 - q334_1.toInt < (n43 : Int) + 1 := hm42
            replace hl : lv_has ls 6 [(0, .ref (md 64)), (1, .int q334_1)] := hl
            replace hP : va_P D vwCl [(aI cI (md 31) 36 mliq), (aI cI (md 33) 36 mnlq), (moC md sd (0) mst hn cn pn mq gn hnn hnn (0) mlt ln hcu htk hfr hti hfa hfb an un lc td mtn), (aI cI (md 34) 300 mtp)] H := hP
            replace hD : va_D A [(aI cI (md 31) 36 mliq), (aI cI (md 33) 36 mnlq), (moC md sd (0) mst hn cn pn mq gn hnn hnn (0) mlt ln hcu htk hfr hti hfa hfb an un lc td mtn), (aI cI (md 34) 300 mtp)] := hD
            show W _ _ _ _ _ _ _ _ _ _ _ _ _ _ _ (F0 m 334 ls [])
            refine lv_iload_n hx hb dX11_duties_334 rfl (lv_at hl 1 rfl) ?_
            refine lv_bipush (v := 36) hx hb dX11_duties_335 (by decide) ?_
            refine lv_icmp_ge (tgt := 358) hx hb dX11_duties_337 (by decide) (fun c44 => ?_) (fun c44 => ?_)
            · skip
              have f45 := i_le c44
              refine lv_aload_n hx hb dX11_duties_358 rfl (lv_at hl 0 rfl) ?_
              refine va_get (D := D) (ci := 11) (v := .int hnn) (C := RX11) (T := TX11) (N := 64) hx hb hts inX11_duties_X11 hown hK hP 2 rfl rfl 30 (by decide) (hts (Cond.fieldLink RX11 314 "PortRoomsModel" "lines" "I") (wm_t (wm_l (wm_l (wm_i 17 rfl))))) (fun _ h9 => h9) rfl dX11_duties_359 ?_
              have hP9 := hP.sub (ws' := [(moC md sd (0) mst hn cn pn mq gn hnn hnn (0) mlt ln hcu htk hfr hti hfa hfb an un lc td mtn), (aI cI (md 31) 36 mliq), (aI cI (md 33) 36 mnlq), (aI cI (md 34) 300 mtp)]) [2, 0, 1, 3] rfl
              have hD9 := hD.sub (ws' := [(moC md sd (0) mst hn cn pn mq gn hnn hnn (0) mlt ln hcu htk hfr hti hfa hfb an un lc td mtn), (aI cI (md 31) 36 mliq), (aI cI (md 33) 36 mnlq), (aI cI (md 34) 300 mtp)]) [2, 0, 1, 3] (by decide +kernel) rfl
              exact W.iret (v := hnn) hx hb hr (fun t ht hW => ⟨⟨hnn, (hnn, mliq, hnn, mnlq, mlt, ln, hcu, htk, hfr, hti, hfa, hfb), rfl, (by show 0 ≤ hnn.toInt ∧ hnn.toInt ≤ 12; omega), by rw [ht]; exact hP9, va_K.moved hW.alike hK, hD9⟩, hS.F ht⟩) hS.2.2 dX11_duties_362
            · skip
              have f46 := i_nle c44
              refine lv_aload_n hx hb dX11_duties_340 rfl (lv_at hl 0 rfl) ?_
              refine va_get (D := D) (ci := 11) (v := .ref (md 31)) (C := RX11) (T := TX11) (N := 64) hx hb hts inX11_duties_X11 hown hK hP 2 rfl rfl 31 (by decide) (hts (Cond.fieldLink RX11 81 "PortRoomsModel" "line" "[I") (wm_t (wm_l (wm_l (wm_i 18 rfl))))) (fun _ h9 => h9) rfl dX11_duties_341 ?_
              refine lv_iload_n hx hb dX11_duties_344 rfl (lv_at hl 1 rfl) ?_
              refine lv_aload_n hx hb dX11_duties_345 rfl (lv_at hl 0 rfl) ?_
              refine va_get (D := D) (ci := 11) (v := .ref (md 33)) (C := RX11) (T := TX11) (N := 64) hx hb hts inX11_duties_X11 hown hK hP 2 rfl rfl 33 (by decide) (hts (Cond.fieldLink RX11 84 "PortRoomsModel" "newLine" "[I") (wm_t (wm_l (wm_l (wm_i 13 rfl))))) (fun _ h9 => h9) rfl dX11_duties_346 ?_
              refine lv_iload_n hx hb dX11_duties_349 rfl (lv_at hl 1 rfl) ?_
              refine va_iald hx hb hK hP 1 0 rfl rfl (i_in (by omega) (by omega)) dX11_duties_350 ?_
              refine lv_topi (fun v47 ev47 => ?_)
              refine va_iast hx hb hK hP hD hS 0 0 rfl rfl (i_in (by omega) (by omega)) dX11_duties_351 (fun H locs => ?_)
              clear hP hD hS
              intro hP hD hS
              replace hP : va_P D vwCl [(aI cI (md 31) 36 (upd mliq q334_1.toNatClampNeg v47)), (aI cI (md 33) 36 mnlq), (moC md sd (0) mst hn cn pn mq gn hnn hnn (0) mlt ln hcu htk hfr hti hfa hfb an un lc td mtn), (aI cI (md 34) 300 mtp)] H := hP
              replace hD : va_D A [(aI cI (md 31) 36 (upd mliq q334_1.toNatClampNeg v47)), (aI cI (md 33) 36 mnlq), (moC md sd (0) mst hn cn pn mq gn hnn hnn (0) mlt ln hcu htk hfr hti hfa hfb an un lc td mtn), (aI cI (md 34) 300 mtp)] := hD
              obtain ⟨v48, ev48⟩ : ∃ y : Int32, y = q334_1 + 1 := ⟨_, rfl⟩
              try have tv48 : v48.toInt = q334_1.toInt + 1 := by rw [ev48]; exact (i_add (x := q334_1) (y := (1 : Int32)) (by rw [k1]; omega) (by rw [k1]; omega)).trans (by rw [k1])
              refine lv_iinc (v := v48) (lv' := [(1, .int v48), (0, .ref (md 64))]) hx hb dX11_duties_352 hl (k := 1) rfl (by rw [ev48]; rfl) (by decide) rfl (fun ls hl => ?_)
              refine lv_goto (tgt := 334) hx hb dX11_duties_355 (by decide) ?_
              exact ih41 (v48, upd mliq q334_1.toNatClampNeg v47) ls H locs ⟨(by omega), (by omega), lv_sub hl [1, 0] rfl, hP.sub [0, 1, 2, 3] rfl, hD.sub [0, 1, 2, 3] (by decide +kernel) rfl, hS⟩ (by show 36 - v48.toInt < _; omega)
        · skip
          have f49 := i_nle c37
          refine lv_aload_n hx hb dX11_duties_307 rfl (lv_at hl 0 rfl) ?_
          refine lv_aload_n hx hb dX11_duties_308 rfl (lv_at hl 0 rfl) ?_
          refine va_get (D := D) (ci := 11) (v := .int hfa) (C := RX11) (T := TX11) (N := 64) hx hb hts inX11_duties_X11 hown hK hP 2 rfl rfl 42 (by decide) (hts (Cond.fieldLink RX11 271 "PortRoomsModel" "fault" "I") (wm_t (wm_l (wm_l (wm_i 4 rfl))))) (fun _ h9 => h9) rfl dX11_duties_309 ?_
          refine va_put (D := D) (ci := 11) (v := .int hfa) (ty := .int) (C := RX11) (T := TX11) (N := 64) hx hb hts inX11_duties_X11 tyX11 tyX11_ok nmX11 hown hK hP hD hS 2 rfl rfl 36 (by decide) (hts (Cond.fieldLink RX11 310 "PortRoomsModel" "latest" "I") (wm_t (wm_l (wm_l (wm_i 14 rfl))))) (fun _ h9 => h9) rfl (tyX11_ok 36 (by decide)) rfl rfl (Nat.le_of_ble_eq_true rfl) dX11_duties_312 (fun H locs => ?_)
          clear hP hD hS
          intro hP hD hS
          replace hP : va_P D vwCl [(aI cI (md 31) 36 mli), (aI cI (md 33) 36 mnlq), (moC md sd (0) mst hn cn pn mq gn mln hnn (0) hfa ln hcu htk hfr hti hfa hfb an un lc td mtn), (aI cI (md 34) 300 mtp)] H := hP
          replace hD : va_D A [(aI cI (md 31) 36 mli), (aI cI (md 33) 36 mnlq), (moC md sd (0) mst hn cn pn mq gn mln hnn (0) hfa ln hcu htk hfr hti hfa hfb an un lc td mtn), (aI cI (md 34) 300 mtp)] := hD
          refine lv_ldcw hx hb hown (hts (Cond.constant RX11 313 (-1000100)) (wm_t (wm_l (wm_l (wm_i 15 rfl))))) dX11_duties_315 ?_
          refine lv_aload_n hx hb dX11_duties_318 rfl (lv_at hl 0 rfl) ?_
          refine va_get (D := D) (ci := 11) (v := .int hfb) (C := RX11) (T := TX11) (N := 64) hx hb hts inX11_duties_X11 hown hK hP 2 rfl rfl 43 (by decide) (hts (Cond.fieldLink RX11 274 "PortRoomsModel" "faultAt" "I") (wm_t (wm_l (wm_l (wm_i 16 rfl))))) (fun _ h9 => h9) rfl dX11_duties_319 ?_
          refine lv_isub hx hb dX11_duties_322 ?_
          refine lv_topi (fun v50 ev50 => ?_)
          have hP9 := hP.sub (ws' := [(moC md sd (0) mst hn cn pn mq gn mln hnn (0) hfa ln hcu htk hfr hti hfa hfb an un lc td mtn), (aI cI (md 31) 36 mli), (aI cI (md 33) 36 mnlq), (aI cI (md 34) 300 mtp)]) [2, 0, 1, 3] rfl
          have hD9 := hD.sub (ws' := [(moC md sd (0) mst hn cn pn mq gn mln hnn (0) hfa ln hcu htk hfr hti hfa hfb an un lc td mtn), (aI cI (md 31) 36 mli), (aI cI (md 33) 36 mnlq), (aI cI (md 34) 300 mtp)]) [2, 0, 1, 3] (by decide +kernel) rfl
          exact W.iret (v := v50) hx hb hr (fun t ht hW => ⟨⟨v50, (mln, mli, hnn, mnlq, hfa, ln, hcu, htk, hfr, hti, hfa, hfb), rfl, (by show 0 ≤ mln.toInt ∧ mln.toInt ≤ 12; omega), by rw [ht]; exact hP9, va_K.moved hW.alike hK, hD9⟩, hS.F ht⟩) hS.2.2 dX11_duties_323
      · skip
        have f51 := i_ne c35
        refine lv_aload_n hx hb dX11_duties_52 rfl (lv_at hl 0 rfl) ?_
        refine st_l1 (va_runV (C := RX11) (As := []) (rest := []) ⟨hx, hb, hml, hown, hts⟩ (ct_X11_word l D cI cY cJ cQ _ md sd 0 mst hn cn pn mq gn mln hnn 0 mlt ln hcu htk hfr hti hfa hfb an un lc td mtn mtp (by omega) (by omega) (by omega)) (cwV 0 hts gX11_duties_X11_word rfl rfl rfl ⟨rfl, cdX11_word⟩ ⟨Nat.le_of_ble_eq_true rfl, Nat.le_of_ble_eq_true rfl⟩) (cPreV (hP.sub [2, 3] rfl) hK (hD.sub [2, 3] (by decide +kernel) rfl) hN (ci := 11) (q0 := 0) rfl rfl) rfl rfl hl.1 rfl (lv_room (Nat.le_of_ble_eq_true rfl)) dX11_duties_53 ⟨Nat.le_of_ble_eq_true rfl, Nat.le_of_ble_eq_true rfl⟩) hP hD hS hA [2, 3] rfl (fun _ => rfl) (fun r54 u52 H locs hw53 => ?_)
        clear hP hS
        intro hP hS
        replace hw53 : True := hw53
        refine lv_lstore_n (lv' := [(1, .long r54), (0, .ref (md 64))]) hx hb dX11_duties_56 rfl hl (by decide) rfl (fun ls hl => ?_)
        refine st_join 107 (fun (sk55 : Int32) => [.int sk55]) (fun (sk55 : Int32) (ls : Array Slot) (H : Heap) (locs : List Loc) => lv_has ls 6 [(0, .ref (md 64))] ∧ va_P D vwCl [(aI cI (md 31) 36 mli), (aI cI (md 33) 36 mnlq), (moC md sd (0) mst hn cn pn mq gn mln hnn (0) mlt ln hcu htk hfr hti hfa hfb an un lc td mtn), (aI cI (md 34) 300 mtp)] H ∧ va_D A [(aI cI (md 31) 36 mli), (aI cI (md 33) 36 mnlq), (moC md sd (0) mst hn cn pn mq gn mln hnn (0) mlt ln hcu htk hfr hti hfa hfb an un lc td mtn), (aI cI (md 34) 300 mtp)] ∧ va_S A s.heap H locs) ?_ ?_
        · rintro sk55 ls H locs ⟨hl, hP, hD, hS⟩
          replace hl : lv_has ls 6 [(0, .ref (md 64))] := hl
          replace hP : va_P D vwCl [(aI cI (md 31) 36 mli), (aI cI (md 33) 36 mnlq), (moC md sd (0) mst hn cn pn mq gn mln hnn (0) mlt ln hcu htk hfr hti hfa hfb an un lc td mtn), (aI cI (md 34) 300 mtp)] H := hP
          replace hD : va_D A [(aI cI (md 31) 36 mli), (aI cI (md 33) 36 mnlq), (moC md sd (0) mst hn cn pn mq gn mln hnn (0) mlt ln hcu htk hfr hti hfa hfb an un lc td mtn), (aI cI (md 34) 300 mtp)] := hD
          show W _ _ _ _ _ _ _ _ _ _ _ _ _ _ _ (F0 m 107 ls [.int sk55])
          refine lv_istore_n (lv' := [(3, .int sk55), (0, .ref (md 64))]) hx hb dX11_duties_107 rfl hl (by decide) rfl (fun ls hl => ?_)
          refine st_join 128 (fun (z : Int32 × Int32) => match z with | (jfa, jfb) => []) (fun (z : Int32 × Int32) (ls : Array Slot) (H : Heap) (locs : List Loc) => match z with | (jfa, jfb) => ((jfa.toInt = 0 ∧ (sk55.toInt = -1000000 ∨ ¬ hnn.toInt = 12)) ∨ ¬ jfa.toInt = 0) ∧ lv_has ls 6 [(0, .ref (md 64)), (3, .int sk55)] ∧ va_P D vwCl [(aI cI (md 31) 36 mli), (aI cI (md 33) 36 mnlq), (moC md sd (0) mst hn cn pn mq gn mln hnn (0) mlt ln hcu htk hfr hti jfa jfb an un lc td mtn), (aI cI (md 34) 300 mtp)] H ∧ va_D A [(aI cI (md 31) 36 mli), (aI cI (md 33) 36 mnlq), (moC md sd (0) mst hn cn pn mq gn mln hnn (0) mlt ln hcu htk hfr hti jfa jfb an un lc td mtn), (aI cI (md 34) 300 mtp)] ∧ va_S A s.heap H locs) ?_ ?_
          · rintro ⟨jfa, jfb⟩ ls H locs ⟨g57, hl, hP, hD, hS⟩
            replace hl : lv_has ls 6 [(0, .ref (md 64)), (3, .int sk55)] := hl
            replace hP : va_P D vwCl [(aI cI (md 31) 36 mli), (aI cI (md 33) 36 mnlq), (moC md sd (0) mst hn cn pn mq gn mln hnn (0) mlt ln hcu htk hfr hti jfa jfb an un lc td mtn), (aI cI (md 34) 300 mtp)] H := hP
            replace hD : va_D A [(aI cI (md 31) 36 mli), (aI cI (md 33) 36 mnlq), (moC md sd (0) mst hn cn pn mq gn mln hnn (0) mlt ln hcu htk hfr hti jfa jfb an un lc td mtn), (aI cI (md 34) 300 mtp)] := hD
            show W _ _ _ _ _ _ _ _ _ _ _ _ _ _ _ (F0 m 128 ls [])
            refine st_join 143 (fun (z : Int32 × Int32 × Int32 × Int32 × Int32 × Int32) => match z with | (kcu, ktk, kfr, kti, kfa, kfb) => []) (fun (z : Int32 × Int32 × Int32 × Int32 × Int32 × Int32) (ls : Array Slot) (H : Heap) (locs : List Loc) => match z with | (kcu, ktk, kfr, kti, kfa, kfb) => (0 ≤ kfr.toInt) ∧ (kfr.toInt ≤ kcu.toInt) ∧ (kcu.toInt ≤ ln.toInt) ∧ (kti.toInt = kcu.toInt) ∧ (¬ kfa.toInt = 0 ∨ ktk.toInt = 1 ∨ kfr.toInt < kcu.toInt) ∧ (hfr.toInt ≤ kfr.toInt) ∧ (¬ kfa.toInt = 0 ∨ (¬ hnn.toInt = 12 ∧ hfr.toInt < kfr.toInt)) ∧ lv_has ls 6 [(0, .ref (md 64)), (3, .int sk55)] ∧ va_P D vwCl [(aI cI (md 31) 36 mli), (aI cI (md 33) 36 mnlq), (moC md sd (0) mst hn cn pn mq gn mln hnn (0) mlt ln kcu ktk kfr kti kfa kfb an un lc td mtn), (aI cI (md 34) 300 mtp)] H ∧ va_D A [(aI cI (md 31) 36 mli), (aI cI (md 33) 36 mnlq), (moC md sd (0) mst hn cn pn mq gn mln hnn (0) mlt ln kcu ktk kfr kti kfa kfb an un lc td mtn), (aI cI (md 34) 300 mtp)] ∧ va_S A s.heap H locs) ?_ ?_
            · rintro ⟨kcu, ktk, kfr, kti, kfa, kfb⟩ ls H locs ⟨g59, g60, g61, g62, g63, g64, g65, hl, hP, hD, hS⟩
              replace hl : lv_has ls 6 [(0, .ref (md 64)), (3, .int sk55)] := hl
              replace hP : va_P D vwCl [(aI cI (md 31) 36 mli), (aI cI (md 33) 36 mnlq), (moC md sd (0) mst hn cn pn mq gn mln hnn (0) mlt ln kcu ktk kfr kti kfa kfb an un lc td mtn), (aI cI (md 34) 300 mtp)] H := hP
              replace hD : va_D A [(aI cI (md 31) 36 mli), (aI cI (md 33) 36 mnlq), (moC md sd (0) mst hn cn pn mq gn mln hnn (0) mlt ln kcu ktk kfr kti kfa kfb an un lc td mtn), (aI cI (md 34) 300 mtp)] := hD
              show W _ _ _ _ _ _ _ _ _ _ _ _ _ _ _ (F0 m 143 ls [])
              refine lv_iconst (v := (-1)) hx hb dX11_duties_143 (by decide) ?_
              refine lv_istore (lv' := [(4, .int (-1)), (0, .ref (md 64)), (3, .int sk55)]) hx hb dX11_duties_144 hl (by decide) rfl (fun ls hl => ?_)
              refine st_join 175 (fun (z : Int32 × Int32 × Int32 × Int32 × Int32 × Int32 × Int32) => match z with | (jdays, lcu, ltk, lfr, lti, lfa, lfb) => []) (fun (z : Int32 × Int32 × Int32 × Int32 × Int32 × Int32 × Int32) (ls : Array Slot) (H : Heap) (locs : List Loc) => match z with | (jdays, lcu, ltk, lfr, lti, lfa, lfb) => (0 ≤ lfr.toInt) ∧ (lfr.toInt ≤ lcu.toInt) ∧ (lcu.toInt ≤ ln.toInt) ∧ (lti.toInt = lcu.toInt) ∧ (¬ lfa.toInt = 0 ∨ ltk.toInt = 1 ∨ lfr.toInt < lcu.toInt) ∧ (hfr.toInt ≤ lfr.toInt) ∧ (¬ lfa.toInt = 0 ∨ (¬ hnn.toInt = 12 ∧ hfr.toInt < lfr.toInt)) ∧ lv_has ls 6 [(0, .ref (md 64)), (3, .int sk55), (4, .int jdays)] ∧ va_P D vwCl [(aI cI (md 31) 36 mli), (aI cI (md 33) 36 mnlq), (moC md sd (0) mst hn cn pn mq gn mln hnn (0) mlt ln lcu ltk lfr lti lfa lfb an un lc td mtn), (aI cI (md 34) 300 mtp)] H ∧ va_D A [(aI cI (md 31) 36 mli), (aI cI (md 33) 36 mnlq), (moC md sd (0) mst hn cn pn mq gn mln hnn (0) mlt ln lcu ltk lfr lti lfa lfb an un lc td mtn), (aI cI (md 34) 300 mtp)] ∧ va_S A s.heap H locs) ?_ ?_
              · rintro ⟨jdays, lcu, ltk, lfr, lti, lfa, lfb⟩ ls H locs ⟨g67, g68, g69, g70, g71, g72, g73, hl, hP, hD, hS⟩
                replace hl : lv_has ls 6 [(0, .ref (md 64)), (3, .int sk55), (4, .int jdays)] := hl
                replace hP : va_P D vwCl [(aI cI (md 31) 36 mli), (aI cI (md 33) 36 mnlq), (moC md sd (0) mst hn cn pn mq gn mln hnn (0) mlt ln lcu ltk lfr lti lfa lfb an un lc td mtn), (aI cI (md 34) 300 mtp)] H := hP
                replace hD : va_D A [(aI cI (md 31) 36 mli), (aI cI (md 33) 36 mnlq), (moC md sd (0) mst hn cn pn mq gn mln hnn (0) mlt ln lcu ltk lfr lti lfa lfb an un lc td mtn), (aI cI (md 34) 300 mtp)] := hD
                show W _ _ _ _ _ _ _ _ _ _ _ _ _ _ _ (F0 m 175 ls [])
                refine st_join 202 (fun (z : Int32 × Int32 × Int32 × Int32 × Int32 × Int32) => match z with | (ocu, otk, ofr, oti, ofa, ofb) => []) (fun (z : Int32 × Int32 × Int32 × Int32 × Int32 × Int32) (ls : Array Slot) (H : Heap) (locs : List Loc) => match z with | (ocu, otk, ofr, oti, ofa, ofb) => (0 ≤ ofr.toInt) ∧ (ofr.toInt ≤ ocu.toInt) ∧ (ocu.toInt ≤ ln.toInt) ∧ (oti.toInt = ocu.toInt) ∧ (¬ ofa.toInt = 0 ∨ otk.toInt = 1 ∨ ofr.toInt < ocu.toInt) ∧ (hfr.toInt ≤ ofr.toInt) ∧ (¬ ofa.toInt = 0 ∨ (¬ hnn.toInt = 12 ∧ hfr.toInt < ofr.toInt)) ∧ lv_has ls 6 [(0, .ref (md 64)), (3, .int sk55), (4, .int jdays)] ∧ va_P D vwCl [(aI cI (md 31) 36 mli), (aI cI (md 33) 36 mnlq), (moC md sd (0) mst hn cn pn mq gn mln hnn (0) mlt ln ocu otk ofr oti ofa ofb an un lc td mtn), (aI cI (md 34) 300 mtp)] H ∧ va_D A [(aI cI (md 31) 36 mli), (aI cI (md 33) 36 mnlq), (moC md sd (0) mst hn cn pn mq gn mln hnn (0) mlt ln ocu otk ofr oti ofa ofb an un lc td mtn), (aI cI (md 34) 300 mtp)] ∧ va_S A s.heap H locs) ?_ ?_
                · rintro ⟨ocu, otk, ofr, oti, ofa, ofb⟩ ls H locs ⟨g75, g76, g77, g78, g79, g80, g81, hl, hP, hD, hS⟩
                  replace hl : lv_has ls 6 [(0, .ref (md 64)), (3, .int sk55), (4, .int jdays)] := hl
                  replace hP : va_P D vwCl [(aI cI (md 31) 36 mli), (aI cI (md 33) 36 mnlq), (moC md sd (0) mst hn cn pn mq gn mln hnn (0) mlt ln ocu otk ofr oti ofa ofb an un lc td mtn), (aI cI (md 34) 300 mtp)] H := hP
                  replace hD : va_D A [(aI cI (md 31) 36 mli), (aI cI (md 33) 36 mnlq), (moC md sd (0) mst hn cn pn mq gn mln hnn (0) mlt ln ocu otk ofr oti ofa ofb an un lc td mtn), (aI cI (md 34) 300 mtp)] := hD
                  show W _ _ _ _ _ _ _ _ _ _ _ _ _ _ _ (F0 m 202 ls [])
                  refine st_join 219 (fun (z : Int32 × Int32 × Int32 × Int32 × Int32 × Int32 × Int32) => match z with | (pcu, ptk, pfr, pti, pfa, pfb, sk83) => [.int sk83]) (fun (z : Int32 × Int32 × Int32 × Int32 × Int32 × Int32 × Int32) (ls : Array Slot) (H : Heap) (locs : List Loc) => match z with | (pcu, ptk, pfr, pti, pfa, pfb, sk83) => (0 ≤ pfr.toInt) ∧ (pfr.toInt ≤ pcu.toInt) ∧ (pcu.toInt ≤ ln.toInt) ∧ (pti.toInt = pcu.toInt) ∧ (¬ pfa.toInt = 0 ∨ ptk.toInt = 1 ∨ pfr.toInt < pcu.toInt) ∧ (hfr.toInt ≤ pfr.toInt) ∧ (¬ pfa.toInt = 0 ∨ (¬ hnn.toInt = 12 ∧ hfr.toInt < pfr.toInt)) ∧ lv_has ls 6 [(0, .ref (md 64)), (3, .int sk55), (4, .int jdays)] ∧ va_P D vwCl [(aI cI (md 31) 36 mli), (aI cI (md 33) 36 mnlq), (moC md sd (0) mst hn cn pn mq gn mln hnn (0) mlt ln pcu ptk pfr pti pfa pfb an un lc td mtn), (aI cI (md 34) 300 mtp)] H ∧ va_D A [(aI cI (md 31) 36 mli), (aI cI (md 33) 36 mnlq), (moC md sd (0) mst hn cn pn mq gn mln hnn (0) mlt ln pcu ptk pfr pti pfa pfb an un lc td mtn), (aI cI (md 34) 300 mtp)] ∧ va_S A s.heap H locs) ?_ ?_
                  · rintro ⟨pcu, ptk, pfr, pti, pfa, pfb, sk83⟩ ls H locs ⟨g84, g85, g86, g87, g88, g89, g90, hl, hP, hD, hS⟩
                    replace hl : lv_has ls 6 [(0, .ref (md 64)), (3, .int sk55), (4, .int jdays)] := hl
                    replace hP : va_P D vwCl [(aI cI (md 31) 36 mli), (aI cI (md 33) 36 mnlq), (moC md sd (0) mst hn cn pn mq gn mln hnn (0) mlt ln pcu ptk pfr pti pfa pfb an un lc td mtn), (aI cI (md 34) 300 mtp)] H := hP
                    replace hD : va_D A [(aI cI (md 31) 36 mli), (aI cI (md 33) 36 mnlq), (moC md sd (0) mst hn cn pn mq gn mln hnn (0) mlt ln pcu ptk pfr pti pfa pfb an un lc td mtn), (aI cI (md 34) 300 mtp)] := hD
                    show W _ _ _ _ _ _ _ _ _ _ _ _ _ _ _ (F0 m 219 ls [.int sk83])
                    refine lv_istore (lv' := [(5, .int sk83), (0, .ref (md 64)), (3, .int sk55), (4, .int jdays)]) hx hb dX11_duties_219 hl (by decide) rfl (fun ls hl => ?_)
                    refine st_join 238 (fun (z : Int32 × Int32 × Int32 × Int32 × Int32 × Int32) => match z with | (ycu, ytk, yfr, yti, yfa, yfb) => []) (fun (z : Int32 × Int32 × Int32 × Int32 × Int32 × Int32) (ls : Array Slot) (H : Heap) (locs : List Loc) => match z with | (ycu, ytk, yfr, yti, yfa, yfb) => (0 ≤ yfr.toInt) ∧ (yfr.toInt ≤ ycu.toInt) ∧ (ycu.toInt ≤ ln.toInt) ∧ (yti.toInt = ycu.toInt) ∧ (¬ yfa.toInt = 0 ∨ ytk.toInt = 1 ∨ yfr.toInt < ycu.toInt) ∧ (hfr.toInt ≤ yfr.toInt) ∧ (¬ yfa.toInt = 0 ∨ (¬ hnn.toInt = 12 ∧ hfr.toInt < yfr.toInt)) ∧ lv_has ls 6 [(0, .ref (md 64)), (3, .int sk55), (4, .int jdays), (5, .int sk83)] ∧ va_P D vwCl [(aI cI (md 31) 36 mli), (aI cI (md 33) 36 mnlq), (moC md sd (0) mst hn cn pn mq gn mln hnn (0) mlt ln ycu ytk yfr yti yfa yfb an un lc td mtn), (aI cI (md 34) 300 mtp)] H ∧ va_D A [(aI cI (md 31) 36 mli), (aI cI (md 33) 36 mnlq), (moC md sd (0) mst hn cn pn mq gn mln hnn (0) mlt ln ycu ytk yfr yti yfa yfb an un lc td mtn), (aI cI (md 34) 300 mtp)] ∧ va_S A s.heap H locs) ?_ ?_
                    · rintro ⟨ycu, ytk, yfr, yti, yfa, yfb⟩ ls H locs ⟨g92, g93, g94, g95, g96, g97, g98, hl, hP, hD, hS⟩
                      replace hl : lv_has ls 6 [(0, .ref (md 64)), (3, .int sk55), (4, .int jdays), (5, .int sk83)] := hl
                      replace hP : va_P D vwCl [(aI cI (md 31) 36 mli), (aI cI (md 33) 36 mnlq), (moC md sd (0) mst hn cn pn mq gn mln hnn (0) mlt ln ycu ytk yfr yti yfa yfb an un lc td mtn), (aI cI (md 34) 300 mtp)] H := hP
                      replace hD : va_D A [(aI cI (md 31) 36 mli), (aI cI (md 33) 36 mnlq), (moC md sd (0) mst hn cn pn mq gn mln hnn (0) mlt ln ycu ytk yfr yti yfa yfb an un lc td mtn), (aI cI (md 34) 300 mtp)] := hD
                      show W _ _ _ _ _ _ _ _ _ _ _ _ _ _ _ (F0 m 238 ls [])
                      refine lv_aload_n hx hb dX11_duties_238 rfl (lv_at hl 0 rfl) ?_
                      refine va_get (D := D) (ci := 11) (v := .int yfa) (C := RX11) (T := TX11) (N := 64) hx hb hts inX11_duties_X11 hown hK hP 2 rfl rfl 42 (by decide) (hts (Cond.fieldLink RX11 271 "PortRoomsModel" "fault" "I") (wm_t (wm_l (wm_l (wm_i 4 rfl))))) (fun _ h9 => h9) rfl dX11_duties_239 ?_
                      refine lv_if_ne (tgt := 297) hx hb dX11_duties_242 (by decide) (fun c100 => ?_) (fun c100 => ?_)
                      · skip
                        have f101 := i_ne c100
                        refine lv_goto (tgt := 37) hx hb dX11_duties_297 (by decide) ?_
                        refine lv_aload_n hx hb dX11_duties_37 rfl (lv_at hl 0 rfl) ?_
                        refine va_get (D := D) (ci := 11) (v := .int yfa) (C := RX11) (T := TX11) (N := 64) hx hb hts inX11_duties_X11 hown hK hP 2 rfl rfl 42 (by decide) (hts (Cond.fieldLink RX11 271 "PortRoomsModel" "fault" "I") (wm_t (wm_l (wm_l (wm_i 4 rfl))))) (fun _ h9 => h9) rfl dX11_duties_38 ?_
                        refine lv_if_ne (tgt := 300) hx hb dX11_duties_41 (by decide) (fun _ => ?_) (fun c102 => by exfalso; have h8 := i_eq c102; omega)
                        refine lv_aload_n hx hb dX11_duties_300 rfl (lv_at hl 0 rfl) ?_
                        refine va_get (D := D) (ci := 11) (v := .int yfa) (C := RX11) (T := TX11) (N := 64) hx hb hts inX11_duties_X11 hown hK hP 2 rfl rfl 42 (by decide) (hts (Cond.fieldLink RX11 271 "PortRoomsModel" "fault" "I") (wm_t (wm_l (wm_l (wm_i 4 rfl))))) (fun _ h9 => h9) rfl dX11_duties_301 ?_
                        refine lv_if_le (tgt := 324) hx hb dX11_duties_304 (by decide) (fun c103 => ?_) (fun c103 => ?_)
                        · skip
                          have f104 := i_le c103
                          refine lv_aload_n hx hb dX11_duties_324 rfl (lv_at hl 0 rfl) ?_
                          refine lv_aload_n hx hb dX11_duties_325 rfl (lv_at hl 0 rfl) ?_
                          refine va_get (D := D) (ci := 11) (v := .int hnn) (C := RX11) (T := TX11) (N := 64) hx hb hts inX11_duties_X11 hown hK hP 2 rfl rfl 32 (by decide) (hts (Cond.fieldLink RX11 287 "PortRoomsModel" "newLines" "I") (wm_t (wm_l (wm_l (wm_i 5 rfl))))) (fun _ h9 => h9) rfl dX11_duties_326 ?_
                          refine va_put (D := D) (ci := 11) (v := .int hnn) (ty := .int) (C := RX11) (T := TX11) (N := 64) hx hb hts inX11_duties_X11 tyX11 tyX11_ok nmX11 hown hK hP hD hS 2 rfl rfl 30 (by decide) (hts (Cond.fieldLink RX11 314 "PortRoomsModel" "lines" "I") (wm_t (wm_l (wm_l (wm_i 17 rfl))))) (fun _ h9 => h9) rfl (tyX11_ok 30 (by decide)) rfl rfl (Nat.le_of_ble_eq_true rfl) dX11_duties_329 (fun H locs => ?_)
                          clear hP hD hS
                          intro hP hD hS
                          replace hP : va_P D vwCl [(aI cI (md 31) 36 mli), (aI cI (md 33) 36 mnlq), (moC md sd (0) mst hn cn pn mq gn hnn hnn (0) mlt ln ycu ytk yfr yti yfa yfb an un lc td mtn), (aI cI (md 34) 300 mtp)] H := hP
                          replace hD : va_D A [(aI cI (md 31) 36 mli), (aI cI (md 33) 36 mnlq), (moC md sd (0) mst hn cn pn mq gn hnn hnn (0) mlt ln ycu ytk yfr yti yfa yfb an un lc td mtn), (aI cI (md 34) 300 mtp)] := hD
                          refine lv_iconst (v := 0) hx hb dX11_duties_332 (by decide) ?_
                          refine lv_istore_n (lv' := [(1, .int 0), (0, .ref (md 64)), (3, .int sk55), (4, .int jdays), (5, .int sk83)]) hx hb dX11_duties_333 rfl hl (by decide) rfl (fun ls hl => ?_)
                          refine st_loop 334 (fun _ => []) (fun (z : Int32 × (Nat → Int32)) (ls : Array Slot) (H : Heap) (locs : List Loc) => match z with | (q334_1, mliq) => (0 ≤ q334_1.toInt) ∧ (q334_1.toInt ≤ 36) ∧ lv_has ls 6 [(0, .ref (md 64)), (1, .int q334_1), (3, .int sk55), (4, .int jdays), (5, .int sk83)] ∧ va_P D vwCl [(aI cI (md 31) 36 mliq), (aI cI (md 33) 36 mnlq), (moC md sd (0) mst hn cn pn mq gn hnn hnn (0) mlt ln ycu ytk yfr yti yfa yfb an un lc td mtn), (aI cI (md 34) 300 mtp)] H ∧ va_D A [(aI cI (md 31) 36 mliq), (aI cI (md 33) 36 mnlq), (moC md sd (0) mst hn cn pn mq gn hnn hnn (0) mlt ln ycu ytk yfr yti yfa yfb an un lc td mtn), (aI cI (md 34) 300 mtp)] ∧ va_S A s.heap H locs) (fun (z : Int32 × (Nat → Int32)) => match z with | (q334_1, mliq) => 36 - q334_1.toInt) ?_ ?_ ((0 : Int32), mli) ⟨(by omega), (by omega), lv_sub hl [1, 0, 2, 3, 4] rfl, hP, hD, hS⟩
                          · rintro ⟨q334_1, mliq⟩ ls H locs ⟨g105, g106, hl, hP, hD, hS⟩
                            show (0 : Int) ≤ 36 - q334_1.toInt
                            omega
                          · rintro n109 ih107 ⟨q334_1, mliq⟩ ls H locs ⟨g105, g106, hl, hP, hD, hS⟩ hm108
                            have hm108 : 36 - q334_1.toInt < (n109 : Int) + 1 := hm108
                            replace hl : lv_has ls 6 [(0, .ref (md 64)), (1, .int q334_1), (3, .int sk55), (4, .int jdays), (5, .int sk83)] := hl
                            replace hP : va_P D vwCl [(aI cI (md 31) 36 mliq), (aI cI (md 33) 36 mnlq), (moC md sd (0) mst hn cn pn mq gn hnn hnn (0) mlt ln ycu ytk yfr yti yfa yfb an un lc td mtn), (aI cI (md 34) 300 mtp)] H := hP
                            replace hD : va_D A [(aI cI (md 31) 36 mliq), (aI cI (md 33) 36 mnlq), (moC md sd (0) mst hn cn pn mq gn hnn hnn (0) mlt ln ycu ytk yfr yti yfa yfb an un lc td mtn), (aI cI (md 34) 300 mtp)] := hD
                            show W _ _ _ _ _ _ _ _ _ _ _ _ _ _ _ (F0 m 334 ls [])
                            refine lv_iload_n hx hb dX11_duties_334 rfl (lv_at hl 1 rfl) ?_
                            refine lv_bipush (v := 36) hx hb dX11_duties_335 (by decide) ?_
                            refine lv_icmp_ge (tgt := 358) hx hb dX11_duties_337 (by decide) (fun c110 => ?_) (fun c110 => ?_)
                            · skip
                              have f111 := i_le c110
                              refine lv_aload_n hx hb dX11_duties_358 rfl (lv_at hl 0 rfl) ?_
                              refine va_get (D := D) (ci := 11) (v := .int hnn) (C := RX11) (T := TX11) (N := 64) hx hb hts inX11_duties_X11 hown hK hP 2 rfl rfl 30 (by decide) (hts (Cond.fieldLink RX11 314 "PortRoomsModel" "lines" "I") (wm_t (wm_l (wm_l (wm_i 17 rfl))))) (fun _ h9 => h9) rfl dX11_duties_359 ?_
                              have hP9 := hP.sub (ws' := [(moC md sd (0) mst hn cn pn mq gn hnn hnn (0) mlt ln ycu ytk yfr yti yfa yfb an un lc td mtn), (aI cI (md 31) 36 mliq), (aI cI (md 33) 36 mnlq), (aI cI (md 34) 300 mtp)]) [2, 0, 1, 3] rfl
                              have hD9 := hD.sub (ws' := [(moC md sd (0) mst hn cn pn mq gn hnn hnn (0) mlt ln ycu ytk yfr yti yfa yfb an un lc td mtn), (aI cI (md 31) 36 mliq), (aI cI (md 33) 36 mnlq), (aI cI (md 34) 300 mtp)]) [2, 0, 1, 3] (by decide +kernel) rfl
                              exact W.iret (v := hnn) hx hb hr (fun t ht hW => ⟨⟨hnn, (hnn, mliq, hnn, mnlq, mlt, ln, ycu, ytk, yfr, yti, yfa, yfb), rfl, (by show 0 ≤ hnn.toInt ∧ hnn.toInt ≤ 12; omega), by rw [ht]; exact hP9, va_K.moved hW.alike hK, hD9⟩, hS.F ht⟩) hS.2.2 dX11_duties_362
                            · skip
                              have f112 := i_nle c110
                              refine lv_aload_n hx hb dX11_duties_340 rfl (lv_at hl 0 rfl) ?_
                              refine va_get (D := D) (ci := 11) (v := .ref (md 31)) (C := RX11) (T := TX11) (N := 64) hx hb hts inX11_duties_X11 hown hK hP 2 rfl rfl 31 (by decide) (hts (Cond.fieldLink RX11 81 "PortRoomsModel" "line" "[I") (wm_t (wm_l (wm_l (wm_i 18 rfl))))) (fun _ h9 => h9) rfl dX11_duties_341 ?_
                              refine lv_iload_n hx hb dX11_duties_344 rfl (lv_at hl 1 rfl) ?_
                              refine lv_aload_n hx hb dX11_duties_345 rfl (lv_at hl 0 rfl) ?_
                              refine va_get (D := D) (ci := 11) (v := .ref (md 33)) (C := RX11) (T := TX11) (N := 64) hx hb hts inX11_duties_X11 hown hK hP 2 rfl rfl 33 (by decide) (hts (Cond.fieldLink RX11 84 "PortRoomsModel" "newLine" "[I") (wm_t (wm_l (wm_l (wm_i 13 rfl))))) (fun _ h9 => h9) rfl dX11_duties_346 ?_
                              refine lv_iload_n hx hb dX11_duties_349 rfl (lv_at hl 1 rfl) ?_
                              refine va_iald hx hb hK hP 1 0 rfl rfl (i_in (by omega) (by omega)) dX11_duties_350 ?_
                              refine lv_topi (fun v113 ev113 => ?_)
                              refine va_iast hx hb hK hP hD hS 0 0 rfl rfl (i_in (by omega) (by omega)) dX11_duties_351 (fun H locs => ?_)
                              clear hP hD hS
                              intro hP hD hS
                              replace hP : va_P D vwCl [(aI cI (md 31) 36 (upd mliq q334_1.toNatClampNeg v113)), (aI cI (md 33) 36 mnlq), (moC md sd (0) mst hn cn pn mq gn hnn hnn (0) mlt ln ycu ytk yfr yti yfa yfb an un lc td mtn), (aI cI (md 34) 300 mtp)] H := hP
                              replace hD : va_D A [(aI cI (md 31) 36 (upd mliq q334_1.toNatClampNeg v113)), (aI cI (md 33) 36 mnlq), (moC md sd (0) mst hn cn pn mq gn hnn hnn (0) mlt ln ycu ytk yfr yti yfa yfb an un lc td mtn), (aI cI (md 34) 300 mtp)] := hD
                              obtain ⟨v114, ev114⟩ : ∃ y : Int32, y = q334_1 + 1 := ⟨_, rfl⟩
                              try have tv114 : v114.toInt = q334_1.toInt + 1 := by rw [ev114]; exact (i_add (x := q334_1) (y := (1 : Int32)) (by rw [k1]; omega) (by rw [k1]; omega)).trans (by rw [k1])
                              refine lv_iinc (v := v114) (lv' := [(1, .int v114), (0, .ref (md 64)), (3, .int sk55), (4, .int jdays), (5, .int sk83)]) hx hb dX11_duties_352 hl (k := 1) rfl (by rw [ev114]; rfl) (by decide) rfl (fun ls hl => ?_)
                              refine lv_goto (tgt := 334) hx hb dX11_duties_355 (by decide) ?_
                              exact ih107 (v114, upd mliq q334_1.toNatClampNeg v113) ls H locs ⟨(by omega), (by omega), lv_sub hl [1, 0, 2, 3, 4] rfl, hP.sub [0, 1, 2, 3] rfl, hD.sub [0, 1, 2, 3] (by decide +kernel) rfl, hS⟩ (by show 36 - v114.toInt < _; omega)
                        · skip
                          have f115 := i_nle c103
                          refine lv_aload_n hx hb dX11_duties_307 rfl (lv_at hl 0 rfl) ?_
                          refine lv_aload_n hx hb dX11_duties_308 rfl (lv_at hl 0 rfl) ?_
                          refine va_get (D := D) (ci := 11) (v := .int yfa) (C := RX11) (T := TX11) (N := 64) hx hb hts inX11_duties_X11 hown hK hP 2 rfl rfl 42 (by decide) (hts (Cond.fieldLink RX11 271 "PortRoomsModel" "fault" "I") (wm_t (wm_l (wm_l (wm_i 4 rfl))))) (fun _ h9 => h9) rfl dX11_duties_309 ?_
                          refine va_put (D := D) (ci := 11) (v := .int yfa) (ty := .int) (C := RX11) (T := TX11) (N := 64) hx hb hts inX11_duties_X11 tyX11 tyX11_ok nmX11 hown hK hP hD hS 2 rfl rfl 36 (by decide) (hts (Cond.fieldLink RX11 310 "PortRoomsModel" "latest" "I") (wm_t (wm_l (wm_l (wm_i 14 rfl))))) (fun _ h9 => h9) rfl (tyX11_ok 36 (by decide)) rfl rfl (Nat.le_of_ble_eq_true rfl) dX11_duties_312 (fun H locs => ?_)
                          clear hP hD hS
                          intro hP hD hS
                          replace hP : va_P D vwCl [(aI cI (md 31) 36 mli), (aI cI (md 33) 36 mnlq), (moC md sd (0) mst hn cn pn mq gn mln hnn (0) yfa ln ycu ytk yfr yti yfa yfb an un lc td mtn), (aI cI (md 34) 300 mtp)] H := hP
                          replace hD : va_D A [(aI cI (md 31) 36 mli), (aI cI (md 33) 36 mnlq), (moC md sd (0) mst hn cn pn mq gn mln hnn (0) yfa ln ycu ytk yfr yti yfa yfb an un lc td mtn), (aI cI (md 34) 300 mtp)] := hD
                          refine lv_ldcw hx hb hown (hts (Cond.constant RX11 313 (-1000100)) (wm_t (wm_l (wm_l (wm_i 15 rfl))))) dX11_duties_315 ?_
                          refine lv_aload_n hx hb dX11_duties_318 rfl (lv_at hl 0 rfl) ?_
                          refine va_get (D := D) (ci := 11) (v := .int yfb) (C := RX11) (T := TX11) (N := 64) hx hb hts inX11_duties_X11 hown hK hP 2 rfl rfl 43 (by decide) (hts (Cond.fieldLink RX11 274 "PortRoomsModel" "faultAt" "I") (wm_t (wm_l (wm_l (wm_i 16 rfl))))) (fun _ h9 => h9) rfl dX11_duties_319 ?_
                          refine lv_isub hx hb dX11_duties_322 ?_
                          refine lv_topi (fun v116 ev116 => ?_)
                          have hP9 := hP.sub (ws' := [(moC md sd (0) mst hn cn pn mq gn mln hnn (0) yfa ln ycu ytk yfr yti yfa yfb an un lc td mtn), (aI cI (md 31) 36 mli), (aI cI (md 33) 36 mnlq), (aI cI (md 34) 300 mtp)]) [2, 0, 1, 3] rfl
                          have hD9 := hD.sub (ws' := [(moC md sd (0) mst hn cn pn mq gn mln hnn (0) yfa ln ycu ytk yfr yti yfa yfb an un lc td mtn), (aI cI (md 31) 36 mli), (aI cI (md 33) 36 mnlq), (aI cI (md 34) 300 mtp)]) [2, 0, 1, 3] (by decide +kernel) rfl
                          exact W.iret (v := v116) hx hb hr (fun t ht hW => ⟨⟨v116, (mln, mli, hnn, mnlq, yfa, ln, ycu, ytk, yfr, yti, yfa, yfb), rfl, (by show 0 ≤ mln.toInt ∧ mln.toInt ≤ 12; omega), by rw [ht]; exact hP9, va_K.moved hW.alike hK, hD9⟩, hS.F ht⟩) hS.2.2 dX11_duties_323
                      · skip
                        have f117 := i_eq c100
                        refine lv_aload_n hx hb dX11_duties_245 rfl (lv_at hl 0 rfl) ?_
                        refine va_get (D := D) (ci := 11) (v := .ref (md 33)) (C := RX11) (T := TX11) (N := 64) hx hb hts inX11_duties_X11 hown hK hP 2 rfl rfl 33 (by decide) (hts (Cond.fieldLink RX11 84 "PortRoomsModel" "newLine" "[I") (wm_t (wm_l (wm_l (wm_i 13 rfl))))) (fun _ h9 => h9) rfl dX11_duties_246 ?_
                        refine lv_iconst (v := 3) hx hb dX11_duties_249 (by decide) ?_
                        refine lv_aload_n hx hb dX11_duties_250 rfl (lv_at hl 0 rfl) ?_
                        refine va_get (D := D) (ci := 11) (v := .int hnn) (C := RX11) (T := TX11) (N := 64) hx hb hts inX11_duties_X11 hown hK hP 2 rfl rfl 32 (by decide) (hts (Cond.fieldLink RX11 287 "PortRoomsModel" "newLines" "I") (wm_t (wm_l (wm_l (wm_i 5 rfl))))) (fun _ h9 => h9) rfl dX11_duties_251 ?_
                        refine lv_imul hx hb dX11_duties_254 ?_
                        refine lv_topi (fun v118 ev118 => ?_)
                        try have tv118 : v118.toInt = 3 * hnn.toInt := by rw [ev118]; exact (i_mul (x := (3 : Int32)) (y := hnn) (by rw [k3]; omega) (by rw [k3]; omega)).trans (by rw [k3])
                        refine lv_iload_n hx hb dX11_duties_255 rfl (lv_at hl 1 rfl) ?_
                        refine va_iast hx hb hK hP hD hS 1 0 rfl rfl (i_in (by omega) (by omega)) dX11_duties_256 (fun H locs => ?_)
                        clear hP hD hS
                        intro hP hD hS
                        replace hP : va_P D vwCl [(aI cI (md 31) 36 mli), (aI cI (md 33) 36 (upd mnlq v118.toNatClampNeg sk55)), (moC md sd (0) mst hn cn pn mq gn mln hnn (0) mlt ln ycu ytk yfr yti yfa yfb an un lc td mtn), (aI cI (md 34) 300 mtp)] H := hP
                        replace hD : va_D A [(aI cI (md 31) 36 mli), (aI cI (md 33) 36 (upd mnlq v118.toNatClampNeg sk55)), (moC md sd (0) mst hn cn pn mq gn mln hnn (0) mlt ln ycu ytk yfr yti yfa yfb an un lc td mtn), (aI cI (md 34) 300 mtp)] := hD
                        refine lv_aload_n hx hb dX11_duties_257 rfl (lv_at hl 0 rfl) ?_
                        refine va_get (D := D) (ci := 11) (v := .ref (md 33)) (C := RX11) (T := TX11) (N := 64) hx hb hts inX11_duties_X11 hown hK hP 2 rfl rfl 33 (by decide) (hts (Cond.fieldLink RX11 84 "PortRoomsModel" "newLine" "[I") (wm_t (wm_l (wm_l (wm_i 13 rfl))))) (fun _ h9 => h9) rfl dX11_duties_258 ?_
                        refine lv_iconst (v := 3) hx hb dX11_duties_261 (by decide) ?_
                        refine lv_aload_n hx hb dX11_duties_262 rfl (lv_at hl 0 rfl) ?_
                        refine va_get (D := D) (ci := 11) (v := .int hnn) (C := RX11) (T := TX11) (N := 64) hx hb hts inX11_duties_X11 hown hK hP 2 rfl rfl 32 (by decide) (hts (Cond.fieldLink RX11 287 "PortRoomsModel" "newLines" "I") (wm_t (wm_l (wm_l (wm_i 5 rfl))))) (fun _ h9 => h9) rfl dX11_duties_263 ?_
                        refine lv_imul hx hb dX11_duties_266 ?_
                        refine lv_topi (fun v119 ev119 => ?_)
                        try have tv119 : v119.toInt = 3 * hnn.toInt := by rw [ev119]; exact (i_mul (x := (3 : Int32)) (y := hnn) (by rw [k3]; omega) (by rw [k3]; omega)).trans (by rw [k3])
                        refine lv_iconst (v := 1) hx hb dX11_duties_267 (by decide) ?_
                        refine lv_iadd hx hb dX11_duties_268 ?_
                        refine lv_topi (fun v120 ev120 => ?_)
                        try have tv120 : v120.toInt = v119.toInt + 1 := by rw [ev120]; exact (i_add (x := v119) (y := (1 : Int32)) (by rw [k1]; omega) (by rw [k1]; omega)).trans (by rw [k1])
                        refine lv_iload hx hb dX11_duties_269 (lv_at hl 2 rfl) ?_
                        refine va_iast hx hb hK hP hD hS 1 0 rfl rfl (i_in (by omega) (by omega)) dX11_duties_271 (fun H locs => ?_)
                        clear hP hD hS
                        intro hP hD hS
                        replace hP : va_P D vwCl [(aI cI (md 31) 36 mli), (aI cI (md 33) 36 (upd (upd mnlq v118.toNatClampNeg sk55) v120.toNatClampNeg jdays)), (moC md sd (0) mst hn cn pn mq gn mln hnn (0) mlt ln ycu ytk yfr yti yfa yfb an un lc td mtn), (aI cI (md 34) 300 mtp)] H := hP
                        replace hD : va_D A [(aI cI (md 31) 36 mli), (aI cI (md 33) 36 (upd (upd mnlq v118.toNatClampNeg sk55) v120.toNatClampNeg jdays)), (moC md sd (0) mst hn cn pn mq gn mln hnn (0) mlt ln ycu ytk yfr yti yfa yfb an un lc td mtn), (aI cI (md 34) 300 mtp)] := hD
                        refine lv_aload_n hx hb dX11_duties_272 rfl (lv_at hl 0 rfl) ?_
                        refine va_get (D := D) (ci := 11) (v := .ref (md 33)) (C := RX11) (T := TX11) (N := 64) hx hb hts inX11_duties_X11 hown hK hP 2 rfl rfl 33 (by decide) (hts (Cond.fieldLink RX11 84 "PortRoomsModel" "newLine" "[I") (wm_t (wm_l (wm_l (wm_i 13 rfl))))) (fun _ h9 => h9) rfl dX11_duties_273 ?_
                        refine lv_iconst (v := 3) hx hb dX11_duties_276 (by decide) ?_
                        refine lv_aload_n hx hb dX11_duties_277 rfl (lv_at hl 0 rfl) ?_
                        refine va_get (D := D) (ci := 11) (v := .int hnn) (C := RX11) (T := TX11) (N := 64) hx hb hts inX11_duties_X11 hown hK hP 2 rfl rfl 32 (by decide) (hts (Cond.fieldLink RX11 287 "PortRoomsModel" "newLines" "I") (wm_t (wm_l (wm_l (wm_i 5 rfl))))) (fun _ h9 => h9) rfl dX11_duties_278 ?_
                        refine lv_imul hx hb dX11_duties_281 ?_
                        refine lv_topi (fun v121 ev121 => ?_)
                        try have tv121 : v121.toInt = 3 * hnn.toInt := by rw [ev121]; exact (i_mul (x := (3 : Int32)) (y := hnn) (by rw [k3]; omega) (by rw [k3]; omega)).trans (by rw [k3])
                        refine lv_iconst (v := 2) hx hb dX11_duties_282 (by decide) ?_
                        refine lv_iadd hx hb dX11_duties_283 ?_
                        refine lv_topi (fun v122 ev122 => ?_)
                        try have tv122 : v122.toInt = v121.toInt + 2 := by rw [ev122]; exact (i_add (x := v121) (y := (2 : Int32)) (by rw [k2]; omega) (by rw [k2]; omega)).trans (by rw [k2])
                        refine lv_iload hx hb dX11_duties_284 (lv_at hl 3 rfl) ?_
                        refine va_iast hx hb hK hP hD hS 1 0 rfl rfl (i_in (by omega) (by omega)) dX11_duties_286 (fun H locs => ?_)
                        clear hP hD hS
                        intro hP hD hS
                        replace hP : va_P D vwCl [(aI cI (md 31) 36 mli), (aI cI (md 33) 36 (upd (upd (upd mnlq v118.toNatClampNeg sk55) v120.toNatClampNeg jdays) v122.toNatClampNeg sk83)), (moC md sd (0) mst hn cn pn mq gn mln hnn (0) mlt ln ycu ytk yfr yti yfa yfb an un lc td mtn), (aI cI (md 34) 300 mtp)] H := hP
                        replace hD : va_D A [(aI cI (md 31) 36 mli), (aI cI (md 33) 36 (upd (upd (upd mnlq v118.toNatClampNeg sk55) v120.toNatClampNeg jdays) v122.toNatClampNeg sk83)), (moC md sd (0) mst hn cn pn mq gn mln hnn (0) mlt ln ycu ytk yfr yti yfa yfb an un lc td mtn), (aI cI (md 34) 300 mtp)] := hD
                        refine lv_aload_n hx hb dX11_duties_287 rfl (lv_at hl 0 rfl) ?_
                        refine lv_dup hx hb dX11_duties_288 rfl ?_
                        refine va_get (D := D) (ci := 11) (v := .int hnn) (C := RX11) (T := TX11) (N := 64) hx hb hts inX11_duties_X11 hown hK hP 2 rfl rfl 32 (by decide) (hts (Cond.fieldLink RX11 287 "PortRoomsModel" "newLines" "I") (wm_t (wm_l (wm_l (wm_i 5 rfl))))) (fun _ h9 => h9) rfl dX11_duties_289 ?_
                        refine lv_iconst (v := 1) hx hb dX11_duties_292 (by decide) ?_
                        refine lv_iadd hx hb dX11_duties_293 ?_
                        refine lv_topi (fun v123 ev123 => ?_)
                        try have tv123 : v123.toInt = hnn.toInt + 1 := by rw [ev123]; exact (i_add (x := hnn) (y := (1 : Int32)) (by rw [k1]; omega) (by rw [k1]; omega)).trans (by rw [k1])
                        refine va_put (D := D) (ci := 11) (v := .int v123) (ty := .int) (C := RX11) (T := TX11) (N := 64) hx hb hts inX11_duties_X11 tyX11 tyX11_ok nmX11 hown hK hP hD hS 2 rfl rfl 32 (by decide) (hts (Cond.fieldLink RX11 287 "PortRoomsModel" "newLines" "I") (wm_t (wm_l (wm_l (wm_i 5 rfl))))) (fun _ h9 => h9) rfl (tyX11_ok 32 (by decide)) rfl rfl (Nat.le_of_ble_eq_true rfl) dX11_duties_294 (fun H locs => ?_)
                        clear hP hD hS
                        intro hP hD hS
                        replace hP : va_P D vwCl [(aI cI (md 31) 36 mli), (aI cI (md 33) 36 (upd (upd (upd mnlq v118.toNatClampNeg sk55) v120.toNatClampNeg jdays) v122.toNatClampNeg sk83)), (moC md sd (0) mst hn cn pn mq gn mln v123 (0) mlt ln ycu ytk yfr yti yfa yfb an un lc td mtn), (aI cI (md 34) 300 mtp)] H := hP
                        replace hD : va_D A [(aI cI (md 31) 36 mli), (aI cI (md 33) 36 (upd (upd (upd mnlq v118.toNatClampNeg sk55) v120.toNatClampNeg jdays) v122.toNatClampNeg sk83)), (moC md sd (0) mst hn cn pn mq gn mln v123 (0) mlt ln ycu ytk yfr yti yfa yfb an un lc td mtn), (aI cI (md 34) 300 mtp)] := hD
                        refine lv_goto (tgt := 37) hx hb dX11_duties_297 (by decide) ?_
                        exact ih15 (upd (upd (upd mnlq v118.toNatClampNeg sk55) v120.toNatClampNeg jdays) v122.toNatClampNeg sk83, ycu, ytk, yfr, yti, yfa, yfb, v123) ls H locs ⟨(by omega), (by omega), (by omega), (by omega), (by omega), (by omega), (by omega), lv_sub hl [0] rfl, hP.sub [0, 1, 2, 3] rfl, hD.sub [0, 1, 2, 3] (by decide +kernel) rfl, hS⟩ (by show 301 - yfr.toInt < _; omega)
                    · intro hj99
                      refine lv_aload_n hx hb dX11_duties_221 rfl (lv_at hl 1 rfl) ?_
                      refine va_get (D := D) (ci := 11) (v := .int pfa) (C := RX11) (T := TX11) (N := 64) hx hb hts inX11_duties_X11 hown hK hP 2 rfl rfl 42 (by decide) (hts (Cond.fieldLink RX11 271 "PortRoomsModel" "fault" "I") (wm_t (wm_l (wm_l (wm_i 4 rfl))))) (fun _ h9 => h9) rfl dX11_duties_222 ?_
                      refine lv_if_ne (tgt := 238) hx hb dX11_duties_225 (by decide) (fun c124 => ?_) (fun c124 => ?_)
                      · skip
                        have f125 := i_ne c124
                        exact hj99 (pcu, ptk, pfr, pti, pfa, pfb) ls _ _ ⟨(by omega), (by omega), (by omega), (by omega), (by omega), (by omega), (by omega), lv_sub hl [1, 2, 3, 0] rfl, hP.sub [0, 1, 2, 3] rfl, hD.sub [0, 1, 2, 3] (by decide +kernel) rfl, hS⟩
                      · skip
                        have f126 := i_eq c124
                        refine lv_aload_n hx hb dX11_duties_228 rfl (lv_at hl 1 rfl) ?_
                        refine lv_aload_n hx hb dX11_duties_229 rfl (lv_at hl 1 rfl) ?_
                        refine lv_bipush (v := 59) hx hb dX11_duties_230 (by decide) ?_
                        refine st_i1 (va_runV (C := RX11) (As := [.int 59]) (rest := [.ref (md 64)]) ⟨hx, hb, hml, hown, hts⟩ (ct_X11_is l D cI cY cJ cQ _ md sd 0 mst hn cn pn mq gn mln hnn 0 mlt ln pcu ptk pfr pti pfa pfb an un lc td mtn mtp (59 : Int32) (by omega) (by omega) (by omega)) (cwV 1 hts gX11_duties_X11_is rfl rfl rfl ⟨rfl, cdX11_is⟩ ⟨Nat.le_of_ble_eq_true rfl, Nat.le_of_ble_eq_true rfl⟩) (cPreV (hP.sub [2, 3] rfl) hK (hD.sub [2, 3] (by decide +kernel) rfl) hN (ci := 11) (q0 := 0) rfl rfl) rfl rfl hl.1 rfl (lv_room (Nat.le_of_ble_eq_true rfl)) dX11_duties_232 ⟨Nat.le_of_ble_eq_true rfl, Nat.le_of_ble_eq_true rfl⟩) hP hD hS hA [2, 3] rfl (fun _ => rfl) (fun r129 u127 H locs hw128 => ?_)
                        clear hP hS
                        intro hP hS
                        replace hw128 : r129 = 0 ∨ r129 = 1 := hw128
                        refine st_v (wr := [(aI cI (md 31) 36 mli), (aI cI (md 33) 36 mnlq)]) (va_runV (C := RX11) (As := [.int r129]) (rest := []) ⟨hx, hb, hml, hown, hts⟩ (ct_X11_need l D cI cY cJ cQ _ md sd 0 mst hn cn pn mq gn mln hnn 0 mlt ln pcu ptk pfr pti pfa pfb an un lc td mtn mtp r129 h1 h2 (by omega) (by omega) (by omega) (by omega) (by omega)) (cwV 1 hts gX11_duties_X11_need rfl rfl rfl ⟨rfl, cdX11_need⟩ ⟨Nat.le_of_ble_eq_true rfl, Nat.le_of_ble_eq_true rfl⟩) (cPreV (hP.sub [2, 3] rfl) hK (hD.sub [2, 3] (by decide +kernel) rfl) hN (ci := 11) (q0 := 0) rfl rfl) rfl rfl hl.1 rfl (lv_room (Nat.le_of_ble_eq_true rfl)) dX11_duties_235 ⟨Nat.le_of_ble_eq_true rfl, Nat.le_of_ble_eq_true rfl⟩) hP hD hS hA [2, 3] [0, 1] rfl rfl (by decide +kernel) (by decide +kernel) (fun u130 H locs hw131 => ?_)
                        clear hP hD hS
                        intro hP hD hS
                        obtain ⟨mcu_133, mtk_134, mfr_135, mti_136, mfa_137, mfb_138⟩ := u130
                        replace hw131 : 0 ≤ mfr_135.toInt ∧ mfr_135.toInt ≤ mcu_133.toInt ∧ mcu_133.toInt ≤ ln.toInt ∧ mti_136.toInt = mcu_133.toInt ∧ ((pfa.toInt = 0 ∧ ¬ r129.toInt = 0 ∧ mfa_137.toInt = 0 ∧ pcu.toInt ≤ mfr_135.toInt ∧ (mtk_134.toInt = 1 ∨ mfr_135.toInt < mcu_133.toInt)) ∨ (¬ mfa_137.toInt = 0 ∧ mfr_135.toInt = pfr.toInt ∧ mtk_134.toInt = ptk.toInt ∧ mcu_133.toInt = pcu.toInt)) := hw131
                        replace hP : va_P D vwCl [(aI cI (md 31) 36 mli), (aI cI (md 33) 36 mnlq), (moC md sd (0) mst hn cn pn mq gn mln hnn (0) mlt ln mcu_133 mtk_134 mfr_135 mti_136 mfa_137 mfb_138 an un lc td mtn), (aI cI (md 34) 300 mtp)] H := hP
                        replace hD : va_D A [(aI cI (md 31) 36 mli), (aI cI (md 33) 36 mnlq), (moC md sd (0) mst hn cn pn mq gn mln hnn (0) mlt ln mcu_133 mtk_134 mfr_135 mti_136 mfa_137 mfb_138 an un lc td mtn), (aI cI (md 34) 300 mtp)] := hD
                        exact hj99 (mcu_133, mtk_134, mfr_135, mti_136, mfa_137, mfb_138) ls _ _ ⟨(by omega), (by omega), (by omega), (by omega), (by omega), (by omega), (by omega), lv_sub hl [1, 2, 3, 0] rfl, hP.sub [0, 1, 2, 3] rfl, hD.sub [0, 1, 2, 3] (by decide +kernel) rfl, hS⟩
                  · intro hj91
                    refine lv_aload_n hx hb dX11_duties_202 rfl (lv_at hl 0 rfl) ?_
                    refine va_get (D := D) (ci := 11) (v := .int ofa) (C := RX11) (T := TX11) (N := 64) hx hb hts inX11_duties_X11 hown hK hP 2 rfl rfl 42 (by decide) (hts (Cond.fieldLink RX11 271 "PortRoomsModel" "fault" "I") (wm_t (wm_l (wm_l (wm_i 4 rfl))))) (fun _ h9 => h9) rfl dX11_duties_203 ?_
                    refine lv_if_ne (tgt := 218) hx hb dX11_duties_206 (by decide) (fun c139 => ?_) (fun c139 => ?_)
                    · skip
                      have f140 := i_ne c139
                      refine lv_iconst (v := 0) hx hb dX11_duties_218 (by decide) ?_
                      exact hj91 (ocu, otk, ofr, oti, ofa, ofb, (0 : Int32)) ls _ _ ⟨(by omega), (by omega), (by omega), (by omega), (by omega), (by omega), (by omega), lv_sub hl [0, 1, 2] rfl, hP.sub [0, 1, 2, 3] rfl, hD.sub [0, 1, 2, 3] (by decide +kernel) rfl, hS⟩
                    · skip
                      have f141 := i_eq c139
                      refine lv_aload_n hx hb dX11_duties_209 rfl (lv_at hl 0 rfl) ?_
                      refine lv_bipush (v := 100) hx hb dX11_duties_210 (by decide) ?_
                      refine st_i (wr := [(aI cI (md 31) 36 mli), (aI cI (md 33) 36 mnlq)]) (va_runV (C := RX11) (As := [.int 100]) (rest := []) ⟨hx, hb, hml, hown, hts⟩ (ct_X11_numberUpTo l D cI cY cJ cQ _ md sd 0 mst hn cn pn mq gn mln hnn 0 mlt ln ocu otk ofr oti ofa ofb an un lc td mtn mtp (100 : Int32) h1 h2 (by omega) (by omega) (by omega) (by omega) (by omega)) (cwV 1 hts gX11_duties_X11_numberUpTo rfl rfl rfl ⟨rfl, cdX11_numberUpTo⟩ ⟨Nat.le_of_ble_eq_true rfl, Nat.le_of_ble_eq_true rfl⟩) (cPreV (hP.sub [2, 3] rfl) hK (hD.sub [2, 3] (by decide +kernel) rfl) hN (ci := 11) (q0 := 0) rfl rfl) rfl rfl hl.1 rfl (lv_room (Nat.le_of_ble_eq_true rfl)) dX11_duties_212 ⟨Nat.le_of_ble_eq_true rfl, Nat.le_of_ble_eq_true rfl⟩) hP hD hS hA [2, 3] [0, 1] rfl rfl (by decide +kernel) (by decide +kernel) (fun r144 u142 H locs hw143 => ?_)
                      clear hP hD hS
                      intro hP hD hS
                      obtain ⟨mcu_145, mtk_146, mfr_147, mti_148, mfa_149, mfb_150⟩ := u142
                      replace hw143 : 0 ≤ mfr_147.toInt ∧ mfr_147.toInt ≤ mcu_145.toInt ∧ mcu_145.toInt ≤ ln.toInt ∧ mti_148.toInt = mcu_145.toInt ∧ ofr.toInt ≤ mfr_147.toInt ∧ ((ofa.toInt = 0 ∧ mfa_149.toInt = 0 ∧ ocu.toInt ≤ mfr_147.toInt ∧ (mtk_146.toInt = 1 ∨ mfr_147.toInt < mcu_145.toInt)) ∨ ¬ mfa_149.toInt = 0) := hw143
                      replace hP : va_P D vwCl [(aI cI (md 31) 36 mli), (aI cI (md 33) 36 mnlq), (moC md sd (0) mst hn cn pn mq gn mln hnn (0) mlt ln mcu_145 mtk_146 mfr_147 mti_148 mfa_149 mfb_150 an un lc td mtn), (aI cI (md 34) 300 mtp)] H := hP
                      replace hD : va_D A [(aI cI (md 31) 36 mli), (aI cI (md 33) 36 mnlq), (moC md sd (0) mst hn cn pn mq gn mln hnn (0) mlt ln mcu_145 mtk_146 mfr_147 mti_148 mfa_149 mfb_150 an un lc td mtn), (aI cI (md 34) 300 mtp)] := hD
                      refine lv_goto (tgt := 219) hx hb dX11_duties_215 (by decide) ?_
                      exact hj91 (mcu_145, mtk_146, mfr_147, mti_148, mfa_149, mfb_150, r144) ls _ _ ⟨(by omega), (by omega), (by omega), (by omega), (by omega), (by omega), (by omega), lv_sub hl [0, 1, 2] rfl, hP.sub [0, 1, 2, 3] rfl, hD.sub [0, 1, 2, 3] (by decide +kernel) rfl, hS⟩
                · intro hj82
                  refine lv_aload_n hx hb dX11_duties_175 rfl (lv_at hl 0 rfl) ?_
                  refine va_get (D := D) (ci := 11) (v := .int lfa) (C := RX11) (T := TX11) (N := 64) hx hb hts inX11_duties_X11 hown hK hP 2 rfl rfl 42 (by decide) (hts (Cond.fieldLink RX11 271 "PortRoomsModel" "fault" "I") (wm_t (wm_l (wm_l (wm_i 4 rfl))))) (fun _ h9 => h9) rfl dX11_duties_176 ?_
                  refine lv_if_ne (tgt := 202) hx hb dX11_duties_179 (by decide) (fun c151 => ?_) (fun c151 => ?_)
                  · skip
                    have f152 := i_ne c151
                    exact hj82 (lcu, ltk, lfr, lti, lfa, lfb) ls _ _ ⟨(by omega), (by omega), (by omega), (by omega), (by omega), (by omega), (by omega), lv_sub hl [0, 1, 2] rfl, hP.sub [0, 1, 2, 3] rfl, hD.sub [0, 1, 2, 3] (by decide +kernel) rfl, hS⟩
                  · skip
                    have f153 := i_eq c151
                    refine lv_aload_n hx hb dX11_duties_182 rfl (lv_at hl 0 rfl) ?_
                    refine lv_aload_n hx hb dX11_duties_183 rfl (lv_at hl 0 rfl) ?_
                    refine st_l1 (va_runV (C := RX11) (As := []) (rest := [.ref (md 64)]) ⟨hx, hb, hml, hown, hts⟩ (ct_X11_word l D cI cY cJ cQ _ md sd 0 mst hn cn pn mq gn mln hnn 0 mlt ln lcu ltk lfr lti lfa lfb an un lc td mtn mtp (by omega) (by omega) (by omega)) (cwV 0 hts gX11_duties_X11_word rfl rfl rfl ⟨rfl, cdX11_word⟩ ⟨Nat.le_of_ble_eq_true rfl, Nat.le_of_ble_eq_true rfl⟩) (cPreV (hP.sub [2, 3] rfl) hK (hD.sub [2, 3] (by decide +kernel) rfl) hN (ci := 11) (q0 := 0) rfl rfl) rfl rfl hl.1 rfl (lv_room (Nat.le_of_ble_eq_true rfl)) dX11_duties_184 ⟨Nat.le_of_ble_eq_true rfl, Nat.le_of_ble_eq_true rfl⟩) hP hD hS hA [2, 3] rfl (fun _ => rfl) (fun r156 u154 H locs hw155 => ?_)
                    clear hP hS
                    intro hP hS
                    replace hw155 : True := hw155
                    refine lv_ldc2 hx hb hown (hts (Cond.constantLong RX11 308 (1885434484)) (wm_t (wm_l (wm_l (wm_i 12 rfl))))) dX11_duties_187 ?_
                    refine W.lcmp hx hb dX11_duties_190 ?_
                    refine lv_topi (fun v157 ev157 => ?_)
                    refine lv_if_ne (tgt := 198) hx hb dX11_duties_191 (by decide) (fun c158 => ?_) (fun c158 => ?_)
                    · skip
                      have f159 := lc_ne ev157 c158
                      refine lv_iconst (v := 0) hx hb dX11_duties_198 (by decide) ?_
                      refine st_v (wr := [(aI cI (md 31) 36 mli), (aI cI (md 33) 36 mnlq)]) (va_runV (C := RX11) (As := [.int 0]) (rest := []) ⟨hx, hb, hml, hown, hts⟩ (ct_X11_need l D cI cY cJ cQ _ md sd 0 mst hn cn pn mq gn mln hnn 0 mlt ln lcu ltk lfr lti lfa lfb an un lc td mtn mtp (0 : Int32) h1 h2 (by omega) (by omega) (by omega) (by omega) (by omega)) (cwV 1 hts gX11_duties_X11_need rfl rfl rfl ⟨rfl, cdX11_need⟩ ⟨Nat.le_of_ble_eq_true rfl, Nat.le_of_ble_eq_true rfl⟩) (cPreV (hP.sub [2, 3] rfl) hK (hD.sub [2, 3] (by decide +kernel) rfl) hN (ci := 11) (q0 := 0) rfl rfl) rfl rfl hl.1 rfl (lv_room (Nat.le_of_ble_eq_true rfl)) dX11_duties_199 ⟨Nat.le_of_ble_eq_true rfl, Nat.le_of_ble_eq_true rfl⟩) hP hD hS hA [2, 3] [0, 1] rfl rfl (by decide +kernel) (by decide +kernel) (fun u160 H locs hw161 => ?_)
                      clear hP hD hS
                      intro hP hD hS
                      obtain ⟨mcu_163, mtk_164, mfr_165, mti_166, mfa_167, mfb_168⟩ := u160
                      replace hw161 : 0 ≤ mfr_165.toInt ∧ mfr_165.toInt ≤ mcu_163.toInt ∧ mcu_163.toInt ≤ ln.toInt ∧ mti_166.toInt = mcu_163.toInt ∧ ((lfa.toInt = 0 ∧ ¬ (0 : Int32).toInt = 0 ∧ mfa_167.toInt = 0 ∧ lcu.toInt ≤ mfr_165.toInt ∧ (mtk_164.toInt = 1 ∨ mfr_165.toInt < mcu_163.toInt)) ∨ (¬ mfa_167.toInt = 0 ∧ mfr_165.toInt = lfr.toInt ∧ mtk_164.toInt = ltk.toInt ∧ mcu_163.toInt = lcu.toInt)) := hw161
                      replace hP : va_P D vwCl [(aI cI (md 31) 36 mli), (aI cI (md 33) 36 mnlq), (moC md sd (0) mst hn cn pn mq gn mln hnn (0) mlt ln mcu_163 mtk_164 mfr_165 mti_166 mfa_167 mfb_168 an un lc td mtn), (aI cI (md 34) 300 mtp)] H := hP
                      replace hD : va_D A [(aI cI (md 31) 36 mli), (aI cI (md 33) 36 mnlq), (moC md sd (0) mst hn cn pn mq gn mln hnn (0) mlt ln mcu_163 mtk_164 mfr_165 mti_166 mfa_167 mfb_168 an un lc td mtn), (aI cI (md 34) 300 mtp)] := hD
                      exact hj82 (mcu_163, mtk_164, mfr_165, mti_166, mfa_167, mfb_168) ls _ _ ⟨(by omega), (by omega), (by omega), (by omega), (by omega), (by omega), (by omega), lv_sub hl [0, 1, 2] rfl, hP.sub [0, 1, 2, 3] rfl, hD.sub [0, 1, 2, 3] (by decide +kernel) rfl, hS⟩
                    · skip
                      have f169 := lc_eq ev157 c158
                      refine lv_iconst (v := 1) hx hb dX11_duties_194 (by decide) ?_
                      refine lv_goto (tgt := 199) hx hb dX11_duties_195 (by decide) ?_
                      refine st_v (wr := [(aI cI (md 31) 36 mli), (aI cI (md 33) 36 mnlq)]) (va_runV (C := RX11) (As := [.int 1]) (rest := []) ⟨hx, hb, hml, hown, hts⟩ (ct_X11_need l D cI cY cJ cQ _ md sd 0 mst hn cn pn mq gn mln hnn 0 mlt ln lcu ltk lfr lti lfa lfb an un lc td mtn mtp (1 : Int32) h1 h2 (by omega) (by omega) (by omega) (by omega) (by omega)) (cwV 1 hts gX11_duties_X11_need rfl rfl rfl ⟨rfl, cdX11_need⟩ ⟨Nat.le_of_ble_eq_true rfl, Nat.le_of_ble_eq_true rfl⟩) (cPreV (hP.sub [2, 3] rfl) hK (hD.sub [2, 3] (by decide +kernel) rfl) hN (ci := 11) (q0 := 0) rfl rfl) rfl rfl hl.1 rfl (lv_room (Nat.le_of_ble_eq_true rfl)) dX11_duties_199 ⟨Nat.le_of_ble_eq_true rfl, Nat.le_of_ble_eq_true rfl⟩) hP hD hS hA [2, 3] [0, 1] rfl rfl (by decide +kernel) (by decide +kernel) (fun u170 H locs hw171 => ?_)
                      clear hP hD hS
                      intro hP hD hS
                      obtain ⟨mcu_173, mtk_174, mfr_175, mti_176, mfa_177, mfb_178⟩ := u170
                      replace hw171 : 0 ≤ mfr_175.toInt ∧ mfr_175.toInt ≤ mcu_173.toInt ∧ mcu_173.toInt ≤ ln.toInt ∧ mti_176.toInt = mcu_173.toInt ∧ ((lfa.toInt = 0 ∧ ¬ (1 : Int32).toInt = 0 ∧ mfa_177.toInt = 0 ∧ lcu.toInt ≤ mfr_175.toInt ∧ (mtk_174.toInt = 1 ∨ mfr_175.toInt < mcu_173.toInt)) ∨ (¬ mfa_177.toInt = 0 ∧ mfr_175.toInt = lfr.toInt ∧ mtk_174.toInt = ltk.toInt ∧ mcu_173.toInt = lcu.toInt)) := hw171
                      replace hP : va_P D vwCl [(aI cI (md 31) 36 mli), (aI cI (md 33) 36 mnlq), (moC md sd (0) mst hn cn pn mq gn mln hnn (0) mlt ln mcu_173 mtk_174 mfr_175 mti_176 mfa_177 mfb_178 an un lc td mtn), (aI cI (md 34) 300 mtp)] H := hP
                      replace hD : va_D A [(aI cI (md 31) 36 mli), (aI cI (md 33) 36 mnlq), (moC md sd (0) mst hn cn pn mq gn mln hnn (0) mlt ln mcu_173 mtk_174 mfr_175 mti_176 mfa_177 mfb_178 an un lc td mtn), (aI cI (md 34) 300 mtp)] := hD
                      exact hj82 (mcu_173, mtk_174, mfr_175, mti_176, mfa_177, mfb_178) ls _ _ ⟨(by omega), (by omega), (by omega), (by omega), (by omega), (by omega), (by omega), lv_sub hl [0, 1, 2] rfl, hP.sub [0, 1, 2, 3] rfl, hD.sub [0, 1, 2, 3] (by decide +kernel) rfl, hS⟩
              · intro hj74
                refine lv_aload_n hx hb dX11_duties_146 rfl (lv_at hl 1 rfl) ?_
                refine va_get (D := D) (ci := 11) (v := .int kfa) (C := RX11) (T := TX11) (N := 64) hx hb hts inX11_duties_X11 hown hK hP 2 rfl rfl 42 (by decide) (hts (Cond.fieldLink RX11 271 "PortRoomsModel" "fault" "I") (wm_t (wm_l (wm_l (wm_i 4 rfl))))) (fun _ h9 => h9) rfl dX11_duties_147 ?_
                refine lv_if_ne (tgt := 175) hx hb dX11_duties_150 (by decide) (fun c179 => ?_) (fun c179 => ?_)
                · skip
                  have f180 := i_ne c179
                  exact hj74 (((-1) : Int32), kcu, ktk, kfr, kti, kfa, kfb) ls _ _ ⟨(by omega), (by omega), (by omega), (by omega), (by omega), (by omega), (by omega), lv_sub hl [1, 2, 0] rfl, hP.sub [0, 1, 2, 3] rfl, hD.sub [0, 1, 2, 3] (by decide +kernel) rfl, hS⟩
                · skip
                  have f181 := i_eq c179
                  refine lv_aload_n hx hb dX11_duties_153 rfl (lv_at hl 1 rfl) ?_
                  refine lv_bipush (v := 62) hx hb dX11_duties_154 (by decide) ?_
                  refine st_i1 (va_runV (C := RX11) (As := [.int 62]) (rest := []) ⟨hx, hb, hml, hown, hts⟩ (ct_X11_is l D cI cY cJ cQ _ md sd 0 mst hn cn pn mq gn mln hnn 0 mlt ln kcu ktk kfr kti kfa kfb an un lc td mtn mtp (62 : Int32) (by omega) (by omega) (by omega)) (cwV 1 hts gX11_duties_X11_is rfl rfl rfl ⟨rfl, cdX11_is⟩ ⟨Nat.le_of_ble_eq_true rfl, Nat.le_of_ble_eq_true rfl⟩) (cPreV (hP.sub [2, 3] rfl) hK (hD.sub [2, 3] (by decide +kernel) rfl) hN (ci := 11) (q0 := 0) rfl rfl) rfl rfl hl.1 rfl (lv_room (Nat.le_of_ble_eq_true rfl)) dX11_duties_156 ⟨Nat.le_of_ble_eq_true rfl, Nat.le_of_ble_eq_true rfl⟩) hP hD hS hA [2, 3] rfl (fun _ => rfl) (fun r184 u182 H locs hw183 => ?_)
                  clear hP hS
                  intro hP hS
                  replace hw183 : r184 = 0 ∨ r184 = 1 := hw183
                  refine lv_if_eq (tgt := 175) hx hb dX11_duties_159 (by decide) (fun c185 => ?_) (fun c185 => ?_)
                  · skip
                    have f186 := i_eq c185
                    exact hj74 (((-1) : Int32), kcu, ktk, kfr, kti, kfa, kfb) ls _ _ ⟨(by omega), (by omega), (by omega), (by omega), (by omega), (by omega), (by omega), lv_sub hl [1, 2, 0] rfl, hP.sub [0, 1, 2, 3] rfl, hD.sub [0, 1, 2, 3] (by decide +kernel) rfl, hS⟩
                  · skip
                    have f187 := i_ne c185
                    refine lv_aload_n hx hb dX11_duties_162 rfl (lv_at hl 1 rfl) ?_
                    refine st_v (wr := [(aI cI (md 31) 36 mli), (aI cI (md 33) 36 mnlq)]) (va_runV (C := RX11) (As := []) (rest := []) ⟨hx, hb, hml, hown, hts⟩ (ct_X11_step l D cI cY cJ cQ _ md sd 0 mst hn cn pn mq gn mln hnn 0 mlt ln kcu ktk kfr kti kfa kfb an un lc td mtn mtp h1 h2 (by omega) (by omega)) (cwV 0 hts gX11_duties_X11_step rfl rfl rfl ⟨rfl, cdX11_step⟩ ⟨Nat.le_of_ble_eq_true rfl, Nat.le_of_ble_eq_true rfl⟩) (cPreV (hP.sub [2, 3] rfl) hK (hD.sub [2, 3] (by decide +kernel) rfl) hN (ci := 11) (q0 := 0) rfl rfl) rfl rfl hl.1 rfl (lv_room (Nat.le_of_ble_eq_true rfl)) dX11_duties_163 ⟨Nat.le_of_ble_eq_true rfl, Nat.le_of_ble_eq_true rfl⟩) hP hD hS hA [2, 3] [0, 1] rfl rfl (by decide +kernel) (by decide +kernel) (fun u188 H locs hw189 => ?_)
                    clear hP hD hS
                    intro hP hD hS
                    obtain ⟨mcu_191, mtk_192, mfr_193, mti_194⟩ := u188
                    replace hw189 : kcu.toInt ≤ mfr_193.toInt ∧ mfr_193.toInt ≤ mcu_191.toInt ∧ mcu_191.toInt ≤ ln.toInt ∧ mti_194.toInt = mcu_191.toInt ∧ (mtk_192.toInt = 1 ∨ mfr_193.toInt < mcu_191.toInt) := hw189
                    replace hP : va_P D vwCl [(aI cI (md 31) 36 mli), (aI cI (md 33) 36 mnlq), (moC md sd (0) mst hn cn pn mq gn mln hnn (0) mlt ln mcu_191 mtk_192 mfr_193 mti_194 kfa kfb an un lc td mtn), (aI cI (md 34) 300 mtp)] H := hP
                    replace hD : va_D A [(aI cI (md 31) 36 mli), (aI cI (md 33) 36 mnlq), (moC md sd (0) mst hn cn pn mq gn mln hnn (0) mlt ln mcu_191 mtk_192 mfr_193 mti_194 kfa kfb an un lc td mtn), (aI cI (md 34) 300 mtp)] := hD
                    refine lv_aload_n hx hb dX11_duties_166 rfl (lv_at hl 1 rfl) ?_
                    refine lv_sipush (v := 9999) hx hb dX11_duties_167 (by decide) ?_
                    refine st_i (wr := [(aI cI (md 31) 36 mli), (aI cI (md 33) 36 mnlq)]) (va_runV (C := RX11) (As := [.int 9999]) (rest := []) ⟨hx, hb, hml, hown, hts⟩ (ct_X11_numberUpTo l D cI cY cJ cQ _ md sd 0 mst hn cn pn mq gn mln hnn 0 mlt ln mcu_191 mtk_192 mfr_193 mti_194 kfa kfb an un lc td mtn mtp (9999 : Int32) h1 h2 (by omega) (by omega) (by omega) (by omega) (by omega)) (cwV 1 hts gX11_duties_X11_numberUpTo rfl rfl rfl ⟨rfl, cdX11_numberUpTo⟩ ⟨Nat.le_of_ble_eq_true rfl, Nat.le_of_ble_eq_true rfl⟩) (cPreV (hP.sub [2, 3] rfl) hK (hD.sub [2, 3] (by decide +kernel) rfl) hN (ci := 11) (q0 := 0) rfl rfl) rfl rfl hl.1 rfl (lv_room (Nat.le_of_ble_eq_true rfl)) dX11_duties_170 ⟨Nat.le_of_ble_eq_true rfl, Nat.le_of_ble_eq_true rfl⟩) hP hD hS hA [2, 3] [0, 1] rfl rfl (by decide +kernel) (by decide +kernel) (fun r197 u195 H locs hw196 => ?_)
                    clear hP hD hS
                    intro hP hD hS
                    obtain ⟨mcu_198, mtk_199, mfr_200, mti_201, mfa_202, mfb_203⟩ := u195
                    replace hw196 : 0 ≤ mfr_200.toInt ∧ mfr_200.toInt ≤ mcu_198.toInt ∧ mcu_198.toInt ≤ ln.toInt ∧ mti_201.toInt = mcu_198.toInt ∧ mfr_193.toInt ≤ mfr_200.toInt ∧ ((kfa.toInt = 0 ∧ mfa_202.toInt = 0 ∧ mcu_191.toInt ≤ mfr_200.toInt ∧ (mtk_199.toInt = 1 ∨ mfr_200.toInt < mcu_198.toInt)) ∨ ¬ mfa_202.toInt = 0) := hw196
                    replace hP : va_P D vwCl [(aI cI (md 31) 36 mli), (aI cI (md 33) 36 mnlq), (moC md sd (0) mst hn cn pn mq gn mln hnn (0) mlt ln mcu_198 mtk_199 mfr_200 mti_201 mfa_202 mfb_203 an un lc td mtn), (aI cI (md 34) 300 mtp)] H := hP
                    replace hD : va_D A [(aI cI (md 31) 36 mli), (aI cI (md 33) 36 mnlq), (moC md sd (0) mst hn cn pn mq gn mln hnn (0) mlt ln mcu_198 mtk_199 mfr_200 mti_201 mfa_202 mfb_203 an un lc td mtn), (aI cI (md 34) 300 mtp)] := hD
                    refine lv_istore (lv' := [(4, .int r197), (0, .ref (md 64)), (3, .int sk55)]) hx hb dX11_duties_173 hl (by decide) rfl (fun ls hl => ?_)
                    exact hj74 (r197, mcu_198, mtk_199, mfr_200, mti_201, mfa_202, mfb_203) ls _ _ ⟨(by omega), (by omega), (by omega), (by omega), (by omega), (by omega), (by omega), lv_sub hl [1, 2, 0] rfl, hP.sub [0, 1, 2, 3] rfl, hD.sub [0, 1, 2, 3] (by decide +kernel) rfl, hS⟩
            · intro hj66
              refine lv_aload_n hx hb dX11_duties_128 rfl (lv_at hl 0 rfl) ?_
              refine lv_iload_n hx hb dX11_duties_129 rfl (lv_at hl 1 rfl) ?_
              refine lv_ldc hx hb hown (hts (Cond.constant RX11 139 (-1000000)) (wm_t (wm_l (wm_l (wm_i 11 rfl))))) dX11_duties_130 ?_
              refine lv_icmp_eq (tgt := 139) hx hb dX11_duties_132 (by decide) (fun c204 => ?_) (fun c204 => ?_)
              · skip
                have f205 := i_eq c204
                refine lv_iconst (v := 0) hx hb dX11_duties_139 (by decide) ?_
                refine st_v (wr := [(aI cI (md 31) 36 mli), (aI cI (md 33) 36 mnlq)]) (va_runV (C := RX11) (As := [.int 0]) (rest := []) ⟨hx, hb, hml, hown, hts⟩ (ct_X11_need l D cI cY cJ cQ _ md sd 0 mst hn cn pn mq gn mln hnn 0 mlt ln hcu htk hfr hti jfa jfb an un lc td mtn mtp (0 : Int32) h1 h2 (by omega) (by omega) (by omega) (by omega) (by omega)) (cwV 1 hts gX11_duties_X11_need rfl rfl rfl ⟨rfl, cdX11_need⟩ ⟨Nat.le_of_ble_eq_true rfl, Nat.le_of_ble_eq_true rfl⟩) (cPreV (hP.sub [2, 3] rfl) hK (hD.sub [2, 3] (by decide +kernel) rfl) hN (ci := 11) (q0 := 0) rfl rfl) rfl rfl hl.1 rfl (lv_room (Nat.le_of_ble_eq_true rfl)) dX11_duties_140 ⟨Nat.le_of_ble_eq_true rfl, Nat.le_of_ble_eq_true rfl⟩) hP hD hS hA [2, 3] [0, 1] rfl rfl (by decide +kernel) (by decide +kernel) (fun u206 H locs hw207 => ?_)
                clear hP hD hS
                intro hP hD hS
                obtain ⟨mcu_209, mtk_210, mfr_211, mti_212, mfa_213, mfb_214⟩ := u206
                replace hw207 : 0 ≤ mfr_211.toInt ∧ mfr_211.toInt ≤ mcu_209.toInt ∧ mcu_209.toInt ≤ ln.toInt ∧ mti_212.toInt = mcu_209.toInt ∧ ((jfa.toInt = 0 ∧ ¬ (0 : Int32).toInt = 0 ∧ mfa_213.toInt = 0 ∧ hcu.toInt ≤ mfr_211.toInt ∧ (mtk_210.toInt = 1 ∨ mfr_211.toInt < mcu_209.toInt)) ∨ (¬ mfa_213.toInt = 0 ∧ mfr_211.toInt = hfr.toInt ∧ mtk_210.toInt = htk.toInt ∧ mcu_209.toInt = hcu.toInt)) := hw207
                replace hP : va_P D vwCl [(aI cI (md 31) 36 mli), (aI cI (md 33) 36 mnlq), (moC md sd (0) mst hn cn pn mq gn mln hnn (0) mlt ln mcu_209 mtk_210 mfr_211 mti_212 mfa_213 mfb_214 an un lc td mtn), (aI cI (md 34) 300 mtp)] H := hP
                replace hD : va_D A [(aI cI (md 31) 36 mli), (aI cI (md 33) 36 mnlq), (moC md sd (0) mst hn cn pn mq gn mln hnn (0) mlt ln mcu_209 mtk_210 mfr_211 mti_212 mfa_213 mfb_214 an un lc td mtn), (aI cI (md 34) 300 mtp)] := hD
                exact hj66 (mcu_209, mtk_210, mfr_211, mti_212, mfa_213, mfb_214) ls _ _ ⟨(by omega), (by omega), (by omega), (by omega), (by omega), (by omega), (by omega), lv_sub hl [0, 1] rfl, hP.sub [0, 1, 2, 3] rfl, hD.sub [0, 1, 2, 3] (by decide +kernel) rfl, hS⟩
              · skip
                have f215 := i_ne c204
                refine lv_iconst (v := 1) hx hb dX11_duties_135 (by decide) ?_
                refine lv_goto (tgt := 140) hx hb dX11_duties_136 (by decide) ?_
                refine st_v (wr := [(aI cI (md 31) 36 mli), (aI cI (md 33) 36 mnlq)]) (va_runV (C := RX11) (As := [.int 1]) (rest := []) ⟨hx, hb, hml, hown, hts⟩ (ct_X11_need l D cI cY cJ cQ _ md sd 0 mst hn cn pn mq gn mln hnn 0 mlt ln hcu htk hfr hti jfa jfb an un lc td mtn mtp (1 : Int32) h1 h2 (by omega) (by omega) (by omega) (by omega) (by omega)) (cwV 1 hts gX11_duties_X11_need rfl rfl rfl ⟨rfl, cdX11_need⟩ ⟨Nat.le_of_ble_eq_true rfl, Nat.le_of_ble_eq_true rfl⟩) (cPreV (hP.sub [2, 3] rfl) hK (hD.sub [2, 3] (by decide +kernel) rfl) hN (ci := 11) (q0 := 0) rfl rfl) rfl rfl hl.1 rfl (lv_room (Nat.le_of_ble_eq_true rfl)) dX11_duties_140 ⟨Nat.le_of_ble_eq_true rfl, Nat.le_of_ble_eq_true rfl⟩) hP hD hS hA [2, 3] [0, 1] rfl rfl (by decide +kernel) (by decide +kernel) (fun u216 H locs hw217 => ?_)
                clear hP hD hS
                intro hP hD hS
                obtain ⟨mcu_219, mtk_220, mfr_221, mti_222, mfa_223, mfb_224⟩ := u216
                replace hw217 : 0 ≤ mfr_221.toInt ∧ mfr_221.toInt ≤ mcu_219.toInt ∧ mcu_219.toInt ≤ ln.toInt ∧ mti_222.toInt = mcu_219.toInt ∧ ((jfa.toInt = 0 ∧ ¬ (1 : Int32).toInt = 0 ∧ mfa_223.toInt = 0 ∧ hcu.toInt ≤ mfr_221.toInt ∧ (mtk_220.toInt = 1 ∨ mfr_221.toInt < mcu_219.toInt)) ∨ (¬ mfa_223.toInt = 0 ∧ mfr_221.toInt = hfr.toInt ∧ mtk_220.toInt = htk.toInt ∧ mcu_219.toInt = hcu.toInt)) := hw217
                replace hP : va_P D vwCl [(aI cI (md 31) 36 mli), (aI cI (md 33) 36 mnlq), (moC md sd (0) mst hn cn pn mq gn mln hnn (0) mlt ln mcu_219 mtk_220 mfr_221 mti_222 mfa_223 mfb_224 an un lc td mtn), (aI cI (md 34) 300 mtp)] H := hP
                replace hD : va_D A [(aI cI (md 31) 36 mli), (aI cI (md 33) 36 mnlq), (moC md sd (0) mst hn cn pn mq gn mln hnn (0) mlt ln mcu_219 mtk_220 mfr_221 mti_222 mfa_223 mfb_224 an un lc td mtn), (aI cI (md 34) 300 mtp)] := hD
                exact hj66 (mcu_219, mtk_220, mfr_221, mti_222, mfa_223, mfb_224) ls _ _ ⟨(by omega), (by omega), (by omega), (by omega), (by omega), (by omega), (by omega), lv_sub hl [0, 1] rfl, hP.sub [0, 1, 2, 3] rfl, hD.sub [0, 1, 2, 3] (by decide +kernel) rfl, hS⟩
          · intro hj58
            refine lv_iload_n hx hb dX11_duties_108 rfl (lv_at hl 0 rfl) ?_
            refine lv_ldc hx hb hown (hts (Cond.constant RX11 139 (-1000000)) (wm_t (wm_l (wm_l (wm_i 11 rfl))))) dX11_duties_109 ?_
            refine lv_icmp_eq (tgt := 128) hx hb dX11_duties_111 (by decide) (fun c225 => ?_) (fun c225 => ?_)
            · skip
              have f226 := i_eq c225
              exact hj58 (hfa, hfb) ls _ _ ⟨(by omega), lv_sub hl [1, 0] rfl, hP.sub [0, 1, 2, 3] rfl, hD.sub [0, 1, 2, 3] (by decide +kernel) rfl, hS⟩
            · skip
              have f227 := i_ne c225
              refine lv_aload_n hx hb dX11_duties_114 rfl (lv_at hl 1 rfl) ?_
              refine va_get (D := D) (ci := 11) (v := .int hnn) (C := RX11) (T := TX11) (N := 64) hx hb hts inX11_duties_X11 hown hK hP 2 rfl rfl 32 (by decide) (hts (Cond.fieldLink RX11 287 "PortRoomsModel" "newLines" "I") (wm_t (wm_l (wm_l (wm_i 5 rfl))))) (fun _ h9 => h9) rfl dX11_duties_115 ?_
              refine lv_bipush (v := 12) hx hb dX11_duties_118 (by decide) ?_
              refine lv_icmp_ne (tgt := 128) hx hb dX11_duties_120 (by decide) (fun c228 => ?_) (fun c228 => ?_)
              · skip
                have f229 := i_ne c228
                exact hj58 (hfa, hfb) ls _ _ ⟨(by omega), lv_sub hl [1, 0] rfl, hP.sub [0, 1, 2, 3] rfl, hD.sub [0, 1, 2, 3] (by decide +kernel) rfl, hS⟩
              · skip
                have f230 := i_eq c228
                refine lv_aload_n hx hb dX11_duties_123 rfl (lv_at hl 1 rfl) ?_
                refine lv_iconst (v := 3) hx hb dX11_duties_124 (by decide) ?_
                refine st_v (wr := [(aI cI (md 31) 36 mli), (aI cI (md 33) 36 mnlq), (aI cI (md 34) 300 mtp)]) (va_runV (C := RX11) (As := [.int 3]) (rest := []) ⟨hx, hb, hml, hown, hts⟩ (ct_X11_bad l D cI cY cJ cQ _ md sd 0 mst hn cn pn mq gn mln hnn 0 mlt ln hcu htk hfr hti hfa hfb an un lc td mtn (3 : Int32)) (cwV 1 hts gX11_duties_X11_bad rfl rfl rfl ⟨rfl, cdX11_bad⟩ ⟨Nat.le_of_ble_eq_true rfl, Nat.le_of_ble_eq_true rfl⟩) (cPreV (hP.sub [2] rfl) hK (hD.sub [2] (by decide +kernel) rfl) hN (ci := 11) (q0 := 0) rfl rfl) rfl rfl hl.1 rfl (lv_room (Nat.le_of_ble_eq_true rfl)) dX11_duties_125 ⟨Nat.le_of_ble_eq_true rfl, Nat.le_of_ble_eq_true rfl⟩) hP hD hS hA [2] [0, 1, 3] rfl rfl (by decide +kernel) (by decide +kernel) (fun u231 H locs hw232 => ?_)
                clear hP hD hS
                intro hP hD hS
                obtain ⟨mfa_234, mfb_235⟩ := u231
                replace hw232 : (hfa.toInt = 0 ∧ mfa_234.toInt = (3 : Int32).toInt) ∨ (¬ hfa.toInt = 0 ∧ mfa_234.toInt = hfa.toInt) := hw232
                replace hP : va_P D vwCl [(aI cI (md 31) 36 mli), (aI cI (md 33) 36 mnlq), (aI cI (md 34) 300 mtp), (moC md sd (0) mst hn cn pn mq gn mln hnn (0) mlt ln hcu htk hfr hti mfa_234 mfb_235 an un lc td mtn)] H := hP
                replace hD : va_D A [(aI cI (md 31) 36 mli), (aI cI (md 33) 36 mnlq), (aI cI (md 34) 300 mtp), (moC md sd (0) mst hn cn pn mq gn mln hnn (0) mlt ln hcu htk hfr hti mfa_234 mfb_235 an un lc td mtn)] := hD
                exact hj58 (mfa_234, mfb_235) ls _ _ ⟨(by omega), lv_sub hl [1, 0] rfl, hP.sub [0, 1, 3, 2] rfl, hD.sub [0, 1, 3, 2] (by decide +kernel) rfl, hS⟩
        · intro hj56
          refine lv_lload_n hx hb dX11_duties_57 rfl (lv_at hl 0 rfl) ?_
          refine lv_ldc2 hx hb hown (hts (Cond.constantLong RX11 294 (1936682084)) (wm_t (wm_l (wm_l (wm_i 7 rfl))))) dX11_duties_58 ?_
          refine W.lcmp hx hb dX11_duties_61 ?_
          refine lv_topi (fun v236 ev236 => ?_)
          refine lv_if_ne (tgt := 69) hx hb dX11_duties_62 (by decide) (fun c237 => ?_) (fun c237 => ?_)
          · skip
            have f238 := lc_ne ev236 c237
            refine lv_lload_n hx hb dX11_duties_69 rfl (lv_at hl 0 rfl) ?_
            refine lv_ldc2 hx hb hown (hts (Cond.constantLong RX11 296 (495673374574)) (wm_t (wm_l (wm_l (wm_i 8 rfl))))) dX11_duties_70 ?_
            refine W.lcmp hx hb dX11_duties_73 ?_
            refine lv_topi (fun v239 ev239 => ?_)
            refine lv_if_ne (tgt := 81) hx hb dX11_duties_74 (by decide) (fun c240 => ?_) (fun c240 => ?_)
            · skip
              have f241 := lc_ne ev239 c240
              refine lv_lload_n hx hb dX11_duties_81 rfl (lv_at hl 0 rfl) ?_
              refine lv_ldc2 hx hb hown (hts (Cond.constantLong RX11 298 (7304564)) (wm_t (wm_l (wm_l (wm_i 9 rfl))))) dX11_duties_82 ?_
              refine W.lcmp hx hb dX11_duties_85 ?_
              refine lv_topi (fun v242 ev242 => ?_)
              refine lv_if_ne (tgt := 93) hx hb dX11_duties_86 (by decide) (fun c243 => ?_) (fun c243 => ?_)
              · skip
                have f244 := lc_ne ev242 c243
                refine lv_lload_n hx hb dX11_duties_93 rfl (lv_at hl 0 rfl) ?_
                refine lv_ldc2 hx hb hown (hts (Cond.constantLong RX11 300 (120282411197796)) (wm_t (wm_l (wm_l (wm_i 10 rfl))))) dX11_duties_94 ?_
                refine W.lcmp hx hb dX11_duties_97 ?_
                refine lv_topi (fun v245 ev245 => ?_)
                refine lv_if_ne (tgt := 105) hx hb dX11_duties_98 (by decide) (fun c246 => ?_) (fun c246 => ?_)
                · skip
                  have f247 := lc_ne ev245 c246
                  refine lv_ldc hx hb hown (hts (Cond.constant RX11 139 (-1000000)) (wm_t (wm_l (wm_l (wm_i 11 rfl))))) dX11_duties_105 ?_
                  exact hj56 ((-1000000) : Int32) ls _ _ ⟨lv_sub hl [1] rfl, hP.sub [0, 1, 2, 3] rfl, hD.sub [0, 1, 2, 3] (by decide +kernel) rfl, hS⟩
                · skip
                  have f248 := lc_eq ev245 c246
                  refine lv_iconst (v := 3) hx hb dX11_duties_101 (by decide) ?_
                  refine lv_goto (tgt := 107) hx hb dX11_duties_102 (by decide) ?_
                  exact hj56 (3 : Int32) ls _ _ ⟨lv_sub hl [1] rfl, hP.sub [0, 1, 2, 3] rfl, hD.sub [0, 1, 2, 3] (by decide +kernel) rfl, hS⟩
              · skip
                have f249 := lc_eq ev242 c243
                refine lv_iconst (v := 2) hx hb dX11_duties_89 (by decide) ?_
                refine lv_goto (tgt := 107) hx hb dX11_duties_90 (by decide) ?_
                exact hj56 (2 : Int32) ls _ _ ⟨lv_sub hl [1] rfl, hP.sub [0, 1, 2, 3] rfl, hD.sub [0, 1, 2, 3] (by decide +kernel) rfl, hS⟩
            · skip
              have f250 := lc_eq ev239 c240
              refine lv_iconst (v := 1) hx hb dX11_duties_77 (by decide) ?_
              refine lv_goto (tgt := 107) hx hb dX11_duties_78 (by decide) ?_
              exact hj56 (1 : Int32) ls _ _ ⟨lv_sub hl [1] rfl, hP.sub [0, 1, 2, 3] rfl, hD.sub [0, 1, 2, 3] (by decide +kernel) rfl, hS⟩
          · skip
            have f251 := lc_eq ev236 c237
            refine lv_iconst (v := 0) hx hb dX11_duties_65 (by decide) ?_
            refine lv_goto (tgt := 107) hx hb dX11_duties_66 (by decide) ?_
            exact hj56 (0 : Int32) ls _ _ ⟨lv_sub hl [1] rfl, hP.sub [0, 1, 2, 3] rfl, hD.sub [0, 1, 2, 3] (by decide +kernel) rfl, hS⟩
end
