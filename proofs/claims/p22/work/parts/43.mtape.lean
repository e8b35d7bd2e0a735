theorem cdX11_byteAt : yX11_byteAt.cls ≠ "java/lang/invoke/MethodHandle" ∧ yX11_byteAt.cls ≠ "java/lang/invoke/VarHandle" ∧ (parseMethodDescriptor yX11_byteAt.desc).map (fun d => d.parameters.length) = some 1 := by decide +kernel
theorem cdX11_isLetter : yX11_isLetter.cls ≠ "java/lang/invoke/MethodHandle" ∧ yX11_isLetter.cls ≠ "java/lang/invoke/VarHandle" ∧ (parseMethodDescriptor yX11_isLetter.desc).map (fun d => d.parameters.length) = some 1 := by decide +kernel
theorem cdX11_isFigure : yX11_isFigure.cls ≠ "java/lang/invoke/MethodHandle" ∧ yX11_isFigure.cls ≠ "java/lang/invoke/VarHandle" ∧ (parseMethodDescriptor yX11_isFigure.desc).map (fun d => d.parameters.length) = some 1 := by decide +kernel
theorem cdX11_step : yX11_step.cls ≠ "java/lang/invoke/MethodHandle" ∧ yX11_step.cls ≠ "java/lang/invoke/VarHandle" ∧ (parseMethodDescriptor yX11_step.desc).map (fun d => d.parameters.length) = some 0 := by decide +kernel
theorem cdX11_bad : yX11_bad.cls ≠ "java/lang/invoke/MethodHandle" ∧ yX11_bad.cls ≠ "java/lang/invoke/VarHandle" ∧ (parseMethodDescriptor yX11_bad.desc).map (fun d => d.parameters.length) = some 1 := by decide +kernel
theorem cdX11_need : yX11_need.cls ≠ "java/lang/invoke/MethodHandle" ∧ yX11_need.cls ≠ "java/lang/invoke/VarHandle" ∧ (parseMethodDescriptor yX11_need.desc).map (fun d => d.parameters.length) = some 1 := by decide +kernel
theorem inX11_feed_X11 : ∀ w ∈ u_ws RX11 TX11 64, w ∈ wsX11_feed := fun _ h => (List.mem_cons_of_mem _ (List.mem_append_right _ (List.mem_append_left _ h)))
theorem Gd_X11_byteAt : gdA wsX11_byteAt := gd_cons (by decide +kernel) (gd_app (gd_all (ws := wsX11_byteAt_o1) (by decide +kernel)) Gd_X110)
theorem inX11_byteAt_X11 : ∀ w ∈ u_ws RX11 TX11 64, w ∈ wsX11_byteAt := fun _ h => (List.mem_cons_of_mem _ (List.mem_append_right _ h))
theorem Gd_X11_isLetter : gdA wsX11_isLetter := gd_cons (by decide +kernel) (gd_all (ws := []) rfl)
theorem Gd_X11_isFigure : gdA wsX11_isFigure := gd_cons (by decide +kernel) (gd_all (ws := []) rfl)
theorem Gd_X11_step : gdA wsX11_step := gd_cons (by decide +kernel) (gd_app (gd_all (ws := wsX11_step_o1) (by decide +kernel)) (gd_app (gd_app Gd_X110 Gd_X11_byteAt) (gd_app Gd_X11_isLetter Gd_X11_isFigure)))
theorem inX11_step_X11 : ∀ w ∈ u_ws RX11 TX11 64, w ∈ wsX11_step := fun _ h => (List.mem_cons_of_mem _ (List.mem_append_right _ (List.mem_append_left _ (List.mem_append_left _ h))))
theorem Gd_X11_bad : gdA wsX11_bad := gd_cons (by decide +kernel) (gd_app (gd_all (ws := wsX11_bad_o1) (by decide +kernel)) Gd_X110)
theorem inX11_bad_X11 : ∀ w ∈ u_ws RX11 TX11 64, w ∈ wsX11_bad := fun _ h => (List.mem_cons_of_mem _ (List.mem_append_right _ h))
theorem Gd_X11_need : gdA wsX11_need := gd_cons (by decide +kernel) (gd_app (gd_all (ws := wsX11_need_o1) (by decide +kernel)) (gd_app (gd_app Gd_X110 Gd_X11_bad) Gd_X11_step))
theorem inX11_need_X11 : ∀ w ∈ u_ws RX11 TX11 64, w ∈ wsX11_need := fun _ h => (List.mem_cons_of_mem _ (List.mem_append_right _ (List.mem_append_left _ (List.mem_append_left _ h))))
theorem inX11_is_X11 : ∀ w ∈ u_ws RX11 TX11 64, w ∈ wsX11_is := fun _ h => (List.mem_cons_of_mem _ (List.mem_append_right _ h))
theorem inX11_word_X11 : ∀ w ∈ u_ws RX11 TX11 64, w ∈ wsX11_word := fun _ h => (List.mem_cons_of_mem _ (List.mem_append_right _ h))
theorem inX11_numberUpTo_X11 : ∀ w ∈ u_ws RX11 TX11 64, w ∈ wsX11_numberUpTo := fun _ h => (List.mem_cons_of_mem _ (List.mem_append_right _ (List.mem_append_left _ (List.mem_append_left _ h))))
theorem ggX11_feed_X11_in : GoodIn wsX11_feed wsX11_in := goodIn_s (fun _ h => wm_t (wm_r (wm_r h))) Gd_X11_in
theorem gX11_feed_X11_in : GoodIn wsX11_feed (va_wsS RX11 147 yX11_in wsX11_in) := goodIn_S (own := RX11) (idx := 147) (y := yX11_in) (wm_t (wm_l (wm_i 7 rfl))) (wm_t (wm_l (wm_i 8 rfl))) (wm_t (wm_l (wm_i 9 rfl))) ggX11_feed_X11_in
theorem dX11_feed_all0 : decode cX11_feed 0 = .ok (.aload_n 0, 1) ∧ decode cX11_feed 1 = .ok (.iconst 0, 1) ∧ decode cX11_feed 2 = .ok (.putfield 1, 3) ∧ decode cX11_feed 5 = .ok (.iload_n 3, 1) ∧ decode cX11_feed 6 = .ok (.i2l, 1) ∧ decode cX11_feed 7 = .ok (.lconst 1, 1) ∧ decode cX11_feed 8 = .ok (.ldc2_w 240, 3) ∧ decode cX11_feed 11 = .ok (.invokestatic 147, 3) ∧ decode cX11_feed 14 = .ok (.ifCond .ne 6, 3) ∧ decode cX11_feed 17 = .ok (.ldc 157, 2) ∧ decode cX11_feed 19 = .ok (.ireturn, 1) ∧ decode cX11_feed 20 = .ok (.aload_n 0, 1) := by decide +kernel
theorem dX11_feed_0 : decode cX11_feed 0 = .ok (.aload_n 0, 1) := dX11_feed_all0.1
theorem dX11_feed_1 : decode cX11_feed 1 = .ok (.iconst 0, 1) := dX11_feed_all0.2.1
theorem dX11_feed_2 : decode cX11_feed 2 = .ok (.putfield 1, 3) := dX11_feed_all0.2.2.1
theorem dX11_feed_5 : decode cX11_feed 5 = .ok (.iload_n 3, 1) := dX11_feed_all0.2.2.2.1
theorem dX11_feed_6 : decode cX11_feed 6 = .ok (.i2l, 1) := dX11_feed_all0.2.2.2.2.1
theorem dX11_feed_7 : decode cX11_feed 7 = .ok (.lconst 1, 1) := dX11_feed_all0.2.2.2.2.2.1
theorem dX11_feed_8 : decode cX11_feed 8 = .ok (.ldc2_w 240, 3) := dX11_feed_all0.2.2.2.2.2.2.1
theorem dX11_feed_11 : decode cX11_feed 11 = .ok (.invokestatic 147, 3) := dX11_feed_all0.2.2.2.2.2.2.2.1
theorem dX11_feed_14 : decode cX11_feed 14 = .ok (.ifCond .ne 6, 3) := dX11_feed_all0.2.2.2.2.2.2.2.2.1
theorem dX11_feed_17 : decode cX11_feed 17 = .ok (.ldc 157, 2) := dX11_feed_all0.2.2.2.2.2.2.2.2.2.1
theorem dX11_feed_19 : decode cX11_feed 19 = .ok (.ireturn, 1) := dX11_feed_all0.2.2.2.2.2.2.2.2.2.2.1
theorem dX11_feed_20 : decode cX11_feed 20 = .ok (.aload_n 0, 1) := dX11_feed_all0.2.2.2.2.2.2.2.2.2.2.2
theorem dX11_feed_all1 : decode cX11_feed 21 = .ok (.getfield 242, 3) ∧ decode cX11_feed 24 = .ok (.iload_n 3, 1) ∧ decode cX11_feed 25 = .ok (.iadd, 1) ∧ decode cX11_feed 26 = .ok (.sipush 300, 3) ∧ decode cX11_feed 29 = .ok (.if_icmp .le 6, 3) ∧ decode cX11_feed 32 = .ok (.ldc 184, 2) ∧ decode cX11_feed 34 = .ok (.ireturn, 1) ∧ decode cX11_feed 35 = .ok (.iload_n 3, 1) ∧ decode cX11_feed 36 = .ok (.iconst 1, 1) ∧ decode cX11_feed 37 = .ok (.isub, 1) ∧ decode cX11_feed 38 = .ok (.istore 4, 2) ∧ decode cX11_feed 40 = .ok (.iload 4, 2) := by decide +kernel
theorem dX11_feed_21 : decode cX11_feed 21 = .ok (.getfield 242, 3) := dX11_feed_all1.1
theorem dX11_feed_24 : decode cX11_feed 24 = .ok (.iload_n 3, 1) := dX11_feed_all1.2.1
theorem dX11_feed_25 : decode cX11_feed 25 = .ok (.iadd, 1) := dX11_feed_all1.2.2.1
theorem dX11_feed_26 : decode cX11_feed 26 = .ok (.sipush 300, 3) := dX11_feed_all1.2.2.2.1
theorem dX11_feed_29 : decode cX11_feed 29 = .ok (.if_icmp .le 6, 3) := dX11_feed_all1.2.2.2.2.1
theorem dX11_feed_32 : decode cX11_feed 32 = .ok (.ldc 184, 2) := dX11_feed_all1.2.2.2.2.2.1
theorem dX11_feed_34 : decode cX11_feed 34 = .ok (.ireturn, 1) := dX11_feed_all1.2.2.2.2.2.2.1
theorem dX11_feed_35 : decode cX11_feed 35 = .ok (.iload_n 3, 1) := dX11_feed_all1.2.2.2.2.2.2.2.1
theorem dX11_feed_36 : decode cX11_feed 36 = .ok (.iconst 1, 1) := dX11_feed_all1.2.2.2.2.2.2.2.2.1
theorem dX11_feed_37 : decode cX11_feed 37 = .ok (.isub, 1) := dX11_feed_all1.2.2.2.2.2.2.2.2.2.1
theorem dX11_feed_38 : decode cX11_feed 38 = .ok (.istore 4, 2) := dX11_feed_all1.2.2.2.2.2.2.2.2.2.2.1
theorem dX11_feed_40 : decode cX11_feed 40 = .ok (.iload 4, 2) := dX11_feed_all1.2.2.2.2.2.2.2.2.2.2.2
theorem dX11_feed_all2 : decode cX11_feed 42 = .ok (.ifCond .lt 40, 3) ∧ decode cX11_feed 45 = .ok (.aload_n 0, 1) ∧ decode cX11_feed 46 = .ok (.getfield 87, 3) ∧ decode cX11_feed 49 = .ok (.aload_n 0, 1) ∧ decode cX11_feed 50 = .ok (.getfield 242, 3) ∧ decode cX11_feed 53 = .ok (.lload_n 1, 1) ∧ decode cX11_feed 54 = .ok (.bipush 8, 2) ∧ decode cX11_feed 56 = .ok (.iload 4, 2) ∧ decode cX11_feed 58 = .ok (.imul, 1) ∧ decode cX11_feed 59 = .ok (.lshr, 1) ∧ decode cX11_feed 60 = .ok (.ldc2_w 245, 3) ∧ decode cX11_feed 63 = .ok (.land, 1) := by decide +kernel
theorem dX11_feed_42 : decode cX11_feed 42 = .ok (.ifCond .lt 40, 3) := dX11_feed_all2.1
theorem dX11_feed_45 : decode cX11_feed 45 = .ok (.aload_n 0, 1) := dX11_feed_all2.2.1
theorem dX11_feed_46 : decode cX11_feed 46 = .ok (.getfield 87, 3) := dX11_feed_all2.2.2.1
theorem dX11_feed_49 : decode cX11_feed 49 = .ok (.aload_n 0, 1) := dX11_feed_all2.2.2.2.1
theorem dX11_feed_50 : decode cX11_feed 50 = .ok (.getfield 242, 3) := dX11_feed_all2.2.2.2.2.1
theorem dX11_feed_53 : decode cX11_feed 53 = .ok (.lload_n 1, 1) := dX11_feed_all2.2.2.2.2.2.1
theorem dX11_feed_54 : decode cX11_feed 54 = .ok (.bipush 8, 2) := dX11_feed_all2.2.2.2.2.2.2.1
theorem dX11_feed_56 : decode cX11_feed 56 = .ok (.iload 4, 2) := dX11_feed_all2.2.2.2.2.2.2.2.1
theorem dX11_feed_58 : decode cX11_feed 58 = .ok (.imul, 1) := dX11_feed_all2.2.2.2.2.2.2.2.2.1
theorem dX11_feed_59 : decode cX11_feed 59 = .ok (.lshr, 1) := dX11_feed_all2.2.2.2.2.2.2.2.2.2.1
theorem dX11_feed_60 : decode cX11_feed 60 = .ok (.ldc2_w 245, 3) := dX11_feed_all2.2.2.2.2.2.2.2.2.2.2.1
theorem dX11_feed_63 : decode cX11_feed 63 = .ok (.land, 1) := dX11_feed_all2.2.2.2.2.2.2.2.2.2.2.2
theorem dX11_feed_all3 : decode cX11_feed 64 = .ok (.l2i, 1) ∧ decode cX11_feed 65 = .ok (.iastore, 1) ∧ decode cX11_feed 66 = .ok (.aload_n 0, 1) ∧ decode cX11_feed 67 = .ok (.dup, 1) ∧ decode cX11_feed 68 = .ok (.getfield 242, 3) ∧ decode cX11_feed 71 = .ok (.iconst 1, 1) ∧ decode cX11_feed 72 = .ok (.iadd, 1) ∧ decode cX11_feed 73 = .ok (.putfield 242, 3) ∧ decode cX11_feed 76 = .ok (.iinc 4 (-1), 3) ∧ decode cX11_feed 79 = .ok (.goto (-39), 3) ∧ decode cX11_feed 82 = .ok (.aload_n 0, 1) ∧ decode cX11_feed 83 = .ok (.getfield 242, 3) := by decide +kernel
theorem dX11_feed_64 : decode cX11_feed 64 = .ok (.l2i, 1) := dX11_feed_all3.1
theorem dX11_feed_65 : decode cX11_feed 65 = .ok (.iastore, 1) := dX11_feed_all3.2.1
theorem dX11_feed_66 : decode cX11_feed 66 = .ok (.aload_n 0, 1) := dX11_feed_all3.2.2.1
theorem dX11_feed_67 : decode cX11_feed 67 = .ok (.dup, 1) := dX11_feed_all3.2.2.2.1
theorem dX11_feed_68 : decode cX11_feed 68 = .ok (.getfield 242, 3) := dX11_feed_all3.2.2.2.2.1
theorem dX11_feed_71 : decode cX11_feed 71 = .ok (.iconst 1, 1) := dX11_feed_all3.2.2.2.2.2.1
theorem dX11_feed_72 : decode cX11_feed 72 = .ok (.iadd, 1) := dX11_feed_all3.2.2.2.2.2.2.1
theorem dX11_feed_73 : decode cX11_feed 73 = .ok (.putfield 242, 3) := dX11_feed_all3.2.2.2.2.2.2.2.1
theorem dX11_feed_76 : decode cX11_feed 76 = .ok (.iinc 4 (-1), 3) := dX11_feed_all3.2.2.2.2.2.2.2.2.1
theorem dX11_feed_79 : decode cX11_feed 79 = .ok (.goto (-39), 3) := dX11_feed_all3.2.2.2.2.2.2.2.2.2.1
theorem dX11_feed_82 : decode cX11_feed 82 = .ok (.aload_n 0, 1) := dX11_feed_all3.2.2.2.2.2.2.2.2.2.2.1
theorem dX11_feed_83 : decode cX11_feed 83 = .ok (.getfield 242, 3) := dX11_feed_all3.2.2.2.2.2.2.2.2.2.2.2
theorem dX11_feed_86 : decode cX11_feed 86 = .ok (.ireturn, 1) := by decide +kernel
theorem dX11_byteAt_all0 : decode cX11_byteAt 0 = .ok (.iload_n 1, 1) ∧ decode cX11_byteAt 1 = .ok (.aload_n 0, 1) ∧ decode cX11_byteAt 2 = .ok (.getfield 247, 3) ∧ decode cX11_byteAt 5 = .ok (.if_icmp .ge 12, 3) ∧ decode cX11_byteAt 8 = .ok (.aload_n 0, 1) ∧ decode cX11_byteAt 9 = .ok (.getfield 87, 3) ∧ decode cX11_byteAt 12 = .ok (.iload_n 1, 1) ∧ decode cX11_byteAt 13 = .ok (.iaload, 1) ∧ decode cX11_byteAt 14 = .ok (.goto 5, 3) ∧ decode cX11_byteAt 17 = .ok (.ldc 139, 2) ∧ decode cX11_byteAt 19 = .ok (.ireturn, 1) := by decide +kernel
theorem dX11_byteAt_0 : decode cX11_byteAt 0 = .ok (.iload_n 1, 1) := dX11_byteAt_all0.1
theorem dX11_byteAt_1 : decode cX11_byteAt 1 = .ok (.aload_n 0, 1) := dX11_byteAt_all0.2.1
theorem dX11_byteAt_2 : decode cX11_byteAt 2 = .ok (.getfield 247, 3) := dX11_byteAt_all0.2.2.1
theorem dX11_byteAt_5 : decode cX11_byteAt 5 = .ok (.if_icmp .ge 12, 3) := dX11_byteAt_all0.2.2.2.1
theorem dX11_byteAt_8 : decode cX11_byteAt 8 = .ok (.aload_n 0, 1) := dX11_byteAt_all0.2.2.2.2.1
theorem dX11_byteAt_9 : decode cX11_byteAt 9 = .ok (.getfield 87, 3) := dX11_byteAt_all0.2.2.2.2.2.1
theorem dX11_byteAt_12 : decode cX11_byteAt 12 = .ok (.iload_n 1, 1) := dX11_byteAt_all0.2.2.2.2.2.2.1
theorem dX11_byteAt_13 : decode cX11_byteAt 13 = .ok (.iaload, 1) := dX11_byteAt_all0.2.2.2.2.2.2.2.1
theorem dX11_byteAt_14 : decode cX11_byteAt 14 = .ok (.goto 5, 3) := dX11_byteAt_all0.2.2.2.2.2.2.2.2.1
theorem dX11_byteAt_17 : decode cX11_byteAt 17 = .ok (.ldc 139, 2) := dX11_byteAt_all0.2.2.2.2.2.2.2.2.2.1
theorem dX11_byteAt_19 : decode cX11_byteAt 19 = .ok (.ireturn, 1) := dX11_byteAt_all0.2.2.2.2.2.2.2.2.2.2
theorem ggX11_step_X11_byteAt : GoodIn wsX11_step wsX11_byteAt := goodIn_s (fun _ h => wm_t (wm_r (wm_l (wm_r h)))) Gd_X11_byteAt
theorem gX11_step_X11_byteAt : GoodIn wsX11_step (wsV RX11 253 RX11 yX11_byteAt wsX11_byteAt) := goodIn_V (own := RX11) (idx := 253) (C := RX11) (y := yX11_byteAt) (wm_t (wm_l (wm_i 5 rfl))) (wm_t (wm_l (wm_i 6 rfl))) (wm_t (wm_l (wm_i 7 rfl))) (wm_t (wm_l (wm_i 8 rfl))) ggX11_step_X11_byteAt
theorem ggX11_step_X11_isLetter : GoodIn wsX11_step wsX11_isLetter := goodIn_s (fun _ h => wm_t (wm_r (wm_r (wm_l h)))) Gd_X11_isLetter
theorem gX11_step_X11_isLetter : GoodIn wsX11_step (va_wsS RX11 262 yX11_isLetter wsX11_isLetter) := goodIn_S (own := RX11) (idx := 262) (y := yX11_isLetter) (wm_t (wm_l (wm_i 9 rfl))) (wm_t (wm_l (wm_i 10 rfl))) (wm_t (wm_l (wm_i 8 rfl))) ggX11_step_X11_isLetter
theorem ggX11_step_X11_isFigure : GoodIn wsX11_step wsX11_isFigure := goodIn_s (fun _ h => wm_t (wm_r (wm_r (wm_r h)))) Gd_X11_isFigure
theorem gX11_step_X11_isFigure : GoodIn wsX11_step (va_wsS RX11 265 yX11_isFigure wsX11_isFigure) := goodIn_S (own := RX11) (idx := 265) (y := yX11_isFigure) (wm_t (wm_l (wm_i 11 rfl))) (wm_t (wm_l (wm_i 12 rfl))) (wm_t (wm_l (wm_i 8 rfl))) ggX11_step_X11_isFigure
theorem dX11_step_all0 : decode cX11_step 0 = .ok (.aload_n 0, 1) ∧ decode cX11_step 1 = .ok (.aload_n 0, 1) ∧ decode cX11_step 2 = .ok (.getfield 250, 3) ∧ decode cX11_step 5 = .ok (.invokevirtual 253, 3) ∧ decode cX11_step 8 = .ok (.bipush 32, 2) ∧ decode cX11_step 10 = .ok (.if_icmp .eq 16, 3) ∧ decode cX11_step 13 = .ok (.aload_n 0, 1) ∧ decode cX11_step 14 = .ok (.aload_n 0, 1) ∧ decode cX11_step 15 = .ok (.getfield 250, 3) ∧ decode cX11_step 18 = .ok (.invokevirtual 253, 3) ∧ decode cX11_step 21 = .ok (.bipush 10, 2) ∧ decode cX11_step 23 = .ok (.if_icmp .ne 16, 3) := by decide +kernel
theorem dX11_step_0 : decode cX11_step 0 = .ok (.aload_n 0, 1) := dX11_step_all0.1
theorem dX11_step_1 : decode cX11_step 1 = .ok (.aload_n 0, 1) := dX11_step_all0.2.1
theorem dX11_step_2 : decode cX11_step 2 = .ok (.getfield 250, 3) := dX11_step_all0.2.2.1
theorem dX11_step_5 : decode cX11_step 5 = .ok (.invokevirtual 253, 3) := dX11_step_all0.2.2.2.1
theorem dX11_step_8 : decode cX11_step 8 = .ok (.bipush 32, 2) := dX11_step_all0.2.2.2.2.1
theorem dX11_step_10 : decode cX11_step 10 = .ok (.if_icmp .eq 16, 3) := dX11_step_all0.2.2.2.2.2.1
theorem dX11_step_13 : decode cX11_step 13 = .ok (.aload_n 0, 1) := dX11_step_all0.2.2.2.2.2.2.1
theorem dX11_step_14 : decode cX11_step 14 = .ok (.aload_n 0, 1) := dX11_step_all0.2.2.2.2.2.2.2.1
theorem dX11_step_15 : decode cX11_step 15 = .ok (.getfield 250, 3) := dX11_step_all0.2.2.2.2.2.2.2.2.1
theorem dX11_step_18 : decode cX11_step 18 = .ok (.invokevirtual 253, 3) := dX11_step_all0.2.2.2.2.2.2.2.2.2.1
theorem dX11_step_21 : decode cX11_step 21 = .ok (.bipush 10, 2) := dX11_step_all0.2.2.2.2.2.2.2.2.2.2.1
theorem dX11_step_23 : decode cX11_step 23 = .ok (.if_icmp .ne 16, 3) := dX11_step_all0.2.2.2.2.2.2.2.2.2.2.2
theorem dX11_step_all1 : decode cX11_step 26 = .ok (.aload_n 0, 1) ∧ decode cX11_step 27 = .ok (.dup, 1) ∧ decode cX11_step 28 = .ok (.getfield 250, 3) ∧ decode cX11_step 31 = .ok (.iconst 1, 1) ∧ decode cX11_step 32 = .ok (.iadd, 1) ∧ decode cX11_step 33 = .ok (.putfield 250, 3) ∧ decode cX11_step 36 = .ok (.goto (-36), 3) ∧ decode cX11_step 39 = .ok (.aload_n 0, 1) ∧ decode cX11_step 40 = .ok (.aload_n 0, 1) ∧ decode cX11_step 41 = .ok (.getfield 250, 3) ∧ decode cX11_step 44 = .ok (.putfield 256, 3) ∧ decode cX11_step 47 = .ok (.aload_n 0, 1) := by decide +kernel
theorem dX11_step_26 : decode cX11_step 26 = .ok (.aload_n 0, 1) := dX11_step_all1.1
theorem dX11_step_27 : decode cX11_step 27 = .ok (.dup, 1) := dX11_step_all1.2.1
theorem dX11_step_28 : decode cX11_step 28 = .ok (.getfield 250, 3) := dX11_step_all1.2.2.1
theorem dX11_step_31 : decode cX11_step 31 = .ok (.iconst 1, 1) := dX11_step_all1.2.2.2.1
theorem dX11_step_32 : decode cX11_step 32 = .ok (.iadd, 1) := dX11_step_all1.2.2.2.2.1
theorem dX11_step_33 : decode cX11_step 33 = .ok (.putfield 250, 3) := dX11_step_all1.2.2.2.2.2.1
theorem dX11_step_36 : decode cX11_step 36 = .ok (.goto (-36), 3) := dX11_step_all1.2.2.2.2.2.2.1
theorem dX11_step_39 : decode cX11_step 39 = .ok (.aload_n 0, 1) := dX11_step_all1.2.2.2.2.2.2.2.1
theorem dX11_step_40 : decode cX11_step 40 = .ok (.aload_n 0, 1) := dX11_step_all1.2.2.2.2.2.2.2.2.1
theorem dX11_step_41 : decode cX11_step 41 = .ok (.getfield 250, 3) := dX11_step_all1.2.2.2.2.2.2.2.2.2.1
theorem dX11_step_44 : decode cX11_step 44 = .ok (.putfield 256, 3) := dX11_step_all1.2.2.2.2.2.2.2.2.2.2.1
theorem dX11_step_47 : decode cX11_step 47 = .ok (.aload_n 0, 1) := dX11_step_all1.2.2.2.2.2.2.2.2.2.2.2
theorem dX11_step_all2 : decode cX11_step 48 = .ok (.aload_n 0, 1) ∧ decode cX11_step 49 = .ok (.getfield 250, 3) ∧ decode cX11_step 52 = .ok (.invokevirtual 253, 3) ∧ decode cX11_step 55 = .ok (.istore_n 1, 1) ∧ decode cX11_step 56 = .ok (.iload_n 1, 1) ∧ decode cX11_step 57 = .ok (.ldc 139, 2) ∧ decode cX11_step 59 = .ok (.if_icmp .ne 11, 3) ∧ decode cX11_step 62 = .ok (.aload_n 0, 1) ∧ decode cX11_step 63 = .ok (.iconst 1, 1) ∧ decode cX11_step 64 = .ok (.putfield 259, 3) ∧ decode cX11_step 67 = .ok (.goto 153, 3) ∧ decode cX11_step 70 = .ok (.iload_n 1, 1) := by decide +kernel
theorem dX11_step_48 : decode cX11_step 48 = .ok (.aload_n 0, 1) := dX11_step_all2.1
theorem dX11_step_49 : decode cX11_step 49 = .ok (.getfield 250, 3) := dX11_step_all2.2.1
theorem dX11_step_52 : decode cX11_step 52 = .ok (.invokevirtual 253, 3) := dX11_step_all2.2.2.1
theorem dX11_step_55 : decode cX11_step 55 = .ok (.istore_n 1, 1) := dX11_step_all2.2.2.2.1
theorem dX11_step_56 : decode cX11_step 56 = .ok (.iload_n 1, 1) := dX11_step_all2.2.2.2.2.1
theorem dX11_step_57 : decode cX11_step 57 = .ok (.ldc 139, 2) := dX11_step_all2.2.2.2.2.2.1
theorem dX11_step_59 : decode cX11_step 59 = .ok (.if_icmp .ne 11, 3) := dX11_step_all2.2.2.2.2.2.2.1
theorem dX11_step_62 : decode cX11_step 62 = .ok (.aload_n 0, 1) := dX11_step_all2.2.2.2.2.2.2.2.1
theorem dX11_step_63 : decode cX11_step 63 = .ok (.iconst 1, 1) := dX11_step_all2.2.2.2.2.2.2.2.2.1
theorem dX11_step_64 : decode cX11_step 64 = .ok (.putfield 259, 3) := dX11_step_all2.2.2.2.2.2.2.2.2.2.1
theorem dX11_step_67 : decode cX11_step 67 = .ok (.goto 153, 3) := dX11_step_all2.2.2.2.2.2.2.2.2.2.2.1
theorem dX11_step_70 : decode cX11_step 70 = .ok (.iload_n 1, 1) := dX11_step_all2.2.2.2.2.2.2.2.2.2.2.2
theorem dX11_step_all3 : decode cX11_step 71 = .ok (.invokestatic 262, 3) ∧ decode cX11_step 74 = .ok (.ifCond .eq 56, 3) ∧ decode cX11_step 77 = .ok (.aload_n 0, 1) ∧ decode cX11_step 78 = .ok (.aload_n 0, 1) ∧ decode cX11_step 79 = .ok (.getfield 250, 3) ∧ decode cX11_step 82 = .ok (.invokevirtual 253, 3) ∧ decode cX11_step 85 = .ok (.invokestatic 262, 3) ∧ decode cX11_step 88 = .ok (.ifCond .eq 16, 3) ∧ decode cX11_step 91 = .ok (.aload_n 0, 1) ∧ decode cX11_step 92 = .ok (.dup, 1) ∧ decode cX11_step 93 = .ok (.getfield 250, 3) ∧ decode cX11_step 96 = .ok (.iconst 1, 1) := by decide +kernel
theorem dX11_step_71 : decode cX11_step 71 = .ok (.invokestatic 262, 3) := dX11_step_all3.1
theorem dX11_step_74 : decode cX11_step 74 = .ok (.ifCond .eq 56, 3) := dX11_step_all3.2.1
theorem dX11_step_77 : decode cX11_step 77 = .ok (.aload_n 0, 1) := dX11_step_all3.2.2.1
theorem dX11_step_78 : decode cX11_step 78 = .ok (.aload_n 0, 1) := dX11_step_all3.2.2.2.1
theorem dX11_step_79 : decode cX11_step 79 = .ok (.getfield 250, 3) := dX11_step_all3.2.2.2.2.1
theorem dX11_step_82 : decode cX11_step 82 = .ok (.invokevirtual 253, 3) := dX11_step_all3.2.2.2.2.2.1
theorem dX11_step_85 : decode cX11_step 85 = .ok (.invokestatic 262, 3) := dX11_step_all3.2.2.2.2.2.2.1
theorem dX11_step_88 : decode cX11_step 88 = .ok (.ifCond .eq 16, 3) := dX11_step_all3.2.2.2.2.2.2.2.1
theorem dX11_step_91 : decode cX11_step 91 = .ok (.aload_n 0, 1) := dX11_step_all3.2.2.2.2.2.2.2.2.1
theorem dX11_step_92 : decode cX11_step 92 = .ok (.dup, 1) := dX11_step_all3.2.2.2.2.2.2.2.2.2.1
theorem dX11_step_93 : decode cX11_step 93 = .ok (.getfield 250, 3) := dX11_step_all3.2.2.2.2.2.2.2.2.2.2.1
theorem dX11_step_96 : decode cX11_step 96 = .ok (.iconst 1, 1) := dX11_step_all3.2.2.2.2.2.2.2.2.2.2.2
theorem dX11_step_all4 : decode cX11_step 97 = .ok (.iadd, 1) ∧ decode cX11_step 98 = .ok (.putfield 250, 3) ∧ decode cX11_step 101 = .ok (.goto (-24), 3) ∧ decode cX11_step 104 = .ok (.aload_n 0, 1) ∧ decode cX11_step 105 = .ok (.aload_n 0, 1) ∧ decode cX11_step 106 = .ok (.getfield 250, 3) ∧ decode cX11_step 109 = .ok (.aload_n 0, 1) ∧ decode cX11_step 110 = .ok (.getfield 256, 3) ∧ decode cX11_step 113 = .ok (.isub, 1) ∧ decode cX11_step 114 = .ok (.bipush 6, 2) ∧ decode cX11_step 116 = .ok (.if_icmp .le 7, 3) ∧ decode cX11_step 119 = .ok (.iconst 0, 1) := by decide +kernel
theorem dX11_step_97 : decode cX11_step 97 = .ok (.iadd, 1) := dX11_step_all4.1
theorem dX11_step_98 : decode cX11_step 98 = .ok (.putfield 250, 3) := dX11_step_all4.2.1
theorem dX11_step_101 : decode cX11_step 101 = .ok (.goto (-24), 3) := dX11_step_all4.2.2.1
theorem dX11_step_104 : decode cX11_step 104 = .ok (.aload_n 0, 1) := dX11_step_all4.2.2.2.1
theorem dX11_step_105 : decode cX11_step 105 = .ok (.aload_n 0, 1) := dX11_step_all4.2.2.2.2.1
theorem dX11_step_106 : decode cX11_step 106 = .ok (.getfield 250, 3) := dX11_step_all4.2.2.2.2.2.1
theorem dX11_step_109 : decode cX11_step 109 = .ok (.aload_n 0, 1) := dX11_step_all4.2.2.2.2.2.2.1
theorem dX11_step_110 : decode cX11_step 110 = .ok (.getfield 256, 3) := dX11_step_all4.2.2.2.2.2.2.2.1
theorem dX11_step_113 : decode cX11_step 113 = .ok (.isub, 1) := dX11_step_all4.2.2.2.2.2.2.2.2.1
theorem dX11_step_114 : decode cX11_step 114 = .ok (.bipush 6, 2) := dX11_step_all4.2.2.2.2.2.2.2.2.2.1
theorem dX11_step_116 : decode cX11_step 116 = .ok (.if_icmp .le 7, 3) := dX11_step_all4.2.2.2.2.2.2.2.2.2.2.1
theorem dX11_step_119 : decode cX11_step 119 = .ok (.iconst 0, 1) := dX11_step_all4.2.2.2.2.2.2.2.2.2.2.2
theorem dX11_step_all5 : decode cX11_step 120 = .ok (.goto 4, 3) ∧ decode cX11_step 123 = .ok (.iconst 2, 1) ∧ decode cX11_step 124 = .ok (.putfield 259, 3) ∧ decode cX11_step 127 = .ok (.goto 93, 3) ∧ decode cX11_step 130 = .ok (.iload_n 1, 1) ∧ decode cX11_step 131 = .ok (.invokestatic 265, 3) ∧ decode cX11_step 134 = .ok (.ifCond .eq 55, 3) ∧ decode cX11_step 137 = .ok (.aload_n 0, 1) ∧ decode cX11_step 138 = .ok (.aload_n 0, 1) ∧ decode cX11_step 139 = .ok (.getfield 250, 3) ∧ decode cX11_step 142 = .ok (.invokevirtual 253, 3) ∧ decode cX11_step 145 = .ok (.invokestatic 265, 3) := by decide +kernel
theorem dX11_step_120 : decode cX11_step 120 = .ok (.goto 4, 3) := dX11_step_all5.1
theorem dX11_step_123 : decode cX11_step 123 = .ok (.iconst 2, 1) := dX11_step_all5.2.1
theorem dX11_step_124 : decode cX11_step 124 = .ok (.putfield 259, 3) := dX11_step_all5.2.2.1
theorem dX11_step_127 : decode cX11_step 127 = .ok (.goto 93, 3) := dX11_step_all5.2.2.2.1
theorem dX11_step_130 : decode cX11_step 130 = .ok (.iload_n 1, 1) := dX11_step_all5.2.2.2.2.1
theorem dX11_step_131 : decode cX11_step 131 = .ok (.invokestatic 265, 3) := dX11_step_all5.2.2.2.2.2.1
theorem dX11_step_134 : decode cX11_step 134 = .ok (.ifCond .eq 55, 3) := dX11_step_all5.2.2.2.2.2.2.1
theorem dX11_step_137 : decode cX11_step 137 = .ok (.aload_n 0, 1) := dX11_step_all5.2.2.2.2.2.2.2.1
theorem dX11_step_138 : decode cX11_step 138 = .ok (.aload_n 0, 1) := dX11_step_all5.2.2.2.2.2.2.2.2.1
theorem dX11_step_139 : decode cX11_step 139 = .ok (.getfield 250, 3) := dX11_step_all5.2.2.2.2.2.2.2.2.2.1
theorem dX11_step_142 : decode cX11_step 142 = .ok (.invokevirtual 253, 3) := dX11_step_all5.2.2.2.2.2.2.2.2.2.2.1
theorem dX11_step_145 : decode cX11_step 145 = .ok (.invokestatic 265, 3) := dX11_step_all5.2.2.2.2.2.2.2.2.2.2.2
theorem dX11_step_all6 : decode cX11_step 148 = .ok (.ifCond .eq 16, 3) ∧ decode cX11_step 151 = .ok (.aload_n 0, 1) ∧ decode cX11_step 152 = .ok (.dup, 1) ∧ decode cX11_step 153 = .ok (.getfield 250, 3) ∧ decode cX11_step 156 = .ok (.iconst 1, 1) ∧ decode cX11_step 157 = .ok (.iadd, 1) ∧ decode cX11_step 158 = .ok (.putfield 250, 3) ∧ decode cX11_step 161 = .ok (.goto (-24), 3) ∧ decode cX11_step 164 = .ok (.aload_n 0, 1) ∧ decode cX11_step 165 = .ok (.aload_n 0, 1) ∧ decode cX11_step 166 = .ok (.getfield 250, 3) ∧ decode cX11_step 169 = .ok (.aload_n 0, 1) := by decide +kernel
theorem dX11_step_148 : decode cX11_step 148 = .ok (.ifCond .eq 16, 3) := dX11_step_all6.1
theorem dX11_step_151 : decode cX11_step 151 = .ok (.aload_n 0, 1) := dX11_step_all6.2.1
theorem dX11_step_152 : decode cX11_step 152 = .ok (.dup, 1) := dX11_step_all6.2.2.1
theorem dX11_step_153 : decode cX11_step 153 = .ok (.getfield 250, 3) := dX11_step_all6.2.2.2.1
theorem dX11_step_156 : decode cX11_step 156 = .ok (.iconst 1, 1) := dX11_step_all6.2.2.2.2.1
theorem dX11_step_157 : decode cX11_step 157 = .ok (.iadd, 1) := dX11_step_all6.2.2.2.2.2.1
theorem dX11_step_158 : decode cX11_step 158 = .ok (.putfield 250, 3) := dX11_step_all6.2.2.2.2.2.2.1
theorem dX11_step_161 : decode cX11_step 161 = .ok (.goto (-24), 3) := dX11_step_all6.2.2.2.2.2.2.2.1
theorem dX11_step_164 : decode cX11_step 164 = .ok (.aload_n 0, 1) := dX11_step_all6.2.2.2.2.2.2.2.2.1
theorem dX11_step_165 : decode cX11_step 165 = .ok (.aload_n 0, 1) := dX11_step_all6.2.2.2.2.2.2.2.2.2.1
theorem dX11_step_166 : decode cX11_step 166 = .ok (.getfield 250, 3) := dX11_step_all6.2.2.2.2.2.2.2.2.2.2.1
theorem dX11_step_169 : decode cX11_step 169 = .ok (.aload_n 0, 1) := dX11_step_all6.2.2.2.2.2.2.2.2.2.2.2
theorem dX11_step_all7 : decode cX11_step 170 = .ok (.getfield 256, 3) ∧ decode cX11_step 173 = .ok (.isub, 1) ∧ decode cX11_step 174 = .ok (.iconst 4, 1) ∧ decode cX11_step 175 = .ok (.if_icmp .le 7, 3) ∧ decode cX11_step 178 = .ok (.iconst 0, 1) ∧ decode cX11_step 179 = .ok (.goto 4, 3) ∧ decode cX11_step 182 = .ok (.iconst 3, 1) ∧ decode cX11_step 183 = .ok (.putfield 259, 3) ∧ decode cX11_step 186 = .ok (.goto 34, 3) ∧ decode cX11_step 189 = .ok (.aload_n 0, 1) ∧ decode cX11_step 190 = .ok (.dup, 1) ∧ decode cX11_step 191 = .ok (.getfield 250, 3) := by decide +kernel
theorem dX11_step_170 : decode cX11_step 170 = .ok (.getfield 256, 3) := dX11_step_all7.1
theorem dX11_step_173 : decode cX11_step 173 = .ok (.isub, 1) := dX11_step_all7.2.1
theorem dX11_step_174 : decode cX11_step 174 = .ok (.iconst 4, 1) := dX11_step_all7.2.2.1
theorem dX11_step_175 : decode cX11_step 175 = .ok (.if_icmp .le 7, 3) := dX11_step_all7.2.2.2.1
theorem dX11_step_178 : decode cX11_step 178 = .ok (.iconst 0, 1) := dX11_step_all7.2.2.2.2.1
theorem dX11_step_179 : decode cX11_step 179 = .ok (.goto 4, 3) := dX11_step_all7.2.2.2.2.2.1
theorem dX11_step_182 : decode cX11_step 182 = .ok (.iconst 3, 1) := dX11_step_all7.2.2.2.2.2.2.1
theorem dX11_step_183 : decode cX11_step 183 = .ok (.putfield 259, 3) := dX11_step_all7.2.2.2.2.2.2.2.1
theorem dX11_step_186 : decode cX11_step 186 = .ok (.goto 34, 3) := dX11_step_all7.2.2.2.2.2.2.2.2.1
theorem dX11_step_189 : decode cX11_step 189 = .ok (.aload_n 0, 1) := dX11_step_all7.2.2.2.2.2.2.2.2.2.1
theorem dX11_step_190 : decode cX11_step 190 = .ok (.dup, 1) := dX11_step_all7.2.2.2.2.2.2.2.2.2.2.1
theorem dX11_step_191 : decode cX11_step 191 = .ok (.getfield 250, 3) := dX11_step_all7.2.2.2.2.2.2.2.2.2.2.2
theorem dX11_step_all8 : decode cX11_step 194 = .ok (.iconst 1, 1) ∧ decode cX11_step 195 = .ok (.iadd, 1) ∧ decode cX11_step 196 = .ok (.putfield 250, 3) ∧ decode cX11_step 199 = .ok (.aload_n 0, 1) ∧ decode cX11_step 200 = .ok (.iload_n 1, 1) ∧ decode cX11_step 201 = .ok (.bipush 59, 2) ∧ decode cX11_step 203 = .ok (.if_icmp .eq 9, 3) ∧ decode cX11_step 206 = .ok (.iload_n 1, 1) ∧ decode cX11_step 207 = .ok (.bipush 62, 2) ∧ decode cX11_step 209 = .ok (.if_icmp .ne 7, 3) ∧ decode cX11_step 212 = .ok (.iconst 4, 1) ∧ decode cX11_step 213 = .ok (.goto 4, 3) := by decide +kernel
theorem dX11_step_194 : decode cX11_step 194 = .ok (.iconst 1, 1) := dX11_step_all8.1
theorem dX11_step_195 : decode cX11_step 195 = .ok (.iadd, 1) := dX11_step_all8.2.1
theorem dX11_step_196 : decode cX11_step 196 = .ok (.putfield 250, 3) := dX11_step_all8.2.2.1
theorem dX11_step_199 : decode cX11_step 199 = .ok (.aload_n 0, 1) := dX11_step_all8.2.2.2.1
theorem dX11_step_200 : decode cX11_step 200 = .ok (.iload_n 1, 1) := dX11_step_all8.2.2.2.2.1
theorem dX11_step_201 : decode cX11_step 201 = .ok (.bipush 59, 2) := dX11_step_all8.2.2.2.2.2.1
theorem dX11_step_203 : decode cX11_step 203 = .ok (.if_icmp .eq 9, 3) := dX11_step_all8.2.2.2.2.2.2.1
theorem dX11_step_206 : decode cX11_step 206 = .ok (.iload_n 1, 1) := dX11_step_all8.2.2.2.2.2.2.2.1
theorem dX11_step_207 : decode cX11_step 207 = .ok (.bipush 62, 2) := dX11_step_all8.2.2.2.2.2.2.2.2.1
theorem dX11_step_209 : decode cX11_step 209 = .ok (.if_icmp .ne 7, 3) := dX11_step_all8.2.2.2.2.2.2.2.2.2.1
theorem dX11_step_212 : decode cX11_step 212 = .ok (.iconst 4, 1) := dX11_step_all8.2.2.2.2.2.2.2.2.2.2.1
theorem dX11_step_213 : decode cX11_step 213 = .ok (.goto 4, 3) := dX11_step_all8.2.2.2.2.2.2.2.2.2.2.2
theorem dX11_step_all9 : decode cX11_step 216 = .ok (.iconst 0, 1) ∧ decode cX11_step 217 = .ok (.putfield 259, 3) ∧ decode cX11_step 220 = .ok (.aload_n 0, 1) ∧ decode cX11_step 221 = .ok (.aload_n 0, 1) ∧ decode cX11_step 222 = .ok (.getfield 250, 3) ∧ decode cX11_step 225 = .ok (.putfield 268, 3) ∧ decode cX11_step 228 = .ok (.return_, 1) := by decide +kernel
theorem dX11_step_216 : decode cX11_step 216 = .ok (.iconst 0, 1) := dX11_step_all9.1
theorem dX11_step_217 : decode cX11_step 217 = .ok (.putfield 259, 3) := dX11_step_all9.2.1
theorem dX11_step_220 : decode cX11_step 220 = .ok (.aload_n 0, 1) := dX11_step_all9.2.2.1
theorem dX11_step_221 : decode cX11_step 221 = .ok (.aload_n 0, 1) := dX11_step_all9.2.2.2.1
theorem dX11_step_222 : decode cX11_step 222 = .ok (.getfield 250, 3) := dX11_step_all9.2.2.2.2.1
theorem dX11_step_225 : decode cX11_step 225 = .ok (.putfield 268, 3) := dX11_step_all9.2.2.2.2.2.1
theorem dX11_step_228 : decode cX11_step 228 = .ok (.return_, 1) := dX11_step_all9.2.2.2.2.2.2
theorem dX11_bad_all0 : decode cX11_bad 0 = .ok (.aload_n 0, 1) ∧ decode cX11_bad 1 = .ok (.getfield 271, 3) ∧ decode cX11_bad 4 = .ok (.ifCond .ne 16, 3) ∧ decode cX11_bad 7 = .ok (.aload_n 0, 1) ∧ decode cX11_bad 8 = .ok (.iload_n 1, 1) ∧ decode cX11_bad 9 = .ok (.putfield 271, 3) ∧ decode cX11_bad 12 = .ok (.aload_n 0, 1) ∧ decode cX11_bad 13 = .ok (.aload_n 0, 1) ∧ decode cX11_bad 14 = .ok (.getfield 256, 3) ∧ decode cX11_bad 17 = .ok (.putfield 274, 3) ∧ decode cX11_bad 20 = .ok (.return_, 1) := by decide +kernel
theorem dX11_bad_0 : decode cX11_bad 0 = .ok (.aload_n 0, 1) := dX11_bad_all0.1
theorem dX11_bad_1 : decode cX11_bad 1 = .ok (.getfield 271, 3) := dX11_bad_all0.2.1
theorem dX11_bad_4 : decode cX11_bad 4 = .ok (.ifCond .ne 16, 3) := dX11_bad_all0.2.2.1
theorem dX11_bad_7 : decode cX11_bad 7 = .ok (.aload_n 0, 1) := dX11_bad_all0.2.2.2.1
theorem dX11_bad_8 : decode cX11_bad 8 = .ok (.iload_n 1, 1) := dX11_bad_all0.2.2.2.2.1
theorem dX11_bad_9 : decode cX11_bad 9 = .ok (.putfield 271, 3) := dX11_bad_all0.2.2.2.2.2.1
theorem dX11_bad_12 : decode cX11_bad 12 = .ok (.aload_n 0, 1) := dX11_bad_all0.2.2.2.2.2.2.1
theorem dX11_bad_13 : decode cX11_bad 13 = .ok (.aload_n 0, 1) := dX11_bad_all0.2.2.2.2.2.2.2.1
theorem dX11_bad_14 : decode cX11_bad 14 = .ok (.getfield 256, 3) := dX11_bad_all0.2.2.2.2.2.2.2.2.1
theorem dX11_bad_17 : decode cX11_bad 17 = .ok (.putfield 274, 3) := dX11_bad_all0.2.2.2.2.2.2.2.2.2.1
theorem dX11_bad_20 : decode cX11_bad 20 = .ok (.return_, 1) := dX11_bad_all0.2.2.2.2.2.2.2.2.2.2
theorem ggX11_need_X11_bad : GoodIn wsX11_need wsX11_bad := goodIn_s (fun _ h => wm_t (wm_r (wm_l (wm_r h)))) Gd_X11_bad
theorem gX11_need_X11_bad : GoodIn wsX11_need (wsV RX11 277 RX11 yX11_bad wsX11_bad) := goodIn_V (own := RX11) (idx := 277) (C := RX11) (y := yX11_bad) (wm_t (wm_l (wm_i 1 rfl))) (wm_t (wm_l (wm_i 2 rfl))) (wm_t (wm_l (wm_i 3 rfl))) (wm_t (wm_l (wm_i 4 rfl))) ggX11_need_X11_bad
theorem ggX11_need_X11_step : GoodIn wsX11_need wsX11_step := goodIn_s (fun _ h => wm_t (wm_r (wm_r h))) Gd_X11_step
theorem gX11_need_X11_step : GoodIn wsX11_need (wsV RX11 280 RX11 yX11_step wsX11_step) := goodIn_V (own := RX11) (idx := 280) (C := RX11) (y := yX11_step) (wm_t (wm_l (wm_i 5 rfl))) (wm_t (wm_l (wm_i 6 rfl))) (wm_t (wm_l (wm_i 7 rfl))) (wm_t (wm_l (wm_i 4 rfl))) ggX11_need_X11_step
theorem dX11_need_all0 : decode cX11_need 0 = .ok (.iload_n 1, 1) ∧ decode cX11_need 1 = .ok (.ifCond .ne 8, 3) ∧ decode cX11_need 4 = .ok (.aload_n 0, 1) ∧ decode cX11_need 5 = .ok (.iconst 1, 1) ∧ decode cX11_need 6 = .ok (.invokevirtual 277, 3) ∧ decode cX11_need 9 = .ok (.aload_n 0, 1) ∧ decode cX11_need 10 = .ok (.getfield 271, 3) ∧ decode cX11_need 13 = .ok (.ifCond .ne 7, 3) ∧ decode cX11_need 16 = .ok (.aload_n 0, 1) ∧ decode cX11_need 17 = .ok (.invokevirtual 280, 3) ∧ decode cX11_need 20 = .ok (.return_, 1) := by decide +kernel
theorem dX11_need_0 : decode cX11_need 0 = .ok (.iload_n 1, 1) := dX11_need_all0.1
theorem dX11_need_1 : decode cX11_need 1 = .ok (.ifCond .ne 8, 3) := dX11_need_all0.2.1
theorem dX11_need_4 : decode cX11_need 4 = .ok (.aload_n 0, 1) := dX11_need_all0.2.2.1
theorem dX11_need_5 : decode cX11_need 5 = .ok (.iconst 1, 1) := dX11_need_all0.2.2.2.1
theorem dX11_need_6 : decode cX11_need 6 = .ok (.invokevirtual 277, 3) := dX11_need_all0.2.2.2.2.1
theorem dX11_need_9 : decode cX11_need 9 = .ok (.aload_n 0, 1) := dX11_need_all0.2.2.2.2.2.1
theorem dX11_need_10 : decode cX11_need 10 = .ok (.getfield 271, 3) := dX11_need_all0.2.2.2.2.2.2.1
theorem dX11_need_13 : decode cX11_need 13 = .ok (.ifCond .ne 7, 3) := dX11_need_all0.2.2.2.2.2.2.2.1
theorem dX11_need_16 : decode cX11_need 16 = .ok (.aload_n 0, 1) := dX11_need_all0.2.2.2.2.2.2.2.2.1
theorem dX11_need_17 : decode cX11_need 17 = .ok (.invokevirtual 280, 3) := dX11_need_all0.2.2.2.2.2.2.2.2.2.1
theorem dX11_need_20 : decode cX11_need 20 = .ok (.return_, 1) := dX11_need_all0.2.2.2.2.2.2.2.2.2.2
theorem dX11_is_all0 : decode cX11_is 0 = .ok (.aload_n 0, 1) ∧ decode cX11_is 1 = .ok (.getfield 259, 3) ∧ decode cX11_is 4 = .ok (.iconst 4, 1) ∧ decode cX11_is 5 = .ok (.if_icmp .ne 20, 3) ∧ decode cX11_is 8 = .ok (.aload_n 0, 1) ∧ decode cX11_is 9 = .ok (.getfield 87, 3) ∧ decode cX11_is 12 = .ok (.aload_n 0, 1) ∧ decode cX11_is 13 = .ok (.getfield 256, 3) ∧ decode cX11_is 16 = .ok (.iaload, 1) ∧ decode cX11_is 17 = .ok (.iload_n 1, 1) ∧ decode cX11_is 18 = .ok (.if_icmp .ne 7, 3) ∧ decode cX11_is 21 = .ok (.iconst 1, 1) := by decide +kernel
theorem dX11_is_0 : decode cX11_is 0 = .ok (.aload_n 0, 1) := dX11_is_all0.1
theorem dX11_is_1 : decode cX11_is 1 = .ok (.getfield 259, 3) := dX11_is_all0.2.1
theorem dX11_is_4 : decode cX11_is 4 = .ok (.iconst 4, 1) := dX11_is_all0.2.2.1
theorem dX11_is_5 : decode cX11_is 5 = .ok (.if_icmp .ne 20, 3) := dX11_is_all0.2.2.2.1
theorem dX11_is_8 : decode cX11_is 8 = .ok (.aload_n 0, 1) := dX11_is_all0.2.2.2.2.1
theorem dX11_is_9 : decode cX11_is 9 = .ok (.getfield 87, 3) := dX11_is_all0.2.2.2.2.2.1
theorem dX11_is_12 : decode cX11_is 12 = .ok (.aload_n 0, 1) := dX11_is_all0.2.2.2.2.2.2.1
theorem dX11_is_13 : decode cX11_is 13 = .ok (.getfield 256, 3) := dX11_is_all0.2.2.2.2.2.2.2.1
theorem dX11_is_16 : decode cX11_is 16 = .ok (.iaload, 1) := dX11_is_all0.2.2.2.2.2.2.2.2.1
theorem dX11_is_17 : decode cX11_is 17 = .ok (.iload_n 1, 1) := dX11_is_all0.2.2.2.2.2.2.2.2.2.1
theorem dX11_is_18 : decode cX11_is 18 = .ok (.if_icmp .ne 7, 3) := dX11_is_all0.2.2.2.2.2.2.2.2.2.2.1
theorem dX11_is_21 : decode cX11_is 21 = .ok (.iconst 1, 1) := dX11_is_all0.2.2.2.2.2.2.2.2.2.2.2
theorem dX11_is_all1 : decode cX11_is 22 = .ok (.goto 4, 3) ∧ decode cX11_is 25 = .ok (.iconst 0, 1) ∧ decode cX11_is 26 = .ok (.ireturn, 1) := by decide +kernel
theorem dX11_is_22 : decode cX11_is 22 = .ok (.goto 4, 3) := dX11_is_all1.1
theorem dX11_is_25 : decode cX11_is 25 = .ok (.iconst 0, 1) := dX11_is_all1.2.1
theorem dX11_is_26 : decode cX11_is 26 = .ok (.ireturn, 1) := dX11_is_all1.2.2
theorem dX11_word_all0 : decode cX11_word 0 = .ok (.lconst 0, 1) ∧ decode cX11_word 1 = .ok (.lstore_n 1, 1) ∧ decode cX11_word 2 = .ok (.aload_n 0, 1) ∧ decode cX11_word 3 = .ok (.getfield 256, 3) ∧ decode cX11_word 6 = .ok (.istore_n 3, 1) ∧ decode cX11_word 7 = .ok (.iload_n 3, 1) ∧ decode cX11_word 8 = .ok (.aload_n 0, 1) ∧ decode cX11_word 9 = .ok (.getfield 268, 3) ∧ decode cX11_word 12 = .ok (.if_icmp .ge 30, 3) ∧ decode cX11_word 15 = .ok (.aload_n 0, 1) ∧ decode cX11_word 16 = .ok (.getfield 259, 3) ∧ decode cX11_word 19 = .ok (.iconst 2, 1) := by decide +kernel
theorem dX11_word_0 : decode cX11_word 0 = .ok (.lconst 0, 1) := dX11_word_all0.1
theorem dX11_word_1 : decode cX11_word 1 = .ok (.lstore_n 1, 1) := dX11_word_all0.2.1
theorem dX11_word_2 : decode cX11_word 2 = .ok (.aload_n 0, 1) := dX11_word_all0.2.2.1
theorem dX11_word_3 : decode cX11_word 3 = .ok (.getfield 256, 3) := dX11_word_all0.2.2.2.1
theorem dX11_word_6 : decode cX11_word 6 = .ok (.istore_n 3, 1) := dX11_word_all0.2.2.2.2.1
theorem dX11_word_7 : decode cX11_word 7 = .ok (.iload_n 3, 1) := dX11_word_all0.2.2.2.2.2.1
theorem dX11_word_8 : decode cX11_word 8 = .ok (.aload_n 0, 1) := dX11_word_all0.2.2.2.2.2.2.1
theorem dX11_word_9 : decode cX11_word 9 = .ok (.getfield 268, 3) := dX11_word_all0.2.2.2.2.2.2.2.1
theorem dX11_word_12 : decode cX11_word 12 = .ok (.if_icmp .ge 30, 3) := dX11_word_all0.2.2.2.2.2.2.2.2.1
theorem dX11_word_15 : decode cX11_word 15 = .ok (.aload_n 0, 1) := dX11_word_all0.2.2.2.2.2.2.2.2.2.1
theorem dX11_word_16 : decode cX11_word 16 = .ok (.getfield 259, 3) := dX11_word_all0.2.2.2.2.2.2.2.2.2.2.1
theorem dX11_word_19 : decode cX11_word 19 = .ok (.iconst 2, 1) := dX11_word_all0.2.2.2.2.2.2.2.2.2.2.2
theorem dX11_word_all1 : decode cX11_word 20 = .ok (.if_icmp .ne 22, 3) ∧ decode cX11_word 23 = .ok (.lload_n 1, 1) ∧ decode cX11_word 24 = .ok (.bipush 8, 2) ∧ decode cX11_word 26 = .ok (.lshl, 1) ∧ decode cX11_word 27 = .ok (.aload_n 0, 1) ∧ decode cX11_word 28 = .ok (.getfield 87, 3) ∧ decode cX11_word 31 = .ok (.iload_n 3, 1) ∧ decode cX11_word 32 = .ok (.iaload, 1) ∧ decode cX11_word 33 = .ok (.i2l, 1) ∧ decode cX11_word 34 = .ok (.lor, 1) ∧ decode cX11_word 35 = .ok (.lstore_n 1, 1) ∧ decode cX11_word 36 = .ok (.iinc 3 1, 3) := by decide +kernel
theorem dX11_word_20 : decode cX11_word 20 = .ok (.if_icmp .ne 22, 3) := dX11_word_all1.1
theorem dX11_word_23 : decode cX11_word 23 = .ok (.lload_n 1, 1) := dX11_word_all1.2.1
theorem dX11_word_24 : decode cX11_word 24 = .ok (.bipush 8, 2) := dX11_word_all1.2.2.1
theorem dX11_word_26 : decode cX11_word 26 = .ok (.lshl, 1) := dX11_word_all1.2.2.2.1
theorem dX11_word_27 : decode cX11_word 27 = .ok (.aload_n 0, 1) := dX11_word_all1.2.2.2.2.1
theorem dX11_word_28 : decode cX11_word 28 = .ok (.getfield 87, 3) := dX11_word_all1.2.2.2.2.2.1
theorem dX11_word_31 : decode cX11_word 31 = .ok (.iload_n 3, 1) := dX11_word_all1.2.2.2.2.2.2.1
theorem dX11_word_32 : decode cX11_word 32 = .ok (.iaload, 1) := dX11_word_all1.2.2.2.2.2.2.2.1
theorem dX11_word_33 : decode cX11_word 33 = .ok (.i2l, 1) := dX11_word_all1.2.2.2.2.2.2.2.2.1
theorem dX11_word_34 : decode cX11_word 34 = .ok (.lor, 1) := dX11_word_all1.2.2.2.2.2.2.2.2.2.1
theorem dX11_word_35 : decode cX11_word 35 = .ok (.lstore_n 1, 1) := dX11_word_all1.2.2.2.2.2.2.2.2.2.2.1
theorem dX11_word_36 : decode cX11_word 36 = .ok (.iinc 3 1, 3) := dX11_word_all1.2.2.2.2.2.2.2.2.2.2.2
theorem dX11_word_all2 : decode cX11_word 39 = .ok (.goto (-32), 3) ∧ decode cX11_word 42 = .ok (.lload_n 1, 1) ∧ decode cX11_word 43 = .ok (.lreturn, 1) := by decide +kernel
theorem dX11_word_39 : decode cX11_word 39 = .ok (.goto (-32), 3) := dX11_word_all2.1
theorem dX11_word_42 : decode cX11_word 42 = .ok (.lload_n 1, 1) := dX11_word_all2.2.1
theorem dX11_word_43 : decode cX11_word 43 = .ok (.lreturn, 1) := dX11_word_all2.2.2
theorem ggX11_numberUpTo_X11_bad : GoodIn wsX11_numberUpTo wsX11_bad := goodIn_s (fun _ h => wm_t (wm_r (wm_l (wm_r h)))) Gd_X11_bad
theorem gX11_numberUpTo_X11_bad : GoodIn wsX11_numberUpTo (wsV RX11 277 RX11 yX11_bad wsX11_bad) := goodIn_V (own := RX11) (idx := 277) (C := RX11) (y := yX11_bad) (wm_t (wm_l (wm_i 4 rfl))) (wm_t (wm_l (wm_i 5 rfl))) (wm_t (wm_r (wm_r (wm_t (wm_l (wm_i 3 rfl)))))) (wm_t (wm_l (wm_i 6 rfl))) ggX11_numberUpTo_X11_bad
theorem ggX11_numberUpTo_X11_need : GoodIn wsX11_numberUpTo wsX11_need := goodIn_s (fun _ h => wm_t (wm_r (wm_r h))) Gd_X11_need
theorem gX11_numberUpTo_X11_need : GoodIn wsX11_numberUpTo (wsV RX11 283 RX11 yX11_need wsX11_need) := goodIn_V (own := RX11) (idx := 283) (C := RX11) (y := yX11_need) (wm_t (wm_l (wm_i 7 rfl))) (wm_t (wm_l (wm_i 8 rfl))) (wm_t (wm_l (wm_i 9 rfl))) (wm_t (wm_l (wm_i 6 rfl))) ggX11_numberUpTo_X11_need
theorem dX11_numberUpTo_all0 : decode cX11_numberUpTo 0 = .ok (.iconst 0, 1) ∧ decode cX11_numberUpTo 1 = .ok (.istore_n 2, 1) ∧ decode cX11_numberUpTo 2 = .ok (.aload_n 0, 1) ∧ decode cX11_numberUpTo 3 = .ok (.getfield 256, 3) ∧ decode cX11_numberUpTo 6 = .ok (.istore_n 3, 1) ∧ decode cX11_numberUpTo 7 = .ok (.iload_n 3, 1) ∧ decode cX11_numberUpTo 8 = .ok (.aload_n 0, 1) ∧ decode cX11_numberUpTo 9 = .ok (.getfield 268, 3) ∧ decode cX11_numberUpTo 12 = .ok (.if_icmp .ge 32, 3) ∧ decode cX11_numberUpTo 15 = .ok (.aload_n 0, 1) ∧ decode cX11_numberUpTo 16 = .ok (.getfield 259, 3) ∧ decode cX11_numberUpTo 19 = .ok (.iconst 3, 1) := by decide +kernel
theorem dX11_numberUpTo_0 : decode cX11_numberUpTo 0 = .ok (.iconst 0, 1) := dX11_numberUpTo_all0.1
theorem dX11_numberUpTo_1 : decode cX11_numberUpTo 1 = .ok (.istore_n 2, 1) := dX11_numberUpTo_all0.2.1
theorem dX11_numberUpTo_2 : decode cX11_numberUpTo 2 = .ok (.aload_n 0, 1) := dX11_numberUpTo_all0.2.2.1
theorem dX11_numberUpTo_3 : decode cX11_numberUpTo 3 = .ok (.getfield 256, 3) := dX11_numberUpTo_all0.2.2.2.1
theorem dX11_numberUpTo_6 : decode cX11_numberUpTo 6 = .ok (.istore_n 3, 1) := dX11_numberUpTo_all0.2.2.2.2.1
theorem dX11_numberUpTo_7 : decode cX11_numberUpTo 7 = .ok (.iload_n 3, 1) := dX11_numberUpTo_all0.2.2.2.2.2.1
theorem dX11_numberUpTo_8 : decode cX11_numberUpTo 8 = .ok (.aload_n 0, 1) := dX11_numberUpTo_all0.2.2.2.2.2.2.1
theorem dX11_numberUpTo_9 : decode cX11_numberUpTo 9 = .ok (.getfield 268, 3) := dX11_numberUpTo_all0.2.2.2.2.2.2.2.1
theorem dX11_numberUpTo_12 : decode cX11_numberUpTo 12 = .ok (.if_icmp .ge 32, 3) := dX11_numberUpTo_all0.2.2.2.2.2.2.2.2.1
theorem dX11_numberUpTo_15 : decode cX11_numberUpTo 15 = .ok (.aload_n 0, 1) := dX11_numberUpTo_all0.2.2.2.2.2.2.2.2.2.1
theorem dX11_numberUpTo_16 : decode cX11_numberUpTo 16 = .ok (.getfield 259, 3) := dX11_numberUpTo_all0.2.2.2.2.2.2.2.2.2.2.1
theorem dX11_numberUpTo_19 : decode cX11_numberUpTo 19 = .ok (.iconst 3, 1) := dX11_numberUpTo_all0.2.2.2.2.2.2.2.2.2.2.2
theorem dX11_numberUpTo_all1 : decode cX11_numberUpTo 20 = .ok (.if_icmp .ne 24, 3) ∧ decode cX11_numberUpTo 23 = .ok (.bipush 10, 2) ∧ decode cX11_numberUpTo 25 = .ok (.iload_n 2, 1) ∧ decode cX11_numberUpTo 26 = .ok (.imul, 1) ∧ decode cX11_numberUpTo 27 = .ok (.aload_n 0, 1) ∧ decode cX11_numberUpTo 28 = .ok (.getfield 87, 3) ∧ decode cX11_numberUpTo 31 = .ok (.iload_n 3, 1) ∧ decode cX11_numberUpTo 32 = .ok (.iaload, 1) ∧ decode cX11_numberUpTo 33 = .ok (.iadd, 1) ∧ decode cX11_numberUpTo 34 = .ok (.bipush 48, 2) ∧ decode cX11_numberUpTo 36 = .ok (.isub, 1) ∧ decode cX11_numberUpTo 37 = .ok (.istore_n 2, 1) := by decide +kernel
theorem dX11_numberUpTo_20 : decode cX11_numberUpTo 20 = .ok (.if_icmp .ne 24, 3) := dX11_numberUpTo_all1.1
theorem dX11_numberUpTo_23 : decode cX11_numberUpTo 23 = .ok (.bipush 10, 2) := dX11_numberUpTo_all1.2.1
theorem dX11_numberUpTo_25 : decode cX11_numberUpTo 25 = .ok (.iload_n 2, 1) := dX11_numberUpTo_all1.2.2.1
theorem dX11_numberUpTo_26 : decode cX11_numberUpTo 26 = .ok (.imul, 1) := dX11_numberUpTo_all1.2.2.2.1
theorem dX11_numberUpTo_27 : decode cX11_numberUpTo 27 = .ok (.aload_n 0, 1) := dX11_numberUpTo_all1.2.2.2.2.1
theorem dX11_numberUpTo_28 : decode cX11_numberUpTo 28 = .ok (.getfield 87, 3) := dX11_numberUpTo_all1.2.2.2.2.2.1
theorem dX11_numberUpTo_31 : decode cX11_numberUpTo 31 = .ok (.iload_n 3, 1) := dX11_numberUpTo_all1.2.2.2.2.2.2.1
theorem dX11_numberUpTo_32 : decode cX11_numberUpTo 32 = .ok (.iaload, 1) := dX11_numberUpTo_all1.2.2.2.2.2.2.2.1
theorem dX11_numberUpTo_33 : decode cX11_numberUpTo 33 = .ok (.iadd, 1) := dX11_numberUpTo_all1.2.2.2.2.2.2.2.2.1
theorem dX11_numberUpTo_34 : decode cX11_numberUpTo 34 = .ok (.bipush 48, 2) := dX11_numberUpTo_all1.2.2.2.2.2.2.2.2.2.1
theorem dX11_numberUpTo_36 : decode cX11_numberUpTo 36 = .ok (.isub, 1) := dX11_numberUpTo_all1.2.2.2.2.2.2.2.2.2.2.1
theorem dX11_numberUpTo_37 : decode cX11_numberUpTo 37 = .ok (.istore_n 2, 1) := dX11_numberUpTo_all1.2.2.2.2.2.2.2.2.2.2.2
theorem dX11_numberUpTo_all2 : decode cX11_numberUpTo 38 = .ok (.iinc 3 1, 3) ∧ decode cX11_numberUpTo 41 = .ok (.goto (-34), 3) ∧ decode cX11_numberUpTo 44 = .ok (.aload_n 0, 1) ∧ decode cX11_numberUpTo 45 = .ok (.getfield 259, 3) ∧ decode cX11_numberUpTo 48 = .ok (.iconst 3, 1) ∧ decode cX11_numberUpTo 49 = .ok (.if_icmp .ne 13, 3) ∧ decode cX11_numberUpTo 52 = .ok (.iload_n 2, 1) ∧ decode cX11_numberUpTo 53 = .ok (.iload_n 1, 1) ∧ decode cX11_numberUpTo 54 = .ok (.if_icmp .le 8, 3) ∧ decode cX11_numberUpTo 57 = .ok (.aload_n 0, 1) ∧ decode cX11_numberUpTo 58 = .ok (.iconst 2, 1) ∧ decode cX11_numberUpTo 59 = .ok (.invokevirtual 277, 3) := by decide +kernel
theorem dX11_numberUpTo_38 : decode cX11_numberUpTo 38 = .ok (.iinc 3 1, 3) := dX11_numberUpTo_all2.1
theorem dX11_numberUpTo_41 : decode cX11_numberUpTo 41 = .ok (.goto (-34), 3) := dX11_numberUpTo_all2.2.1
theorem dX11_numberUpTo_44 : decode cX11_numberUpTo 44 = .ok (.aload_n 0, 1) := dX11_numberUpTo_all2.2.2.1
theorem dX11_numberUpTo_45 : decode cX11_numberUpTo 45 = .ok (.getfield 259, 3) := dX11_numberUpTo_all2.2.2.2.1
theorem dX11_numberUpTo_48 : decode cX11_numberUpTo 48 = .ok (.iconst 3, 1) := dX11_numberUpTo_all2.2.2.2.2.1
theorem dX11_numberUpTo_49 : decode cX11_numberUpTo 49 = .ok (.if_icmp .ne 13, 3) := dX11_numberUpTo_all2.2.2.2.2.2.1
theorem dX11_numberUpTo_52 : decode cX11_numberUpTo 52 = .ok (.iload_n 2, 1) := dX11_numberUpTo_all2.2.2.2.2.2.2.1
theorem dX11_numberUpTo_53 : decode cX11_numberUpTo 53 = .ok (.iload_n 1, 1) := dX11_numberUpTo_all2.2.2.2.2.2.2.2.1
theorem dX11_numberUpTo_54 : decode cX11_numberUpTo 54 = .ok (.if_icmp .le 8, 3) := dX11_numberUpTo_all2.2.2.2.2.2.2.2.2.1
theorem dX11_numberUpTo_57 : decode cX11_numberUpTo 57 = .ok (.aload_n 0, 1) := dX11_numberUpTo_all2.2.2.2.2.2.2.2.2.2.1
theorem dX11_numberUpTo_58 : decode cX11_numberUpTo 58 = .ok (.iconst 2, 1) := dX11_numberUpTo_all2.2.2.2.2.2.2.2.2.2.2.1
theorem dX11_numberUpTo_59 : decode cX11_numberUpTo 59 = .ok (.invokevirtual 277, 3) := dX11_numberUpTo_all2.2.2.2.2.2.2.2.2.2.2.2
theorem dX11_numberUpTo_all3 : decode cX11_numberUpTo 62 = .ok (.aload_n 0, 1) ∧ decode cX11_numberUpTo 63 = .ok (.aload_n 0, 1) ∧ decode cX11_numberUpTo 64 = .ok (.getfield 259, 3) ∧ decode cX11_numberUpTo 67 = .ok (.iconst 3, 1) ∧ decode cX11_numberUpTo 68 = .ok (.if_icmp .ne 7, 3) ∧ decode cX11_numberUpTo 71 = .ok (.iconst 1, 1) ∧ decode cX11_numberUpTo 72 = .ok (.goto 4, 3) ∧ decode cX11_numberUpTo 75 = .ok (.iconst 0, 1) ∧ decode cX11_numberUpTo 76 = .ok (.invokevirtual 283, 3) ∧ decode cX11_numberUpTo 79 = .ok (.iload_n 2, 1) ∧ decode cX11_numberUpTo 80 = .ok (.ireturn, 1) := by decide +kernel
theorem dX11_numberUpTo_62 : decode cX11_numberUpTo 62 = .ok (.aload_n 0, 1) := dX11_numberUpTo_all3.1
theorem dX11_numberUpTo_63 : decode cX11_numberUpTo 63 = .ok (.aload_n 0, 1) := dX11_numberUpTo_all3.2.1
theorem dX11_numberUpTo_64 : decode cX11_numberUpTo 64 = .ok (.getfield 259, 3) := dX11_numberUpTo_all3.2.2.1
theorem dX11_numberUpTo_67 : decode cX11_numberUpTo 67 = .ok (.iconst 3, 1) := dX11_numberUpTo_all3.2.2.2.1
theorem dX11_numberUpTo_68 : decode cX11_numberUpTo 68 = .ok (.if_icmp .ne 7, 3) := dX11_numberUpTo_all3.2.2.2.2.1
theorem dX11_numberUpTo_71 : decode cX11_numberUpTo 71 = .ok (.iconst 1, 1) := dX11_numberUpTo_all3.2.2.2.2.2.1
theorem dX11_numberUpTo_72 : decode cX11_numberUpTo 72 = .ok (.goto 4, 3) := dX11_numberUpTo_all3.2.2.2.2.2.2.1
theorem dX11_numberUpTo_75 : decode cX11_numberUpTo 75 = .ok (.iconst 0, 1) := dX11_numberUpTo_all3.2.2.2.2.2.2.2.1
theorem dX11_numberUpTo_76 : decode cX11_numberUpTo 76 = .ok (.invokevirtual 283, 3) := dX11_numberUpTo_all3.2.2.2.2.2.2.2.2.1
theorem dX11_numberUpTo_79 : decode cX11_numberUpTo 79 = .ok (.iload_n 2, 1) := dX11_numberUpTo_all3.2.2.2.2.2.2.2.2.2.1
theorem dX11_numberUpTo_80 : decode cX11_numberUpTo 80 = .ok (.ireturn, 1) := dX11_numberUpTo_all3.2.2.2.2.2.2.2.2.2.2
set_option maxHeartbeats 4000000 in
set_option maxRecDepth 100000 in
theorem ct_X11_feed (l : Launch) (D : va_G) (cI cY cJ cQ : ClassId) (sz : Nat) (md : Nat → Nat) (sd : Int32) (mth mst hn cn pn mq gn mln mnn ln mlt msz mcu mtk mfr mti mfa mfb an un lc td mtn : Int32) (mtp : Nat → Int32) (w : Int64) (n : Int32)  (h1 : 0 ≤ ln.toInt) (h2 : ln.toInt ≤ 300)  : Met l yX11_feed wsX11_feed ({ frames := 1, cells := 0, slots := 0, locals := 25 }) (cPre D (ty4 cI cY cJ cQ) [(moC md sd mth mst hn cn pn mq gn mln mnn ln mlt msz mcu mtk mfr mti mfa mfb an un lc td mtn), (aI cI (md 34) 300 mtp)] sz [.ref (md 64), .long w, .int n]) (va_Qi (fun (r : Int32) (u : Int32 × (Nat → Int32)) => r = sp_feed ln n ∧ u.1 = sq_feed ln n ∧ fdP (mbV w) ln n mtp u.2) (cB D (ty4 cI cY cJ cQ) (fun (u : Int32 × (Nat → Int32)) => [(moC md sd 0 mst hn cn pn mq gn mln mnn u.1 mlt msz mcu mtk mfr mti mfa mfb an un lc td mtn), (aI cI (md 34) 300 u.2)]) (va_A [(moC md sd mth mst hn cn pn mq gn mln mnn ln mlt msz mcu mtk mfr mti mfa mfb an un lc td mtn), (aI cI (md 34) 300 mtp)] sz)) (va_A [(moC md sd mth mst hn cn pn mq gn mln mnn ln mlt msz mcu mtk mfr mti mfa mfb an un lc td mtn), (aI cI (md 34) 300 mtp)] sz)) 0 0 (va_A [(moC md sd mth mst hn cn pn mq gn mln mnn ln mlt msz mcu mtk mfr mti mfa mfb an un lc td mtn), (aI cI (md 34) 300 mtp)] sz) := by
  refine Met.ofW (cc := cX11_feed) (maxL := 5) (ret := (some .int)) (by decide) rfl ?_
  intro p e s m args below meth c s₁ B hml hv
  obtain ⟨rfl, hsz, hP, hK, hD0, hN⟩ := hv
  have hx := B.exec
  have hb := B.bytes
  have hr := B.returns
  have hts := atoms_spec (ws := wsX11_feed) B.pre
  have hown : s.vm.findClass RX11 = some m.cls := findClass_of_methodNamed B.named
  have hlocks := B.notSynchronized
  subst hsz
  have hD := hD0.self (sz := s.heap.size)
  generalize hAe : va_A [(moC md sd mth mst hn cn pn mq gn mln mnn ln mlt msz mcu mtk mfr mti mfa mfb an un lc td mtn), (aI cI (md 34) 300 mtp)] s.heap.size = A at hD ⊢
  have hA : ∀ q : Nat, s.heap.size ≤ q → A q := fun q h => by rw [← hAe]; exact Or.inr h
  have hS : va_S A s.heap s.heap [] := va_S.rf
  have hP : va_P D vwCl [(moC md sd mth mst hn cn pn mq gn mln mnn ln mlt msz mcu mtk mfr mti mfa mfb an un lc td mtn), (aI cI (md 34) 300 mtp)] s.heap := hP
  have hl := lv_entry ([.ref (md 64), .long w, .int n]) (n := 5) (Nat.le_of_ble_eq_true rfl)
  rw [lg_entry_eq]
  generalize (lg_sl ([.ref (md 64), .long w, .int n]) ++ List.replicate (5 - (lg_sl ([.ref (md 64), .long w, .int n])).length) Slot.unset).toArray = ls at hl ⊢
  have hl : lv_has ls 5 [(0, .ref (md 64)), (1, .long w), (3, .int n)] := hl
  have km1000003 : (-1000003 : Int32).toInt = -1000003 := by decide
  have km1000001 : (-1000001 : Int32).toInt = -1000001 := by decide
  have km1 : (-1 : Int32).toInt = -1 := by decide
  have k0 : (0 : Int32).toInt = 0 := by decide
  have k1 : (1 : Int32).toInt = 1 := by decide
  have k8 : (8 : Int32).toInt = 8 := by decide
  have k300 : (300 : Int32).toInt = 300 := by decide
  have kl1 : (1 : Int64).toInt = 1 := by decide
  have kl8 : (8 : Int64).toInt = 8 := by decide
  refine lv_aload_n hx hb dX11_feed_0 rfl (lv_at hl 0 rfl) ?_
  refine lv_iconst (v := 0) hx hb dX11_feed_1 (by decide) ?_
  refine va_put (D := D) (ci := 11) (v := .int 0) (ty := .int) (C := RX11) (T := TX11) (N := 64) hx hb hts inX11_feed_X11 tyX11 tyX11_ok nmX11 hown hK hP hD hS 0 rfl rfl 0 (by decide) (hts (Cond.fieldLink RX11 1 "PortRoomsModel" "thrown" "I") (wm_t (wm_l (wm_i 0 rfl)))) (fun _ h9 => h9) rfl (tyX11_ok 0 (by decide)) rfl rfl (Nat.le_of_ble_eq_true rfl) dX11_feed_2 (fun H locs => ?_)
  clear hP hD hS
  intro hP hD hS
  replace hP : va_P D vwCl [(moC md sd (0) mst hn cn pn mq gn mln mnn ln mlt msz mcu mtk mfr mti mfa mfb an un lc td mtn), (aI cI (md 34) 300 mtp)] H := hP
  replace hD : va_D A [(moC md sd (0) mst hn cn pn mq gn mln mnn ln mlt msz mcu mtk mfr mti mfa mfb an un lc td mtn), (aI cI (md 34) 300 mtp)] := hD
  refine lv_iload_n hx hb dX11_feed_5 rfl (lv_at hl 2 rfl) ?_
  refine lv_i2l hx hb dX11_feed_6 rfl ?_
  have w1 := i_w n
  have w2 := i_rng n
  refine lv_lconst (v := 1) hx hb dX11_feed_7 (by decide) ?_
  refine lv_ldc2 hx hb hown (hts (Cond.constantLong RX11 240 (8)) (wm_t (wm_l (wm_i 1 rfl)))) dX11_feed_8 ?_
  refine st_i1 (va_runS (As := [.long (n.toInt64), .long 1, .long 8]) (rest := []) ⟨hx, hb, hml, hown, hts⟩ (ct_X11_in l D cI cY cJ cQ _ n.toInt64 (1 : Int64) (8 : Int64)) (va_cwS 3 hts gX11_feed_X11_in rfl rfl rfl cdX11_in ⟨Nat.le_of_ble_eq_true rfl, Nat.le_of_ble_eq_true rfl⟩) (cPreS (hP.sub [] rfl) hK (hD.sub [] (by decide +kernel) rfl) hN) rfl rfl hl.1 rfl (lv_room (Nat.le_of_ble_eq_true rfl)) dX11_feed_11 ⟨Nat.le_of_ble_eq_true rfl, Nat.le_of_ble_eq_true rfl⟩) hP hD hS hA [] rfl (fun _ => rfl) (fun r5 u3 H locs hw4 => ?_)
  clear hP hS
  intro hP hS
  replace hw4 : r5 = if (1 : Int64).toInt ≤ n.toInt64.toInt ∧ n.toInt64.toInt ≤ (8 : Int64).toInt then 1 else 0 := hw4
  refine lv_if_ne (tgt := 20) hx hb dX11_feed_14 (by decide) (fun c6 => ?_) (fun c6 => ?_)
  · skip
    have f7 := bo_t hw4 c6
    refine lv_aload_n hx hb dX11_feed_20 rfl (lv_at hl 0 rfl) ?_
    refine va_get (D := D) (ci := 11) (v := .int ln) (C := RX11) (T := TX11) (N := 64) hx hb hts inX11_feed_X11 hown hK hP 0 rfl rfl 35 (by decide) (hts (Cond.fieldLink RX11 242 "PortRoomsModel" "taped" "I") (wm_t (wm_l (wm_i 3 rfl)))) (fun _ h9 => h9) rfl dX11_feed_21 ?_
    refine lv_iload_n hx hb dX11_feed_24 rfl (lv_at hl 2 rfl) ?_
    refine lv_iadd hx hb dX11_feed_25 ?_
    refine lv_topi (fun v8 ev8 => ?_)
    try have tv8 : v8.toInt = ln.toInt + n.toInt := by rw [ev8]; exact (i_add (x := ln) (y := n) (by omega) (by omega))
    refine lv_sipush (v := 300) hx hb dX11_feed_26 (by decide) ?_
    refine lv_icmp_le (tgt := 35) hx hb dX11_feed_29 (by decide) (fun c9 => ?_) (fun c9 => ?_)
    · skip
      have f10 := i_le c9
      refine lv_iload_n hx hb dX11_feed_35 rfl (lv_at hl 2 rfl) ?_
      refine lv_iconst (v := 1) hx hb dX11_feed_36 (by decide) ?_
      refine lv_isub hx hb dX11_feed_37 ?_
      refine lv_topi (fun v11 ev11 => ?_)
      try have tv11 : v11.toInt = n.toInt - 1 := by rw [ev11]; exact (i_sub (x := n) (y := (1 : Int32)) (by rw [k1]; omega) (by rw [k1]; omega)).trans (by rw [k1])
      refine lv_istore (lv' := [(4, .int v11), (0, .ref (md 64)), (1, .long w), (3, .int n)]) hx hb dX11_feed_38 hl (by decide) rfl (fun ls hl => ?_)
      refine st_loop 40 (fun _ => []) (fun (z : Int32 × (Nat → Int32) × Int32) (ls : Array Slot) (H : Heap) (locs : List Loc) => match z with | (q40_4, mtpq, lnq) => (-1 ≤ q40_4.toInt) ∧ (q40_4.toInt < n.toInt) ∧ (lnq.toInt = ln.toInt + n.toInt - 1 - q40_4.toInt) ∧ (fdQ (mbV w) mtp mtpq ln.toInt lnq.toInt n.toInt) ∧ lv_has ls 5 [(0, .ref (md 64)), (1, .long w), (3, .int n), (4, .int q40_4)] ∧ va_P D vwCl [(moC md sd (0) mst hn cn pn mq gn mln mnn lnq mlt msz mcu mtk mfr mti mfa mfb an un lc td mtn), (aI cI (md 34) 300 mtpq)] H ∧ va_D A [(moC md sd (0) mst hn cn pn mq gn mln mnn lnq mlt msz mcu mtk mfr mti mfa mfb an un lc td mtn), (aI cI (md 34) 300 mtpq)] ∧ va_S A s.heap H locs) (fun (z : Int32 × (Nat → Int32) × Int32) => match z with | (q40_4, mtpq, lnq) => q40_4.toInt + 1) ?_ ?_ (v11, mtp, ln) ⟨(by omega), (by omega), (by omega), (by exact fdQ_0), lv_sub hl [1, 2, 3, 0] rfl, hP, hD, hS⟩
      · rintro ⟨q40_4, mtpq, lnq⟩ ls H locs ⟨g12, g13, g14, g15, hl, hP, hD, hS⟩
        show (0 : Int) ≤ q40_4.toInt + 1
        omega
      · rintro n18 ih16 ⟨q40_4, mtpq, lnq⟩ ls H locs ⟨g12, g13, g14, g15, hl, hP, hD, hS⟩ hm17
        have hm17 : q40_4.toInt + 1 < (n18 : Int) + 1 := hm17
        replace hl : lv_has ls 5 [(0, .ref (md 64)), (1, .long w), (3, .int n), (4, .int q40_4)] := hl
        replace hP : va_P D vwCl [(moC md sd (0) mst hn cn pn mq gn mln mnn lnq mlt msz mcu mtk mfr mti mfa mfb an un lc td mtn), (aI cI (md 34) 300 mtpq)] H := hP
        replace hD : va_D A [(moC md sd (0) mst hn cn pn mq gn mln mnn lnq mlt msz mcu mtk mfr mti mfa mfb an un lc td mtn), (aI cI (md 34) 300 mtpq)] := hD
        show W _ _ _ _ _ _ _ _ _ _ _ _ _ _ _ (F0 m 40 ls [])
        refine lv_iload hx hb dX11_feed_40 (lv_at hl 3 rfl) ?_
        refine lv_if_lt (tgt := 82) hx hb dX11_feed_42 (by decide) (fun c19 => ?_) (fun c19 => ?_)
        · skip
          have f20 := i_lt c19
          refine lv_aload_n hx hb dX11_feed_82 rfl (lv_at hl 0 rfl) ?_
          refine va_get (D := D) (ci := 11) (v := .int lnq) (C := RX11) (T := TX11) (N := 64) hx hb hts inX11_feed_X11 hown hK hP 0 rfl rfl 35 (by decide) (hts (Cond.fieldLink RX11 242 "PortRoomsModel" "taped" "I") (wm_t (wm_l (wm_i 3 rfl)))) (fun _ h9 => h9) rfl dX11_feed_83 ?_
          have tln9 : 1 ≤ n.toInt → n.toInt ≤ 8 → (ln + n).toInt = ln.toInt + n.toInt := fun h8 h9 => i_add (by omega) (by omega)
          have hP9 := hP
          have hD9 := hD
          exact W.iret (v := lnq) hx hb hr (fun t ht hW => ⟨⟨lnq, (lnq, mtpq), rfl, (by show lnq = sp_feed ln n ∧ lnq = sq_feed ln n ∧ fdP (mbV w) ln n mtp mtpq; exact ⟨i_of (by unfold sp_feed; (repeat' split) <;> omega), i_of (by unfold sq_feed; (repeat' split) <;> (show lnq.toInt = _; omega)), ⟨fun h1 h2 h3 => by have h9 := g15; rw [show lnq.toInt = ln.toInt + n.toInt by omega] at h9; exact h9, fun h9 => absurd ⟨by omega, by omega, by omega⟩ h9⟩⟩), by rw [ht]; exact hP9, va_K.moved hW.alike hK, hD9⟩, hS.F ht⟩) hS.2.2 dX11_feed_86
        · skip
          have f21 := i_nlt c19
          refine lv_aload_n hx hb dX11_feed_45 rfl (lv_at hl 0 rfl) ?_
          refine va_get (D := D) (ci := 11) (v := .ref (md 34)) (C := RX11) (T := TX11) (N := 64) hx hb hts inX11_feed_X11 hown hK hP 0 rfl rfl 34 (by decide) (hts (Cond.fieldLink RX11 87 "PortRoomsModel" "tape" "[I") (wm_t (wm_l (wm_i 5 rfl)))) (fun _ h9 => h9) rfl dX11_feed_46 ?_
          refine lv_aload_n hx hb dX11_feed_49 rfl (lv_at hl 0 rfl) ?_
          refine va_get (D := D) (ci := 11) (v := .int lnq) (C := RX11) (T := TX11) (N := 64) hx hb hts inX11_feed_X11 hown hK hP 0 rfl rfl 35 (by decide) (hts (Cond.fieldLink RX11 242 "PortRoomsModel" "taped" "I") (wm_t (wm_l (wm_i 3 rfl)))) (fun _ h9 => h9) rfl dX11_feed_50 ?_
          refine lv_lload_n hx hb dX11_feed_53 rfl (lv_at hl 1 rfl) ?_
          refine lv_bipush (v := 8) hx hb dX11_feed_54 (by decide) ?_
          refine lv_iload hx hb dX11_feed_56 (lv_at hl 3 rfl) ?_
          refine lv_imul hx hb dX11_feed_58 ?_
          refine lv_topi (fun v22 ev22 => ?_)
          try have tv22 : v22.toInt = 8 * q40_4.toInt := by rw [ev22]; exact (i_mul (x := (8 : Int32)) (y := q40_4) (by rw [k8]; omega) (by rw [k8]; omega)).trans (by rw [k8])
          refine lv_lshr hx hb dX11_feed_59 rfl ?_
          refine lv_topl (fun z23 ez23 => ?_)
          refine lv_ldc2 hx hb hown (hts (Cond.constantLong RX11 245 (255)) (wm_t (wm_l (wm_i 6 rfl)))) dX11_feed_60 ?_
          refine lv_land hx hb dX11_feed_63 ?_
          refine lv_topl (fun z24 ez24 => ?_)
          refine lv_l2i hx hb dX11_feed_64 rfl ?_
          refine lv_topi (fun v25 ev25 => ?_)
          refine va_iast hx hb hK hP hD hS 1 0 rfl rfl (i_in (by omega) (by omega)) dX11_feed_65 (fun H locs => ?_)
          clear hP hD hS
          intro hP hD hS
          replace hP : va_P D vwCl [(moC md sd (0) mst hn cn pn mq gn mln mnn lnq mlt msz mcu mtk mfr mti mfa mfb an un lc td mtn), (aI cI (md 34) 300 (upd mtpq lnq.toNatClampNeg v25))] H := hP
          replace hD : va_D A [(moC md sd (0) mst hn cn pn mq gn mln mnn lnq mlt msz mcu mtk mfr mti mfa mfb an un lc td mtn), (aI cI (md 34) 300 (upd mtpq lnq.toNatClampNeg v25))] := hD
          refine lv_aload_n hx hb dX11_feed_66 rfl (lv_at hl 0 rfl) ?_
          refine lv_dup hx hb dX11_feed_67 rfl ?_
          refine va_get (D := D) (ci := 11) (v := .int lnq) (C := RX11) (T := TX11) (N := 64) hx hb hts inX11_feed_X11 hown hK hP 0 rfl rfl 35 (by decide) (hts (Cond.fieldLink RX11 242 "PortRoomsModel" "taped" "I") (wm_t (wm_l (wm_i 3 rfl)))) (fun _ h9 => h9) rfl dX11_feed_68 ?_
          refine lv_iconst (v := 1) hx hb dX11_feed_71 (by decide) ?_
          refine lv_iadd hx hb dX11_feed_72 ?_
          refine lv_topi (fun v26 ev26 => ?_)
          try have tv26 : v26.toInt = lnq.toInt + 1 := by rw [ev26]; exact (i_add (x := lnq) (y := (1 : Int32)) (by rw [k1]; omega) (by rw [k1]; omega)).trans (by rw [k1])
          refine va_put (D := D) (ci := 11) (v := .int v26) (ty := .int) (C := RX11) (T := TX11) (N := 64) hx hb hts inX11_feed_X11 tyX11 tyX11_ok nmX11 hown hK hP hD hS 0 rfl rfl 35 (by decide) (hts (Cond.fieldLink RX11 242 "PortRoomsModel" "taped" "I") (wm_t (wm_l (wm_i 3 rfl)))) (fun _ h9 => h9) rfl (tyX11_ok 35 (by decide)) rfl rfl (Nat.le_of_ble_eq_true rfl) dX11_feed_73 (fun H locs => ?_)
          clear hP hD hS
          intro hP hD hS
          replace hP : va_P D vwCl [(moC md sd (0) mst hn cn pn mq gn mln mnn v26 mlt msz mcu mtk mfr mti mfa mfb an un lc td mtn), (aI cI (md 34) 300 (upd mtpq lnq.toNatClampNeg v25))] H := hP
          replace hD : va_D A [(moC md sd (0) mst hn cn pn mq gn mln mnn v26 mlt msz mcu mtk mfr mti mfa mfb an un lc td mtn), (aI cI (md 34) 300 (upd mtpq lnq.toNatClampNeg v25))] := hD
          obtain ⟨v27, ev27⟩ : ∃ y : Int32, y = q40_4 + (-1) := ⟨_, rfl⟩
          try have tv27 : v27.toInt = q40_4.toInt + (-1) := by rw [ev27]; exact (i_add (x := q40_4) (y := ((-1) : Int32)) (by rw [km1]; omega) (by rw [km1]; omega)).trans (by rw [km1])
          refine lv_iinc (v := v27) (lv' := [(4, .int v27), (0, .ref (md 64)), (1, .long w), (3, .int n)]) hx hb dX11_feed_76 hl (k := 3) rfl (by rw [ev27]; rfl) (by decide) rfl (fun ls hl => ?_)
          refine lv_goto (tgt := 40) hx hb dX11_feed_79 (by decide) ?_
          have clc28 := i_cl (x := lnq) (by omega)
          exact ih16 (v27, upd mtpq lnq.toNatClampNeg v25, v26) ls H locs ⟨(by omega), (by omega), (by omega), (by exact fdQ_up g15 (by omega) (fun k9 hk9 => by rw [show k9 = v22 from i_of (by omega)]; unfold mbV; rw [ev25, ez24, ez23]) (by omega) (by omega)), lv_sub hl [1, 2, 3, 0] rfl, hP.sub [0, 1] rfl, hD.sub [0, 1] (by decide +kernel) rfl, hS⟩ (by show v27.toInt + 1 < _; omega)
    · skip
      have f29 := i_nle c9
      refine lv_ldc hx hb hown (hts (Cond.constant RX11 184 (-1000003)) (wm_t (wm_l (wm_i 4 rfl)))) dX11_feed_32 ?_
      have tln9 : 1 ≤ n.toInt → n.toInt ≤ 8 → (ln + n).toInt = ln.toInt + n.toInt := fun h8 h9 => i_add (by omega) (by omega)
      have hP9 := hP
      have hD9 := hD
      exact W.iret (v := (-1000003)) hx hb hr (fun t ht hW => ⟨⟨(-1000003), (ln, mtp), rfl, (by show ((-1000003) : Int32) = sp_feed ln n ∧ ln = sq_feed ln n ∧ fdP (mbV w) ln n mtp mtp; exact ⟨i_of (by unfold sp_feed; (repeat' split) <;> omega), i_of (by unfold sq_feed; (repeat' split) <;> (show ln.toInt = _; omega)), ⟨fun h1 h2 h3 => by exfalso; omega, fun _ => rfl⟩⟩), by rw [ht]; exact hP9, va_K.moved hW.alike hK, hD9⟩, hS.F ht⟩) hS.2.2 dX11_feed_34
  · skip
    have f30 := bo_f hw4 c6
    refine lv_ldc hx hb hown (hts (Cond.constant RX11 157 (-1000001)) (wm_t (wm_l (wm_i 2 rfl)))) dX11_feed_17 ?_
    have tln9 : 1 ≤ n.toInt → n.toInt ≤ 8 → (ln + n).toInt = ln.toInt + n.toInt := fun h8 h9 => i_add (by omega) (by omega)
    have hP9 := hP
    have hD9 := hD
    exact W.iret (v := (-1000001)) hx hb hr (fun t ht hW => ⟨⟨(-1000001), (ln, mtp), rfl, (by show ((-1000001) : Int32) = sp_feed ln n ∧ ln = sq_feed ln n ∧ fdP (mbV w) ln n mtp mtp; exact ⟨i_of (by unfold sp_feed; (repeat' split) <;> omega), i_of (by unfold sq_feed; (repeat' split) <;> (show ln.toInt = _; omega)), ⟨fun h1 h2 h3 => by exfalso; omega, fun _ => rfl⟩⟩), by rw [ht]; exact hP9, va_K.moved hW.alike hK, hD9⟩, hS.F ht⟩) hS.2.2 dX11_feed_19

set_option maxHeartbeats 4000000 in
set_option maxRecDepth 100000 in
theorem ct_X11_byteAt (l : Launch) (D : va_G) (cI cY cJ cQ : ClassId) (sz : Nat) (md : Nat → Nat) (sd : Int32) (mth mst hn cn pn mq gn mln mnn ln mlt msz mcu mtk mfr mti mfa mfb an un lc td mtn : Int32) (mtp : Nat → Int32) (a : Int32)  (h1 : 0 ≤ msz.toInt) (h2 : msz.toInt ≤ 300) (h3 : 0 ≤ a.toInt) (h4 : okB msz mtp)  : Met l yX11_byteAt wsX11_byteAt ({ frames := 0, cells := 0, slots := 0, locals := 0 }) (cPre D (ty4 cI cY cJ cQ) [(moC md sd mth mst hn cn pn mq gn mln mnn ln mlt msz mcu mtk mfr mti mfa mfb an un lc td mtn), (aI cI (md 34) 300 mtp)] sz [.ref (md 64), .int a]) (va_Qi (fun (r : Int32) (u : Unit) => (a.toInt < msz.toInt ∧ r.toInt = (mtp a.toNatClampNeg).toInt ∧ 0 ≤ r.toInt ∧ r.toInt ≤ 255) ∨ (msz.toInt ≤ a.toInt ∧ r.toInt = -1000000)) (cB D (ty4 cI cY cJ cQ) (fun (u : Unit) => [(moC md sd mth mst hn cn pn mq gn mln mnn ln mlt msz mcu mtk mfr mti mfa mfb an un lc td mtn), (aI cI (md 34) 300 mtp)]) (va_A [(moC md sd mth mst hn cn pn mq gn mln mnn ln mlt msz mcu mtk mfr mti mfa mfb an un lc td mtn), (aI cI (md 34) 300 mtp)] sz)) (va_A [(moC md sd mth mst hn cn pn mq gn mln mnn ln mlt msz mcu mtk mfr mti mfa mfb an un lc td mtn), (aI cI (md 34) 300 mtp)] sz)) 0 0 (va_A [(moC md sd mth mst hn cn pn mq gn mln mnn ln mlt msz mcu mtk mfr mti mfa mfb an un lc td mtn), (aI cI (md 34) 300 mtp)] sz) := by
  refine Met.ofW (cc := cX11_byteAt) (maxL := 2) (ret := (some .int)) (by decide) rfl ?_
  intro p e s m args below meth c s₁ B hml hv
  obtain ⟨rfl, hsz, hP, hK, hD0, hN⟩ := hv
  have hx := B.exec
  have hb := B.bytes
  have hr := B.returns
  have hts := atoms_spec (ws := wsX11_byteAt) B.pre
  have hown : s.vm.findClass RX11 = some m.cls := findClass_of_methodNamed B.named
  have hlocks := B.notSynchronized
  subst hsz
  have hD := hD0.self (sz := s.heap.size)
  generalize hAe : va_A [(moC md sd mth mst hn cn pn mq gn mln mnn ln mlt msz mcu mtk mfr mti mfa mfb an un lc td mtn), (aI cI (md 34) 300 mtp)] s.heap.size = A at hD ⊢
  have hA : ∀ q : Nat, s.heap.size ≤ q → A q := fun q h => by rw [← hAe]; exact Or.inr h
  have hS : va_S A s.heap s.heap [] := va_S.rf
  have hP : va_P D vwCl [(moC md sd mth mst hn cn pn mq gn mln mnn ln mlt msz mcu mtk mfr mti mfa mfb an un lc td mtn), (aI cI (md 34) 300 mtp)] s.heap := hP
  have hl := lv_entry ([.ref (md 64), .int a]) (n := 2) (Nat.le_of_ble_eq_true rfl)
  rw [lg_entry_eq]
  generalize (lg_sl ([.ref (md 64), .int a]) ++ List.replicate (2 - (lg_sl ([.ref (md 64), .int a])).length) Slot.unset).toArray = ls at hl ⊢
  have hl : lv_has ls 2 [(0, .ref (md 64)), (1, .int a)] := hl
  have km1000000 : (-1000000 : Int32).toInt = -1000000 := by decide
  refine lv_iload_n hx hb dX11_byteAt_0 rfl (lv_at hl 1 rfl) ?_
  refine lv_aload_n hx hb dX11_byteAt_1 rfl (lv_at hl 0 rfl) ?_
  refine va_get (D := D) (ci := 11) (v := .int msz) (C := RX11) (T := TX11) (N := 64) hx hb hts inX11_byteAt_X11 hown hK hP 0 rfl rfl 37 (by decide) (hts (Cond.fieldLink RX11 247 "PortRoomsModel" "size" "I") (wm_t (wm_l (wm_i 0 rfl)))) (fun _ h9 => h9) rfl dX11_byteAt_2 ?_
  refine lv_icmp_ge (tgt := 17) hx hb dX11_byteAt_5 (by decide) (fun c1 => ?_) (fun c1 => ?_)
  · skip
    have f2 := i_le c1
    refine lv_ldc hx hb hown (hts (Cond.constant RX11 139 (-1000000)) (wm_t (wm_l (wm_i 2 rfl)))) dX11_byteAt_17 ?_
    have hP9 := hP
    have hD9 := hD
    exact W.iret (v := (-1000000)) hx hb hr (fun t ht hW => ⟨⟨(-1000000), (), rfl, (by show (_ ∧ _) ∨ _; exact Or.inr ⟨by omega, by decide⟩), by rw [ht]; exact hP9, va_K.moved hW.alike hK, hD9⟩, hS.F ht⟩) hS.2.2 dX11_byteAt_19
  · skip
    have f3 := i_nle c1
    refine lv_aload_n hx hb dX11_byteAt_8 rfl (lv_at hl 0 rfl) ?_
    refine va_get (D := D) (ci := 11) (v := .ref (md 34)) (C := RX11) (T := TX11) (N := 64) hx hb hts inX11_byteAt_X11 hown hK hP 0 rfl rfl 34 (by decide) (hts (Cond.fieldLink RX11 87 "PortRoomsModel" "tape" "[I") (wm_t (wm_l (wm_i 1 rfl)))) (fun _ h9 => h9) rfl dX11_byteAt_9 ?_
    refine lv_iload_n hx hb dX11_byteAt_12 rfl (lv_at hl 1 rfl) ?_
    refine va_iald hx hb hK hP 1 0 rfl rfl (i_in (by omega) (by omega)) dX11_byteAt_13 ?_
    refine lv_topi (fun v4 ev4 => ?_)
    have tlv4 : v4.toInt = (mtp a.toNatClampNeg).toInt := by rw [ev4]
    refine lv_goto (tgt := 19) hx hb dX11_byteAt_14 (by decide) ?_
    have hb9 := h4 a.toNatClampNeg (by have := i_cl (x := a) (by omega); omega)
    have hP9 := hP
    have hD9 := hD
    exact W.iret (v := v4) hx hb hr (fun t ht hW => ⟨⟨v4, (), rfl, (by show (_ ∧ _) ∨ _; exact Or.inl ⟨by omega, by omega, by omega, by omega⟩), by rw [ht]; exact hP9, va_K.moved hW.alike hK, hD9⟩, hS.F ht⟩) hS.2.2 dX11_byteAt_19

set_option maxHeartbeats 4000000 in
set_option maxRecDepth 100000 in
theorem ct_X11_step (l : Launch) (D : va_G) (cI cY cJ cQ : ClassId) (sz : Nat) (md : Nat → Nat) (sd : Int32) (mth mst hn cn pn mq gn mln mnn ln mlt msz mcu mtk mfr mti mfa mfb an un lc td mtn : Int32) (mtp : Nat → Int32)  (h1 : 0 ≤ msz.toInt) (h2 : msz.toInt ≤ 300) (h3 : 0 ≤ mcu.toInt) (h4 : mcu.toInt ≤ msz.toInt) (h5 : okB msz mtp)  : Met l yX11_step wsX11_step ({ frames := 1, cells := 0, slots := 0, locals := 21 }) (cPre D (ty4 cI cY cJ cQ) [(moC md sd mth mst hn cn pn mq gn mln mnn ln mlt msz mcu mtk mfr mti mfa mfb an un lc td mtn), (aI cI (md 34) 300 mtp)] sz [.ref (md 64)]) (va_Qv (fun (u : Int32 × Int32 × Int32 × Int32) => u.2.2.1.toInt = (tS mtp msz.toNatClampNeg mcu.toNatClampNeg : Int) ∧ u.1.toInt = (tE mtp msz.toNatClampNeg mcu.toNatClampNeg : Int) ∧ u.2.2.2.toInt = u.1.toInt ∧ u.2.1.toInt = mK mtp msz.toNatClampNeg mcu.toNatClampNeg ∧ mcu.toInt ≤ u.2.2.1.toInt ∧ u.2.2.1.toInt ≤ u.1.toInt ∧ u.1.toInt ≤ msz.toInt) (cB D (ty4 cI cY cJ cQ) (fun (u : Int32 × Int32 × Int32 × Int32) => [(moC md sd mth mst hn cn pn mq gn mln mnn ln mlt msz u.1 u.2.1 u.2.2.1 u.2.2.2 mfa mfb an un lc td mtn), (aI cI (md 34) 300 mtp)]) (va_A [(moC md sd mth mst hn cn pn mq gn mln mnn ln mlt msz mcu mtk mfr mti mfa mfb an un lc td mtn), (aI cI (md 34) 300 mtp)] sz)) (va_A [(moC md sd mth mst hn cn pn mq gn mln mnn ln mlt msz mcu mtk mfr mti mfa mfb an un lc td mtn), (aI cI (md 34) 300 mtp)] sz)) 0 0 (va_A [(moC md sd mth mst hn cn pn mq gn mln mnn ln mlt msz mcu mtk mfr mti mfa mfb an un lc td mtn), (aI cI (md 34) 300 mtp)] sz) := by
  refine Met.ofW (cc := cX11_step) (maxL := 2) (ret := none) (by decide) rfl ?_
  intro p e s m args below meth c s₁ B hml hv
  obtain ⟨rfl, hsz, hP, hK, hD0, hN⟩ := hv
  have hx := B.exec
  have hb := B.bytes
  have hr := B.returns
  have hts := atoms_spec (ws := wsX11_step) B.pre
  have hown : s.vm.findClass RX11 = some m.cls := findClass_of_methodNamed B.named
  have hlocks := B.notSynchronized
  subst hsz
  have hD := hD0.self (sz := s.heap.size)
  generalize hAe : va_A [(moC md sd mth mst hn cn pn mq gn mln mnn ln mlt msz mcu mtk mfr mti mfa mfb an un lc td mtn), (aI cI (md 34) 300 mtp)] s.heap.size = A at hD ⊢
  have hA : ∀ q : Nat, s.heap.size ≤ q → A q := fun q h => by rw [← hAe]; exact Or.inr h
  have hS : va_S A s.heap s.heap [] := va_S.rf
  have hP : va_P D vwCl [(moC md sd mth mst hn cn pn mq gn mln mnn ln mlt msz mcu mtk mfr mti mfa mfb an un lc td mtn), (aI cI (md 34) 300 mtp)] s.heap := hP
  have hl := lv_entry ([.ref (md 64)]) (n := 2) (Nat.le_of_ble_eq_true rfl)
  rw [lg_entry_eq]
  generalize (lg_sl ([.ref (md 64)]) ++ List.replicate (2 - (lg_sl ([.ref (md 64)])).length) Slot.unset).toArray = ls at hl ⊢
  have hl : lv_has ls 2 [(0, .ref (md 64))] := hl
  have km1000000 : (-1000000 : Int32).toInt = -1000000 := by decide
  have k0 : (0 : Int32).toInt = 0 := by decide
  have k1 : (1 : Int32).toInt = 1 := by decide
  have k2 : (2 : Int32).toInt = 2 := by decide
  have k3 : (3 : Int32).toInt = 3 := by decide
  have k4 : (4 : Int32).toInt = 4 := by decide
  have k6 : (6 : Int32).toInt = 6 := by decide
  have k10 : (10 : Int32).toInt = 10 := by decide
  have k32 : (32 : Int32).toInt = 32 := by decide
  have k59 : (59 : Int32).toInt = 59 := by decide
  have k62 : (62 : Int32).toInt = 62 := by decide
  refine st_loop 0 (fun _ => []) (fun (c0q : Int32) (ls : Array Slot) (H : Heap) (locs : List Loc) => (mcu.toInt ≤ c0q.toInt) ∧ (c0q.toInt ≤ msz.toInt) ∧ (runTo spB mtp msz.toNatClampNeg c0q.toNatClampNeg = runTo spB mtp msz.toNatClampNeg mcu.toNatClampNeg) ∧ lv_has ls 2 [(0, .ref (md 64))] ∧ va_P D vwCl [(moC md sd mth mst hn cn pn mq gn mln mnn ln mlt msz c0q mtk mfr mti mfa mfb an un lc td mtn), (aI cI (md 34) 300 mtp)] H ∧ va_D A [(moC md sd mth mst hn cn pn mq gn mln mnn ln mlt msz c0q mtk mfr mti mfa mfb an un lc td mtn), (aI cI (md 34) 300 mtp)] ∧ va_S A s.heap H locs) (fun (c0q : Int32) => msz.toInt - c0q.toInt) ?_ ?_ mcu ⟨(by omega), (by omega), (by rfl), lv_sub hl [0] rfl, hP, hD, hS⟩
  · rintro c0q ls H locs ⟨g1, g2, g3, hl, hP, hD, hS⟩
    show (0 : Int) ≤ msz.toInt - c0q.toInt
    omega
  · rintro n6 ih4 c0q ls H locs ⟨g1, g2, g3, hl, hP, hD, hS⟩ hm5
    have hm5 : msz.toInt - c0q.toInt < (n6 : Int) + 1 := hm5
    replace hl : lv_has ls 2 [(0, .ref (md 64))] := hl
    replace hP : va_P D vwCl [(moC md sd mth mst hn cn pn mq gn mln mnn ln mlt msz c0q mtk mfr mti mfa mfb an un lc td mtn), (aI cI (md 34) 300 mtp)] H := hP
    replace hD : va_D A [(moC md sd mth mst hn cn pn mq gn mln mnn ln mlt msz c0q mtk mfr mti mfa mfb an un lc td mtn), (aI cI (md 34) 300 mtp)] := hD
    show W _ _ _ _ _ _ _ _ _ _ _ _ _ _ _ (F0 m 0 ls [])
    refine lv_aload_n hx hb dX11_step_0 rfl (lv_at hl 0 rfl) ?_
    refine lv_aload_n hx hb dX11_step_1 rfl (lv_at hl 0 rfl) ?_
    refine va_get (D := D) (ci := 11) (v := .int c0q) (C := RX11) (T := TX11) (N := 64) hx hb hts inX11_step_X11 hown hK hP 0 rfl rfl 38 (by decide) (hts (Cond.fieldLink RX11 250 "PortRoomsModel" "cursor" "I") (wm_t (wm_l (wm_i 0 rfl)))) (fun _ h9 => h9) rfl dX11_step_2 ?_
    refine st_i1 (va_runV (C := RX11) (As := [.int c0q]) (rest := []) ⟨hx, hb, hml, hown, hts⟩ (ct_X11_byteAt l D cI cY cJ cQ _ md sd mth mst hn cn pn mq gn mln mnn ln mlt msz c0q mtk mfr mti mfa mfb an un lc td mtn mtp c0q h1 h2 (by omega) h5) (cwV 1 hts gX11_step_X11_byteAt rfl rfl rfl ⟨rfl, cdX11_byteAt⟩ ⟨Nat.le_of_ble_eq_true rfl, Nat.le_of_ble_eq_true rfl⟩) (cPreV (hP.sub [0, 1] rfl) hK (hD.sub [0, 1] (by decide +kernel) rfl) hN (ci := 11) (q0 := 0) rfl rfl) rfl rfl hl.1 rfl (lv_room (Nat.le_of_ble_eq_true rfl)) dX11_step_5 ⟨Nat.le_of_ble_eq_true rfl, Nat.le_of_ble_eq_true rfl⟩) hP hD hS hA [0, 1] rfl (fun _ => rfl) (fun r9 u7 H locs hw8 => ?_)
    clear hP hS
    intro hP hS
    replace hw8 : (c0q.toInt < msz.toInt ∧ r9.toInt = (mtp c0q.toNatClampNeg).toInt ∧ 0 ≤ r9.toInt ∧ r9.toInt ≤ 255) ∨ (msz.toInt ≤ c0q.toInt ∧ r9.toInt = -1000000) := hw8
    refine lv_bipush (v := 32) hx hb dX11_step_8 (by decide) ?_
    refine lv_icmp_eq (tgt := 26) hx hb dX11_step_10 (by decide) (fun c10 => ?_) (fun c10 => ?_)
    · skip
      have f11 := i_eq c10
      refine lv_aload_n hx hb dX11_step_26 rfl (lv_at hl 0 rfl) ?_
      refine lv_dup hx hb dX11_step_27 rfl ?_
      refine va_get (D := D) (ci := 11) (v := .int c0q) (C := RX11) (T := TX11) (N := 64) hx hb hts inX11_step_X11 hown hK hP 0 rfl rfl 38 (by decide) (hts (Cond.fieldLink RX11 250 "PortRoomsModel" "cursor" "I") (wm_t (wm_l (wm_i 0 rfl)))) (fun _ h9 => h9) rfl dX11_step_28 ?_
      refine lv_iconst (v := 1) hx hb dX11_step_31 (by decide) ?_
      refine lv_iadd hx hb dX11_step_32 ?_
      refine lv_topi (fun v12 ev12 => ?_)
      try have tv12 : v12.toInt = c0q.toInt + 1 := by rw [ev12]; exact (i_add (x := c0q) (y := (1 : Int32)) (by rw [k1]; omega) (by rw [k1]; omega)).trans (by rw [k1])
      refine va_put (D := D) (ci := 11) (v := .int v12) (ty := .int) (C := RX11) (T := TX11) (N := 64) hx hb hts inX11_step_X11 tyX11 tyX11_ok nmX11 hown hK hP hD hS 0 rfl rfl 38 (by decide) (hts (Cond.fieldLink RX11 250 "PortRoomsModel" "cursor" "I") (wm_t (wm_l (wm_i 0 rfl)))) (fun _ h9 => h9) rfl (tyX11_ok 38 (by decide)) rfl rfl (Nat.le_of_ble_eq_true rfl) dX11_step_33 (fun H locs => ?_)
      clear hP hD hS
      intro hP hD hS
      replace hP : va_P D vwCl [(moC md sd mth mst hn cn pn mq gn mln mnn ln mlt msz v12 mtk mfr mti mfa mfb an un lc td mtn), (aI cI (md 34) 300 mtp)] H := hP
      replace hD : va_D A [(moC md sd mth mst hn cn pn mq gn mln mnn ln mlt msz v12 mtk mfr mti mfa mfb an un lc td mtn), (aI cI (md 34) 300 mtp)] := hD
      refine lv_goto (tgt := 0) hx hb dX11_step_36 (by decide) ?_
      have clc13 := i_cl (x := msz) (by omega)
      have clc14 := i_cl (x := c0q) (by omega)
      have clc15 := i_cl (x := v12) (by omega)
      exact ih4 v12 ls H locs ⟨(by omega), (by omega), (by rw [show v12.toNatClampNeg = c0q.toNatClampNeg + 1 by omega]; exact (sp_in (T := mtp) (L := msz.toNatClampNeg) (i := c0q.toNatClampNeg) (by omega) (by omega)).symm.trans g3), lv_sub hl [0] rfl, hP.sub [0, 1] rfl, hD.sub [0, 1] (by decide +kernel) rfl, hS⟩ (by show msz.toInt - v12.toInt < _; omega)
    · skip
      have f16 := i_ne c10
      refine lv_aload_n hx hb dX11_step_13 rfl (lv_at hl 0 rfl) ?_
      refine lv_aload_n hx hb dX11_step_14 rfl (lv_at hl 0 rfl) ?_
      refine va_get (D := D) (ci := 11) (v := .int c0q) (C := RX11) (T := TX11) (N := 64) hx hb hts inX11_step_X11 hown hK hP 0 rfl rfl 38 (by decide) (hts (Cond.fieldLink RX11 250 "PortRoomsModel" "cursor" "I") (wm_t (wm_l (wm_i 0 rfl)))) (fun _ h9 => h9) rfl dX11_step_15 ?_
      refine st_i1 (va_runV (C := RX11) (As := [.int c0q]) (rest := []) ⟨hx, hb, hml, hown, hts⟩ (ct_X11_byteAt l D cI cY cJ cQ _ md sd mth mst hn cn pn mq gn mln mnn ln mlt msz c0q mtk mfr mti mfa mfb an un lc td mtn mtp c0q h1 h2 (by omega) h5) (cwV 1 hts gX11_step_X11_byteAt rfl rfl rfl ⟨rfl, cdX11_byteAt⟩ ⟨Nat.le_of_ble_eq_true rfl, Nat.le_of_ble_eq_true rfl⟩) (cPreV (hP.sub [0, 1] rfl) hK (hD.sub [0, 1] (by decide +kernel) rfl) hN (ci := 11) (q0 := 0) rfl rfl) rfl rfl hl.1 rfl (lv_room (Nat.le_of_ble_eq_true rfl)) dX11_step_18 ⟨Nat.le_of_ble_eq_true rfl, Nat.le_of_ble_eq_true rfl⟩) hP hD hS hA [0, 1] rfl (fun _ => rfl) (fun r19 u17 H locs hw18 => ?_)
      clear hP hS
      intro hP hS
      replace hw18 : (c0q.toInt < msz.toInt ∧ r19.toInt = (mtp c0q.toNatClampNeg).toInt ∧ 0 ≤ r19.toInt ∧ r19.toInt ≤ 255) ∨ (msz.toInt ≤ c0q.toInt ∧ r19.toInt = -1000000) := hw18
      refine lv_bipush (v := 10) hx hb dX11_step_21 (by decide) ?_
      refine lv_icmp_ne (tgt := 39) hx hb dX11_step_23 (by decide) (fun c20 => ?_) (fun c20 => ?_)
      · skip
        have f21 := i_ne c20
        have clc22 := i_cl (x := msz) (by omega)
        have clc23 := i_cl (x := c0q) (by omega)
        have clc24 := i_cl (x := mcu) (by omega)
        have hs9 : tS mtp msz.toNatClampNeg mcu.toNatClampNeg = c0q.toNatClampNeg := (show runTo spB mtp msz.toNatClampNeg mcu.toNatClampNeg = _ from g3.symm.trans (sp_out (by omega)))
        refine lv_aload_n hx hb dX11_step_39 rfl (lv_at hl 0 rfl) ?_
        refine lv_aload_n hx hb dX11_step_40 rfl (lv_at hl 0 rfl) ?_
        refine va_get (D := D) (ci := 11) (v := .int c0q) (C := RX11) (T := TX11) (N := 64) hx hb hts inX11_step_X11 hown hK hP 0 rfl rfl 38 (by decide) (hts (Cond.fieldLink RX11 250 "PortRoomsModel" "cursor" "I") (wm_t (wm_l (wm_i 0 rfl)))) (fun _ h9 => h9) rfl dX11_step_41 ?_
        refine va_put (D := D) (ci := 11) (v := .int c0q) (ty := .int) (C := RX11) (T := TX11) (N := 64) hx hb hts inX11_step_X11 tyX11 tyX11_ok nmX11 hown hK hP hD hS 0 rfl rfl 40 (by decide) (hts (Cond.fieldLink RX11 256 "PortRoomsModel" "from" "I") (wm_t (wm_l (wm_i 1 rfl)))) (fun _ h9 => h9) rfl (tyX11_ok 40 (by decide)) rfl rfl (Nat.le_of_ble_eq_true rfl) dX11_step_44 (fun H locs => ?_)
        clear hP hD hS
        intro hP hD hS
        replace hP : va_P D vwCl [(moC md sd mth mst hn cn pn mq gn mln mnn ln mlt msz c0q mtk c0q mti mfa mfb an un lc td mtn), (aI cI (md 34) 300 mtp)] H := hP
        replace hD : va_D A [(moC md sd mth mst hn cn pn mq gn mln mnn ln mlt msz c0q mtk c0q mti mfa mfb an un lc td mtn), (aI cI (md 34) 300 mtp)] := hD
        refine lv_aload_n hx hb dX11_step_47 rfl (lv_at hl 0 rfl) ?_
        refine lv_aload_n hx hb dX11_step_48 rfl (lv_at hl 0 rfl) ?_
        refine va_get (D := D) (ci := 11) (v := .int c0q) (C := RX11) (T := TX11) (N := 64) hx hb hts inX11_step_X11 hown hK hP 0 rfl rfl 38 (by decide) (hts (Cond.fieldLink RX11 250 "PortRoomsModel" "cursor" "I") (wm_t (wm_l (wm_i 0 rfl)))) (fun _ h9 => h9) rfl dX11_step_49 ?_
        refine st_i1 (va_runV (C := RX11) (As := [.int c0q]) (rest := []) ⟨hx, hb, hml, hown, hts⟩ (ct_X11_byteAt l D cI cY cJ cQ _ md sd mth mst hn cn pn mq gn mln mnn ln mlt msz c0q mtk c0q mti mfa mfb an un lc td mtn mtp c0q h1 h2 (by omega) h5) (cwV 1 hts gX11_step_X11_byteAt rfl rfl rfl ⟨rfl, cdX11_byteAt⟩ ⟨Nat.le_of_ble_eq_true rfl, Nat.le_of_ble_eq_true rfl⟩) (cPreV (hP.sub [0, 1] rfl) hK (hD.sub [0, 1] (by decide +kernel) rfl) hN (ci := 11) (q0 := 0) rfl rfl) rfl rfl hl.1 rfl (lv_room (Nat.le_of_ble_eq_true rfl)) dX11_step_52 ⟨Nat.le_of_ble_eq_true rfl, Nat.le_of_ble_eq_true rfl⟩) hP hD hS hA [0, 1] rfl (fun _ => rfl) (fun r27 u25 H locs hw26 => ?_)
        clear hP hS
        intro hP hS
        replace hw26 : (c0q.toInt < msz.toInt ∧ r27.toInt = (mtp c0q.toNatClampNeg).toInt ∧ 0 ≤ r27.toInt ∧ r27.toInt ≤ 255) ∨ (msz.toInt ≤ c0q.toInt ∧ r27.toInt = -1000000) := hw26
        refine lv_istore_n (lv' := [(1, .int r27), (0, .ref (md 64))]) hx hb dX11_step_55 rfl hl (by decide) rfl (fun ls hl => ?_)
        refine lv_iload_n hx hb dX11_step_56 rfl (lv_at hl 0 rfl) ?_
        refine lv_ldc hx hb hown (hts (Cond.constant RX11 139 (-1000000)) (wm_t (wm_l (wm_i 2 rfl)))) dX11_step_57 ?_
        refine lv_icmp_ne (tgt := 70) hx hb dX11_step_59 (by decide) (fun c28 => ?_) (fun c28 => ?_)
        · skip
          have f29 := i_ne c28
          refine lv_iload_n hx hb dX11_step_70 rfl (lv_at hl 0 rfl) ?_
          refine st_i1 (va_runS (As := [.int r27]) (rest := []) ⟨hx, hb, hml, hown, hts⟩ (ct_X11_isLetter l D cI cY cJ cQ _ r27) (va_cwS 1 hts gX11_step_X11_isLetter rfl rfl rfl cdX11_isLetter ⟨Nat.le_of_ble_eq_true rfl, Nat.le_of_ble_eq_true rfl⟩) (cPreS (hP.sub [] rfl) hK (hD.sub [] (by decide +kernel) rfl) hN) rfl rfl hl.1 rfl (lv_room (Nat.le_of_ble_eq_true rfl)) dX11_step_71 ⟨Nat.le_of_ble_eq_true rfl, Nat.le_of_ble_eq_true rfl⟩) hP hD hS hA [] rfl (fun _ => rfl) (fun r32 u30 H locs hw31 => ?_)
          clear hP hS
          intro hP hS
          replace hw31 : r32 = if 97 ≤ r27.toInt ∧ r27.toInt ≤ 122 then 1 else 0 := hw31
          refine lv_if_eq (tgt := 130) hx hb dX11_step_74 (by decide) (fun c33 => ?_) (fun c33 => ?_)
          · skip
            have f34 := bo_f hw31 c33
            refine lv_iload_n hx hb dX11_step_130 rfl (lv_at hl 0 rfl) ?_
            refine st_i1 (va_runS (As := [.int r27]) (rest := []) ⟨hx, hb, hml, hown, hts⟩ (ct_X11_isFigure l D cI cY cJ cQ _ r27) (va_cwS 1 hts gX11_step_X11_isFigure rfl rfl rfl cdX11_isFigure ⟨Nat.le_of_ble_eq_true rfl, Nat.le_of_ble_eq_true rfl⟩) (cPreS (hP.sub [] rfl) hK (hD.sub [] (by decide +kernel) rfl) hN) rfl rfl hl.1 rfl (lv_room (Nat.le_of_ble_eq_true rfl)) dX11_step_131 ⟨Nat.le_of_ble_eq_true rfl, Nat.le_of_ble_eq_true rfl⟩) hP hD hS hA [] rfl (fun _ => rfl) (fun r37 u35 H locs hw36 => ?_)
            clear hP hS
            intro hP hS
            replace hw36 : r37 = if 48 ≤ r27.toInt ∧ r27.toInt ≤ 57 then 1 else 0 := hw36
            refine lv_if_eq (tgt := 189) hx hb dX11_step_134 (by decide) (fun c38 => ?_) (fun c38 => ?_)
            · skip
              have f39 := bo_f hw36 c38
              refine lv_aload_n hx hb dX11_step_189 rfl (lv_at hl 1 rfl) ?_
              refine lv_dup hx hb dX11_step_190 rfl ?_
              refine va_get (D := D) (ci := 11) (v := .int c0q) (C := RX11) (T := TX11) (N := 64) hx hb hts inX11_step_X11 hown hK hP 0 rfl rfl 38 (by decide) (hts (Cond.fieldLink RX11 250 "PortRoomsModel" "cursor" "I") (wm_t (wm_l (wm_i 0 rfl)))) (fun _ h9 => h9) rfl dX11_step_191 ?_
              refine lv_iconst (v := 1) hx hb dX11_step_194 (by decide) ?_
              refine lv_iadd hx hb dX11_step_195 ?_
              refine lv_topi (fun v40 ev40 => ?_)
              try have tv40 : v40.toInt = c0q.toInt + 1 := by rw [ev40]; exact (i_add (x := c0q) (y := (1 : Int32)) (by rw [k1]; omega) (by rw [k1]; omega)).trans (by rw [k1])
              refine va_put (D := D) (ci := 11) (v := .int v40) (ty := .int) (C := RX11) (T := TX11) (N := 64) hx hb hts inX11_step_X11 tyX11 tyX11_ok nmX11 hown hK hP hD hS 0 rfl rfl 38 (by decide) (hts (Cond.fieldLink RX11 250 "PortRoomsModel" "cursor" "I") (wm_t (wm_l (wm_i 0 rfl)))) (fun _ h9 => h9) rfl (tyX11_ok 38 (by decide)) rfl rfl (Nat.le_of_ble_eq_true rfl) dX11_step_196 (fun H locs => ?_)
              clear hP hD hS
              intro hP hD hS
              replace hP : va_P D vwCl [(moC md sd mth mst hn cn pn mq gn mln mnn ln mlt msz v40 mtk c0q mti mfa mfb an un lc td mtn), (aI cI (md 34) 300 mtp)] H := hP
              replace hD : va_D A [(moC md sd mth mst hn cn pn mq gn mln mnn ln mlt msz v40 mtk c0q mti mfa mfb an un lc td mtn), (aI cI (md 34) 300 mtp)] := hD
              refine lv_aload_n hx hb dX11_step_199 rfl (lv_at hl 1 rfl) ?_
              refine lv_iload_n hx hb dX11_step_200 rfl (lv_at hl 0 rfl) ?_
              refine lv_bipush (v := 59) hx hb dX11_step_201 (by decide) ?_
              refine lv_icmp_eq (tgt := 212) hx hb dX11_step_203 (by decide) (fun c41 => ?_) (fun c41 => ?_)
              · skip
                have f42 := i_eq c41
                refine lv_iconst (v := 4) hx hb dX11_step_212 (by decide) ?_
                refine lv_goto (tgt := 217) hx hb dX11_step_213 (by decide) ?_
                refine va_put (D := D) (ci := 11) (v := .int 4) (ty := .int) (C := RX11) (T := TX11) (N := 64) hx hb hts inX11_step_X11 tyX11 tyX11_ok nmX11 hown hK hP hD hS 0 rfl rfl 39 (by decide) (hts (Cond.fieldLink RX11 259 "PortRoomsModel" "token" "I") (wm_t (wm_l (wm_i 3 rfl)))) (fun _ h9 => h9) rfl (tyX11_ok 39 (by decide)) rfl rfl (Nat.le_of_ble_eq_true rfl) dX11_step_217 (fun H locs => ?_)
                clear hP hD hS
                intro hP hD hS
                replace hP : va_P D vwCl [(moC md sd mth mst hn cn pn mq gn mln mnn ln mlt msz v40 (4) c0q mti mfa mfb an un lc td mtn), (aI cI (md 34) 300 mtp)] H := hP
                replace hD : va_D A [(moC md sd mth mst hn cn pn mq gn mln mnn ln mlt msz v40 (4) c0q mti mfa mfb an un lc td mtn), (aI cI (md 34) 300 mtp)] := hD
                refine lv_aload_n hx hb dX11_step_220 rfl (lv_at hl 1 rfl) ?_
                refine lv_aload_n hx hb dX11_step_221 rfl (lv_at hl 1 rfl) ?_
                refine va_get (D := D) (ci := 11) (v := .int v40) (C := RX11) (T := TX11) (N := 64) hx hb hts inX11_step_X11 hown hK hP 0 rfl rfl 38 (by decide) (hts (Cond.fieldLink RX11 250 "PortRoomsModel" "cursor" "I") (wm_t (wm_l (wm_i 0 rfl)))) (fun _ h9 => h9) rfl dX11_step_222 ?_
                refine va_put (D := D) (ci := 11) (v := .int v40) (ty := .int) (C := RX11) (T := TX11) (N := 64) hx hb hts inX11_step_X11 tyX11 tyX11_ok nmX11 hown hK hP hD hS 0 rfl rfl 41 (by decide) (hts (Cond.fieldLink RX11 268 "PortRoomsModel" "till" "I") (wm_t (wm_l (wm_i 4 rfl)))) (fun _ h9 => h9) rfl (tyX11_ok 41 (by decide)) rfl rfl (Nat.le_of_ble_eq_true rfl) dX11_step_225 (fun H locs => ?_)
                clear hP hD hS
                intro hP hD hS
                replace hP : va_P D vwCl [(moC md sd mth mst hn cn pn mq gn mln mnn ln mlt msz v40 (4) c0q v40 mfa mfb an un lc td mtn), (aI cI (md 34) 300 mtp)] H := hP
                replace hD : va_D A [(moC md sd mth mst hn cn pn mq gn mln mnn ln mlt msz v40 (4) c0q v40 mfa mfb an un lc td mtn), (aI cI (md 34) 300 mtp)] := hD
                have clc43 := i_cl (x := v40) (by omega)
                obtain ⟨hE9, -⟩ := tok_sgn hs9 (by omega) (by omega) (by omega)
                have hM9 := mk_sgn hs9 (by omega) (by omega) (by omega)
                have hP9 := hP
                have hD9 := hD
                exact W.vret hx hb hr (fun t ht hW => ⟨⟨(v40, 4, c0q, v40), rfl, (by show c0q.toInt = (tS mtp msz.toNatClampNeg mcu.toNatClampNeg : Int) ∧ v40.toInt = (tE mtp msz.toNatClampNeg mcu.toNatClampNeg : Int) ∧ v40.toInt = v40.toInt ∧ (4 : Int32).toInt = mK mtp msz.toNatClampNeg mcu.toNatClampNeg ∧ mcu.toInt ≤ c0q.toInt ∧ c0q.toInt ≤ v40.toInt ∧ v40.toInt ≤ msz.toInt; exact ⟨by omega, by omega, by omega, by rw [hM9]; split <;> omega, by omega, by omega, by omega⟩), by rw [ht]; exact hP9, va_K.moved hW.alike hK, hD9⟩, hS.F ht⟩) hS.2.2 dX11_step_228
              · skip
                have f44 := i_ne c41
                refine lv_iload_n hx hb dX11_step_206 rfl (lv_at hl 0 rfl) ?_
                refine lv_bipush (v := 62) hx hb dX11_step_207 (by decide) ?_
                refine lv_icmp_ne (tgt := 216) hx hb dX11_step_209 (by decide) (fun c45 => ?_) (fun c45 => ?_)
                · skip
                  have f46 := i_ne c45
                  refine lv_iconst (v := 0) hx hb dX11_step_216 (by decide) ?_
                  refine va_put (D := D) (ci := 11) (v := .int 0) (ty := .int) (C := RX11) (T := TX11) (N := 64) hx hb hts inX11_step_X11 tyX11 tyX11_ok nmX11 hown hK hP hD hS 0 rfl rfl 39 (by decide) (hts (Cond.fieldLink RX11 259 "PortRoomsModel" "token" "I") (wm_t (wm_l (wm_i 3 rfl)))) (fun _ h9 => h9) rfl (tyX11_ok 39 (by decide)) rfl rfl (Nat.le_of_ble_eq_true rfl) dX11_step_217 (fun H locs => ?_)
                  clear hP hD hS
                  intro hP hD hS
                  replace hP : va_P D vwCl [(moC md sd mth mst hn cn pn mq gn mln mnn ln mlt msz v40 (0) c0q mti mfa mfb an un lc td mtn), (aI cI (md 34) 300 mtp)] H := hP
                  replace hD : va_D A [(moC md sd mth mst hn cn pn mq gn mln mnn ln mlt msz v40 (0) c0q mti mfa mfb an un lc td mtn), (aI cI (md 34) 300 mtp)] := hD
                  refine lv_aload_n hx hb dX11_step_220 rfl (lv_at hl 1 rfl) ?_
                  refine lv_aload_n hx hb dX11_step_221 rfl (lv_at hl 1 rfl) ?_
                  refine va_get (D := D) (ci := 11) (v := .int v40) (C := RX11) (T := TX11) (N := 64) hx hb hts inX11_step_X11 hown hK hP 0 rfl rfl 38 (by decide) (hts (Cond.fieldLink RX11 250 "PortRoomsModel" "cursor" "I") (wm_t (wm_l (wm_i 0 rfl)))) (fun _ h9 => h9) rfl dX11_step_222 ?_
                  refine va_put (D := D) (ci := 11) (v := .int v40) (ty := .int) (C := RX11) (T := TX11) (N := 64) hx hb hts inX11_step_X11 tyX11 tyX11_ok nmX11 hown hK hP hD hS 0 rfl rfl 41 (by decide) (hts (Cond.fieldLink RX11 268 "PortRoomsModel" "till" "I") (wm_t (wm_l (wm_i 4 rfl)))) (fun _ h9 => h9) rfl (tyX11_ok 41 (by decide)) rfl rfl (Nat.le_of_ble_eq_true rfl) dX11_step_225 (fun H locs => ?_)
                  clear hP hD hS
                  intro hP hD hS
                  replace hP : va_P D vwCl [(moC md sd mth mst hn cn pn mq gn mln mnn ln mlt msz v40 (0) c0q v40 mfa mfb an un lc td mtn), (aI cI (md 34) 300 mtp)] H := hP
                  replace hD : va_D A [(moC md sd mth mst hn cn pn mq gn mln mnn ln mlt msz v40 (0) c0q v40 mfa mfb an un lc td mtn), (aI cI (md 34) 300 mtp)] := hD
                  have clc47 := i_cl (x := v40) (by omega)
                  obtain ⟨hE9, -⟩ := tok_sgn hs9 (by omega) (by omega) (by omega)
                  have hM9 := mk_sgn hs9 (by omega) (by omega) (by omega)
                  have hP9 := hP
                  have hD9 := hD
                  exact W.vret hx hb hr (fun t ht hW => ⟨⟨(v40, 0, c0q, v40), rfl, (by show c0q.toInt = (tS mtp msz.toNatClampNeg mcu.toNatClampNeg : Int) ∧ v40.toInt = (tE mtp msz.toNatClampNeg mcu.toNatClampNeg : Int) ∧ v40.toInt = v40.toInt ∧ (0 : Int32).toInt = mK mtp msz.toNatClampNeg mcu.toNatClampNeg ∧ mcu.toInt ≤ c0q.toInt ∧ c0q.toInt ≤ v40.toInt ∧ v40.toInt ≤ msz.toInt; exact ⟨by omega, by omega, by omega, by rw [hM9]; split <;> omega, by omega, by omega, by omega⟩), by rw [ht]; exact hP9, va_K.moved hW.alike hK, hD9⟩, hS.F ht⟩) hS.2.2 dX11_step_228
                · skip
                  have f48 := i_eq c45
                  refine lv_iconst (v := 4) hx hb dX11_step_212 (by decide) ?_
                  refine lv_goto (tgt := 217) hx hb dX11_step_213 (by decide) ?_
                  refine va_put (D := D) (ci := 11) (v := .int 4) (ty := .int) (C := RX11) (T := TX11) (N := 64) hx hb hts inX11_step_X11 tyX11 tyX11_ok nmX11 hown hK hP hD hS 0 rfl rfl 39 (by decide) (hts (Cond.fieldLink RX11 259 "PortRoomsModel" "token" "I") (wm_t (wm_l (wm_i 3 rfl)))) (fun _ h9 => h9) rfl (tyX11_ok 39 (by decide)) rfl rfl (Nat.le_of_ble_eq_true rfl) dX11_step_217 (fun H locs => ?_)
                  clear hP hD hS
                  intro hP hD hS
                  replace hP : va_P D vwCl [(moC md sd mth mst hn cn pn mq gn mln mnn ln mlt msz v40 (4) c0q mti mfa mfb an un lc td mtn), (aI cI (md 34) 300 mtp)] H := hP
                  replace hD : va_D A [(moC md sd mth mst hn cn pn mq gn mln mnn ln mlt msz v40 (4) c0q mti mfa mfb an un lc td mtn), (aI cI (md 34) 300 mtp)] := hD
                  refine lv_aload_n hx hb dX11_step_220 rfl (lv_at hl 1 rfl) ?_
                  refine lv_aload_n hx hb dX11_step_221 rfl (lv_at hl 1 rfl) ?_
                  refine va_get (D := D) (ci := 11) (v := .int v40) (C := RX11) (T := TX11) (N := 64) hx hb hts inX11_step_X11 hown hK hP 0 rfl rfl 38 (by decide) (hts (Cond.fieldLink RX11 250 "PortRoomsModel" "cursor" "I") (wm_t (wm_l (wm_i 0 rfl)))) (fun _ h9 => h9) rfl dX11_step_222 ?_
                  refine va_put (D := D) (ci := 11) (v := .int v40) (ty := .int) (C := RX11) (T := TX11) (N := 64) hx hb hts inX11_step_X11 tyX11 tyX11_ok nmX11 hown hK hP hD hS 0 rfl rfl 41 (by decide) (hts (Cond.fieldLink RX11 268 "PortRoomsModel" "till" "I") (wm_t (wm_l (wm_i 4 rfl)))) (fun _ h9 => h9) rfl (tyX11_ok 41 (by decide)) rfl rfl (Nat.le_of_ble_eq_true rfl) dX11_step_225 (fun H locs => ?_)
                  clear hP hD hS
                  intro hP hD hS
                  replace hP : va_P D vwCl [(moC md sd mth mst hn cn pn mq gn mln mnn ln mlt msz v40 (4) c0q v40 mfa mfb an un lc td mtn), (aI cI (md 34) 300 mtp)] H := hP
                  replace hD : va_D A [(moC md sd mth mst hn cn pn mq gn mln mnn ln mlt msz v40 (4) c0q v40 mfa mfb an un lc td mtn), (aI cI (md 34) 300 mtp)] := hD
                  have clc49 := i_cl (x := v40) (by omega)
                  obtain ⟨hE9, -⟩ := tok_sgn hs9 (by omega) (by omega) (by omega)
                  have hM9 := mk_sgn hs9 (by omega) (by omega) (by omega)
                  have hP9 := hP
                  have hD9 := hD
                  exact W.vret hx hb hr (fun t ht hW => ⟨⟨(v40, 4, c0q, v40), rfl, (by show c0q.toInt = (tS mtp msz.toNatClampNeg mcu.toNatClampNeg : Int) ∧ v40.toInt = (tE mtp msz.toNatClampNeg mcu.toNatClampNeg : Int) ∧ v40.toInt = v40.toInt ∧ (4 : Int32).toInt = mK mtp msz.toNatClampNeg mcu.toNatClampNeg ∧ mcu.toInt ≤ c0q.toInt ∧ c0q.toInt ≤ v40.toInt ∧ v40.toInt ≤ msz.toInt; exact ⟨by omega, by omega, by omega, by rw [hM9]; split <;> omega, by omega, by omega, by omega⟩), by rw [ht]; exact hP9, va_K.moved hW.alike hK, hD9⟩, hS.F ht⟩) hS.2.2 dX11_step_228
            · skip
              have f50 := bo_t hw36 c38
              refine st_loop 137 (fun _ => []) (fun (c2q : Int32) (ls : Array Slot) (H : Heap) (locs : List Loc) => (c0q.toInt ≤ c2q.toInt) ∧ (c2q.toInt ≤ msz.toInt) ∧ (runTo fiB mtp msz.toNatClampNeg c2q.toNatClampNeg = runTo fiB mtp msz.toNatClampNeg c0q.toNatClampNeg) ∧ lv_has ls 2 [(0, .ref (md 64)), (1, .int r27)] ∧ va_P D vwCl [(moC md sd mth mst hn cn pn mq gn mln mnn ln mlt msz c2q mtk c0q mti mfa mfb an un lc td mtn), (aI cI (md 34) 300 mtp)] H ∧ va_D A [(moC md sd mth mst hn cn pn mq gn mln mnn ln mlt msz c2q mtk c0q mti mfa mfb an un lc td mtn), (aI cI (md 34) 300 mtp)] ∧ va_S A s.heap H locs) (fun (c2q : Int32) => msz.toInt - c2q.toInt) ?_ ?_ c0q ⟨(by omega), (by omega), (by rfl), lv_sub hl [1, 0] rfl, hP, hD, hS⟩
              · rintro c2q ls H locs ⟨g51, g52, g53, hl, hP, hD, hS⟩
                show (0 : Int) ≤ msz.toInt - c2q.toInt
                omega
              · rintro n56 ih54 c2q ls H locs ⟨g51, g52, g53, hl, hP, hD, hS⟩ hm55
                have hm55 : msz.toInt - c2q.toInt < (n56 : Int) + 1 := hm55
                replace hl : lv_has ls 2 [(0, .ref (md 64)), (1, .int r27)] := hl
                replace hP : va_P D vwCl [(moC md sd mth mst hn cn pn mq gn mln mnn ln mlt msz c2q mtk c0q mti mfa mfb an un lc td mtn), (aI cI (md 34) 300 mtp)] H := hP
                replace hD : va_D A [(moC md sd mth mst hn cn pn mq gn mln mnn ln mlt msz c2q mtk c0q mti mfa mfb an un lc td mtn), (aI cI (md 34) 300 mtp)] := hD
                show W _ _ _ _ _ _ _ _ _ _ _ _ _ _ _ (F0 m 137 ls [])
                refine lv_aload_n hx hb dX11_step_137 rfl (lv_at hl 0 rfl) ?_
                refine lv_aload_n hx hb dX11_step_138 rfl (lv_at hl 0 rfl) ?_
                refine va_get (D := D) (ci := 11) (v := .int c2q) (C := RX11) (T := TX11) (N := 64) hx hb hts inX11_step_X11 hown hK hP 0 rfl rfl 38 (by decide) (hts (Cond.fieldLink RX11 250 "PortRoomsModel" "cursor" "I") (wm_t (wm_l (wm_i 0 rfl)))) (fun _ h9 => h9) rfl dX11_step_139 ?_
                refine st_i1 (va_runV (C := RX11) (As := [.int c2q]) (rest := []) ⟨hx, hb, hml, hown, hts⟩ (ct_X11_byteAt l D cI cY cJ cQ _ md sd mth mst hn cn pn mq gn mln mnn ln mlt msz c2q mtk c0q mti mfa mfb an un lc td mtn mtp c2q h1 h2 (by omega) h5) (cwV 1 hts gX11_step_X11_byteAt rfl rfl rfl ⟨rfl, cdX11_byteAt⟩ ⟨Nat.le_of_ble_eq_true rfl, Nat.le_of_ble_eq_true rfl⟩) (cPreV (hP.sub [0, 1] rfl) hK (hD.sub [0, 1] (by decide +kernel) rfl) hN (ci := 11) (q0 := 0) rfl rfl) rfl rfl hl.1 rfl (lv_room (Nat.le_of_ble_eq_true rfl)) dX11_step_142 ⟨Nat.le_of_ble_eq_true rfl, Nat.le_of_ble_eq_true rfl⟩) hP hD hS hA [0, 1] rfl (fun _ => rfl) (fun r59 u57 H locs hw58 => ?_)
                clear hP hS
                intro hP hS
                replace hw58 : (c2q.toInt < msz.toInt ∧ r59.toInt = (mtp c2q.toNatClampNeg).toInt ∧ 0 ≤ r59.toInt ∧ r59.toInt ≤ 255) ∨ (msz.toInt ≤ c2q.toInt ∧ r59.toInt = -1000000) := hw58
                refine st_i1 (va_runS (As := [.int r59]) (rest := []) ⟨hx, hb, hml, hown, hts⟩ (ct_X11_isFigure l D cI cY cJ cQ _ r59) (va_cwS 1 hts gX11_step_X11_isFigure rfl rfl rfl cdX11_isFigure ⟨Nat.le_of_ble_eq_true rfl, Nat.le_of_ble_eq_true rfl⟩) (cPreS (hP.sub [] rfl) hK (hD.sub [] (by decide +kernel) rfl) hN) rfl rfl hl.1 rfl (lv_room (Nat.le_of_ble_eq_true rfl)) dX11_step_145 ⟨Nat.le_of_ble_eq_true rfl, Nat.le_of_ble_eq_true rfl⟩) hP hD hS hA [] rfl (fun _ => rfl) (fun r62 u60 H locs hw61 => ?_)
                clear hP hS
                intro hP hS
                replace hw61 : r62 = if 48 ≤ r59.toInt ∧ r59.toInt ≤ 57 then 1 else 0 := hw61
                refine lv_if_eq (tgt := 164) hx hb dX11_step_148 (by decide) (fun c63 => ?_) (fun c63 => ?_)
                · skip
                  have f64 := bo_f hw61 c63
                  have clc65 := i_cl (x := c2q) (by omega)
                  have he9 : runTo fiB mtp msz.toNatClampNeg c0q.toNatClampNeg = c2q.toNatClampNeg := g53.symm.trans (fi_out (by omega))
                  refine lv_aload_n hx hb dX11_step_164 rfl (lv_at hl 0 rfl) ?_
                  refine lv_aload_n hx hb dX11_step_165 rfl (lv_at hl 0 rfl) ?_
                  refine va_get (D := D) (ci := 11) (v := .int c2q) (C := RX11) (T := TX11) (N := 64) hx hb hts inX11_step_X11 hown hK hP 0 rfl rfl 38 (by decide) (hts (Cond.fieldLink RX11 250 "PortRoomsModel" "cursor" "I") (wm_t (wm_l (wm_i 0 rfl)))) (fun _ h9 => h9) rfl dX11_step_166 ?_
                  refine lv_aload_n hx hb dX11_step_169 rfl (lv_at hl 0 rfl) ?_
                  refine va_get (D := D) (ci := 11) (v := .int c0q) (C := RX11) (T := TX11) (N := 64) hx hb hts inX11_step_X11 hown hK hP 0 rfl rfl 40 (by decide) (hts (Cond.fieldLink RX11 256 "PortRoomsModel" "from" "I") (wm_t (wm_l (wm_i 1 rfl)))) (fun _ h9 => h9) rfl dX11_step_170 ?_
                  refine lv_isub hx hb dX11_step_173 ?_
                  refine lv_topi (fun v66 ev66 => ?_)
                  try have tv66 : v66.toInt = c2q.toInt - c0q.toInt := by rw [ev66]; exact (i_sub (x := c2q) (y := c0q) (by omega) (by omega))
                  refine lv_iconst (v := 4) hx hb dX11_step_174 (by decide) ?_
                  refine lv_icmp_le (tgt := 182) hx hb dX11_step_175 (by decide) (fun c67 => ?_) (fun c67 => ?_)
                  · skip
                    have f68 := i_le c67
                    refine lv_iconst (v := 3) hx hb dX11_step_182 (by decide) ?_
                    refine va_put (D := D) (ci := 11) (v := .int 3) (ty := .int) (C := RX11) (T := TX11) (N := 64) hx hb hts inX11_step_X11 tyX11 tyX11_ok nmX11 hown hK hP hD hS 0 rfl rfl 39 (by decide) (hts (Cond.fieldLink RX11 259 "PortRoomsModel" "token" "I") (wm_t (wm_l (wm_i 3 rfl)))) (fun _ h9 => h9) rfl (tyX11_ok 39 (by decide)) rfl rfl (Nat.le_of_ble_eq_true rfl) dX11_step_183 (fun H locs => ?_)
                    clear hP hD hS
                    intro hP hD hS
                    replace hP : va_P D vwCl [(moC md sd mth mst hn cn pn mq gn mln mnn ln mlt msz c2q (3) c0q mti mfa mfb an un lc td mtn), (aI cI (md 34) 300 mtp)] H := hP
                    replace hD : va_D A [(moC md sd mth mst hn cn pn mq gn mln mnn ln mlt msz c2q (3) c0q mti mfa mfb an un lc td mtn), (aI cI (md 34) 300 mtp)] := hD
                    refine lv_goto (tgt := 220) hx hb dX11_step_186 (by decide) ?_
                    refine lv_aload_n hx hb dX11_step_220 rfl (lv_at hl 0 rfl) ?_
                    refine lv_aload_n hx hb dX11_step_221 rfl (lv_at hl 0 rfl) ?_
                    refine va_get (D := D) (ci := 11) (v := .int c2q) (C := RX11) (T := TX11) (N := 64) hx hb hts inX11_step_X11 hown hK hP 0 rfl rfl 38 (by decide) (hts (Cond.fieldLink RX11 250 "PortRoomsModel" "cursor" "I") (wm_t (wm_l (wm_i 0 rfl)))) (fun _ h9 => h9) rfl dX11_step_222 ?_
                    refine va_put (D := D) (ci := 11) (v := .int c2q) (ty := .int) (C := RX11) (T := TX11) (N := 64) hx hb hts inX11_step_X11 tyX11 tyX11_ok nmX11 hown hK hP hD hS 0 rfl rfl 41 (by decide) (hts (Cond.fieldLink RX11 268 "PortRoomsModel" "till" "I") (wm_t (wm_l (wm_i 4 rfl)))) (fun _ h9 => h9) rfl (tyX11_ok 41 (by decide)) rfl rfl (Nat.le_of_ble_eq_true rfl) dX11_step_225 (fun H locs => ?_)
                    clear hP hD hS
                    intro hP hD hS
                    replace hP : va_P D vwCl [(moC md sd mth mst hn cn pn mq gn mln mnn ln mlt msz c2q (3) c0q c2q mfa mfb an un lc td mtn), (aI cI (md 34) 300 mtp)] H := hP
                    replace hD : va_D A [(moC md sd mth mst hn cn pn mq gn mln mnn ln mlt msz c2q (3) c0q c2q mfa mfb an un lc td mtn), (aI cI (md 34) 300 mtp)] := hD
                    have clc69 := i_cl (x := c2q) (by omega)
                    obtain ⟨hE9, -, -⟩ := tok_fig hs9 (by omega) (by omega) he9
                    have hM9 := mk_fig hs9 (by omega) (by omega) hE9
                    have hP9 := hP
                    have hD9 := hD
                    exact W.vret hx hb hr (fun t ht hW => ⟨⟨(c2q, 3, c0q, c2q), rfl, (by show c0q.toInt = (tS mtp msz.toNatClampNeg mcu.toNatClampNeg : Int) ∧ c2q.toInt = (tE mtp msz.toNatClampNeg mcu.toNatClampNeg : Int) ∧ c2q.toInt = c2q.toInt ∧ (3 : Int32).toInt = mK mtp msz.toNatClampNeg mcu.toNatClampNeg ∧ mcu.toInt ≤ c0q.toInt ∧ c0q.toInt ≤ c2q.toInt ∧ c2q.toInt ≤ msz.toInt; exact ⟨by omega, by omega, by omega, by rw [hM9]; split <;> omega, by omega, by omega, by omega⟩), by rw [ht]; exact hP9, va_K.moved hW.alike hK, hD9⟩, hS.F ht⟩) hS.2.2 dX11_step_228
                  · skip
                    have f70 := i_nle c67
                    refine lv_iconst (v := 0) hx hb dX11_step_178 (by decide) ?_
                    refine lv_goto (tgt := 183) hx hb dX11_step_179 (by decide) ?_
                    refine va_put (D := D) (ci := 11) (v := .int 0) (ty := .int) (C := RX11) (T := TX11) (N := 64) hx hb hts inX11_step_X11 tyX11 tyX11_ok nmX11 hown hK hP hD hS 0 rfl rfl 39 (by decide) (hts (Cond.fieldLink RX11 259 "PortRoomsModel" "token" "I") (wm_t (wm_l (wm_i 3 rfl)))) (fun _ h9 => h9) rfl (tyX11_ok 39 (by decide)) rfl rfl (Nat.le_of_ble_eq_true rfl) dX11_step_183 (fun H locs => ?_)
                    clear hP hD hS
                    intro hP hD hS
                    replace hP : va_P D vwCl [(moC md sd mth mst hn cn pn mq gn mln mnn ln mlt msz c2q (0) c0q mti mfa mfb an un lc td mtn), (aI cI (md 34) 300 mtp)] H := hP
                    replace hD : va_D A [(moC md sd mth mst hn cn pn mq gn mln mnn ln mlt msz c2q (0) c0q mti mfa mfb an un lc td mtn), (aI cI (md 34) 300 mtp)] := hD
                    refine lv_goto (tgt := 220) hx hb dX11_step_186 (by decide) ?_
                    refine lv_aload_n hx hb dX11_step_220 rfl (lv_at hl 0 rfl) ?_
                    refine lv_aload_n hx hb dX11_step_221 rfl (lv_at hl 0 rfl) ?_
                    refine va_get (D := D) (ci := 11) (v := .int c2q) (C := RX11) (T := TX11) (N := 64) hx hb hts inX11_step_X11 hown hK hP 0 rfl rfl 38 (by decide) (hts (Cond.fieldLink RX11 250 "PortRoomsModel" "cursor" "I") (wm_t (wm_l (wm_i 0 rfl)))) (fun _ h9 => h9) rfl dX11_step_222 ?_
                    refine va_put (D := D) (ci := 11) (v := .int c2q) (ty := .int) (C := RX11) (T := TX11) (N := 64) hx hb hts inX11_step_X11 tyX11 tyX11_ok nmX11 hown hK hP hD hS 0 rfl rfl 41 (by decide) (hts (Cond.fieldLink RX11 268 "PortRoomsModel" "till" "I") (wm_t (wm_l (wm_i 4 rfl)))) (fun _ h9 => h9) rfl (tyX11_ok 41 (by decide)) rfl rfl (Nat.le_of_ble_eq_true rfl) dX11_step_225 (fun H locs => ?_)
                    clear hP hD hS
                    intro hP hD hS
                    replace hP : va_P D vwCl [(moC md sd mth mst hn cn pn mq gn mln mnn ln mlt msz c2q (0) c0q c2q mfa mfb an un lc td mtn), (aI cI (md 34) 300 mtp)] H := hP
                    replace hD : va_D A [(moC md sd mth mst hn cn pn mq gn mln mnn ln mlt msz c2q (0) c0q c2q mfa mfb an un lc td mtn), (aI cI (md 34) 300 mtp)] := hD
                    have clc71 := i_cl (x := c2q) (by omega)
                    obtain ⟨hE9, -, -⟩ := tok_fig hs9 (by omega) (by omega) he9
                    have hM9 := mk_fig hs9 (by omega) (by omega) hE9
                    have hP9 := hP
                    have hD9 := hD
                    exact W.vret hx hb hr (fun t ht hW => ⟨⟨(c2q, 0, c0q, c2q), rfl, (by show c0q.toInt = (tS mtp msz.toNatClampNeg mcu.toNatClampNeg : Int) ∧ c2q.toInt = (tE mtp msz.toNatClampNeg mcu.toNatClampNeg : Int) ∧ c2q.toInt = c2q.toInt ∧ (0 : Int32).toInt = mK mtp msz.toNatClampNeg mcu.toNatClampNeg ∧ mcu.toInt ≤ c0q.toInt ∧ c0q.toInt ≤ c2q.toInt ∧ c2q.toInt ≤ msz.toInt; exact ⟨by omega, by omega, by omega, by rw [hM9]; split <;> omega, by omega, by omega, by omega⟩), by rw [ht]; exact hP9, va_K.moved hW.alike hK, hD9⟩, hS.F ht⟩) hS.2.2 dX11_step_228
                · skip
                  have f72 := bo_t hw61 c63
                  refine lv_aload_n hx hb dX11_step_151 rfl (lv_at hl 0 rfl) ?_
                  refine lv_dup hx hb dX11_step_152 rfl ?_
                  refine va_get (D := D) (ci := 11) (v := .int c2q) (C := RX11) (T := TX11) (N := 64) hx hb hts inX11_step_X11 hown hK hP 0 rfl rfl 38 (by decide) (hts (Cond.fieldLink RX11 250 "PortRoomsModel" "cursor" "I") (wm_t (wm_l (wm_i 0 rfl)))) (fun _ h9 => h9) rfl dX11_step_153 ?_
                  refine lv_iconst (v := 1) hx hb dX11_step_156 (by decide) ?_
                  refine lv_iadd hx hb dX11_step_157 ?_
                  refine lv_topi (fun v73 ev73 => ?_)
                  try have tv73 : v73.toInt = c2q.toInt + 1 := by rw [ev73]; exact (i_add (x := c2q) (y := (1 : Int32)) (by rw [k1]; omega) (by rw [k1]; omega)).trans (by rw [k1])
                  refine va_put (D := D) (ci := 11) (v := .int v73) (ty := .int) (C := RX11) (T := TX11) (N := 64) hx hb hts inX11_step_X11 tyX11 tyX11_ok nmX11 hown hK hP hD hS 0 rfl rfl 38 (by decide) (hts (Cond.fieldLink RX11 250 "PortRoomsModel" "cursor" "I") (wm_t (wm_l (wm_i 0 rfl)))) (fun _ h9 => h9) rfl (tyX11_ok 38 (by decide)) rfl rfl (Nat.le_of_ble_eq_true rfl) dX11_step_158 (fun H locs => ?_)
                  clear hP hD hS
                  intro hP hD hS
                  replace hP : va_P D vwCl [(moC md sd mth mst hn cn pn mq gn mln mnn ln mlt msz v73 mtk c0q mti mfa mfb an un lc td mtn), (aI cI (md 34) 300 mtp)] H := hP
                  replace hD : va_D A [(moC md sd mth mst hn cn pn mq gn mln mnn ln mlt msz v73 mtk c0q mti mfa mfb an un lc td mtn), (aI cI (md 34) 300 mtp)] := hD
                  refine lv_goto (tgt := 137) hx hb dX11_step_161 (by decide) ?_
                  have clc74 := i_cl (x := msz) (by omega)
                  have clc75 := i_cl (x := c2q) (by omega)
                  have clc76 := i_cl (x := v73) (by omega)
                  exact ih54 v73 ls H locs ⟨(by omega), (by omega), (by rw [show v73.toNatClampNeg = c2q.toNatClampNeg + 1 by omega]; exact (fi_in (T := mtp) (L := msz.toNatClampNeg) (i := c2q.toNatClampNeg) (by omega) (by omega)).symm.trans g53), lv_sub hl [0, 1] rfl, hP.sub [0, 1] rfl, hD.sub [0, 1] (by decide +kernel) rfl, hS⟩ (by show msz.toInt - v73.toInt < _; omega)
          · skip
            have f77 := bo_t hw31 c33
            refine st_loop 77 (fun _ => []) (fun (c1q : Int32) (ls : Array Slot) (H : Heap) (locs : List Loc) => (c0q.toInt ≤ c1q.toInt) ∧ (c1q.toInt ≤ msz.toInt) ∧ (runTo leB mtp msz.toNatClampNeg c1q.toNatClampNeg = runTo leB mtp msz.toNatClampNeg c0q.toNatClampNeg) ∧ lv_has ls 2 [(0, .ref (md 64)), (1, .int r27)] ∧ va_P D vwCl [(moC md sd mth mst hn cn pn mq gn mln mnn ln mlt msz c1q mtk c0q mti mfa mfb an un lc td mtn), (aI cI (md 34) 300 mtp)] H ∧ va_D A [(moC md sd mth mst hn cn pn mq gn mln mnn ln mlt msz c1q mtk c0q mti mfa mfb an un lc td mtn), (aI cI (md 34) 300 mtp)] ∧ va_S A s.heap H locs) (fun (c1q : Int32) => msz.toInt - c1q.toInt) ?_ ?_ c0q ⟨(by omega), (by omega), (by rfl), lv_sub hl [1, 0] rfl, hP, hD, hS⟩
            · rintro c1q ls H locs ⟨g78, g79, g80, hl, hP, hD, hS⟩
              show (0 : Int) ≤ msz.toInt - c1q.toInt
              omega
            · rintro n83 ih81 c1q ls H locs ⟨g78, g79, g80, hl, hP, hD, hS⟩ hm82
              have hm82 : msz.toInt - c1q.toInt < (n83 : Int) + 1 := hm82
              replace hl : lv_has ls 2 [(0, .ref (md 64)), (1, .int r27)] := hl
              replace hP : va_P D vwCl [(moC md sd mth mst hn cn pn mq gn mln mnn ln mlt msz c1q mtk c0q mti mfa mfb an un lc td mtn), (aI cI (md 34) 300 mtp)] H := hP
              replace hD : va_D A [(moC md sd mth mst hn cn pn mq gn mln mnn ln mlt msz c1q mtk c0q mti mfa mfb an un lc td mtn), (aI cI (md 34) 300 mtp)] := hD
              show W _ _ _ _ _ _ _ _ _ _ _ _ _ _ _ (F0 m 77 ls [])
              refine lv_aload_n hx hb dX11_step_77 rfl (lv_at hl 0 rfl) ?_
              refine lv_aload_n hx hb dX11_step_78 rfl (lv_at hl 0 rfl) ?_
              refine va_get (D := D) (ci := 11) (v := .int c1q) (C := RX11) (T := TX11) (N := 64) hx hb hts inX11_step_X11 hown hK hP 0 rfl rfl 38 (by decide) (hts (Cond.fieldLink RX11 250 "PortRoomsModel" "cursor" "I") (wm_t (wm_l (wm_i 0 rfl)))) (fun _ h9 => h9) rfl dX11_step_79 ?_
              refine st_i1 (va_runV (C := RX11) (As := [.int c1q]) (rest := []) ⟨hx, hb, hml, hown, hts⟩ (ct_X11_byteAt l D cI cY cJ cQ _ md sd mth mst hn cn pn mq gn mln mnn ln mlt msz c1q mtk c0q mti mfa mfb an un lc td mtn mtp c1q h1 h2 (by omega) h5) (cwV 1 hts gX11_step_X11_byteAt rfl rfl rfl ⟨rfl, cdX11_byteAt⟩ ⟨Nat.le_of_ble_eq_true rfl, Nat.le_of_ble_eq_true rfl⟩) (cPreV (hP.sub [0, 1] rfl) hK (hD.sub [0, 1] (by decide +kernel) rfl) hN (ci := 11) (q0 := 0) rfl rfl) rfl rfl hl.1 rfl (lv_room (Nat.le_of_ble_eq_true rfl)) dX11_step_82 ⟨Nat.le_of_ble_eq_true rfl, Nat.le_of_ble_eq_true rfl⟩) hP hD hS hA [0, 1] rfl (fun _ => rfl) (fun r86 u84 H locs hw85 => ?_)
              clear hP hS
              intro hP hS
              replace hw85 : (c1q.toInt < msz.toInt ∧ r86.toInt = (mtp c1q.toNatClampNeg).toInt ∧ 0 ≤ r86.toInt ∧ r86.toInt ≤ 255) ∨ (msz.toInt ≤ c1q.toInt ∧ r86.toInt = -1000000) := hw85
              refine st_i1 (va_runS (As := [.int r86]) (rest := []) ⟨hx, hb, hml, hown, hts⟩ (ct_X11_isLetter l D cI cY cJ cQ _ r86) (va_cwS 1 hts gX11_step_X11_isLetter rfl rfl rfl cdX11_isLetter ⟨Nat.le_of_ble_eq_true rfl, Nat.le_of_ble_eq_true rfl⟩) (cPreS (hP.sub [] rfl) hK (hD.sub [] (by decide +kernel) rfl) hN) rfl rfl hl.1 rfl (lv_room (Nat.le_of_ble_eq_true rfl)) dX11_step_85 ⟨Nat.le_of_ble_eq_true rfl, Nat.le_of_ble_eq_true rfl⟩) hP hD hS hA [] rfl (fun _ => rfl) (fun r89 u87 H locs hw88 => ?_)
              clear hP hS
              intro hP hS
              replace hw88 : r89 = if 97 ≤ r86.toInt ∧ r86.toInt ≤ 122 then 1 else 0 := hw88
              refine lv_if_eq (tgt := 104) hx hb dX11_step_88 (by decide) (fun c90 => ?_) (fun c90 => ?_)
              · skip
                have f91 := bo_f hw88 c90
                have clc92 := i_cl (x := c1q) (by omega)
                have he9 : runTo leB mtp msz.toNatClampNeg c0q.toNatClampNeg = c1q.toNatClampNeg := g80.symm.trans (le_out (by omega))
                refine lv_aload_n hx hb dX11_step_104 rfl (lv_at hl 0 rfl) ?_
                refine lv_aload_n hx hb dX11_step_105 rfl (lv_at hl 0 rfl) ?_
                refine va_get (D := D) (ci := 11) (v := .int c1q) (C := RX11) (T := TX11) (N := 64) hx hb hts inX11_step_X11 hown hK hP 0 rfl rfl 38 (by decide) (hts (Cond.fieldLink RX11 250 "PortRoomsModel" "cursor" "I") (wm_t (wm_l (wm_i 0 rfl)))) (fun _ h9 => h9) rfl dX11_step_106 ?_
                refine lv_aload_n hx hb dX11_step_109 rfl (lv_at hl 0 rfl) ?_
                refine va_get (D := D) (ci := 11) (v := .int c0q) (C := RX11) (T := TX11) (N := 64) hx hb hts inX11_step_X11 hown hK hP 0 rfl rfl 40 (by decide) (hts (Cond.fieldLink RX11 256 "PortRoomsModel" "from" "I") (wm_t (wm_l (wm_i 1 rfl)))) (fun _ h9 => h9) rfl dX11_step_110 ?_
                refine lv_isub hx hb dX11_step_113 ?_
                refine lv_topi (fun v93 ev93 => ?_)
                try have tv93 : v93.toInt = c1q.toInt - c0q.toInt := by rw [ev93]; exact (i_sub (x := c1q) (y := c0q) (by omega) (by omega))
                refine lv_bipush (v := 6) hx hb dX11_step_114 (by decide) ?_
                refine lv_icmp_le (tgt := 123) hx hb dX11_step_116 (by decide) (fun c94 => ?_) (fun c94 => ?_)
                · skip
                  have f95 := i_le c94
                  refine lv_iconst (v := 2) hx hb dX11_step_123 (by decide) ?_
                  refine va_put (D := D) (ci := 11) (v := .int 2) (ty := .int) (C := RX11) (T := TX11) (N := 64) hx hb hts inX11_step_X11 tyX11 tyX11_ok nmX11 hown hK hP hD hS 0 rfl rfl 39 (by decide) (hts (Cond.fieldLink RX11 259 "PortRoomsModel" "token" "I") (wm_t (wm_l (wm_i 3 rfl)))) (fun _ h9 => h9) rfl (tyX11_ok 39 (by decide)) rfl rfl (Nat.le_of_ble_eq_true rfl) dX11_step_124 (fun H locs => ?_)
                  clear hP hD hS
                  intro hP hD hS
                  replace hP : va_P D vwCl [(moC md sd mth mst hn cn pn mq gn mln mnn ln mlt msz c1q (2) c0q mti mfa mfb an un lc td mtn), (aI cI (md 34) 300 mtp)] H := hP
                  replace hD : va_D A [(moC md sd mth mst hn cn pn mq gn mln mnn ln mlt msz c1q (2) c0q mti mfa mfb an un lc td mtn), (aI cI (md 34) 300 mtp)] := hD
                  refine lv_goto (tgt := 220) hx hb dX11_step_127 (by decide) ?_
                  refine lv_aload_n hx hb dX11_step_220 rfl (lv_at hl 0 rfl) ?_
                  refine lv_aload_n hx hb dX11_step_221 rfl (lv_at hl 0 rfl) ?_
                  refine va_get (D := D) (ci := 11) (v := .int c1q) (C := RX11) (T := TX11) (N := 64) hx hb hts inX11_step_X11 hown hK hP 0 rfl rfl 38 (by decide) (hts (Cond.fieldLink RX11 250 "PortRoomsModel" "cursor" "I") (wm_t (wm_l (wm_i 0 rfl)))) (fun _ h9 => h9) rfl dX11_step_222 ?_
                  refine va_put (D := D) (ci := 11) (v := .int c1q) (ty := .int) (C := RX11) (T := TX11) (N := 64) hx hb hts inX11_step_X11 tyX11 tyX11_ok nmX11 hown hK hP hD hS 0 rfl rfl 41 (by decide) (hts (Cond.fieldLink RX11 268 "PortRoomsModel" "till" "I") (wm_t (wm_l (wm_i 4 rfl)))) (fun _ h9 => h9) rfl (tyX11_ok 41 (by decide)) rfl rfl (Nat.le_of_ble_eq_true rfl) dX11_step_225 (fun H locs => ?_)
                  clear hP hD hS
                  intro hP hD hS
                  replace hP : va_P D vwCl [(moC md sd mth mst hn cn pn mq gn mln mnn ln mlt msz c1q (2) c0q c1q mfa mfb an un lc td mtn), (aI cI (md 34) 300 mtp)] H := hP
                  replace hD : va_D A [(moC md sd mth mst hn cn pn mq gn mln mnn ln mlt msz c1q (2) c0q c1q mfa mfb an un lc td mtn), (aI cI (md 34) 300 mtp)] := hD
                  have clc96 := i_cl (x := c1q) (by omega)
                  obtain ⟨hE9, -⟩ := tok_let hs9 (by omega) (by omega) he9
                  have hM9 := mk_let hs9 (by omega) (by omega) hE9
                  have hP9 := hP
                  have hD9 := hD
                  exact W.vret hx hb hr (fun t ht hW => ⟨⟨(c1q, 2, c0q, c1q), rfl, (by show c0q.toInt = (tS mtp msz.toNatClampNeg mcu.toNatClampNeg : Int) ∧ c1q.toInt = (tE mtp msz.toNatClampNeg mcu.toNatClampNeg : Int) ∧ c1q.toInt = c1q.toInt ∧ (2 : Int32).toInt = mK mtp msz.toNatClampNeg mcu.toNatClampNeg ∧ mcu.toInt ≤ c0q.toInt ∧ c0q.toInt ≤ c1q.toInt ∧ c1q.toInt ≤ msz.toInt; exact ⟨by omega, by omega, by omega, by rw [hM9]; split <;> omega, by omega, by omega, by omega⟩), by rw [ht]; exact hP9, va_K.moved hW.alike hK, hD9⟩, hS.F ht⟩) hS.2.2 dX11_step_228
                · skip
                  have f97 := i_nle c94
                  refine lv_iconst (v := 0) hx hb dX11_step_119 (by decide) ?_
                  refine lv_goto (tgt := 124) hx hb dX11_step_120 (by decide) ?_
                  refine va_put (D := D) (ci := 11) (v := .int 0) (ty := .int) (C := RX11) (T := TX11) (N := 64) hx hb hts inX11_step_X11 tyX11 tyX11_ok nmX11 hown hK hP hD hS 0 rfl rfl 39 (by decide) (hts (Cond.fieldLink RX11 259 "PortRoomsModel" "token" "I") (wm_t (wm_l (wm_i 3 rfl)))) (fun _ h9 => h9) rfl (tyX11_ok 39 (by decide)) rfl rfl (Nat.le_of_ble_eq_true rfl) dX11_step_124 (fun H locs => ?_)
                  clear hP hD hS
                  intro hP hD hS
                  replace hP : va_P D vwCl [(moC md sd mth mst hn cn pn mq gn mln mnn ln mlt msz c1q (0) c0q mti mfa mfb an un lc td mtn), (aI cI (md 34) 300 mtp)] H := hP
                  replace hD : va_D A [(moC md sd mth mst hn cn pn mq gn mln mnn ln mlt msz c1q (0) c0q mti mfa mfb an un lc td mtn), (aI cI (md 34) 300 mtp)] := hD
                  refine lv_goto (tgt := 220) hx hb dX11_step_127 (by decide) ?_
                  refine lv_aload_n hx hb dX11_step_220 rfl (lv_at hl 0 rfl) ?_
                  refine lv_aload_n hx hb dX11_step_221 rfl (lv_at hl 0 rfl) ?_
                  refine va_get (D := D) (ci := 11) (v := .int c1q) (C := RX11) (T := TX11) (N := 64) hx hb hts inX11_step_X11 hown hK hP 0 rfl rfl 38 (by decide) (hts (Cond.fieldLink RX11 250 "PortRoomsModel" "cursor" "I") (wm_t (wm_l (wm_i 0 rfl)))) (fun _ h9 => h9) rfl dX11_step_222 ?_
                  refine va_put (D := D) (ci := 11) (v := .int c1q) (ty := .int) (C := RX11) (T := TX11) (N := 64) hx hb hts inX11_step_X11 tyX11 tyX11_ok nmX11 hown hK hP hD hS 0 rfl rfl 41 (by decide) (hts (Cond.fieldLink RX11 268 "PortRoomsModel" "till" "I") (wm_t (wm_l (wm_i 4 rfl)))) (fun _ h9 => h9) rfl (tyX11_ok 41 (by decide)) rfl rfl (Nat.le_of_ble_eq_true rfl) dX11_step_225 (fun H locs => ?_)
                  clear hP hD hS
                  intro hP hD hS
                  replace hP : va_P D vwCl [(moC md sd mth mst hn cn pn mq gn mln mnn ln mlt msz c1q (0) c0q c1q mfa mfb an un lc td mtn), (aI cI (md 34) 300 mtp)] H := hP
                  replace hD : va_D A [(moC md sd mth mst hn cn pn mq gn mln mnn ln mlt msz c1q (0) c0q c1q mfa mfb an un lc td mtn), (aI cI (md 34) 300 mtp)] := hD
                  have clc98 := i_cl (x := c1q) (by omega)
                  obtain ⟨hE9, -⟩ := tok_let hs9 (by omega) (by omega) he9
                  have hM9 := mk_let hs9 (by omega) (by omega) hE9
                  have hP9 := hP
                  have hD9 := hD
                  exact W.vret hx hb hr (fun t ht hW => ⟨⟨(c1q, 0, c0q, c1q), rfl, (by show c0q.toInt = (tS mtp msz.toNatClampNeg mcu.toNatClampNeg : Int) ∧ c1q.toInt = (tE mtp msz.toNatClampNeg mcu.toNatClampNeg : Int) ∧ c1q.toInt = c1q.toInt ∧ (0 : Int32).toInt = mK mtp msz.toNatClampNeg mcu.toNatClampNeg ∧ mcu.toInt ≤ c0q.toInt ∧ c0q.toInt ≤ c1q.toInt ∧ c1q.toInt ≤ msz.toInt; exact ⟨by omega, by omega, by omega, by rw [hM9]; split <;> omega, by omega, by omega, by omega⟩), by rw [ht]; exact hP9, va_K.moved hW.alike hK, hD9⟩, hS.F ht⟩) hS.2.2 dX11_step_228
              · skip
                have f99 := bo_t hw88 c90
                refine lv_aload_n hx hb dX11_step_91 rfl (lv_at hl 0 rfl) ?_
                refine lv_dup hx hb dX11_step_92 rfl ?_
                refine va_get (D := D) (ci := 11) (v := .int c1q) (C := RX11) (T := TX11) (N := 64) hx hb hts inX11_step_X11 hown hK hP 0 rfl rfl 38 (by decide) (hts (Cond.fieldLink RX11 250 "PortRoomsModel" "cursor" "I") (wm_t (wm_l (wm_i 0 rfl)))) (fun _ h9 => h9) rfl dX11_step_93 ?_
                refine lv_iconst (v := 1) hx hb dX11_step_96 (by decide) ?_
                refine lv_iadd hx hb dX11_step_97 ?_
                refine lv_topi (fun v100 ev100 => ?_)
                try have tv100 : v100.toInt = c1q.toInt + 1 := by rw [ev100]; exact (i_add (x := c1q) (y := (1 : Int32)) (by rw [k1]; omega) (by rw [k1]; omega)).trans (by rw [k1])
                refine va_put (D := D) (ci := 11) (v := .int v100) (ty := .int) (C := RX11) (T := TX11) (N := 64) hx hb hts inX11_step_X11 tyX11 tyX11_ok nmX11 hown hK hP hD hS 0 rfl rfl 38 (by decide) (hts (Cond.fieldLink RX11 250 "PortRoomsModel" "cursor" "I") (wm_t (wm_l (wm_i 0 rfl)))) (fun _ h9 => h9) rfl (tyX11_ok 38 (by decide)) rfl rfl (Nat.le_of_ble_eq_true rfl) dX11_step_98 (fun H locs => ?_)
                clear hP hD hS
                intro hP hD hS
                replace hP : va_P D vwCl [(moC md sd mth mst hn cn pn mq gn mln mnn ln mlt msz v100 mtk c0q mti mfa mfb an un lc td mtn), (aI cI (md 34) 300 mtp)] H := hP
                replace hD : va_D A [(moC md sd mth mst hn cn pn mq gn mln mnn ln mlt msz v100 mtk c0q mti mfa mfb an un lc td mtn), (aI cI (md 34) 300 mtp)] := hD
                refine lv_goto (tgt := 77) hx hb dX11_step_101 (by decide) ?_
                have clc101 := i_cl (x := msz) (by omega)
                have clc102 := i_cl (x := c1q) (by omega)
                have clc103 := i_cl (x := v100) (by omega)
                exact ih81 v100 ls H locs ⟨(by omega), (by omega), (by rw [show v100.toNatClampNeg = c1q.toNatClampNeg + 1 by omega]; exact (le_in (T := mtp) (L := msz.toNatClampNeg) (i := c1q.toNatClampNeg) (by omega) (by omega)).symm.trans g80), lv_sub hl [0, 1] rfl, hP.sub [0, 1] rfl, hD.sub [0, 1] (by decide +kernel) rfl, hS⟩ (by show msz.toInt - v100.toInt < _; omega)
        · skip
          have f104 := i_eq c28
          refine lv_aload_n hx hb dX11_step_62 rfl (lv_at hl 1 rfl) ?_
          refine lv_iconst (v := 1) hx hb dX11_step_63 (by decide) ?_
          refine va_put (D := D) (ci := 11) (v := .int 1) (ty := .int) (C := RX11) (T := TX11) (N := 64) hx hb hts inX11_step_X11 tyX11 tyX11_ok nmX11 hown hK hP hD hS 0 rfl rfl 39 (by decide) (hts (Cond.fieldLink RX11 259 "PortRoomsModel" "token" "I") (wm_t (wm_l (wm_i 3 rfl)))) (fun _ h9 => h9) rfl (tyX11_ok 39 (by decide)) rfl rfl (Nat.le_of_ble_eq_true rfl) dX11_step_64 (fun H locs => ?_)
          clear hP hD hS
          intro hP hD hS
          replace hP : va_P D vwCl [(moC md sd mth mst hn cn pn mq gn mln mnn ln mlt msz c0q (1) c0q mti mfa mfb an un lc td mtn), (aI cI (md 34) 300 mtp)] H := hP
          replace hD : va_D A [(moC md sd mth mst hn cn pn mq gn mln mnn ln mlt msz c0q (1) c0q mti mfa mfb an un lc td mtn), (aI cI (md 34) 300 mtp)] := hD
          refine lv_goto (tgt := 220) hx hb dX11_step_67 (by decide) ?_
          refine lv_aload_n hx hb dX11_step_220 rfl (lv_at hl 1 rfl) ?_
          refine lv_aload_n hx hb dX11_step_221 rfl (lv_at hl 1 rfl) ?_
          refine va_get (D := D) (ci := 11) (v := .int c0q) (C := RX11) (T := TX11) (N := 64) hx hb hts inX11_step_X11 hown hK hP 0 rfl rfl 38 (by decide) (hts (Cond.fieldLink RX11 250 "PortRoomsModel" "cursor" "I") (wm_t (wm_l (wm_i 0 rfl)))) (fun _ h9 => h9) rfl dX11_step_222 ?_
          refine va_put (D := D) (ci := 11) (v := .int c0q) (ty := .int) (C := RX11) (T := TX11) (N := 64) hx hb hts inX11_step_X11 tyX11 tyX11_ok nmX11 hown hK hP hD hS 0 rfl rfl 41 (by decide) (hts (Cond.fieldLink RX11 268 "PortRoomsModel" "till" "I") (wm_t (wm_l (wm_i 4 rfl)))) (fun _ h9 => h9) rfl (tyX11_ok 41 (by decide)) rfl rfl (Nat.le_of_ble_eq_true rfl) dX11_step_225 (fun H locs => ?_)
          clear hP hD hS
          intro hP hD hS
          replace hP : va_P D vwCl [(moC md sd mth mst hn cn pn mq gn mln mnn ln mlt msz c0q (1) c0q c0q mfa mfb an un lc td mtn), (aI cI (md 34) 300 mtp)] H := hP
          replace hD : va_D A [(moC md sd mth mst hn cn pn mq gn mln mnn ln mlt msz c0q (1) c0q c0q mfa mfb an un lc td mtn), (aI cI (md 34) 300 mtp)] := hD
          have clc105 := i_cl (x := c0q) (by omega)
          obtain ⟨hE9, -⟩ := tok_end hs9 (by omega)
          have hM9 := mk_end hs9 (by omega)
          have hP9 := hP
          have hD9 := hD
          exact W.vret hx hb hr (fun t ht hW => ⟨⟨(c0q, 1, c0q, c0q), rfl, (by show c0q.toInt = (tS mtp msz.toNatClampNeg mcu.toNatClampNeg : Int) ∧ c0q.toInt = (tE mtp msz.toNatClampNeg mcu.toNatClampNeg : Int) ∧ c0q.toInt = c0q.toInt ∧ (1 : Int32).toInt = mK mtp msz.toNatClampNeg mcu.toNatClampNeg ∧ mcu.toInt ≤ c0q.toInt ∧ c0q.toInt ≤ c0q.toInt ∧ c0q.toInt ≤ msz.toInt; exact ⟨by omega, by omega, by omega, by omega, by omega, by omega, by omega⟩), by rw [ht]; exact hP9, va_K.moved hW.alike hK, hD9⟩, hS.F ht⟩) hS.2.2 dX11_step_228
      · skip
        have f106 := i_eq c20
        refine lv_aload_n hx hb dX11_step_26 rfl (lv_at hl 0 rfl) ?_
        refine lv_dup hx hb dX11_step_27 rfl ?_
        refine va_get (D := D) (ci := 11) (v := .int c0q) (C := RX11) (T := TX11) (N := 64) hx hb hts inX11_step_X11 hown hK hP 0 rfl rfl 38 (by decide) (hts (Cond.fieldLink RX11 250 "PortRoomsModel" "cursor" "I") (wm_t (wm_l (wm_i 0 rfl)))) (fun _ h9 => h9) rfl dX11_step_28 ?_
        refine lv_iconst (v := 1) hx hb dX11_step_31 (by decide) ?_
        refine lv_iadd hx hb dX11_step_32 ?_
        refine lv_topi (fun v107 ev107 => ?_)
        try have tv107 : v107.toInt = c0q.toInt + 1 := by rw [ev107]; exact (i_add (x := c0q) (y := (1 : Int32)) (by rw [k1]; omega) (by rw [k1]; omega)).trans (by rw [k1])
        refine va_put (D := D) (ci := 11) (v := .int v107) (ty := .int) (C := RX11) (T := TX11) (N := 64) hx hb hts inX11_step_X11 tyX11 tyX11_ok nmX11 hown hK hP hD hS 0 rfl rfl 38 (by decide) (hts (Cond.fieldLink RX11 250 "PortRoomsModel" "cursor" "I") (wm_t (wm_l (wm_i 0 rfl)))) (fun _ h9 => h9) rfl (tyX11_ok 38 (by decide)) rfl rfl (Nat.le_of_ble_eq_true rfl) dX11_step_33 (fun H locs => ?_)
        clear hP hD hS
        intro hP hD hS
        replace hP : va_P D vwCl [(moC md sd mth mst hn cn pn mq gn mln mnn ln mlt msz v107 mtk mfr mti mfa mfb an un lc td mtn), (aI cI (md 34) 300 mtp)] H := hP
        replace hD : va_D A [(moC md sd mth mst hn cn pn mq gn mln mnn ln mlt msz v107 mtk mfr mti mfa mfb an un lc td mtn), (aI cI (md 34) 300 mtp)] := hD
        refine lv_goto (tgt := 0) hx hb dX11_step_36 (by decide) ?_
        have clc108 := i_cl (x := msz) (by omega)
        have clc109 := i_cl (x := c0q) (by omega)
        have clc110 := i_cl (x := v107) (by omega)
        exact ih4 v107 ls H locs ⟨(by omega), (by omega), (by rw [show v107.toNatClampNeg = c0q.toNatClampNeg + 1 by omega]; exact (sp_in (T := mtp) (L := msz.toNatClampNeg) (i := c0q.toNatClampNeg) (by omega) (by omega)).symm.trans g3), lv_sub hl [0] rfl, hP.sub [0, 1] rfl, hD.sub [0, 1] (by decide +kernel) rfl, hS⟩ (by show msz.toInt - v107.toInt < _; omega)

set_option maxHeartbeats 4000000 in
set_option maxRecDepth 100000 in
theorem ct_X11_bad (l : Launch) (D : va_G) (cI cY cJ cQ : ClassId) (sz : Nat) (md : Nat → Nat) (sd : Int32) (mth mst hn cn pn mq gn mln mnn ln mlt msz mcu mtk mfr mti mfa mfb an un lc td mtn : Int32) (a : Int32)   : Met l yX11_bad wsX11_bad ({ frames := 0, cells := 0, slots := 0, locals := 0 }) (cPre D (ty4 cI cY cJ cQ) [(moC md sd mth mst hn cn pn mq gn mln mnn ln mlt msz mcu mtk mfr mti mfa mfb an un lc td mtn)] sz [.ref (md 64), .int a]) (va_Qv (fun (u : Int32 × Int32) => (mfa.toInt = 0 ∧ u.1.toInt = a.toInt ∧ u.2.toInt = mfr.toInt) ∨ (¬ mfa.toInt = 0 ∧ u.1.toInt = mfa.toInt ∧ u.2.toInt = mfb.toInt)) (cB D (ty4 cI cY cJ cQ) (fun (u : Int32 × Int32) => [(moC md sd mth mst hn cn pn mq gn mln mnn ln mlt msz mcu mtk mfr mti u.1 u.2 an un lc td mtn)]) (va_A [(moC md sd mth mst hn cn pn mq gn mln mnn ln mlt msz mcu mtk mfr mti mfa mfb an un lc td mtn)] sz)) (va_A [(moC md sd mth mst hn cn pn mq gn mln mnn ln mlt msz mcu mtk mfr mti mfa mfb an un lc td mtn)] sz)) 0 0 (va_A [(moC md sd mth mst hn cn pn mq gn mln mnn ln mlt msz mcu mtk mfr mti mfa mfb an un lc td mtn)] sz) := by
  refine Met.ofW (cc := cX11_bad) (maxL := 2) (ret := none) (by decide) rfl ?_
  intro p e s m args below meth c s₁ B hml hv
  obtain ⟨rfl, hsz, hP, hK, hD0, hN⟩ := hv
  have hx := B.exec
  have hb := B.bytes
  have hr := B.returns
  have hts := atoms_spec (ws := wsX11_bad) B.pre
  have hown : s.vm.findClass RX11 = some m.cls := findClass_of_methodNamed B.named
  have hlocks := B.notSynchronized
  subst hsz
  have hD := hD0.self (sz := s.heap.size)
  generalize hAe : va_A [(moC md sd mth mst hn cn pn mq gn mln mnn ln mlt msz mcu mtk mfr mti mfa mfb an un lc td mtn)] s.heap.size = A at hD ⊢
  have hA : ∀ q : Nat, s.heap.size ≤ q → A q := fun q h => by rw [← hAe]; exact Or.inr h
  have hS : va_S A s.heap s.heap [] := va_S.rf
  have hP : va_P D vwCl [(moC md sd mth mst hn cn pn mq gn mln mnn ln mlt msz mcu mtk mfr mti mfa mfb an un lc td mtn)] s.heap := hP
  have hl := lv_entry ([.ref (md 64), .int a]) (n := 2) (Nat.le_of_ble_eq_true rfl)
  rw [lg_entry_eq]
  generalize (lg_sl ([.ref (md 64), .int a]) ++ List.replicate (2 - (lg_sl ([.ref (md 64), .int a])).length) Slot.unset).toArray = ls at hl ⊢
  have hl : lv_has ls 2 [(0, .ref (md 64)), (1, .int a)] := hl
  have k0 : (0 : Int32).toInt = 0 := by decide
  refine lv_aload_n hx hb dX11_bad_0 rfl (lv_at hl 0 rfl) ?_
  refine va_get (D := D) (ci := 11) (v := .int mfa) (C := RX11) (T := TX11) (N := 64) hx hb hts inX11_bad_X11 hown hK hP 0 rfl rfl 42 (by decide) (hts (Cond.fieldLink RX11 271 "PortRoomsModel" "fault" "I") (wm_t (wm_l (wm_i 0 rfl)))) (fun _ h9 => h9) rfl dX11_bad_1 ?_
  refine lv_if_ne (tgt := 20) hx hb dX11_bad_4 (by decide) (fun c1 => ?_) (fun c1 => ?_)
  · skip
    have f2 := i_ne c1
    have hP9 := hP
    have hD9 := hD
    exact W.vret hx hb hr (fun t ht hW => ⟨⟨(mfa, mfb), rfl, (by show (mfa.toInt = 0 ∧ mfa.toInt = a.toInt ∧ mfb.toInt = mfr.toInt) ∨ (¬ mfa.toInt = 0 ∧ mfa.toInt = mfa.toInt ∧ mfb.toInt = mfb.toInt); omega), by rw [ht]; exact hP9, va_K.moved hW.alike hK, hD9⟩, hS.F ht⟩) hS.2.2 dX11_bad_20
  · skip
    have f3 := i_eq c1
    refine lv_aload_n hx hb dX11_bad_7 rfl (lv_at hl 0 rfl) ?_
    refine lv_iload_n hx hb dX11_bad_8 rfl (lv_at hl 1 rfl) ?_
    refine va_put (D := D) (ci := 11) (v := .int a) (ty := .int) (C := RX11) (T := TX11) (N := 64) hx hb hts inX11_bad_X11 tyX11 tyX11_ok nmX11 hown hK hP hD hS 0 rfl rfl 42 (by decide) (hts (Cond.fieldLink RX11 271 "PortRoomsModel" "fault" "I") (wm_t (wm_l (wm_i 0 rfl)))) (fun _ h9 => h9) rfl (tyX11_ok 42 (by decide)) rfl rfl (Nat.le_of_ble_eq_true rfl) dX11_bad_9 (fun H locs => ?_)
    clear hP hD hS
    intro hP hD hS
    replace hP : va_P D vwCl [(moC md sd mth mst hn cn pn mq gn mln mnn ln mlt msz mcu mtk mfr mti a mfb an un lc td mtn)] H := hP
    replace hD : va_D A [(moC md sd mth mst hn cn pn mq gn mln mnn ln mlt msz mcu mtk mfr mti a mfb an un lc td mtn)] := hD
    refine lv_aload_n hx hb dX11_bad_12 rfl (lv_at hl 0 rfl) ?_
    refine lv_aload_n hx hb dX11_bad_13 rfl (lv_at hl 0 rfl) ?_
    refine va_get (D := D) (ci := 11) (v := .int mfr) (C := RX11) (T := TX11) (N := 64) hx hb hts inX11_bad_X11 hown hK hP 0 rfl rfl 40 (by decide) (hts (Cond.fieldLink RX11 256 "PortRoomsModel" "from" "I") (wm_t (wm_l (wm_i 1 rfl)))) (fun _ h9 => h9) rfl dX11_bad_14 ?_
    refine va_put (D := D) (ci := 11) (v := .int mfr) (ty := .int) (C := RX11) (T := TX11) (N := 64) hx hb hts inX11_bad_X11 tyX11 tyX11_ok nmX11 hown hK hP hD hS 0 rfl rfl 43 (by decide) (hts (Cond.fieldLink RX11 274 "PortRoomsModel" "faultAt" "I") (wm_t (wm_l (wm_i 2 rfl)))) (fun _ h9 => h9) rfl (tyX11_ok 43 (by decide)) rfl rfl (Nat.le_of_ble_eq_true rfl) dX11_bad_17 (fun H locs => ?_)
    clear hP hD hS
    intro hP hD hS
    replace hP : va_P D vwCl [(moC md sd mth mst hn cn pn mq gn mln mnn ln mlt msz mcu mtk mfr mti a mfr an un lc td mtn)] H := hP
    replace hD : va_D A [(moC md sd mth mst hn cn pn mq gn mln mnn ln mlt msz mcu mtk mfr mti a mfr an un lc td mtn)] := hD
    have hP9 := hP
    have hD9 := hD
    exact W.vret hx hb hr (fun t ht hW => ⟨⟨(a, mfr), rfl, (by show (mfa.toInt = 0 ∧ a.toInt = a.toInt ∧ mfr.toInt = mfr.toInt) ∨ (¬ mfa.toInt = 0 ∧ a.toInt = mfa.toInt ∧ mfr.toInt = mfb.toInt); omega), by rw [ht]; exact hP9, va_K.moved hW.alike hK, hD9⟩, hS.F ht⟩) hS.2.2 dX11_bad_20

set_option maxHeartbeats 4000000 in
set_option maxRecDepth 100000 in
theorem ct_X11_need (l : Launch) (D : va_G) (cI cY cJ cQ : ClassId) (sz : Nat) (md : Nat → Nat) (sd : Int32) (mth mst hn cn pn mq gn mln mnn ln mlt msz mcu mtk mfr mti mfa mfb an un lc td mtn : Int32) (mtp : Nat → Int32) (a : Int32)  (h1 : 0 ≤ msz.toInt) (h2 : msz.toInt ≤ 300) (h3 : 0 ≤ mcu.toInt) (h4 : mcu.toInt ≤ msz.toInt) (h5 : 0 ≤ mfr.toInt) (h6 : mfr.toInt ≤ mcu.toInt) (h7 : mti.toInt = mcu.toInt) (h8 : okB msz mtp)  : Met l yX11_need wsX11_need ({ frames := 2, cells := 0, slots := 0, locals := 42 }) (cPre D (ty4 cI cY cJ cQ) [(moC md sd mth mst hn cn pn mq gn mln mnn ln mlt msz mcu mtk mfr mti mfa mfb an un lc td mtn), (aI cI (md 34) 300 mtp)] sz [.ref (md 64), .int a]) (va_Qv (fun (u : Int32 × Int32 × Int32 × Int32 × Int32 × Int32) => 0 ≤ u.2.2.1.toInt ∧ u.2.2.1.toInt ≤ u.1.toInt ∧ u.1.toInt ≤ msz.toInt ∧ u.2.2.2.1.toInt = u.1.toInt ∧ ((¬ mfa.toInt = 0 ∧ u.2.2.2.2.1.toInt = mfa.toInt ∧ u.2.2.2.2.2.toInt = mfb.toInt ∧ u.2.2.1.toInt = mfr.toInt ∧ u.1.toInt = mcu.toInt ∧ u.2.1.toInt = mtk.toInt) ∨ (mfa.toInt = 0 ∧ ¬ a.toInt = 0 ∧ u.2.2.2.2.1.toInt = 0 ∧ u.2.2.1.toInt = (tS mtp msz.toNatClampNeg mcu.toNatClampNeg : Int) ∧ u.1.toInt = (tE mtp msz.toNatClampNeg mcu.toNatClampNeg : Int) ∧ u.2.2.2.1.toInt = u.1.toInt ∧ u.2.1.toInt = mK mtp msz.toNatClampNeg mcu.toNatClampNeg) ∨ (mfa.toInt = 0 ∧ a.toInt = 0 ∧ u.2.2.2.2.1.toInt = 1 ∧ u.2.2.2.2.2.toInt = mfr.toInt ∧ u.2.2.1.toInt = mfr.toInt ∧ u.1.toInt = mcu.toInt ∧ u.2.1.toInt = mtk.toInt))) (cB D (ty4 cI cY cJ cQ) (fun (u : Int32 × Int32 × Int32 × Int32 × Int32 × Int32) => [(moC md sd mth mst hn cn pn mq gn mln mnn ln mlt msz u.1 u.2.1 u.2.2.1 u.2.2.2.1 u.2.2.2.2.1 u.2.2.2.2.2 an un lc td mtn), (aI cI (md 34) 300 mtp)]) (va_A [(moC md sd mth mst hn cn pn mq gn mln mnn ln mlt msz mcu mtk mfr mti mfa mfb an un lc td mtn), (aI cI (md 34) 300 mtp)] sz)) (va_A [(moC md sd mth mst hn cn pn mq gn mln mnn ln mlt msz mcu mtk mfr mti mfa mfb an un lc td mtn), (aI cI (md 34) 300 mtp)] sz)) 0 0 (va_A [(moC md sd mth mst hn cn pn mq gn mln mnn ln mlt msz mcu mtk mfr mti mfa mfb an un lc td mtn), (aI cI (md 34) 300 mtp)] sz) := by
  refine Met.ofW (cc := cX11_need) (maxL := 2) (ret := none) (by decide) rfl ?_
  intro p e s m args below meth c s₁ B hml hv
  obtain ⟨rfl, hsz, hP, hK, hD0, hN⟩ := hv
  have hx := B.exec
  have hb := B.bytes
  have hr := B.returns
  have hts := atoms_spec (ws := wsX11_need) B.pre
  have hown : s.vm.findClass RX11 = some m.cls := findClass_of_methodNamed B.named
  have hlocks := B.notSynchronized
  subst hsz
  have hD := hD0.self (sz := s.heap.size)
  generalize hAe : va_A [(moC md sd mth mst hn cn pn mq gn mln mnn ln mlt msz mcu mtk mfr mti mfa mfb an un lc td mtn), (aI cI (md 34) 300 mtp)] s.heap.size = A at hD ⊢
  have hA : ∀ q : Nat, s.heap.size ≤ q → A q := fun q h => by rw [← hAe]; exact Or.inr h
  have hS : va_S A s.heap s.heap [] := va_S.rf
  have hP : va_P D vwCl [(moC md sd mth mst hn cn pn mq gn mln mnn ln mlt msz mcu mtk mfr mti mfa mfb an un lc td mtn), (aI cI (md 34) 300 mtp)] s.heap := hP
  have hl := lv_entry ([.ref (md 64), .int a]) (n := 2) (Nat.le_of_ble_eq_true rfl)
  rw [lg_entry_eq]
  generalize (lg_sl ([.ref (md 64), .int a]) ++ List.replicate (2 - (lg_sl ([.ref (md 64), .int a])).length) Slot.unset).toArray = ls at hl ⊢
  have hl : lv_has ls 2 [(0, .ref (md 64)), (1, .int a)] := hl
  have k0 : (0 : Int32).toInt = 0 := by decide
  have k1 : (1 : Int32).toInt = 1 := by decide
  refine st_join 9 (fun (z : Int32 × Int32) => match z with | (jfa, jfb) => []) (fun (z : Int32 × Int32) (ls : Array Slot) (H : Heap) (locs : List Loc) => match z with | (jfa, jfb) => ((¬ a.toInt = 0 ∧ jfa.toInt = mfa.toInt ∧ jfb.toInt = mfb.toInt) ∨ (a.toInt = 0 ∧ mfa.toInt = 0 ∧ jfa.toInt = 1 ∧ jfb.toInt = mfr.toInt) ∨ (a.toInt = 0 ∧ ¬ mfa.toInt = 0 ∧ jfa.toInt = mfa.toInt ∧ jfb.toInt = mfb.toInt)) ∧ lv_has ls 2 [(0, .ref (md 64)), (1, .int a)] ∧ va_P D vwCl [(moC md sd mth mst hn cn pn mq gn mln mnn ln mlt msz mcu mtk mfr mti jfa jfb an un lc td mtn), (aI cI (md 34) 300 mtp)] H ∧ va_D A [(moC md sd mth mst hn cn pn mq gn mln mnn ln mlt msz mcu mtk mfr mti jfa jfb an un lc td mtn), (aI cI (md 34) 300 mtp)] ∧ va_S A s.heap H locs) ?_ ?_
  · rintro ⟨jfa, jfb⟩ ls H locs ⟨g1, hl, hP, hD, hS⟩
    replace hl : lv_has ls 2 [(0, .ref (md 64)), (1, .int a)] := hl
    replace hP : va_P D vwCl [(moC md sd mth mst hn cn pn mq gn mln mnn ln mlt msz mcu mtk mfr mti jfa jfb an un lc td mtn), (aI cI (md 34) 300 mtp)] H := hP
    replace hD : va_D A [(moC md sd mth mst hn cn pn mq gn mln mnn ln mlt msz mcu mtk mfr mti jfa jfb an un lc td mtn), (aI cI (md 34) 300 mtp)] := hD
    show W _ _ _ _ _ _ _ _ _ _ _ _ _ _ _ (F0 m 9 ls [])
    refine lv_aload_n hx hb dX11_need_9 rfl (lv_at hl 0 rfl) ?_
    refine va_get (D := D) (ci := 11) (v := .int jfa) (C := RX11) (T := TX11) (N := 64) hx hb hts inX11_need_X11 hown hK hP 0 rfl rfl 42 (by decide) (hts (Cond.fieldLink RX11 271 "PortRoomsModel" "fault" "I") (wm_t (wm_l (wm_i 0 rfl)))) (fun _ h9 => h9) rfl dX11_need_10 ?_
    refine lv_if_ne (tgt := 20) hx hb dX11_need_13 (by decide) (fun c3 => ?_) (fun c3 => ?_)
    · skip
      have f4 := i_ne c3
      have hP9 := hP
      have hD9 := hD
      exact W.vret hx hb hr (fun t ht hW => ⟨⟨(mcu, mtk, mfr, mti, jfa, jfb), rfl, (by show 0 ≤ mfr.toInt ∧ mfr.toInt ≤ mcu.toInt ∧ mcu.toInt ≤ msz.toInt ∧ mti.toInt = mcu.toInt ∧ ((¬ mfa.toInt = 0 ∧ jfa.toInt = mfa.toInt ∧ jfb.toInt = mfb.toInt ∧ mfr.toInt = mfr.toInt ∧ mcu.toInt = mcu.toInt ∧ mtk.toInt = mtk.toInt) ∨ (mfa.toInt = 0 ∧ ¬ a.toInt = 0 ∧ jfa.toInt = 0 ∧ mfr.toInt = (tS mtp msz.toNatClampNeg mcu.toNatClampNeg : Int) ∧ mcu.toInt = (tE mtp msz.toNatClampNeg mcu.toNatClampNeg : Int) ∧ mti.toInt = mcu.toInt ∧ mtk.toInt = mK mtp msz.toNatClampNeg mcu.toNatClampNeg) ∨ (mfa.toInt = 0 ∧ a.toInt = 0 ∧ jfa.toInt = 1 ∧ jfb.toInt = mfr.toInt ∧ mfr.toInt = mfr.toInt ∧ mcu.toInt = mcu.toInt ∧ mtk.toInt = mtk.toInt)); omega), by rw [ht]; exact hP9, va_K.moved hW.alike hK, hD9⟩, hS.F ht⟩) hS.2.2 dX11_need_20
    · skip
      have f5 := i_eq c3
      refine lv_aload_n hx hb dX11_need_16 rfl (lv_at hl 0 rfl) ?_
      refine st_v (wr := []) (va_runV (C := RX11) (As := []) (rest := []) ⟨hx, hb, hml, hown, hts⟩ (ct_X11_step l D cI cY cJ cQ _ md sd mth mst hn cn pn mq gn mln mnn ln mlt msz mcu mtk mfr mti jfa jfb an un lc td mtn mtp h1 h2 h3 h4 h8) (cwV 0 hts gX11_need_X11_step rfl rfl rfl ⟨rfl, cdX11_step⟩ ⟨Nat.le_of_ble_eq_true rfl, Nat.le_of_ble_eq_true rfl⟩) (cPreV (hP.sub [0, 1] rfl) hK (hD.sub [0, 1] (by decide +kernel) rfl) hN (ci := 11) (q0 := 0) rfl rfl) rfl rfl hl.1 rfl (lv_room (Nat.le_of_ble_eq_true rfl)) dX11_need_17 ⟨Nat.le_of_ble_eq_true rfl, Nat.le_of_ble_eq_true rfl⟩) hP hD hS hA [0, 1] [] rfl rfl (by decide +kernel) (by decide +kernel) (fun u6 H locs hw7 => ?_)
      clear hP hD hS
      intro hP hD hS
      obtain ⟨mcu_9, mtk_10, mfr_11, mti_12⟩ := u6
      replace hw7 : mfr_11.toInt = (tS mtp msz.toNatClampNeg mcu.toNatClampNeg : Int) ∧ mcu_9.toInt = (tE mtp msz.toNatClampNeg mcu.toNatClampNeg : Int) ∧ mti_12.toInt = mcu_9.toInt ∧ mtk_10.toInt = mK mtp msz.toNatClampNeg mcu.toNatClampNeg ∧ mcu.toInt ≤ mfr_11.toInt ∧ mfr_11.toInt ≤ mcu_9.toInt ∧ mcu_9.toInt ≤ msz.toInt := hw7
      replace hP : va_P D vwCl [(moC md sd mth mst hn cn pn mq gn mln mnn ln mlt msz mcu_9 mtk_10 mfr_11 mti_12 jfa jfb an un lc td mtn), (aI cI (md 34) 300 mtp)] H := hP
      replace hD : va_D A [(moC md sd mth mst hn cn pn mq gn mln mnn ln mlt msz mcu_9 mtk_10 mfr_11 mti_12 jfa jfb an un lc td mtn), (aI cI (md 34) 300 mtp)] := hD
      have hP9 := hP
      have hD9 := hD
      exact W.vret hx hb hr (fun t ht hW => ⟨⟨(mcu_9, mtk_10, mfr_11, mti_12, jfa, jfb), rfl, (by show 0 ≤ mfr_11.toInt ∧ mfr_11.toInt ≤ mcu_9.toInt ∧ mcu_9.toInt ≤ msz.toInt ∧ mti_12.toInt = mcu_9.toInt ∧ ((¬ mfa.toInt = 0 ∧ jfa.toInt = mfa.toInt ∧ jfb.toInt = mfb.toInt ∧ mfr_11.toInt = mfr.toInt ∧ mcu_9.toInt = mcu.toInt ∧ mtk_10.toInt = mtk.toInt) ∨ (mfa.toInt = 0 ∧ ¬ a.toInt = 0 ∧ jfa.toInt = 0 ∧ mfr_11.toInt = (tS mtp msz.toNatClampNeg mcu.toNatClampNeg : Int) ∧ mcu_9.toInt = (tE mtp msz.toNatClampNeg mcu.toNatClampNeg : Int) ∧ mti_12.toInt = mcu_9.toInt ∧ mtk_10.toInt = mK mtp msz.toNatClampNeg mcu.toNatClampNeg) ∨ (mfa.toInt = 0 ∧ a.toInt = 0 ∧ jfa.toInt = 1 ∧ jfb.toInt = mfr.toInt ∧ mfr_11.toInt = mfr.toInt ∧ mcu_9.toInt = mcu.toInt ∧ mtk_10.toInt = mtk.toInt)); omega), by rw [ht]; exact hP9, va_K.moved hW.alike hK, hD9⟩, hS.F ht⟩) hS.2.2 dX11_need_20
  · intro hj2
    refine lv_iload_n hx hb dX11_need_0 rfl (lv_at hl 1 rfl) ?_
    refine lv_if_ne (tgt := 9) hx hb dX11_need_1 (by decide) (fun c13 => ?_) (fun c13 => ?_)
    · skip
      have f14 := i_ne c13
      exact hj2 (mfa, mfb) ls _ _ ⟨(by omega), lv_sub hl [0, 1] rfl, hP.sub [0, 1] rfl, hD.sub [0, 1] (by decide +kernel) rfl, hS⟩
    · skip
      have f15 := i_eq c13
      refine lv_aload_n hx hb dX11_need_4 rfl (lv_at hl 0 rfl) ?_
      refine lv_iconst (v := 1) hx hb dX11_need_5 (by decide) ?_
      refine st_v (wr := [(aI cI (md 34) 300 mtp)]) (va_runV (C := RX11) (As := [.int 1]) (rest := []) ⟨hx, hb, hml, hown, hts⟩ (ct_X11_bad l D cI cY cJ cQ _ md sd mth mst hn cn pn mq gn mln mnn ln mlt msz mcu mtk mfr mti mfa mfb an un lc td mtn (1 : Int32)) (cwV 1 hts gX11_need_X11_bad rfl rfl rfl ⟨rfl, cdX11_bad⟩ ⟨Nat.le_of_ble_eq_true rfl, Nat.le_of_ble_eq_true rfl⟩) (cPreV (hP.sub [0] rfl) hK (hD.sub [0] (by decide +kernel) rfl) hN (ci := 11) (q0 := 0) rfl rfl) rfl rfl hl.1 rfl (lv_room (Nat.le_of_ble_eq_true rfl)) dX11_need_6 ⟨Nat.le_of_ble_eq_true rfl, Nat.le_of_ble_eq_true rfl⟩) hP hD hS hA [0] [1] rfl rfl (by decide +kernel) (by decide +kernel) (fun u16 H locs hw17 => ?_)
      clear hP hD hS
      intro hP hD hS
      obtain ⟨mfa_19, mfb_20⟩ := u16
      replace hw17 : (mfa.toInt = 0 ∧ mfa_19.toInt = (1 : Int32).toInt ∧ mfb_20.toInt = mfr.toInt) ∨ (¬ mfa.toInt = 0 ∧ mfa_19.toInt = mfa.toInt ∧ mfb_20.toInt = mfb.toInt) := hw17
      replace hP : va_P D vwCl [(aI cI (md 34) 300 mtp), (moC md sd mth mst hn cn pn mq gn mln mnn ln mlt msz mcu mtk mfr mti mfa_19 mfb_20 an un lc td mtn)] H := hP
      replace hD : va_D A [(aI cI (md 34) 300 mtp), (moC md sd mth mst hn cn pn mq gn mln mnn ln mlt msz mcu mtk mfr mti mfa_19 mfb_20 an un lc td mtn)] := hD
      exact hj2 (mfa_19, mfb_20) ls _ _ ⟨(by omega), lv_sub hl [0, 1] rfl, hP.sub [1, 0] rfl, hD.sub [1, 0] (by decide +kernel) rfl, hS⟩

set_option maxHeartbeats 4000000 in
set_option maxRecDepth 100000 in
theorem ct_X11_is (l : Launch) (D : va_G) (cI cY cJ cQ : ClassId) (sz : Nat) (md : Nat → Nat) (sd : Int32) (mth mst hn cn pn mq gn mln mnn ln mlt msz mcu mtk mfr mti mfa mfb an un lc td mtn : Int32) (mtp : Nat → Int32) (a : Int32)  (h1 : 0 ≤ mfr.toInt) (h2 : mtk.toInt = 1 ∨ mfr.toInt < mcu.toInt) (h3 : mcu.toInt ≤ 300)  : Met l yX11_is wsX11_is ({ frames := 0, cells := 0, slots := 0, locals := 0 }) (cPre D (ty4 cI cY cJ cQ) [(moC md sd mth mst hn cn pn mq gn mln mnn ln mlt msz mcu mtk mfr mti mfa mfb an un lc td mtn), (aI cI (md 34) 300 mtp)] sz [.ref (md 64), .int a]) (va_Qi (fun (r : Int32) (u : Unit) => r = if mtk.toInt = 4 ∧ (mtp mfr.toNatClampNeg).toInt = a.toInt then 1 else 0) (cB D (ty4 cI cY cJ cQ) (fun (u : Unit) => [(moC md sd mth mst hn cn pn mq gn mln mnn ln mlt msz mcu mtk mfr mti mfa mfb an un lc td mtn), (aI cI (md 34) 300 mtp)]) (va_A [(moC md sd mth mst hn cn pn mq gn mln mnn ln mlt msz mcu mtk mfr mti mfa mfb an un lc td mtn), (aI cI (md 34) 300 mtp)] sz)) (va_A [(moC md sd mth mst hn cn pn mq gn mln mnn ln mlt msz mcu mtk mfr mti mfa mfb an un lc td mtn), (aI cI (md 34) 300 mtp)] sz)) 0 0 (va_A [(moC md sd mth mst hn cn pn mq gn mln mnn ln mlt msz mcu mtk mfr mti mfa mfb an un lc td mtn), (aI cI (md 34) 300 mtp)] sz) := by
  refine Met.ofW (cc := cX11_is) (maxL := 2) (ret := (some .boolean)) (by decide) rfl ?_
  intro p e s m args below meth c s₁ B hml hv
  obtain ⟨rfl, hsz, hP, hK, hD0, hN⟩ := hv
  have hx := B.exec
  have hb := B.bytes
  have hr := B.returns
  have hts := atoms_spec (ws := wsX11_is) B.pre
  have hown : s.vm.findClass RX11 = some m.cls := findClass_of_methodNamed B.named
  have hlocks := B.notSynchronized
  subst hsz
  have hD := hD0.self (sz := s.heap.size)
  generalize hAe : va_A [(moC md sd mth mst hn cn pn mq gn mln mnn ln mlt msz mcu mtk mfr mti mfa mfb an un lc td mtn), (aI cI (md 34) 300 mtp)] s.heap.size = A at hD ⊢
  have hA : ∀ q : Nat, s.heap.size ≤ q → A q := fun q h => by rw [← hAe]; exact Or.inr h
  have hS : va_S A s.heap s.heap [] := va_S.rf
  have hP : va_P D vwCl [(moC md sd mth mst hn cn pn mq gn mln mnn ln mlt msz mcu mtk mfr mti mfa mfb an un lc td mtn), (aI cI (md 34) 300 mtp)] s.heap := hP
  have hl := lv_entry ([.ref (md 64), .int a]) (n := 2) (Nat.le_of_ble_eq_true rfl)
  rw [lg_entry_eq]
  generalize (lg_sl ([.ref (md 64), .int a]) ++ List.replicate (2 - (lg_sl ([.ref (md 64), .int a])).length) Slot.unset).toArray = ls at hl ⊢
  have hl : lv_has ls 2 [(0, .ref (md 64)), (1, .int a)] := hl
  have k4 : (4 : Int32).toInt = 4 := by decide
  refine lv_aload_n hx hb dX11_is_0 rfl (lv_at hl 0 rfl) ?_
  refine va_get (D := D) (ci := 11) (v := .int mtk) (C := RX11) (T := TX11) (N := 64) hx hb hts inX11_is_X11 hown hK hP 0 rfl rfl 39 (by decide) (hts (Cond.fieldLink RX11 259 "PortRoomsModel" "token" "I") (wm_t (wm_l (wm_i 0 rfl)))) (fun _ h9 => h9) rfl dX11_is_1 ?_
  refine lv_iconst (v := 4) hx hb dX11_is_4 (by decide) ?_
  refine lv_icmp_ne (tgt := 25) hx hb dX11_is_5 (by decide) (fun c1 => ?_) (fun c1 => ?_)
  · skip
    have f2 := i_ne c1
    refine lv_iconst (v := 0) hx hb dX11_is_25 (by decide) ?_
    have hP9 := hP
    have hD9 := hD
    exact W.zret (v := 0) hx hb hr rfl (fun t ht hW => ⟨⟨0, (), rfl, bo_no (by omega), by rw [ht]; exact hP9, va_K.moved hW.alike hK, hD9⟩, hS.F ht⟩) hS.2.2 dX11_is_26
  · skip
    have f3 := i_eq c1
    refine lv_aload_n hx hb dX11_is_8 rfl (lv_at hl 0 rfl) ?_
    refine va_get (D := D) (ci := 11) (v := .ref (md 34)) (C := RX11) (T := TX11) (N := 64) hx hb hts inX11_is_X11 hown hK hP 0 rfl rfl 34 (by decide) (hts (Cond.fieldLink RX11 87 "PortRoomsModel" "tape" "[I") (wm_t (wm_l (wm_i 1 rfl)))) (fun _ h9 => h9) rfl dX11_is_9 ?_
    refine lv_aload_n hx hb dX11_is_12 rfl (lv_at hl 0 rfl) ?_
    refine va_get (D := D) (ci := 11) (v := .int mfr) (C := RX11) (T := TX11) (N := 64) hx hb hts inX11_is_X11 hown hK hP 0 rfl rfl 40 (by decide) (hts (Cond.fieldLink RX11 256 "PortRoomsModel" "from" "I") (wm_t (wm_l (wm_i 2 rfl)))) (fun _ h9 => h9) rfl dX11_is_13 ?_
    refine va_iald hx hb hK hP 1 0 rfl rfl (i_in (by omega) (by omega)) dX11_is_16 ?_
    refine lv_topi (fun v4 ev4 => ?_)
    have tlv4 : v4.toInt = (mtp mfr.toNatClampNeg).toInt := by rw [ev4]
    refine lv_iload_n hx hb dX11_is_17 rfl (lv_at hl 1 rfl) ?_
    refine lv_icmp_ne (tgt := 25) hx hb dX11_is_18 (by decide) (fun c5 => ?_) (fun c5 => ?_)
    · skip
      have f6 := i_ne c5
      refine lv_iconst (v := 0) hx hb dX11_is_25 (by decide) ?_
      have hP9 := hP
      have hD9 := hD
      exact W.zret (v := 0) hx hb hr rfl (fun t ht hW => ⟨⟨0, (), rfl, bo_no (by omega), by rw [ht]; exact hP9, va_K.moved hW.alike hK, hD9⟩, hS.F ht⟩) hS.2.2 dX11_is_26
    · skip
      have f7 := i_eq c5
      refine lv_iconst (v := 1) hx hb dX11_is_21 (by decide) ?_
      refine lv_goto (tgt := 26) hx hb dX11_is_22 (by decide) ?_
      have hP9 := hP
      have hD9 := hD
      exact W.zret (v := 1) hx hb hr rfl (fun t ht hW => ⟨⟨1, (), rfl, bo_yes (by omega), by rw [ht]; exact hP9, va_K.moved hW.alike hK, hD9⟩, hS.F ht⟩) hS.2.2 dX11_is_26

set_option maxHeartbeats 4000000 in
set_option maxRecDepth 100000 in
theorem ct_X11_word (l : Launch) (D : va_G) (cI cY cJ cQ : ClassId) (sz : Nat) (md : Nat → Nat) (sd : Int32) (mth mst hn cn pn mq gn mln mnn ln mlt msz mcu mtk mfr mti mfa mfb an un lc td mtn : Int32) (mtp : Nat → Int32)  (h1 : 0 ≤ mfr.toInt) (h2 : mfr.toInt ≤ mti.toInt) (h3 : mti.toInt ≤ 300) (h4 : mti.toInt ≤ msz.toInt) (h5 : okB msz mtp) (h6 : ¬ mtk.toInt = 2 ∨ mti.toInt ≤ mfr.toInt + 6)  : Met l yX11_word wsX11_word ({ frames := 0, cells := 0, slots := 0, locals := 0 }) (cPre D (ty4 cI cY cJ cQ) [(moC md sd mth mst hn cn pn mq gn mln mnn ln mlt msz mcu mtk mfr mti mfa mfb an un lc td mtn), (aI cI (md 34) 300 mtp)] sz [.ref (md 64)]) (va_Ql (fun (r : Int64) (u : Unit) => r.toInt = (if mtk.toInt = 2 then wvV mtp mfr.toNatClampNeg (mti.toNatClampNeg - mfr.toNatClampNeg) else 0)) (cB D (ty4 cI cY cJ cQ) (fun (u : Unit) => [(moC md sd mth mst hn cn pn mq gn mln mnn ln mlt msz mcu mtk mfr mti mfa mfb an un lc td mtn), (aI cI (md 34) 300 mtp)]) (va_A [(moC md sd mth mst hn cn pn mq gn mln mnn ln mlt msz mcu mtk mfr mti mfa mfb an un lc td mtn), (aI cI (md 34) 300 mtp)] sz)) (va_A [(moC md sd mth mst hn cn pn mq gn mln mnn ln mlt msz mcu mtk mfr mti mfa mfb an un lc td mtn), (aI cI (md 34) 300 mtp)] sz)) 0 0 (va_A [(moC md sd mth mst hn cn pn mq gn mln mnn ln mlt msz mcu mtk mfr mti mfa mfb an un lc td mtn), (aI cI (md 34) 300 mtp)] sz) := by
  refine Met.ofW (cc := cX11_word) (maxL := 4) (ret := (some .long)) (by decide) rfl ?_
  intro p e s m args below meth c s₁ B hml hv
  obtain ⟨rfl, hsz, hP, hK, hD0, hN⟩ := hv
  have hx := B.exec
  have hb := B.bytes
  have hr := B.returns
  have hts := atoms_spec (ws := wsX11_word) B.pre
  have hown : s.vm.findClass RX11 = some m.cls := findClass_of_methodNamed B.named
  have hlocks := B.notSynchronized
  subst hsz
  have hD := hD0.self (sz := s.heap.size)
  generalize hAe : va_A [(moC md sd mth mst hn cn pn mq gn mln mnn ln mlt msz mcu mtk mfr mti mfa mfb an un lc td mtn), (aI cI (md 34) 300 mtp)] s.heap.size = A at hD ⊢
  have hA : ∀ q : Nat, s.heap.size ≤ q → A q := fun q h => by rw [← hAe]; exact Or.inr h
  have hS : va_S A s.heap s.heap [] := va_S.rf
  have hP : va_P D vwCl [(moC md sd mth mst hn cn pn mq gn mln mnn ln mlt msz mcu mtk mfr mti mfa mfb an un lc td mtn), (aI cI (md 34) 300 mtp)] s.heap := hP
  have hl := lv_entry ([.ref (md 64)]) (n := 4) (Nat.le_of_ble_eq_true rfl)
  rw [lg_entry_eq]
  generalize (lg_sl ([.ref (md 64)]) ++ List.replicate (4 - (lg_sl ([.ref (md 64)])).length) Slot.unset).toArray = ls at hl ⊢
  have hl : lv_has ls 4 [(0, .ref (md 64))] := hl
  have k1 : (1 : Int32).toInt = 1 := by decide
  have k2 : (2 : Int32).toInt = 2 := by decide
  have kl0 : (0 : Int64).toInt = 0 := by decide
  refine lv_lconst (v := 0) hx hb dX11_word_0 (by decide) ?_
  refine lv_lstore_n (lv' := [(1, .long 0), (0, .ref (md 64))]) hx hb dX11_word_1 rfl hl (by decide) rfl (fun ls hl => ?_)
  refine lv_aload_n hx hb dX11_word_2 rfl (lv_at hl 1 rfl) ?_
  refine va_get (D := D) (ci := 11) (v := .int mfr) (C := RX11) (T := TX11) (N := 64) hx hb hts inX11_word_X11 hown hK hP 0 rfl rfl 40 (by decide) (hts (Cond.fieldLink RX11 256 "PortRoomsModel" "from" "I") (wm_t (wm_l (wm_i 0 rfl)))) (fun _ h9 => h9) rfl dX11_word_3 ?_
  refine lv_istore_n (lv' := [(3, .int mfr), (1, .long 0), (0, .ref (md 64))]) hx hb dX11_word_6 rfl hl (by decide) rfl (fun ls hl => ?_)
  refine st_loop 7 (fun _ => []) (fun (z : Int64 × Int32) (ls : Array Slot) (H : Heap) (locs : List Loc) => match z with | (q7_1, q7_3) => (mfr.toInt ≤ q7_3.toInt) ∧ (q7_3.toInt ≤ mti.toInt) ∧ (mtk.toInt = 2 → q7_1.toInt = wvV mtp mfr.toNatClampNeg (q7_3.toNatClampNeg - mfr.toNatClampNeg)) ∧ (mtk.toInt = 2 ∨ q7_1.toInt = 0) ∧ (0 ≤ q7_1.toInt ∧ q7_1.toInt < 281474976710656) ∧ (q7_1.toInt < 1 ∨ 1 ≤ q7_3.toInt - mfr.toInt) ∧ (q7_1.toInt < 256 ∨ 2 ≤ q7_3.toInt - mfr.toInt) ∧ (q7_1.toInt < 65536 ∨ 3 ≤ q7_3.toInt - mfr.toInt) ∧ (q7_1.toInt < 16777216 ∨ 4 ≤ q7_3.toInt - mfr.toInt) ∧ (q7_1.toInt < 4294967296 ∨ 5 ≤ q7_3.toInt - mfr.toInt) ∧ (q7_1.toInt < 1099511627776 ∨ 6 ≤ q7_3.toInt - mfr.toInt) ∧ lv_has ls 4 [(0, .ref (md 64)), (1, .long q7_1), (3, .int q7_3)] ∧ va_P D vwCl [(moC md sd mth mst hn cn pn mq gn mln mnn ln mlt msz mcu mtk mfr mti mfa mfb an un lc td mtn), (aI cI (md 34) 300 mtp)] H ∧ va_D A [(moC md sd mth mst hn cn pn mq gn mln mnn ln mlt msz mcu mtk mfr mti mfa mfb an un lc td mtn), (aI cI (md 34) 300 mtp)] ∧ va_S A s.heap H locs) (fun (z : Int64 × Int32) => match z with | (q7_1, q7_3) => mti.toInt - q7_3.toInt) ?_ ?_ ((0 : Int64), mfr) ⟨(by omega), (by omega), (by intro _; rw [Nat.sub_self]; rfl), (by omega), (by omega), (by omega), (by omega), (by omega), (by omega), (by omega), (by omega), lv_sub hl [2, 1, 0] rfl, hP, hD, hS⟩
  · rintro ⟨q7_1, q7_3⟩ ls H locs ⟨g1, g2, g3, g4, g5, g6, g7, g8, g9, g10, g11, hl, hP, hD, hS⟩
    show (0 : Int) ≤ mti.toInt - q7_3.toInt
    omega
  · rintro n14 ih12 ⟨q7_1, q7_3⟩ ls H locs ⟨g1, g2, g3, g4, g5, g6, g7, g8, g9, g10, g11, hl, hP, hD, hS⟩ hm13
    have hm13 : mti.toInt - q7_3.toInt < (n14 : Int) + 1 := hm13
    replace hl : lv_has ls 4 [(0, .ref (md 64)), (1, .long q7_1), (3, .int q7_3)] := hl
    replace hP : va_P D vwCl [(moC md sd mth mst hn cn pn mq gn mln mnn ln mlt msz mcu mtk mfr mti mfa mfb an un lc td mtn), (aI cI (md 34) 300 mtp)] H := hP
    replace hD : va_D A [(moC md sd mth mst hn cn pn mq gn mln mnn ln mlt msz mcu mtk mfr mti mfa mfb an un lc td mtn), (aI cI (md 34) 300 mtp)] := hD
    show W _ _ _ _ _ _ _ _ _ _ _ _ _ _ _ (F0 m 7 ls [])
    refine lv_iload_n hx hb dX11_word_7 rfl (lv_at hl 2 rfl) ?_
    refine lv_aload_n hx hb dX11_word_8 rfl (lv_at hl 0 rfl) ?_
    refine va_get (D := D) (ci := 11) (v := .int mti) (C := RX11) (T := TX11) (N := 64) hx hb hts inX11_word_X11 hown hK hP 0 rfl rfl 41 (by decide) (hts (Cond.fieldLink RX11 268 "PortRoomsModel" "till" "I") (wm_t (wm_l (wm_i 1 rfl)))) (fun _ h9 => h9) rfl dX11_word_9 ?_
    refine lv_icmp_ge (tgt := 42) hx hb dX11_word_12 (by decide) (fun c15 => ?_) (fun c15 => ?_)
    · skip
      have f16 := i_le c15
      refine lv_lload_n hx hb dX11_word_42 rfl (lv_at hl 1 rfl) ?_
      have clc17 := i_cl (x := mfr) (by omega)
      have clc18 := i_cl (x := mti) (by omega)
      have clc19 := i_cl (x := q7_3) (by omega)
      have hP9 := hP
      have hD9 := hD
      exact W.lret (v := q7_1) hx hb hr (fun t ht hW => ⟨⟨q7_1, (), rfl, (by show q7_1.toInt = (if mtk.toInt = 2 then wvV mtp mfr.toNatClampNeg (mti.toNatClampNeg - mfr.toNatClampNeg) else 0); by_cases c9 : mtk.toInt = 2 <;> first | (rw [if_pos c9]; have h9 := g3 c9; rw [show q7_3.toNatClampNeg = mti.toNatClampNeg by omega] at h9; exact h9) | (rw [if_neg c9]; omega) | (exfalso; omega)), by rw [ht]; exact hP9, va_K.moved hW.alike hK, hD9⟩, hS.F ht⟩) hS.2.2 dX11_word_43
    · skip
      have f20 := i_nle c15
      refine lv_aload_n hx hb dX11_word_15 rfl (lv_at hl 0 rfl) ?_
      refine va_get (D := D) (ci := 11) (v := .int mtk) (C := RX11) (T := TX11) (N := 64) hx hb hts inX11_word_X11 hown hK hP 0 rfl rfl 39 (by decide) (hts (Cond.fieldLink RX11 259 "PortRoomsModel" "token" "I") (wm_t (wm_l (wm_i 2 rfl)))) (fun _ h9 => h9) rfl dX11_word_16 ?_
      refine lv_iconst (v := 2) hx hb dX11_word_19 (by decide) ?_
      refine lv_icmp_ne (tgt := 42) hx hb dX11_word_20 (by decide) (fun c21 => ?_) (fun c21 => ?_)
      · skip
        have f22 := i_ne c21
        refine lv_lload_n hx hb dX11_word_42 rfl (lv_at hl 1 rfl) ?_
        have clc23 := i_cl (x := mfr) (by omega)
        have clc24 := i_cl (x := mti) (by omega)
        have clc25 := i_cl (x := q7_3) (by omega)
        have hP9 := hP
        have hD9 := hD
        exact W.lret (v := q7_1) hx hb hr (fun t ht hW => ⟨⟨q7_1, (), rfl, (by show q7_1.toInt = (if mtk.toInt = 2 then wvV mtp mfr.toNatClampNeg (mti.toNatClampNeg - mfr.toNatClampNeg) else 0); by_cases c9 : mtk.toInt = 2 <;> first | (rw [if_pos c9]; have h9 := g3 c9; rw [show q7_3.toNatClampNeg = mti.toNatClampNeg by omega] at h9; exact h9) | (rw [if_neg c9]; omega) | (exfalso; omega)), by rw [ht]; exact hP9, va_K.moved hW.alike hK, hD9⟩, hS.F ht⟩) hS.2.2 dX11_word_43
      · skip
        have f26 := i_eq c21
        refine lv_lload_n hx hb dX11_word_23 rfl (lv_at hl 1 rfl) ?_
        refine lv_bipush (v := 8) hx hb dX11_word_24 (by decide) ?_
        refine lv_lshl hx hb dX11_word_26 rfl ?_
        refine lv_topl (fun z27 ez27 => ?_)
        refine lv_aload_n hx hb dX11_word_27 rfl (lv_at hl 0 rfl) ?_
        refine va_get (D := D) (ci := 11) (v := .ref (md 34)) (C := RX11) (T := TX11) (N := 64) hx hb hts inX11_word_X11 hown hK hP 0 rfl rfl 34 (by decide) (hts (Cond.fieldLink RX11 87 "PortRoomsModel" "tape" "[I") (wm_t (wm_l (wm_i 3 rfl)))) (fun _ h9 => h9) rfl dX11_word_28 ?_
        refine lv_iload_n hx hb dX11_word_31 rfl (lv_at hl 2 rfl) ?_
        refine va_iald hx hb hK hP 1 0 rfl rfl (i_in (by omega) (by omega)) dX11_word_32 ?_
        refine lv_topi (fun v28 ev28 => ?_)
        have tlv28 : v28.toInt = (mtp q7_3.toNatClampNeg).toInt := by rw [ev28]
        refine lv_i2l hx hb dX11_word_33 rfl ?_
        have w29 := i_w v28
        have w30 := i_rng v28
        refine lv_lor hx hb dX11_word_34 ?_
        refine lv_topl (fun z31 ez31 => ?_)
        refine lv_lstore_n (lv' := [(1, .long z31), (0, .ref (md 64)), (3, .int q7_3)]) hx hb dX11_word_35 rfl hl (by decide) rfl (fun ls hl => ?_)
        obtain ⟨v32, ev32⟩ : ∃ y : Int32, y = q7_3 + 1 := ⟨_, rfl⟩
        try have tv32 : v32.toInt = q7_3.toInt + 1 := by rw [ev32]; exact (i_add (x := q7_3) (y := (1 : Int32)) (by rw [k1]; omega) (by rw [k1]; omega)).trans (by rw [k1])
        refine lv_iinc (v := v32) (lv' := [(3, .int v32), (1, .long z31), (0, .ref (md 64))]) hx hb dX11_word_36 hl (k := 2) rfl (by rw [ev32]; rfl) (by decide) rfl (fun ls hl => ?_)
        refine lv_goto (tgt := 7) hx hb dX11_word_39 (by decide) ?_
        have clc33 := i_cl (x := mfr) (by omega)
        have clc34 := i_cl (x := q7_3) (by omega)
        have clc35 := i_cl (x := v32) (by omega)
        have hob9 := h5 q7_3.toNatClampNeg (by omega)
        have h89 := sh8 (v := q7_1) (z := z31) (t := v28) (by omega) (by omega) (by omega) (by omega) (by rw [ez31, ez27])
        exact ih12 (z31, v32) ls H locs ⟨(by omega), (by omega), (by intro hd9; rw [show v32.toNatClampNeg - mfr.toNatClampNeg = (q7_3.toNatClampNeg - mfr.toNatClampNeg) + 1 by omega, wvV_s, show mfr.toNatClampNeg + (q7_3.toNatClampNeg - mfr.toNatClampNeg) = q7_3.toNatClampNeg by omega]; have h88 := g3 hd9; omega), (by omega), (by omega), (by omega), (by omega), (by omega), (by omega), (by omega), (by omega), lv_sub hl [2, 1, 0] rfl, hP.sub [0, 1] rfl, hD.sub [0, 1] (by decide +kernel) rfl, hS⟩ (by show mti.toInt - v32.toInt < _; omega)

set_option maxHeartbeats 4000000 in
set_option maxRecDepth 100000 in
theorem ct_X11_numberUpTo (l : Launch) (D : va_G) (cI cY cJ cQ : ClassId) (sz : Nat) (md : Nat → Nat) (sd : Int32) (mth mst hn cn pn mq gn mln mnn ln mlt msz mcu mtk mfr mti mfa mfb an un lc td mtn : Int32) (mtp : Nat → Int32) (a : Int32)  (h1 : 0 ≤ msz.toInt) (h2 : msz.toInt ≤ 300) (h3 : 0 ≤ mcu.toInt) (h4 : mcu.toInt ≤ msz.toInt) (h5 : 0 ≤ mfr.toInt) (h6 : mfr.toInt ≤ mcu.toInt) (h7 : mti.toInt = mcu.toInt) (h8 : okB msz mtp) (h9 : mfa.toInt = 0) (h10 : ¬ mtk.toInt = 3 ∨ mti.toInt ≤ mfr.toInt + 4)  : Met l yX11_numberUpTo wsX11_numberUpTo ({ frames := 3, cells := 0, slots := 0, locals := 63 }) (cPre D (ty4 cI cY cJ cQ) [(moC md sd mth mst hn cn pn mq gn mln mnn ln mlt msz mcu mtk mfr mti mfa mfb an un lc td mtn), (aI cI (md 34) 300 mtp)] sz [.ref (md 64), .int a]) (va_Qi (fun (r : Int32) (u : Int32 × Int32 × Int32 × Int32 × Int32 × Int32) => 0 ≤ u.2.2.1.toInt ∧ u.2.2.1.toInt ≤ u.1.toInt ∧ u.1.toInt ≤ msz.toInt ∧ u.2.2.2.1.toInt = u.1.toInt ∧ ((mtk.toInt = 3 ∧ nmV mtp mfr.toNatClampNeg (mti.toNatClampNeg - mfr.toNatClampNeg) ≤ a.toInt ∧ r.toInt = nmV mtp mfr.toNatClampNeg (mti.toNatClampNeg - mfr.toNatClampNeg) ∧ u.2.2.2.2.1.toInt = 0 ∧ u.2.2.1.toInt = (tS mtp msz.toNatClampNeg mcu.toNatClampNeg : Int) ∧ u.1.toInt = (tE mtp msz.toNatClampNeg mcu.toNatClampNeg : Int) ∧ u.2.2.2.1.toInt = u.1.toInt ∧ u.2.1.toInt = mK mtp msz.toNatClampNeg mcu.toNatClampNeg) ∨ (mtk.toInt = 3 ∧ a.toInt < nmV mtp mfr.toNatClampNeg (mti.toNatClampNeg - mfr.toNatClampNeg) ∧ u.2.2.2.2.1.toInt = 2 ∧ u.2.2.2.2.2.toInt = mfr.toInt) ∨ (¬ mtk.toInt = 3 ∧ u.2.2.2.2.1.toInt = 1 ∧ u.2.2.2.2.2.toInt = mfr.toInt))) (cB D (ty4 cI cY cJ cQ) (fun (u : Int32 × Int32 × Int32 × Int32 × Int32 × Int32) => [(moC md sd mth mst hn cn pn mq gn mln mnn ln mlt msz u.1 u.2.1 u.2.2.1 u.2.2.2.1 u.2.2.2.2.1 u.2.2.2.2.2 an un lc td mtn), (aI cI (md 34) 300 mtp)]) (va_A [(moC md sd mth mst hn cn pn mq gn mln mnn ln mlt msz mcu mtk mfr mti mfa mfb an un lc td mtn), (aI cI (md 34) 300 mtp)] sz)) (va_A [(moC md sd mth mst hn cn pn mq gn mln mnn ln mlt msz mcu mtk mfr mti mfa mfb an un lc td mtn), (aI cI (md 34) 300 mtp)] sz)) 0 0 (va_A [(moC md sd mth mst hn cn pn mq gn mln mnn ln mlt msz mcu mtk mfr mti mfa mfb an un lc td mtn), (aI cI (md 34) 300 mtp)] sz) := by
  refine Met.ofW (cc := cX11_numberUpTo) (maxL := 4) (ret := (some .int)) (by decide) rfl ?_
  intro p e s m args below meth c s₁ B hml hv
  obtain ⟨rfl, hsz, hP, hK, hD0, hN⟩ := hv
  have hx := B.exec
  have hb := B.bytes
  have hr := B.returns
  have hts := atoms_spec (ws := wsX11_numberUpTo) B.pre
  have hown : s.vm.findClass RX11 = some m.cls := findClass_of_methodNamed B.named
  have hlocks := B.notSynchronized
  subst hsz
  have hD := hD0.self (sz := s.heap.size)
  generalize hAe : va_A [(moC md sd mth mst hn cn pn mq gn mln mnn ln mlt msz mcu mtk mfr mti mfa mfb an un lc td mtn), (aI cI (md 34) 300 mtp)] s.heap.size = A at hD ⊢
  have hA : ∀ q : Nat, s.heap.size ≤ q → A q := fun q h => by rw [← hAe]; exact Or.inr h
  have hS : va_S A s.heap s.heap [] := va_S.rf
  have hP : va_P D vwCl [(moC md sd mth mst hn cn pn mq gn mln mnn ln mlt msz mcu mtk mfr mti mfa mfb an un lc td mtn), (aI cI (md 34) 300 mtp)] s.heap := hP
  have hl := lv_entry ([.ref (md 64), .int a]) (n := 4) (Nat.le_of_ble_eq_true rfl)
  rw [lg_entry_eq]
  generalize (lg_sl ([.ref (md 64), .int a]) ++ List.replicate (4 - (lg_sl ([.ref (md 64), .int a])).length) Slot.unset).toArray = ls at hl ⊢
  have hl : lv_has ls 4 [(0, .ref (md 64)), (1, .int a)] := hl
  have k0 : (0 : Int32).toInt = 0 := by decide
  have k1 : (1 : Int32).toInt = 1 := by decide
  have k2 : (2 : Int32).toInt = 2 := by decide
  have k3 : (3 : Int32).toInt = 3 := by decide
  have k10 : (10 : Int32).toInt = 10 := by decide
  have k48 : (48 : Int32).toInt = 48 := by decide
  refine lv_iconst (v := 0) hx hb dX11_numberUpTo_0 (by decide) ?_
  refine lv_istore_n (lv' := [(2, .int 0), (0, .ref (md 64)), (1, .int a)]) hx hb dX11_numberUpTo_1 rfl hl (by decide) rfl (fun ls hl => ?_)
  refine lv_aload_n hx hb dX11_numberUpTo_2 rfl (lv_at hl 1 rfl) ?_
  refine va_get (D := D) (ci := 11) (v := .int mfr) (C := RX11) (T := TX11) (N := 64) hx hb hts inX11_numberUpTo_X11 hown hK hP 0 rfl rfl 40 (by decide) (hts (Cond.fieldLink RX11 256 "PortRoomsModel" "from" "I") (wm_t (wm_l (wm_i 0 rfl)))) (fun _ h9 => h9) rfl dX11_numberUpTo_3 ?_
  refine lv_istore_n (lv' := [(3, .int mfr), (2, .int 0), (0, .ref (md 64)), (1, .int a)]) hx hb dX11_numberUpTo_6 rfl hl (by decide) rfl (fun ls hl => ?_)
  refine st_loop 7 (fun _ => []) (fun (z : Int32 × Int32) (ls : Array Slot) (H : Heap) (locs : List Loc) => match z with | (q7_2, q7_3) => (mfr.toInt ≤ q7_3.toInt) ∧ (q7_3.toInt ≤ mti.toInt) ∧ (mtk.toInt = 3 → q7_2.toInt = nmV mtp mfr.toNatClampNeg (q7_3.toNatClampNeg - mfr.toNatClampNeg)) ∧ (-53328 ≤ q7_2.toInt ∧ q7_2.toInt ≤ 229977) ∧ ((0 ≤ q7_2.toInt ∧ q7_2.toInt ≤ 0) ∨ 1 ≤ q7_3.toInt - mfr.toInt) ∧ ((-48 ≤ q7_2.toInt ∧ q7_2.toInt ≤ 207) ∨ 2 ≤ q7_3.toInt - mfr.toInt) ∧ ((-528 ≤ q7_2.toInt ∧ q7_2.toInt ≤ 2277) ∨ 3 ≤ q7_3.toInt - mfr.toInt) ∧ ((-5328 ≤ q7_2.toInt ∧ q7_2.toInt ≤ 22977) ∨ 4 ≤ q7_3.toInt - mfr.toInt) ∧ lv_has ls 4 [(0, .ref (md 64)), (1, .int a), (2, .int q7_2), (3, .int q7_3)] ∧ va_P D vwCl [(moC md sd mth mst hn cn pn mq gn mln mnn ln mlt msz mcu mtk mfr mti mfa mfb an un lc td mtn), (aI cI (md 34) 300 mtp)] H ∧ va_D A [(moC md sd mth mst hn cn pn mq gn mln mnn ln mlt msz mcu mtk mfr mti mfa mfb an un lc td mtn), (aI cI (md 34) 300 mtp)] ∧ va_S A s.heap H locs) (fun (z : Int32 × Int32) => match z with | (q7_2, q7_3) => mti.toInt - q7_3.toInt) ?_ ?_ ((0 : Int32), mfr) ⟨(by omega), (by omega), (by intro _; rw [Nat.sub_self]; rfl), (by omega), (by omega), (by omega), (by omega), (by omega), lv_sub hl [2, 3, 1, 0] rfl, hP, hD, hS⟩
  · rintro ⟨q7_2, q7_3⟩ ls H locs ⟨g1, g2, g3, g4, g5, g6, g7, g8, hl, hP, hD, hS⟩
    show (0 : Int) ≤ mti.toInt - q7_3.toInt
    omega
  · rintro n11 ih9 ⟨q7_2, q7_3⟩ ls H locs ⟨g1, g2, g3, g4, g5, g6, g7, g8, hl, hP, hD, hS⟩ hm10
    have hm10 : mti.toInt - q7_3.toInt < (n11 : Int) + 1 := hm10
    replace hl : lv_has ls 4 [(0, .ref (md 64)), (1, .int a), (2, .int q7_2), (3, .int q7_3)] := hl
    replace hP : va_P D vwCl [(moC md sd mth mst hn cn pn mq gn mln mnn ln mlt msz mcu mtk mfr mti mfa mfb an un lc td mtn), (aI cI (md 34) 300 mtp)] H := hP
    replace hD : va_D A [(moC md sd mth mst hn cn pn mq gn mln mnn ln mlt msz mcu mtk mfr mti mfa mfb an un lc td mtn), (aI cI (md 34) 300 mtp)] := hD
    show W _ _ _ _ _ _ _ _ _ _ _ _ _ _ _ (F0 m 7 ls [])
    refine lv_iload_n hx hb dX11_numberUpTo_7 rfl (lv_at hl 3 rfl) ?_
    refine lv_aload_n hx hb dX11_numberUpTo_8 rfl (lv_at hl 0 rfl) ?_
    refine va_get (D := D) (ci := 11) (v := .int mti) (C := RX11) (T := TX11) (N := 64) hx hb hts inX11_numberUpTo_X11 hown hK hP 0 rfl rfl 41 (by decide) (hts (Cond.fieldLink RX11 268 "PortRoomsModel" "till" "I") (wm_t (wm_l (wm_i 1 rfl)))) (fun _ h9 => h9) rfl dX11_numberUpTo_9 ?_
    refine lv_icmp_ge (tgt := 44) hx hb dX11_numberUpTo_12 (by decide) (fun c12 => ?_) (fun c12 => ?_)
    · skip
      have f13 := i_le c12
      have clc14 := i_cl (x := mfr) (by omega)
      have clc15 := i_cl (x := mti) (by omega)
      have clc16 := i_cl (x := q7_3) (by omega)
      have hnv9 : mtk.toInt = 3 → q7_2.toInt = nmV mtp mfr.toNatClampNeg (mti.toNatClampNeg - mfr.toNatClampNeg) := fun c9 => by have h9 := g3 c9; rw [show q7_3.toNatClampNeg = mti.toNatClampNeg by omega] at h9; exact h9
      refine st_join 62 (fun (z : Int32 × Int32) => match z with | (jfa, jfb) => []) (fun (z : Int32 × Int32) (ls : Array Slot) (H : Heap) (locs : List Loc) => match z with | (jfa, jfb) => ((mtk.toInt = 3 ∧ a.toInt < q7_2.toInt ∧ jfa.toInt = 2 ∧ jfb.toInt = mfr.toInt) ∨ (¬ (mtk.toInt = 3 ∧ a.toInt < q7_2.toInt) ∧ jfa.toInt = 0)) ∧ lv_has ls 4 [(0, .ref (md 64)), (1, .int a), (2, .int q7_2), (3, .int q7_3)] ∧ va_P D vwCl [(moC md sd mth mst hn cn pn mq gn mln mnn ln mlt msz mcu mtk mfr mti jfa jfb an un lc td mtn), (aI cI (md 34) 300 mtp)] H ∧ va_D A [(moC md sd mth mst hn cn pn mq gn mln mnn ln mlt msz mcu mtk mfr mti jfa jfb an un lc td mtn), (aI cI (md 34) 300 mtp)] ∧ va_S A s.heap H locs) ?_ ?_
      · rintro ⟨jfa, jfb⟩ ls H locs ⟨g17, hl, hP, hD, hS⟩
        replace hl : lv_has ls 4 [(0, .ref (md 64)), (1, .int a), (2, .int q7_2), (3, .int q7_3)] := hl
        replace hP : va_P D vwCl [(moC md sd mth mst hn cn pn mq gn mln mnn ln mlt msz mcu mtk mfr mti jfa jfb an un lc td mtn), (aI cI (md 34) 300 mtp)] H := hP
        replace hD : va_D A [(moC md sd mth mst hn cn pn mq gn mln mnn ln mlt msz mcu mtk mfr mti jfa jfb an un lc td mtn), (aI cI (md 34) 300 mtp)] := hD
        show W _ _ _ _ _ _ _ _ _ _ _ _ _ _ _ (F0 m 62 ls [])
        refine lv_aload_n hx hb dX11_numberUpTo_62 rfl (lv_at hl 0 rfl) ?_
        refine st_join 76 (fun (sk19 : Int32) => [.int sk19, .ref (md 64)]) (fun (sk19 : Int32) (ls : Array Slot) (H : Heap) (locs : List Loc) => ((sk19.toInt = 1 ∧ mtk.toInt = 3) ∨ (sk19.toInt = 0 ∧ ¬ mtk.toInt = 3)) ∧ lv_has ls 4 [(0, .ref (md 64)), (1, .int a), (2, .int q7_2), (3, .int q7_3)] ∧ va_P D vwCl [(moC md sd mth mst hn cn pn mq gn mln mnn ln mlt msz mcu mtk mfr mti jfa jfb an un lc td mtn), (aI cI (md 34) 300 mtp)] H ∧ va_D A [(moC md sd mth mst hn cn pn mq gn mln mnn ln mlt msz mcu mtk mfr mti jfa jfb an un lc td mtn), (aI cI (md 34) 300 mtp)] ∧ va_S A s.heap H locs) ?_ ?_
        · rintro sk19 ls H locs ⟨g20, hl, hP, hD, hS⟩
          replace hl : lv_has ls 4 [(0, .ref (md 64)), (1, .int a), (2, .int q7_2), (3, .int q7_3)] := hl
          replace hP : va_P D vwCl [(moC md sd mth mst hn cn pn mq gn mln mnn ln mlt msz mcu mtk mfr mti jfa jfb an un lc td mtn), (aI cI (md 34) 300 mtp)] H := hP
          replace hD : va_D A [(moC md sd mth mst hn cn pn mq gn mln mnn ln mlt msz mcu mtk mfr mti jfa jfb an un lc td mtn), (aI cI (md 34) 300 mtp)] := hD
          show W _ _ _ _ _ _ _ _ _ _ _ _ _ _ _ (F0 m 76 ls [.int sk19, .ref (md 64)])
          refine st_v (wr := []) (va_runV (C := RX11) (As := [.int sk19]) (rest := []) ⟨hx, hb, hml, hown, hts⟩ (ct_X11_need l D cI cY cJ cQ _ md sd mth mst hn cn pn mq gn mln mnn ln mlt msz mcu mtk mfr mti jfa jfb an un lc td mtn mtp sk19 h1 h2 h3 h4 h5 h6 h7 h8) (cwV 1 hts gX11_numberUpTo_X11_need rfl rfl rfl ⟨rfl, cdX11_need⟩ ⟨Nat.le_of_ble_eq_true rfl, Nat.le_of_ble_eq_true rfl⟩) (cPreV (hP.sub [0, 1] rfl) hK (hD.sub [0, 1] (by decide +kernel) rfl) hN (ci := 11) (q0 := 0) rfl rfl) rfl rfl hl.1 rfl (lv_room (Nat.le_of_ble_eq_true rfl)) dX11_numberUpTo_76 ⟨Nat.le_of_ble_eq_true rfl, Nat.le_of_ble_eq_true rfl⟩) hP hD hS hA [0, 1] [] rfl rfl (by decide +kernel) (by decide +kernel) (fun u22 H locs hw23 => ?_)
          clear hP hD hS
          intro hP hD hS
          obtain ⟨mcu_25, mtk_26, mfr_27, mti_28, mfa_29, mfb_30⟩ := u22
          replace hw23 : 0 ≤ mfr_27.toInt ∧ mfr_27.toInt ≤ mcu_25.toInt ∧ mcu_25.toInt ≤ msz.toInt ∧ mti_28.toInt = mcu_25.toInt ∧ ((¬ jfa.toInt = 0 ∧ mfa_29.toInt = jfa.toInt ∧ mfb_30.toInt = jfb.toInt ∧ mfr_27.toInt = mfr.toInt ∧ mcu_25.toInt = mcu.toInt ∧ mtk_26.toInt = mtk.toInt) ∨ (jfa.toInt = 0 ∧ ¬ sk19.toInt = 0 ∧ mfa_29.toInt = 0 ∧ mfr_27.toInt = (tS mtp msz.toNatClampNeg mcu.toNatClampNeg : Int) ∧ mcu_25.toInt = (tE mtp msz.toNatClampNeg mcu.toNatClampNeg : Int) ∧ mti_28.toInt = mcu_25.toInt ∧ mtk_26.toInt = mK mtp msz.toNatClampNeg mcu.toNatClampNeg) ∨ (jfa.toInt = 0 ∧ sk19.toInt = 0 ∧ mfa_29.toInt = 1 ∧ mfb_30.toInt = mfr.toInt ∧ mfr_27.toInt = mfr.toInt ∧ mcu_25.toInt = mcu.toInt ∧ mtk_26.toInt = mtk.toInt)) := hw23
          replace hP : va_P D vwCl [(moC md sd mth mst hn cn pn mq gn mln mnn ln mlt msz mcu_25 mtk_26 mfr_27 mti_28 mfa_29 mfb_30 an un lc td mtn), (aI cI (md 34) 300 mtp)] H := hP
          replace hD : va_D A [(moC md sd mth mst hn cn pn mq gn mln mnn ln mlt msz mcu_25 mtk_26 mfr_27 mti_28 mfa_29 mfb_30 an un lc td mtn), (aI cI (md 34) 300 mtp)] := hD
          refine lv_iload_n hx hb dX11_numberUpTo_79 rfl (lv_at hl 2 rfl) ?_
          have hnv8 : mtk.toInt = 3 → q7_2.toInt = nmV mtp mfr.toNatClampNeg (mti.toNatClampNeg - mfr.toNatClampNeg) := hnv9
          have hP9 := hP
          have hD9 := hD
          exact W.iret (v := q7_2) hx hb hr (fun t ht hW => ⟨⟨q7_2, (mcu_25, mtk_26, mfr_27, mti_28, mfa_29, mfb_30), rfl, (by show 0 ≤ mfr_27.toInt ∧ mfr_27.toInt ≤ mcu_25.toInt ∧ mcu_25.toInt ≤ msz.toInt ∧ mti_28.toInt = mcu_25.toInt ∧ ((mtk.toInt = 3 ∧ nmV mtp mfr.toNatClampNeg (mti.toNatClampNeg - mfr.toNatClampNeg) ≤ a.toInt ∧ q7_2.toInt = nmV mtp mfr.toNatClampNeg (mti.toNatClampNeg - mfr.toNatClampNeg) ∧ mfa_29.toInt = 0 ∧ mfr_27.toInt = (tS mtp msz.toNatClampNeg mcu.toNatClampNeg : Int) ∧ mcu_25.toInt = (tE mtp msz.toNatClampNeg mcu.toNatClampNeg : Int) ∧ mti_28.toInt = mcu_25.toInt ∧ mtk_26.toInt = mK mtp msz.toNatClampNeg mcu.toNatClampNeg) ∨ (mtk.toInt = 3 ∧ a.toInt < nmV mtp mfr.toNatClampNeg (mti.toNatClampNeg - mfr.toNatClampNeg) ∧ mfa_29.toInt = 2 ∧ mfb_30.toInt = mfr.toInt) ∨ (¬ mtk.toInt = 3 ∧ mfa_29.toInt = 1 ∧ mfb_30.toInt = mfr.toInt)); omega), by rw [ht]; exact hP9, va_K.moved hW.alike hK, hD9⟩, hS.F ht⟩) hS.2.2 dX11_numberUpTo_80
        · intro hj21
          refine lv_aload_n hx hb dX11_numberUpTo_63 rfl (lv_at hl 0 rfl) ?_
          refine va_get (D := D) (ci := 11) (v := .int mtk) (C := RX11) (T := TX11) (N := 64) hx hb hts inX11_numberUpTo_X11 hown hK hP 0 rfl rfl 39 (by decide) (hts (Cond.fieldLink RX11 259 "PortRoomsModel" "token" "I") (wm_t (wm_l (wm_i 2 rfl)))) (fun _ h9 => h9) rfl dX11_numberUpTo_64 ?_
          refine lv_iconst (v := 3) hx hb dX11_numberUpTo_67 (by decide) ?_
          refine lv_icmp_ne (tgt := 75) hx hb dX11_numberUpTo_68 (by decide) (fun c31 => ?_) (fun c31 => ?_)
          · skip
            have f32 := i_ne c31
            refine lv_iconst (v := 0) hx hb dX11_numberUpTo_75 (by decide) ?_
            exact hj21 (0 : Int32) ls _ _ ⟨(by omega), lv_sub hl [0, 1, 2, 3] rfl, hP.sub [0, 1] rfl, hD.sub [0, 1] (by decide +kernel) rfl, hS⟩
          · skip
            have f33 := i_eq c31
            refine lv_iconst (v := 1) hx hb dX11_numberUpTo_71 (by decide) ?_
            refine lv_goto (tgt := 76) hx hb dX11_numberUpTo_72 (by decide) ?_
            exact hj21 (1 : Int32) ls _ _ ⟨(by omega), lv_sub hl [0, 1, 2, 3] rfl, hP.sub [0, 1] rfl, hD.sub [0, 1] (by decide +kernel) rfl, hS⟩
      · intro hj18
        refine lv_aload_n hx hb dX11_numberUpTo_44 rfl (lv_at hl 0 rfl) ?_
        refine va_get (D := D) (ci := 11) (v := .int mtk) (C := RX11) (T := TX11) (N := 64) hx hb hts inX11_numberUpTo_X11 hown hK hP 0 rfl rfl 39 (by decide) (hts (Cond.fieldLink RX11 259 "PortRoomsModel" "token" "I") (wm_t (wm_l (wm_i 2 rfl)))) (fun _ h9 => h9) rfl dX11_numberUpTo_45 ?_
        refine lv_iconst (v := 3) hx hb dX11_numberUpTo_48 (by decide) ?_
        refine lv_icmp_ne (tgt := 62) hx hb dX11_numberUpTo_49 (by decide) (fun c34 => ?_) (fun c34 => ?_)
        · skip
          have f35 := i_ne c34
          exact hj18 (mfa, mfb) ls _ _ ⟨(by omega), lv_sub hl [0, 1, 2, 3] rfl, hP.sub [0, 1] rfl, hD.sub [0, 1] (by decide +kernel) rfl, hS⟩
        · skip
          have f36 := i_eq c34
          refine lv_iload_n hx hb dX11_numberUpTo_52 rfl (lv_at hl 2 rfl) ?_
          refine lv_iload_n hx hb dX11_numberUpTo_53 rfl (lv_at hl 1 rfl) ?_
          refine lv_icmp_le (tgt := 62) hx hb dX11_numberUpTo_54 (by decide) (fun c37 => ?_) (fun c37 => ?_)
          · skip
            have f38 := i_le c37
            exact hj18 (mfa, mfb) ls _ _ ⟨(by omega), lv_sub hl [0, 1, 2, 3] rfl, hP.sub [0, 1] rfl, hD.sub [0, 1] (by decide +kernel) rfl, hS⟩
          · skip
            have f39 := i_nle c37
            refine lv_aload_n hx hb dX11_numberUpTo_57 rfl (lv_at hl 0 rfl) ?_
            refine lv_iconst (v := 2) hx hb dX11_numberUpTo_58 (by decide) ?_
            refine st_v (wr := [(aI cI (md 34) 300 mtp)]) (va_runV (C := RX11) (As := [.int 2]) (rest := []) ⟨hx, hb, hml, hown, hts⟩ (ct_X11_bad l D cI cY cJ cQ _ md sd mth mst hn cn pn mq gn mln mnn ln mlt msz mcu mtk mfr mti mfa mfb an un lc td mtn (2 : Int32)) (cwV 1 hts gX11_numberUpTo_X11_bad rfl rfl rfl ⟨rfl, cdX11_bad⟩ ⟨Nat.le_of_ble_eq_true rfl, Nat.le_of_ble_eq_true rfl⟩) (cPreV (hP.sub [0] rfl) hK (hD.sub [0] (by decide +kernel) rfl) hN (ci := 11) (q0 := 0) rfl rfl) rfl rfl hl.1 rfl (lv_room (Nat.le_of_ble_eq_true rfl)) dX11_numberUpTo_59 ⟨Nat.le_of_ble_eq_true rfl, Nat.le_of_ble_eq_true rfl⟩) hP hD hS hA [0] [1] rfl rfl (by decide +kernel) (by decide +kernel) (fun u40 H locs hw41 => ?_)
            clear hP hD hS
            intro hP hD hS
            obtain ⟨mfa_43, mfb_44⟩ := u40
            replace hw41 : (mfa.toInt = 0 ∧ mfa_43.toInt = (2 : Int32).toInt ∧ mfb_44.toInt = mfr.toInt) ∨ (¬ mfa.toInt = 0 ∧ mfa_43.toInt = mfa.toInt ∧ mfb_44.toInt = mfb.toInt) := hw41
            replace hP : va_P D vwCl [(aI cI (md 34) 300 mtp), (moC md sd mth mst hn cn pn mq gn mln mnn ln mlt msz mcu mtk mfr mti mfa_43 mfb_44 an un lc td mtn)] H := hP
            replace hD : va_D A [(aI cI (md 34) 300 mtp), (moC md sd mth mst hn cn pn mq gn mln mnn ln mlt msz mcu mtk mfr mti mfa_43 mfb_44 an un lc td mtn)] := hD
            exact hj18 (mfa_43, mfb_44) ls _ _ ⟨(by omega), lv_sub hl [0, 1, 2, 3] rfl, hP.sub [1, 0] rfl, hD.sub [1, 0] (by decide +kernel) rfl, hS⟩
    · skip
      have f45 := i_nle c12
      refine lv_aload_n hx hb dX11_numberUpTo_15 rfl (lv_at hl 0 rfl) ?_
      refine va_get (D := D) (ci := 11) (v := .int mtk) (C := RX11) (T := TX11) (N := 64) hx hb hts inX11_numberUpTo_X11 hown hK hP 0 rfl rfl 39 (by decide) (hts (Cond.fieldLink RX11 259 "PortRoomsModel" "token" "I") (wm_t (wm_l (wm_i 2 rfl)))) (fun _ h9 => h9) rfl dX11_numberUpTo_16 ?_
      refine lv_iconst (v := 3) hx hb dX11_numberUpTo_19 (by decide) ?_
      refine lv_icmp_ne (tgt := 44) hx hb dX11_numberUpTo_20 (by decide) (fun c46 => ?_) (fun c46 => ?_)
      · skip
        have f47 := i_ne c46
        have clc48 := i_cl (x := mfr) (by omega)
        have clc49 := i_cl (x := mti) (by omega)
        have clc50 := i_cl (x := q7_3) (by omega)
        have hnv9 : mtk.toInt = 3 → q7_2.toInt = nmV mtp mfr.toNatClampNeg (mti.toNatClampNeg - mfr.toNatClampNeg) := fun c9 => by have h9 := g3 c9; rw [show q7_3.toNatClampNeg = mti.toNatClampNeg by omega] at h9; exact h9
        refine st_join 62 (fun (z : Int32 × Int32) => match z with | (jfa, jfb) => []) (fun (z : Int32 × Int32) (ls : Array Slot) (H : Heap) (locs : List Loc) => match z with | (jfa, jfb) => ((mtk.toInt = 3 ∧ a.toInt < q7_2.toInt ∧ jfa.toInt = 2 ∧ jfb.toInt = mfr.toInt) ∨ (¬ (mtk.toInt = 3 ∧ a.toInt < q7_2.toInt) ∧ jfa.toInt = 0)) ∧ lv_has ls 4 [(0, .ref (md 64)), (1, .int a), (2, .int q7_2), (3, .int q7_3)] ∧ va_P D vwCl [(moC md sd mth mst hn cn pn mq gn mln mnn ln mlt msz mcu mtk mfr mti jfa jfb an un lc td mtn), (aI cI (md 34) 300 mtp)] H ∧ va_D A [(moC md sd mth mst hn cn pn mq gn mln mnn ln mlt msz mcu mtk mfr mti jfa jfb an un lc td mtn), (aI cI (md 34) 300 mtp)] ∧ va_S A s.heap H locs) ?_ ?_
        · rintro ⟨jfa, jfb⟩ ls H locs ⟨g51, hl, hP, hD, hS⟩
          replace hl : lv_has ls 4 [(0, .ref (md 64)), (1, .int a), (2, .int q7_2), (3, .int q7_3)] := hl
          replace hP : va_P D vwCl [(moC md sd mth mst hn cn pn mq gn mln mnn ln mlt msz mcu mtk mfr mti jfa jfb an un lc td mtn), (aI cI (md 34) 300 mtp)] H := hP
          replace hD : va_D A [(moC md sd mth mst hn cn pn mq gn mln mnn ln mlt msz mcu mtk mfr mti jfa jfb an un lc td mtn), (aI cI (md 34) 300 mtp)] := hD
          show W _ _ _ _ _ _ _ _ _ _ _ _ _ _ _ (F0 m 62 ls [])
          refine lv_aload_n hx hb dX11_numberUpTo_62 rfl (lv_at hl 0 rfl) ?_
          refine st_join 76 (fun (sk53 : Int32) => [.int sk53, .ref (md 64)]) (fun (sk53 : Int32) (ls : Array Slot) (H : Heap) (locs : List Loc) => ((sk53.toInt = 1 ∧ mtk.toInt = 3) ∨ (sk53.toInt = 0 ∧ ¬ mtk.toInt = 3)) ∧ lv_has ls 4 [(0, .ref (md 64)), (1, .int a), (2, .int q7_2), (3, .int q7_3)] ∧ va_P D vwCl [(moC md sd mth mst hn cn pn mq gn mln mnn ln mlt msz mcu mtk mfr mti jfa jfb an un lc td mtn), (aI cI (md 34) 300 mtp)] H ∧ va_D A [(moC md sd mth mst hn cn pn mq gn mln mnn ln mlt msz mcu mtk mfr mti jfa jfb an un lc td mtn), (aI cI (md 34) 300 mtp)] ∧ va_S A s.heap H locs) ?_ ?_
          · rintro sk53 ls H locs ⟨g54, hl, hP, hD, hS⟩
            replace hl : lv_has ls 4 [(0, .ref (md 64)), (1, .int a), (2, .int q7_2), (3, .int q7_3)] := hl
            replace hP : va_P D vwCl [(moC md sd mth mst hn cn pn mq gn mln mnn ln mlt msz mcu mtk mfr mti jfa jfb an un lc td mtn), (aI cI (md 34) 300 mtp)] H := hP
            replace hD : va_D A [(moC md sd mth mst hn cn pn mq gn mln mnn ln mlt msz mcu mtk mfr mti jfa jfb an un lc td mtn), (aI cI (md 34) 300 mtp)] := hD
            show W _ _ _ _ _ _ _ _ _ _ _ _ _ _ _ (F0 m 76 ls [.int sk53, .ref (md 64)])
            refine st_v (wr := []) (va_runV (C := RX11) (As := [.int sk53]) (rest := []) ⟨hx, hb, hml, hown, hts⟩ (ct_X11_need l D cI cY cJ cQ _ md sd mth mst hn cn pn mq gn mln mnn ln mlt msz mcu mtk mfr mti jfa jfb an un lc td mtn mtp sk53 h1 h2 h3 h4 h5 h6 h7 h8) (cwV 1 hts gX11_numberUpTo_X11_need rfl rfl rfl ⟨rfl, cdX11_need⟩ ⟨Nat.le_of_ble_eq_true rfl, Nat.le_of_ble_eq_true rfl⟩) (cPreV (hP.sub [0, 1] rfl) hK (hD.sub [0, 1] (by decide +kernel) rfl) hN (ci := 11) (q0 := 0) rfl rfl) rfl rfl hl.1 rfl (lv_room (Nat.le_of_ble_eq_true rfl)) dX11_numberUpTo_76 ⟨Nat.le_of_ble_eq_true rfl, Nat.le_of_ble_eq_true rfl⟩) hP hD hS hA [0, 1] [] rfl rfl (by decide +kernel) (by decide +kernel) (fun u56 H locs hw57 => ?_)
            clear hP hD hS
            intro hP hD hS
            obtain ⟨mcu_59, mtk_60, mfr_61, mti_62, mfa_63, mfb_64⟩ := u56
            replace hw57 : 0 ≤ mfr_61.toInt ∧ mfr_61.toInt ≤ mcu_59.toInt ∧ mcu_59.toInt ≤ msz.toInt ∧ mti_62.toInt = mcu_59.toInt ∧ ((¬ jfa.toInt = 0 ∧ mfa_63.toInt = jfa.toInt ∧ mfb_64.toInt = jfb.toInt ∧ mfr_61.toInt = mfr.toInt ∧ mcu_59.toInt = mcu.toInt ∧ mtk_60.toInt = mtk.toInt) ∨ (jfa.toInt = 0 ∧ ¬ sk53.toInt = 0 ∧ mfa_63.toInt = 0 ∧ mfr_61.toInt = (tS mtp msz.toNatClampNeg mcu.toNatClampNeg : Int) ∧ mcu_59.toInt = (tE mtp msz.toNatClampNeg mcu.toNatClampNeg : Int) ∧ mti_62.toInt = mcu_59.toInt ∧ mtk_60.toInt = mK mtp msz.toNatClampNeg mcu.toNatClampNeg) ∨ (jfa.toInt = 0 ∧ sk53.toInt = 0 ∧ mfa_63.toInt = 1 ∧ mfb_64.toInt = mfr.toInt ∧ mfr_61.toInt = mfr.toInt ∧ mcu_59.toInt = mcu.toInt ∧ mtk_60.toInt = mtk.toInt)) := hw57
            replace hP : va_P D vwCl [(moC md sd mth mst hn cn pn mq gn mln mnn ln mlt msz mcu_59 mtk_60 mfr_61 mti_62 mfa_63 mfb_64 an un lc td mtn), (aI cI (md 34) 300 mtp)] H := hP
            replace hD : va_D A [(moC md sd mth mst hn cn pn mq gn mln mnn ln mlt msz mcu_59 mtk_60 mfr_61 mti_62 mfa_63 mfb_64 an un lc td mtn), (aI cI (md 34) 300 mtp)] := hD
            refine lv_iload_n hx hb dX11_numberUpTo_79 rfl (lv_at hl 2 rfl) ?_
            have hnv8 : mtk.toInt = 3 → q7_2.toInt = nmV mtp mfr.toNatClampNeg (mti.toNatClampNeg - mfr.toNatClampNeg) := hnv9
            have hP9 := hP
            have hD9 := hD
            exact W.iret (v := q7_2) hx hb hr (fun t ht hW => ⟨⟨q7_2, (mcu_59, mtk_60, mfr_61, mti_62, mfa_63, mfb_64), rfl, (by show 0 ≤ mfr_61.toInt ∧ mfr_61.toInt ≤ mcu_59.toInt ∧ mcu_59.toInt ≤ msz.toInt ∧ mti_62.toInt = mcu_59.toInt ∧ ((mtk.toInt = 3 ∧ nmV mtp mfr.toNatClampNeg (mti.toNatClampNeg - mfr.toNatClampNeg) ≤ a.toInt ∧ q7_2.toInt = nmV mtp mfr.toNatClampNeg (mti.toNatClampNeg - mfr.toNatClampNeg) ∧ mfa_63.toInt = 0 ∧ mfr_61.toInt = (tS mtp msz.toNatClampNeg mcu.toNatClampNeg : Int) ∧ mcu_59.toInt = (tE mtp msz.toNatClampNeg mcu.toNatClampNeg : Int) ∧ mti_62.toInt = mcu_59.toInt ∧ mtk_60.toInt = mK mtp msz.toNatClampNeg mcu.toNatClampNeg) ∨ (mtk.toInt = 3 ∧ a.toInt < nmV mtp mfr.toNatClampNeg (mti.toNatClampNeg - mfr.toNatClampNeg) ∧ mfa_63.toInt = 2 ∧ mfb_64.toInt = mfr.toInt) ∨ (¬ mtk.toInt = 3 ∧ mfa_63.toInt = 1 ∧ mfb_64.toInt = mfr.toInt)); omega), by rw [ht]; exact hP9, va_K.moved hW.alike hK, hD9⟩, hS.F ht⟩) hS.2.2 dX11_numberUpTo_80
          · intro hj55
            refine lv_aload_n hx hb dX11_numberUpTo_63 rfl (lv_at hl 0 rfl) ?_
            refine va_get (D := D) (ci := 11) (v := .int mtk) (C := RX11) (T := TX11) (N := 64) hx hb hts inX11_numberUpTo_X11 hown hK hP 0 rfl rfl 39 (by decide) (hts (Cond.fieldLink RX11 259 "PortRoomsModel" "token" "I") (wm_t (wm_l (wm_i 2 rfl)))) (fun _ h9 => h9) rfl dX11_numberUpTo_64 ?_
            refine lv_iconst (v := 3) hx hb dX11_numberUpTo_67 (by decide) ?_
            refine lv_icmp_ne (tgt := 75) hx hb dX11_numberUpTo_68 (by decide) (fun c65 => ?_) (fun c65 => ?_)
            · skip
              have f66 := i_ne c65
              refine lv_iconst (v := 0) hx hb dX11_numberUpTo_75 (by decide) ?_
              exact hj55 (0 : Int32) ls _ _ ⟨(by omega), lv_sub hl [0, 1, 2, 3] rfl, hP.sub [0, 1] rfl, hD.sub [0, 1] (by decide +kernel) rfl, hS⟩
            · skip
              have f67 := i_eq c65
              refine lv_iconst (v := 1) hx hb dX11_numberUpTo_71 (by decide) ?_
              refine lv_goto (tgt := 76) hx hb dX11_numberUpTo_72 (by decide) ?_
              exact hj55 (1 : Int32) ls _ _ ⟨(by omega), lv_sub hl [0, 1, 2, 3] rfl, hP.sub [0, 1] rfl, hD.sub [0, 1] (by decide +kernel) rfl, hS⟩
        · intro hj52
          refine lv_aload_n hx hb dX11_numberUpTo_44 rfl (lv_at hl 0 rfl) ?_
          refine va_get (D := D) (ci := 11) (v := .int mtk) (C := RX11) (T := TX11) (N := 64) hx hb hts inX11_numberUpTo_X11 hown hK hP 0 rfl rfl 39 (by decide) (hts (Cond.fieldLink RX11 259 "PortRoomsModel" "token" "I") (wm_t (wm_l (wm_i 2 rfl)))) (fun _ h9 => h9) rfl dX11_numberUpTo_45 ?_
          refine lv_iconst (v := 3) hx hb dX11_numberUpTo_48 (by decide) ?_
          refine lv_icmp_ne (tgt := 62) hx hb dX11_numberUpTo_49 (by decide) (fun c68 => ?_) (fun c68 => ?_)
          · skip
            have f69 := i_ne c68
            exact hj52 (mfa, mfb) ls _ _ ⟨(by omega), lv_sub hl [0, 1, 2, 3] rfl, hP.sub [0, 1] rfl, hD.sub [0, 1] (by decide +kernel) rfl, hS⟩
          · skip
            have f70 := i_eq c68
            refine lv_iload_n hx hb dX11_numberUpTo_52 rfl (lv_at hl 2 rfl) ?_
            refine lv_iload_n hx hb dX11_numberUpTo_53 rfl (lv_at hl 1 rfl) ?_
            refine lv_icmp_le (tgt := 62) hx hb dX11_numberUpTo_54 (by decide) (fun c71 => ?_) (fun c71 => ?_)
            · skip
              have f72 := i_le c71
              exact hj52 (mfa, mfb) ls _ _ ⟨(by omega), lv_sub hl [0, 1, 2, 3] rfl, hP.sub [0, 1] rfl, hD.sub [0, 1] (by decide +kernel) rfl, hS⟩
            · skip
              have f73 := i_nle c71
              refine lv_aload_n hx hb dX11_numberUpTo_57 rfl (lv_at hl 0 rfl) ?_
              refine lv_iconst (v := 2) hx hb dX11_numberUpTo_58 (by decide) ?_
              refine st_v (wr := [(aI cI (md 34) 300 mtp)]) (va_runV (C := RX11) (As := [.int 2]) (rest := []) ⟨hx, hb, hml, hown, hts⟩ (ct_X11_bad l D cI cY cJ cQ _ md sd mth mst hn cn pn mq gn mln mnn ln mlt msz mcu mtk mfr mti mfa mfb an un lc td mtn (2 : Int32)) (cwV 1 hts gX11_numberUpTo_X11_bad rfl rfl rfl ⟨rfl, cdX11_bad⟩ ⟨Nat.le_of_ble_eq_true rfl, Nat.le_of_ble_eq_true rfl⟩) (cPreV (hP.sub [0] rfl) hK (hD.sub [0] (by decide +kernel) rfl) hN (ci := 11) (q0 := 0) rfl rfl) rfl rfl hl.1 rfl (lv_room (Nat.le_of_ble_eq_true rfl)) dX11_numberUpTo_59 ⟨Nat.le_of_ble_eq_true rfl, Nat.le_of_ble_eq_true rfl⟩) hP hD hS hA [0] [1] rfl rfl (by decide +kernel) (by decide +kernel) (fun u74 H locs hw75 => ?_)
              clear hP hD hS
              intro hP hD hS
              obtain ⟨mfa_77, mfb_78⟩ := u74
              replace hw75 : (mfa.toInt = 0 ∧ mfa_77.toInt = (2 : Int32).toInt ∧ mfb_78.toInt = mfr.toInt) ∨ (¬ mfa.toInt = 0 ∧ mfa_77.toInt = mfa.toInt ∧ mfb_78.toInt = mfb.toInt) := hw75
              replace hP : va_P D vwCl [(aI cI (md 34) 300 mtp), (moC md sd mth mst hn cn pn mq gn mln mnn ln mlt msz mcu mtk mfr mti mfa_77 mfb_78 an un lc td mtn)] H := hP
              replace hD : va_D A [(aI cI (md 34) 300 mtp), (moC md sd mth mst hn cn pn mq gn mln mnn ln mlt msz mcu mtk mfr mti mfa_77 mfb_78 an un lc td mtn)] := hD
              exact hj52 (mfa_77, mfb_78) ls _ _ ⟨(by omega), lv_sub hl [0, 1, 2, 3] rfl, hP.sub [1, 0] rfl, hD.sub [1, 0] (by decide +kernel) rfl, hS⟩
      · skip
        have f79 := i_eq c46
        refine lv_bipush (v := 10) hx hb dX11_numberUpTo_23 (by decide) ?_
        refine lv_iload_n hx hb dX11_numberUpTo_25 rfl (lv_at hl 2 rfl) ?_
        refine lv_imul hx hb dX11_numberUpTo_26 ?_
        refine lv_topi (fun v80 ev80 => ?_)
        try have tv80 : v80.toInt = 10 * q7_2.toInt := by rw [ev80]; exact (i_mul (x := (10 : Int32)) (y := q7_2) (by rw [k10]; omega) (by rw [k10]; omega)).trans (by rw [k10])
        refine lv_aload_n hx hb dX11_numberUpTo_27 rfl (lv_at hl 0 rfl) ?_
        refine va_get (D := D) (ci := 11) (v := .ref (md 34)) (C := RX11) (T := TX11) (N := 64) hx hb hts inX11_numberUpTo_X11 hown hK hP 0 rfl rfl 34 (by decide) (hts (Cond.fieldLink RX11 87 "PortRoomsModel" "tape" "[I") (wm_t (wm_l (wm_i 3 rfl)))) (fun _ h9 => h9) rfl dX11_numberUpTo_28 ?_
        refine lv_iload_n hx hb dX11_numberUpTo_31 rfl (lv_at hl 3 rfl) ?_
        refine va_iald hx hb hK hP 1 0 rfl rfl (i_in (by omega) (by omega)) dX11_numberUpTo_32 ?_
        refine lv_topi (fun v81 ev81 => ?_)
        have tlv81 : v81.toInt = (mtp q7_3.toNatClampNeg).toInt := by rw [ev81]
        have hobv81 := h8 q7_3.toNatClampNeg (by have := i_cl (x := q7_3) (by omega); omega)
        refine lv_iadd hx hb dX11_numberUpTo_33 ?_
        refine lv_topi (fun v82 ev82 => ?_)
        try have tv82 : v82.toInt = v80.toInt + v81.toInt := by rw [ev82]; exact (i_add (x := v80) (y := v81) (by omega) (by omega))
        refine lv_bipush (v := 48) hx hb dX11_numberUpTo_34 (by decide) ?_
        refine lv_isub hx hb dX11_numberUpTo_36 ?_
        refine lv_topi (fun v83 ev83 => ?_)
        try have tv83 : v83.toInt = v82.toInt - 48 := by rw [ev83]; exact (i_sub (x := v82) (y := (48 : Int32)) (by rw [k48]; omega) (by rw [k48]; omega)).trans (by rw [k48])
        refine lv_istore_n (lv' := [(2, .int v83), (0, .ref (md 64)), (1, .int a), (3, .int q7_3)]) hx hb dX11_numberUpTo_37 rfl hl (by decide) rfl (fun ls hl => ?_)
        obtain ⟨v84, ev84⟩ : ∃ y : Int32, y = q7_3 + 1 := ⟨_, rfl⟩
        try have tv84 : v84.toInt = q7_3.toInt + 1 := by rw [ev84]; exact (i_add (x := q7_3) (y := (1 : Int32)) (by rw [k1]; omega) (by rw [k1]; omega)).trans (by rw [k1])
        refine lv_iinc (v := v84) (lv' := [(3, .int v84), (2, .int v83), (0, .ref (md 64)), (1, .int a)]) hx hb dX11_numberUpTo_38 hl (k := 3) rfl (by rw [ev84]; rfl) (by decide) rfl (fun ls hl => ?_)
        refine lv_goto (tgt := 7) hx hb dX11_numberUpTo_41 (by decide) ?_
        have clc85 := i_cl (x := mfr) (by omega)
        have clc86 := i_cl (x := q7_3) (by omega)
        have clc87 := i_cl (x := v84) (by omega)
        have hob9 := h8 q7_3.toNatClampNeg (by omega)
        exact ih9 (v83, v84) ls H locs ⟨(by omega), (by omega), (by intro hd9; rw [show v84.toNatClampNeg - mfr.toNatClampNeg = (q7_3.toNatClampNeg - mfr.toNatClampNeg) + 1 by omega, nmV_s, show mfr.toNatClampNeg + (q7_3.toNatClampNeg - mfr.toNatClampNeg) = q7_3.toNatClampNeg by omega]; have h88 := g3 hd9; omega), (by omega), (by omega), (by omega), (by omega), (by omega), lv_sub hl [2, 3, 1, 0] rfl, hP.sub [0, 1] rfl, hD.sub [0, 1] (by decide +kernel) rfl, hS⟩ (by show mti.toInt - v84.toInt < _; omega)
